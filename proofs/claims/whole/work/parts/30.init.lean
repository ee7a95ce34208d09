/-! the constructors -/
def lk : List Nat → Nat → Nat
  | [], _ => 0
  | x :: _, 0 => x
  | _ :: xs, n + 1 => lk xs n
def Z0 : CS := (fun _ => 0, fun _ => 0, fun _ => 0, fun _ => 0, fun _ => 0, 0, 0, 0)
/-- the sum of a block of the tree as it is planted; what its parent tells of it -/
def s9 (i : Nat) : Nat := if i < 16 then 7 else (10240 * (i - 16) + 2637) % 251
theorem s9_lt (i : Nat) : s9 i < 251 := by
  unfold s9; split <;> omega
def hN (n : Nat) : Nat → Nat := fun j => if 64 ≤ j ∧ j < 64 + n then 256 * (j - 64) + s9 (j - 64) else if 448 ≤ j ∧ j < 448 + n then 256 * (j - 448) + s9 (j - 448) else 0
def uN (n : Nat) : Nat → Nat := fun j => if j < n then 1 else 0
theorem uN_s {n j : Nat} (hn : n < 96) : ad (uN n) n j = uN (n + 1) j := by
  rw [show ad (uN n) n = up (uN n) n 1 from if_pos hn]
  show (if j = n then 1 else if j < n then 1 else 0) = if j < n + 1 then 1 else 0
  by_cases h : j = n
  · rw [if_pos h, if_pos (by omega)]
  · rw [if_neg h]
    by_cases h2 : j < n
    · rw [if_pos h2, if_pos (by omega)]
    · rw [if_neg h2, if_neg (by omega)]
theorem hN_s {n : Nat} (hn : n < 20) {P p : Nat} (hp : 4 * P + p = 64 + n) {j : Nat} : pn (pn (hN n) 0 P p (256 * n + s9 n)) 1 P p (256 * n + s9 n) j = hN (n + 1) j := by
  show (if j = (1 * 96 + P) * 4 + p then 256 * n + s9 n else if j = (0 * 96 + P) * 4 + p then 256 * n + s9 n else hN n j) = _
  unfold hN
  by_cases h1 : j = (1 * 96 + P) * 4 + p
  · rw [if_pos h1, if_neg (by omega), if_pos (by omega), show j - 448 = n by omega]
  · rw [if_neg h1]
    by_cases h2 : j = (0 * 96 + P) * 4 + p
    · rw [if_pos h2, if_pos (by omega), show j - 64 = n by omega]
    · rw [if_neg h2]
      by_cases h3 : 64 ≤ j ∧ j < 64 + n
      · rw [if_pos h3, if_pos (by omega)]
      · rw [if_neg h3, if_neg (show ¬ (64 ≤ j ∧ j < 64 + (n + 1)) by omega)]
        by_cases h4 : 448 ≤ j ∧ j < 448 + n
        · rw [if_pos h4, if_pos (by omega)]
        · rw [if_neg h4, if_neg (by omega)]
theorem hN_BN (n : Nat) (hn : n ≤ 20) : BN (hN n) := fun j => by
  have h1 := s9_lt (j - 64)
  have h2 := s9_lt (j - 448)
  unfold hN
  (repeat' split) <;> omega
theorem hN_sm : ∀ n : Nat, n < 20 → sm (hN n) ((0 * 96 + n) * 4) = s9 n := by decide +kernel
noncomputable def C0 : CS := (hN 20, uN 21, alt (fun _ => 0) 0 0, alt (fun _ => 0) 0 20, alt (fun _ => 0) 0 (sm (hN 20) ((0 * 96 + 20) * 4)), 1, 0, 0)
theorem C0_IC : IC C0 := by
  refine ⟨hN_BN 20 (Nat.le_refl 20), fun j => ?_, Nat.le_refl 1, by decide, by decide, fun i hi => ?_, fun i hi => ?_⟩
  · show (if j < 21 then 1 else 0) ≤ 1
    split <;> omega
  · have h : i < 1 := hi
    rw [show i = 0 by omega]
    show 20 < 96
    decide
  · have h : i < 1 := hi
    rw [show i = 0 by omega]
    exact sm_lt _ _
/-- the reference's row as it is laid -/
def rS (n u : Nat) : Nat → Nat := fun j => if j < 768 then hN n j else if 768 ≤ j ∧ j < 768 + u then 1 else 0
theorem rS_u {u j : Nat} : up (rS 0 u) (768 + u) 1 j = rS 0 (u + 1) j := by
  show (if j = 768 + u then 1 else rS 0 u j) = _
  unfold rS
  by_cases h : j = 768 + u
  · rw [if_pos h, if_neg (by omega), if_pos (by omega)]
  · rw [if_neg h]
    by_cases h2 : j < 768
    · rw [if_pos h2, if_pos h2]
    · rw [if_neg h2, if_neg h2]
      by_cases h3 : 768 ≤ j ∧ j < 768 + u
      · rw [if_pos h3, if_pos (by omega)]
      · rw [if_neg h3, if_neg (by omega)]
theorem rS_lo {n u j : Nat} (h : j < 768) : rS n u j = hN n j := if_pos h
theorem rS_s {n P p : Nat} (hn : n < 20) (hp : 4 * P + p = 64 + n) {j : Nat} : up (up (rS n 21) (0 + 4 * (96 * 0 + P) + p) (256 * n + s9 n)) (0 + 4 * (96 * 1 + P) + p) (256 * n + s9 n) j = rS (n + 1) 21 j := by
  have e := hN_s hn hp (j := j)
  have e2 : pn (pn (hN n) 0 P p (256 * n + s9 n)) 1 P p (256 * n + s9 n) j = (if j = (1 * 96 + P) * 4 + p then 256 * n + s9 n else if j = (0 * 96 + P) * 4 + p then 256 * n + s9 n else hN n j) := rfl
  rw [e2] at e
  show (if j = 0 + 4 * (96 * 1 + P) + p then 256 * n + s9 n else if j = 0 + 4 * (96 * 0 + P) + p then 256 * n + s9 n else rS n 21 j) = _
  by_cases h : j < 768
  · rw [rS_lo h, rS_lo h, ← e, show 0 + 4 * (96 * 1 + P) + p = (1 * 96 + P) * 4 + p by omega, show 0 + 4 * (96 * 0 + P) + p = (0 * 96 + P) * 4 + p by omega]
  · rw [if_neg (by omega), if_neg (by omega)]
    unfold rS
    rw [if_neg h, if_neg h]
theorem rS_sm {n u i : Nat} (hi : i < 96) : (4 * rS n u (0 + 4 * (96 * 0 + i) + 0) + 3 * rS n u (0 + 4 * (96 * 0 + i) + 1) + 2 * rS n u (0 + 4 * (96 * 0 + i) + 2) + rS n u (0 + 4 * (96 * 0 + i) + 3) + 7) % 251 = sm (hN n) ((0 * 96 + i) * 4) := by
  rw [rS_lo (by omega), rS_lo (by omega), rS_lo (by omega), rS_lo (by omega), show 0 + 4 * (96 * 0 + i) + 0 = (0 * 96 + i) * 4 by omega, show 0 + 4 * (96 * 0 + i) + 1 = (0 * 96 + i) * 4 + 1 by omega, show 0 + 4 * (96 * 0 + i) + 2 = (0 * 96 + i) * 4 + 2 by omega, show 0 + 4 * (96 * 0 + i) + 3 = (0 * 96 + i) * 4 + 3 by omega]
  rfl
theorem rS_BN {n u : Nat} (hn : n ≤ 20) (j : Nat) : rS n u j < 65536 := by
  have := hN_BN n hn j
  unfold rS
  (repeat' split) <;> omega
theorem rel_0 : Rel (up (up (up (up (rS 20 21) 864 1) 865 1) 869 20) 870 (sm (hN 20) ((0 * 96 + 20) * 4))) C0 := by
  refine ⟨fun j hj => ?_, fun j hj => ?_, ?_, ?_, ?_, ?_, fun i hi => ?_⟩
  · rw [up_n _ _ (by omega), up_n _ _ (by omega), up_n _ _ (by omega), up_n _ _ (by omega)]; exact if_pos hj
  · rw [up_n _ _ (by omega), up_n _ _ (by omega), up_n _ _ (by omega), up_n _ _ (by omega)]
    show (if 768 + j < 768 then _ else if 768 ≤ 768 + j ∧ 768 + j < 768 + 21 then 1 else 0) = if j < 21 then 1 else 0
    rw [if_neg (by omega)]
    by_cases h : j < 21
    · rw [if_pos h, if_pos (by omega)]
    · rw [if_neg h, if_neg (by omega)]
  · rw [up_n _ _ (by decide), up_n _ _ (by decide), up_n _ _ (by decide), up_s]; rfl
  · rw [up_n _ _ (by decide), up_n _ _ (by decide), up_s]; rfl
  · rw [up_n _ _ (by decide), up_n _ _ (by decide), up_n _ _ (by decide), up_n _ _ (by decide)]; rfl
  · rw [up_n _ _ (by decide), up_n _ _ (by decide), up_n _ _ (by decide), up_n _ _ (by decide)]; rfl
  · have h : i < 1 := hi
    rw [show i = 0 by omega]
    refine ⟨?_, ?_, ?_⟩
    · rw [up_n _ _ (by decide), up_n _ _ (by decide), up_n _ _ (by decide), up_n _ _ (by decide)]; rfl
    · rw [up_n _ _ (by decide), up_s]; rfl
    · rw [up_s]; rfl
set_option maxHeartbeats 4000000 in
set_option maxRecDepth 100000 in
theorem c_X0_init (l : Launch) (E : En) (a0 : Nat)  : CtV l yX0_init wsX0_init ({ frames := 1, cells := 1, slots := 96, locals := 12 } : Room) E [.ref a0] [ob 0 a0 [.null]] (fun uu => ∃ (a1 : Nat), uu = [ob 0 a0 [.ref a1], az E a1 96 (fun _ => 0)]) := by
  refine CtV.of cX0_init 1 RX0 rfl (by decide) rfl (Nat.le_of_ble_eq_true rfl) ?_
  intro Γ F hin0 hret
  have hin := hin0 rfl
  show G Γ E 0 0 0 [(0, .ref a0)] [] [ob 0 a0 [.null]]
  refine g_aload_n F 0 dX0_init_0 rfl rfl ?_
  refine g_objInit F dX0_init_1 (by decide +kernel) (by decide +kernel) (by decide +kernel) (by decide) (by decide) ?_
  refine g_aload_n F 0 dX0_init_4 rfl rfl ?_
  refine g_bipush (v := nI 96) F dX0_init_5 (by decide) ?_
  refine g_newaZ F dX0_init_7 (by decide +kernel) (by decide) (Nat.le_of_ble_eq_true rfl) (Nat.le_of_ble_eq_true rfl) (fun q7 => ?_)
  refine g_w (w2 := [ob 0 a0 [.null], az E q7 96 (fun _ => 0)]) (List.range 2) (by decide) rfl ?_
  refine g_widen (k := 1) (n := 96) (Nat.le_of_ble_eq_true rfl) (Nat.le_of_ble_eq_true rfl) ?_
  refine g_putF F hin 0 0 dX0_init_9 rfl rfl (by decide) (by decide +kernel) (by decide +kernel) tyX0_ok nmX0 rfl rfl (by decide +kernel) rfl rfl (Nat.le_of_ble_eq_true rfl) rfl (ty := (.array .boolean)) (w2 := [ob 0 a0 [.ref q7], az E q7 96 (fun _ => 0)]) rfl ?_
  exact hret _ _ _ dX0_init_12 ⟨q7, (by rfl)⟩
set_option maxHeartbeats 4000000 in
set_option maxRecDepth 100000 in
theorem c_X1_init (l : Launch) (E : En) (a0 : Nat)  : CtV l yX1_init wsX1_init ({ frames := 1, cells := 1, slots := 768, locals := 12 } : Room) E [.ref a0] [ob 1 a0 [.null]] (fun uu => ∃ (a1 : Nat), uu = [ob 1 a0 [.ref a1], ai E a1 768 (fun _ => 0)]) := by
  refine CtV.of cX1_init 1 RX1 rfl (by decide) rfl (Nat.le_of_ble_eq_true rfl) ?_
  intro Γ F hin0 hret
  have hin := hin0 rfl
  show G Γ E 0 0 0 [(0, .ref a0)] [] [ob 1 a0 [.null]]
  refine g_aload_n F 0 dX1_init_0 rfl rfl ?_
  refine g_objInit F dX1_init_1 (by decide +kernel) (by decide +kernel) (by decide +kernel) (by decide) (by decide) ?_
  refine g_aload_n F 0 dX1_init_4 rfl rfl ?_
  refine g_sipush (v := nI 768) F dX1_init_5 (by decide) ?_
  refine g_newaI F dX1_init_8 (by decide +kernel) (by decide) (Nat.le_of_ble_eq_true rfl) (Nat.le_of_ble_eq_true rfl) (fun q8 => ?_)
  refine g_w (w2 := [ob 1 a0 [.null], ai E q8 768 (fun _ => 0)]) (List.range 2) (by decide) rfl ?_
  refine g_widen (k := 1) (n := 768) (Nat.le_of_ble_eq_true rfl) (Nat.le_of_ble_eq_true rfl) ?_
  refine g_putF F hin 0 0 dX1_init_10 rfl rfl (by decide) (by decide +kernel) (by decide +kernel) tyX1_ok nmX1 rfl rfl (by decide +kernel) rfl rfl (Nat.le_of_ble_eq_true rfl) rfl (ty := (.array .int)) (w2 := [ob 1 a0 [.ref q8], ai E q8 768 (fun _ => 0)]) rfl ?_
  exact hret _ _ _ dX1_init_13 ⟨q8, (by rfl)⟩
set_option maxHeartbeats 4000000 in
set_option maxRecDepth 100000 in
theorem c_X3_init (l : Launch) (E : En) (a0 : Nat)  : CtV l yX3_init wsX3_init ({ frames := 1, cells := 3, slots := 24, locals := 12 } : Room) E [.ref a0] [ob 3 a0 [.null, .null, .null, .int (nI 0)]] (fun uu => ∃ (a1 : Nat), ∃ (a2 : Nat), ∃ (a3 : Nat), uu = [ob 3 a0 [.ref a1, .ref a2, .ref a3, .int (nI 0)], ai E a1 8 (fun _ => 0), ai E a2 8 (fun _ => 0), ai E a3 8 (fun _ => 0)]) := by
  refine CtV.of cX3_init 1 RX3 rfl (by decide) rfl (Nat.le_of_ble_eq_true rfl) ?_
  intro Γ F hin0 hret
  have hin := hin0 rfl
  show G Γ E 0 0 0 [(0, .ref a0)] [] [ob 3 a0 [.null, .null, .null, .int (nI 0)]]
  refine g_aload_n F 0 dX3_init_0 rfl rfl ?_
  refine g_objInit F dX3_init_1 (by decide +kernel) (by decide +kernel) (by decide +kernel) (by decide) (by decide) ?_
  refine g_aload_n F 0 dX3_init_4 rfl rfl ?_
  refine g_bipush (v := nI 8) F dX3_init_5 (by decide) ?_
  refine g_newaI F dX3_init_7 (by decide +kernel) (by decide) (Nat.le_of_ble_eq_true rfl) (Nat.le_of_ble_eq_true rfl) (fun q7 => ?_)
  refine g_w (w2 := [ob 3 a0 [.null, .null, .null, .int (nI 0)], ai E q7 8 (fun _ => 0)]) (List.range 2) (by decide) rfl ?_
  refine g_widen (k := 1) (n := 8) (Nat.le_of_ble_eq_true rfl) (Nat.le_of_ble_eq_true rfl) ?_
  refine g_putF F hin 0 0 dX3_init_9 rfl rfl (by decide) (by decide +kernel) (by decide +kernel) tyX3_ok nmX3 rfl rfl (by decide +kernel) rfl rfl (Nat.le_of_ble_eq_true rfl) rfl (ty := (.array .int)) (w2 := [ob 3 a0 [.ref q7, .null, .null, .int (nI 0)], ai E q7 8 (fun _ => 0)]) rfl ?_
  refine g_aload_n F 0 dX3_init_12 rfl rfl ?_
  refine g_bipush (v := nI 8) F dX3_init_13 (by decide) ?_
  refine g_newaI F dX3_init_15 (by decide +kernel) (by decide) (Nat.le_of_ble_eq_true rfl) (Nat.le_of_ble_eq_true rfl) (fun q15 => ?_)
  refine g_w (w2 := [ob 3 a0 [.ref q7, .null, .null, .int (nI 0)], ai E q7 8 (fun _ => 0), ai E q15 8 (fun _ => 0)]) (List.range 3) (by decide) rfl ?_
  refine g_widen (k := 2) (n := 16) (Nat.le_of_ble_eq_true rfl) (Nat.le_of_ble_eq_true rfl) ?_
  refine g_putF F hin 0 1 dX3_init_17 rfl rfl (by decide) (by decide +kernel) (by decide +kernel) tyX3_ok nmX3 rfl rfl (by decide +kernel) rfl rfl (Nat.le_of_ble_eq_true rfl) rfl (ty := (.array .int)) (w2 := [ob 3 a0 [.ref q7, .ref q15, .null, .int (nI 0)], ai E q7 8 (fun _ => 0), ai E q15 8 (fun _ => 0)]) rfl ?_
  refine g_aload_n F 0 dX3_init_20 rfl rfl ?_
  refine g_bipush (v := nI 8) F dX3_init_21 (by decide) ?_
  refine g_newaI F dX3_init_23 (by decide +kernel) (by decide) (Nat.le_of_ble_eq_true rfl) (Nat.le_of_ble_eq_true rfl) (fun q23 => ?_)
  refine g_w (w2 := [ob 3 a0 [.ref q7, .ref q15, .null, .int (nI 0)], ai E q7 8 (fun _ => 0), ai E q15 8 (fun _ => 0), ai E q23 8 (fun _ => 0)]) (List.range 4) (by decide) rfl ?_
  refine g_widen (k := 3) (n := 24) (Nat.le_of_ble_eq_true rfl) (Nat.le_of_ble_eq_true rfl) ?_
  refine g_putF F hin 0 2 dX3_init_25 rfl rfl (by decide) (by decide +kernel) (by decide +kernel) tyX3_ok nmX3 rfl rfl (by decide +kernel) rfl rfl (Nat.le_of_ble_eq_true rfl) rfl (ty := (.array .int)) (w2 := [ob 3 a0 [.ref q7, .ref q15, .ref q23, .int (nI 0)], ai E q7 8 (fun _ => 0), ai E q15 8 (fun _ => 0), ai E q23 8 (fun _ => 0)]) rfl ?_
  exact hret _ _ _ dX3_init_28 ⟨q7, q15, q23, (by rfl)⟩
set_option maxHeartbeats 4000000 in
set_option maxRecDepth 100000 in
theorem c_X4_init (l : Launch) (E : En) (a0 : Nat)  : CtV l yX4_init wsX4_init ({ frames := 1, cells := 1, slots := 60, locals := 12 } : Room) E [.ref a0] [ob 4 a0 [.null, .int (nI 0), .int (nI 0), .int (nI 0), .int (nI 0), .int (nI 0), .int (nI 0)]] (fun uu => ∃ (a1 : Nat), uu = [ob 4 a0 [.ref a1, .int (nI 0), .int (nI 0), .int (nI 0), .int (nI 0), .int (nI 0), .int (nI 0)], ac E a1 60 (fun _ => 0)]) := by
  refine CtV.of cX4_init 1 RX4 rfl (by decide) rfl (Nat.le_of_ble_eq_true rfl) ?_
  intro Γ F hin0 hret
  have hin := hin0 rfl
  show G Γ E 0 0 0 [(0, .ref a0)] [] [ob 4 a0 [.null, .int (nI 0), .int (nI 0), .int (nI 0), .int (nI 0), .int (nI 0), .int (nI 0)]]
  refine g_aload_n F 0 dX4_init_0 rfl rfl ?_
  refine g_objInit F dX4_init_1 (by decide +kernel) (by decide +kernel) (by decide +kernel) (by decide) (by decide) ?_
  refine g_aload_n F 0 dX4_init_4 rfl rfl ?_
  refine g_bipush (v := nI 60) F dX4_init_5 (by decide) ?_
  refine g_newaC F dX4_init_7 (by decide +kernel) (by decide) (Nat.le_of_ble_eq_true rfl) (Nat.le_of_ble_eq_true rfl) (fun q7 => ?_)
  refine g_w (w2 := [ob 4 a0 [.null, .int (nI 0), .int (nI 0), .int (nI 0), .int (nI 0), .int (nI 0), .int (nI 0)], ac E q7 60 (fun _ => 0)]) (List.range 2) (by decide) rfl ?_
  refine g_widen (k := 1) (n := 60) (Nat.le_of_ble_eq_true rfl) (Nat.le_of_ble_eq_true rfl) ?_
  refine g_putF F hin 0 0 dX4_init_9 rfl rfl (by decide) (by decide +kernel) (by decide +kernel) tyX4_ok nmX4 rfl rfl (by decide +kernel) rfl rfl (Nat.le_of_ble_eq_true rfl) rfl (ty := (.array .char)) (w2 := [ob 4 a0 [.ref q7, .int (nI 0), .int (nI 0), .int (nI 0), .int (nI 0), .int (nI 0), .int (nI 0)], ac E q7 60 (fun _ => 0)]) rfl ?_
  exact hret _ _ _ dX4_init_12 ⟨q7, (by rfl)⟩
set_option maxHeartbeats 4000000 in
set_option maxRecDepth 100000 in
theorem c_X6_init (l : Launch) (E : En) (a0 : Nat)  : CtV l yX6_init wsX6_init ({ frames := 1, cells := 0, slots := 0, locals := 12 } : Room) E [.ref a0] [ob 6 a0 [.int (nI 0), .int (nI 0), .int (nI 0), .int (nI 0)]] (fun uu => uu = [ob 6 a0 [.int (nI 0), .int (nI 0), .int (nI 0), .int (nI 0)]]) := by
  refine CtV.of cX6_init 1 RX6 rfl (by decide) rfl (Nat.le_of_ble_eq_true rfl) ?_
  intro Γ F hin0 hret
  have hin := hin0 rfl
  show G Γ E 0 0 0 [(0, .ref a0)] [] [ob 6 a0 [.int (nI 0), .int (nI 0), .int (nI 0), .int (nI 0)]]
  refine g_aload_n F 0 dX6_init_0 rfl rfl ?_
  refine g_objInit F dX6_init_1 (by decide +kernel) (by decide +kernel) (by decide +kernel) (by decide) (by decide) ?_
  exact hret _ _ _ dX6_init_4 rfl
set_option maxHeartbeats 4000000 in
set_option maxRecDepth 100000 in
theorem c_X7_init (l : Launch) (E : En) (a0 : Nat)  : CtV l yX7_init wsX7_init ({ frames := 1, cells := 4, slots := 21, locals := 12 } : Room) E [.ref a0] [ob 7 a0 [.null, .null, .null, .null, .int (nI 0)]] (fun uu => ∃ (a1 : Nat), ∃ (a2 : Nat), ∃ (a3 : Nat), ∃ (a4 : Nat), uu = [ob 7 a0 [.ref a1, .ref a2, .ref a3, .ref a4, .int (nI 0)], ai E a1 3 (fun _ => 0), ai E a2 3 (fun _ => 0), ai E a3 3 (fun _ => 0), ai E a4 12 (fun _ => 0)]) := by
  refine CtV.of cX7_init 1 RX7 rfl (by decide) rfl (Nat.le_of_ble_eq_true rfl) ?_
  intro Γ F hin0 hret
  have hin := hin0 rfl
  show G Γ E 0 0 0 [(0, .ref a0)] [] [ob 7 a0 [.null, .null, .null, .null, .int (nI 0)]]
  refine g_aload_n F 0 dX7_init_0 rfl rfl ?_
  refine g_objInit F dX7_init_1 (by decide +kernel) (by decide +kernel) (by decide +kernel) (by decide) (by decide) ?_
  refine g_aload_n F 0 dX7_init_4 rfl rfl ?_
  refine g_iconst (v := nI 3) F dX7_init_5 (by decide) ?_
  refine g_newaI F dX7_init_6 (by decide +kernel) (by decide) (Nat.le_of_ble_eq_true rfl) (Nat.le_of_ble_eq_true rfl) (fun q6 => ?_)
  refine g_w (w2 := [ob 7 a0 [.null, .null, .null, .null, .int (nI 0)], ai E q6 3 (fun _ => 0)]) (List.range 2) (by decide) rfl ?_
  refine g_widen (k := 1) (n := 3) (Nat.le_of_ble_eq_true rfl) (Nat.le_of_ble_eq_true rfl) ?_
  refine g_putF F hin 0 0 dX7_init_8 rfl rfl (by decide) (by decide +kernel) (by decide +kernel) tyX7_ok nmX7 rfl rfl (by decide +kernel) rfl rfl (Nat.le_of_ble_eq_true rfl) rfl (ty := (.array .int)) (w2 := [ob 7 a0 [.ref q6, .null, .null, .null, .int (nI 0)], ai E q6 3 (fun _ => 0)]) rfl ?_
  refine g_aload_n F 0 dX7_init_11 rfl rfl ?_
  refine g_iconst (v := nI 3) F dX7_init_12 (by decide) ?_
  refine g_newaI F dX7_init_13 (by decide +kernel) (by decide) (Nat.le_of_ble_eq_true rfl) (Nat.le_of_ble_eq_true rfl) (fun q13 => ?_)
  refine g_w (w2 := [ob 7 a0 [.ref q6, .null, .null, .null, .int (nI 0)], ai E q6 3 (fun _ => 0), ai E q13 3 (fun _ => 0)]) (List.range 3) (by decide) rfl ?_
  refine g_widen (k := 2) (n := 6) (Nat.le_of_ble_eq_true rfl) (Nat.le_of_ble_eq_true rfl) ?_
  refine g_putF F hin 0 1 dX7_init_15 rfl rfl (by decide) (by decide +kernel) (by decide +kernel) tyX7_ok nmX7 rfl rfl (by decide +kernel) rfl rfl (Nat.le_of_ble_eq_true rfl) rfl (ty := (.array .int)) (w2 := [ob 7 a0 [.ref q6, .ref q13, .null, .null, .int (nI 0)], ai E q6 3 (fun _ => 0), ai E q13 3 (fun _ => 0)]) rfl ?_
  refine g_aload_n F 0 dX7_init_18 rfl rfl ?_
  refine g_iconst (v := nI 3) F dX7_init_19 (by decide) ?_
  refine g_newaI F dX7_init_20 (by decide +kernel) (by decide) (Nat.le_of_ble_eq_true rfl) (Nat.le_of_ble_eq_true rfl) (fun q20 => ?_)
  refine g_w (w2 := [ob 7 a0 [.ref q6, .ref q13, .null, .null, .int (nI 0)], ai E q6 3 (fun _ => 0), ai E q13 3 (fun _ => 0), ai E q20 3 (fun _ => 0)]) (List.range 4) (by decide) rfl ?_
  refine g_widen (k := 3) (n := 9) (Nat.le_of_ble_eq_true rfl) (Nat.le_of_ble_eq_true rfl) ?_
  refine g_putF F hin 0 2 dX7_init_22 rfl rfl (by decide) (by decide +kernel) (by decide +kernel) tyX7_ok nmX7 rfl rfl (by decide +kernel) rfl rfl (Nat.le_of_ble_eq_true rfl) rfl (ty := (.array .int)) (w2 := [ob 7 a0 [.ref q6, .ref q13, .ref q20, .null, .int (nI 0)], ai E q6 3 (fun _ => 0), ai E q13 3 (fun _ => 0), ai E q20 3 (fun _ => 0)]) rfl ?_
  refine g_aload_n F 0 dX7_init_25 rfl rfl ?_
  refine g_bipush (v := nI 12) F dX7_init_26 (by decide) ?_
  refine g_newaI F dX7_init_28 (by decide +kernel) (by decide) (Nat.le_of_ble_eq_true rfl) (Nat.le_of_ble_eq_true rfl) (fun q28 => ?_)
  refine g_w (w2 := [ob 7 a0 [.ref q6, .ref q13, .ref q20, .null, .int (nI 0)], ai E q6 3 (fun _ => 0), ai E q13 3 (fun _ => 0), ai E q20 3 (fun _ => 0), ai E q28 12 (fun _ => 0)]) (List.range 5) (by decide) rfl ?_
  refine g_widen (k := 4) (n := 21) (Nat.le_of_ble_eq_true rfl) (Nat.le_of_ble_eq_true rfl) ?_
  refine g_putF F hin 0 3 dX7_init_30 rfl rfl (by decide) (by decide +kernel) (by decide +kernel) tyX7_ok nmX7 rfl rfl (by decide +kernel) rfl rfl (Nat.le_of_ble_eq_true rfl) rfl (ty := (.array .int)) (w2 := [ob 7 a0 [.ref q6, .ref q13, .ref q20, .ref q28, .int (nI 0)], ai E q6 3 (fun _ => 0), ai E q13 3 (fun _ => 0), ai E q20 3 (fun _ => 0), ai E q28 12 (fun _ => 0)]) rfl ?_
  exact hret _ _ _ dX7_init_33 ⟨q6, q13, q20, q28, (by rfl)⟩
set_option maxHeartbeats 4000000 in
set_option maxRecDepth 100000 in
theorem c_X5_init (l : Launch) (E : En) (a0 : Nat)  : CtV l yX5_init wsX5_init ({ frames := 2, cells := 8, slots := 894, locals := 32 } : Room) E [.ref a0] [ob 5 a0 [.null, .null, .null, .int (nI 0), .int (nI 0)]] (fun uu => ∃ (s : Nat → Nat), (s 0 = a0) ∧ uu = [ob 5 (s 0) [.ref (s 1), .ref (s 2), .ref (s 3), .int (nI (sM Z0)), .int (nI (sW Z0))], ob 1 (s 1) [.ref (s 4)], ai E (s 4) 768 (sN Z0), ob 0 (s 2) [.ref (s 5)], az E (s 5) 96 (sU Z0), ob 3 (s 3) [.ref (s 6), .ref (s 7), .ref (s 8), .int (nI (sZ Z0))], ai E (s 6) 8 (sn Z0), ai E (s 7) 8 (sb Z0), ai E (s 8) 8 (ss Z0)]) := by
  refine CtV.of cX5_init 1 RX5 rfl (by decide) rfl (Nat.le_of_ble_eq_true rfl) ?_
  intro Γ F hin0 hret
  have hin := hin0 rfl
  show G Γ E 0 0 0 [(0, .ref a0)] [] [ob 5 a0 [.null, .null, .null, .int (nI 0), .int (nI 0)]]
  refine g_aload_n F 0 dX5_init_0 rfl rfl ?_
  refine g_objInit F dX5_init_1 (by decide +kernel) (by decide +kernel) (by decide +kernel) (by decide) (by decide) ?_
  refine g_aload_n F 0 dX5_init_4 rfl rfl ?_
  refine g_new (C := RX1) (ci := 1) (fs := [.null]) F dX5_init_5 (by decide +kernel) tyX1_ok (by decide +kernel) (by decide +kernel) (by decide +kernel) rfl (by decide +kernel) (Nat.le_of_ble_eq_true rfl) (Nat.le_of_ble_eq_true rfl) (fun q5 => ?_)
  refine g_w (w2 := [ob 5 a0 [.null, .null, .null, .int (nI 0), .int (nI 0)], ob 1 q5 [.null]]) (List.range 2) (by decide) rfl ?_
  refine g_widen (k := 1) (n := 1) (Nat.le_of_ble_eq_true rfl) (Nat.le_of_ble_eq_true rfl) ?_
  refine g_dup F dX5_init_8 rfl ?_
  refine g_callINv (n := 0) F [1] (c_X1_init l E q5 ) dX5_init_9 rfl (by decide) rfl rfl rfl (Nat.le_of_ble_eq_true rfl) ⟨Nat.le_of_ble_eq_true rfl, Nat.le_of_ble_eq_true rfl⟩ ⟨Nat.le_of_ble_eq_true rfl, Nat.le_of_ble_eq_true rfl⟩ (host := "SummedParents") ggX5_init_X1_init (by decide +kernel) (by decide +kernel) (by decide +kernel) rfl (by decide +kernel) ?_
  rintro u_9 ⟨a1_9, rfl⟩
  refine g_widen (k := 2) (n := 769) (Nat.le_of_ble_eq_true rfl) (Nat.le_of_ble_eq_true rfl) ?_
  refine g_w (w2 := [ob 5 a0 [.null, .null, .null, .int (nI 0), .int (nI 0)], ob 1 q5 [.ref a1_9], ai E a1_9 768 (fun _ => 0)]) [0, 1, 2] (by decide) rfl ?_
  refine g_putF F hin 0 0 dX5_init_12 rfl rfl (by decide) (by decide +kernel) (by decide +kernel) tyX5_ok nmX5 rfl rfl (by decide +kernel) rfl rfl (Nat.le_of_ble_eq_true rfl) rfl (ty := (.object "SummedParents$Blocks")) (w2 := [ob 5 a0 [.ref q5, .null, .null, .int (nI 0), .int (nI 0)], ob 1 q5 [.ref a1_9], ai E a1_9 768 (fun _ => 0)]) rfl ?_
  refine g_aload_n F 0 dX5_init_15 rfl rfl ?_
  refine g_new (C := RX0) (ci := 0) (fs := [.null]) F dX5_init_16 (by decide +kernel) tyX0_ok (by decide +kernel) (by decide +kernel) (by decide +kernel) rfl (by decide +kernel) (Nat.le_of_ble_eq_true rfl) (Nat.le_of_ble_eq_true rfl) (fun q16 => ?_)
  refine g_w (w2 := [ob 5 a0 [.ref q5, .null, .null, .int (nI 0), .int (nI 0)], ob 1 q5 [.ref a1_9], ai E a1_9 768 (fun _ => 0), ob 0 q16 [.null]]) (List.range 4) (by decide) rfl ?_
  refine g_widen (k := 3) (n := 770) (Nat.le_of_ble_eq_true rfl) (Nat.le_of_ble_eq_true rfl) ?_
  refine g_dup F dX5_init_19 rfl ?_
  refine g_callINv (n := 0) F [3] (c_X0_init l E q16 ) dX5_init_20 rfl (by decide) rfl rfl rfl (Nat.le_of_ble_eq_true rfl) ⟨Nat.le_of_ble_eq_true rfl, Nat.le_of_ble_eq_true rfl⟩ ⟨Nat.le_of_ble_eq_true rfl, Nat.le_of_ble_eq_true rfl⟩ (host := "SummedParents") ggX5_init_X0_init (by decide +kernel) (by decide +kernel) (by decide +kernel) rfl (by decide +kernel) ?_
  rintro u_20 ⟨a1_20, rfl⟩
  refine g_widen (k := 4) (n := 866) (Nat.le_of_ble_eq_true rfl) (Nat.le_of_ble_eq_true rfl) ?_
  refine g_w (w2 := [ob 5 a0 [.ref q5, .null, .null, .int (nI 0), .int (nI 0)], ob 1 q5 [.ref a1_9], ai E a1_9 768 (fun _ => 0), ob 0 q16 [.ref a1_20], az E a1_20 96 (fun _ => 0)]) [0, 1, 2, 3, 4] (by decide) rfl ?_
  refine g_putF F hin 0 1 dX5_init_23 rfl rfl (by decide) (by decide +kernel) (by decide +kernel) tyX5_ok nmX5 rfl rfl (by decide +kernel) rfl rfl (Nat.le_of_ble_eq_true rfl) rfl (ty := (.object "SummedParents$BlockSet")) (w2 := [ob 5 a0 [.ref q5, .ref q16, .null, .int (nI 0), .int (nI 0)], ob 1 q5 [.ref a1_9], ai E a1_9 768 (fun _ => 0), ob 0 q16 [.ref a1_20], az E a1_20 96 (fun _ => 0)]) rfl ?_
  refine g_aload_n F 0 dX5_init_26 rfl rfl ?_
  refine g_new (C := RX3) (ci := 3) (fs := [.null, .null, .null, .int (nI 0)]) F dX5_init_27 (by decide +kernel) tyX3_ok (by decide +kernel) (by decide +kernel) (by decide +kernel) rfl (by decide +kernel) (Nat.le_of_ble_eq_true rfl) (Nat.le_of_ble_eq_true rfl) (fun q27 => ?_)
  refine g_w (w2 := [ob 5 a0 [.ref q5, .ref q16, .null, .int (nI 0), .int (nI 0)], ob 1 q5 [.ref a1_9], ai E a1_9 768 (fun _ => 0), ob 0 q16 [.ref a1_20], az E a1_20 96 (fun _ => 0), ob 3 q27 [.null, .null, .null, .int (nI 0)]]) (List.range 6) (by decide) rfl ?_
  refine g_widen (k := 5) (n := 870) (Nat.le_of_ble_eq_true rfl) (Nat.le_of_ble_eq_true rfl) ?_
  refine g_dup F dX5_init_30 rfl ?_
  refine g_callINv (n := 0) F [5] (c_X3_init l E q27 ) dX5_init_31 rfl (by decide) rfl rfl rfl (Nat.le_of_ble_eq_true rfl) ⟨Nat.le_of_ble_eq_true rfl, Nat.le_of_ble_eq_true rfl⟩ ⟨Nat.le_of_ble_eq_true rfl, Nat.le_of_ble_eq_true rfl⟩ (host := "SummedParents") ggX5_init_X3_init (by decide +kernel) (by decide +kernel) (by decide +kernel) rfl (by decide +kernel) ?_
  rintro u_31 ⟨a1_31, a2_31, a3_31, rfl⟩
  refine g_widen (k := 8) (n := 894) (Nat.le_of_ble_eq_true rfl) (Nat.le_of_ble_eq_true rfl) ?_
  refine g_w (w2 := [ob 5 a0 [.ref q5, .ref q16, .null, .int (nI 0), .int (nI 0)], ob 1 q5 [.ref a1_9], ai E a1_9 768 (fun _ => 0), ob 0 q16 [.ref a1_20], az E a1_20 96 (fun _ => 0), ob 3 q27 [.ref a1_31, .ref a2_31, .ref a3_31, .int (nI 0)], ai E a1_31 8 (fun _ => 0), ai E a2_31 8 (fun _ => 0), ai E a3_31 8 (fun _ => 0)]) [0, 1, 2, 3, 4, 5, 6, 7, 8] (by decide) rfl ?_
  refine g_putF F hin 0 2 dX5_init_34 rfl rfl (by decide) (by decide +kernel) (by decide +kernel) tyX5_ok nmX5 rfl rfl (by decide +kernel) rfl rfl (Nat.le_of_ble_eq_true rfl) rfl (ty := (.object "SummedParents$RootList")) (w2 := [ob 5 a0 [.ref q5, .ref q16, .ref q27, .int (nI 0), .int (nI 0)], ob 1 q5 [.ref a1_9], ai E a1_9 768 (fun _ => 0), ob 0 q16 [.ref a1_20], az E a1_20 96 (fun _ => 0), ob 3 q27 [.ref a1_31, .ref a2_31, .ref a3_31, .int (nI 0)], ai E a1_31 8 (fun _ => 0), ai E a2_31 8 (fun _ => 0), ai E a3_31 8 (fun _ => 0)]) rfl ?_
  refine g_aload_n F 0 dX5_init_37 rfl rfl ?_
  refine g_iconst (v := nI 0) F dX5_init_38 (by decide) ?_
  refine g_put F 0 3 dX5_init_39 rfl rfl (by decide) (by decide +kernel) (by decide +kernel) tyX5_ok nmX5 rfl (by decide +kernel) rfl rfl (Nat.le_of_ble_eq_true rfl) rfl (ty := .int) (w2 := [ob 5 a0 [.ref q5, .ref q16, .ref q27, .int (nI 0), .int (nI 0)], ob 1 q5 [.ref a1_9], ai E a1_9 768 (fun _ => 0), ob 0 q16 [.ref a1_20], az E a1_20 96 (fun _ => 0), ob 3 q27 [.ref a1_31, .ref a2_31, .ref a3_31, .int (nI 0)], ai E a1_31 8 (fun _ => 0), ai E a2_31 8 (fun _ => 0), ai E a3_31 8 (fun _ => 0)]) rfl ?_
  refine g_w (w2 := [ob 5 a0 [.ref q5, .ref q16, .ref q27, .int (nI 0), .int (nI 0)], ob 1 q5 [.ref a1_9], ai E a1_9 768 (fun _ => 0), ob 0 q16 [.ref a1_20], az E a1_20 96 (fun _ => 0), ob 3 q27 [.ref a1_31, .ref a2_31, .ref a3_31, .int (nI 0)], ai E a1_31 8 (fun _ => 0), ai E a2_31 8 (fun _ => 0), ai E a3_31 8 (fun _ => 0)]) [0, 1, 2, 3, 4, 5, 6, 7, 8] (by decide) rfl ?_
  exact hret _ _ _ dX5_init_42 ⟨(lk [a0, q5, q16, q27, a1_9, a1_20, a1_31, a2_31, a3_31]), (by rfl), (by rfl)⟩
set_option maxHeartbeats 4000000 in
set_option maxRecDepth 100000 in
theorem c_X5_plant (l : Launch) (E : En) (a : Nat → Nat)  : CtV l yX5_plant wsX5_plant ({ frames := 3, cells := 0, slots := 0, locals := 67 } : Room) E [.ref (a 0)] [ob 5 (a 0) [.ref (a 1), .ref (a 2), .ref (a 3), .int (nI (sM Z0)), .int (nI (sW Z0))], ob 1 (a 1) [.ref (a 4)], ai E (a 4) 768 (sN Z0), ob 0 (a 2) [.ref (a 5)], az E (a 5) 96 (sU Z0), ob 3 (a 3) [.ref (a 6), .ref (a 7), .ref (a 8), .int (nI (sZ Z0))], ai E (a 6) 8 (sn Z0), ai E (a 7) 8 (sb Z0), ai E (a 8) 8 (ss Z0)] (fun uu => uu = [ob 5 (a 0) [.ref (a 1), .ref (a 2), .ref (a 3), .int (nI (sM C0)), .int (nI (sW C0))], ob 1 (a 1) [.ref (a 4)], ai E (a 4) 768 (sN C0), ob 0 (a 2) [.ref (a 5)], az E (a 5) 96 (sU C0), ob 3 (a 3) [.ref (a 6), .ref (a 7), .ref (a 8), .int (nI (sZ C0))], ai E (a 6) 8 (sn C0), ai E (a 7) 8 (sb C0), ai E (a 8) 8 (ss C0)]) := by
  refine CtV.of cX5_plant 6 RX5 rfl (by decide) rfl (Nat.le_of_ble_eq_true rfl) ?_
  intro Γ F hin0 hret
  show G Γ E 0 0 0 [(0, .ref (a 0))] [] [ob 5 (a 0) [.ref (a 1), .ref (a 2), .ref (a 3), .int (nI (sM Z0)), .int (nI (sW Z0))], ob 1 (a 1) [.ref (a 4)], ai E (a 4) 768 (sN Z0), ob 0 (a 2) [.ref (a 5)], az E (a 5) 96 (sU Z0), ob 3 (a 3) [.ref (a 6), .ref (a 7), .ref (a 8), .int (nI (sZ Z0))], ai E (a 6) 8 (sn Z0), ai E (a 7) 8 (sb Z0), ai E (a 8) 8 (ss Z0)]
  refine g_bipush (v := nI 16) F dX5_plant_0 (by decide) ?_
  refine g_istore_n (lv2 := [(1, .int (nI 16)), (0, .ref (a 0))]) F dX5_plant_2 rfl (by decide) rfl ?_
  refine g_bipush (v := nI 20) F dX5_plant_3 (by decide) ?_
  refine g_istore_n (lv2 := [(2, .int (nI 20)), (1, .int (nI 16)), (0, .ref (a 0))]) F dX5_plant_5 rfl (by decide) rfl ?_
  refine g_iconst (v := nI 0) F dX5_plant_6 (by decide) ?_
  refine g_istore_n (lv2 := [(3, .int (nI 0)), (2, .int (nI 20)), (1, .int (nI 16)), (0, .ref (a 0))]) F dX5_plant_7 rfl (by decide) rfl ?_
  have loop8 : ∀ (n : Nat) (i : Nat), 20 - i < n → (i ≤ 20) → G Γ E 0 0 8 [(0, .ref (a 0)), (1, .int (nI 16)), (2, .int (nI 20)), (3, .int (nI i))] [] [ob 5 (a 0) [.ref (a 1), .ref (a 2), .ref (a 3), .int (nI (sM Z0)), .int (nI (sW Z0))], ob 1 (a 1) [.ref (a 4)], ai E (a 4) 768 (hN i), ob 0 (a 2) [.ref (a 5)], az E (a 5) 96 (uN i), ob 3 (a 3) [.ref (a 6), .ref (a 7), .ref (a 8), .int (nI (sZ Z0))], ai E (a 6) 8 (sn Z0), ai E (a 7) 8 (sb Z0), ai E (a 8) 8 (ss Z0)] := by
    intro n
    induction n with
    | zero => intro i hz; exact absurd hz (Nat.not_lt_zero _)
    | succ n ih8 =>
      intro i hz8 hi
      refine g_iload_n F 3 dX5_plant_8 rfl rfl ?_
      refine g_iload_n F 2 dX5_plant_9 rfl rfl ?_
      refine g_icmp_geN (tgt := 91) F dX5_plant_10 (by decide) (by omega) (by omega) (fun c10 => ?_) (fun c10 => ?_)
      · skip
        have e9 : i = 20 := by omega
        subst e9
        refine g_aload_n F 0 dX5_plant_91 rfl rfl ?_
        refine g_get F 0 1 dX5_plant_92 rfl rfl (by decide) (by decide +kernel) (by decide +kernel) rfl ?_
        refine g_iload_n F 2 dX5_plant_95 rfl rfl ?_
        refine g_callVvW (n := 1) F [3, 4] (c_X0_add l E (a 2) (a 5) (uN 20) 20 (by omega)) dX5_plant_96 rfl (by decide) rfl rfl rfl (Nat.le_of_ble_eq_true rfl) ⟨Nat.le_of_ble_eq_true rfl, Nat.le_of_ble_eq_true rfl⟩ rfl rfl ⟨Nat.le_of_ble_eq_true rfl, Nat.le_of_ble_eq_true rfl⟩ 3 rfl rfl gX5_plant_X0_add (by decide +kernel) (fun u hp => by obtain rfl := hp; rfl) ?_
        rintro u_96 rfl
        refine g_ws (w2 := [ob 5 (a 0) [.ref (a 1), .ref (a 2), .ref (a 3), .int (nI (sM Z0)), .int (nI (sW Z0))], ob 1 (a 1) [.ref (a 4)], ai E (a 4) 768 (hN 20), ob 0 (a 2) [.ref (a 5)], az E (a 5) 96 (ad (uN 20) 20), ob 3 (a 3) [.ref (a 6), .ref (a 7), .ref (a 8), .int (nI (sZ Z0))], ai E (a 6) 8 (sn Z0), ai E (a 7) 8 (sb Z0), ai E (a 8) 8 (ss Z0)]) rfl ?_
        refine g_aload_n F 0 dX5_plant_99 rfl rfl ?_
        refine g_get F 0 2 dX5_plant_100 rfl rfl (by decide) (by decide +kernel) (by decide +kernel) rfl ?_
        refine g_iconst (v := nI 0) F dX5_plant_103 (by decide) ?_
        refine g_iload_n F 2 dX5_plant_104 rfl rfl ?_
        refine g_aload_n F 0 dX5_plant_105 rfl rfl ?_
        refine g_get F 0 0 dX5_plant_106 rfl rfl (by decide) (by decide +kernel) (by decide +kernel) rfl ?_
        refine g_iconst (v := nI 0) F dX5_plant_109 (by decide) ?_
        refine g_iload_n F 2 dX5_plant_110 rfl rfl ?_
        refine g_callViR (n := 2) F [1, 2] (c_X1_sumOf l E (a 1) (a 4) (hN 20) 0 20 (by omega) (by omega) (by exact hN_BN 20 (by decide))) dX5_plant_111 rfl (by decide) rfl rfl rfl (Nat.le_of_ble_eq_true rfl) ⟨Nat.le_of_ble_eq_true rfl, Nat.le_of_ble_eq_true rfl⟩ rfl rfl ⟨Nat.le_of_ble_eq_true rfl, Nat.le_of_ble_eq_true rfl⟩ 1 rfl rfl gX5_plant_X1_sumOf (by decide +kernel) (fun r u hp => by obtain ⟨-, h⟩ := hp; exact h) ?_
        rintro r_111 u_111 ⟨rfl, -⟩
        refine g_callVvW (n := 3) F [5, 6, 7, 8] (c_X3_addLatest l E (a 3) (a 6) (a 7) (a 8) (sZ Z0) (sn Z0) (sb Z0) (ss Z0) 0 20 (sm (hN 20) ((0 * 96 + 20) * 4)) (by show (0 : Nat) < 8; decide)) dX5_plant_114 rfl (by decide) rfl rfl rfl (Nat.le_of_ble_eq_true rfl) ⟨Nat.le_of_ble_eq_true rfl, Nat.le_of_ble_eq_true rfl⟩ rfl rfl ⟨Nat.le_of_ble_eq_true rfl, Nat.le_of_ble_eq_true rfl⟩ 5 rfl rfl gX5_plant_X3_addLatest (by decide +kernel) (fun u hp => by obtain rfl := hp; rfl) ?_
        rintro u_114 rfl
        refine g_ws (w2 := [ob 5 (a 0) [.ref (a 1), .ref (a 2), .ref (a 3), .int (nI (sM Z0)), .int (nI (sW Z0))], ob 1 (a 1) [.ref (a 4)], ai E (a 4) 768 (hN 20), ob 0 (a 2) [.ref (a 5)], az E (a 5) 96 (ad (uN 20) 20), ob 3 (a 3) [.ref (a 6), .ref (a 7), .ref (a 8), .int (nI ((sZ Z0) + 1))], ai E (a 6) 8 (alt (sn Z0) (sZ Z0) 0), ai E (a 7) 8 (alt (sb Z0) (sZ Z0) 20), ai E (a 8) 8 (alt (ss Z0) (sZ Z0) (sm (hN 20) ((0 * 96 + 20) * 4)))]) rfl ?_
        refine g_azC 4 rfl (sU C0) (by intro j hj; exact uN_s (n := 20) (by decide)) (w2 := [ob 5 (a 0) [.ref (a 1), .ref (a 2), .ref (a 3), .int (nI (sM Z0)), .int (nI (sW Z0))], ob 1 (a 1) [.ref (a 4)], ai E (a 4) 768 (hN 20), ob 0 (a 2) [.ref (a 5)], az E (a 5) 96 (sU C0), ob 3 (a 3) [.ref (a 6), .ref (a 7), .ref (a 8), .int (nI ((sZ Z0) + 1))], ai E (a 6) 8 (alt (sn Z0) (sZ Z0) 0), ai E (a 7) 8 (alt (sb Z0) (sZ Z0) 20), ai E (a 8) 8 (alt (ss Z0) (sZ Z0) (sm (hN 20) ((0 * 96 + 20) * 4)))]) rfl ?_
        exact hret _ _ _ dX5_plant_117 (by rfl)
      · skip
        refine g_iload_n F 3 dX5_plant_13 rfl rfl ?_
        refine g_bipush (v := nI 16) F dX5_plant_14 (by decide) ?_
        refine g_icmp_geN (tgt := 27) F dX5_plant_16 (by decide) (by omega) (by omega) (fun c16 => ?_) (fun c16 => ?_)
        · skip
          refine g_iload_n F 2 dX5_plant_27 rfl rfl ?_
          refine g_istore (lv2 := [(4, .int (nI 20)), (0, .ref (a 0)), (1, .int (nI 16)), (2, .int (nI 20)), (3, .int (nI i))]) F dX5_plant_28 (by decide) rfl ?_
          refine g_sipush (v := nI 256) F dX5_plant_30 (by decide) ?_
          refine g_iload_n F 4 dX5_plant_33 rfl rfl ?_
          refine g_imulN F dX5_plant_34 ?_
          refine g_aload_n F 1 dX5_plant_35 rfl rfl ?_
          refine g_get F 0 0 dX5_plant_36 rfl rfl (by decide) (by decide +kernel) (by decide +kernel) rfl ?_
          refine g_iconst (v := nI 0) F dX5_plant_39 (by decide) ?_
          refine g_iload_n F 4 dX5_plant_40 rfl rfl ?_
          refine g_callViR (n := 2) F [1, 2] (c_X1_sumOf l E (a 1) (a 4) (hN i) 0 i (by omega) (by omega) (by exact hN_BN i (by omega))) dX5_plant_41 rfl (by decide) rfl rfl rfl (Nat.le_of_ble_eq_true rfl) ⟨Nat.le_of_ble_eq_true rfl, Nat.le_of_ble_eq_true rfl⟩ rfl rfl ⟨Nat.le_of_ble_eq_true rfl, Nat.le_of_ble_eq_true rfl⟩ 1 rfl rfl gX5_plant_X1_sumOf (by decide +kernel) (fun r u hp => by obtain ⟨-, h⟩ := hp; exact h) ?_
          rintro r_41 u_41 ⟨rfl, -⟩
          refine g_top (nI (sm (hN i) ((0 * 96 + i) * 4))) (nI (s9 i)) (by rw [hN_sm i (by omega)]) ?_
          refine g_iaddN F dX5_plant_44 ?_
          refine g_istore (lv2 := [(5, .int (nI ((256 * i) + (s9 i)))), (4, .int (nI 20)), (0, .ref (a 0)), (1, .int (nI 16)), (2, .int (nI 20)), (3, .int (nI i))]) F dX5_plant_45 (by decide) rfl ?_
          refine g_aload_n F 2 dX5_plant_47 rfl rfl ?_
          refine g_get F 0 0 dX5_plant_48 rfl rfl (by decide) (by decide +kernel) (by decide +kernel) rfl ?_
          refine g_iconst (v := nI 0) F dX5_plant_51 (by decide) ?_
          refine g_iload F 1 dX5_plant_52 rfl ?_
          refine g_iload_n F 5 dX5_plant_54 rfl rfl ?_
          refine g_iconst (v := nI 4) F dX5_plant_55 (by decide) ?_
          refine g_iremN F dX5_plant_56 (by omega) (by decide) (by decide) ?_
          refine g_iload F 0 dX5_plant_57 rfl ?_
          refine g_callVvW (n := 4) F [1, 2] (c_X1_put l E (a 1) (a 4) (hN i) 0 20 (i % 4) ((256 * i) + (s9 i)) (by omega) (by omega) (by omega)) dX5_plant_59 rfl (by decide) rfl rfl rfl (Nat.le_of_ble_eq_true rfl) ⟨Nat.le_of_ble_eq_true rfl, Nat.le_of_ble_eq_true rfl⟩ rfl rfl ⟨Nat.le_of_ble_eq_true rfl, Nat.le_of_ble_eq_true rfl⟩ 1 rfl rfl gX5_plant_X1_put (by decide +kernel) (fun u hp => by obtain rfl := hp; rfl) ?_
          rintro u_59 rfl
          refine g_ws (w2 := [ob 5 (a 0) [.ref (a 1), .ref (a 2), .ref (a 3), .int (nI (sM Z0)), .int (nI (sW Z0))], ob 1 (a 1) [.ref (a 4)], ai E (a 4) 768 (pn (hN i) 0 20 (i % 4) ((256 * i) + (s9 i))), ob 0 (a 2) [.ref (a 5)], az E (a 5) 96 (uN i), ob 3 (a 3) [.ref (a 6), .ref (a 7), .ref (a 8), .int (nI (sZ Z0))], ai E (a 6) 8 (sn Z0), ai E (a 7) 8 (sb Z0), ai E (a 8) 8 (ss Z0)]) rfl ?_
          refine g_aload_n F 2 dX5_plant_62 rfl rfl ?_
          refine g_get F 0 0 dX5_plant_63 rfl rfl (by decide) (by decide +kernel) (by decide +kernel) rfl ?_
          refine g_iconst (v := nI 1) F dX5_plant_66 (by decide) ?_
          refine g_iload F 1 dX5_plant_67 rfl ?_
          refine g_iload_n F 5 dX5_plant_69 rfl rfl ?_
          refine g_iconst (v := nI 4) F dX5_plant_70 (by decide) ?_
          refine g_iremN F dX5_plant_71 (by omega) (by decide) (by decide) ?_
          refine g_iload F 0 dX5_plant_72 rfl ?_
          refine g_callVvW (n := 4) F [1, 2] (c_X1_put l E (a 1) (a 4) (pn (hN i) 0 20 (i % 4) ((256 * i) + (s9 i))) 1 20 (i % 4) ((256 * i) + (s9 i)) (by omega) (by omega) (by omega)) dX5_plant_74 rfl (by decide) rfl rfl rfl (Nat.le_of_ble_eq_true rfl) ⟨Nat.le_of_ble_eq_true rfl, Nat.le_of_ble_eq_true rfl⟩ rfl rfl ⟨Nat.le_of_ble_eq_true rfl, Nat.le_of_ble_eq_true rfl⟩ 1 rfl rfl gX5_plant_X1_put (by decide +kernel) (fun u hp => by obtain rfl := hp; rfl) ?_
          rintro u_74 rfl
          refine g_ws (w2 := [ob 5 (a 0) [.ref (a 1), .ref (a 2), .ref (a 3), .int (nI (sM Z0)), .int (nI (sW Z0))], ob 1 (a 1) [.ref (a 4)], ai E (a 4) 768 (pn (pn (hN i) 0 20 (i % 4) ((256 * i) + (s9 i))) 1 20 (i % 4) ((256 * i) + (s9 i))), ob 0 (a 2) [.ref (a 5)], az E (a 5) 96 (uN i), ob 3 (a 3) [.ref (a 6), .ref (a 7), .ref (a 8), .int (nI (sZ Z0))], ai E (a 6) 8 (sn Z0), ai E (a 7) 8 (sb Z0), ai E (a 8) 8 (ss Z0)]) rfl ?_
          refine g_aload_n F 2 dX5_plant_77 rfl rfl ?_
          refine g_get F 0 1 dX5_plant_78 rfl rfl (by decide) (by decide +kernel) (by decide +kernel) rfl ?_
          refine g_iload_n F 5 dX5_plant_81 rfl rfl ?_
          refine g_callVvW (n := 1) F [3, 4] (c_X0_add l E (a 2) (a 5) (uN i) i (by omega)) dX5_plant_82 rfl (by decide) rfl rfl rfl (Nat.le_of_ble_eq_true rfl) ⟨Nat.le_of_ble_eq_true rfl, Nat.le_of_ble_eq_true rfl⟩ rfl rfl ⟨Nat.le_of_ble_eq_true rfl, Nat.le_of_ble_eq_true rfl⟩ 3 rfl rfl gX5_plant_X0_add (by decide +kernel) (fun u hp => by obtain rfl := hp; rfl) ?_
          rintro u_82 rfl
          refine g_ws (w2 := [ob 5 (a 0) [.ref (a 1), .ref (a 2), .ref (a 3), .int (nI (sM Z0)), .int (nI (sW Z0))], ob 1 (a 1) [.ref (a 4)], ai E (a 4) 768 (pn (pn (hN i) 0 20 (i % 4) ((256 * i) + (s9 i))) 1 20 (i % 4) ((256 * i) + (s9 i))), ob 0 (a 2) [.ref (a 5)], az E (a 5) 96 (ad (uN i) i), ob 3 (a 3) [.ref (a 6), .ref (a 7), .ref (a 8), .int (nI (sZ Z0))], ai E (a 6) 8 (sn Z0), ai E (a 7) 8 (sb Z0), ai E (a 8) 8 (ss Z0)]) rfl ?_
          refine g_iinc (k := 5) (v := nI (i + 1)) (lv2 := [(3, .int (nI (i + 1))), (5, .int (nI ((256 * i) + (s9 i)))), (4, .int (nI 20)), (0, .ref (a 0)), (1, .int (nI 16)), (2, .int (nI 20))]) F dX5_plant_85 rfl (nI_1 _) (by decide) rfl ?_
          refine g_goto (tgt := 8) F dX5_plant_88 (by decide) ?_
          refine g_aiC 2 rfl (hN (i + 1)) (by intro j hj; exact hN_s (by omega) (by omega)) (w2 := [ob 5 (a 0) [.ref (a 1), .ref (a 2), .ref (a 3), .int (nI (sM Z0)), .int (nI (sW Z0))], ob 1 (a 1) [.ref (a 4)], ai E (a 4) 768 (hN (i + 1)), ob 0 (a 2) [.ref (a 5)], az E (a 5) 96 (ad (uN i) i), ob 3 (a 3) [.ref (a 6), .ref (a 7), .ref (a 8), .int (nI (sZ Z0))], ai E (a 6) 8 (sn Z0), ai E (a 7) 8 (sb Z0), ai E (a 8) 8 (ss Z0)]) rfl ?_
          refine g_azC 4 rfl (uN (i + 1)) (by intro j hj; exact uN_s (by omega)) (w2 := [ob 5 (a 0) [.ref (a 1), .ref (a 2), .ref (a 3), .int (nI (sM Z0)), .int (nI (sW Z0))], ob 1 (a 1) [.ref (a 4)], ai E (a 4) 768 (hN (i + 1)), ob 0 (a 2) [.ref (a 5)], az E (a 5) 96 (uN (i + 1)), ob 3 (a 3) [.ref (a 6), .ref (a 7), .ref (a 8), .int (nI (sZ Z0))], ai E (a 6) 8 (sn Z0), ai E (a 7) 8 (sb Z0), ai E (a 8) 8 (ss Z0)]) rfl ?_
          refine g_lv [3, 4, 5, 0] rfl ?_
          exact ih8 (i + 1) (by omega) (by omega)
        · skip
          refine g_iload_n F 1 dX5_plant_19 rfl rfl ?_
          refine g_iload_n F 3 dX5_plant_20 rfl rfl ?_
          refine g_iconst (v := nI 4) F dX5_plant_21 (by decide) ?_
          refine g_idivN F dX5_plant_22 (by omega) (by decide) (by decide) ?_
          refine g_iaddN F dX5_plant_23 ?_
          refine g_goto (tgt := 28) F dX5_plant_24 (by decide) ?_
          refine g_istore (lv2 := [(4, .int (nI (16 + (i / 4)))), (0, .ref (a 0)), (1, .int (nI 16)), (2, .int (nI 20)), (3, .int (nI i))]) F dX5_plant_28 (by decide) rfl ?_
          refine g_sipush (v := nI 256) F dX5_plant_30 (by decide) ?_
          refine g_iload_n F 4 dX5_plant_33 rfl rfl ?_
          refine g_imulN F dX5_plant_34 ?_
          refine g_aload_n F 1 dX5_plant_35 rfl rfl ?_
          refine g_get F 0 0 dX5_plant_36 rfl rfl (by decide) (by decide +kernel) (by decide +kernel) rfl ?_
          refine g_iconst (v := nI 0) F dX5_plant_39 (by decide) ?_
          refine g_iload_n F 4 dX5_plant_40 rfl rfl ?_
          refine g_callViR (n := 2) F [1, 2] (c_X1_sumOf l E (a 1) (a 4) (hN i) 0 i (by omega) (by omega) (by exact hN_BN i (by omega))) dX5_plant_41 rfl (by decide) rfl rfl rfl (Nat.le_of_ble_eq_true rfl) ⟨Nat.le_of_ble_eq_true rfl, Nat.le_of_ble_eq_true rfl⟩ rfl rfl ⟨Nat.le_of_ble_eq_true rfl, Nat.le_of_ble_eq_true rfl⟩ 1 rfl rfl gX5_plant_X1_sumOf (by decide +kernel) (fun r u hp => by obtain ⟨-, h⟩ := hp; exact h) ?_
          rintro r_41 u_41 ⟨rfl, -⟩
          refine g_top (nI (sm (hN i) ((0 * 96 + i) * 4))) (nI (s9 i)) (by rw [hN_sm i (by omega)]) ?_
          refine g_iaddN F dX5_plant_44 ?_
          refine g_istore (lv2 := [(5, .int (nI ((256 * i) + (s9 i)))), (4, .int (nI (16 + (i / 4)))), (0, .ref (a 0)), (1, .int (nI 16)), (2, .int (nI 20)), (3, .int (nI i))]) F dX5_plant_45 (by decide) rfl ?_
          refine g_aload_n F 2 dX5_plant_47 rfl rfl ?_
          refine g_get F 0 0 dX5_plant_48 rfl rfl (by decide) (by decide +kernel) (by decide +kernel) rfl ?_
          refine g_iconst (v := nI 0) F dX5_plant_51 (by decide) ?_
          refine g_iload F 1 dX5_plant_52 rfl ?_
          refine g_iload_n F 5 dX5_plant_54 rfl rfl ?_
          refine g_iconst (v := nI 4) F dX5_plant_55 (by decide) ?_
          refine g_iremN F dX5_plant_56 (by omega) (by decide) (by decide) ?_
          refine g_iload F 0 dX5_plant_57 rfl ?_
          refine g_callVvW (n := 4) F [1, 2] (c_X1_put l E (a 1) (a 4) (hN i) 0 (16 + (i / 4)) (i % 4) ((256 * i) + (s9 i)) (by omega) (by omega) (by omega)) dX5_plant_59 rfl (by decide) rfl rfl rfl (Nat.le_of_ble_eq_true rfl) ⟨Nat.le_of_ble_eq_true rfl, Nat.le_of_ble_eq_true rfl⟩ rfl rfl ⟨Nat.le_of_ble_eq_true rfl, Nat.le_of_ble_eq_true rfl⟩ 1 rfl rfl gX5_plant_X1_put (by decide +kernel) (fun u hp => by obtain rfl := hp; rfl) ?_
          rintro u_59 rfl
          refine g_ws (w2 := [ob 5 (a 0) [.ref (a 1), .ref (a 2), .ref (a 3), .int (nI (sM Z0)), .int (nI (sW Z0))], ob 1 (a 1) [.ref (a 4)], ai E (a 4) 768 (pn (hN i) 0 (16 + (i / 4)) (i % 4) ((256 * i) + (s9 i))), ob 0 (a 2) [.ref (a 5)], az E (a 5) 96 (uN i), ob 3 (a 3) [.ref (a 6), .ref (a 7), .ref (a 8), .int (nI (sZ Z0))], ai E (a 6) 8 (sn Z0), ai E (a 7) 8 (sb Z0), ai E (a 8) 8 (ss Z0)]) rfl ?_
          refine g_aload_n F 2 dX5_plant_62 rfl rfl ?_
          refine g_get F 0 0 dX5_plant_63 rfl rfl (by decide) (by decide +kernel) (by decide +kernel) rfl ?_
          refine g_iconst (v := nI 1) F dX5_plant_66 (by decide) ?_
          refine g_iload F 1 dX5_plant_67 rfl ?_
          refine g_iload_n F 5 dX5_plant_69 rfl rfl ?_
          refine g_iconst (v := nI 4) F dX5_plant_70 (by decide) ?_
          refine g_iremN F dX5_plant_71 (by omega) (by decide) (by decide) ?_
          refine g_iload F 0 dX5_plant_72 rfl ?_
          refine g_callVvW (n := 4) F [1, 2] (c_X1_put l E (a 1) (a 4) (pn (hN i) 0 (16 + (i / 4)) (i % 4) ((256 * i) + (s9 i))) 1 (16 + (i / 4)) (i % 4) ((256 * i) + (s9 i)) (by omega) (by omega) (by omega)) dX5_plant_74 rfl (by decide) rfl rfl rfl (Nat.le_of_ble_eq_true rfl) ⟨Nat.le_of_ble_eq_true rfl, Nat.le_of_ble_eq_true rfl⟩ rfl rfl ⟨Nat.le_of_ble_eq_true rfl, Nat.le_of_ble_eq_true rfl⟩ 1 rfl rfl gX5_plant_X1_put (by decide +kernel) (fun u hp => by obtain rfl := hp; rfl) ?_
          rintro u_74 rfl
          refine g_ws (w2 := [ob 5 (a 0) [.ref (a 1), .ref (a 2), .ref (a 3), .int (nI (sM Z0)), .int (nI (sW Z0))], ob 1 (a 1) [.ref (a 4)], ai E (a 4) 768 (pn (pn (hN i) 0 (16 + (i / 4)) (i % 4) ((256 * i) + (s9 i))) 1 (16 + (i / 4)) (i % 4) ((256 * i) + (s9 i))), ob 0 (a 2) [.ref (a 5)], az E (a 5) 96 (uN i), ob 3 (a 3) [.ref (a 6), .ref (a 7), .ref (a 8), .int (nI (sZ Z0))], ai E (a 6) 8 (sn Z0), ai E (a 7) 8 (sb Z0), ai E (a 8) 8 (ss Z0)]) rfl ?_
          refine g_aload_n F 2 dX5_plant_77 rfl rfl ?_
          refine g_get F 0 1 dX5_plant_78 rfl rfl (by decide) (by decide +kernel) (by decide +kernel) rfl ?_
          refine g_iload_n F 5 dX5_plant_81 rfl rfl ?_
          refine g_callVvW (n := 1) F [3, 4] (c_X0_add l E (a 2) (a 5) (uN i) i (by omega)) dX5_plant_82 rfl (by decide) rfl rfl rfl (Nat.le_of_ble_eq_true rfl) ⟨Nat.le_of_ble_eq_true rfl, Nat.le_of_ble_eq_true rfl⟩ rfl rfl ⟨Nat.le_of_ble_eq_true rfl, Nat.le_of_ble_eq_true rfl⟩ 3 rfl rfl gX5_plant_X0_add (by decide +kernel) (fun u hp => by obtain rfl := hp; rfl) ?_
          rintro u_82 rfl
          refine g_ws (w2 := [ob 5 (a 0) [.ref (a 1), .ref (a 2), .ref (a 3), .int (nI (sM Z0)), .int (nI (sW Z0))], ob 1 (a 1) [.ref (a 4)], ai E (a 4) 768 (pn (pn (hN i) 0 (16 + (i / 4)) (i % 4) ((256 * i) + (s9 i))) 1 (16 + (i / 4)) (i % 4) ((256 * i) + (s9 i))), ob 0 (a 2) [.ref (a 5)], az E (a 5) 96 (ad (uN i) i), ob 3 (a 3) [.ref (a 6), .ref (a 7), .ref (a 8), .int (nI (sZ Z0))], ai E (a 6) 8 (sn Z0), ai E (a 7) 8 (sb Z0), ai E (a 8) 8 (ss Z0)]) rfl ?_
          refine g_iinc (k := 5) (v := nI (i + 1)) (lv2 := [(3, .int (nI (i + 1))), (5, .int (nI ((256 * i) + (s9 i)))), (4, .int (nI (16 + (i / 4)))), (0, .ref (a 0)), (1, .int (nI 16)), (2, .int (nI 20))]) F dX5_plant_85 rfl (nI_1 _) (by decide) rfl ?_
          refine g_goto (tgt := 8) F dX5_plant_88 (by decide) ?_
          refine g_aiC 2 rfl (hN (i + 1)) (by intro j hj; exact hN_s (by omega) (by omega)) (w2 := [ob 5 (a 0) [.ref (a 1), .ref (a 2), .ref (a 3), .int (nI (sM Z0)), .int (nI (sW Z0))], ob 1 (a 1) [.ref (a 4)], ai E (a 4) 768 (hN (i + 1)), ob 0 (a 2) [.ref (a 5)], az E (a 5) 96 (ad (uN i) i), ob 3 (a 3) [.ref (a 6), .ref (a 7), .ref (a 8), .int (nI (sZ Z0))], ai E (a 6) 8 (sn Z0), ai E (a 7) 8 (sb Z0), ai E (a 8) 8 (ss Z0)]) rfl ?_
          refine g_azC 4 rfl (uN (i + 1)) (by intro j hj; exact uN_s (by omega)) (w2 := [ob 5 (a 0) [.ref (a 1), .ref (a 2), .ref (a 3), .int (nI (sM Z0)), .int (nI (sW Z0))], ob 1 (a 1) [.ref (a 4)], ai E (a 4) 768 (hN (i + 1)), ob 0 (a 2) [.ref (a 5)], az E (a 5) 96 (uN (i + 1)), ob 3 (a 3) [.ref (a 6), .ref (a 7), .ref (a 8), .int (nI (sZ Z0))], ai E (a 6) 8 (sn Z0), ai E (a 7) 8 (sb Z0), ai E (a 8) 8 (ss Z0)]) rfl ?_
          refine g_lv [3, 4, 5, 0] rfl ?_
          exact ih8 (i + 1) (by omega) (by omega)
  refine g_aiC 2 rfl (hN 0) (by intro j hj; unfold hN; rw [if_neg (by omega), if_neg (by omega)]; rfl) (w2 := [ob 5 (a 0) [.ref (a 1), .ref (a 2), .ref (a 3), .int (nI (sM Z0)), .int (nI (sW Z0))], ob 1 (a 1) [.ref (a 4)], ai E (a 4) 768 (hN 0), ob 0 (a 2) [.ref (a 5)], az E (a 5) 96 (sU Z0), ob 3 (a 3) [.ref (a 6), .ref (a 7), .ref (a 8), .int (nI (sZ Z0))], ai E (a 6) 8 (sn Z0), ai E (a 7) 8 (sb Z0), ai E (a 8) 8 (ss Z0)]) rfl ?_
  refine g_azC 4 rfl (uN 0) (by intro j hj; rfl) (w2 := [ob 5 (a 0) [.ref (a 1), .ref (a 2), .ref (a 3), .int (nI (sM Z0)), .int (nI (sW Z0))], ob 1 (a 1) [.ref (a 4)], ai E (a 4) 768 (hN 0), ob 0 (a 2) [.ref (a 5)], az E (a 5) 96 (uN 0), ob 3 (a 3) [.ref (a 6), .ref (a 7), .ref (a 8), .int (nI (sZ Z0))], ai E (a 6) 8 (sn Z0), ai E (a 7) 8 (sb Z0), ai E (a 8) 8 (ss Z0)]) rfl ?_
  refine g_lv [3, 2, 1, 0] rfl ?_
  exact loop8 ((20 - 0) + 1) 0 (Nat.lt_succ_self _) (by omega)
set_option maxHeartbeats 4000000 in
set_option maxRecDepth 100000 in
theorem c_X2_init (l : Launch) (E : En) (a0 : Nat)  : CtV l yX2_init wsX2_init ({ frames := 3, cells := 28, slots := 2700, locals := 52 } : Room) E [.ref a0] [ob 2 a0 [.null, .int (nI 0)]] (fun uu => ∃ (y1 : Nat), ∃ (c0 : Nat → Nat), ∃ (c1 : Nat → Nat), ∃ (c2 : Nat → Nat), uu = [ob 2 a0 [.ref y1, .int (nI 0)], aq E y1 3 (h3 (c0 0) (c1 0) (c2 0)), ob 5 (c0 0) [.ref (c0 1), .ref (c0 2), .ref (c0 3), .int (nI (sM Z0)), .int (nI (sW Z0))], ob 1 (c0 1) [.ref (c0 4)], ai E (c0 4) 768 (sN Z0), ob 0 (c0 2) [.ref (c0 5)], az E (c0 5) 96 (sU Z0), ob 3 (c0 3) [.ref (c0 6), .ref (c0 7), .ref (c0 8), .int (nI (sZ Z0))], ai E (c0 6) 8 (sn Z0), ai E (c0 7) 8 (sb Z0), ai E (c0 8) 8 (ss Z0), ob 5 (c1 0) [.ref (c1 1), .ref (c1 2), .ref (c1 3), .int (nI (sM Z0)), .int (nI (sW Z0))], ob 1 (c1 1) [.ref (c1 4)], ai E (c1 4) 768 (sN Z0), ob 0 (c1 2) [.ref (c1 5)], az E (c1 5) 96 (sU Z0), ob 3 (c1 3) [.ref (c1 6), .ref (c1 7), .ref (c1 8), .int (nI (sZ Z0))], ai E (c1 6) 8 (sn Z0), ai E (c1 7) 8 (sb Z0), ai E (c1 8) 8 (ss Z0), ob 5 (c2 0) [.ref (c2 1), .ref (c2 2), .ref (c2 3), .int (nI (sM Z0)), .int (nI (sW Z0))], ob 1 (c2 1) [.ref (c2 4)], ai E (c2 4) 768 (sN Z0), ob 0 (c2 2) [.ref (c2 5)], az E (c2 5) 96 (sU Z0), ob 3 (c2 3) [.ref (c2 6), .ref (c2 7), .ref (c2 8), .int (nI (sZ Z0))], ai E (c2 6) 8 (sn Z0), ai E (c2 7) 8 (sb Z0), ai E (c2 8) 8 (ss Z0)]) := by
  refine CtV.of cX2_init 2 RX2 rfl (by decide) rfl (Nat.le_of_ble_eq_true rfl) ?_
  intro Γ F hin0 hret
  have hin := hin0 rfl
  show G Γ E 0 0 0 [(0, .ref a0)] [] [ob 2 a0 [.null, .int (nI 0)]]
  refine g_aload_n F 0 dX2_init_0 rfl rfl ?_
  refine g_objInit F dX2_init_1 (by decide +kernel) (by decide +kernel) (by decide +kernel) (by decide) (by decide) ?_
  refine g_aload_n F 0 dX2_init_4 rfl rfl ?_
  refine g_iconst (v := nI 3) F dX2_init_5 (by decide) ?_
  refine g_newq F dX2_init_6 (by decide +kernel) (by decide) (Nat.le_of_ble_eq_true rfl) (Nat.le_of_ble_eq_true rfl) (fun q6 => ?_)
  refine g_w (w2 := [ob 2 a0 [.null, .int (nI 0)], aq E q6 3 (fun _ => none)]) (List.range 2) (by decide) rfl ?_
  refine g_widen (k := 1) (n := 3) (Nat.le_of_ble_eq_true rfl) (Nat.le_of_ble_eq_true rfl) ?_
  refine g_putF F hin 0 0 dX2_init_9 rfl rfl (by decide) (by decide +kernel) (by decide +kernel) tyX2_ok nmX2 rfl rfl (by decide +kernel) rfl rfl (Nat.le_of_ble_eq_true rfl) rfl (ty := (.array (.object "SummedParents$State"))) (w2 := [ob 2 a0 [.ref q6, .int (nI 0)], aq E q6 3 (fun _ => none)]) rfl ?_
  refine g_iconst (v := nI 0) F dX2_init_12 (by decide) ?_
  refine g_istore_n (lv2 := [(1, .int (nI 0)), (0, .ref a0)]) F dX2_init_13 rfl (by decide) rfl ?_
  refine g_iload_n F 0 dX2_init_14 rfl rfl ?_
  refine g_iconst (v := nI 3) F dX2_init_15 (by decide) ?_
  refine g_icmp_geN (tgt := 38) F dX2_init_16 (by decide) (by decide) (by decide) (fun c16 => absurd c16 (by decide)) (fun c16 => ?_)
  refine g_aload_n F 1 dX2_init_19 rfl rfl ?_
  refine g_get F 0 0 dX2_init_20 rfl rfl (by decide) (by decide +kernel) (by decide +kernel) rfl ?_
  refine g_iload_n F 0 dX2_init_23 rfl rfl ?_
  refine g_new (C := RX5) (ci := 5) (fs := [.null, .null, .null, .int (nI 0), .int (nI 0)]) F dX2_init_24 (by decide +kernel) tyX5_ok (by decide +kernel) (by decide +kernel) (by decide +kernel) rfl (by decide +kernel) (Nat.le_of_ble_eq_true rfl) (Nat.le_of_ble_eq_true rfl) (fun q24 => ?_)
  refine g_w (w2 := [ob 2 a0 [.ref q6, .int (nI 0)], aq E q6 3 (fun _ => none), ob 5 q24 [.null, .null, .null, .int (nI 0), .int (nI 0)]]) (List.range 3) (by decide) rfl ?_
  refine g_widen (k := 2) (n := 8) (Nat.le_of_ble_eq_true rfl) (Nat.le_of_ble_eq_true rfl) ?_
  refine g_dup F dX2_init_27 rfl ?_
  refine g_callINv (n := 0) F [2] (c_X5_init l E q24 ) dX2_init_28 rfl (by decide) rfl rfl rfl (Nat.le_of_ble_eq_true rfl) ⟨Nat.le_of_ble_eq_true rfl, Nat.le_of_ble_eq_true rfl⟩ ⟨Nat.le_of_ble_eq_true rfl, Nat.le_of_ble_eq_true rfl⟩ (host := "SummedParents") ggX2_init_X5_init (by decide +kernel) (by decide +kernel) (by decide +kernel) rfl (by decide +kernel) ?_
  rintro u_28 ⟨s_28, hs_28, rfl⟩
  refine g_widen (k := 10) (n := 902) (Nat.le_of_ble_eq_true rfl) (Nat.le_of_ble_eq_true rfl) ?_
  refine g_w (w2 := [ob 2 a0 [.ref q6, .int (nI 0)], aq E q6 3 (fun _ => none), ob 5 (s_28 0) [.ref (s_28 1), .ref (s_28 2), .ref (s_28 3), .int (nI (sM Z0)), .int (nI (sW Z0))], ob 1 (s_28 1) [.ref (s_28 4)], ai E (s_28 4) 768 (sN Z0), ob 0 (s_28 2) [.ref (s_28 5)], az E (s_28 5) 96 (sU Z0), ob 3 (s_28 3) [.ref (s_28 6), .ref (s_28 7), .ref (s_28 8), .int (nI (sZ Z0))], ai E (s_28 6) 8 (sn Z0), ai E (s_28 7) 8 (sb Z0), ai E (s_28 8) 8 (ss Z0)]) [0, 1, 2, 3, 4, 5, 6, 7, 8, 9, 10] (by decide) rfl ?_
  subst hs_28
  refine g_qast F 1 2 dX2_init_31 rfl rfl (by omega) (by decide) (w2 := [ob 2 a0 [.ref q6, .int (nI 0)], aq E q6 3 (va_up (fun _ => none) 0 (some (s_28 0))), ob 5 (s_28 0) [.ref (s_28 1), .ref (s_28 2), .ref (s_28 3), .int (nI (sM Z0)), .int (nI (sW Z0))], ob 1 (s_28 1) [.ref (s_28 4)], ai E (s_28 4) 768 (sN Z0), ob 0 (s_28 2) [.ref (s_28 5)], az E (s_28 5) 96 (sU Z0), ob 3 (s_28 3) [.ref (s_28 6), .ref (s_28 7), .ref (s_28 8), .int (nI (sZ Z0))], ai E (s_28 6) 8 (sn Z0), ai E (s_28 7) 8 (sb Z0), ai E (s_28 8) 8 (ss Z0)]) rfl ?_
  refine g_iinc (k := 0) (v := nI 1) (lv2 := [(1, .int (nI 1)), (0, .ref a0)]) F dX2_init_32 rfl (by decide) (by decide) rfl ?_
  refine g_goto (tgt := 14) F dX2_init_35 (by decide) ?_
  refine g_iload_n F 0 dX2_init_14 rfl rfl ?_
  refine g_iconst (v := nI 3) F dX2_init_15 (by decide) ?_
  refine g_icmp_geN (tgt := 38) F dX2_init_16 (by decide) (by decide) (by decide) (fun c16 => absurd c16 (by decide)) (fun c16 => ?_)
  refine g_aload_n F 1 dX2_init_19 rfl rfl ?_
  refine g_get F 0 0 dX2_init_20 rfl rfl (by decide) (by decide +kernel) (by decide +kernel) rfl ?_
  refine g_iload_n F 0 dX2_init_23 rfl rfl ?_
  refine g_new (C := RX5) (ci := 5) (fs := [.null, .null, .null, .int (nI 0), .int (nI 0)]) F dX2_init_24 (by decide +kernel) tyX5_ok (by decide +kernel) (by decide +kernel) (by decide +kernel) rfl (by decide +kernel) (Nat.le_of_ble_eq_true rfl) (Nat.le_of_ble_eq_true rfl) (fun q24x2 => ?_)
  refine g_w (w2 := [ob 2 a0 [.ref q6, .int (nI 0)], aq E q6 3 (va_up (fun _ => none) 0 (some (s_28 0))), ob 5 (s_28 0) [.ref (s_28 1), .ref (s_28 2), .ref (s_28 3), .int (nI (sM Z0)), .int (nI (sW Z0))], ob 1 (s_28 1) [.ref (s_28 4)], ai E (s_28 4) 768 (sN Z0), ob 0 (s_28 2) [.ref (s_28 5)], az E (s_28 5) 96 (sU Z0), ob 3 (s_28 3) [.ref (s_28 6), .ref (s_28 7), .ref (s_28 8), .int (nI (sZ Z0))], ai E (s_28 6) 8 (sn Z0), ai E (s_28 7) 8 (sb Z0), ai E (s_28 8) 8 (ss Z0), ob 5 q24x2 [.null, .null, .null, .int (nI 0), .int (nI 0)]]) (List.range 12) (by decide) rfl ?_
  refine g_widen (k := 11) (n := 907) (Nat.le_of_ble_eq_true rfl) (Nat.le_of_ble_eq_true rfl) ?_
  refine g_dup F dX2_init_27 rfl ?_
  refine g_callINv (n := 0) F [11] (c_X5_init l E q24x2 ) dX2_init_28 rfl (by decide) rfl rfl rfl (Nat.le_of_ble_eq_true rfl) ⟨Nat.le_of_ble_eq_true rfl, Nat.le_of_ble_eq_true rfl⟩ ⟨Nat.le_of_ble_eq_true rfl, Nat.le_of_ble_eq_true rfl⟩ (host := "SummedParents") ggX2_init_X5_init (by decide +kernel) (by decide +kernel) (by decide +kernel) rfl (by decide +kernel) ?_
  rintro u_28x2 ⟨s_28x2, hs_28x2, rfl⟩
  refine g_widen (k := 19) (n := 1801) (Nat.le_of_ble_eq_true rfl) (Nat.le_of_ble_eq_true rfl) ?_
  refine g_w (w2 := [ob 2 a0 [.ref q6, .int (nI 0)], aq E q6 3 (va_up (fun _ => none) 0 (some (s_28 0))), ob 5 (s_28 0) [.ref (s_28 1), .ref (s_28 2), .ref (s_28 3), .int (nI (sM Z0)), .int (nI (sW Z0))], ob 1 (s_28 1) [.ref (s_28 4)], ai E (s_28 4) 768 (sN Z0), ob 0 (s_28 2) [.ref (s_28 5)], az E (s_28 5) 96 (sU Z0), ob 3 (s_28 3) [.ref (s_28 6), .ref (s_28 7), .ref (s_28 8), .int (nI (sZ Z0))], ai E (s_28 6) 8 (sn Z0), ai E (s_28 7) 8 (sb Z0), ai E (s_28 8) 8 (ss Z0), ob 5 (s_28x2 0) [.ref (s_28x2 1), .ref (s_28x2 2), .ref (s_28x2 3), .int (nI (sM Z0)), .int (nI (sW Z0))], ob 1 (s_28x2 1) [.ref (s_28x2 4)], ai E (s_28x2 4) 768 (sN Z0), ob 0 (s_28x2 2) [.ref (s_28x2 5)], az E (s_28x2 5) 96 (sU Z0), ob 3 (s_28x2 3) [.ref (s_28x2 6), .ref (s_28x2 7), .ref (s_28x2 8), .int (nI (sZ Z0))], ai E (s_28x2 6) 8 (sn Z0), ai E (s_28x2 7) 8 (sb Z0), ai E (s_28x2 8) 8 (ss Z0)]) [0, 1, 2, 3, 4, 5, 6, 7, 8, 9, 10, 11, 12, 13, 14, 15, 16, 17, 18, 19] (by decide) rfl ?_
  subst hs_28x2
  refine g_qast F 1 11 dX2_init_31 rfl rfl (by omega) (by decide) (w2 := [ob 2 a0 [.ref q6, .int (nI 0)], aq E q6 3 (va_up (va_up (fun _ => none) 0 (some (s_28 0))) 1 (some (s_28x2 0))), ob 5 (s_28 0) [.ref (s_28 1), .ref (s_28 2), .ref (s_28 3), .int (nI (sM Z0)), .int (nI (sW Z0))], ob 1 (s_28 1) [.ref (s_28 4)], ai E (s_28 4) 768 (sN Z0), ob 0 (s_28 2) [.ref (s_28 5)], az E (s_28 5) 96 (sU Z0), ob 3 (s_28 3) [.ref (s_28 6), .ref (s_28 7), .ref (s_28 8), .int (nI (sZ Z0))], ai E (s_28 6) 8 (sn Z0), ai E (s_28 7) 8 (sb Z0), ai E (s_28 8) 8 (ss Z0), ob 5 (s_28x2 0) [.ref (s_28x2 1), .ref (s_28x2 2), .ref (s_28x2 3), .int (nI (sM Z0)), .int (nI (sW Z0))], ob 1 (s_28x2 1) [.ref (s_28x2 4)], ai E (s_28x2 4) 768 (sN Z0), ob 0 (s_28x2 2) [.ref (s_28x2 5)], az E (s_28x2 5) 96 (sU Z0), ob 3 (s_28x2 3) [.ref (s_28x2 6), .ref (s_28x2 7), .ref (s_28x2 8), .int (nI (sZ Z0))], ai E (s_28x2 6) 8 (sn Z0), ai E (s_28x2 7) 8 (sb Z0), ai E (s_28x2 8) 8 (ss Z0)]) rfl ?_
  refine g_iinc (k := 0) (v := nI 2) (lv2 := [(1, .int (nI 2)), (0, .ref a0)]) F dX2_init_32 rfl (by decide) (by decide) rfl ?_
  refine g_goto (tgt := 14) F dX2_init_35 (by decide) ?_
  refine g_iload_n F 0 dX2_init_14 rfl rfl ?_
  refine g_iconst (v := nI 3) F dX2_init_15 (by decide) ?_
  refine g_icmp_geN (tgt := 38) F dX2_init_16 (by decide) (by decide) (by decide) (fun c16 => absurd c16 (by decide)) (fun c16 => ?_)
  refine g_aload_n F 1 dX2_init_19 rfl rfl ?_
  refine g_get F 0 0 dX2_init_20 rfl rfl (by decide) (by decide +kernel) (by decide +kernel) rfl ?_
  refine g_iload_n F 0 dX2_init_23 rfl rfl ?_
  refine g_new (C := RX5) (ci := 5) (fs := [.null, .null, .null, .int (nI 0), .int (nI 0)]) F dX2_init_24 (by decide +kernel) tyX5_ok (by decide +kernel) (by decide +kernel) (by decide +kernel) rfl (by decide +kernel) (Nat.le_of_ble_eq_true rfl) (Nat.le_of_ble_eq_true rfl) (fun q24x3 => ?_)
  refine g_w (w2 := [ob 2 a0 [.ref q6, .int (nI 0)], aq E q6 3 (va_up (va_up (fun _ => none) 0 (some (s_28 0))) 1 (some (s_28x2 0))), ob 5 (s_28 0) [.ref (s_28 1), .ref (s_28 2), .ref (s_28 3), .int (nI (sM Z0)), .int (nI (sW Z0))], ob 1 (s_28 1) [.ref (s_28 4)], ai E (s_28 4) 768 (sN Z0), ob 0 (s_28 2) [.ref (s_28 5)], az E (s_28 5) 96 (sU Z0), ob 3 (s_28 3) [.ref (s_28 6), .ref (s_28 7), .ref (s_28 8), .int (nI (sZ Z0))], ai E (s_28 6) 8 (sn Z0), ai E (s_28 7) 8 (sb Z0), ai E (s_28 8) 8 (ss Z0), ob 5 (s_28x2 0) [.ref (s_28x2 1), .ref (s_28x2 2), .ref (s_28x2 3), .int (nI (sM Z0)), .int (nI (sW Z0))], ob 1 (s_28x2 1) [.ref (s_28x2 4)], ai E (s_28x2 4) 768 (sN Z0), ob 0 (s_28x2 2) [.ref (s_28x2 5)], az E (s_28x2 5) 96 (sU Z0), ob 3 (s_28x2 3) [.ref (s_28x2 6), .ref (s_28x2 7), .ref (s_28x2 8), .int (nI (sZ Z0))], ai E (s_28x2 6) 8 (sn Z0), ai E (s_28x2 7) 8 (sb Z0), ai E (s_28x2 8) 8 (ss Z0), ob 5 q24x3 [.null, .null, .null, .int (nI 0), .int (nI 0)]]) (List.range 21) (by decide) rfl ?_
  refine g_widen (k := 20) (n := 1806) (Nat.le_of_ble_eq_true rfl) (Nat.le_of_ble_eq_true rfl) ?_
  refine g_dup F dX2_init_27 rfl ?_
  refine g_callINv (n := 0) F [20] (c_X5_init l E q24x3 ) dX2_init_28 rfl (by decide) rfl rfl rfl (Nat.le_of_ble_eq_true rfl) ⟨Nat.le_of_ble_eq_true rfl, Nat.le_of_ble_eq_true rfl⟩ ⟨Nat.le_of_ble_eq_true rfl, Nat.le_of_ble_eq_true rfl⟩ (host := "SummedParents") ggX2_init_X5_init (by decide +kernel) (by decide +kernel) (by decide +kernel) rfl (by decide +kernel) ?_
  rintro u_28x3 ⟨s_28x3, hs_28x3, rfl⟩
  refine g_widen (k := 28) (n := 2700) (Nat.le_of_ble_eq_true rfl) (Nat.le_of_ble_eq_true rfl) ?_
  refine g_w (w2 := [ob 2 a0 [.ref q6, .int (nI 0)], aq E q6 3 (va_up (va_up (fun _ => none) 0 (some (s_28 0))) 1 (some (s_28x2 0))), ob 5 (s_28 0) [.ref (s_28 1), .ref (s_28 2), .ref (s_28 3), .int (nI (sM Z0)), .int (nI (sW Z0))], ob 1 (s_28 1) [.ref (s_28 4)], ai E (s_28 4) 768 (sN Z0), ob 0 (s_28 2) [.ref (s_28 5)], az E (s_28 5) 96 (sU Z0), ob 3 (s_28 3) [.ref (s_28 6), .ref (s_28 7), .ref (s_28 8), .int (nI (sZ Z0))], ai E (s_28 6) 8 (sn Z0), ai E (s_28 7) 8 (sb Z0), ai E (s_28 8) 8 (ss Z0), ob 5 (s_28x2 0) [.ref (s_28x2 1), .ref (s_28x2 2), .ref (s_28x2 3), .int (nI (sM Z0)), .int (nI (sW Z0))], ob 1 (s_28x2 1) [.ref (s_28x2 4)], ai E (s_28x2 4) 768 (sN Z0), ob 0 (s_28x2 2) [.ref (s_28x2 5)], az E (s_28x2 5) 96 (sU Z0), ob 3 (s_28x2 3) [.ref (s_28x2 6), .ref (s_28x2 7), .ref (s_28x2 8), .int (nI (sZ Z0))], ai E (s_28x2 6) 8 (sn Z0), ai E (s_28x2 7) 8 (sb Z0), ai E (s_28x2 8) 8 (ss Z0), ob 5 (s_28x3 0) [.ref (s_28x3 1), .ref (s_28x3 2), .ref (s_28x3 3), .int (nI (sM Z0)), .int (nI (sW Z0))], ob 1 (s_28x3 1) [.ref (s_28x3 4)], ai E (s_28x3 4) 768 (sN Z0), ob 0 (s_28x3 2) [.ref (s_28x3 5)], az E (s_28x3 5) 96 (sU Z0), ob 3 (s_28x3 3) [.ref (s_28x3 6), .ref (s_28x3 7), .ref (s_28x3 8), .int (nI (sZ Z0))], ai E (s_28x3 6) 8 (sn Z0), ai E (s_28x3 7) 8 (sb Z0), ai E (s_28x3 8) 8 (ss Z0)]) [0, 1, 2, 3, 4, 5, 6, 7, 8, 9, 10, 11, 12, 13, 14, 15, 16, 17, 18, 19, 20, 21, 22, 23, 24, 25, 26, 27, 28] (by decide) rfl ?_
  subst hs_28x3
  refine g_qast F 1 20 dX2_init_31 rfl rfl (by omega) (by decide) (w2 := [ob 2 a0 [.ref q6, .int (nI 0)], aq E q6 3 (va_up (va_up (va_up (fun _ => none) 0 (some (s_28 0))) 1 (some (s_28x2 0))) 2 (some (s_28x3 0))), ob 5 (s_28 0) [.ref (s_28 1), .ref (s_28 2), .ref (s_28 3), .int (nI (sM Z0)), .int (nI (sW Z0))], ob 1 (s_28 1) [.ref (s_28 4)], ai E (s_28 4) 768 (sN Z0), ob 0 (s_28 2) [.ref (s_28 5)], az E (s_28 5) 96 (sU Z0), ob 3 (s_28 3) [.ref (s_28 6), .ref (s_28 7), .ref (s_28 8), .int (nI (sZ Z0))], ai E (s_28 6) 8 (sn Z0), ai E (s_28 7) 8 (sb Z0), ai E (s_28 8) 8 (ss Z0), ob 5 (s_28x2 0) [.ref (s_28x2 1), .ref (s_28x2 2), .ref (s_28x2 3), .int (nI (sM Z0)), .int (nI (sW Z0))], ob 1 (s_28x2 1) [.ref (s_28x2 4)], ai E (s_28x2 4) 768 (sN Z0), ob 0 (s_28x2 2) [.ref (s_28x2 5)], az E (s_28x2 5) 96 (sU Z0), ob 3 (s_28x2 3) [.ref (s_28x2 6), .ref (s_28x2 7), .ref (s_28x2 8), .int (nI (sZ Z0))], ai E (s_28x2 6) 8 (sn Z0), ai E (s_28x2 7) 8 (sb Z0), ai E (s_28x2 8) 8 (ss Z0), ob 5 (s_28x3 0) [.ref (s_28x3 1), .ref (s_28x3 2), .ref (s_28x3 3), .int (nI (sM Z0)), .int (nI (sW Z0))], ob 1 (s_28x3 1) [.ref (s_28x3 4)], ai E (s_28x3 4) 768 (sN Z0), ob 0 (s_28x3 2) [.ref (s_28x3 5)], az E (s_28x3 5) 96 (sU Z0), ob 3 (s_28x3 3) [.ref (s_28x3 6), .ref (s_28x3 7), .ref (s_28x3 8), .int (nI (sZ Z0))], ai E (s_28x3 6) 8 (sn Z0), ai E (s_28x3 7) 8 (sb Z0), ai E (s_28x3 8) 8 (ss Z0)]) rfl ?_
  refine g_iinc (k := 0) (v := nI 3) (lv2 := [(1, .int (nI 3)), (0, .ref a0)]) F dX2_init_32 rfl (by decide) (by decide) rfl ?_
  refine g_goto (tgt := 14) F dX2_init_35 (by decide) ?_
  refine g_iload_n F 0 dX2_init_14 rfl rfl ?_
  refine g_iconst (v := nI 3) F dX2_init_15 (by decide) ?_
  refine g_icmp_geN (tgt := 38) F dX2_init_16 (by decide) (by decide) (by decide) (fun c16 => ?_) (fun c16 => absurd c16 (by decide))
  refine g_aqC 1 rfl (h3 (s_28 0) (s_28x2 0) (s_28x3 0)) (by intro j hj; rcases (show j = 0 ∨ j = 1 ∨ j = 2 by omega) with rfl | rfl | rfl <;> rfl) (w2 := [ob 2 a0 [.ref q6, .int (nI 0)], aq E q6 3 (h3 (s_28 0) (s_28x2 0) (s_28x3 0)), ob 5 (s_28 0) [.ref (s_28 1), .ref (s_28 2), .ref (s_28 3), .int (nI (sM Z0)), .int (nI (sW Z0))], ob 1 (s_28 1) [.ref (s_28 4)], ai E (s_28 4) 768 (sN Z0), ob 0 (s_28 2) [.ref (s_28 5)], az E (s_28 5) 96 (sU Z0), ob 3 (s_28 3) [.ref (s_28 6), .ref (s_28 7), .ref (s_28 8), .int (nI (sZ Z0))], ai E (s_28 6) 8 (sn Z0), ai E (s_28 7) 8 (sb Z0), ai E (s_28 8) 8 (ss Z0), ob 5 (s_28x2 0) [.ref (s_28x2 1), .ref (s_28x2 2), .ref (s_28x2 3), .int (nI (sM Z0)), .int (nI (sW Z0))], ob 1 (s_28x2 1) [.ref (s_28x2 4)], ai E (s_28x2 4) 768 (sN Z0), ob 0 (s_28x2 2) [.ref (s_28x2 5)], az E (s_28x2 5) 96 (sU Z0), ob 3 (s_28x2 3) [.ref (s_28x2 6), .ref (s_28x2 7), .ref (s_28x2 8), .int (nI (sZ Z0))], ai E (s_28x2 6) 8 (sn Z0), ai E (s_28x2 7) 8 (sb Z0), ai E (s_28x2 8) 8 (ss Z0), ob 5 (s_28x3 0) [.ref (s_28x3 1), .ref (s_28x3 2), .ref (s_28x3 3), .int (nI (sM Z0)), .int (nI (sW Z0))], ob 1 (s_28x3 1) [.ref (s_28x3 4)], ai E (s_28x3 4) 768 (sN Z0), ob 0 (s_28x3 2) [.ref (s_28x3 5)], az E (s_28x3 5) 96 (sU Z0), ob 3 (s_28x3 3) [.ref (s_28x3 6), .ref (s_28x3 7), .ref (s_28x3 8), .int (nI (sZ Z0))], ai E (s_28x3 6) 8 (sn Z0), ai E (s_28x3 7) 8 (sb Z0), ai E (s_28x3 8) 8 (ss Z0)]) rfl ?_
  exact hret _ _ _ dX2_init_38 ⟨q6, s_28, s_28x2, s_28x3, (by rfl)⟩
set_option maxHeartbeats 4000000 in
set_option maxRecDepth 100000 in
theorem c_X8_init (l : Launch) (E : En) (o : Nat)  : CtV l yX8_init wsX8_init ({ frames := 4, cells := 59, slots := 4791, locals := 92 } : Room) E [.ref o] [ob 8 o [.null, .null, .null, .null, .null, .null, .null, .null]] (fun uu => ∃ (a : Nat → Nat), ∃ (b : Nat → Nat), ∃ (c0 : Nat → Nat), ∃ (c1 : Nat → Nat), ∃ (c2 : Nat → Nat), ∃ (y0 : Nat), ∃ (y1 : Nat), ∃ (x0 : Nat), ∃ (tc : Nat), ∃ (v0 : Nat), ∃ (g0 : Nat), ∃ (g1 : Nat), ∃ (g2 : Nat), ∃ (g3 : Nat), ∃ (g4 : Nat), ∃ (k0 : Nat), ∃ (k1 : Nat), ∃ (m0 : Nat), ∃ (m1 : Nat), uu = [ob 8 o [.ref (a 0), .ref (b 0), .ref y0, .ref x0, .ref v0, .ref g0, .ref k0, .ref m0], ob 5 (a 0) [.ref (a 1), .ref (a 2), .ref (a 3), .int (nI (sM C0)), .int (nI (sW C0))], ob 1 (a 1) [.ref (a 4)], ai E (a 4) 768 (sN C0), ob 0 (a 2) [.ref (a 5)], az E (a 5) 96 (sU C0), ob 3 (a 3) [.ref (a 6), .ref (a 7), .ref (a 8), .int (nI (sZ C0))], ai E (a 6) 8 (sn C0), ai E (a 7) 8 (sb C0), ai E (a 8) 8 (ss C0), ob 5 (b 0) [.ref (b 1), .ref (b 2), .ref (b 3), .int (nI (sM Z0)), .int (nI (sW Z0))], ob 1 (b 1) [.ref (b 4)], ai E (b 4) 768 (sN Z0), ob 0 (b 2) [.ref (b 5)], az E (b 5) 96 (sU Z0), ob 3 (b 3) [.ref (b 6), .ref (b 7), .ref (b 8), .int (nI (sZ Z0))], ai E (b 6) 8 (sn Z0), ai E (b 7) 8 (sb Z0), ai E (b 8) 8 (ss Z0), ob 2 y0 [.ref y1, .int (nI 0)], aq E y1 3 (h3 (c0 0) (c1 0) (c2 0)), ob 5 (c0 0) [.ref (c0 1), .ref (c0 2), .ref (c0 3), .int (nI (sM Z0)), .int (nI (sW Z0))], ob 1 (c0 1) [.ref (c0 4)], ai E (c0 4) 768 (sN Z0), ob 0 (c0 2) [.ref (c0 5)], az E (c0 5) 96 (sU Z0), ob 3 (c0 3) [.ref (c0 6), .ref (c0 7), .ref (c0 8), .int (nI (sZ Z0))], ai E (c0 6) 8 (sn Z0), ai E (c0 7) 8 (sb Z0), ai E (c0 8) 8 (ss Z0), ob 5 (c1 0) [.ref (c1 1), .ref (c1 2), .ref (c1 3), .int (nI (sM Z0)), .int (nI (sW Z0))], ob 1 (c1 1) [.ref (c1 4)], ai E (c1 4) 768 (sN Z0), ob 0 (c1 2) [.ref (c1 5)], az E (c1 5) 96 (sU Z0), ob 3 (c1 3) [.ref (c1 6), .ref (c1 7), .ref (c1 8), .int (nI (sZ Z0))], ai E (c1 6) 8 (sn Z0), ai E (c1 7) 8 (sb Z0), ai E (c1 8) 8 (ss Z0), ob 5 (c2 0) [.ref (c2 1), .ref (c2 2), .ref (c2 3), .int (nI (sM Z0)), .int (nI (sW Z0))], ob 1 (c2 1) [.ref (c2 4)], ai E (c2 4) 768 (sN Z0), ob 0 (c2 2) [.ref (c2 5)], az E (c2 5) 96 (sU Z0), ob 3 (c2 3) [.ref (c2 6), .ref (c2 7), .ref (c2 8), .int (nI (sZ Z0))], ai E (c2 6) 8 (sn Z0), ai E (c2 7) 8 (sb Z0), ai E (c2 8) 8 (ss Z0), ob 4 x0 [.ref tc, .int (nI 0), .int (nI 0), .int (nI 0), .int (nI 0), .int (nI 0), .int (nI 0)], ac E tc 60 (fun _ => 0), ob 6 v0 [.int (nI 0), .int (nI 0), .int (nI 0), .int (nI 0)], ob 7 g0 [.ref g1, .ref g2, .ref g3, .ref g4, .int (nI 0)], ai E g1 3 (fun _ => 0), ai E g2 3 (fun _ => 0), ai E g3 3 (fun _ => 0), ai E g4 12 (fun _ => 0), ob 0 k0 [.ref k1], az E k1 96 (fun _ => 0), ob 0 m0 [.ref m1], az E m1 96 (fun _ => 0)]) := by
  refine CtV.of cX8_init 1 RX8 rfl (by decide) rfl (Nat.le_of_ble_eq_true rfl) ?_
  intro Γ F hin0 hret
  have hin := hin0 rfl
  show G Γ E 0 0 0 [(0, .ref o)] [] [ob 8 o [.null, .null, .null, .null, .null, .null, .null, .null]]
  refine g_aload_n F 0 dX8_init_0 rfl rfl ?_
  refine g_objInit F dX8_init_1 (by decide +kernel) (by decide +kernel) (by decide +kernel) (by decide) (by decide) ?_
  refine g_aload_n F 0 dX8_init_4 rfl rfl ?_
  refine g_new (C := RX5) (ci := 5) (fs := [.null, .null, .null, .int (nI 0), .int (nI 0)]) F dX8_init_5 (by decide +kernel) tyX5_ok (by decide +kernel) (by decide +kernel) (by decide +kernel) rfl (by decide +kernel) (Nat.le_of_ble_eq_true rfl) (Nat.le_of_ble_eq_true rfl) (fun q5 => ?_)
  refine g_w (w2 := [ob 8 o [.null, .null, .null, .null, .null, .null, .null, .null], ob 5 q5 [.null, .null, .null, .int (nI 0), .int (nI 0)]]) (List.range 2) (by decide) rfl ?_
  refine g_widen (k := 1) (n := 5) (Nat.le_of_ble_eq_true rfl) (Nat.le_of_ble_eq_true rfl) ?_
  refine g_dup F dX8_init_8 rfl ?_
  refine g_callINv (n := 0) F [1] (c_X5_init l E q5 ) dX8_init_9 rfl (by decide) rfl rfl rfl (Nat.le_of_ble_eq_true rfl) ⟨Nat.le_of_ble_eq_true rfl, Nat.le_of_ble_eq_true rfl⟩ ⟨Nat.le_of_ble_eq_true rfl, Nat.le_of_ble_eq_true rfl⟩ (host := "SummedParents") ggX8_init_X5_init (by decide +kernel) (by decide +kernel) (by decide +kernel) rfl (by decide +kernel) ?_
  rintro u_9 ⟨s_9, hs_9, rfl⟩
  refine g_widen (k := 9) (n := 899) (Nat.le_of_ble_eq_true rfl) (Nat.le_of_ble_eq_true rfl) ?_
  refine g_w (w2 := [ob 8 o [.null, .null, .null, .null, .null, .null, .null, .null], ob 5 (s_9 0) [.ref (s_9 1), .ref (s_9 2), .ref (s_9 3), .int (nI (sM Z0)), .int (nI (sW Z0))], ob 1 (s_9 1) [.ref (s_9 4)], ai E (s_9 4) 768 (sN Z0), ob 0 (s_9 2) [.ref (s_9 5)], az E (s_9 5) 96 (sU Z0), ob 3 (s_9 3) [.ref (s_9 6), .ref (s_9 7), .ref (s_9 8), .int (nI (sZ Z0))], ai E (s_9 6) 8 (sn Z0), ai E (s_9 7) 8 (sb Z0), ai E (s_9 8) 8 (ss Z0)]) [0, 1, 2, 3, 4, 5, 6, 7, 8, 9] (by decide) rfl ?_
  subst hs_9
  refine g_putF F hin 0 0 dX8_init_12 rfl rfl (by decide) (by decide +kernel) (by decide +kernel) tyX8_ok nmX8 rfl rfl (by decide +kernel) rfl rfl (Nat.le_of_ble_eq_true rfl) rfl (ty := (.object "SummedParents$State")) (w2 := [ob 8 o [.ref (s_9 0), .null, .null, .null, .null, .null, .null, .null], ob 5 (s_9 0) [.ref (s_9 1), .ref (s_9 2), .ref (s_9 3), .int (nI (sM Z0)), .int (nI (sW Z0))], ob 1 (s_9 1) [.ref (s_9 4)], ai E (s_9 4) 768 (sN Z0), ob 0 (s_9 2) [.ref (s_9 5)], az E (s_9 5) 96 (sU Z0), ob 3 (s_9 3) [.ref (s_9 6), .ref (s_9 7), .ref (s_9 8), .int (nI (sZ Z0))], ai E (s_9 6) 8 (sn Z0), ai E (s_9 7) 8 (sb Z0), ai E (s_9 8) 8 (ss Z0)]) rfl ?_
  refine g_aload_n F 0 dX8_init_15 rfl rfl ?_
  refine g_get F 0 0 dX8_init_16 rfl rfl (by decide) (by decide +kernel) (by decide +kernel) rfl ?_
  refine g_callVvW (n := 0) F [1, 2, 3, 4, 5, 6, 7, 8, 9] (c_X5_plant l E s_9 ) dX8_init_19 rfl (by decide) rfl rfl rfl (Nat.le_of_ble_eq_true rfl) ⟨Nat.le_of_ble_eq_true rfl, Nat.le_of_ble_eq_true rfl⟩ rfl rfl ⟨Nat.le_of_ble_eq_true rfl, Nat.le_of_ble_eq_true rfl⟩ 1 rfl rfl gX8_init_X5_plant (by decide +kernel) (fun u hp => by obtain rfl := hp; rfl) ?_
  rintro u_19 rfl
  refine g_ws (w2 := [ob 8 o [.ref (s_9 0), .null, .null, .null, .null, .null, .null, .null], ob 5 (s_9 0) [.ref (s_9 1), .ref (s_9 2), .ref (s_9 3), .int (nI (sM C0)), .int (nI (sW C0))], ob 1 (s_9 1) [.ref (s_9 4)], ai E (s_9 4) 768 (sN C0), ob 0 (s_9 2) [.ref (s_9 5)], az E (s_9 5) 96 (sU C0), ob 3 (s_9 3) [.ref (s_9 6), .ref (s_9 7), .ref (s_9 8), .int (nI (sZ C0))], ai E (s_9 6) 8 (sn C0), ai E (s_9 7) 8 (sb C0), ai E (s_9 8) 8 (ss C0)]) rfl ?_
  refine g_aload_n F 0 dX8_init_22 rfl rfl ?_
  refine g_new (C := RX5) (ci := 5) (fs := [.null, .null, .null, .int (nI 0), .int (nI 0)]) F dX8_init_23 (by decide +kernel) tyX5_ok (by decide +kernel) (by decide +kernel) (by decide +kernel) rfl (by decide +kernel) (Nat.le_of_ble_eq_true rfl) (Nat.le_of_ble_eq_true rfl) (fun q23 => ?_)
  refine g_w (w2 := [ob 8 o [.ref (s_9 0), .null, .null, .null, .null, .null, .null, .null], ob 5 (s_9 0) [.ref (s_9 1), .ref (s_9 2), .ref (s_9 3), .int (nI (sM C0)), .int (nI (sW C0))], ob 1 (s_9 1) [.ref (s_9 4)], ai E (s_9 4) 768 (sN C0), ob 0 (s_9 2) [.ref (s_9 5)], az E (s_9 5) 96 (sU C0), ob 3 (s_9 3) [.ref (s_9 6), .ref (s_9 7), .ref (s_9 8), .int (nI (sZ C0))], ai E (s_9 6) 8 (sn C0), ai E (s_9 7) 8 (sb C0), ai E (s_9 8) 8 (ss C0), ob 5 q23 [.null, .null, .null, .int (nI 0), .int (nI 0)]]) (List.range 11) (by decide) rfl ?_
  refine g_widen (k := 10) (n := 904) (Nat.le_of_ble_eq_true rfl) (Nat.le_of_ble_eq_true rfl) ?_
  refine g_dup F dX8_init_26 rfl ?_
  refine g_callINv (n := 0) F [10] (c_X5_init l E q23 ) dX8_init_27 rfl (by decide) rfl rfl rfl (Nat.le_of_ble_eq_true rfl) ⟨Nat.le_of_ble_eq_true rfl, Nat.le_of_ble_eq_true rfl⟩ ⟨Nat.le_of_ble_eq_true rfl, Nat.le_of_ble_eq_true rfl⟩ (host := "SummedParents") ggX8_init_X5_init (by decide +kernel) (by decide +kernel) (by decide +kernel) rfl (by decide +kernel) ?_
  rintro u_27 ⟨s_27, hs_27, rfl⟩
  refine g_widen (k := 18) (n := 1798) (Nat.le_of_ble_eq_true rfl) (Nat.le_of_ble_eq_true rfl) ?_
  refine g_w (w2 := [ob 8 o [.ref (s_9 0), .null, .null, .null, .null, .null, .null, .null], ob 5 (s_9 0) [.ref (s_9 1), .ref (s_9 2), .ref (s_9 3), .int (nI (sM C0)), .int (nI (sW C0))], ob 1 (s_9 1) [.ref (s_9 4)], ai E (s_9 4) 768 (sN C0), ob 0 (s_9 2) [.ref (s_9 5)], az E (s_9 5) 96 (sU C0), ob 3 (s_9 3) [.ref (s_9 6), .ref (s_9 7), .ref (s_9 8), .int (nI (sZ C0))], ai E (s_9 6) 8 (sn C0), ai E (s_9 7) 8 (sb C0), ai E (s_9 8) 8 (ss C0), ob 5 (s_27 0) [.ref (s_27 1), .ref (s_27 2), .ref (s_27 3), .int (nI (sM Z0)), .int (nI (sW Z0))], ob 1 (s_27 1) [.ref (s_27 4)], ai E (s_27 4) 768 (sN Z0), ob 0 (s_27 2) [.ref (s_27 5)], az E (s_27 5) 96 (sU Z0), ob 3 (s_27 3) [.ref (s_27 6), .ref (s_27 7), .ref (s_27 8), .int (nI (sZ Z0))], ai E (s_27 6) 8 (sn Z0), ai E (s_27 7) 8 (sb Z0), ai E (s_27 8) 8 (ss Z0)]) [0, 1, 2, 3, 4, 5, 6, 7, 8, 9, 10, 11, 12, 13, 14, 15, 16, 17, 18] (by decide) rfl ?_
  subst hs_27
  refine g_putF F hin 0 1 dX8_init_30 rfl rfl (by decide) (by decide +kernel) (by decide +kernel) tyX8_ok nmX8 rfl rfl (by decide +kernel) rfl rfl (Nat.le_of_ble_eq_true rfl) rfl (ty := (.object "SummedParents$State")) (w2 := [ob 8 o [.ref (s_9 0), .ref (s_27 0), .null, .null, .null, .null, .null, .null], ob 5 (s_9 0) [.ref (s_9 1), .ref (s_9 2), .ref (s_9 3), .int (nI (sM C0)), .int (nI (sW C0))], ob 1 (s_9 1) [.ref (s_9 4)], ai E (s_9 4) 768 (sN C0), ob 0 (s_9 2) [.ref (s_9 5)], az E (s_9 5) 96 (sU C0), ob 3 (s_9 3) [.ref (s_9 6), .ref (s_9 7), .ref (s_9 8), .int (nI (sZ C0))], ai E (s_9 6) 8 (sn C0), ai E (s_9 7) 8 (sb C0), ai E (s_9 8) 8 (ss C0), ob 5 (s_27 0) [.ref (s_27 1), .ref (s_27 2), .ref (s_27 3), .int (nI (sM Z0)), .int (nI (sW Z0))], ob 1 (s_27 1) [.ref (s_27 4)], ai E (s_27 4) 768 (sN Z0), ob 0 (s_27 2) [.ref (s_27 5)], az E (s_27 5) 96 (sU Z0), ob 3 (s_27 3) [.ref (s_27 6), .ref (s_27 7), .ref (s_27 8), .int (nI (sZ Z0))], ai E (s_27 6) 8 (sn Z0), ai E (s_27 7) 8 (sb Z0), ai E (s_27 8) 8 (ss Z0)]) rfl ?_
  refine g_aload_n F 0 dX8_init_33 rfl rfl ?_
  refine g_new (C := RX2) (ci := 2) (fs := [.null, .int (nI 0)]) F dX8_init_34 (by decide +kernel) tyX2_ok (by decide +kernel) (by decide +kernel) (by decide +kernel) rfl (by decide +kernel) (Nat.le_of_ble_eq_true rfl) (Nat.le_of_ble_eq_true rfl) (fun q34 => ?_)
  refine g_w (w2 := [ob 8 o [.ref (s_9 0), .ref (s_27 0), .null, .null, .null, .null, .null, .null], ob 5 (s_9 0) [.ref (s_9 1), .ref (s_9 2), .ref (s_9 3), .int (nI (sM C0)), .int (nI (sW C0))], ob 1 (s_9 1) [.ref (s_9 4)], ai E (s_9 4) 768 (sN C0), ob 0 (s_9 2) [.ref (s_9 5)], az E (s_9 5) 96 (sU C0), ob 3 (s_9 3) [.ref (s_9 6), .ref (s_9 7), .ref (s_9 8), .int (nI (sZ C0))], ai E (s_9 6) 8 (sn C0), ai E (s_9 7) 8 (sb C0), ai E (s_9 8) 8 (ss C0), ob 5 (s_27 0) [.ref (s_27 1), .ref (s_27 2), .ref (s_27 3), .int (nI (sM Z0)), .int (nI (sW Z0))], ob 1 (s_27 1) [.ref (s_27 4)], ai E (s_27 4) 768 (sN Z0), ob 0 (s_27 2) [.ref (s_27 5)], az E (s_27 5) 96 (sU Z0), ob 3 (s_27 3) [.ref (s_27 6), .ref (s_27 7), .ref (s_27 8), .int (nI (sZ Z0))], ai E (s_27 6) 8 (sn Z0), ai E (s_27 7) 8 (sb Z0), ai E (s_27 8) 8 (ss Z0), ob 2 q34 [.null, .int (nI 0)]]) (List.range 20) (by decide) rfl ?_
  refine g_widen (k := 19) (n := 1800) (Nat.le_of_ble_eq_true rfl) (Nat.le_of_ble_eq_true rfl) ?_
  refine g_dup F dX8_init_37 rfl ?_
  refine g_callIv (n := 0) F [19] (c_X2_init l E q34 ) dX8_init_38 rfl (by decide) rfl rfl rfl (Nat.le_of_ble_eq_true rfl) ⟨Nat.le_of_ble_eq_true rfl, Nat.le_of_ble_eq_true rfl⟩ ⟨Nat.le_of_ble_eq_true rfl, Nat.le_of_ble_eq_true rfl⟩ ggX8_init_X2_init (by decide +kernel) (by decide +kernel) (by decide +kernel) rfl (by decide +kernel) ?_
  rintro u_38 ⟨y1_38, c0_38, c1_38, c2_38, rfl⟩
  refine g_widen (k := 47) (n := 4500) (Nat.le_of_ble_eq_true rfl) (Nat.le_of_ble_eq_true rfl) ?_
  refine g_w (w2 := [ob 8 o [.ref (s_9 0), .ref (s_27 0), .null, .null, .null, .null, .null, .null], ob 5 (s_9 0) [.ref (s_9 1), .ref (s_9 2), .ref (s_9 3), .int (nI (sM C0)), .int (nI (sW C0))], ob 1 (s_9 1) [.ref (s_9 4)], ai E (s_9 4) 768 (sN C0), ob 0 (s_9 2) [.ref (s_9 5)], az E (s_9 5) 96 (sU C0), ob 3 (s_9 3) [.ref (s_9 6), .ref (s_9 7), .ref (s_9 8), .int (nI (sZ C0))], ai E (s_9 6) 8 (sn C0), ai E (s_9 7) 8 (sb C0), ai E (s_9 8) 8 (ss C0), ob 5 (s_27 0) [.ref (s_27 1), .ref (s_27 2), .ref (s_27 3), .int (nI (sM Z0)), .int (nI (sW Z0))], ob 1 (s_27 1) [.ref (s_27 4)], ai E (s_27 4) 768 (sN Z0), ob 0 (s_27 2) [.ref (s_27 5)], az E (s_27 5) 96 (sU Z0), ob 3 (s_27 3) [.ref (s_27 6), .ref (s_27 7), .ref (s_27 8), .int (nI (sZ Z0))], ai E (s_27 6) 8 (sn Z0), ai E (s_27 7) 8 (sb Z0), ai E (s_27 8) 8 (ss Z0), ob 2 q34 [.ref y1_38, .int (nI 0)], aq E y1_38 3 (h3 (c0_38 0) (c1_38 0) (c2_38 0)), ob 5 (c0_38 0) [.ref (c0_38 1), .ref (c0_38 2), .ref (c0_38 3), .int (nI (sM Z0)), .int (nI (sW Z0))], ob 1 (c0_38 1) [.ref (c0_38 4)], ai E (c0_38 4) 768 (sN Z0), ob 0 (c0_38 2) [.ref (c0_38 5)], az E (c0_38 5) 96 (sU Z0), ob 3 (c0_38 3) [.ref (c0_38 6), .ref (c0_38 7), .ref (c0_38 8), .int (nI (sZ Z0))], ai E (c0_38 6) 8 (sn Z0), ai E (c0_38 7) 8 (sb Z0), ai E (c0_38 8) 8 (ss Z0), ob 5 (c1_38 0) [.ref (c1_38 1), .ref (c1_38 2), .ref (c1_38 3), .int (nI (sM Z0)), .int (nI (sW Z0))], ob 1 (c1_38 1) [.ref (c1_38 4)], ai E (c1_38 4) 768 (sN Z0), ob 0 (c1_38 2) [.ref (c1_38 5)], az E (c1_38 5) 96 (sU Z0), ob 3 (c1_38 3) [.ref (c1_38 6), .ref (c1_38 7), .ref (c1_38 8), .int (nI (sZ Z0))], ai E (c1_38 6) 8 (sn Z0), ai E (c1_38 7) 8 (sb Z0), ai E (c1_38 8) 8 (ss Z0), ob 5 (c2_38 0) [.ref (c2_38 1), .ref (c2_38 2), .ref (c2_38 3), .int (nI (sM Z0)), .int (nI (sW Z0))], ob 1 (c2_38 1) [.ref (c2_38 4)], ai E (c2_38 4) 768 (sN Z0), ob 0 (c2_38 2) [.ref (c2_38 5)], az E (c2_38 5) 96 (sU Z0), ob 3 (c2_38 3) [.ref (c2_38 6), .ref (c2_38 7), .ref (c2_38 8), .int (nI (sZ Z0))], ai E (c2_38 6) 8 (sn Z0), ai E (c2_38 7) 8 (sb Z0), ai E (c2_38 8) 8 (ss Z0)]) [0, 1, 2, 3, 4, 5, 6, 7, 8, 9, 10, 11, 12, 13, 14, 15, 16, 17, 18, 19, 20, 21, 22, 23, 24, 25, 26, 27, 28, 29, 30, 31, 32, 33, 34, 35, 36, 37, 38, 39, 40, 41, 42, 43, 44, 45, 46, 47] (by decide) rfl ?_
  refine g_putF F hin 0 2 dX8_init_41 rfl rfl (by decide) (by decide +kernel) (by decide +kernel) tyX8_ok nmX8 rfl rfl (by decide +kernel) rfl rfl (Nat.le_of_ble_eq_true rfl) rfl (ty := (.object "SummedParents$History")) (w2 := [ob 8 o [.ref (s_9 0), .ref (s_27 0), .ref q34, .null, .null, .null, .null, .null], ob 5 (s_9 0) [.ref (s_9 1), .ref (s_9 2), .ref (s_9 3), .int (nI (sM C0)), .int (nI (sW C0))], ob 1 (s_9 1) [.ref (s_9 4)], ai E (s_9 4) 768 (sN C0), ob 0 (s_9 2) [.ref (s_9 5)], az E (s_9 5) 96 (sU C0), ob 3 (s_9 3) [.ref (s_9 6), .ref (s_9 7), .ref (s_9 8), .int (nI (sZ C0))], ai E (s_9 6) 8 (sn C0), ai E (s_9 7) 8 (sb C0), ai E (s_9 8) 8 (ss C0), ob 5 (s_27 0) [.ref (s_27 1), .ref (s_27 2), .ref (s_27 3), .int (nI (sM Z0)), .int (nI (sW Z0))], ob 1 (s_27 1) [.ref (s_27 4)], ai E (s_27 4) 768 (sN Z0), ob 0 (s_27 2) [.ref (s_27 5)], az E (s_27 5) 96 (sU Z0), ob 3 (s_27 3) [.ref (s_27 6), .ref (s_27 7), .ref (s_27 8), .int (nI (sZ Z0))], ai E (s_27 6) 8 (sn Z0), ai E (s_27 7) 8 (sb Z0), ai E (s_27 8) 8 (ss Z0), ob 2 q34 [.ref y1_38, .int (nI 0)], aq E y1_38 3 (h3 (c0_38 0) (c1_38 0) (c2_38 0)), ob 5 (c0_38 0) [.ref (c0_38 1), .ref (c0_38 2), .ref (c0_38 3), .int (nI (sM Z0)), .int (nI (sW Z0))], ob 1 (c0_38 1) [.ref (c0_38 4)], ai E (c0_38 4) 768 (sN Z0), ob 0 (c0_38 2) [.ref (c0_38 5)], az E (c0_38 5) 96 (sU Z0), ob 3 (c0_38 3) [.ref (c0_38 6), .ref (c0_38 7), .ref (c0_38 8), .int (nI (sZ Z0))], ai E (c0_38 6) 8 (sn Z0), ai E (c0_38 7) 8 (sb Z0), ai E (c0_38 8) 8 (ss Z0), ob 5 (c1_38 0) [.ref (c1_38 1), .ref (c1_38 2), .ref (c1_38 3), .int (nI (sM Z0)), .int (nI (sW Z0))], ob 1 (c1_38 1) [.ref (c1_38 4)], ai E (c1_38 4) 768 (sN Z0), ob 0 (c1_38 2) [.ref (c1_38 5)], az E (c1_38 5) 96 (sU Z0), ob 3 (c1_38 3) [.ref (c1_38 6), .ref (c1_38 7), .ref (c1_38 8), .int (nI (sZ Z0))], ai E (c1_38 6) 8 (sn Z0), ai E (c1_38 7) 8 (sb Z0), ai E (c1_38 8) 8 (ss Z0), ob 5 (c2_38 0) [.ref (c2_38 1), .ref (c2_38 2), .ref (c2_38 3), .int (nI (sM Z0)), .int (nI (sW Z0))], ob 1 (c2_38 1) [.ref (c2_38 4)], ai E (c2_38 4) 768 (sN Z0), ob 0 (c2_38 2) [.ref (c2_38 5)], az E (c2_38 5) 96 (sU Z0), ob 3 (c2_38 3) [.ref (c2_38 6), .ref (c2_38 7), .ref (c2_38 8), .int (nI (sZ Z0))], ai E (c2_38 6) 8 (sn Z0), ai E (c2_38 7) 8 (sb Z0), ai E (c2_38 8) 8 (ss Z0)]) rfl ?_
  refine g_aload_n F 0 dX8_init_44 rfl rfl ?_
  refine g_new (C := RX4) (ci := 4) (fs := [.null, .int (nI 0), .int (nI 0), .int (nI 0), .int (nI 0), .int (nI 0), .int (nI 0)]) F dX8_init_45 (by decide +kernel) tyX4_ok (by decide +kernel) (by decide +kernel) (by decide +kernel) rfl (by decide +kernel) (Nat.le_of_ble_eq_true rfl) (Nat.le_of_ble_eq_true rfl) (fun q45 => ?_)
  refine g_w (w2 := [ob 8 o [.ref (s_9 0), .ref (s_27 0), .ref q34, .null, .null, .null, .null, .null], ob 5 (s_9 0) [.ref (s_9 1), .ref (s_9 2), .ref (s_9 3), .int (nI (sM C0)), .int (nI (sW C0))], ob 1 (s_9 1) [.ref (s_9 4)], ai E (s_9 4) 768 (sN C0), ob 0 (s_9 2) [.ref (s_9 5)], az E (s_9 5) 96 (sU C0), ob 3 (s_9 3) [.ref (s_9 6), .ref (s_9 7), .ref (s_9 8), .int (nI (sZ C0))], ai E (s_9 6) 8 (sn C0), ai E (s_9 7) 8 (sb C0), ai E (s_9 8) 8 (ss C0), ob 5 (s_27 0) [.ref (s_27 1), .ref (s_27 2), .ref (s_27 3), .int (nI (sM Z0)), .int (nI (sW Z0))], ob 1 (s_27 1) [.ref (s_27 4)], ai E (s_27 4) 768 (sN Z0), ob 0 (s_27 2) [.ref (s_27 5)], az E (s_27 5) 96 (sU Z0), ob 3 (s_27 3) [.ref (s_27 6), .ref (s_27 7), .ref (s_27 8), .int (nI (sZ Z0))], ai E (s_27 6) 8 (sn Z0), ai E (s_27 7) 8 (sb Z0), ai E (s_27 8) 8 (ss Z0), ob 2 q34 [.ref y1_38, .int (nI 0)], aq E y1_38 3 (h3 (c0_38 0) (c1_38 0) (c2_38 0)), ob 5 (c0_38 0) [.ref (c0_38 1), .ref (c0_38 2), .ref (c0_38 3), .int (nI (sM Z0)), .int (nI (sW Z0))], ob 1 (c0_38 1) [.ref (c0_38 4)], ai E (c0_38 4) 768 (sN Z0), ob 0 (c0_38 2) [.ref (c0_38 5)], az E (c0_38 5) 96 (sU Z0), ob 3 (c0_38 3) [.ref (c0_38 6), .ref (c0_38 7), .ref (c0_38 8), .int (nI (sZ Z0))], ai E (c0_38 6) 8 (sn Z0), ai E (c0_38 7) 8 (sb Z0), ai E (c0_38 8) 8 (ss Z0), ob 5 (c1_38 0) [.ref (c1_38 1), .ref (c1_38 2), .ref (c1_38 3), .int (nI (sM Z0)), .int (nI (sW Z0))], ob 1 (c1_38 1) [.ref (c1_38 4)], ai E (c1_38 4) 768 (sN Z0), ob 0 (c1_38 2) [.ref (c1_38 5)], az E (c1_38 5) 96 (sU Z0), ob 3 (c1_38 3) [.ref (c1_38 6), .ref (c1_38 7), .ref (c1_38 8), .int (nI (sZ Z0))], ai E (c1_38 6) 8 (sn Z0), ai E (c1_38 7) 8 (sb Z0), ai E (c1_38 8) 8 (ss Z0), ob 5 (c2_38 0) [.ref (c2_38 1), .ref (c2_38 2), .ref (c2_38 3), .int (nI (sM Z0)), .int (nI (sW Z0))], ob 1 (c2_38 1) [.ref (c2_38 4)], ai E (c2_38 4) 768 (sN Z0), ob 0 (c2_38 2) [.ref (c2_38 5)], az E (c2_38 5) 96 (sU Z0), ob 3 (c2_38 3) [.ref (c2_38 6), .ref (c2_38 7), .ref (c2_38 8), .int (nI (sZ Z0))], ai E (c2_38 6) 8 (sn Z0), ai E (c2_38 7) 8 (sb Z0), ai E (c2_38 8) 8 (ss Z0), ob 4 q45 [.null, .int (nI 0), .int (nI 0), .int (nI 0), .int (nI 0), .int (nI 0), .int (nI 0)]]) (List.range 49) (by decide) rfl ?_
  refine g_widen (k := 48) (n := 4507) (Nat.le_of_ble_eq_true rfl) (Nat.le_of_ble_eq_true rfl) ?_
  refine g_dup F dX8_init_48 rfl ?_
  refine g_callINv (n := 0) F [48] (c_X4_init l E q45 ) dX8_init_49 rfl (by decide) rfl rfl rfl (Nat.le_of_ble_eq_true rfl) ⟨Nat.le_of_ble_eq_true rfl, Nat.le_of_ble_eq_true rfl⟩ ⟨Nat.le_of_ble_eq_true rfl, Nat.le_of_ble_eq_true rfl⟩ (host := "SummedParents") ggX8_init_X4_init (by decide +kernel) (by decide +kernel) (by decide +kernel) rfl (by decide +kernel) ?_
  rintro u_49 ⟨a1_49, rfl⟩
  refine g_widen (k := 49) (n := 4567) (Nat.le_of_ble_eq_true rfl) (Nat.le_of_ble_eq_true rfl) ?_
  refine g_w (w2 := [ob 8 o [.ref (s_9 0), .ref (s_27 0), .ref q34, .null, .null, .null, .null, .null], ob 5 (s_9 0) [.ref (s_9 1), .ref (s_9 2), .ref (s_9 3), .int (nI (sM C0)), .int (nI (sW C0))], ob 1 (s_9 1) [.ref (s_9 4)], ai E (s_9 4) 768 (sN C0), ob 0 (s_9 2) [.ref (s_9 5)], az E (s_9 5) 96 (sU C0), ob 3 (s_9 3) [.ref (s_9 6), .ref (s_9 7), .ref (s_9 8), .int (nI (sZ C0))], ai E (s_9 6) 8 (sn C0), ai E (s_9 7) 8 (sb C0), ai E (s_9 8) 8 (ss C0), ob 5 (s_27 0) [.ref (s_27 1), .ref (s_27 2), .ref (s_27 3), .int (nI (sM Z0)), .int (nI (sW Z0))], ob 1 (s_27 1) [.ref (s_27 4)], ai E (s_27 4) 768 (sN Z0), ob 0 (s_27 2) [.ref (s_27 5)], az E (s_27 5) 96 (sU Z0), ob 3 (s_27 3) [.ref (s_27 6), .ref (s_27 7), .ref (s_27 8), .int (nI (sZ Z0))], ai E (s_27 6) 8 (sn Z0), ai E (s_27 7) 8 (sb Z0), ai E (s_27 8) 8 (ss Z0), ob 2 q34 [.ref y1_38, .int (nI 0)], aq E y1_38 3 (h3 (c0_38 0) (c1_38 0) (c2_38 0)), ob 5 (c0_38 0) [.ref (c0_38 1), .ref (c0_38 2), .ref (c0_38 3), .int (nI (sM Z0)), .int (nI (sW Z0))], ob 1 (c0_38 1) [.ref (c0_38 4)], ai E (c0_38 4) 768 (sN Z0), ob 0 (c0_38 2) [.ref (c0_38 5)], az E (c0_38 5) 96 (sU Z0), ob 3 (c0_38 3) [.ref (c0_38 6), .ref (c0_38 7), .ref (c0_38 8), .int (nI (sZ Z0))], ai E (c0_38 6) 8 (sn Z0), ai E (c0_38 7) 8 (sb Z0), ai E (c0_38 8) 8 (ss Z0), ob 5 (c1_38 0) [.ref (c1_38 1), .ref (c1_38 2), .ref (c1_38 3), .int (nI (sM Z0)), .int (nI (sW Z0))], ob 1 (c1_38 1) [.ref (c1_38 4)], ai E (c1_38 4) 768 (sN Z0), ob 0 (c1_38 2) [.ref (c1_38 5)], az E (c1_38 5) 96 (sU Z0), ob 3 (c1_38 3) [.ref (c1_38 6), .ref (c1_38 7), .ref (c1_38 8), .int (nI (sZ Z0))], ai E (c1_38 6) 8 (sn Z0), ai E (c1_38 7) 8 (sb Z0), ai E (c1_38 8) 8 (ss Z0), ob 5 (c2_38 0) [.ref (c2_38 1), .ref (c2_38 2), .ref (c2_38 3), .int (nI (sM Z0)), .int (nI (sW Z0))], ob 1 (c2_38 1) [.ref (c2_38 4)], ai E (c2_38 4) 768 (sN Z0), ob 0 (c2_38 2) [.ref (c2_38 5)], az E (c2_38 5) 96 (sU Z0), ob 3 (c2_38 3) [.ref (c2_38 6), .ref (c2_38 7), .ref (c2_38 8), .int (nI (sZ Z0))], ai E (c2_38 6) 8 (sn Z0), ai E (c2_38 7) 8 (sb Z0), ai E (c2_38 8) 8 (ss Z0), ob 4 q45 [.ref a1_49, .int (nI 0), .int (nI 0), .int (nI 0), .int (nI 0), .int (nI 0), .int (nI 0)], ac E a1_49 60 (fun _ => 0)]) [0, 1, 2, 3, 4, 5, 6, 7, 8, 9, 10, 11, 12, 13, 14, 15, 16, 17, 18, 19, 20, 21, 22, 23, 24, 25, 26, 27, 28, 29, 30, 31, 32, 33, 34, 35, 36, 37, 38, 39, 40, 41, 42, 43, 44, 45, 46, 47, 48, 49] (by decide) rfl ?_
  refine g_putF F hin 0 3 dX8_init_52 rfl rfl (by decide) (by decide +kernel) (by decide +kernel) tyX8_ok nmX8 rfl rfl (by decide +kernel) rfl rfl (Nat.le_of_ble_eq_true rfl) rfl (ty := (.object "SummedParents$Script")) (w2 := [ob 8 o [.ref (s_9 0), .ref (s_27 0), .ref q34, .ref q45, .null, .null, .null, .null], ob 5 (s_9 0) [.ref (s_9 1), .ref (s_9 2), .ref (s_9 3), .int (nI (sM C0)), .int (nI (sW C0))], ob 1 (s_9 1) [.ref (s_9 4)], ai E (s_9 4) 768 (sN C0), ob 0 (s_9 2) [.ref (s_9 5)], az E (s_9 5) 96 (sU C0), ob 3 (s_9 3) [.ref (s_9 6), .ref (s_9 7), .ref (s_9 8), .int (nI (sZ C0))], ai E (s_9 6) 8 (sn C0), ai E (s_9 7) 8 (sb C0), ai E (s_9 8) 8 (ss C0), ob 5 (s_27 0) [.ref (s_27 1), .ref (s_27 2), .ref (s_27 3), .int (nI (sM Z0)), .int (nI (sW Z0))], ob 1 (s_27 1) [.ref (s_27 4)], ai E (s_27 4) 768 (sN Z0), ob 0 (s_27 2) [.ref (s_27 5)], az E (s_27 5) 96 (sU Z0), ob 3 (s_27 3) [.ref (s_27 6), .ref (s_27 7), .ref (s_27 8), .int (nI (sZ Z0))], ai E (s_27 6) 8 (sn Z0), ai E (s_27 7) 8 (sb Z0), ai E (s_27 8) 8 (ss Z0), ob 2 q34 [.ref y1_38, .int (nI 0)], aq E y1_38 3 (h3 (c0_38 0) (c1_38 0) (c2_38 0)), ob 5 (c0_38 0) [.ref (c0_38 1), .ref (c0_38 2), .ref (c0_38 3), .int (nI (sM Z0)), .int (nI (sW Z0))], ob 1 (c0_38 1) [.ref (c0_38 4)], ai E (c0_38 4) 768 (sN Z0), ob 0 (c0_38 2) [.ref (c0_38 5)], az E (c0_38 5) 96 (sU Z0), ob 3 (c0_38 3) [.ref (c0_38 6), .ref (c0_38 7), .ref (c0_38 8), .int (nI (sZ Z0))], ai E (c0_38 6) 8 (sn Z0), ai E (c0_38 7) 8 (sb Z0), ai E (c0_38 8) 8 (ss Z0), ob 5 (c1_38 0) [.ref (c1_38 1), .ref (c1_38 2), .ref (c1_38 3), .int (nI (sM Z0)), .int (nI (sW Z0))], ob 1 (c1_38 1) [.ref (c1_38 4)], ai E (c1_38 4) 768 (sN Z0), ob 0 (c1_38 2) [.ref (c1_38 5)], az E (c1_38 5) 96 (sU Z0), ob 3 (c1_38 3) [.ref (c1_38 6), .ref (c1_38 7), .ref (c1_38 8), .int (nI (sZ Z0))], ai E (c1_38 6) 8 (sn Z0), ai E (c1_38 7) 8 (sb Z0), ai E (c1_38 8) 8 (ss Z0), ob 5 (c2_38 0) [.ref (c2_38 1), .ref (c2_38 2), .ref (c2_38 3), .int (nI (sM Z0)), .int (nI (sW Z0))], ob 1 (c2_38 1) [.ref (c2_38 4)], ai E (c2_38 4) 768 (sN Z0), ob 0 (c2_38 2) [.ref (c2_38 5)], az E (c2_38 5) 96 (sU Z0), ob 3 (c2_38 3) [.ref (c2_38 6), .ref (c2_38 7), .ref (c2_38 8), .int (nI (sZ Z0))], ai E (c2_38 6) 8 (sn Z0), ai E (c2_38 7) 8 (sb Z0), ai E (c2_38 8) 8 (ss Z0), ob 4 q45 [.ref a1_49, .int (nI 0), .int (nI 0), .int (nI 0), .int (nI 0), .int (nI 0), .int (nI 0)], ac E a1_49 60 (fun _ => 0)]) rfl ?_
  refine g_aload_n F 0 dX8_init_55 rfl rfl ?_
  refine g_new (C := RX6) (ci := 6) (fs := [.int (nI 0), .int (nI 0), .int (nI 0), .int (nI 0)]) F dX8_init_56 (by decide +kernel) tyX6_ok (by decide +kernel) (by decide +kernel) (by decide +kernel) rfl (by decide +kernel) (Nat.le_of_ble_eq_true rfl) (Nat.le_of_ble_eq_true rfl) (fun q56 => ?_)
  refine g_w (w2 := [ob 8 o [.ref (s_9 0), .ref (s_27 0), .ref q34, .ref q45, .null, .null, .null, .null], ob 5 (s_9 0) [.ref (s_9 1), .ref (s_9 2), .ref (s_9 3), .int (nI (sM C0)), .int (nI (sW C0))], ob 1 (s_9 1) [.ref (s_9 4)], ai E (s_9 4) 768 (sN C0), ob 0 (s_9 2) [.ref (s_9 5)], az E (s_9 5) 96 (sU C0), ob 3 (s_9 3) [.ref (s_9 6), .ref (s_9 7), .ref (s_9 8), .int (nI (sZ C0))], ai E (s_9 6) 8 (sn C0), ai E (s_9 7) 8 (sb C0), ai E (s_9 8) 8 (ss C0), ob 5 (s_27 0) [.ref (s_27 1), .ref (s_27 2), .ref (s_27 3), .int (nI (sM Z0)), .int (nI (sW Z0))], ob 1 (s_27 1) [.ref (s_27 4)], ai E (s_27 4) 768 (sN Z0), ob 0 (s_27 2) [.ref (s_27 5)], az E (s_27 5) 96 (sU Z0), ob 3 (s_27 3) [.ref (s_27 6), .ref (s_27 7), .ref (s_27 8), .int (nI (sZ Z0))], ai E (s_27 6) 8 (sn Z0), ai E (s_27 7) 8 (sb Z0), ai E (s_27 8) 8 (ss Z0), ob 2 q34 [.ref y1_38, .int (nI 0)], aq E y1_38 3 (h3 (c0_38 0) (c1_38 0) (c2_38 0)), ob 5 (c0_38 0) [.ref (c0_38 1), .ref (c0_38 2), .ref (c0_38 3), .int (nI (sM Z0)), .int (nI (sW Z0))], ob 1 (c0_38 1) [.ref (c0_38 4)], ai E (c0_38 4) 768 (sN Z0), ob 0 (c0_38 2) [.ref (c0_38 5)], az E (c0_38 5) 96 (sU Z0), ob 3 (c0_38 3) [.ref (c0_38 6), .ref (c0_38 7), .ref (c0_38 8), .int (nI (sZ Z0))], ai E (c0_38 6) 8 (sn Z0), ai E (c0_38 7) 8 (sb Z0), ai E (c0_38 8) 8 (ss Z0), ob 5 (c1_38 0) [.ref (c1_38 1), .ref (c1_38 2), .ref (c1_38 3), .int (nI (sM Z0)), .int (nI (sW Z0))], ob 1 (c1_38 1) [.ref (c1_38 4)], ai E (c1_38 4) 768 (sN Z0), ob 0 (c1_38 2) [.ref (c1_38 5)], az E (c1_38 5) 96 (sU Z0), ob 3 (c1_38 3) [.ref (c1_38 6), .ref (c1_38 7), .ref (c1_38 8), .int (nI (sZ Z0))], ai E (c1_38 6) 8 (sn Z0), ai E (c1_38 7) 8 (sb Z0), ai E (c1_38 8) 8 (ss Z0), ob 5 (c2_38 0) [.ref (c2_38 1), .ref (c2_38 2), .ref (c2_38 3), .int (nI (sM Z0)), .int (nI (sW Z0))], ob 1 (c2_38 1) [.ref (c2_38 4)], ai E (c2_38 4) 768 (sN Z0), ob 0 (c2_38 2) [.ref (c2_38 5)], az E (c2_38 5) 96 (sU Z0), ob 3 (c2_38 3) [.ref (c2_38 6), .ref (c2_38 7), .ref (c2_38 8), .int (nI (sZ Z0))], ai E (c2_38 6) 8 (sn Z0), ai E (c2_38 7) 8 (sb Z0), ai E (c2_38 8) 8 (ss Z0), ob 4 q45 [.ref a1_49, .int (nI 0), .int (nI 0), .int (nI 0), .int (nI 0), .int (nI 0), .int (nI 0)], ac E a1_49 60 (fun _ => 0), ob 6 q56 [.int (nI 0), .int (nI 0), .int (nI 0), .int (nI 0)]]) (List.range 51) (by decide) rfl ?_
  refine g_widen (k := 50) (n := 4571) (Nat.le_of_ble_eq_true rfl) (Nat.le_of_ble_eq_true rfl) ?_
  refine g_dup F dX8_init_59 rfl ?_
  refine g_callINv (n := 0) F [50] (c_X6_init l E q56 ) dX8_init_60 rfl (by decide) rfl rfl rfl (Nat.le_of_ble_eq_true rfl) ⟨Nat.le_of_ble_eq_true rfl, Nat.le_of_ble_eq_true rfl⟩ ⟨Nat.le_of_ble_eq_true rfl, Nat.le_of_ble_eq_true rfl⟩ (host := "SummedParents") ggX8_init_X6_init (by decide +kernel) (by decide +kernel) (by decide +kernel) rfl (by decide +kernel) ?_
  rintro u_60 rfl
  refine g_widen (k := 50) (n := 4571) (Nat.le_of_ble_eq_true rfl) (Nat.le_of_ble_eq_true rfl) ?_
  refine g_w (w2 := [ob 8 o [.ref (s_9 0), .ref (s_27 0), .ref q34, .ref q45, .null, .null, .null, .null], ob 5 (s_9 0) [.ref (s_9 1), .ref (s_9 2), .ref (s_9 3), .int (nI (sM C0)), .int (nI (sW C0))], ob 1 (s_9 1) [.ref (s_9 4)], ai E (s_9 4) 768 (sN C0), ob 0 (s_9 2) [.ref (s_9 5)], az E (s_9 5) 96 (sU C0), ob 3 (s_9 3) [.ref (s_9 6), .ref (s_9 7), .ref (s_9 8), .int (nI (sZ C0))], ai E (s_9 6) 8 (sn C0), ai E (s_9 7) 8 (sb C0), ai E (s_9 8) 8 (ss C0), ob 5 (s_27 0) [.ref (s_27 1), .ref (s_27 2), .ref (s_27 3), .int (nI (sM Z0)), .int (nI (sW Z0))], ob 1 (s_27 1) [.ref (s_27 4)], ai E (s_27 4) 768 (sN Z0), ob 0 (s_27 2) [.ref (s_27 5)], az E (s_27 5) 96 (sU Z0), ob 3 (s_27 3) [.ref (s_27 6), .ref (s_27 7), .ref (s_27 8), .int (nI (sZ Z0))], ai E (s_27 6) 8 (sn Z0), ai E (s_27 7) 8 (sb Z0), ai E (s_27 8) 8 (ss Z0), ob 2 q34 [.ref y1_38, .int (nI 0)], aq E y1_38 3 (h3 (c0_38 0) (c1_38 0) (c2_38 0)), ob 5 (c0_38 0) [.ref (c0_38 1), .ref (c0_38 2), .ref (c0_38 3), .int (nI (sM Z0)), .int (nI (sW Z0))], ob 1 (c0_38 1) [.ref (c0_38 4)], ai E (c0_38 4) 768 (sN Z0), ob 0 (c0_38 2) [.ref (c0_38 5)], az E (c0_38 5) 96 (sU Z0), ob 3 (c0_38 3) [.ref (c0_38 6), .ref (c0_38 7), .ref (c0_38 8), .int (nI (sZ Z0))], ai E (c0_38 6) 8 (sn Z0), ai E (c0_38 7) 8 (sb Z0), ai E (c0_38 8) 8 (ss Z0), ob 5 (c1_38 0) [.ref (c1_38 1), .ref (c1_38 2), .ref (c1_38 3), .int (nI (sM Z0)), .int (nI (sW Z0))], ob 1 (c1_38 1) [.ref (c1_38 4)], ai E (c1_38 4) 768 (sN Z0), ob 0 (c1_38 2) [.ref (c1_38 5)], az E (c1_38 5) 96 (sU Z0), ob 3 (c1_38 3) [.ref (c1_38 6), .ref (c1_38 7), .ref (c1_38 8), .int (nI (sZ Z0))], ai E (c1_38 6) 8 (sn Z0), ai E (c1_38 7) 8 (sb Z0), ai E (c1_38 8) 8 (ss Z0), ob 5 (c2_38 0) [.ref (c2_38 1), .ref (c2_38 2), .ref (c2_38 3), .int (nI (sM Z0)), .int (nI (sW Z0))], ob 1 (c2_38 1) [.ref (c2_38 4)], ai E (c2_38 4) 768 (sN Z0), ob 0 (c2_38 2) [.ref (c2_38 5)], az E (c2_38 5) 96 (sU Z0), ob 3 (c2_38 3) [.ref (c2_38 6), .ref (c2_38 7), .ref (c2_38 8), .int (nI (sZ Z0))], ai E (c2_38 6) 8 (sn Z0), ai E (c2_38 7) 8 (sb Z0), ai E (c2_38 8) 8 (ss Z0), ob 4 q45 [.ref a1_49, .int (nI 0), .int (nI 0), .int (nI 0), .int (nI 0), .int (nI 0), .int (nI 0)], ac E a1_49 60 (fun _ => 0), ob 6 q56 [.int (nI 0), .int (nI 0), .int (nI 0), .int (nI 0)]]) [0, 1, 2, 3, 4, 5, 6, 7, 8, 9, 10, 11, 12, 13, 14, 15, 16, 17, 18, 19, 20, 21, 22, 23, 24, 25, 26, 27, 28, 29, 30, 31, 32, 33, 34, 35, 36, 37, 38, 39, 40, 41, 42, 43, 44, 45, 46, 47, 48, 49, 50] (by decide) rfl ?_
  refine g_putF F hin 0 4 dX8_init_63 rfl rfl (by decide) (by decide +kernel) (by decide +kernel) tyX8_ok nmX8 rfl rfl (by decide +kernel) rfl rfl (Nat.le_of_ble_eq_true rfl) rfl (ty := (.object "SummedParents$Verdict")) (w2 := [ob 8 o [.ref (s_9 0), .ref (s_27 0), .ref q34, .ref q45, .ref q56, .null, .null, .null], ob 5 (s_9 0) [.ref (s_9 1), .ref (s_9 2), .ref (s_9 3), .int (nI (sM C0)), .int (nI (sW C0))], ob 1 (s_9 1) [.ref (s_9 4)], ai E (s_9 4) 768 (sN C0), ob 0 (s_9 2) [.ref (s_9 5)], az E (s_9 5) 96 (sU C0), ob 3 (s_9 3) [.ref (s_9 6), .ref (s_9 7), .ref (s_9 8), .int (nI (sZ C0))], ai E (s_9 6) 8 (sn C0), ai E (s_9 7) 8 (sb C0), ai E (s_9 8) 8 (ss C0), ob 5 (s_27 0) [.ref (s_27 1), .ref (s_27 2), .ref (s_27 3), .int (nI (sM Z0)), .int (nI (sW Z0))], ob 1 (s_27 1) [.ref (s_27 4)], ai E (s_27 4) 768 (sN Z0), ob 0 (s_27 2) [.ref (s_27 5)], az E (s_27 5) 96 (sU Z0), ob 3 (s_27 3) [.ref (s_27 6), .ref (s_27 7), .ref (s_27 8), .int (nI (sZ Z0))], ai E (s_27 6) 8 (sn Z0), ai E (s_27 7) 8 (sb Z0), ai E (s_27 8) 8 (ss Z0), ob 2 q34 [.ref y1_38, .int (nI 0)], aq E y1_38 3 (h3 (c0_38 0) (c1_38 0) (c2_38 0)), ob 5 (c0_38 0) [.ref (c0_38 1), .ref (c0_38 2), .ref (c0_38 3), .int (nI (sM Z0)), .int (nI (sW Z0))], ob 1 (c0_38 1) [.ref (c0_38 4)], ai E (c0_38 4) 768 (sN Z0), ob 0 (c0_38 2) [.ref (c0_38 5)], az E (c0_38 5) 96 (sU Z0), ob 3 (c0_38 3) [.ref (c0_38 6), .ref (c0_38 7), .ref (c0_38 8), .int (nI (sZ Z0))], ai E (c0_38 6) 8 (sn Z0), ai E (c0_38 7) 8 (sb Z0), ai E (c0_38 8) 8 (ss Z0), ob 5 (c1_38 0) [.ref (c1_38 1), .ref (c1_38 2), .ref (c1_38 3), .int (nI (sM Z0)), .int (nI (sW Z0))], ob 1 (c1_38 1) [.ref (c1_38 4)], ai E (c1_38 4) 768 (sN Z0), ob 0 (c1_38 2) [.ref (c1_38 5)], az E (c1_38 5) 96 (sU Z0), ob 3 (c1_38 3) [.ref (c1_38 6), .ref (c1_38 7), .ref (c1_38 8), .int (nI (sZ Z0))], ai E (c1_38 6) 8 (sn Z0), ai E (c1_38 7) 8 (sb Z0), ai E (c1_38 8) 8 (ss Z0), ob 5 (c2_38 0) [.ref (c2_38 1), .ref (c2_38 2), .ref (c2_38 3), .int (nI (sM Z0)), .int (nI (sW Z0))], ob 1 (c2_38 1) [.ref (c2_38 4)], ai E (c2_38 4) 768 (sN Z0), ob 0 (c2_38 2) [.ref (c2_38 5)], az E (c2_38 5) 96 (sU Z0), ob 3 (c2_38 3) [.ref (c2_38 6), .ref (c2_38 7), .ref (c2_38 8), .int (nI (sZ Z0))], ai E (c2_38 6) 8 (sn Z0), ai E (c2_38 7) 8 (sb Z0), ai E (c2_38 8) 8 (ss Z0), ob 4 q45 [.ref a1_49, .int (nI 0), .int (nI 0), .int (nI 0), .int (nI 0), .int (nI 0), .int (nI 0)], ac E a1_49 60 (fun _ => 0), ob 6 q56 [.int (nI 0), .int (nI 0), .int (nI 0), .int (nI 0)]]) rfl ?_
  refine g_aload_n F 0 dX8_init_66 rfl rfl ?_
  refine g_new (C := RX7) (ci := 7) (fs := [.null, .null, .null, .null, .int (nI 0)]) F dX8_init_67 (by decide +kernel) tyX7_ok (by decide +kernel) (by decide +kernel) (by decide +kernel) rfl (by decide +kernel) (Nat.le_of_ble_eq_true rfl) (Nat.le_of_ble_eq_true rfl) (fun q67 => ?_)
  refine g_w (w2 := [ob 8 o [.ref (s_9 0), .ref (s_27 0), .ref q34, .ref q45, .ref q56, .null, .null, .null], ob 5 (s_9 0) [.ref (s_9 1), .ref (s_9 2), .ref (s_9 3), .int (nI (sM C0)), .int (nI (sW C0))], ob 1 (s_9 1) [.ref (s_9 4)], ai E (s_9 4) 768 (sN C0), ob 0 (s_9 2) [.ref (s_9 5)], az E (s_9 5) 96 (sU C0), ob 3 (s_9 3) [.ref (s_9 6), .ref (s_9 7), .ref (s_9 8), .int (nI (sZ C0))], ai E (s_9 6) 8 (sn C0), ai E (s_9 7) 8 (sb C0), ai E (s_9 8) 8 (ss C0), ob 5 (s_27 0) [.ref (s_27 1), .ref (s_27 2), .ref (s_27 3), .int (nI (sM Z0)), .int (nI (sW Z0))], ob 1 (s_27 1) [.ref (s_27 4)], ai E (s_27 4) 768 (sN Z0), ob 0 (s_27 2) [.ref (s_27 5)], az E (s_27 5) 96 (sU Z0), ob 3 (s_27 3) [.ref (s_27 6), .ref (s_27 7), .ref (s_27 8), .int (nI (sZ Z0))], ai E (s_27 6) 8 (sn Z0), ai E (s_27 7) 8 (sb Z0), ai E (s_27 8) 8 (ss Z0), ob 2 q34 [.ref y1_38, .int (nI 0)], aq E y1_38 3 (h3 (c0_38 0) (c1_38 0) (c2_38 0)), ob 5 (c0_38 0) [.ref (c0_38 1), .ref (c0_38 2), .ref (c0_38 3), .int (nI (sM Z0)), .int (nI (sW Z0))], ob 1 (c0_38 1) [.ref (c0_38 4)], ai E (c0_38 4) 768 (sN Z0), ob 0 (c0_38 2) [.ref (c0_38 5)], az E (c0_38 5) 96 (sU Z0), ob 3 (c0_38 3) [.ref (c0_38 6), .ref (c0_38 7), .ref (c0_38 8), .int (nI (sZ Z0))], ai E (c0_38 6) 8 (sn Z0), ai E (c0_38 7) 8 (sb Z0), ai E (c0_38 8) 8 (ss Z0), ob 5 (c1_38 0) [.ref (c1_38 1), .ref (c1_38 2), .ref (c1_38 3), .int (nI (sM Z0)), .int (nI (sW Z0))], ob 1 (c1_38 1) [.ref (c1_38 4)], ai E (c1_38 4) 768 (sN Z0), ob 0 (c1_38 2) [.ref (c1_38 5)], az E (c1_38 5) 96 (sU Z0), ob 3 (c1_38 3) [.ref (c1_38 6), .ref (c1_38 7), .ref (c1_38 8), .int (nI (sZ Z0))], ai E (c1_38 6) 8 (sn Z0), ai E (c1_38 7) 8 (sb Z0), ai E (c1_38 8) 8 (ss Z0), ob 5 (c2_38 0) [.ref (c2_38 1), .ref (c2_38 2), .ref (c2_38 3), .int (nI (sM Z0)), .int (nI (sW Z0))], ob 1 (c2_38 1) [.ref (c2_38 4)], ai E (c2_38 4) 768 (sN Z0), ob 0 (c2_38 2) [.ref (c2_38 5)], az E (c2_38 5) 96 (sU Z0), ob 3 (c2_38 3) [.ref (c2_38 6), .ref (c2_38 7), .ref (c2_38 8), .int (nI (sZ Z0))], ai E (c2_38 6) 8 (sn Z0), ai E (c2_38 7) 8 (sb Z0), ai E (c2_38 8) 8 (ss Z0), ob 4 q45 [.ref a1_49, .int (nI 0), .int (nI 0), .int (nI 0), .int (nI 0), .int (nI 0), .int (nI 0)], ac E a1_49 60 (fun _ => 0), ob 6 q56 [.int (nI 0), .int (nI 0), .int (nI 0), .int (nI 0)], ob 7 q67 [.null, .null, .null, .null, .int (nI 0)]]) (List.range 52) (by decide) rfl ?_
  refine g_widen (k := 51) (n := 4576) (Nat.le_of_ble_eq_true rfl) (Nat.le_of_ble_eq_true rfl) ?_
  refine g_dup F dX8_init_70 rfl ?_
  refine g_callINv (n := 0) F [51] (c_X7_init l E q67 ) dX8_init_71 rfl (by decide) rfl rfl rfl (Nat.le_of_ble_eq_true rfl) ⟨Nat.le_of_ble_eq_true rfl, Nat.le_of_ble_eq_true rfl⟩ ⟨Nat.le_of_ble_eq_true rfl, Nat.le_of_ble_eq_true rfl⟩ (host := "SummedParents") ggX8_init_X7_init (by decide +kernel) (by decide +kernel) (by decide +kernel) rfl (by decide +kernel) ?_
  rintro u_71 ⟨a1_71, a2_71, a3_71, a4_71, rfl⟩
  refine g_widen (k := 55) (n := 4597) (Nat.le_of_ble_eq_true rfl) (Nat.le_of_ble_eq_true rfl) ?_
  refine g_w (w2 := [ob 8 o [.ref (s_9 0), .ref (s_27 0), .ref q34, .ref q45, .ref q56, .null, .null, .null], ob 5 (s_9 0) [.ref (s_9 1), .ref (s_9 2), .ref (s_9 3), .int (nI (sM C0)), .int (nI (sW C0))], ob 1 (s_9 1) [.ref (s_9 4)], ai E (s_9 4) 768 (sN C0), ob 0 (s_9 2) [.ref (s_9 5)], az E (s_9 5) 96 (sU C0), ob 3 (s_9 3) [.ref (s_9 6), .ref (s_9 7), .ref (s_9 8), .int (nI (sZ C0))], ai E (s_9 6) 8 (sn C0), ai E (s_9 7) 8 (sb C0), ai E (s_9 8) 8 (ss C0), ob 5 (s_27 0) [.ref (s_27 1), .ref (s_27 2), .ref (s_27 3), .int (nI (sM Z0)), .int (nI (sW Z0))], ob 1 (s_27 1) [.ref (s_27 4)], ai E (s_27 4) 768 (sN Z0), ob 0 (s_27 2) [.ref (s_27 5)], az E (s_27 5) 96 (sU Z0), ob 3 (s_27 3) [.ref (s_27 6), .ref (s_27 7), .ref (s_27 8), .int (nI (sZ Z0))], ai E (s_27 6) 8 (sn Z0), ai E (s_27 7) 8 (sb Z0), ai E (s_27 8) 8 (ss Z0), ob 2 q34 [.ref y1_38, .int (nI 0)], aq E y1_38 3 (h3 (c0_38 0) (c1_38 0) (c2_38 0)), ob 5 (c0_38 0) [.ref (c0_38 1), .ref (c0_38 2), .ref (c0_38 3), .int (nI (sM Z0)), .int (nI (sW Z0))], ob 1 (c0_38 1) [.ref (c0_38 4)], ai E (c0_38 4) 768 (sN Z0), ob 0 (c0_38 2) [.ref (c0_38 5)], az E (c0_38 5) 96 (sU Z0), ob 3 (c0_38 3) [.ref (c0_38 6), .ref (c0_38 7), .ref (c0_38 8), .int (nI (sZ Z0))], ai E (c0_38 6) 8 (sn Z0), ai E (c0_38 7) 8 (sb Z0), ai E (c0_38 8) 8 (ss Z0), ob 5 (c1_38 0) [.ref (c1_38 1), .ref (c1_38 2), .ref (c1_38 3), .int (nI (sM Z0)), .int (nI (sW Z0))], ob 1 (c1_38 1) [.ref (c1_38 4)], ai E (c1_38 4) 768 (sN Z0), ob 0 (c1_38 2) [.ref (c1_38 5)], az E (c1_38 5) 96 (sU Z0), ob 3 (c1_38 3) [.ref (c1_38 6), .ref (c1_38 7), .ref (c1_38 8), .int (nI (sZ Z0))], ai E (c1_38 6) 8 (sn Z0), ai E (c1_38 7) 8 (sb Z0), ai E (c1_38 8) 8 (ss Z0), ob 5 (c2_38 0) [.ref (c2_38 1), .ref (c2_38 2), .ref (c2_38 3), .int (nI (sM Z0)), .int (nI (sW Z0))], ob 1 (c2_38 1) [.ref (c2_38 4)], ai E (c2_38 4) 768 (sN Z0), ob 0 (c2_38 2) [.ref (c2_38 5)], az E (c2_38 5) 96 (sU Z0), ob 3 (c2_38 3) [.ref (c2_38 6), .ref (c2_38 7), .ref (c2_38 8), .int (nI (sZ Z0))], ai E (c2_38 6) 8 (sn Z0), ai E (c2_38 7) 8 (sb Z0), ai E (c2_38 8) 8 (ss Z0), ob 4 q45 [.ref a1_49, .int (nI 0), .int (nI 0), .int (nI 0), .int (nI 0), .int (nI 0), .int (nI 0)], ac E a1_49 60 (fun _ => 0), ob 6 q56 [.int (nI 0), .int (nI 0), .int (nI 0), .int (nI 0)], ob 7 q67 [.ref a1_71, .ref a2_71, .ref a3_71, .ref a4_71, .int (nI 0)], ai E a1_71 3 (fun _ => 0), ai E a2_71 3 (fun _ => 0), ai E a3_71 3 (fun _ => 0), ai E a4_71 12 (fun _ => 0)]) [0, 1, 2, 3, 4, 5, 6, 7, 8, 9, 10, 11, 12, 13, 14, 15, 16, 17, 18, 19, 20, 21, 22, 23, 24, 25, 26, 27, 28, 29, 30, 31, 32, 33, 34, 35, 36, 37, 38, 39, 40, 41, 42, 43, 44, 45, 46, 47, 48, 49, 50, 51, 52, 53, 54, 55] (by decide) rfl ?_
  refine g_putF F hin 0 5 dX8_init_74 rfl rfl (by decide) (by decide +kernel) (by decide +kernel) tyX8_ok nmX8 rfl rfl (by decide +kernel) rfl rfl (Nat.le_of_ble_eq_true rfl) rfl (ty := (.object "SummedParents$Way")) (w2 := [ob 8 o [.ref (s_9 0), .ref (s_27 0), .ref q34, .ref q45, .ref q56, .ref q67, .null, .null], ob 5 (s_9 0) [.ref (s_9 1), .ref (s_9 2), .ref (s_9 3), .int (nI (sM C0)), .int (nI (sW C0))], ob 1 (s_9 1) [.ref (s_9 4)], ai E (s_9 4) 768 (sN C0), ob 0 (s_9 2) [.ref (s_9 5)], az E (s_9 5) 96 (sU C0), ob 3 (s_9 3) [.ref (s_9 6), .ref (s_9 7), .ref (s_9 8), .int (nI (sZ C0))], ai E (s_9 6) 8 (sn C0), ai E (s_9 7) 8 (sb C0), ai E (s_9 8) 8 (ss C0), ob 5 (s_27 0) [.ref (s_27 1), .ref (s_27 2), .ref (s_27 3), .int (nI (sM Z0)), .int (nI (sW Z0))], ob 1 (s_27 1) [.ref (s_27 4)], ai E (s_27 4) 768 (sN Z0), ob 0 (s_27 2) [.ref (s_27 5)], az E (s_27 5) 96 (sU Z0), ob 3 (s_27 3) [.ref (s_27 6), .ref (s_27 7), .ref (s_27 8), .int (nI (sZ Z0))], ai E (s_27 6) 8 (sn Z0), ai E (s_27 7) 8 (sb Z0), ai E (s_27 8) 8 (ss Z0), ob 2 q34 [.ref y1_38, .int (nI 0)], aq E y1_38 3 (h3 (c0_38 0) (c1_38 0) (c2_38 0)), ob 5 (c0_38 0) [.ref (c0_38 1), .ref (c0_38 2), .ref (c0_38 3), .int (nI (sM Z0)), .int (nI (sW Z0))], ob 1 (c0_38 1) [.ref (c0_38 4)], ai E (c0_38 4) 768 (sN Z0), ob 0 (c0_38 2) [.ref (c0_38 5)], az E (c0_38 5) 96 (sU Z0), ob 3 (c0_38 3) [.ref (c0_38 6), .ref (c0_38 7), .ref (c0_38 8), .int (nI (sZ Z0))], ai E (c0_38 6) 8 (sn Z0), ai E (c0_38 7) 8 (sb Z0), ai E (c0_38 8) 8 (ss Z0), ob 5 (c1_38 0) [.ref (c1_38 1), .ref (c1_38 2), .ref (c1_38 3), .int (nI (sM Z0)), .int (nI (sW Z0))], ob 1 (c1_38 1) [.ref (c1_38 4)], ai E (c1_38 4) 768 (sN Z0), ob 0 (c1_38 2) [.ref (c1_38 5)], az E (c1_38 5) 96 (sU Z0), ob 3 (c1_38 3) [.ref (c1_38 6), .ref (c1_38 7), .ref (c1_38 8), .int (nI (sZ Z0))], ai E (c1_38 6) 8 (sn Z0), ai E (c1_38 7) 8 (sb Z0), ai E (c1_38 8) 8 (ss Z0), ob 5 (c2_38 0) [.ref (c2_38 1), .ref (c2_38 2), .ref (c2_38 3), .int (nI (sM Z0)), .int (nI (sW Z0))], ob 1 (c2_38 1) [.ref (c2_38 4)], ai E (c2_38 4) 768 (sN Z0), ob 0 (c2_38 2) [.ref (c2_38 5)], az E (c2_38 5) 96 (sU Z0), ob 3 (c2_38 3) [.ref (c2_38 6), .ref (c2_38 7), .ref (c2_38 8), .int (nI (sZ Z0))], ai E (c2_38 6) 8 (sn Z0), ai E (c2_38 7) 8 (sb Z0), ai E (c2_38 8) 8 (ss Z0), ob 4 q45 [.ref a1_49, .int (nI 0), .int (nI 0), .int (nI 0), .int (nI 0), .int (nI 0), .int (nI 0)], ac E a1_49 60 (fun _ => 0), ob 6 q56 [.int (nI 0), .int (nI 0), .int (nI 0), .int (nI 0)], ob 7 q67 [.ref a1_71, .ref a2_71, .ref a3_71, .ref a4_71, .int (nI 0)], ai E a1_71 3 (fun _ => 0), ai E a2_71 3 (fun _ => 0), ai E a3_71 3 (fun _ => 0), ai E a4_71 12 (fun _ => 0)]) rfl ?_
  refine g_aload_n F 0 dX8_init_77 rfl rfl ?_
  refine g_new (C := RX0) (ci := 0) (fs := [.null]) F dX8_init_78 (by decide +kernel) tyX0_ok (by decide +kernel) (by decide +kernel) (by decide +kernel) rfl (by decide +kernel) (Nat.le_of_ble_eq_true rfl) (Nat.le_of_ble_eq_true rfl) (fun q78 => ?_)
  refine g_w (w2 := [ob 8 o [.ref (s_9 0), .ref (s_27 0), .ref q34, .ref q45, .ref q56, .ref q67, .null, .null], ob 5 (s_9 0) [.ref (s_9 1), .ref (s_9 2), .ref (s_9 3), .int (nI (sM C0)), .int (nI (sW C0))], ob 1 (s_9 1) [.ref (s_9 4)], ai E (s_9 4) 768 (sN C0), ob 0 (s_9 2) [.ref (s_9 5)], az E (s_9 5) 96 (sU C0), ob 3 (s_9 3) [.ref (s_9 6), .ref (s_9 7), .ref (s_9 8), .int (nI (sZ C0))], ai E (s_9 6) 8 (sn C0), ai E (s_9 7) 8 (sb C0), ai E (s_9 8) 8 (ss C0), ob 5 (s_27 0) [.ref (s_27 1), .ref (s_27 2), .ref (s_27 3), .int (nI (sM Z0)), .int (nI (sW Z0))], ob 1 (s_27 1) [.ref (s_27 4)], ai E (s_27 4) 768 (sN Z0), ob 0 (s_27 2) [.ref (s_27 5)], az E (s_27 5) 96 (sU Z0), ob 3 (s_27 3) [.ref (s_27 6), .ref (s_27 7), .ref (s_27 8), .int (nI (sZ Z0))], ai E (s_27 6) 8 (sn Z0), ai E (s_27 7) 8 (sb Z0), ai E (s_27 8) 8 (ss Z0), ob 2 q34 [.ref y1_38, .int (nI 0)], aq E y1_38 3 (h3 (c0_38 0) (c1_38 0) (c2_38 0)), ob 5 (c0_38 0) [.ref (c0_38 1), .ref (c0_38 2), .ref (c0_38 3), .int (nI (sM Z0)), .int (nI (sW Z0))], ob 1 (c0_38 1) [.ref (c0_38 4)], ai E (c0_38 4) 768 (sN Z0), ob 0 (c0_38 2) [.ref (c0_38 5)], az E (c0_38 5) 96 (sU Z0), ob 3 (c0_38 3) [.ref (c0_38 6), .ref (c0_38 7), .ref (c0_38 8), .int (nI (sZ Z0))], ai E (c0_38 6) 8 (sn Z0), ai E (c0_38 7) 8 (sb Z0), ai E (c0_38 8) 8 (ss Z0), ob 5 (c1_38 0) [.ref (c1_38 1), .ref (c1_38 2), .ref (c1_38 3), .int (nI (sM Z0)), .int (nI (sW Z0))], ob 1 (c1_38 1) [.ref (c1_38 4)], ai E (c1_38 4) 768 (sN Z0), ob 0 (c1_38 2) [.ref (c1_38 5)], az E (c1_38 5) 96 (sU Z0), ob 3 (c1_38 3) [.ref (c1_38 6), .ref (c1_38 7), .ref (c1_38 8), .int (nI (sZ Z0))], ai E (c1_38 6) 8 (sn Z0), ai E (c1_38 7) 8 (sb Z0), ai E (c1_38 8) 8 (ss Z0), ob 5 (c2_38 0) [.ref (c2_38 1), .ref (c2_38 2), .ref (c2_38 3), .int (nI (sM Z0)), .int (nI (sW Z0))], ob 1 (c2_38 1) [.ref (c2_38 4)], ai E (c2_38 4) 768 (sN Z0), ob 0 (c2_38 2) [.ref (c2_38 5)], az E (c2_38 5) 96 (sU Z0), ob 3 (c2_38 3) [.ref (c2_38 6), .ref (c2_38 7), .ref (c2_38 8), .int (nI (sZ Z0))], ai E (c2_38 6) 8 (sn Z0), ai E (c2_38 7) 8 (sb Z0), ai E (c2_38 8) 8 (ss Z0), ob 4 q45 [.ref a1_49, .int (nI 0), .int (nI 0), .int (nI 0), .int (nI 0), .int (nI 0), .int (nI 0)], ac E a1_49 60 (fun _ => 0), ob 6 q56 [.int (nI 0), .int (nI 0), .int (nI 0), .int (nI 0)], ob 7 q67 [.ref a1_71, .ref a2_71, .ref a3_71, .ref a4_71, .int (nI 0)], ai E a1_71 3 (fun _ => 0), ai E a2_71 3 (fun _ => 0), ai E a3_71 3 (fun _ => 0), ai E a4_71 12 (fun _ => 0), ob 0 q78 [.null]]) (List.range 57) (by decide) rfl ?_
  refine g_widen (k := 56) (n := 4598) (Nat.le_of_ble_eq_true rfl) (Nat.le_of_ble_eq_true rfl) ?_
  refine g_dup F dX8_init_81 rfl ?_
  refine g_callINv (n := 0) F [56] (c_X0_init l E q78 ) dX8_init_82 rfl (by decide) rfl rfl rfl (Nat.le_of_ble_eq_true rfl) ⟨Nat.le_of_ble_eq_true rfl, Nat.le_of_ble_eq_true rfl⟩ ⟨Nat.le_of_ble_eq_true rfl, Nat.le_of_ble_eq_true rfl⟩ (host := "SummedParents") ggX8_init_X0_init (by decide +kernel) (by decide +kernel) (by decide +kernel) rfl (by decide +kernel) ?_
  rintro u_82 ⟨a1_82, rfl⟩
  refine g_widen (k := 57) (n := 4694) (Nat.le_of_ble_eq_true rfl) (Nat.le_of_ble_eq_true rfl) ?_
  refine g_w (w2 := [ob 8 o [.ref (s_9 0), .ref (s_27 0), .ref q34, .ref q45, .ref q56, .ref q67, .null, .null], ob 5 (s_9 0) [.ref (s_9 1), .ref (s_9 2), .ref (s_9 3), .int (nI (sM C0)), .int (nI (sW C0))], ob 1 (s_9 1) [.ref (s_9 4)], ai E (s_9 4) 768 (sN C0), ob 0 (s_9 2) [.ref (s_9 5)], az E (s_9 5) 96 (sU C0), ob 3 (s_9 3) [.ref (s_9 6), .ref (s_9 7), .ref (s_9 8), .int (nI (sZ C0))], ai E (s_9 6) 8 (sn C0), ai E (s_9 7) 8 (sb C0), ai E (s_9 8) 8 (ss C0), ob 5 (s_27 0) [.ref (s_27 1), .ref (s_27 2), .ref (s_27 3), .int (nI (sM Z0)), .int (nI (sW Z0))], ob 1 (s_27 1) [.ref (s_27 4)], ai E (s_27 4) 768 (sN Z0), ob 0 (s_27 2) [.ref (s_27 5)], az E (s_27 5) 96 (sU Z0), ob 3 (s_27 3) [.ref (s_27 6), .ref (s_27 7), .ref (s_27 8), .int (nI (sZ Z0))], ai E (s_27 6) 8 (sn Z0), ai E (s_27 7) 8 (sb Z0), ai E (s_27 8) 8 (ss Z0), ob 2 q34 [.ref y1_38, .int (nI 0)], aq E y1_38 3 (h3 (c0_38 0) (c1_38 0) (c2_38 0)), ob 5 (c0_38 0) [.ref (c0_38 1), .ref (c0_38 2), .ref (c0_38 3), .int (nI (sM Z0)), .int (nI (sW Z0))], ob 1 (c0_38 1) [.ref (c0_38 4)], ai E (c0_38 4) 768 (sN Z0), ob 0 (c0_38 2) [.ref (c0_38 5)], az E (c0_38 5) 96 (sU Z0), ob 3 (c0_38 3) [.ref (c0_38 6), .ref (c0_38 7), .ref (c0_38 8), .int (nI (sZ Z0))], ai E (c0_38 6) 8 (sn Z0), ai E (c0_38 7) 8 (sb Z0), ai E (c0_38 8) 8 (ss Z0), ob 5 (c1_38 0) [.ref (c1_38 1), .ref (c1_38 2), .ref (c1_38 3), .int (nI (sM Z0)), .int (nI (sW Z0))], ob 1 (c1_38 1) [.ref (c1_38 4)], ai E (c1_38 4) 768 (sN Z0), ob 0 (c1_38 2) [.ref (c1_38 5)], az E (c1_38 5) 96 (sU Z0), ob 3 (c1_38 3) [.ref (c1_38 6), .ref (c1_38 7), .ref (c1_38 8), .int (nI (sZ Z0))], ai E (c1_38 6) 8 (sn Z0), ai E (c1_38 7) 8 (sb Z0), ai E (c1_38 8) 8 (ss Z0), ob 5 (c2_38 0) [.ref (c2_38 1), .ref (c2_38 2), .ref (c2_38 3), .int (nI (sM Z0)), .int (nI (sW Z0))], ob 1 (c2_38 1) [.ref (c2_38 4)], ai E (c2_38 4) 768 (sN Z0), ob 0 (c2_38 2) [.ref (c2_38 5)], az E (c2_38 5) 96 (sU Z0), ob 3 (c2_38 3) [.ref (c2_38 6), .ref (c2_38 7), .ref (c2_38 8), .int (nI (sZ Z0))], ai E (c2_38 6) 8 (sn Z0), ai E (c2_38 7) 8 (sb Z0), ai E (c2_38 8) 8 (ss Z0), ob 4 q45 [.ref a1_49, .int (nI 0), .int (nI 0), .int (nI 0), .int (nI 0), .int (nI 0), .int (nI 0)], ac E a1_49 60 (fun _ => 0), ob 6 q56 [.int (nI 0), .int (nI 0), .int (nI 0), .int (nI 0)], ob 7 q67 [.ref a1_71, .ref a2_71, .ref a3_71, .ref a4_71, .int (nI 0)], ai E a1_71 3 (fun _ => 0), ai E a2_71 3 (fun _ => 0), ai E a3_71 3 (fun _ => 0), ai E a4_71 12 (fun _ => 0), ob 0 q78 [.ref a1_82], az E a1_82 96 (fun _ => 0)]) [0, 1, 2, 3, 4, 5, 6, 7, 8, 9, 10, 11, 12, 13, 14, 15, 16, 17, 18, 19, 20, 21, 22, 23, 24, 25, 26, 27, 28, 29, 30, 31, 32, 33, 34, 35, 36, 37, 38, 39, 40, 41, 42, 43, 44, 45, 46, 47, 48, 49, 50, 51, 52, 53, 54, 55, 56, 57] (by decide) rfl ?_
  refine g_putF F hin 0 6 dX8_init_85 rfl rfl (by decide) (by decide +kernel) (by decide +kernel) tyX8_ok nmX8 rfl rfl (by decide +kernel) rfl rfl (Nat.le_of_ble_eq_true rfl) rfl (ty := (.object "SummedParents$BlockSet")) (w2 := [ob 8 o [.ref (s_9 0), .ref (s_27 0), .ref q34, .ref q45, .ref q56, .ref q67, .ref q78, .null], ob 5 (s_9 0) [.ref (s_9 1), .ref (s_9 2), .ref (s_9 3), .int (nI (sM C0)), .int (nI (sW C0))], ob 1 (s_9 1) [.ref (s_9 4)], ai E (s_9 4) 768 (sN C0), ob 0 (s_9 2) [.ref (s_9 5)], az E (s_9 5) 96 (sU C0), ob 3 (s_9 3) [.ref (s_9 6), .ref (s_9 7), .ref (s_9 8), .int (nI (sZ C0))], ai E (s_9 6) 8 (sn C0), ai E (s_9 7) 8 (sb C0), ai E (s_9 8) 8 (ss C0), ob 5 (s_27 0) [.ref (s_27 1), .ref (s_27 2), .ref (s_27 3), .int (nI (sM Z0)), .int (nI (sW Z0))], ob 1 (s_27 1) [.ref (s_27 4)], ai E (s_27 4) 768 (sN Z0), ob 0 (s_27 2) [.ref (s_27 5)], az E (s_27 5) 96 (sU Z0), ob 3 (s_27 3) [.ref (s_27 6), .ref (s_27 7), .ref (s_27 8), .int (nI (sZ Z0))], ai E (s_27 6) 8 (sn Z0), ai E (s_27 7) 8 (sb Z0), ai E (s_27 8) 8 (ss Z0), ob 2 q34 [.ref y1_38, .int (nI 0)], aq E y1_38 3 (h3 (c0_38 0) (c1_38 0) (c2_38 0)), ob 5 (c0_38 0) [.ref (c0_38 1), .ref (c0_38 2), .ref (c0_38 3), .int (nI (sM Z0)), .int (nI (sW Z0))], ob 1 (c0_38 1) [.ref (c0_38 4)], ai E (c0_38 4) 768 (sN Z0), ob 0 (c0_38 2) [.ref (c0_38 5)], az E (c0_38 5) 96 (sU Z0), ob 3 (c0_38 3) [.ref (c0_38 6), .ref (c0_38 7), .ref (c0_38 8), .int (nI (sZ Z0))], ai E (c0_38 6) 8 (sn Z0), ai E (c0_38 7) 8 (sb Z0), ai E (c0_38 8) 8 (ss Z0), ob 5 (c1_38 0) [.ref (c1_38 1), .ref (c1_38 2), .ref (c1_38 3), .int (nI (sM Z0)), .int (nI (sW Z0))], ob 1 (c1_38 1) [.ref (c1_38 4)], ai E (c1_38 4) 768 (sN Z0), ob 0 (c1_38 2) [.ref (c1_38 5)], az E (c1_38 5) 96 (sU Z0), ob 3 (c1_38 3) [.ref (c1_38 6), .ref (c1_38 7), .ref (c1_38 8), .int (nI (sZ Z0))], ai E (c1_38 6) 8 (sn Z0), ai E (c1_38 7) 8 (sb Z0), ai E (c1_38 8) 8 (ss Z0), ob 5 (c2_38 0) [.ref (c2_38 1), .ref (c2_38 2), .ref (c2_38 3), .int (nI (sM Z0)), .int (nI (sW Z0))], ob 1 (c2_38 1) [.ref (c2_38 4)], ai E (c2_38 4) 768 (sN Z0), ob 0 (c2_38 2) [.ref (c2_38 5)], az E (c2_38 5) 96 (sU Z0), ob 3 (c2_38 3) [.ref (c2_38 6), .ref (c2_38 7), .ref (c2_38 8), .int (nI (sZ Z0))], ai E (c2_38 6) 8 (sn Z0), ai E (c2_38 7) 8 (sb Z0), ai E (c2_38 8) 8 (ss Z0), ob 4 q45 [.ref a1_49, .int (nI 0), .int (nI 0), .int (nI 0), .int (nI 0), .int (nI 0), .int (nI 0)], ac E a1_49 60 (fun _ => 0), ob 6 q56 [.int (nI 0), .int (nI 0), .int (nI 0), .int (nI 0)], ob 7 q67 [.ref a1_71, .ref a2_71, .ref a3_71, .ref a4_71, .int (nI 0)], ai E a1_71 3 (fun _ => 0), ai E a2_71 3 (fun _ => 0), ai E a3_71 3 (fun _ => 0), ai E a4_71 12 (fun _ => 0), ob 0 q78 [.ref a1_82], az E a1_82 96 (fun _ => 0)]) rfl ?_
  refine g_aload_n F 0 dX8_init_88 rfl rfl ?_
  refine g_new (C := RX0) (ci := 0) (fs := [.null]) F dX8_init_89 (by decide +kernel) tyX0_ok (by decide +kernel) (by decide +kernel) (by decide +kernel) rfl (by decide +kernel) (Nat.le_of_ble_eq_true rfl) (Nat.le_of_ble_eq_true rfl) (fun q89 => ?_)
  refine g_w (w2 := [ob 8 o [.ref (s_9 0), .ref (s_27 0), .ref q34, .ref q45, .ref q56, .ref q67, .ref q78, .null], ob 5 (s_9 0) [.ref (s_9 1), .ref (s_9 2), .ref (s_9 3), .int (nI (sM C0)), .int (nI (sW C0))], ob 1 (s_9 1) [.ref (s_9 4)], ai E (s_9 4) 768 (sN C0), ob 0 (s_9 2) [.ref (s_9 5)], az E (s_9 5) 96 (sU C0), ob 3 (s_9 3) [.ref (s_9 6), .ref (s_9 7), .ref (s_9 8), .int (nI (sZ C0))], ai E (s_9 6) 8 (sn C0), ai E (s_9 7) 8 (sb C0), ai E (s_9 8) 8 (ss C0), ob 5 (s_27 0) [.ref (s_27 1), .ref (s_27 2), .ref (s_27 3), .int (nI (sM Z0)), .int (nI (sW Z0))], ob 1 (s_27 1) [.ref (s_27 4)], ai E (s_27 4) 768 (sN Z0), ob 0 (s_27 2) [.ref (s_27 5)], az E (s_27 5) 96 (sU Z0), ob 3 (s_27 3) [.ref (s_27 6), .ref (s_27 7), .ref (s_27 8), .int (nI (sZ Z0))], ai E (s_27 6) 8 (sn Z0), ai E (s_27 7) 8 (sb Z0), ai E (s_27 8) 8 (ss Z0), ob 2 q34 [.ref y1_38, .int (nI 0)], aq E y1_38 3 (h3 (c0_38 0) (c1_38 0) (c2_38 0)), ob 5 (c0_38 0) [.ref (c0_38 1), .ref (c0_38 2), .ref (c0_38 3), .int (nI (sM Z0)), .int (nI (sW Z0))], ob 1 (c0_38 1) [.ref (c0_38 4)], ai E (c0_38 4) 768 (sN Z0), ob 0 (c0_38 2) [.ref (c0_38 5)], az E (c0_38 5) 96 (sU Z0), ob 3 (c0_38 3) [.ref (c0_38 6), .ref (c0_38 7), .ref (c0_38 8), .int (nI (sZ Z0))], ai E (c0_38 6) 8 (sn Z0), ai E (c0_38 7) 8 (sb Z0), ai E (c0_38 8) 8 (ss Z0), ob 5 (c1_38 0) [.ref (c1_38 1), .ref (c1_38 2), .ref (c1_38 3), .int (nI (sM Z0)), .int (nI (sW Z0))], ob 1 (c1_38 1) [.ref (c1_38 4)], ai E (c1_38 4) 768 (sN Z0), ob 0 (c1_38 2) [.ref (c1_38 5)], az E (c1_38 5) 96 (sU Z0), ob 3 (c1_38 3) [.ref (c1_38 6), .ref (c1_38 7), .ref (c1_38 8), .int (nI (sZ Z0))], ai E (c1_38 6) 8 (sn Z0), ai E (c1_38 7) 8 (sb Z0), ai E (c1_38 8) 8 (ss Z0), ob 5 (c2_38 0) [.ref (c2_38 1), .ref (c2_38 2), .ref (c2_38 3), .int (nI (sM Z0)), .int (nI (sW Z0))], ob 1 (c2_38 1) [.ref (c2_38 4)], ai E (c2_38 4) 768 (sN Z0), ob 0 (c2_38 2) [.ref (c2_38 5)], az E (c2_38 5) 96 (sU Z0), ob 3 (c2_38 3) [.ref (c2_38 6), .ref (c2_38 7), .ref (c2_38 8), .int (nI (sZ Z0))], ai E (c2_38 6) 8 (sn Z0), ai E (c2_38 7) 8 (sb Z0), ai E (c2_38 8) 8 (ss Z0), ob 4 q45 [.ref a1_49, .int (nI 0), .int (nI 0), .int (nI 0), .int (nI 0), .int (nI 0), .int (nI 0)], ac E a1_49 60 (fun _ => 0), ob 6 q56 [.int (nI 0), .int (nI 0), .int (nI 0), .int (nI 0)], ob 7 q67 [.ref a1_71, .ref a2_71, .ref a3_71, .ref a4_71, .int (nI 0)], ai E a1_71 3 (fun _ => 0), ai E a2_71 3 (fun _ => 0), ai E a3_71 3 (fun _ => 0), ai E a4_71 12 (fun _ => 0), ob 0 q78 [.ref a1_82], az E a1_82 96 (fun _ => 0), ob 0 q89 [.null]]) (List.range 59) (by decide) rfl ?_
  refine g_widen (k := 58) (n := 4695) (Nat.le_of_ble_eq_true rfl) (Nat.le_of_ble_eq_true rfl) ?_
  refine g_dup F dX8_init_92 rfl ?_
  refine g_callINv (n := 0) F [58] (c_X0_init l E q89 ) dX8_init_93 rfl (by decide) rfl rfl rfl (Nat.le_of_ble_eq_true rfl) ⟨Nat.le_of_ble_eq_true rfl, Nat.le_of_ble_eq_true rfl⟩ ⟨Nat.le_of_ble_eq_true rfl, Nat.le_of_ble_eq_true rfl⟩ (host := "SummedParents") ggX8_init_X0_init (by decide +kernel) (by decide +kernel) (by decide +kernel) rfl (by decide +kernel) ?_
  rintro u_93 ⟨a1_93, rfl⟩
  refine g_widen (k := 59) (n := 4791) (Nat.le_of_ble_eq_true rfl) (Nat.le_of_ble_eq_true rfl) ?_
  refine g_w (w2 := [ob 8 o [.ref (s_9 0), .ref (s_27 0), .ref q34, .ref q45, .ref q56, .ref q67, .ref q78, .null], ob 5 (s_9 0) [.ref (s_9 1), .ref (s_9 2), .ref (s_9 3), .int (nI (sM C0)), .int (nI (sW C0))], ob 1 (s_9 1) [.ref (s_9 4)], ai E (s_9 4) 768 (sN C0), ob 0 (s_9 2) [.ref (s_9 5)], az E (s_9 5) 96 (sU C0), ob 3 (s_9 3) [.ref (s_9 6), .ref (s_9 7), .ref (s_9 8), .int (nI (sZ C0))], ai E (s_9 6) 8 (sn C0), ai E (s_9 7) 8 (sb C0), ai E (s_9 8) 8 (ss C0), ob 5 (s_27 0) [.ref (s_27 1), .ref (s_27 2), .ref (s_27 3), .int (nI (sM Z0)), .int (nI (sW Z0))], ob 1 (s_27 1) [.ref (s_27 4)], ai E (s_27 4) 768 (sN Z0), ob 0 (s_27 2) [.ref (s_27 5)], az E (s_27 5) 96 (sU Z0), ob 3 (s_27 3) [.ref (s_27 6), .ref (s_27 7), .ref (s_27 8), .int (nI (sZ Z0))], ai E (s_27 6) 8 (sn Z0), ai E (s_27 7) 8 (sb Z0), ai E (s_27 8) 8 (ss Z0), ob 2 q34 [.ref y1_38, .int (nI 0)], aq E y1_38 3 (h3 (c0_38 0) (c1_38 0) (c2_38 0)), ob 5 (c0_38 0) [.ref (c0_38 1), .ref (c0_38 2), .ref (c0_38 3), .int (nI (sM Z0)), .int (nI (sW Z0))], ob 1 (c0_38 1) [.ref (c0_38 4)], ai E (c0_38 4) 768 (sN Z0), ob 0 (c0_38 2) [.ref (c0_38 5)], az E (c0_38 5) 96 (sU Z0), ob 3 (c0_38 3) [.ref (c0_38 6), .ref (c0_38 7), .ref (c0_38 8), .int (nI (sZ Z0))], ai E (c0_38 6) 8 (sn Z0), ai E (c0_38 7) 8 (sb Z0), ai E (c0_38 8) 8 (ss Z0), ob 5 (c1_38 0) [.ref (c1_38 1), .ref (c1_38 2), .ref (c1_38 3), .int (nI (sM Z0)), .int (nI (sW Z0))], ob 1 (c1_38 1) [.ref (c1_38 4)], ai E (c1_38 4) 768 (sN Z0), ob 0 (c1_38 2) [.ref (c1_38 5)], az E (c1_38 5) 96 (sU Z0), ob 3 (c1_38 3) [.ref (c1_38 6), .ref (c1_38 7), .ref (c1_38 8), .int (nI (sZ Z0))], ai E (c1_38 6) 8 (sn Z0), ai E (c1_38 7) 8 (sb Z0), ai E (c1_38 8) 8 (ss Z0), ob 5 (c2_38 0) [.ref (c2_38 1), .ref (c2_38 2), .ref (c2_38 3), .int (nI (sM Z0)), .int (nI (sW Z0))], ob 1 (c2_38 1) [.ref (c2_38 4)], ai E (c2_38 4) 768 (sN Z0), ob 0 (c2_38 2) [.ref (c2_38 5)], az E (c2_38 5) 96 (sU Z0), ob 3 (c2_38 3) [.ref (c2_38 6), .ref (c2_38 7), .ref (c2_38 8), .int (nI (sZ Z0))], ai E (c2_38 6) 8 (sn Z0), ai E (c2_38 7) 8 (sb Z0), ai E (c2_38 8) 8 (ss Z0), ob 4 q45 [.ref a1_49, .int (nI 0), .int (nI 0), .int (nI 0), .int (nI 0), .int (nI 0), .int (nI 0)], ac E a1_49 60 (fun _ => 0), ob 6 q56 [.int (nI 0), .int (nI 0), .int (nI 0), .int (nI 0)], ob 7 q67 [.ref a1_71, .ref a2_71, .ref a3_71, .ref a4_71, .int (nI 0)], ai E a1_71 3 (fun _ => 0), ai E a2_71 3 (fun _ => 0), ai E a3_71 3 (fun _ => 0), ai E a4_71 12 (fun _ => 0), ob 0 q78 [.ref a1_82], az E a1_82 96 (fun _ => 0), ob 0 q89 [.ref a1_93], az E a1_93 96 (fun _ => 0)]) [0, 1, 2, 3, 4, 5, 6, 7, 8, 9, 10, 11, 12, 13, 14, 15, 16, 17, 18, 19, 20, 21, 22, 23, 24, 25, 26, 27, 28, 29, 30, 31, 32, 33, 34, 35, 36, 37, 38, 39, 40, 41, 42, 43, 44, 45, 46, 47, 48, 49, 50, 51, 52, 53, 54, 55, 56, 57, 58, 59] (by decide) rfl ?_
  refine g_putF F hin 0 7 dX8_init_96 rfl rfl (by decide) (by decide +kernel) (by decide +kernel) tyX8_ok nmX8 rfl rfl (by decide +kernel) rfl rfl (Nat.le_of_ble_eq_true rfl) rfl (ty := (.object "SummedParents$BlockSet")) (w2 := [ob 8 o [.ref (s_9 0), .ref (s_27 0), .ref q34, .ref q45, .ref q56, .ref q67, .ref q78, .ref q89], ob 5 (s_9 0) [.ref (s_9 1), .ref (s_9 2), .ref (s_9 3), .int (nI (sM C0)), .int (nI (sW C0))], ob 1 (s_9 1) [.ref (s_9 4)], ai E (s_9 4) 768 (sN C0), ob 0 (s_9 2) [.ref (s_9 5)], az E (s_9 5) 96 (sU C0), ob 3 (s_9 3) [.ref (s_9 6), .ref (s_9 7), .ref (s_9 8), .int (nI (sZ C0))], ai E (s_9 6) 8 (sn C0), ai E (s_9 7) 8 (sb C0), ai E (s_9 8) 8 (ss C0), ob 5 (s_27 0) [.ref (s_27 1), .ref (s_27 2), .ref (s_27 3), .int (nI (sM Z0)), .int (nI (sW Z0))], ob 1 (s_27 1) [.ref (s_27 4)], ai E (s_27 4) 768 (sN Z0), ob 0 (s_27 2) [.ref (s_27 5)], az E (s_27 5) 96 (sU Z0), ob 3 (s_27 3) [.ref (s_27 6), .ref (s_27 7), .ref (s_27 8), .int (nI (sZ Z0))], ai E (s_27 6) 8 (sn Z0), ai E (s_27 7) 8 (sb Z0), ai E (s_27 8) 8 (ss Z0), ob 2 q34 [.ref y1_38, .int (nI 0)], aq E y1_38 3 (h3 (c0_38 0) (c1_38 0) (c2_38 0)), ob 5 (c0_38 0) [.ref (c0_38 1), .ref (c0_38 2), .ref (c0_38 3), .int (nI (sM Z0)), .int (nI (sW Z0))], ob 1 (c0_38 1) [.ref (c0_38 4)], ai E (c0_38 4) 768 (sN Z0), ob 0 (c0_38 2) [.ref (c0_38 5)], az E (c0_38 5) 96 (sU Z0), ob 3 (c0_38 3) [.ref (c0_38 6), .ref (c0_38 7), .ref (c0_38 8), .int (nI (sZ Z0))], ai E (c0_38 6) 8 (sn Z0), ai E (c0_38 7) 8 (sb Z0), ai E (c0_38 8) 8 (ss Z0), ob 5 (c1_38 0) [.ref (c1_38 1), .ref (c1_38 2), .ref (c1_38 3), .int (nI (sM Z0)), .int (nI (sW Z0))], ob 1 (c1_38 1) [.ref (c1_38 4)], ai E (c1_38 4) 768 (sN Z0), ob 0 (c1_38 2) [.ref (c1_38 5)], az E (c1_38 5) 96 (sU Z0), ob 3 (c1_38 3) [.ref (c1_38 6), .ref (c1_38 7), .ref (c1_38 8), .int (nI (sZ Z0))], ai E (c1_38 6) 8 (sn Z0), ai E (c1_38 7) 8 (sb Z0), ai E (c1_38 8) 8 (ss Z0), ob 5 (c2_38 0) [.ref (c2_38 1), .ref (c2_38 2), .ref (c2_38 3), .int (nI (sM Z0)), .int (nI (sW Z0))], ob 1 (c2_38 1) [.ref (c2_38 4)], ai E (c2_38 4) 768 (sN Z0), ob 0 (c2_38 2) [.ref (c2_38 5)], az E (c2_38 5) 96 (sU Z0), ob 3 (c2_38 3) [.ref (c2_38 6), .ref (c2_38 7), .ref (c2_38 8), .int (nI (sZ Z0))], ai E (c2_38 6) 8 (sn Z0), ai E (c2_38 7) 8 (sb Z0), ai E (c2_38 8) 8 (ss Z0), ob 4 q45 [.ref a1_49, .int (nI 0), .int (nI 0), .int (nI 0), .int (nI 0), .int (nI 0), .int (nI 0)], ac E a1_49 60 (fun _ => 0), ob 6 q56 [.int (nI 0), .int (nI 0), .int (nI 0), .int (nI 0)], ob 7 q67 [.ref a1_71, .ref a2_71, .ref a3_71, .ref a4_71, .int (nI 0)], ai E a1_71 3 (fun _ => 0), ai E a2_71 3 (fun _ => 0), ai E a3_71 3 (fun _ => 0), ai E a4_71 12 (fun _ => 0), ob 0 q78 [.ref a1_82], az E a1_82 96 (fun _ => 0), ob 0 q89 [.ref a1_93], az E a1_93 96 (fun _ => 0)]) rfl ?_
  exact hret _ _ _ dX8_init_99 ⟨s_9, s_27, c0_38, c1_38, c2_38, q34, y1_38, q45, a1_49, q56, q67, a1_71, a2_71, a3_71, a4_71, q78, a1_82, q89, a1_93, (by rfl)⟩
set_option maxHeartbeats 4000000 in
set_option maxRecDepth 100000 in
theorem c_X9_contentOf_r (l : Launch) (E : En) (q : Nat) (r : Nat → Nat) (rc : Nat) (tl : Nat) (at9 : Nat) (lf9 : Int32) (pl9 : Int32) (vl9 : Int32) (fa : Nat) (rs9 : Nat) (cs : Int32) (dn : Nat) (S : Nat → Nat) (c : Nat) (b : Nat) (k : Nat) (hc : c < 2) (hb : b < 96) (hk : k < 4) : CtI l yX9_contentOf wsX9_contentOf ({ frames := 0, cells := 0, slots := 0, locals := 0 } : Room) E [.ref q, .int (nI c), .int (nI b), .int (nI k)] [ob 9 q [.ref (r 0), .ref (r 1), .ref (r 2), .int (nI rc), .ref (r 3), .int (nI tl), .ref (r 4), .ref (r 5), .ref (r 6), .ref (r 7), .ref (r 8), .ref (r 9), .ref (r 10), .ref (r 11), .ref (r 12), .int (nI at9), .int (lf9), .int (pl9), .int (vl9), .int (nI fa), .int (nI rs9), .int (cs), .int (nI dn)], ai E (r 0) 892 S] (fun rr uu => rr = (nI (S (0 + 4 * (96 * c + b) + k))) ∧ uu = [ob 9 q [.ref (r 0), .ref (r 1), .ref (r 2), .int (nI rc), .ref (r 3), .int (nI tl), .ref (r 4), .ref (r 5), .ref (r 6), .ref (r 7), .ref (r 8), .ref (r 9), .ref (r 10), .ref (r 11), .ref (r 12), .int (nI at9), .int (lf9), .int (pl9), .int (vl9), .int (nI fa), .int (nI rs9), .int (cs), .int (nI dn)], ai E (r 0) 892 S]) := by
  refine CtI.of cX9_contentOf 4 RX9 .int rfl (by decide) rfl (Or.inl rfl) (Nat.le_of_ble_eq_true rfl) (fun h => by cases h) ?_
  intro Γ F hret
  show G Γ E 0 0 0 [(0, .ref q), (1, .int (nI c)), (2, .int (nI b)), (3, .int (nI k))] [] [ob 9 q [.ref (r 0), .ref (r 1), .ref (r 2), .int (nI rc), .ref (r 3), .int (nI tl), .ref (r 4), .ref (r 5), .ref (r 6), .ref (r 7), .ref (r 8), .ref (r 9), .ref (r 10), .ref (r 11), .ref (r 12), .int (nI at9), .int (lf9), .int (pl9), .int (vl9), .int (nI fa), .int (nI rs9), .int (cs), .int (nI dn)], ai E (r 0) 892 S]
  refine g_aload_n F 0 dX9_contentOf_0 rfl rfl ?_
  refine g_get F 0 0 dX9_contentOf_1 rfl rfl (by decide) (by decide +kernel) (by decide +kernel) rfl ?_
  refine g_iconst (v := nI 0) F dX9_contentOf_4 (by decide) ?_
  refine g_iconst (v := nI 4) F dX9_contentOf_5 (by decide) ?_
  refine g_bipush (v := nI 96) F dX9_contentOf_6 (by decide) ?_
  refine g_iload_n F 1 dX9_contentOf_8 rfl rfl ?_
  refine g_imulN F dX9_contentOf_9 ?_
  refine g_iload_n F 2 dX9_contentOf_10 rfl rfl ?_
  refine g_iaddN F dX9_contentOf_11 ?_
  refine g_imulN F dX9_contentOf_12 ?_
  refine g_iaddN F dX9_contentOf_13 ?_
  refine g_iload_n F 3 dX9_contentOf_14 rfl rfl ?_
  refine g_iaddN F dX9_contentOf_15 ?_
  refine g_iald F 1 dX9_contentOf_16 rfl (by omega) (by decide) ?_
  exact hret _ _ _ _ dX9_contentOf_17 ⟨(congrArg nI (by rfl)), rfl⟩
set_option maxHeartbeats 4000000 in
set_option maxRecDepth 100000 in
theorem c_X9_setContent_r (l : Launch) (E : En) (q : Nat) (r : Nat → Nat) (rc : Nat) (tl : Nat) (at9 : Nat) (lf9 : Int32) (pl9 : Int32) (vl9 : Int32) (fa : Nat) (rs9 : Nat) (cs : Int32) (dn : Nat) (S : Nat → Nat) (c : Nat) (b : Nat) (k : Nat) (v : Nat) (hc : c < 2) (hb : b < 96) (hk : k < 4) : CtV l yX9_setContent wsX9_setContent ({ frames := 0, cells := 0, slots := 0, locals := 0 } : Room) E [.ref q, .int (nI c), .int (nI b), .int (nI k), .int (nI v)] [ob 9 q [.ref (r 0), .ref (r 1), .ref (r 2), .int (nI rc), .ref (r 3), .int (nI tl), .ref (r 4), .ref (r 5), .ref (r 6), .ref (r 7), .ref (r 8), .ref (r 9), .ref (r 10), .ref (r 11), .ref (r 12), .int (nI at9), .int (lf9), .int (pl9), .int (vl9), .int (nI fa), .int (nI rs9), .int (cs), .int (nI dn)], ai E (r 0) 892 S] (fun uu => uu = [ob 9 q [.ref (r 0), .ref (r 1), .ref (r 2), .int (nI rc), .ref (r 3), .int (nI tl), .ref (r 4), .ref (r 5), .ref (r 6), .ref (r 7), .ref (r 8), .ref (r 9), .ref (r 10), .ref (r 11), .ref (r 12), .int (nI at9), .int (lf9), .int (pl9), .int (vl9), .int (nI fa), .int (nI rs9), .int (cs), .int (nI dn)], ai E (r 0) 892 (up S (0 + 4 * (96 * c + b) + k) v)]) := by
  refine CtV.of cX9_setContent 5 RX9 rfl (by decide) rfl (Nat.le_of_ble_eq_true rfl) ?_
  intro Γ F hin0 hret
  show G Γ E 0 0 0 [(0, .ref q), (1, .int (nI c)), (2, .int (nI b)), (3, .int (nI k)), (4, .int (nI v))] [] [ob 9 q [.ref (r 0), .ref (r 1), .ref (r 2), .int (nI rc), .ref (r 3), .int (nI tl), .ref (r 4), .ref (r 5), .ref (r 6), .ref (r 7), .ref (r 8), .ref (r 9), .ref (r 10), .ref (r 11), .ref (r 12), .int (nI at9), .int (lf9), .int (pl9), .int (vl9), .int (nI fa), .int (nI rs9), .int (cs), .int (nI dn)], ai E (r 0) 892 S]
  refine g_aload_n F 0 dX9_setContent_0 rfl rfl ?_
  refine g_get F 0 0 dX9_setContent_1 rfl rfl (by decide) (by decide +kernel) (by decide +kernel) rfl ?_
  refine g_iconst (v := nI 0) F dX9_setContent_4 (by decide) ?_
  refine g_iconst (v := nI 4) F dX9_setContent_5 (by decide) ?_
  refine g_bipush (v := nI 96) F dX9_setContent_6 (by decide) ?_
  refine g_iload_n F 1 dX9_setContent_8 rfl rfl ?_
  refine g_imulN F dX9_setContent_9 ?_
  refine g_iload_n F 2 dX9_setContent_10 rfl rfl ?_
  refine g_iaddN F dX9_setContent_11 ?_
  refine g_imulN F dX9_setContent_12 ?_
  refine g_iaddN F dX9_setContent_13 ?_
  refine g_iload_n F 3 dX9_setContent_14 rfl rfl ?_
  refine g_iaddN F dX9_setContent_15 ?_
  refine g_iload F 4 dX9_setContent_16 rfl ?_
  refine g_iast F 1 dX9_setContent_18 rfl (by omega) (by decide) (w2 := [ob 9 q [.ref (r 0), .ref (r 1), .ref (r 2), .int (nI rc), .ref (r 3), .int (nI tl), .ref (r 4), .ref (r 5), .ref (r 6), .ref (r 7), .ref (r 8), .ref (r 9), .ref (r 10), .ref (r 11), .ref (r 12), .int (nI at9), .int (lf9), .int (pl9), .int (vl9), .int (nI fa), .int (nI rs9), .int (cs), .int (nI dn)], ai E (r 0) 892 (up S ((0 + (4 * ((96 * c) + b))) + k) v)]) rfl ?_
  exact hret _ _ _ dX9_setContent_19 (by rfl)
set_option maxHeartbeats 4000000 in
set_option maxRecDepth 100000 in
theorem c_X9_setBoth_r (l : Launch) (E : En) (q : Nat) (r : Nat → Nat) (rc : Nat) (tl : Nat) (at9 : Nat) (lf9 : Int32) (pl9 : Int32) (vl9 : Int32) (fa : Nat) (rs9 : Nat) (cs : Int32) (dn : Nat) (S : Nat → Nat) (b : Nat) (k : Nat) (v : Nat) (hb : b < 96) (hk : k < 4) : CtV l yX9_setBoth wsX9_setBoth ({ frames := 1, cells := 0, slots := 0, locals := 24 } : Room) E [.ref q, .int (nI b), .int (nI k), .int (nI v)] [ob 9 q [.ref (r 0), .ref (r 1), .ref (r 2), .int (nI rc), .ref (r 3), .int (nI tl), .ref (r 4), .ref (r 5), .ref (r 6), .ref (r 7), .ref (r 8), .ref (r 9), .ref (r 10), .ref (r 11), .ref (r 12), .int (nI at9), .int (lf9), .int (pl9), .int (vl9), .int (nI fa), .int (nI rs9), .int (cs), .int (nI dn)], ai E (r 0) 892 S] (fun uu => uu = [ob 9 q [.ref (r 0), .ref (r 1), .ref (r 2), .int (nI rc), .ref (r 3), .int (nI tl), .ref (r 4), .ref (r 5), .ref (r 6), .ref (r 7), .ref (r 8), .ref (r 9), .ref (r 10), .ref (r 11), .ref (r 12), .int (nI at9), .int (lf9), .int (pl9), .int (vl9), .int (nI fa), .int (nI rs9), .int (cs), .int (nI dn)], ai E (r 0) 892 (up (up S (0 + 4 * (96 * 0 + b) + k) v) (0 + 4 * (96 * 1 + b) + k) v)]) := by
  refine CtV.of cX9_setBoth 4 RX9 rfl (by decide) rfl (Nat.le_of_ble_eq_true rfl) ?_
  intro Γ F hin0 hret
  show G Γ E 0 0 0 [(0, .ref q), (1, .int (nI b)), (2, .int (nI k)), (3, .int (nI v))] [] [ob 9 q [.ref (r 0), .ref (r 1), .ref (r 2), .int (nI rc), .ref (r 3), .int (nI tl), .ref (r 4), .ref (r 5), .ref (r 6), .ref (r 7), .ref (r 8), .ref (r 9), .ref (r 10), .ref (r 11), .ref (r 12), .int (nI at9), .int (lf9), .int (pl9), .int (vl9), .int (nI fa), .int (nI rs9), .int (cs), .int (nI dn)], ai E (r 0) 892 S]
  refine g_aload_n F 0 dX9_setBoth_0 rfl rfl ?_
  refine g_iconst (v := nI 0) F dX9_setBoth_1 (by decide) ?_
  refine g_iload_n F 1 dX9_setBoth_2 rfl rfl ?_
  refine g_iload_n F 2 dX9_setBoth_3 rfl rfl ?_
  refine g_iload_n F 3 dX9_setBoth_4 rfl rfl ?_
  refine g_callVvW (n := 4) F [0, 1] (c_X9_setContent_r l E q r rc tl at9 lf9 pl9 vl9 fa rs9 cs dn S 0 b k v (by omega) (by omega) (by omega)) dX9_setBoth_5 rfl (by decide) rfl rfl rfl (Nat.le_of_ble_eq_true rfl) ⟨Nat.le_of_ble_eq_true rfl, Nat.le_of_ble_eq_true rfl⟩ rfl rfl ⟨Nat.le_of_ble_eq_true rfl, Nat.le_of_ble_eq_true rfl⟩ 0 rfl rfl gX9_setBoth_X9_setContent (by decide +kernel) (fun u hp => by obtain rfl := hp; rfl) ?_
  rintro u_5 rfl
  refine g_ws (w2 := [ob 9 q [.ref (r 0), .ref (r 1), .ref (r 2), .int (nI rc), .ref (r 3), .int (nI tl), .ref (r 4), .ref (r 5), .ref (r 6), .ref (r 7), .ref (r 8), .ref (r 9), .ref (r 10), .ref (r 11), .ref (r 12), .int (nI at9), .int (lf9), .int (pl9), .int (vl9), .int (nI fa), .int (nI rs9), .int (cs), .int (nI dn)], ai E (r 0) 892 (up S (0 + 4 * (96 * 0 + b) + k) v)]) rfl ?_
  refine g_aload_n F 0 dX9_setBoth_8 rfl rfl ?_
  refine g_iconst (v := nI 1) F dX9_setBoth_9 (by decide) ?_
  refine g_iload_n F 1 dX9_setBoth_10 rfl rfl ?_
  refine g_iload_n F 2 dX9_setBoth_11 rfl rfl ?_
  refine g_iload_n F 3 dX9_setBoth_12 rfl rfl ?_
  refine g_callVvW (n := 4) F [0, 1] (c_X9_setContent_r l E q r rc tl at9 lf9 pl9 vl9 fa rs9 cs dn (up S (0 + 4 * (96 * 0 + b) + k) v) 1 b k v (by omega) (by omega) (by omega)) dX9_setBoth_13 rfl (by decide) rfl rfl rfl (Nat.le_of_ble_eq_true rfl) ⟨Nat.le_of_ble_eq_true rfl, Nat.le_of_ble_eq_true rfl⟩ rfl rfl ⟨Nat.le_of_ble_eq_true rfl, Nat.le_of_ble_eq_true rfl⟩ 0 rfl rfl gX9_setBoth_X9_setContent (by decide +kernel) (fun u hp => by obtain rfl := hp; rfl) ?_
  rintro u_13 rfl
  refine g_ws (w2 := [ob 9 q [.ref (r 0), .ref (r 1), .ref (r 2), .int (nI rc), .ref (r 3), .int (nI tl), .ref (r 4), .ref (r 5), .ref (r 6), .ref (r 7), .ref (r 8), .ref (r 9), .ref (r 10), .ref (r 11), .ref (r 12), .int (nI at9), .int (lf9), .int (pl9), .int (vl9), .int (nI fa), .int (nI rs9), .int (cs), .int (nI dn)], ai E (r 0) 892 (up (up S (0 + 4 * (96 * 0 + b) + k) v) (0 + 4 * (96 * 1 + b) + k) v)]) rfl ?_
  exact hret _ _ _ dX9_setBoth_16 rfl
set_option maxHeartbeats 4000000 in
set_option maxRecDepth 100000 in
theorem c_X9_sumOf_r (l : Launch) (E : En) (q : Nat) (r : Nat → Nat) (rc : Nat) (tl : Nat) (at9 : Nat) (lf9 : Int32) (pl9 : Int32) (vl9 : Int32) (fa : Nat) (rs9 : Nat) (cs : Int32) (dn : Nat) (S : Nat → Nat) (c : Nat) (b : Nat) (hc : c < 2) (hb : b < 96) (hS : ∀ j : Nat, S j < 65536) : CtI l yX9_sumOf wsX9_sumOf ({ frames := 1, cells := 0, slots := 0, locals := 23 } : Room) E [.ref q, .int (nI c), .int (nI b)] [ob 9 q [.ref (r 0), .ref (r 1), .ref (r 2), .int (nI rc), .ref (r 3), .int (nI tl), .ref (r 4), .ref (r 5), .ref (r 6), .ref (r 7), .ref (r 8), .ref (r 9), .ref (r 10), .ref (r 11), .ref (r 12), .int (nI at9), .int (lf9), .int (pl9), .int (vl9), .int (nI fa), .int (nI rs9), .int (cs), .int (nI dn)], ai E (r 0) 892 S] (fun rr uu => rr = (nI ((4 * S (0 + 4 * (96 * c + b) + 0) + 3 * S (0 + 4 * (96 * c + b) + 1) + 2 * S (0 + 4 * (96 * c + b) + 2) + S (0 + 4 * (96 * c + b) + 3) + 7) % 251)) ∧ uu = [ob 9 q [.ref (r 0), .ref (r 1), .ref (r 2), .int (nI rc), .ref (r 3), .int (nI tl), .ref (r 4), .ref (r 5), .ref (r 6), .ref (r 7), .ref (r 8), .ref (r 9), .ref (r 10), .ref (r 11), .ref (r 12), .int (nI at9), .int (lf9), .int (pl9), .int (vl9), .int (nI fa), .int (nI rs9), .int (cs), .int (nI dn)], ai E (r 0) 892 S]) := by
  refine CtI.of cX9_sumOf 3 RX9 .int rfl (by decide) rfl (Or.inl rfl) (Nat.le_of_ble_eq_true rfl) (fun h => by cases h) ?_
  intro Γ F hret
  show G Γ E 0 0 0 [(0, .ref q), (1, .int (nI c)), (2, .int (nI b))] [] [ob 9 q [.ref (r 0), .ref (r 1), .ref (r 2), .int (nI rc), .ref (r 3), .int (nI tl), .ref (r 4), .ref (r 5), .ref (r 6), .ref (r 7), .ref (r 8), .ref (r 9), .ref (r 10), .ref (r 11), .ref (r 12), .int (nI at9), .int (lf9), .int (pl9), .int (vl9), .int (nI fa), .int (nI rs9), .int (cs), .int (nI dn)], ai E (r 0) 892 S]
  refine g_aload_n F 0 dX9_sumOf_0 rfl rfl ?_
  refine g_iload_n F 1 dX9_sumOf_1 rfl rfl ?_
  refine g_iload_n F 2 dX9_sumOf_2 rfl rfl ?_
  refine g_iconst (v := nI 0) F dX9_sumOf_3 (by decide) ?_
  refine g_callViR (n := 3) F [0, 1] (c_X9_contentOf_r l E q r rc tl at9 lf9 pl9 vl9 fa rs9 cs dn S c b 0 (by omega) (by omega) (by omega)) dX9_sumOf_4 rfl (by decide) rfl rfl rfl (Nat.le_of_ble_eq_true rfl) ⟨Nat.le_of_ble_eq_true rfl, Nat.le_of_ble_eq_true rfl⟩ rfl rfl ⟨Nat.le_of_ble_eq_true rfl, Nat.le_of_ble_eq_true rfl⟩ 0 rfl rfl gX9_sumOf_X9_contentOf (by decide +kernel) (fun r u hp => by obtain ⟨-, h⟩ := hp; exact h) ?_
  rintro r_4 u_4 ⟨rfl, -⟩
  refine g_aload_n F 0 dX9_sumOf_7 rfl rfl ?_
  refine g_iload_n F 1 dX9_sumOf_8 rfl rfl ?_
  refine g_iload_n F 2 dX9_sumOf_9 rfl rfl ?_
  refine g_iconst (v := nI 1) F dX9_sumOf_10 (by decide) ?_
  refine g_callViR (n := 3) F [0, 1] (c_X9_contentOf_r l E q r rc tl at9 lf9 pl9 vl9 fa rs9 cs dn S c b 1 (by omega) (by omega) (by omega)) dX9_sumOf_11 rfl (by decide) rfl rfl rfl (Nat.le_of_ble_eq_true rfl) ⟨Nat.le_of_ble_eq_true rfl, Nat.le_of_ble_eq_true rfl⟩ rfl rfl ⟨Nat.le_of_ble_eq_true rfl, Nat.le_of_ble_eq_true rfl⟩ 0 rfl rfl gX9_sumOf_X9_contentOf (by decide +kernel) (fun r u hp => by obtain ⟨-, h⟩ := hp; exact h) ?_
  rintro r_11 u_11 ⟨rfl, -⟩
  refine g_aload_n F 0 dX9_sumOf_14 rfl rfl ?_
  refine g_iload_n F 1 dX9_sumOf_15 rfl rfl ?_
  refine g_iload_n F 2 dX9_sumOf_16 rfl rfl ?_
  refine g_iconst (v := nI 2) F dX9_sumOf_17 (by decide) ?_
  refine g_callViR (n := 3) F [0, 1] (c_X9_contentOf_r l E q r rc tl at9 lf9 pl9 vl9 fa rs9 cs dn S c b 2 (by omega) (by omega) (by omega)) dX9_sumOf_18 rfl (by decide) rfl rfl rfl (Nat.le_of_ble_eq_true rfl) ⟨Nat.le_of_ble_eq_true rfl, Nat.le_of_ble_eq_true rfl⟩ rfl rfl ⟨Nat.le_of_ble_eq_true rfl, Nat.le_of_ble_eq_true rfl⟩ 0 rfl rfl gX9_sumOf_X9_contentOf (by decide +kernel) (fun r u hp => by obtain ⟨-, h⟩ := hp; exact h) ?_
  rintro r_18 u_18 ⟨rfl, -⟩
  refine g_aload_n F 0 dX9_sumOf_21 rfl rfl ?_
  refine g_iload_n F 1 dX9_sumOf_22 rfl rfl ?_
  refine g_iload_n F 2 dX9_sumOf_23 rfl rfl ?_
  refine g_iconst (v := nI 3) F dX9_sumOf_24 (by decide) ?_
  refine g_callViR (n := 3) F [0, 1] (c_X9_contentOf_r l E q r rc tl at9 lf9 pl9 vl9 fa rs9 cs dn S c b 3 (by omega) (by omega) (by omega)) dX9_sumOf_25 rfl (by decide) rfl rfl rfl (Nat.le_of_ble_eq_true rfl) ⟨Nat.le_of_ble_eq_true rfl, Nat.le_of_ble_eq_true rfl⟩ rfl rfl ⟨Nat.le_of_ble_eq_true rfl, Nat.le_of_ble_eq_true rfl⟩ 0 rfl rfl gX9_sumOf_X9_contentOf (by decide +kernel) (fun r u hp => by obtain ⟨-, h⟩ := hp; exact h) ?_
  rintro r_25 u_25 ⟨rfl, -⟩
  refine g_callSiR (n := 4) F [] (c_X9_sumFrom l E (S (0 + 4 * (96 * c + b) + 0)) (S (0 + 4 * (96 * c + b) + 1)) (S (0 + 4 * (96 * c + b) + 2)) (S (0 + 4 * (96 * c + b) + 3)) (by exact hS _) (by exact hS _) (by exact hS _) (by exact hS _)) dX9_sumOf_28 rfl (by decide) rfl rfl rfl (Nat.le_of_ble_eq_true rfl) ⟨Nat.le_of_ble_eq_true rfl, Nat.le_of_ble_eq_true rfl⟩ rfl rfl ⟨Nat.le_of_ble_eq_true rfl, Nat.le_of_ble_eq_true rfl⟩ ggX9_sumOf_X9_sumFrom (by decide +kernel) (by decide +kernel) (by decide +kernel) (by decide +kernel) (fun r u hp => by obtain ⟨-, h⟩ := hp; exact h) ?_
  rintro r_28 u_28 ⟨rfl, -⟩
  exact hret _ _ _ _ dX9_sumOf_31 ⟨(congrArg nI (by rfl)), rfl⟩
set_option maxHeartbeats 4000000 in
set_option maxRecDepth 100000 in
theorem c_X9_init (l : Launch) (E : En) (q : Nat)  : CtV l yX9_init wsX9_init ({ frames := 2, cells := 13, slots := 4653, locals := 47 } : Room) E [.ref q] [ob 9 q [.null, .null, .null, .int (nI 0), .null, .int (nI 0), .null, .null, .null, .null, .null, .null, .null, .null, .null, .int (nI 0), .int (nI 0), .int (nI 0), .int (nI 0), .int (nI 0), .int (nI 0), .int (nI 0), .int (nI 0)]] (fun uu => ∃ (r : Nat → Nat), uu = [ob 9 q [.ref (r 0), .ref (r 1), .ref (r 2), .int (nI 0), .ref (r 3), .int (nI 0), .ref (r 4), .ref (r 5), .ref (r 6), .ref (r 7), .ref (r 8), .ref (r 9), .ref (r 10), .ref (r 11), .ref (r 12), .int (nI 0), .int (nI 0), .int (nI 0), .int (nI 0), .int (nI 0), .int (nI 0), .int (nI 0), .int (nI 0)], ai E (r 0) 892 (up (up (up (up (rS 20 21) 864 1) 865 1) 869 20) 870 (sm (hN 20) ((0 * 96 + 20) * 4))), ai E (r 1) 892 (fun _ => 0), ai E (r 2) 2676 (fun _ => 0), ai E (r 3) 60 (fun _ => 0), ai E (r 4) 3 (fun _ => 0), ai E (r 5) 3 (fun _ => 0), ax E (r 6) 3 (fun _ => nI 0), ai E (r 7) 12 (fun _ => 0), ai E (r 8) 4 (fun _ => 0), ai E (r 9) 4 (fun _ => 0), ai E (r 10) 4 (fun _ => 0), ai E (r 11) 4 (fun _ => 0), ai E (r 12) 96 (fun _ => 0)]) := by
  refine CtV.of cX9_init 3 RX9 rfl (by decide) rfl (Nat.le_of_ble_eq_true rfl) ?_
  intro Γ F hin0 hret
  have hin := hin0 rfl
  show G Γ E 0 0 0 [(0, .ref q)] [] [ob 9 q [.null, .null, .null, .int (nI 0), .null, .int (nI 0), .null, .null, .null, .null, .null, .null, .null, .null, .null, .int (nI 0), .int (nI 0), .int (nI 0), .int (nI 0), .int (nI 0), .int (nI 0), .int (nI 0), .int (nI 0)]]
  refine g_aload_n F 0 dX9_init_0 rfl rfl ?_
  refine g_objInit F dX9_init_1 (by decide +kernel) (by decide +kernel) (by decide +kernel) (by decide) (by decide) ?_
  refine g_aload_n F 0 dX9_init_4 rfl rfl ?_
  refine g_sipush (v := nI 892) F dX9_init_5 (by decide) ?_
  refine g_newaI F dX9_init_8 (by decide +kernel) (by decide) (Nat.le_of_ble_eq_true rfl) (Nat.le_of_ble_eq_true rfl) (fun q8 => ?_)
  refine g_w (w2 := [ob 9 q [.null, .null, .null, .int (nI 0), .null, .int (nI 0), .null, .null, .null, .null, .null, .null, .null, .null, .null, .int (nI 0), .int (nI 0), .int (nI 0), .int (nI 0), .int (nI 0), .int (nI 0), .int (nI 0), .int (nI 0)], ai E q8 892 (fun _ => 0)]) (List.range 2) (by decide) rfl ?_
  refine g_widen (k := 1) (n := 892) (Nat.le_of_ble_eq_true rfl) (Nat.le_of_ble_eq_true rfl) ?_
  refine g_putF F hin 0 0 dX9_init_10 rfl rfl (by decide) (by decide +kernel) (by decide +kernel) tyX9_ok nmX9 rfl rfl (by decide +kernel) rfl rfl (Nat.le_of_ble_eq_true rfl) rfl (ty := (.array .int)) (w2 := [ob 9 q [.ref q8, .null, .null, .int (nI 0), .null, .int (nI 0), .null, .null, .null, .null, .null, .null, .null, .null, .null, .int (nI 0), .int (nI 0), .int (nI 0), .int (nI 0), .int (nI 0), .int (nI 0), .int (nI 0), .int (nI 0)], ai E q8 892 (fun _ => 0)]) rfl ?_
  refine g_aload_n F 0 dX9_init_13 rfl rfl ?_
  refine g_sipush (v := nI 892) F dX9_init_14 (by decide) ?_
  refine g_newaI F dX9_init_17 (by decide +kernel) (by decide) (Nat.le_of_ble_eq_true rfl) (Nat.le_of_ble_eq_true rfl) (fun q17 => ?_)
  refine g_w (w2 := [ob 9 q [.ref q8, .null, .null, .int (nI 0), .null, .int (nI 0), .null, .null, .null, .null, .null, .null, .null, .null, .null, .int (nI 0), .int (nI 0), .int (nI 0), .int (nI 0), .int (nI 0), .int (nI 0), .int (nI 0), .int (nI 0)], ai E q8 892 (fun _ => 0), ai E q17 892 (fun _ => 0)]) (List.range 3) (by decide) rfl ?_
  refine g_widen (k := 2) (n := 1784) (Nat.le_of_ble_eq_true rfl) (Nat.le_of_ble_eq_true rfl) ?_
  refine g_putF F hin 0 1 dX9_init_19 rfl rfl (by decide) (by decide +kernel) (by decide +kernel) tyX9_ok nmX9 rfl rfl (by decide +kernel) rfl rfl (Nat.le_of_ble_eq_true rfl) rfl (ty := (.array .int)) (w2 := [ob 9 q [.ref q8, .ref q17, .null, .int (nI 0), .null, .int (nI 0), .null, .null, .null, .null, .null, .null, .null, .null, .null, .int (nI 0), .int (nI 0), .int (nI 0), .int (nI 0), .int (nI 0), .int (nI 0), .int (nI 0), .int (nI 0)], ai E q8 892 (fun _ => 0), ai E q17 892 (fun _ => 0)]) rfl ?_
  refine g_aload_n F 0 dX9_init_22 rfl rfl ?_
  refine g_sipush (v := nI 2676) F dX9_init_23 (by decide) ?_
  refine g_newaI F dX9_init_26 (by decide +kernel) (by decide) (Nat.le_of_ble_eq_true rfl) (Nat.le_of_ble_eq_true rfl) (fun q26 => ?_)
  refine g_w (w2 := [ob 9 q [.ref q8, .ref q17, .null, .int (nI 0), .null, .int (nI 0), .null, .null, .null, .null, .null, .null, .null, .null, .null, .int (nI 0), .int (nI 0), .int (nI 0), .int (nI 0), .int (nI 0), .int (nI 0), .int (nI 0), .int (nI 0)], ai E q8 892 (fun _ => 0), ai E q17 892 (fun _ => 0), ai E q26 2676 (fun _ => 0)]) (List.range 4) (by decide) rfl ?_
  refine g_widen (k := 3) (n := 4460) (Nat.le_of_ble_eq_true rfl) (Nat.le_of_ble_eq_true rfl) ?_
  refine g_putF F hin 0 2 dX9_init_28 rfl rfl (by decide) (by decide +kernel) (by decide +kernel) tyX9_ok nmX9 rfl rfl (by decide +kernel) rfl rfl (Nat.le_of_ble_eq_true rfl) rfl (ty := (.array .int)) (w2 := [ob 9 q [.ref q8, .ref q17, .ref q26, .int (nI 0), .null, .int (nI 0), .null, .null, .null, .null, .null, .null, .null, .null, .null, .int (nI 0), .int (nI 0), .int (nI 0), .int (nI 0), .int (nI 0), .int (nI 0), .int (nI 0), .int (nI 0)], ai E q8 892 (fun _ => 0), ai E q17 892 (fun _ => 0), ai E q26 2676 (fun _ => 0)]) rfl ?_
  refine g_aload_n F 0 dX9_init_31 rfl rfl ?_
  refine g_bipush (v := nI 60) F dX9_init_32 (by decide) ?_
  refine g_newaI F dX9_init_34 (by decide +kernel) (by decide) (Nat.le_of_ble_eq_true rfl) (Nat.le_of_ble_eq_true rfl) (fun q34 => ?_)
  refine g_w (w2 := [ob 9 q [.ref q8, .ref q17, .ref q26, .int (nI 0), .null, .int (nI 0), .null, .null, .null, .null, .null, .null, .null, .null, .null, .int (nI 0), .int (nI 0), .int (nI 0), .int (nI 0), .int (nI 0), .int (nI 0), .int (nI 0), .int (nI 0)], ai E q8 892 (fun _ => 0), ai E q17 892 (fun _ => 0), ai E q26 2676 (fun _ => 0), ai E q34 60 (fun _ => 0)]) (List.range 5) (by decide) rfl ?_
  refine g_widen (k := 4) (n := 4520) (Nat.le_of_ble_eq_true rfl) (Nat.le_of_ble_eq_true rfl) ?_
  refine g_putF F hin 0 4 dX9_init_36 rfl rfl (by decide) (by decide +kernel) (by decide +kernel) tyX9_ok nmX9 rfl rfl (by decide +kernel) rfl rfl (Nat.le_of_ble_eq_true rfl) rfl (ty := (.array .int)) (w2 := [ob 9 q [.ref q8, .ref q17, .ref q26, .int (nI 0), .ref q34, .int (nI 0), .null, .null, .null, .null, .null, .null, .null, .null, .null, .int (nI 0), .int (nI 0), .int (nI 0), .int (nI 0), .int (nI 0), .int (nI 0), .int (nI 0), .int (nI 0)], ai E q8 892 (fun _ => 0), ai E q17 892 (fun _ => 0), ai E q26 2676 (fun _ => 0), ai E q34 60 (fun _ => 0)]) rfl ?_
  refine g_aload_n F 0 dX9_init_39 rfl rfl ?_
  refine g_iconst (v := nI 3) F dX9_init_40 (by decide) ?_
  refine g_newaI F dX9_init_41 (by decide +kernel) (by decide) (Nat.le_of_ble_eq_true rfl) (Nat.le_of_ble_eq_true rfl) (fun q41 => ?_)
  refine g_w (w2 := [ob 9 q [.ref q8, .ref q17, .ref q26, .int (nI 0), .ref q34, .int (nI 0), .null, .null, .null, .null, .null, .null, .null, .null, .null, .int (nI 0), .int (nI 0), .int (nI 0), .int (nI 0), .int (nI 0), .int (nI 0), .int (nI 0), .int (nI 0)], ai E q8 892 (fun _ => 0), ai E q17 892 (fun _ => 0), ai E q26 2676 (fun _ => 0), ai E q34 60 (fun _ => 0), ai E q41 3 (fun _ => 0)]) (List.range 6) (by decide) rfl ?_
  refine g_widen (k := 5) (n := 4523) (Nat.le_of_ble_eq_true rfl) (Nat.le_of_ble_eq_true rfl) ?_
  refine g_putF F hin 0 6 dX9_init_43 rfl rfl (by decide) (by decide +kernel) (by decide +kernel) tyX9_ok nmX9 rfl rfl (by decide +kernel) rfl rfl (Nat.le_of_ble_eq_true rfl) rfl (ty := (.array .int)) (w2 := [ob 9 q [.ref q8, .ref q17, .ref q26, .int (nI 0), .ref q34, .int (nI 0), .ref q41, .null, .null, .null, .null, .null, .null, .null, .null, .int (nI 0), .int (nI 0), .int (nI 0), .int (nI 0), .int (nI 0), .int (nI 0), .int (nI 0), .int (nI 0)], ai E q8 892 (fun _ => 0), ai E q17 892 (fun _ => 0), ai E q26 2676 (fun _ => 0), ai E q34 60 (fun _ => 0), ai E q41 3 (fun _ => 0)]) rfl ?_
  refine g_aload_n F 0 dX9_init_46 rfl rfl ?_
  refine g_iconst (v := nI 3) F dX9_init_47 (by decide) ?_
  refine g_newaI F dX9_init_48 (by decide +kernel) (by decide) (Nat.le_of_ble_eq_true rfl) (Nat.le_of_ble_eq_true rfl) (fun q48 => ?_)
  refine g_w (w2 := [ob 9 q [.ref q8, .ref q17, .ref q26, .int (nI 0), .ref q34, .int (nI 0), .ref q41, .null, .null, .null, .null, .null, .null, .null, .null, .int (nI 0), .int (nI 0), .int (nI 0), .int (nI 0), .int (nI 0), .int (nI 0), .int (nI 0), .int (nI 0)], ai E q8 892 (fun _ => 0), ai E q17 892 (fun _ => 0), ai E q26 2676 (fun _ => 0), ai E q34 60 (fun _ => 0), ai E q41 3 (fun _ => 0), ai E q48 3 (fun _ => 0)]) (List.range 7) (by decide) rfl ?_
  refine g_widen (k := 6) (n := 4526) (Nat.le_of_ble_eq_true rfl) (Nat.le_of_ble_eq_true rfl) ?_
  refine g_putF F hin 0 7 dX9_init_50 rfl rfl (by decide) (by decide +kernel) (by decide +kernel) tyX9_ok nmX9 rfl rfl (by decide +kernel) rfl rfl (Nat.le_of_ble_eq_true rfl) rfl (ty := (.array .int)) (w2 := [ob 9 q [.ref q8, .ref q17, .ref q26, .int (nI 0), .ref q34, .int (nI 0), .ref q41, .ref q48, .null, .null, .null, .null, .null, .null, .null, .int (nI 0), .int (nI 0), .int (nI 0), .int (nI 0), .int (nI 0), .int (nI 0), .int (nI 0), .int (nI 0)], ai E q8 892 (fun _ => 0), ai E q17 892 (fun _ => 0), ai E q26 2676 (fun _ => 0), ai E q34 60 (fun _ => 0), ai E q41 3 (fun _ => 0), ai E q48 3 (fun _ => 0)]) rfl ?_
  refine g_aload_n F 0 dX9_init_53 rfl rfl ?_
  refine g_iconst (v := nI 3) F dX9_init_54 (by decide) ?_
  refine g_newaI F dX9_init_55 (by decide +kernel) (by decide) (Nat.le_of_ble_eq_true rfl) (Nat.le_of_ble_eq_true rfl) (fun q55 => ?_)
  refine g_w (w2 := [ob 9 q [.ref q8, .ref q17, .ref q26, .int (nI 0), .ref q34, .int (nI 0), .ref q41, .ref q48, .null, .null, .null, .null, .null, .null, .null, .int (nI 0), .int (nI 0), .int (nI 0), .int (nI 0), .int (nI 0), .int (nI 0), .int (nI 0), .int (nI 0)], ai E q8 892 (fun _ => 0), ai E q17 892 (fun _ => 0), ai E q26 2676 (fun _ => 0), ai E q34 60 (fun _ => 0), ai E q41 3 (fun _ => 0), ai E q48 3 (fun _ => 0), ai E q55 3 (fun _ => 0)]) (List.range 8) (by decide) rfl ?_
  refine g_widen (k := 7) (n := 4529) (Nat.le_of_ble_eq_true rfl) (Nat.le_of_ble_eq_true rfl) ?_
  refine g_putF F hin 0 8 dX9_init_57 rfl rfl (by decide) (by decide +kernel) (by decide +kernel) tyX9_ok nmX9 rfl rfl (by decide +kernel) rfl rfl (Nat.le_of_ble_eq_true rfl) rfl (ty := (.array .int)) (w2 := [ob 9 q [.ref q8, .ref q17, .ref q26, .int (nI 0), .ref q34, .int (nI 0), .ref q41, .ref q48, .ref q55, .null, .null, .null, .null, .null, .null, .int (nI 0), .int (nI 0), .int (nI 0), .int (nI 0), .int (nI 0), .int (nI 0), .int (nI 0), .int (nI 0)], ai E q8 892 (fun _ => 0), ai E q17 892 (fun _ => 0), ai E q26 2676 (fun _ => 0), ai E q34 60 (fun _ => 0), ai E q41 3 (fun _ => 0), ai E q48 3 (fun _ => 0), ai E q55 3 (fun _ => 0)]) rfl ?_
  refine g_aload_n F 0 dX9_init_60 rfl rfl ?_
  refine g_bipush (v := nI 12) F dX9_init_61 (by decide) ?_
  refine g_newaI F dX9_init_63 (by decide +kernel) (by decide) (Nat.le_of_ble_eq_true rfl) (Nat.le_of_ble_eq_true rfl) (fun q63 => ?_)
  refine g_w (w2 := [ob 9 q [.ref q8, .ref q17, .ref q26, .int (nI 0), .ref q34, .int (nI 0), .ref q41, .ref q48, .ref q55, .null, .null, .null, .null, .null, .null, .int (nI 0), .int (nI 0), .int (nI 0), .int (nI 0), .int (nI 0), .int (nI 0), .int (nI 0), .int (nI 0)], ai E q8 892 (fun _ => 0), ai E q17 892 (fun _ => 0), ai E q26 2676 (fun _ => 0), ai E q34 60 (fun _ => 0), ai E q41 3 (fun _ => 0), ai E q48 3 (fun _ => 0), ai E q55 3 (fun _ => 0), ai E q63 12 (fun _ => 0)]) (List.range 9) (by decide) rfl ?_
  refine g_widen (k := 8) (n := 4541) (Nat.le_of_ble_eq_true rfl) (Nat.le_of_ble_eq_true rfl) ?_
  refine g_putF F hin 0 9 dX9_init_65 rfl rfl (by decide) (by decide +kernel) (by decide +kernel) tyX9_ok nmX9 rfl rfl (by decide +kernel) rfl rfl (Nat.le_of_ble_eq_true rfl) rfl (ty := (.array .int)) (w2 := [ob 9 q [.ref q8, .ref q17, .ref q26, .int (nI 0), .ref q34, .int (nI 0), .ref q41, .ref q48, .ref q55, .ref q63, .null, .null, .null, .null, .null, .int (nI 0), .int (nI 0), .int (nI 0), .int (nI 0), .int (nI 0), .int (nI 0), .int (nI 0), .int (nI 0)], ai E q8 892 (fun _ => 0), ai E q17 892 (fun _ => 0), ai E q26 2676 (fun _ => 0), ai E q34 60 (fun _ => 0), ai E q41 3 (fun _ => 0), ai E q48 3 (fun _ => 0), ai E q55 3 (fun _ => 0), ai E q63 12 (fun _ => 0)]) rfl ?_
  refine g_aload_n F 0 dX9_init_68 rfl rfl ?_
  refine g_iconst (v := nI 4) F dX9_init_69 (by decide) ?_
  refine g_newaI F dX9_init_70 (by decide +kernel) (by decide) (Nat.le_of_ble_eq_true rfl) (Nat.le_of_ble_eq_true rfl) (fun q70 => ?_)
  refine g_w (w2 := [ob 9 q [.ref q8, .ref q17, .ref q26, .int (nI 0), .ref q34, .int (nI 0), .ref q41, .ref q48, .ref q55, .ref q63, .null, .null, .null, .null, .null, .int (nI 0), .int (nI 0), .int (nI 0), .int (nI 0), .int (nI 0), .int (nI 0), .int (nI 0), .int (nI 0)], ai E q8 892 (fun _ => 0), ai E q17 892 (fun _ => 0), ai E q26 2676 (fun _ => 0), ai E q34 60 (fun _ => 0), ai E q41 3 (fun _ => 0), ai E q48 3 (fun _ => 0), ai E q55 3 (fun _ => 0), ai E q63 12 (fun _ => 0), ai E q70 4 (fun _ => 0)]) (List.range 10) (by decide) rfl ?_
  refine g_widen (k := 9) (n := 4545) (Nat.le_of_ble_eq_true rfl) (Nat.le_of_ble_eq_true rfl) ?_
  refine g_putF F hin 0 10 dX9_init_72 rfl rfl (by decide) (by decide +kernel) (by decide +kernel) tyX9_ok nmX9 rfl rfl (by decide +kernel) rfl rfl (Nat.le_of_ble_eq_true rfl) rfl (ty := (.array .int)) (w2 := [ob 9 q [.ref q8, .ref q17, .ref q26, .int (nI 0), .ref q34, .int (nI 0), .ref q41, .ref q48, .ref q55, .ref q63, .ref q70, .null, .null, .null, .null, .int (nI 0), .int (nI 0), .int (nI 0), .int (nI 0), .int (nI 0), .int (nI 0), .int (nI 0), .int (nI 0)], ai E q8 892 (fun _ => 0), ai E q17 892 (fun _ => 0), ai E q26 2676 (fun _ => 0), ai E q34 60 (fun _ => 0), ai E q41 3 (fun _ => 0), ai E q48 3 (fun _ => 0), ai E q55 3 (fun _ => 0), ai E q63 12 (fun _ => 0), ai E q70 4 (fun _ => 0)]) rfl ?_
  refine g_aload_n F 0 dX9_init_75 rfl rfl ?_
  refine g_iconst (v := nI 4) F dX9_init_76 (by decide) ?_
  refine g_newaI F dX9_init_77 (by decide +kernel) (by decide) (Nat.le_of_ble_eq_true rfl) (Nat.le_of_ble_eq_true rfl) (fun q77 => ?_)
  refine g_w (w2 := [ob 9 q [.ref q8, .ref q17, .ref q26, .int (nI 0), .ref q34, .int (nI 0), .ref q41, .ref q48, .ref q55, .ref q63, .ref q70, .null, .null, .null, .null, .int (nI 0), .int (nI 0), .int (nI 0), .int (nI 0), .int (nI 0), .int (nI 0), .int (nI 0), .int (nI 0)], ai E q8 892 (fun _ => 0), ai E q17 892 (fun _ => 0), ai E q26 2676 (fun _ => 0), ai E q34 60 (fun _ => 0), ai E q41 3 (fun _ => 0), ai E q48 3 (fun _ => 0), ai E q55 3 (fun _ => 0), ai E q63 12 (fun _ => 0), ai E q70 4 (fun _ => 0), ai E q77 4 (fun _ => 0)]) (List.range 11) (by decide) rfl ?_
  refine g_widen (k := 10) (n := 4549) (Nat.le_of_ble_eq_true rfl) (Nat.le_of_ble_eq_true rfl) ?_
  refine g_putF F hin 0 11 dX9_init_79 rfl rfl (by decide) (by decide +kernel) (by decide +kernel) tyX9_ok nmX9 rfl rfl (by decide +kernel) rfl rfl (Nat.le_of_ble_eq_true rfl) rfl (ty := (.array .int)) (w2 := [ob 9 q [.ref q8, .ref q17, .ref q26, .int (nI 0), .ref q34, .int (nI 0), .ref q41, .ref q48, .ref q55, .ref q63, .ref q70, .ref q77, .null, .null, .null, .int (nI 0), .int (nI 0), .int (nI 0), .int (nI 0), .int (nI 0), .int (nI 0), .int (nI 0), .int (nI 0)], ai E q8 892 (fun _ => 0), ai E q17 892 (fun _ => 0), ai E q26 2676 (fun _ => 0), ai E q34 60 (fun _ => 0), ai E q41 3 (fun _ => 0), ai E q48 3 (fun _ => 0), ai E q55 3 (fun _ => 0), ai E q63 12 (fun _ => 0), ai E q70 4 (fun _ => 0), ai E q77 4 (fun _ => 0)]) rfl ?_
  refine g_aload_n F 0 dX9_init_82 rfl rfl ?_
  refine g_iconst (v := nI 4) F dX9_init_83 (by decide) ?_
  refine g_newaI F dX9_init_84 (by decide +kernel) (by decide) (Nat.le_of_ble_eq_true rfl) (Nat.le_of_ble_eq_true rfl) (fun q84 => ?_)
  refine g_w (w2 := [ob 9 q [.ref q8, .ref q17, .ref q26, .int (nI 0), .ref q34, .int (nI 0), .ref q41, .ref q48, .ref q55, .ref q63, .ref q70, .ref q77, .null, .null, .null, .int (nI 0), .int (nI 0), .int (nI 0), .int (nI 0), .int (nI 0), .int (nI 0), .int (nI 0), .int (nI 0)], ai E q8 892 (fun _ => 0), ai E q17 892 (fun _ => 0), ai E q26 2676 (fun _ => 0), ai E q34 60 (fun _ => 0), ai E q41 3 (fun _ => 0), ai E q48 3 (fun _ => 0), ai E q55 3 (fun _ => 0), ai E q63 12 (fun _ => 0), ai E q70 4 (fun _ => 0), ai E q77 4 (fun _ => 0), ai E q84 4 (fun _ => 0)]) (List.range 12) (by decide) rfl ?_
  refine g_widen (k := 11) (n := 4553) (Nat.le_of_ble_eq_true rfl) (Nat.le_of_ble_eq_true rfl) ?_
  refine g_putF F hin 0 12 dX9_init_86 rfl rfl (by decide) (by decide +kernel) (by decide +kernel) tyX9_ok nmX9 rfl rfl (by decide +kernel) rfl rfl (Nat.le_of_ble_eq_true rfl) rfl (ty := (.array .int)) (w2 := [ob 9 q [.ref q8, .ref q17, .ref q26, .int (nI 0), .ref q34, .int (nI 0), .ref q41, .ref q48, .ref q55, .ref q63, .ref q70, .ref q77, .ref q84, .null, .null, .int (nI 0), .int (nI 0), .int (nI 0), .int (nI 0), .int (nI 0), .int (nI 0), .int (nI 0), .int (nI 0)], ai E q8 892 (fun _ => 0), ai E q17 892 (fun _ => 0), ai E q26 2676 (fun _ => 0), ai E q34 60 (fun _ => 0), ai E q41 3 (fun _ => 0), ai E q48 3 (fun _ => 0), ai E q55 3 (fun _ => 0), ai E q63 12 (fun _ => 0), ai E q70 4 (fun _ => 0), ai E q77 4 (fun _ => 0), ai E q84 4 (fun _ => 0)]) rfl ?_
  refine g_aload_n F 0 dX9_init_89 rfl rfl ?_
  refine g_iconst (v := nI 4) F dX9_init_90 (by decide) ?_
  refine g_newaI F dX9_init_91 (by decide +kernel) (by decide) (Nat.le_of_ble_eq_true rfl) (Nat.le_of_ble_eq_true rfl) (fun q91 => ?_)
  refine g_w (w2 := [ob 9 q [.ref q8, .ref q17, .ref q26, .int (nI 0), .ref q34, .int (nI 0), .ref q41, .ref q48, .ref q55, .ref q63, .ref q70, .ref q77, .ref q84, .null, .null, .int (nI 0), .int (nI 0), .int (nI 0), .int (nI 0), .int (nI 0), .int (nI 0), .int (nI 0), .int (nI 0)], ai E q8 892 (fun _ => 0), ai E q17 892 (fun _ => 0), ai E q26 2676 (fun _ => 0), ai E q34 60 (fun _ => 0), ai E q41 3 (fun _ => 0), ai E q48 3 (fun _ => 0), ai E q55 3 (fun _ => 0), ai E q63 12 (fun _ => 0), ai E q70 4 (fun _ => 0), ai E q77 4 (fun _ => 0), ai E q84 4 (fun _ => 0), ai E q91 4 (fun _ => 0)]) (List.range 13) (by decide) rfl ?_
  refine g_widen (k := 12) (n := 4557) (Nat.le_of_ble_eq_true rfl) (Nat.le_of_ble_eq_true rfl) ?_
  refine g_putF F hin 0 13 dX9_init_93 rfl rfl (by decide) (by decide +kernel) (by decide +kernel) tyX9_ok nmX9 rfl rfl (by decide +kernel) rfl rfl (Nat.le_of_ble_eq_true rfl) rfl (ty := (.array .int)) (w2 := [ob 9 q [.ref q8, .ref q17, .ref q26, .int (nI 0), .ref q34, .int (nI 0), .ref q41, .ref q48, .ref q55, .ref q63, .ref q70, .ref q77, .ref q84, .ref q91, .null, .int (nI 0), .int (nI 0), .int (nI 0), .int (nI 0), .int (nI 0), .int (nI 0), .int (nI 0), .int (nI 0)], ai E q8 892 (fun _ => 0), ai E q17 892 (fun _ => 0), ai E q26 2676 (fun _ => 0), ai E q34 60 (fun _ => 0), ai E q41 3 (fun _ => 0), ai E q48 3 (fun _ => 0), ai E q55 3 (fun _ => 0), ai E q63 12 (fun _ => 0), ai E q70 4 (fun _ => 0), ai E q77 4 (fun _ => 0), ai E q84 4 (fun _ => 0), ai E q91 4 (fun _ => 0)]) rfl ?_
  refine g_aload_n F 0 dX9_init_96 rfl rfl ?_
  refine g_bipush (v := nI 96) F dX9_init_97 (by decide) ?_
  refine g_newaI F dX9_init_99 (by decide +kernel) (by decide) (Nat.le_of_ble_eq_true rfl) (Nat.le_of_ble_eq_true rfl) (fun q99 => ?_)
  refine g_w (w2 := [ob 9 q [.ref q8, .ref q17, .ref q26, .int (nI 0), .ref q34, .int (nI 0), .ref q41, .ref q48, .ref q55, .ref q63, .ref q70, .ref q77, .ref q84, .ref q91, .null, .int (nI 0), .int (nI 0), .int (nI 0), .int (nI 0), .int (nI 0), .int (nI 0), .int (nI 0), .int (nI 0)], ai E q8 892 (fun _ => 0), ai E q17 892 (fun _ => 0), ai E q26 2676 (fun _ => 0), ai E q34 60 (fun _ => 0), ai E q41 3 (fun _ => 0), ai E q48 3 (fun _ => 0), ai E q55 3 (fun _ => 0), ai E q63 12 (fun _ => 0), ai E q70 4 (fun _ => 0), ai E q77 4 (fun _ => 0), ai E q84 4 (fun _ => 0), ai E q91 4 (fun _ => 0), ai E q99 96 (fun _ => 0)]) (List.range 14) (by decide) rfl ?_
  refine g_widen (k := 13) (n := 4653) (Nat.le_of_ble_eq_true rfl) (Nat.le_of_ble_eq_true rfl) ?_
  refine g_putF F hin 0 14 dX9_init_101 rfl rfl (by decide) (by decide +kernel) (by decide +kernel) tyX9_ok nmX9 rfl rfl (by decide +kernel) rfl rfl (Nat.le_of_ble_eq_true rfl) rfl (ty := (.array .int)) (w2 := [ob 9 q [.ref q8, .ref q17, .ref q26, .int (nI 0), .ref q34, .int (nI 0), .ref q41, .ref q48, .ref q55, .ref q63, .ref q70, .ref q77, .ref q84, .ref q91, .ref q99, .int (nI 0), .int (nI 0), .int (nI 0), .int (nI 0), .int (nI 0), .int (nI 0), .int (nI 0), .int (nI 0)], ai E q8 892 (fun _ => 0), ai E q17 892 (fun _ => 0), ai E q26 2676 (fun _ => 0), ai E q34 60 (fun _ => 0), ai E q41 3 (fun _ => 0), ai E q48 3 (fun _ => 0), ai E q55 3 (fun _ => 0), ai E q63 12 (fun _ => 0), ai E q70 4 (fun _ => 0), ai E q77 4 (fun _ => 0), ai E q84 4 (fun _ => 0), ai E q91 4 (fun _ => 0), ai E q99 96 (fun _ => 0)]) rfl ?_
  obtain ⟨r, er0, er1, er2, er3, er4, er5, er6, er7, er8, er9, er10, er11, er12⟩ : ∃ r : Nat → Nat, r 0 = q8 ∧ r 1 = q17 ∧ r 2 = q26 ∧ r 3 = q34 ∧ r 4 = q41 ∧ r 5 = q48 ∧ r 6 = q55 ∧ r 7 = q63 ∧ r 8 = q70 ∧ r 9 = q77 ∧ r 10 = q84 ∧ r 11 = q91 ∧ r 12 = q99 := ⟨lk [q8, q17, q26, q34, q41, q48, q55, q63, q70, q77, q84, q91, q99], rfl, rfl, rfl, rfl, rfl, rfl, rfl, rfl, rfl, rfl, rfl, rfl, rfl⟩
  subst er0
  subst er1
  subst er2
  subst er3
  subst er4
  subst er5
  subst er6
  subst er7
  subst er8
  subst er9
  subst er10
  subst er11
  subst er12
  refine g_obC 0 rfl [.ref (r 0), .ref (r 1), .ref (r 2), .int (nI 0), .ref (r 3), .int (nI 0), .ref (r 4), .ref (r 5), .ref (r 6), .ref (r 7), .ref (r 8), .ref (r 9), .ref (r 10), .ref (r 11), .ref (r 12), .int (nI 0), .int (nI 0), .int (nI 0), .int (nI 0), .int (nI 0), .int (nI 0), .int (nI 0), .int (nI 0)] (by rfl) (w2 := [ob 9 q [.ref (r 0), .ref (r 1), .ref (r 2), .int (nI 0), .ref (r 3), .int (nI 0), .ref (r 4), .ref (r 5), .ref (r 6), .ref (r 7), .ref (r 8), .ref (r 9), .ref (r 10), .ref (r 11), .ref (r 12), .int (nI 0), .int (nI 0), .int (nI 0), .int (nI 0), .int (nI 0), .int (nI 0), .int (nI 0), .int (nI 0)], ai E (r 0) 892 (fun _ => 0), ai E (r 1) 892 (fun _ => 0), ai E (r 2) 2676 (fun _ => 0), ai E (r 3) 60 (fun _ => 0), ai E (r 4) 3 (fun _ => 0), ai E (r 5) 3 (fun _ => 0), ai E (r 6) 3 (fun _ => 0), ai E (r 7) 12 (fun _ => 0), ai E (r 8) 4 (fun _ => 0), ai E (r 9) 4 (fun _ => 0), ai E (r 10) 4 (fun _ => 0), ai E (r 11) 4 (fun _ => 0), ai E (r 12) 96 (fun _ => 0)]) rfl ?_
  refine g_iconst (v := nI 0) F dX9_init_104 (by decide) ?_
  refine g_istore_n (lv2 := [(1, .int (nI 0)), (0, .ref q)]) F dX9_init_105 rfl (by decide) rfl ?_
  have loop106 : ∀ (n : Nat) (i : Nat), 21 - i < n → (i ≤ 21) → G Γ E 13 4653 106 [(0, .ref q), (1, .int (nI i))] [] [ob 9 q [.ref (r 0), .ref (r 1), .ref (r 2), .int (nI 0), .ref (r 3), .int (nI 0), .ref (r 4), .ref (r 5), .ref (r 6), .ref (r 7), .ref (r 8), .ref (r 9), .ref (r 10), .ref (r 11), .ref (r 12), .int (nI 0), .int (nI 0), .int (nI 0), .int (nI 0), .int (nI 0), .int (nI 0), .int (nI 0), .int (nI 0)], ai E (r 0) 892 (rS 0 i), ai E (r 1) 892 (fun _ => 0), ai E (r 2) 2676 (fun _ => 0), ai E (r 3) 60 (fun _ => 0), ai E (r 4) 3 (fun _ => 0), ai E (r 5) 3 (fun _ => 0), ai E (r 6) 3 (fun _ => 0), ai E (r 7) 12 (fun _ => 0), ai E (r 8) 4 (fun _ => 0), ai E (r 9) 4 (fun _ => 0), ai E (r 10) 4 (fun _ => 0), ai E (r 11) 4 (fun _ => 0), ai E (r 12) 96 (fun _ => 0)] := by
    intro n
    induction n with
    | zero => intro i hz; exact absurd hz (Nat.not_lt_zero _)
    | succ n ih106 =>
      intro i hz106 hi
      refine g_iload_n F 1 dX9_init_106 rfl rfl ?_
      refine g_bipush (v := nI 21) F dX9_init_107 (by decide) ?_
      refine g_icmp_geN (tgt := 129) F dX9_init_109 (by decide) (by omega) (by omega) (fun c109 => ?_) (fun c109 => ?_)
      · skip
        refine g_iconst (v := nI 0) F dX9_init_129 (by decide) ?_
        refine g_istore_n (lv2 := [(1, .int (nI 0)), (0, .ref q)]) F dX9_init_130 rfl (by decide) rfl ?_
        have loop131 : ∀ (n : Nat) (p : Nat), 4 - p < n → (p ≤ 4) → G Γ E 13 4653 131 [(0, .ref q), (1, .int (nI p))] [] [ob 9 q [.ref (r 0), .ref (r 1), .ref (r 2), .int (nI 0), .ref (r 3), .int (nI 0), .ref (r 4), .ref (r 5), .ref (r 6), .ref (r 7), .ref (r 8), .ref (r 9), .ref (r 10), .ref (r 11), .ref (r 12), .int (nI 0), .int (nI 0), .int (nI 0), .int (nI 0), .int (nI 0), .int (nI 0), .int (nI 0), .int (nI 0)], ai E (r 0) 892 (rS (4 * p) 21), ai E (r 1) 892 (fun _ => 0), ai E (r 2) 2676 (fun _ => 0), ai E (r 3) 60 (fun _ => 0), ai E (r 4) 3 (fun _ => 0), ai E (r 5) 3 (fun _ => 0), ai E (r 6) 3 (fun _ => 0), ai E (r 7) 12 (fun _ => 0), ai E (r 8) 4 (fun _ => 0), ai E (r 9) 4 (fun _ => 0), ai E (r 10) 4 (fun _ => 0), ai E (r 11) 4 (fun _ => 0), ai E (r 12) 96 (fun _ => 0)] := by
          intro n
          induction n with
          | zero => intro p hz; exact absurd hz (Nat.not_lt_zero _)
          | succ n ih131 =>
            intro p hz131 hp
            refine g_iload_n F 1 dX9_init_131 rfl rfl ?_
            refine g_iconst (v := nI 4) F dX9_init_132 (by decide) ?_
            refine g_icmp_geN (tgt := 184) F dX9_init_133 (by decide) (by omega) (by omega) (fun c133 => ?_) (fun c133 => ?_)
            · skip
              refine g_iconst (v := nI 0) F dX9_init_184 (by decide) ?_
              refine g_istore_n (lv2 := [(1, .int (nI 0)), (0, .ref q)]) F dX9_init_185 rfl (by decide) rfl ?_
              have loop186 : ∀ (n : Nat) (d : Nat), 4 - d < n → (d ≤ 4) → G Γ E 13 4653 186 [(0, .ref q), (1, .int (nI d))] [] [ob 9 q [.ref (r 0), .ref (r 1), .ref (r 2), .int (nI 0), .ref (r 3), .int (nI 0), .ref (r 4), .ref (r 5), .ref (r 6), .ref (r 7), .ref (r 8), .ref (r 9), .ref (r 10), .ref (r 11), .ref (r 12), .int (nI 0), .int (nI 0), .int (nI 0), .int (nI 0), .int (nI 0), .int (nI 0), .int (nI 0), .int (nI 0)], ai E (r 0) 892 (rS (16 + d) 21), ai E (r 1) 892 (fun _ => 0), ai E (r 2) 2676 (fun _ => 0), ai E (r 3) 60 (fun _ => 0), ai E (r 4) 3 (fun _ => 0), ai E (r 5) 3 (fun _ => 0), ai E (r 6) 3 (fun _ => 0), ai E (r 7) 12 (fun _ => 0), ai E (r 8) 4 (fun _ => 0), ai E (r 9) 4 (fun _ => 0), ai E (r 10) 4 (fun _ => 0), ai E (r 11) 4 (fun _ => 0), ai E (r 12) 96 (fun _ => 0)] := by
                intro n
                induction n with
                | zero => intro d hz; exact absurd hz (Nat.not_lt_zero _)
                | succ n ih186 =>
                  intro d hz186 hd
                  refine g_iload_n F 1 dX9_init_186 rfl rfl ?_
                  refine g_iconst (v := nI 4) F dX9_init_187 (by decide) ?_
                  refine g_icmp_geN (tgt := 222) F dX9_init_188 (by decide) (by omega) (by omega) (fun c188 => ?_) (fun c188 => ?_)
                  · skip
                    refine g_aiC 1 rfl (rS 20 21) (by intro j hj; rw [show d = 4 by omega]) (w2 := [ob 9 q [.ref (r 0), .ref (r 1), .ref (r 2), .int (nI 0), .ref (r 3), .int (nI 0), .ref (r 4), .ref (r 5), .ref (r 6), .ref (r 7), .ref (r 8), .ref (r 9), .ref (r 10), .ref (r 11), .ref (r 12), .int (nI 0), .int (nI 0), .int (nI 0), .int (nI 0), .int (nI 0), .int (nI 0), .int (nI 0), .int (nI 0)], ai E (r 0) 892 (rS 20 21), ai E (r 1) 892 (fun _ => 0), ai E (r 2) 2676 (fun _ => 0), ai E (r 3) 60 (fun _ => 0), ai E (r 4) 3 (fun _ => 0), ai E (r 5) 3 (fun _ => 0), ai E (r 6) 3 (fun _ => 0), ai E (r 7) 12 (fun _ => 0), ai E (r 8) 4 (fun _ => 0), ai E (r 9) 4 (fun _ => 0), ai E (r 10) 4 (fun _ => 0), ai E (r 11) 4 (fun _ => 0), ai E (r 12) 96 (fun _ => 0)]) rfl ?_
                    refine g_aload_n F 0 dX9_init_222 rfl rfl ?_
                    refine g_get F 0 0 dX9_init_223 rfl rfl (by decide) (by decide +kernel) (by decide +kernel) rfl ?_
                    refine g_sipush (v := nI 864) F dX9_init_226 (by decide) ?_
                    refine g_iconst (v := nI 1) F dX9_init_229 (by decide) ?_
                    refine g_iast F 1 dX9_init_230 rfl (by omega) (by decide) (w2 := [ob 9 q [.ref (r 0), .ref (r 1), .ref (r 2), .int (nI 0), .ref (r 3), .int (nI 0), .ref (r 4), .ref (r 5), .ref (r 6), .ref (r 7), .ref (r 8), .ref (r 9), .ref (r 10), .ref (r 11), .ref (r 12), .int (nI 0), .int (nI 0), .int (nI 0), .int (nI 0), .int (nI 0), .int (nI 0), .int (nI 0), .int (nI 0)], ai E (r 0) 892 (up (rS 20 21) 864 1), ai E (r 1) 892 (fun _ => 0), ai E (r 2) 2676 (fun _ => 0), ai E (r 3) 60 (fun _ => 0), ai E (r 4) 3 (fun _ => 0), ai E (r 5) 3 (fun _ => 0), ai E (r 6) 3 (fun _ => 0), ai E (r 7) 12 (fun _ => 0), ai E (r 8) 4 (fun _ => 0), ai E (r 9) 4 (fun _ => 0), ai E (r 10) 4 (fun _ => 0), ai E (r 11) 4 (fun _ => 0), ai E (r 12) 96 (fun _ => 0)]) rfl ?_
                    refine g_aload_n F 0 dX9_init_231 rfl rfl ?_
                    refine g_get F 0 0 dX9_init_232 rfl rfl (by decide) (by decide +kernel) (by decide +kernel) rfl ?_
                    refine g_sipush (v := nI 865) F dX9_init_235 (by decide) ?_
                    refine g_iconst (v := nI 1) F dX9_init_238 (by decide) ?_
                    refine g_iast F 1 dX9_init_239 rfl (by omega) (by decide) (w2 := [ob 9 q [.ref (r 0), .ref (r 1), .ref (r 2), .int (nI 0), .ref (r 3), .int (nI 0), .ref (r 4), .ref (r 5), .ref (r 6), .ref (r 7), .ref (r 8), .ref (r 9), .ref (r 10), .ref (r 11), .ref (r 12), .int (nI 0), .int (nI 0), .int (nI 0), .int (nI 0), .int (nI 0), .int (nI 0), .int (nI 0), .int (nI 0)], ai E (r 0) 892 (up (up (rS 20 21) 864 1) 865 1), ai E (r 1) 892 (fun _ => 0), ai E (r 2) 2676 (fun _ => 0), ai E (r 3) 60 (fun _ => 0), ai E (r 4) 3 (fun _ => 0), ai E (r 5) 3 (fun _ => 0), ai E (r 6) 3 (fun _ => 0), ai E (r 7) 12 (fun _ => 0), ai E (r 8) 4 (fun _ => 0), ai E (r 9) 4 (fun _ => 0), ai E (r 10) 4 (fun _ => 0), ai E (r 11) 4 (fun _ => 0), ai E (r 12) 96 (fun _ => 0)]) rfl ?_
                    refine g_aload_n F 0 dX9_init_240 rfl rfl ?_
                    refine g_get F 0 0 dX9_init_241 rfl rfl (by decide) (by decide +kernel) (by decide +kernel) rfl ?_
                    refine g_sipush (v := nI 869) F dX9_init_244 (by decide) ?_
                    refine g_bipush (v := nI 20) F dX9_init_247 (by decide) ?_
                    refine g_iast F 1 dX9_init_249 rfl (by omega) (by decide) (w2 := [ob 9 q [.ref (r 0), .ref (r 1), .ref (r 2), .int (nI 0), .ref (r 3), .int (nI 0), .ref (r 4), .ref (r 5), .ref (r 6), .ref (r 7), .ref (r 8), .ref (r 9), .ref (r 10), .ref (r 11), .ref (r 12), .int (nI 0), .int (nI 0), .int (nI 0), .int (nI 0), .int (nI 0), .int (nI 0), .int (nI 0), .int (nI 0)], ai E (r 0) 892 (up (up (up (rS 20 21) 864 1) 865 1) 869 20), ai E (r 1) 892 (fun _ => 0), ai E (r 2) 2676 (fun _ => 0), ai E (r 3) 60 (fun _ => 0), ai E (r 4) 3 (fun _ => 0), ai E (r 5) 3 (fun _ => 0), ai E (r 6) 3 (fun _ => 0), ai E (r 7) 12 (fun _ => 0), ai E (r 8) 4 (fun _ => 0), ai E (r 9) 4 (fun _ => 0), ai E (r 10) 4 (fun _ => 0), ai E (r 11) 4 (fun _ => 0), ai E (r 12) 96 (fun _ => 0)]) rfl ?_
                    refine g_aload_n F 0 dX9_init_250 rfl rfl ?_
                    refine g_get F 0 0 dX9_init_251 rfl rfl (by decide) (by decide +kernel) (by decide +kernel) rfl ?_
                    refine g_sipush (v := nI 870) F dX9_init_254 (by decide) ?_
                    refine g_aload_n F 0 dX9_init_257 rfl rfl ?_
                    refine g_iconst (v := nI 0) F dX9_init_258 (by decide) ?_
                    refine g_bipush (v := nI 20) F dX9_init_259 (by decide) ?_
                    refine g_callViR (n := 2) F [0, 1] (c_X9_sumOf_r l E q r 0 0 0 (nI 0) (nI 0) (nI 0) 0 0 (nI 0) 0 (up (up (up (rS 20 21) 864 1) 865 1) 869 20) 0 20 (by decide) (by decide) (by intro j; unfold up; have := rS_BN (n := 20) (u := 21) (Nat.le_refl 20) j; (repeat' split) <;> omega)) dX9_init_261 rfl (by decide) rfl rfl rfl (Nat.le_of_ble_eq_true rfl) ⟨Nat.le_of_ble_eq_true rfl, Nat.le_of_ble_eq_true rfl⟩ rfl rfl ⟨Nat.le_of_ble_eq_true rfl, Nat.le_of_ble_eq_true rfl⟩ 0 rfl rfl gX9_init_X9_sumOf (by decide +kernel) (fun r u hp => by obtain ⟨-, h⟩ := hp; exact h) ?_
                    rintro r_261 u_261 ⟨rfl, -⟩
                    refine g_top (nI ((4 * (up (up (up (rS 20 21) 864 1) 865 1) 869 20) (0 + 4 * (96 * 0 + 20) + 0) + 3 * (up (up (up (rS 20 21) 864 1) 865 1) 869 20) (0 + 4 * (96 * 0 + 20) + 1) + 2 * (up (up (up (rS 20 21) 864 1) 865 1) 869 20) (0 + 4 * (96 * 0 + 20) + 2) + (up (up (up (rS 20 21) 864 1) 865 1) 869 20) (0 + 4 * (96 * 0 + 20) + 3) + 7) % 251)) (nI (sm (hN 20) ((0 * 96 + 20) * 4))) (by (repeat (rw [up_n _ _ (by decide)])); exact congrArg nI (rS_sm (n := 20) (u := 21) (i := 20) (by decide))) ?_
                    refine g_iast F 1 dX9_init_264 rfl (by omega) (by decide) (w2 := [ob 9 q [.ref (r 0), .ref (r 1), .ref (r 2), .int (nI 0), .ref (r 3), .int (nI 0), .ref (r 4), .ref (r 5), .ref (r 6), .ref (r 7), .ref (r 8), .ref (r 9), .ref (r 10), .ref (r 11), .ref (r 12), .int (nI 0), .int (nI 0), .int (nI 0), .int (nI 0), .int (nI 0), .int (nI 0), .int (nI 0), .int (nI 0)], ai E (r 0) 892 (up (up (up (up (rS 20 21) 864 1) 865 1) 869 20) 870 (sm (hN 20) ((0 * 96 + 20) * 4))), ai E (r 1) 892 (fun _ => 0), ai E (r 2) 2676 (fun _ => 0), ai E (r 3) 60 (fun _ => 0), ai E (r 4) 3 (fun _ => 0), ai E (r 5) 3 (fun _ => 0), ai E (r 6) 3 (fun _ => 0), ai E (r 7) 12 (fun _ => 0), ai E (r 8) 4 (fun _ => 0), ai E (r 9) 4 (fun _ => 0), ai E (r 10) 4 (fun _ => 0), ai E (r 11) 4 (fun _ => 0), ai E (r 12) 96 (fun _ => 0)]) rfl ?_
                    exact hret _ _ _ dX9_init_265 ⟨r, (by rfl)⟩
                  · skip
                    refine g_aload_n F 0 dX9_init_191 rfl rfl ?_
                    refine g_bipush (v := nI 20) F dX9_init_192 (by decide) ?_
                    refine g_iload_n F 1 dX9_init_194 rfl rfl ?_
                    refine g_sipush (v := nI 256) F dX9_init_195 (by decide) ?_
                    refine g_bipush (v := nI 16) F dX9_init_198 (by decide) ?_
                    refine g_iload_n F 1 dX9_init_200 rfl rfl ?_
                    refine g_iaddN F dX9_init_201 ?_
                    refine g_imulN F dX9_init_202 ?_
                    refine g_aload_n F 0 dX9_init_203 rfl rfl ?_
                    refine g_iconst (v := nI 0) F dX9_init_204 (by decide) ?_
                    refine g_bipush (v := nI 16) F dX9_init_205 (by decide) ?_
                    refine g_iload_n F 1 dX9_init_207 rfl rfl ?_
                    refine g_iaddN F dX9_init_208 ?_
                    refine g_callViR (n := 2) F [0, 1] (c_X9_sumOf_r l E q r 0 0 0 (nI 0) (nI 0) (nI 0) 0 0 (nI 0) 0 (rS (16 + d) 21) 0 (16 + d) (by decide) (by omega) (by exact rS_BN (by omega))) dX9_init_209 rfl (by decide) rfl rfl rfl (Nat.le_of_ble_eq_true rfl) ⟨Nat.le_of_ble_eq_true rfl, Nat.le_of_ble_eq_true rfl⟩ rfl rfl ⟨Nat.le_of_ble_eq_true rfl, Nat.le_of_ble_eq_true rfl⟩ 0 rfl rfl gX9_init_X9_sumOf (by decide +kernel) (fun r u hp => by obtain ⟨-, h⟩ := hp; exact h) ?_
                    rintro r_209 u_209 ⟨rfl, -⟩
                    refine g_top (nI ((4 * (rS (16 + d) 21) (0 + 4 * (96 * 0 + (16 + d)) + 0) + 3 * (rS (16 + d) 21) (0 + 4 * (96 * 0 + (16 + d)) + 1) + 2 * (rS (16 + d) 21) (0 + 4 * (96 * 0 + (16 + d)) + 2) + (rS (16 + d) 21) (0 + 4 * (96 * 0 + (16 + d)) + 3) + 7) % 251)) (nI (s9 (16 + d))) (by rw [rS_sm (by omega), hN_sm _ (by omega)]) ?_
                    refine g_iaddN F dX9_init_212 ?_
                    refine g_callVvW (n := 3) F [0, 1] (c_X9_setBoth_r l E q r 0 0 0 (nI 0) (nI 0) (nI 0) 0 0 (nI 0) 0 (rS (16 + d) 21) 20 d ((256 * (16 + d)) + (s9 (16 + d))) (by omega) (by omega)) dX9_init_213 rfl (by decide) rfl rfl rfl (Nat.le_of_ble_eq_true rfl) ⟨Nat.le_of_ble_eq_true rfl, Nat.le_of_ble_eq_true rfl⟩ rfl rfl ⟨Nat.le_of_ble_eq_true rfl, Nat.le_of_ble_eq_true rfl⟩ 0 rfl rfl gX9_init_X9_setBoth (by decide +kernel) (fun u hp => by obtain rfl := hp; rfl) ?_
                    rintro u_213 rfl
                    refine g_ws (w2 := [ob 9 q [.ref (r 0), .ref (r 1), .ref (r 2), .int (nI 0), .ref (r 3), .int (nI 0), .ref (r 4), .ref (r 5), .ref (r 6), .ref (r 7), .ref (r 8), .ref (r 9), .ref (r 10), .ref (r 11), .ref (r 12), .int (nI 0), .int (nI 0), .int (nI 0), .int (nI 0), .int (nI 0), .int (nI 0), .int (nI 0), .int (nI 0)], ai E (r 0) 892 (up (up (rS (16 + d) 21) (0 + 4 * (96 * 0 + 20) + d) ((256 * (16 + d)) + (s9 (16 + d)))) (0 + 4 * (96 * 1 + 20) + d) ((256 * (16 + d)) + (s9 (16 + d)))), ai E (r 1) 892 (fun _ => 0), ai E (r 2) 2676 (fun _ => 0), ai E (r 3) 60 (fun _ => 0), ai E (r 4) 3 (fun _ => 0), ai E (r 5) 3 (fun _ => 0), ai E (r 6) 3 (fun _ => 0), ai E (r 7) 12 (fun _ => 0), ai E (r 8) 4 (fun _ => 0), ai E (r 9) 4 (fun _ => 0), ai E (r 10) 4 (fun _ => 0), ai E (r 11) 4 (fun _ => 0), ai E (r 12) 96 (fun _ => 0)]) rfl ?_
                    refine g_iinc (k := 1) (v := nI (d + 1)) (lv2 := [(1, .int (nI (d + 1))), (0, .ref q)]) F dX9_init_216 rfl (nI_1 _) (by decide) rfl ?_
                    refine g_goto (tgt := 186) F dX9_init_219 (by decide) ?_
                    refine g_aiC 1 rfl (rS (16 + (d + 1)) 21) (by intro j hj; exact rS_s (n := 16 + d) (by omega) (by omega)) (w2 := [ob 9 q [.ref (r 0), .ref (r 1), .ref (r 2), .int (nI 0), .ref (r 3), .int (nI 0), .ref (r 4), .ref (r 5), .ref (r 6), .ref (r 7), .ref (r 8), .ref (r 9), .ref (r 10), .ref (r 11), .ref (r 12), .int (nI 0), .int (nI 0), .int (nI 0), .int (nI 0), .int (nI 0), .int (nI 0), .int (nI 0), .int (nI 0)], ai E (r 0) 892 (rS (16 + (d + 1)) 21), ai E (r 1) 892 (fun _ => 0), ai E (r 2) 2676 (fun _ => 0), ai E (r 3) 60 (fun _ => 0), ai E (r 4) 3 (fun _ => 0), ai E (r 5) 3 (fun _ => 0), ai E (r 6) 3 (fun _ => 0), ai E (r 7) 12 (fun _ => 0), ai E (r 8) 4 (fun _ => 0), ai E (r 9) 4 (fun _ => 0), ai E (r 10) 4 (fun _ => 0), ai E (r 11) 4 (fun _ => 0), ai E (r 12) 96 (fun _ => 0)]) rfl ?_
                    refine g_lv [1, 0] rfl ?_
                    exact ih186 (d + 1) (by omega) (by omega)
              refine g_aiC 1 rfl (rS (16 + 0) 21) (by intro j hj; rw [show p = 4 by omega]) (w2 := [ob 9 q [.ref (r 0), .ref (r 1), .ref (r 2), .int (nI 0), .ref (r 3), .int (nI 0), .ref (r 4), .ref (r 5), .ref (r 6), .ref (r 7), .ref (r 8), .ref (r 9), .ref (r 10), .ref (r 11), .ref (r 12), .int (nI 0), .int (nI 0), .int (nI 0), .int (nI 0), .int (nI 0), .int (nI 0), .int (nI 0), .int (nI 0)], ai E (r 0) 892 (rS (16 + 0) 21), ai E (r 1) 892 (fun _ => 0), ai E (r 2) 2676 (fun _ => 0), ai E (r 3) 60 (fun _ => 0), ai E (r 4) 3 (fun _ => 0), ai E (r 5) 3 (fun _ => 0), ai E (r 6) 3 (fun _ => 0), ai E (r 7) 12 (fun _ => 0), ai E (r 8) 4 (fun _ => 0), ai E (r 9) 4 (fun _ => 0), ai E (r 10) 4 (fun _ => 0), ai E (r 11) 4 (fun _ => 0), ai E (r 12) 96 (fun _ => 0)]) rfl ?_
              refine g_lv [1, 0] rfl ?_
              exact loop186 ((4 - 0) + 1) 0 (Nat.lt_succ_self _) (by omega)
            · skip
              refine g_iconst (v := nI 0) F dX9_init_136 (by decide) ?_
              refine g_istore_n (lv2 := [(2, .int (nI 0)), (0, .ref q), (1, .int (nI p))]) F dX9_init_137 rfl (by decide) rfl ?_
              have loop138 : ∀ (n : Nat) (c : Nat), 4 - c < n → (c ≤ 4) → G Γ E 13 4653 138 [(0, .ref q), (1, .int (nI p)), (2, .int (nI c))] [] [ob 9 q [.ref (r 0), .ref (r 1), .ref (r 2), .int (nI 0), .ref (r 3), .int (nI 0), .ref (r 4), .ref (r 5), .ref (r 6), .ref (r 7), .ref (r 8), .ref (r 9), .ref (r 10), .ref (r 11), .ref (r 12), .int (nI 0), .int (nI 0), .int (nI 0), .int (nI 0), .int (nI 0), .int (nI 0), .int (nI 0), .int (nI 0)], ai E (r 0) 892 (rS (4 * p + c) 21), ai E (r 1) 892 (fun _ => 0), ai E (r 2) 2676 (fun _ => 0), ai E (r 3) 60 (fun _ => 0), ai E (r 4) 3 (fun _ => 0), ai E (r 5) 3 (fun _ => 0), ai E (r 6) 3 (fun _ => 0), ai E (r 7) 12 (fun _ => 0), ai E (r 8) 4 (fun _ => 0), ai E (r 9) 4 (fun _ => 0), ai E (r 10) 4 (fun _ => 0), ai E (r 11) 4 (fun _ => 0), ai E (r 12) 96 (fun _ => 0)] := by
                intro n
                induction n with
                | zero => intro c hz; exact absurd hz (Nat.not_lt_zero _)
                | succ n ih138 =>
                  intro c hz138 hc
                  refine g_iload_n F 2 dX9_init_138 rfl rfl ?_
                  refine g_iconst (v := nI 4) F dX9_init_139 (by decide) ?_
                  refine g_icmp_geN (tgt := 178) F dX9_init_140 (by decide) (by omega) (by omega) (fun c140 => ?_) (fun c140 => ?_)
                  · skip
                    refine g_iinc (k := 1) (v := nI (p + 1)) (lv2 := [(1, .int (nI (p + 1))), (0, .ref q), (2, .int (nI c))]) F dX9_init_178 rfl (nI_1 _) (by decide) rfl ?_
                    refine g_goto (tgt := 131) F dX9_init_181 (by decide) ?_
                    refine g_aiC 1 rfl (rS (4 * (p + 1)) 21) (by intro j hj; rw [show c = 4 by omega, show 4 * (p + 1) = 4 * p + 4 by omega]) (w2 := [ob 9 q [.ref (r 0), .ref (r 1), .ref (r 2), .int (nI 0), .ref (r 3), .int (nI 0), .ref (r 4), .ref (r 5), .ref (r 6), .ref (r 7), .ref (r 8), .ref (r 9), .ref (r 10), .ref (r 11), .ref (r 12), .int (nI 0), .int (nI 0), .int (nI 0), .int (nI 0), .int (nI 0), .int (nI 0), .int (nI 0), .int (nI 0)], ai E (r 0) 892 (rS (4 * (p + 1)) 21), ai E (r 1) 892 (fun _ => 0), ai E (r 2) 2676 (fun _ => 0), ai E (r 3) 60 (fun _ => 0), ai E (r 4) 3 (fun _ => 0), ai E (r 5) 3 (fun _ => 0), ai E (r 6) 3 (fun _ => 0), ai E (r 7) 12 (fun _ => 0), ai E (r 8) 4 (fun _ => 0), ai E (r 9) 4 (fun _ => 0), ai E (r 10) 4 (fun _ => 0), ai E (r 11) 4 (fun _ => 0), ai E (r 12) 96 (fun _ => 0)]) rfl ?_
                    refine g_lv [1, 0] rfl ?_
                    exact ih131 (p + 1) (by omega) (by omega)
                  · skip
                    refine g_aload_n F 0 dX9_init_143 rfl rfl ?_
                    refine g_bipush (v := nI 16) F dX9_init_144 (by decide) ?_
                    refine g_iload_n F 1 dX9_init_146 rfl rfl ?_
                    refine g_iaddN F dX9_init_147 ?_
                    refine g_iload_n F 2 dX9_init_148 rfl rfl ?_
                    refine g_sipush (v := nI 256) F dX9_init_149 (by decide) ?_
                    refine g_iconst (v := nI 4) F dX9_init_152 (by decide) ?_
                    refine g_iload_n F 1 dX9_init_153 rfl rfl ?_
                    refine g_imulN F dX9_init_154 ?_
                    refine g_iload_n F 2 dX9_init_155 rfl rfl ?_
                    refine g_iaddN F dX9_init_156 ?_
                    refine g_imulN F dX9_init_157 ?_
                    refine g_aload_n F 0 dX9_init_158 rfl rfl ?_
                    refine g_iconst (v := nI 0) F dX9_init_159 (by decide) ?_
                    refine g_iconst (v := nI 4) F dX9_init_160 (by decide) ?_
                    refine g_iload_n F 1 dX9_init_161 rfl rfl ?_
                    refine g_imulN F dX9_init_162 ?_
                    refine g_iload_n F 2 dX9_init_163 rfl rfl ?_
                    refine g_iaddN F dX9_init_164 ?_
                    refine g_callViR (n := 2) F [0, 1] (c_X9_sumOf_r l E q r 0 0 0 (nI 0) (nI 0) (nI 0) 0 0 (nI 0) 0 (rS (4 * p + c) 21) 0 ((4 * p) + c) (by decide) (by omega) (by exact rS_BN (by omega))) dX9_init_165 rfl (by decide) rfl rfl rfl (Nat.le_of_ble_eq_true rfl) ⟨Nat.le_of_ble_eq_true rfl, Nat.le_of_ble_eq_true rfl⟩ rfl rfl ⟨Nat.le_of_ble_eq_true rfl, Nat.le_of_ble_eq_true rfl⟩ 0 rfl rfl gX9_init_X9_sumOf (by decide +kernel) (fun r u hp => by obtain ⟨-, h⟩ := hp; exact h) ?_
                    rintro r_165 u_165 ⟨rfl, -⟩
                    refine g_top (nI ((4 * (rS (4 * p + c) 21) (0 + 4 * (96 * 0 + ((4 * p) + c)) + 0) + 3 * (rS (4 * p + c) 21) (0 + 4 * (96 * 0 + ((4 * p) + c)) + 1) + 2 * (rS (4 * p + c) 21) (0 + 4 * (96 * 0 + ((4 * p) + c)) + 2) + (rS (4 * p + c) 21) (0 + 4 * (96 * 0 + ((4 * p) + c)) + 3) + 7) % 251)) (nI (s9 (4 * p + c))) (by rw [rS_sm (by omega), hN_sm _ (by omega)]) ?_
                    refine g_iaddN F dX9_init_168 ?_
                    refine g_callVvW (n := 3) F [0, 1] (c_X9_setBoth_r l E q r 0 0 0 (nI 0) (nI 0) (nI 0) 0 0 (nI 0) 0 (rS (4 * p + c) 21) (16 + p) c ((256 * ((4 * p) + c)) + (s9 (4 * p + c))) (by omega) (by omega)) dX9_init_169 rfl (by decide) rfl rfl rfl (Nat.le_of_ble_eq_true rfl) ⟨Nat.le_of_ble_eq_true rfl, Nat.le_of_ble_eq_true rfl⟩ rfl rfl ⟨Nat.le_of_ble_eq_true rfl, Nat.le_of_ble_eq_true rfl⟩ 0 rfl rfl gX9_init_X9_setBoth (by decide +kernel) (fun u hp => by obtain rfl := hp; rfl) ?_
                    rintro u_169 rfl
                    refine g_ws (w2 := [ob 9 q [.ref (r 0), .ref (r 1), .ref (r 2), .int (nI 0), .ref (r 3), .int (nI 0), .ref (r 4), .ref (r 5), .ref (r 6), .ref (r 7), .ref (r 8), .ref (r 9), .ref (r 10), .ref (r 11), .ref (r 12), .int (nI 0), .int (nI 0), .int (nI 0), .int (nI 0), .int (nI 0), .int (nI 0), .int (nI 0), .int (nI 0)], ai E (r 0) 892 (up (up (rS (4 * p + c) 21) (0 + 4 * (96 * 0 + (16 + p)) + c) ((256 * ((4 * p) + c)) + (s9 (4 * p + c)))) (0 + 4 * (96 * 1 + (16 + p)) + c) ((256 * ((4 * p) + c)) + (s9 (4 * p + c)))), ai E (r 1) 892 (fun _ => 0), ai E (r 2) 2676 (fun _ => 0), ai E (r 3) 60 (fun _ => 0), ai E (r 4) 3 (fun _ => 0), ai E (r 5) 3 (fun _ => 0), ai E (r 6) 3 (fun _ => 0), ai E (r 7) 12 (fun _ => 0), ai E (r 8) 4 (fun _ => 0), ai E (r 9) 4 (fun _ => 0), ai E (r 10) 4 (fun _ => 0), ai E (r 11) 4 (fun _ => 0), ai E (r 12) 96 (fun _ => 0)]) rfl ?_
                    refine g_iinc (k := 2) (v := nI (c + 1)) (lv2 := [(2, .int (nI (c + 1))), (0, .ref q), (1, .int (nI p))]) F dX9_init_172 rfl (nI_1 _) (by decide) rfl ?_
                    refine g_goto (tgt := 138) F dX9_init_175 (by decide) ?_
                    refine g_aiC 1 rfl (rS (4 * p + (c + 1)) 21) (by intro j hj; exact rS_s (n := 4 * p + c) (by omega) (by omega)) (w2 := [ob 9 q [.ref (r 0), .ref (r 1), .ref (r 2), .int (nI 0), .ref (r 3), .int (nI 0), .ref (r 4), .ref (r 5), .ref (r 6), .ref (r 7), .ref (r 8), .ref (r 9), .ref (r 10), .ref (r 11), .ref (r 12), .int (nI 0), .int (nI 0), .int (nI 0), .int (nI 0), .int (nI 0), .int (nI 0), .int (nI 0), .int (nI 0)], ai E (r 0) 892 (rS (4 * p + (c + 1)) 21), ai E (r 1) 892 (fun _ => 0), ai E (r 2) 2676 (fun _ => 0), ai E (r 3) 60 (fun _ => 0), ai E (r 4) 3 (fun _ => 0), ai E (r 5) 3 (fun _ => 0), ai E (r 6) 3 (fun _ => 0), ai E (r 7) 12 (fun _ => 0), ai E (r 8) 4 (fun _ => 0), ai E (r 9) 4 (fun _ => 0), ai E (r 10) 4 (fun _ => 0), ai E (r 11) 4 (fun _ => 0), ai E (r 12) 96 (fun _ => 0)]) rfl ?_
                    refine g_lv [1, 2, 0] rfl ?_
                    exact ih138 (c + 1) (by omega) (by omega)
              refine g_aiC 1 rfl (rS (4 * p + 0) 21) (by intro j hj; rfl) (w2 := [ob 9 q [.ref (r 0), .ref (r 1), .ref (r 2), .int (nI 0), .ref (r 3), .int (nI 0), .ref (r 4), .ref (r 5), .ref (r 6), .ref (r 7), .ref (r 8), .ref (r 9), .ref (r 10), .ref (r 11), .ref (r 12), .int (nI 0), .int (nI 0), .int (nI 0), .int (nI 0), .int (nI 0), .int (nI 0), .int (nI 0), .int (nI 0)], ai E (r 0) 892 (rS (4 * p + 0) 21), ai E (r 1) 892 (fun _ => 0), ai E (r 2) 2676 (fun _ => 0), ai E (r 3) 60 (fun _ => 0), ai E (r 4) 3 (fun _ => 0), ai E (r 5) 3 (fun _ => 0), ai E (r 6) 3 (fun _ => 0), ai E (r 7) 12 (fun _ => 0), ai E (r 8) 4 (fun _ => 0), ai E (r 9) 4 (fun _ => 0), ai E (r 10) 4 (fun _ => 0), ai E (r 11) 4 (fun _ => 0), ai E (r 12) 96 (fun _ => 0)]) rfl ?_
              refine g_lv [1, 2, 0] rfl ?_
              exact loop138 ((4 - 0) + 1) 0 (Nat.lt_succ_self _) (by omega)
        refine g_aiC 1 rfl (rS (4 * 0) 21) (by intro j hj; rw [show i = 21 by omega]) (w2 := [ob 9 q [.ref (r 0), .ref (r 1), .ref (r 2), .int (nI 0), .ref (r 3), .int (nI 0), .ref (r 4), .ref (r 5), .ref (r 6), .ref (r 7), .ref (r 8), .ref (r 9), .ref (r 10), .ref (r 11), .ref (r 12), .int (nI 0), .int (nI 0), .int (nI 0), .int (nI 0), .int (nI 0), .int (nI 0), .int (nI 0), .int (nI 0)], ai E (r 0) 892 (rS (4 * 0) 21), ai E (r 1) 892 (fun _ => 0), ai E (r 2) 2676 (fun _ => 0), ai E (r 3) 60 (fun _ => 0), ai E (r 4) 3 (fun _ => 0), ai E (r 5) 3 (fun _ => 0), ai E (r 6) 3 (fun _ => 0), ai E (r 7) 12 (fun _ => 0), ai E (r 8) 4 (fun _ => 0), ai E (r 9) 4 (fun _ => 0), ai E (r 10) 4 (fun _ => 0), ai E (r 11) 4 (fun _ => 0), ai E (r 12) 96 (fun _ => 0)]) rfl ?_
        refine g_lv [1, 0] rfl ?_
        exact loop131 ((4 - 0) + 1) 0 (Nat.lt_succ_self _) (by omega)
      · skip
        refine g_aload_n F 0 dX9_init_112 rfl rfl ?_
        refine g_get F 0 0 dX9_init_113 rfl rfl (by decide) (by decide +kernel) (by decide +kernel) rfl ?_
        refine g_sipush (v := nI 768) F dX9_init_116 (by decide) ?_
        refine g_iload_n F 1 dX9_init_119 rfl rfl ?_
        refine g_iaddN F dX9_init_120 ?_
        refine g_iconst (v := nI 1) F dX9_init_121 (by decide) ?_
        refine g_iast F 1 dX9_init_122 rfl (by omega) (by decide) (w2 := [ob 9 q [.ref (r 0), .ref (r 1), .ref (r 2), .int (nI 0), .ref (r 3), .int (nI 0), .ref (r 4), .ref (r 5), .ref (r 6), .ref (r 7), .ref (r 8), .ref (r 9), .ref (r 10), .ref (r 11), .ref (r 12), .int (nI 0), .int (nI 0), .int (nI 0), .int (nI 0), .int (nI 0), .int (nI 0), .int (nI 0), .int (nI 0)], ai E (r 0) 892 (up (rS 0 i) (768 + i) 1), ai E (r 1) 892 (fun _ => 0), ai E (r 2) 2676 (fun _ => 0), ai E (r 3) 60 (fun _ => 0), ai E (r 4) 3 (fun _ => 0), ai E (r 5) 3 (fun _ => 0), ai E (r 6) 3 (fun _ => 0), ai E (r 7) 12 (fun _ => 0), ai E (r 8) 4 (fun _ => 0), ai E (r 9) 4 (fun _ => 0), ai E (r 10) 4 (fun _ => 0), ai E (r 11) 4 (fun _ => 0), ai E (r 12) 96 (fun _ => 0)]) rfl ?_
        refine g_iinc (k := 1) (v := nI (i + 1)) (lv2 := [(1, .int (nI (i + 1))), (0, .ref q)]) F dX9_init_123 rfl (nI_1 _) (by decide) rfl ?_
        refine g_goto (tgt := 106) F dX9_init_126 (by decide) ?_
        refine g_aiC 1 rfl (rS 0 (i + 1)) (by intro j hj; exact rS_u) (w2 := [ob 9 q [.ref (r 0), .ref (r 1), .ref (r 2), .int (nI 0), .ref (r 3), .int (nI 0), .ref (r 4), .ref (r 5), .ref (r 6), .ref (r 7), .ref (r 8), .ref (r 9), .ref (r 10), .ref (r 11), .ref (r 12), .int (nI 0), .int (nI 0), .int (nI 0), .int (nI 0), .int (nI 0), .int (nI 0), .int (nI 0), .int (nI 0)], ai E (r 0) 892 (rS 0 (i + 1)), ai E (r 1) 892 (fun _ => 0), ai E (r 2) 2676 (fun _ => 0), ai E (r 3) 60 (fun _ => 0), ai E (r 4) 3 (fun _ => 0), ai E (r 5) 3 (fun _ => 0), ai E (r 6) 3 (fun _ => 0), ai E (r 7) 12 (fun _ => 0), ai E (r 8) 4 (fun _ => 0), ai E (r 9) 4 (fun _ => 0), ai E (r 10) 4 (fun _ => 0), ai E (r 11) 4 (fun _ => 0), ai E (r 12) 96 (fun _ => 0)]) rfl ?_
        refine g_lv [1, 0] rfl ?_
        exact ih106 (i + 1) (by omega) (by omega)
  refine g_aiC 1 rfl (rS 0 0) (by intro j hj; unfold rS hN; (repeat' split) <;> first | rfl | omega) (w2 := [ob 9 q [.ref (r 0), .ref (r 1), .ref (r 2), .int (nI 0), .ref (r 3), .int (nI 0), .ref (r 4), .ref (r 5), .ref (r 6), .ref (r 7), .ref (r 8), .ref (r 9), .ref (r 10), .ref (r 11), .ref (r 12), .int (nI 0), .int (nI 0), .int (nI 0), .int (nI 0), .int (nI 0), .int (nI 0), .int (nI 0), .int (nI 0)], ai E (r 0) 892 (rS 0 0), ai E (r 1) 892 (fun _ => 0), ai E (r 2) 2676 (fun _ => 0), ai E (r 3) 60 (fun _ => 0), ai E (r 4) 3 (fun _ => 0), ai E (r 5) 3 (fun _ => 0), ai E (r 6) 3 (fun _ => 0), ai E (r 7) 12 (fun _ => 0), ai E (r 8) 4 (fun _ => 0), ai E (r 9) 4 (fun _ => 0), ai E (r 10) 4 (fun _ => 0), ai E (r 11) 4 (fun _ => 0), ai E (r 12) 96 (fun _ => 0)]) rfl ?_
  refine g_lv [1, 0] rfl ?_
  exact loop106 ((21 - 0) + 1) 0 (Nat.lt_succ_self _) (by omega)
