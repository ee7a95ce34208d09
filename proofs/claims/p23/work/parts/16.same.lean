/-! the comparison after each act -/
theorem rg_ {k n : Nat} (hn : n < 100000) (hk : k < n) : rng (nI k) n := (rng_nI (by omega) (by omega)).mpr hk
noncomputable def rdv (C : CS) (r l p : Nat) : Int32 := if sp (sN C) (sb C r) (ss C r) l = 0 then nI (nu (sN C) (wd (sN C) (sb C r) (ss C r) l 2) (wb (sN C) (sb C r) (ss C r) l 2) p) else (-1000002)
noncomputable def frv (C : CS) (r l v : Nat) : Int32 := if v ≤ gl (sN C) (sb C r) (ss C r) l then nI (wd (sN C) (sb C r) (ss C r) l v) else (-1000004)
noncomputable def wy0 (C : CS) (r l v : Nat) : Int32 := if v ≤ gl (sN C) (sb C r) (ss C r) l then nI (wb (sN C) (sb C r) (ss C r) l v) else (-1000004)
noncomputable def wy1 (C : CS) (r l v : Nat) : Int32 := if v ≤ gl (sN C) (sb C r) (ss C r) l then nI (wq (sN C) (sb C r) (ss C r) l v) else (-1000004)
theorem p_read_eq {C : CS} {r l p : Nat} (h8 : sZ C ≤ 8) (hr : r < sZ C) (hl : l < 16) (hp : p < 4) : p_read C (nI r) (nI l) (nI p) = rdv C r l p := by
  unfold p_read rdv
  rw [cI_pos ⟨rg_ (by omega) hr, rg_ (by omega) hl, rg_ (by omega) hp⟩, dv_nI (by omega), dv_nI (by omega), dv_nI (by omega)]
theorem p_from_eq {C : CS} {r l p : Nat} (h8 : sZ C ≤ 8) (hr : r < sZ C) (hl : l < 16) (hp : p < 3) : p_from C (nI r) (nI l) (nI p) = frv C r l p := by
  unfold p_from frv
  rw [cI_pos ⟨rg_ (by omega) hr, rg_ (by omega) hl, rg_ (by omega) hp⟩, dv_nI (by omega), dv_nI (by omega), dv_nI (by omega)]
theorem p_way0_eq {C : CS} {r l p : Nat} (h8 : sZ C ≤ 8) (hr : r < sZ C) (hl : l < 16) (hp : p < 3) : p_way C (nI r) (nI l) (nI p) (nI 0) = wy0 C r l p := by
  unfold p_way wy0
  rw [cI_pos ⟨rg_ (by omega) hr, rg_ (by omega) hl, rg_ (by omega) hp, rg_ (by omega) (by omega)⟩, dv_nI (by omega), dv_nI (by omega), dv_nI (by omega), dv_nI (by omega)]
  rfl
theorem p_way1_eq {C : CS} {r l p : Nat} (h8 : sZ C ≤ 8) (hr : r < sZ C) (hl : l < 16) (hp : p < 3) : p_way C (nI r) (nI l) (nI p) (nI 1) = wy1 C r l p := by
  unfold p_way wy1
  rw [cI_pos ⟨rg_ (by omega) hr, rg_ (by omega) hl, rg_ (by omega) hp, rg_ (by omega) (by omega)⟩, dv_nI (by omega), dv_nI (by omega), dv_nI (by omega), dv_nI (by omega)]
  rfl
theorem p_content_eq {C : CS} {b c k : Nat} (hb : b < 96) (hc : c < 2) (hk : k < 4) : p_content C (nI b) (nI c) (nI k) = nI (nu (sN C) c b k) := by
  unfold p_content
  rw [cI_pos ⟨rg_ (by omega) hb, rg_ (by omega) hc, rg_ (by omega) (by omega)⟩, dv_nI (by omega), dv_nI (by omega), dv_nI (by omega), if_neg (by omega)]
theorem p_content_4 {C : CS} {b : Nat} (hb : b < 96) : p_content C (nI b) (nI 0) (nI 4) = nI (sm (sN C) ((0 * 96 + b) * 4)) := by
  unfold p_content
  rw [cI_pos ⟨rg_ (by omega) hb, rg_ (by omega) (by omega), rg_ (by omega) (by omega)⟩, dv_nI (by omega), dv_nI (by omega), dv_nI (by omega), if_pos rfl]
theorem p_leaves_eq {C : CS} {r w : Nat} (h8 : sZ C ≤ 8) (hr : r < sZ C) (hw : w < 3) : p_leaves C (nI r) (nI w) = nI (lvs C r w 16) := by
  unfold p_leaves
  rw [cI_pos ⟨rg_ (by omega) hr, rg_ (by omega) hw⟩, dv_nI (by omega), dv_nI (by omega)]
theorem p_unlike_eq {C : CS} {r k : Nat} (h8 : sZ C ≤ 8) (hr : r < sZ C) (hk : k < sZ C) : p_unlike C (nI r) (nI k) = ulI (uly (sN C) (sb C r) (ss C r) (sb C k) (ss C k)) := by
  unfold p_unlike
  rw [cI_pos ⟨rg_ (by omega) hr, rg_ (by omega) hk⟩, dv_nI (by omega), dv_nI (by omega)]
theorem p_rootOf_eq {C : CS} {r w : Nat} (h8 : sZ C ≤ 8) (hr : r < sZ C) (hw : w < 5) : p_rootOf C (nI r) (nI w) = nI (rtv C r w) := by
  unfold p_rootOf
  rw [cI_pos ⟨rg_ (by omega) hr, rg_ (by omega) hw⟩, dv_nI (by omega), dv_nI (by omega)]
theorem p_count_eq {C : CS} {hn L w : Nat} (hw : w < 8) : p_count C hn L (nI w) = ctv C hn L w := by
  unfold p_count
  rw [cI_pos (rg_ (by omega) hw), dv_nI (by omega)]
noncomputable def cu1 (N U : Nat → Nat) (k : Nat) : Nat := @ite _ (U k = 0 ∨ al N k) (Classical.propDecidable _) 0 1
theorem cu1_a {N U : Nat → Nat} {k : Nat} (h : U k = 0 ∨ al N k) : cu1 N U k = 0 := if_pos h
theorem cu1_b {N U : Nat → Nat} {k : Nat} (h : ¬ U k = 0) (h2 : ¬ al N k) : cu1 N U k = 1 := if_neg (fun z => z.elim h h2)
noncomputable def lfb (C : CS) (r w l : Nat) : Nat := cI (kd C r w l) (2 ^ l) 0
theorem lfb_a {C : CS} {r w l : Nat} (h : kd C r w l) : lfb C r w l = 2 ^ l := cI_pos h
theorem lfb_b {C : CS} {r w l : Nat} (h : ¬ kd C r w l) : lfb C r w l = 0 := cI_neg h
theorem lvs_s (C : CS) (r w k : Nat) : lvs C r w (k + 1) = lvs C r w k ||| lfb C r w k := by
  show cI _ _ _ = _
  by_cases h : kd C r w k
  · rw [cI_pos h, lfb_a h]
  · rw [cI_neg h, lfb_b h, Nat.or_zero]
theorem kd_0 {C : CS} {r l : Nat} : kd C r 0 l ↔ ¬ gl (sN C) (sb C r) (ss C r) l = 3 := by
  rw [show kd C r 0 l = ¬ sp (sN C) (sb C r) (ss C r) l = 0 from if_pos rfl, gl_sp]
theorem kd_1 {C : CS} {r l : Nat} : kd C r 1 l ↔ gl (sN C) (sb C r) (ss C r) l = 3 ∧ ¬ ∀ v : Nat, v < 3 → al (sN C) (wb (sN C) (sb C r) (ss C r) l v) := by
  rw [gl_sp]
  show (sp (sN C) (sb C r) (ss C r) l = 0 ∧ ∃ v : Nat, v < 3 ∧ ¬ al (sN C) (wb (sN C) (sb C r) (ss C r) l v)) ↔ _
  refine and_congr_right (fun _ => ⟨fun ⟨v, h1, h2⟩ h => h2 (h v h1), fun h => Classical.byContradiction (fun z => h (fun v hv => Classical.byContradiction (fun y => z ⟨v, hv, y⟩)))⟩)
theorem kd_2 {C : CS} {r l : Nat} : kd C r 2 l ↔ gl (sN C) (sb C r) (ss C r) l = 3 ∧ ¬ ∀ v : Nat, v < 3 → ¬ wd (sN C) (sb C r) (ss C r) l v = 1 := by
  rw [gl_sp]
  show (sp (sN C) (sb C r) (ss C r) l = 0 ∧ ∃ v : Nat, v < 3 ∧ wd (sN C) (sb C r) (ss C r) l v = 1) ↔ _
  refine and_congr_right (fun _ => ⟨fun ⟨v, h1, h2⟩ h => h v h1 h2, fun h => Classical.byContradiction (fun z => h (fun v hv y => z ⟨v, hv, y⟩))⟩)
theorem acc_s {P : Nat → Prop} {i v : Nat} (e : i = 0 ↔ ∀ u : Nat, u < v → P u) : (cI (i = 0 ∧ P v) 0 1 : Nat) ≤ 1 ∧ ((cI (i = 0 ∧ P v) 0 1 : Nat) = 0 ↔ ∀ u : Nat, u < v + 1 → P u) := by
  by_cases h : i = 0 ∧ P v
  · rw [cI_pos h]
    refine ⟨Nat.zero_le 1, fun _ u hu => ?_, fun _ => rfl⟩
    by_cases z : u = v
    · rw [z]; exact h.2
    · exact e.mp h.1 u (by omega)
  · rw [cI_neg h]
    refine ⟨Nat.le_refl 1, fun z => absurd z (by decide), fun z => absurd ⟨e.mpr (fun u hu => z u (by omega)), z v (Nat.lt_succ_self v)⟩ h⟩
theorem oth_eq {C : CS} {r k : Nat} (h : k = r) : oth C r (k + 1) = oth C r k := if_pos h
theorem oth_ne {C : CS} {r k : Nat} (h : ¬ k = r) : oth C r (k + 1) = ab (sN C) (sb C k) (ss C k) (oth C r k) := if_neg h
theorem oth_or {C : CS} {r k : Nat} (h : ¬ k = r) (n : Nat) : bs (oth C r k) n ||| bu (ab (sN C) (sb C k) (ss C k) (fun _ => 0)) n = bs (oth C r (k + 1)) n := by
  rw [oth_ne h]; exact ab_or _ _ _ _ n
theorem li_rt {f : Nat → Nat} {C : CS} (h : LI f C) {r w : Nat} (hr : r < sZ C) (hw : w < 3) : f (3 * r + w) = rtv C r w := by
  have := h r hr
  rcases (show w = 0 ∨ w = 1 ∨ w = 2 by omega) with rfl | rfl | rfl
  · exact this.1
  · exact this.2.1
  · exact this.2.2
set_option maxHeartbeats 4000000 in
set_option maxRecDepth 100000 in
theorem c_L_same (l : Launch) (E : En) (o : Nat) (a : Nat → Nat) (b : Nat → Nat) (y0 : Nat) (x0 : Nat) (v0 : Nat) (g0 : Nat) (k0 : Nat) (m0 : Nat) (g1 : Nat) (g2 : Nat) (g3 : Nat) (g4 : Nat) (k1 : Nat) (m1 : Nat) (y1 : Nat) (tc : Nat) (C : CS) (td : Nat) (eb : Nat → Nat) (es : Nat → Nat) (ec : Nat → Nat) (et : Nat → Nat) (X : Nat → Nat) (Y : Nat → Nat) (hn : Nat) (L9 : Nat) (ta9 : Nat) (br9 : Nat) (lf9 : Nat) (pl9 : Nat) (vl9 : Nat) (qq : Nat) (li : Nat) (us : Nat) (c : Nat) (d : Nat) (w : Nat) (q : Nat) (al_ : Nat) (lf : Nat → Nat) (Wf : Nat → Nat) (B9 : Nat → Int64) (A9 : Nat → Int64) (x : Int32) (hI : IC C) (hZ : ZB (sN C)) (hli : LI lf C) (hb64 : ∀ i : Nat, i < sZ C → sb C i < 64) : CtI l yL_same wsL_same ({ frames := 8, cells := 0, slots := 0, locals := 183 } : Room) E [.ref o, .int (x), .ref qq, .ref li, .ref us, .ref c, .ref d, .ref w, .ref q, .ref al_] [ob 8 o [.ref (a 0), .ref (b 0), .ref y0, .ref x0, .ref v0, .ref g0, .ref k0, .ref m0], ob 5 (a 0) [.ref (a 1), .ref (a 2), .ref (a 3), .int (nI (sM C)), .int (nI (sW C))], ob 1 (a 1) [.ref (a 4)], ai E (a 4) 768 (sN C), ob 0 (a 2) [.ref (a 5)], az E (a 5) 96 (sU C), ob 3 (a 3) [.ref (a 6), .ref (a 7), .ref (a 8), .int (nI (sZ C))], ai E (a 6) 8 (sn C), ai E (a 7) 8 (sb C), ai E (a 8) 8 (ss C), ob 7 g0 [.ref g1, .ref g2, .ref g3, .ref g4, .int (nI td)], ai E g1 3 eb, ai E g2 3 es, ai E g3 3 ec, ai E g4 12 et, ob 0 k0 [.ref k1], az E k1 96 X, ob 0 m0 [.ref m1], az E m1 96 Y, ob 2 y0 [.ref y1, .int (nI hn)], ob 4 x0 [.ref tc, .int (nI L9), .int (nI ta9), .int (nI br9), .int (nI lf9), .int (nI pl9), .int (nI vl9)], ai E qq 4 (qfS C), ai E li 24 lf, aj E us 2 (bu (sU C)), aj E c 64 (cc (sN C) 0), aj E d 64 (cc (sN C) 1), ai E w 9 Wf, aj E q 2 B9, aj E al_ 2 A9] (fun rr uu => ∃ (td2 : Nat), ∃ (Wb : Nat → Nat), ∃ (Ws : Nat → Nat), ∃ (Wc : Nat → Nat), ∃ (Wt : Nat → Nat), ∃ (X2 : Nat → Nat), ∃ (Y2 : Nat → Nat), ∃ (Wf2 : Nat → Nat), ∃ (B2 : Nat → Int64), ∃ (A2 : Nat → Int64), rr = (nI 1) ∧ uu = [ob 8 o [.ref (a 0), .ref (b 0), .ref y0, .ref x0, .ref v0, .ref g0, .ref k0, .ref m0], ob 5 (a 0) [.ref (a 1), .ref (a 2), .ref (a 3), .int (nI (sM C)), .int (nI (sW C))], ob 1 (a 1) [.ref (a 4)], ai E (a 4) 768 (sN C), ob 0 (a 2) [.ref (a 5)], az E (a 5) 96 (sU C), ob 3 (a 3) [.ref (a 6), .ref (a 7), .ref (a 8), .int (nI (sZ C))], ai E (a 6) 8 (sn C), ai E (a 7) 8 (sb C), ai E (a 8) 8 (ss C), ob 7 g0 [.ref g1, .ref g2, .ref g3, .ref g4, .int (nI td2)], ai E g1 3 Wb, ai E g2 3 Ws, ai E g3 3 Wc, ai E g4 12 Wt, ob 0 k0 [.ref k1], az E k1 96 X2, ob 0 m0 [.ref m1], az E m1 96 Y2, ob 2 y0 [.ref y1, .int (nI hn)], ob 4 x0 [.ref tc, .int (nI L9), .int (nI ta9), .int (nI br9), .int (nI lf9), .int (nI pl9), .int (nI vl9)], ai E qq 4 (qfS C), ai E li 24 lf, aj E us 2 (bu (sU C)), aj E c 64 (cc (sN C) 0), aj E d 64 (cc (sN C) 1), ai E w 9 Wf2, aj E q 2 B2, aj E al_ 2 A2]) := by
  refine CtI.of cL_same 20 RL .boolean rfl (by decide) rfl (Or.inr rfl) (Nat.le_of_ble_eq_true rfl) (fun _ r u hp => by obtain ⟨_, _, _, _, _, _, _, _, _, _, rfl, -⟩ := hp; exact by decide) ?_
  intro Γ F hret
  show G Γ E 0 0 0 [(0, .ref o), (1, .int (x)), (2, .ref qq), (3, .ref li), (4, .ref us), (5, .ref c), (6, .ref d), (7, .ref w), (8, .ref q), (9, .ref al_)] [] [ob 8 o [.ref (a 0), .ref (b 0), .ref y0, .ref x0, .ref v0, .ref g0, .ref k0, .ref m0], ob 5 (a 0) [.ref (a 1), .ref (a 2), .ref (a 3), .int (nI (sM C)), .int (nI (sW C))], ob 1 (a 1) [.ref (a 4)], ai E (a 4) 768 (sN C), ob 0 (a 2) [.ref (a 5)], az E (a 5) 96 (sU C), ob 3 (a 3) [.ref (a 6), .ref (a 7), .ref (a 8), .int (nI (sZ C))], ai E (a 6) 8 (sn C), ai E (a 7) 8 (sb C), ai E (a 8) 8 (ss C), ob 7 g0 [.ref g1, .ref g2, .ref g3, .ref g4, .int (nI td)], ai E g1 3 eb, ai E g2 3 es, ai E g3 3 ec, ai E g4 12 et, ob 0 k0 [.ref k1], az E k1 96 X, ob 0 m0 [.ref m1], az E m1 96 Y, ob 2 y0 [.ref y1, .int (nI hn)], ob 4 x0 [.ref tc, .int (nI L9), .int (nI ta9), .int (nI br9), .int (nI lf9), .int (nI pl9), .int (nI vl9)], ai E qq 4 (qfS C), ai E li 24 lf, aj E us 2 (bu (sU C)), aj E c 64 (cc (sN C) 0), aj E d 64 (cc (sN C) 1), ai E w 9 Wf, aj E q 2 B9, aj E al_ 2 A9]
  have hz8 := hI.2.2.2.1
  refine g_iconst (v := nI 0) F dL_same_0 (by decide) ?_
  refine g_istore (lv2 := [(10, .int (nI 0)), (0, .ref o), (1, .int (x)), (2, .ref qq), (3, .ref li), (4, .ref us), (5, .ref c), (6, .ref d), (7, .ref w), (8, .ref q), (9, .ref al_)]) F dL_same_1 (by decide) rfl ?_
  refine g_iconst (v := nI 0) F dL_same_3 (by decide) ?_
  refine g_istore (lv2 := [(11, .int (nI 0)), (10, .int (nI 0)), (0, .ref o), (1, .int (x)), (2, .ref qq), (3, .ref li), (4, .ref us), (5, .ref c), (6, .ref d), (7, .ref w), (8, .ref q), (9, .ref al_)]) F dL_same_4 (by decide) rfl ?_
  have loop6 : ∀ (n : Nat) (k : Nat) (z : Nat), 64 - k < n → (k ≤ 64) → (z = cu (sN C) (sU C) k) → G Γ E (0) (0) 6 [(0, .ref o), (1, .int (x)), (2, .ref qq), (3, .ref li), (4, .ref us), (5, .ref c), (6, .ref d), (7, .ref w), (8, .ref q), (9, .ref al_), (10, .int (nI z)), (11, .int (nI k))] [] [ob 8 o [.ref (a 0), .ref (b 0), .ref y0, .ref x0, .ref v0, .ref g0, .ref k0, .ref m0], ob 5 (a 0) [.ref (a 1), .ref (a 2), .ref (a 3), .int (nI (sM C)), .int (nI (sW C))], ob 1 (a 1) [.ref (a 4)], ai E (a 4) 768 (sN C), ob 0 (a 2) [.ref (a 5)], az E (a 5) 96 (sU C), ob 3 (a 3) [.ref (a 6), .ref (a 7), .ref (a 8), .int (nI (sZ C))], ai E (a 6) 8 (sn C), ai E (a 7) 8 (sb C), ai E (a 8) 8 (ss C), ob 7 g0 [.ref g1, .ref g2, .ref g3, .ref g4, .int (nI td)], ai E g1 3 eb, ai E g2 3 es, ai E g3 3 ec, ai E g4 12 et, ob 0 k0 [.ref k1], az E k1 96 X, ob 0 m0 [.ref m1], az E m1 96 Y, ob 2 y0 [.ref y1, .int (nI hn)], ob 4 x0 [.ref tc, .int (nI L9), .int (nI ta9), .int (nI br9), .int (nI lf9), .int (nI pl9), .int (nI vl9)], ai E qq 4 (qfS C), ai E li 24 lf, aj E us 2 (bu (sU C)), aj E c 64 (cc (sN C) 0), aj E d 64 (cc (sN C) 1), ai E w 9 Wf, aj E q 2 B9, aj E al_ 2 A9] := by
    intro n
    induction n with
    | zero => intro k z hz; exact absurd hz (Nat.not_lt_zero _)
    | succ n ih6 =>
      intro k z hz6 hk hz
      refine g_iload F 11 dL_same_6 rfl ?_
      refine g_bipush (v := nI 64) F dL_same_8 (by decide) ?_
      refine g_icmp_geN (tgt := 57) F dL_same_10 (by decide) (by omega) (by omega) (fun c10 => ?_) (fun c10 => ?_)
      · skip
        refine g_lvC 10 rfl (.int (nI (cu (sN C) (sU C) 96))) (by rw [hz, show k = 64 by omega, cu_64 hZ 96 (by omega) (by omega)]) (lv2 := [(0, .ref o), (1, .int (x)), (2, .ref qq), (3, .ref li), (4, .ref us), (5, .ref c), (6, .ref d), (7, .ref w), (8, .ref q), (9, .ref al_), (10, .int (nI (cu (sN C) (sU C) 96))), (11, .int (nI k))]) rfl ?_
        refine g_iconst (v := nI 0) F dL_same_57 (by decide) ?_
        refine g_istore (lv2 := [(11, .int (nI 0)), (0, .ref o), (1, .int (x)), (2, .ref qq), (3, .ref li), (4, .ref us), (5, .ref c), (6, .ref d), (7, .ref w), (8, .ref q), (9, .ref al_), (10, .int (nI (cu (sN C) (sU C) 96)))]) F dL_same_58 (by decide) rfl ?_
        have loop60 : ∀ (n : Nat) (r : Nat) (tdA : Nat) (ebA : Nat → Nat) (esA : Nat → Nat) (ecA : Nat → Nat) (etA : Nat → Nat) (XA : Nat → Nat) (YA : Nat → Nat) (WfA : Nat → Nat) (BA : Nat → Int64) (AA : Nat → Int64), sZ C - r < n → (r ≤ sZ C) → G Γ E (0) (0) 60 [(0, .ref o), (1, .int (x)), (2, .ref qq), (3, .ref li), (4, .ref us), (5, .ref c), (6, .ref d), (7, .ref w), (8, .ref q), (9, .ref al_), (10, .int (nI (cu (sN C) (sU C) 96))), (11, .int (nI r))] [] [ob 8 o [.ref (a 0), .ref (b 0), .ref y0, .ref x0, .ref v0, .ref g0, .ref k0, .ref m0], ob 5 (a 0) [.ref (a 1), .ref (a 2), .ref (a 3), .int (nI (sM C)), .int (nI (sW C))], ob 1 (a 1) [.ref (a 4)], ai E (a 4) 768 (sN C), ob 0 (a 2) [.ref (a 5)], az E (a 5) 96 (sU C), ob 3 (a 3) [.ref (a 6), .ref (a 7), .ref (a 8), .int (nI (sZ C))], ai E (a 6) 8 (sn C), ai E (a 7) 8 (sb C), ai E (a 8) 8 (ss C), ob 7 g0 [.ref g1, .ref g2, .ref g3, .ref g4, .int (nI tdA)], ai E g1 3 ebA, ai E g2 3 esA, ai E g3 3 ecA, ai E g4 12 etA, ob 0 k0 [.ref k1], az E k1 96 XA, ob 0 m0 [.ref m1], az E m1 96 YA, ob 2 y0 [.ref y1, .int (nI hn)], ob 4 x0 [.ref tc, .int (nI L9), .int (nI ta9), .int (nI br9), .int (nI lf9), .int (nI pl9), .int (nI vl9)], ai E qq 4 (qfS C), ai E li 24 lf, aj E us 2 (bu (sU C)), aj E c 64 (cc (sN C) 0), aj E d 64 (cc (sN C) 1), ai E w 9 WfA, aj E q 2 BA, aj E al_ 2 AA] := by
          intro n
          induction n with
          | zero => intro r tdA ebA esA ecA etA XA YA WfA BA AA hz; exact absurd hz (Nat.not_lt_zero _)
          | succ n ih60 =>
            intro r tdA ebA esA ecA etA XA YA WfA BA AA hz60 hr
            refine g_iload F 11 dL_same_60 rfl ?_
            refine g_aload_n F 2 dL_same_62 rfl rfl ?_
            refine g_iconst (v := nI 0) F dL_same_63 (by decide) ?_
            refine g_iald F 21 dL_same_64 rfl (by omega) (by decide) ?_
            refine g_top (nI ((qfS C) 0)) (nI (sZ C)) (by rfl) ?_
            refine g_icmp_geN (tgt := 711) F dL_same_65 (by decide) (by omega) (by omega) (fun c65 => ?_) (fun c65 => ?_)
            · skip
              refine g_iload_n F 1 dL_same_711 rfl rfl ?_
              refine g_bipush (v := nI 64) F dL_same_712 (by decide) ?_
              refine g_callSiR (n := 2) F [] (c_L_low l E x 64 (by omega) (by omega)) dL_same_714 rfl (by decide) rfl rfl rfl (Nat.le_of_ble_eq_true rfl) ⟨Nat.le_of_ble_eq_true rfl, Nat.le_of_ble_eq_true rfl⟩ rfl rfl ⟨Nat.le_of_ble_eq_true rfl, Nat.le_of_ble_eq_true rfl⟩ ggL_same_L_low (by decide +kernel) (by decide +kernel) (by decide +kernel) (by decide +kernel) (fun r u hp => by obtain ⟨-, h⟩ := hp; exact h) ?_
              rintro r_714 u_714 ⟨rfl, -⟩
              refine g_istore (lv2 := [(11, .int (nI (lwv x 64))), (0, .ref o), (1, .int (x)), (2, .ref qq), (3, .ref li), (4, .ref us), (5, .ref c), (6, .ref d), (7, .ref w), (8, .ref q), (9, .ref al_), (10, .int (nI (cu (sN C) (sU C) 96)))]) F dL_same_717 (by decide) rfl ?_
              have hbk := lwv_lt x (show 0 < 64 by decide)
              refine g_iconst (v := nI 0) F dL_same_719 (by decide) ?_
              refine g_istore (lv2 := [(12, .int (nI 0)), (11, .int (nI (lwv x 64))), (0, .ref o), (1, .int (x)), (2, .ref qq), (3, .ref li), (4, .ref us), (5, .ref c), (6, .ref d), (7, .ref w), (8, .ref q), (9, .ref al_), (10, .int (nI (cu (sN C) (sU C) 96)))]) F dL_same_720 (by decide) rfl ?_
              have loop722 : ∀ (n : Nat) (k : Nat), 4 - k < n → (k ≤ 4) → G Γ E (0) (0) 722 [(0, .ref o), (1, .int (x)), (2, .ref qq), (3, .ref li), (4, .ref us), (5, .ref c), (6, .ref d), (7, .ref w), (8, .ref q), (9, .ref al_), (10, .int (nI (cu (sN C) (sU C) 96))), (11, .int (nI (lwv x 64))), (12, .int (nI k))] [] [ob 8 o [.ref (a 0), .ref (b 0), .ref y0, .ref x0, .ref v0, .ref g0, .ref k0, .ref m0], ob 5 (a 0) [.ref (a 1), .ref (a 2), .ref (a 3), .int (nI (sM C)), .int (nI (sW C))], ob 1 (a 1) [.ref (a 4)], ai E (a 4) 768 (sN C), ob 0 (a 2) [.ref (a 5)], az E (a 5) 96 (sU C), ob 3 (a 3) [.ref (a 6), .ref (a 7), .ref (a 8), .int (nI (sZ C))], ai E (a 6) 8 (sn C), ai E (a 7) 8 (sb C), ai E (a 8) 8 (ss C), ob 7 g0 [.ref g1, .ref g2, .ref g3, .ref g4, .int (nI tdA)], ai E g1 3 ebA, ai E g2 3 esA, ai E g3 3 ecA, ai E g4 12 etA, ob 0 k0 [.ref k1], az E k1 96 XA, ob 0 m0 [.ref m1], az E m1 96 YA, ob 2 y0 [.ref y1, .int (nI hn)], ob 4 x0 [.ref tc, .int (nI L9), .int (nI ta9), .int (nI br9), .int (nI lf9), .int (nI pl9), .int (nI vl9)], ai E qq 4 (qfS C), ai E li 24 lf, aj E us 2 (bu (sU C)), aj E c 64 (cc (sN C) 0), aj E d 64 (cc (sN C) 1), ai E w 9 WfA, aj E q 2 BA, aj E al_ 2 AA] := by
                intro n
                induction n with
                | zero => intro k hz; exact absurd hz (Nat.not_lt_zero _)
                | succ n ih722 =>
                  intro k hz722 hk
                  refine g_iload F 12 dL_same_722 rfl ?_
                  refine g_iconst (v := nI 4) F dL_same_724 (by decide) ?_
                  refine g_icmp_geN (tgt := 780) F dL_same_725 (by decide) (by omega) (by omega) (fun c725 => ?_) (fun c725 => ?_)
                  · skip
                    refine g_aload_n F 0 dL_same_780 rfl rfl ?_
                    refine g_iload F 11 dL_same_781 rfl ?_
                    refine g_iconst (v := nI 0) F dL_same_783 (by decide) ?_
                    refine g_iconst (v := nI 4) F dL_same_784 (by decide) ?_
                    refine g_callViR (n := 3) F [0, 1, 2, 3] (c_X8_content l E o a b y0 x0 v0 g0 k0 m0 C (nI (lwv x 64)) (nI 0) (nI 4) (by exact hI)) dL_same_785 rfl (by decide) rfl rfl rfl (Nat.le_of_ble_eq_true rfl) ⟨Nat.le_of_ble_eq_true rfl, Nat.le_of_ble_eq_true rfl⟩ rfl rfl ⟨Nat.le_of_ble_eq_true rfl, Nat.le_of_ble_eq_true rfl⟩ 0 rfl rfl gL_same_X8_content (by decide +kernel) (fun r u hp => by obtain ⟨-, h⟩ := hp; exact h) ?_
                    rintro r_785 u_785 ⟨rfl, -⟩
                    refine g_top (p_content C (nI (lwv x 64)) (nI 0) (nI 4)) (nI (sm (sN C) ((0 * 96 + (lwv x 64)) * 4))) (by exact p_content_4 (by omega)) ?_
                    refine g_aload F 5 dL_same_788 rfl ?_
                    refine g_iload F 11 dL_same_790 rfl ?_
                    refine g_jald F 24 dL_same_792 rfl (by omega) (by decide) ?_
                    refine g_topJ ((cc (sN C) 0) (lwv x 64)) (pkN (ccf (sN C) 0 (lwv x 64))) (by rfl) ?_
                    refine g_callSiR (n := 1) F [] (c_L_sum l E (ccf (sN C) 0 (lwv x 64)) (by exact ccf_lt hI.1 _ _)) dL_same_793 rfl (by decide) rfl rfl rfl (Nat.le_of_ble_eq_true rfl) ⟨Nat.le_of_ble_eq_true rfl, Nat.le_of_ble_eq_true rfl⟩ rfl rfl ⟨Nat.le_of_ble_eq_true rfl, Nat.le_of_ble_eq_true rfl⟩ ggL_same_L_sum (by decide +kernel) (by decide +kernel) (by decide +kernel) (by decide +kernel) (fun r u hp => by obtain ⟨-, h⟩ := hp; exact h) ?_
                    rintro r_793 u_793 ⟨rfl, -⟩
                    refine g_top (nI (sm (ccf (sN C) 0 (lwv x 64)) 0)) (nI (sm (sN C) ((0 * 96 + (lwv x 64)) * 4))) (by rfl) ?_
                    refine g_icmp_ne (tgt := 872) F dL_same_796 (by decide) (fun z => absurd rfl z) (fun _ => ?_)
                    refine g_aload_n F 0 dL_same_799 rfl rfl ?_
                    refine g_iconst (v := nI 0) F dL_same_800 (by decide) ?_
                    refine g_callViR (n := 1) F [0, 1, 2, 3, 4, 5, 6, 7, 8, 9, 19, 20] (c_X8_count l E o a b y0 x0 v0 g0 k0 m0 C y1 hn tc L9 ta9 br9 lf9 pl9 vl9 (nI 0) (by exact hI)) dL_same_801 rfl (by decide) rfl rfl rfl (Nat.le_of_ble_eq_true rfl) ⟨Nat.le_of_ble_eq_true rfl, Nat.le_of_ble_eq_true rfl⟩ rfl rfl ⟨Nat.le_of_ble_eq_true rfl, Nat.le_of_ble_eq_true rfl⟩ 0 rfl rfl gL_same_X8_count (by decide +kernel) (fun r u hp => by obtain ⟨-, h⟩ := hp; exact h) ?_
                    rintro r_801 u_801 ⟨rfl, -⟩
                    refine g_top (p_count C hn L9 (nI 0)) (nI (sZ C)) (by exact p_count_eq (by omega)) ?_
                    refine g_aload_n F 2 dL_same_804 rfl rfl ?_
                    refine g_iconst (v := nI 0) F dL_same_805 (by decide) ?_
                    refine g_iald F 21 dL_same_806 rfl (by omega) (by decide) ?_
                    refine g_top (nI ((qfS C) 0)) (nI (sZ C)) (by rfl) ?_
                    refine g_icmp_ne (tgt := 872) F dL_same_807 (by decide) (fun z => absurd rfl z) (fun _ => ?_)
                    refine g_aload_n F 0 dL_same_810 rfl rfl ?_
                    refine g_iconst (v := nI 1) F dL_same_811 (by decide) ?_
                    refine g_callViR (n := 1) F [0, 1, 2, 3, 4, 5, 6, 7, 8, 9, 19, 20] (c_X8_count l E o a b y0 x0 v0 g0 k0 m0 C y1 hn tc L9 ta9 br9 lf9 pl9 vl9 (nI 1) (by exact hI)) dL_same_812 rfl (by decide) rfl rfl rfl (Nat.le_of_ble_eq_true rfl) ⟨Nat.le_of_ble_eq_true rfl, Nat.le_of_ble_eq_true rfl⟩ rfl rfl ⟨Nat.le_of_ble_eq_true rfl, Nat.le_of_ble_eq_true rfl⟩ 0 rfl rfl gL_same_X8_count (by decide +kernel) (fun r u hp => by obtain ⟨-, h⟩ := hp; exact h) ?_
                    rintro r_812 u_812 ⟨rfl, -⟩
                    refine g_top (p_count C hn L9 (nI 1)) (nI (96 - cn (sU C) 96)) (by exact p_count_eq (by omega)) ?_
                    refine g_aload F 4 dL_same_815 rfl ?_
                    refine g_callSiR (n := 1) F [23] (c_L_free l E us (sU C) ) dL_same_817 rfl (by decide) rfl rfl rfl (Nat.le_of_ble_eq_true rfl) ⟨Nat.le_of_ble_eq_true rfl, Nat.le_of_ble_eq_true rfl⟩ rfl rfl ⟨Nat.le_of_ble_eq_true rfl, Nat.le_of_ble_eq_true rfl⟩ ggL_same_L_free (by decide +kernel) (by decide +kernel) (by decide +kernel) (by decide +kernel) (fun r u hp => by obtain ⟨-, h⟩ := hp; exact h) ?_
                    rintro r_817 u_817 ⟨rfl, -⟩
                    refine g_icmp_ne (tgt := 872) F dL_same_820 (by decide) (fun z => absurd rfl z) (fun _ => ?_)
                    refine g_aload_n F 0 dL_same_823 rfl rfl ?_
                    refine g_iconst (v := nI 2) F dL_same_824 (by decide) ?_
                    refine g_callViR (n := 1) F [0, 1, 2, 3, 4, 5, 6, 7, 8, 9, 19, 20] (c_X8_count l E o a b y0 x0 v0 g0 k0 m0 C y1 hn tc L9 ta9 br9 lf9 pl9 vl9 (nI 2) (by exact hI)) dL_same_825 rfl (by decide) rfl rfl rfl (Nat.le_of_ble_eq_true rfl) ⟨Nat.le_of_ble_eq_true rfl, Nat.le_of_ble_eq_true rfl⟩ rfl rfl ⟨Nat.le_of_ble_eq_true rfl, Nat.le_of_ble_eq_true rfl⟩ 0 rfl rfl gL_same_X8_count (by decide +kernel) (fun r u hp => by obtain ⟨-, h⟩ := hp; exact h) ?_
                    rintro r_825 u_825 ⟨rfl, -⟩
                    refine g_top (p_count C hn L9 (nI 2)) (nI (sM C)) (by exact p_count_eq (by omega)) ?_
                    refine g_aload_n F 2 dL_same_828 rfl rfl ?_
                    refine g_iconst (v := nI 2) F dL_same_829 (by decide) ?_
                    refine g_iald F 21 dL_same_830 rfl (by omega) (by decide) ?_
                    refine g_top (nI ((qfS C) 2)) (nI (sM C)) (by rfl) ?_
                    refine g_icmp_ne (tgt := 872) F dL_same_831 (by decide) (fun z => absurd rfl z) (fun _ => ?_)
                    refine g_aload_n F 0 dL_same_834 rfl rfl ?_
                    refine g_iconst (v := nI 3) F dL_same_835 (by decide) ?_
                    refine g_callViR (n := 1) F [0, 1, 2, 3, 4, 5, 6, 7, 8, 9, 19, 20] (c_X8_count l E o a b y0 x0 v0 g0 k0 m0 C y1 hn tc L9 ta9 br9 lf9 pl9 vl9 (nI 3) (by exact hI)) dL_same_836 rfl (by decide) rfl rfl rfl (Nat.le_of_ble_eq_true rfl) ⟨Nat.le_of_ble_eq_true rfl, Nat.le_of_ble_eq_true rfl⟩ rfl rfl ⟨Nat.le_of_ble_eq_true rfl, Nat.le_of_ble_eq_true rfl⟩ 0 rfl rfl gL_same_X8_count (by decide +kernel) (fun r u hp => by obtain ⟨-, h⟩ := hp; exact h) ?_
                    rintro r_836 u_836 ⟨rfl, -⟩
                    refine g_top (p_count C hn L9 (nI 3)) (nI (sW C)) (by exact p_count_eq (by omega)) ?_
                    refine g_aload_n F 2 dL_same_839 rfl rfl ?_
                    refine g_iconst (v := nI 3) F dL_same_840 (by decide) ?_
                    refine g_iald F 21 dL_same_841 rfl (by omega) (by decide) ?_
                    refine g_top (nI ((qfS C) 3)) (nI (sW C)) (by rfl) ?_
                    refine g_icmp_ne (tgt := 872) F dL_same_842 (by decide) (fun z => absurd rfl z) (fun _ => ?_)
                    refine g_aload_n F 0 dL_same_845 rfl rfl ?_
                    refine g_iconst (v := nI 4) F dL_same_846 (by decide) ?_
                    refine g_callViR (n := 1) F [0, 1, 2, 3, 4, 5, 6, 7, 8, 9, 19, 20] (c_X8_count l E o a b y0 x0 v0 g0 k0 m0 C y1 hn tc L9 ta9 br9 lf9 pl9 vl9 (nI 4) (by exact hI)) dL_same_847 rfl (by decide) rfl rfl rfl (Nat.le_of_ble_eq_true rfl) ⟨Nat.le_of_ble_eq_true rfl, Nat.le_of_ble_eq_true rfl⟩ rfl rfl ⟨Nat.le_of_ble_eq_true rfl, Nat.le_of_ble_eq_true rfl⟩ 0 rfl rfl gL_same_X8_count (by decide +kernel) (fun r u hp => by obtain ⟨-, h⟩ := hp; exact h) ?_
                    rintro r_847 u_847 ⟨rfl, -⟩
                    refine g_top (p_count C hn L9 (nI 4)) (nI (cu (sN C) (sU C) 96)) (by exact p_count_eq (by omega)) ?_
                    refine g_iload F 10 dL_same_850 rfl ?_
                    refine g_icmp_ne (tgt := 872) F dL_same_852 (by decide) (fun z => absurd rfl z) (fun _ => ?_)
                    refine g_aload_n F 0 dL_same_855 rfl rfl ?_
                    refine g_iconst (v := nI 5) F dL_same_856 (by decide) ?_
                    refine g_callViR (n := 1) F [0, 1, 2, 3, 4, 5, 6, 7, 8, 9, 19, 20] (c_X8_count l E o a b y0 x0 v0 g0 k0 m0 C y1 hn tc L9 ta9 br9 lf9 pl9 vl9 (nI 5) (by exact hI)) dL_same_857 rfl (by decide) rfl rfl rfl (Nat.le_of_ble_eq_true rfl) ⟨Nat.le_of_ble_eq_true rfl, Nat.le_of_ble_eq_true rfl⟩ rfl rfl ⟨Nat.le_of_ble_eq_true rfl, Nat.le_of_ble_eq_true rfl⟩ 0 rfl rfl gL_same_X8_count (by decide +kernel) (fun r u hp => by obtain ⟨-, h⟩ := hp; exact h) ?_
                    rintro r_857 u_857 ⟨rfl, -⟩
                    refine g_top (p_count C hn L9 (nI 5)) (lof (sU C)) (by exact p_count_eq (by omega)) ?_
                    refine g_aload F 4 dL_same_860 rfl ?_
                    refine g_callSiR (n := 1) F [23] (c_L_first l E us (sU C) ) dL_same_862 rfl (by decide) rfl rfl rfl (Nat.le_of_ble_eq_true rfl) ⟨Nat.le_of_ble_eq_true rfl, Nat.le_of_ble_eq_true rfl⟩ rfl rfl ⟨Nat.le_of_ble_eq_true rfl, Nat.le_of_ble_eq_true rfl⟩ ggL_same_L_first (by decide +kernel) (by decide +kernel) (by decide +kernel) (by decide +kernel) (fun r u hp => by obtain ⟨-, h⟩ := hp; exact h) ?_
                    rintro r_862 u_862 ⟨rfl, -⟩
                    refine g_icmp_ne (tgt := 872) F dL_same_865 (by decide) (fun z => absurd rfl z) (fun _ => ?_)
                    refine g_iconst (v := nI 1) F dL_same_868 (by decide) ?_
                    refine g_goto (tgt := 873) F dL_same_869 (by decide) ?_
                    exact hret _ _ _ _ dL_same_873 ⟨tdA, ebA, esA, ecA, etA, XA, YA, WfA, BA, AA, rfl, (by rfl)⟩
                  · skip
                    refine g_aload_n F 0 dL_same_728 rfl rfl ?_
                    refine g_iload F 11 dL_same_729 rfl ?_
                    refine g_iconst (v := nI 0) F dL_same_731 (by decide) ?_
                    refine g_iload F 12 dL_same_732 rfl ?_
                    refine g_callViR (n := 3) F [0, 1, 2, 3] (c_X8_content l E o a b y0 x0 v0 g0 k0 m0 C (nI (lwv x 64)) (nI 0) (nI k) (by exact hI)) dL_same_734 rfl (by decide) rfl rfl rfl (Nat.le_of_ble_eq_true rfl) ⟨Nat.le_of_ble_eq_true rfl, Nat.le_of_ble_eq_true rfl⟩ rfl rfl ⟨Nat.le_of_ble_eq_true rfl, Nat.le_of_ble_eq_true rfl⟩ 0 rfl rfl gL_same_X8_content (by decide +kernel) (fun r u hp => by obtain ⟨-, h⟩ := hp; exact h) ?_
                    rintro r_734 u_734 ⟨rfl, -⟩
                    refine g_top (p_content C (nI (lwv x 64)) (nI 0) (nI k)) (nI (nu (sN C) 0 (lwv x 64) k)) (by exact p_content_eq (by omega) (by omega) (by omega)) ?_
                    refine g_aload F 5 dL_same_737 rfl ?_
                    refine g_iload F 11 dL_same_739 rfl ?_
                    refine g_jald F 24 dL_same_741 rfl (by omega) (by decide) ?_
                    refine g_topJ ((cc (sN C) 0) (lwv x 64)) (pkN (ccf (sN C) 0 (lwv x 64))) (by rfl) ?_
                    refine g_iload F 12 dL_same_742 rfl ?_
                    refine g_callSiR (n := 2) F [] (c_L_number l E (ccf (sN C) 0 (lwv x 64)) k (by exact ccf_lt hI.1 _ _) (by omega)) dL_same_744 rfl (by decide) rfl rfl rfl (Nat.le_of_ble_eq_true rfl) ⟨Nat.le_of_ble_eq_true rfl, Nat.le_of_ble_eq_true rfl⟩ rfl rfl ⟨Nat.le_of_ble_eq_true rfl, Nat.le_of_ble_eq_true rfl⟩ ggL_same_L_number (by decide +kernel) (by decide +kernel) (by decide +kernel) (by decide +kernel) (fun r u hp => by obtain ⟨-, h⟩ := hp; exact h) ?_
                    rintro r_744 u_744 ⟨rfl, -⟩
                    refine g_top (nI ((ccf (sN C) 0 (lwv x 64)) k)) (nI (nu (sN C) 0 (lwv x 64) k)) (by rfl) ?_
                    refine g_icmp_ne (tgt := 772) F dL_same_747 (by decide) (fun z => absurd rfl z) (fun _ => ?_)
                    refine g_aload_n F 0 dL_same_750 rfl rfl ?_
                    refine g_iload F 11 dL_same_751 rfl ?_
                    refine g_iconst (v := nI 1) F dL_same_753 (by decide) ?_
                    refine g_iload F 12 dL_same_754 rfl ?_
                    refine g_callViR (n := 3) F [0, 1, 2, 3] (c_X8_content l E o a b y0 x0 v0 g0 k0 m0 C (nI (lwv x 64)) (nI 1) (nI k) (by exact hI)) dL_same_756 rfl (by decide) rfl rfl rfl (Nat.le_of_ble_eq_true rfl) ⟨Nat.le_of_ble_eq_true rfl, Nat.le_of_ble_eq_true rfl⟩ rfl rfl ⟨Nat.le_of_ble_eq_true rfl, Nat.le_of_ble_eq_true rfl⟩ 0 rfl rfl gL_same_X8_content (by decide +kernel) (fun r u hp => by obtain ⟨-, h⟩ := hp; exact h) ?_
                    rintro r_756 u_756 ⟨rfl, -⟩
                    refine g_top (p_content C (nI (lwv x 64)) (nI 1) (nI k)) (nI (nu (sN C) 1 (lwv x 64) k)) (by exact p_content_eq (by omega) (by omega) (by omega)) ?_
                    refine g_aload F 6 dL_same_759 rfl ?_
                    refine g_iload F 11 dL_same_761 rfl ?_
                    refine g_jald F 25 dL_same_763 rfl (by omega) (by decide) ?_
                    refine g_topJ ((cc (sN C) 1) (lwv x 64)) (pkN (ccf (sN C) 1 (lwv x 64))) (by rfl) ?_
                    refine g_iload F 12 dL_same_764 rfl ?_
                    refine g_callSiR (n := 2) F [] (c_L_number l E (ccf (sN C) 1 (lwv x 64)) k (by exact ccf_lt hI.1 _ _) (by omega)) dL_same_766 rfl (by decide) rfl rfl rfl (Nat.le_of_ble_eq_true rfl) ⟨Nat.le_of_ble_eq_true rfl, Nat.le_of_ble_eq_true rfl⟩ rfl rfl ⟨Nat.le_of_ble_eq_true rfl, Nat.le_of_ble_eq_true rfl⟩ ggL_same_L_number (by decide +kernel) (by decide +kernel) (by decide +kernel) (by decide +kernel) (fun r u hp => by obtain ⟨-, h⟩ := hp; exact h) ?_
                    rintro r_766 u_766 ⟨rfl, -⟩
                    refine g_top (nI ((ccf (sN C) 1 (lwv x 64)) k)) (nI (nu (sN C) 1 (lwv x 64) k)) (by rfl) ?_
                    refine g_icmp_eq (tgt := 774) F dL_same_769 (by decide) (fun _ => ?_) (fun z => absurd rfl z)
                    refine g_iinc (k := 12) (v := nI (k + 1)) (lv2 := [(12, .int (nI (k + 1))), (0, .ref o), (1, .int (x)), (2, .ref qq), (3, .ref li), (4, .ref us), (5, .ref c), (6, .ref d), (7, .ref w), (8, .ref q), (9, .ref al_), (10, .int (nI (cu (sN C) (sU C) 96))), (11, .int (nI (lwv x 64)))]) F dL_same_774 rfl (nI_1 _) (by decide) rfl ?_
                    refine g_goto (tgt := 722) F dL_same_777 (by decide) ?_
                    refine g_lv [1, 2, 3, 4, 5, 6, 7, 8, 9, 10, 11, 12, 0] rfl ?_
                    exact ih722 (k + 1) (by omega) (by omega)
              refine g_lv [2, 3, 4, 5, 6, 7, 8, 9, 10, 11, 12, 1, 0] rfl ?_
              exact loop722 ((4 - 0) + 1) 0 (Nat.lt_succ_self _) (by omega)
            · skip
              refine g_iconst (v := nI 0) F dL_same_68 (by decide) ?_
              refine g_istore (lv2 := [(12, .int (nI 0)), (0, .ref o), (1, .int (x)), (2, .ref qq), (3, .ref li), (4, .ref us), (5, .ref c), (6, .ref d), (7, .ref w), (8, .ref q), (9, .ref al_), (10, .int (nI (cu (sN C) (sU C) 96))), (11, .int (nI r))]) F dL_same_69 (by decide) rfl ?_
              refine g_iconst (v := nI 0) F dL_same_71 (by decide) ?_
              refine g_istore (lv2 := [(13, .int (nI 0)), (12, .int (nI 0)), (0, .ref o), (1, .int (x)), (2, .ref qq), (3, .ref li), (4, .ref us), (5, .ref c), (6, .ref d), (7, .ref w), (8, .ref q), (9, .ref al_), (10, .int (nI (cu (sN C) (sU C) 96))), (11, .int (nI r))]) F dL_same_72 (by decide) rfl ?_
              refine g_iconst (v := nI 0) F dL_same_74 (by decide) ?_
              refine g_istore (lv2 := [(14, .int (nI 0)), (13, .int (nI 0)), (12, .int (nI 0)), (0, .ref o), (1, .int (x)), (2, .ref qq), (3, .ref li), (4, .ref us), (5, .ref c), (6, .ref d), (7, .ref w), (8, .ref q), (9, .ref al_), (10, .int (nI (cu (sN C) (sU C) 96))), (11, .int (nI r))]) F dL_same_75 (by decide) rfl ?_
              refine g_iconst (v := nI 0) F dL_same_77 (by decide) ?_
              refine g_istore (lv2 := [(15, .int (nI 0)), (14, .int (nI 0)), (13, .int (nI 0)), (12, .int (nI 0)), (0, .ref o), (1, .int (x)), (2, .ref qq), (3, .ref li), (4, .ref us), (5, .ref c), (6, .ref d), (7, .ref w), (8, .ref q), (9, .ref al_), (10, .int (nI (cu (sN C) (sU C) 96))), (11, .int (nI r))]) F dL_same_78 (by decide) rfl ?_
              have loop80 : ∀ (n : Nat) (leaf : Nat) (z1 : Nat) (z2 : Nat) (z3 : Nat) (tdB : Nat) (ebB : Nat → Nat) (esB : Nat → Nat) (ecB : Nat → Nat) (etB : Nat → Nat) (WfB : Nat → Nat), 16 - leaf < n → (leaf ≤ 16) → (z1 = lvs C r 0 leaf) → (z2 = lvs C r 1 leaf) → (z3 = lvs C r 2 leaf) → G Γ E (0) (0) 80 [(0, .ref o), (1, .int (x)), (2, .ref qq), (3, .ref li), (4, .ref us), (5, .ref c), (6, .ref d), (7, .ref w), (8, .ref q), (9, .ref al_), (10, .int (nI (cu (sN C) (sU C) 96))), (11, .int (nI r)), (12, .int (nI z1)), (13, .int (nI z2)), (14, .int (nI z3)), (15, .int (nI leaf))] [] [ob 8 o [.ref (a 0), .ref (b 0), .ref y0, .ref x0, .ref v0, .ref g0, .ref k0, .ref m0], ob 5 (a 0) [.ref (a 1), .ref (a 2), .ref (a 3), .int (nI (sM C)), .int (nI (sW C))], ob 1 (a 1) [.ref (a 4)], ai E (a 4) 768 (sN C), ob 0 (a 2) [.ref (a 5)], az E (a 5) 96 (sU C), ob 3 (a 3) [.ref (a 6), .ref (a 7), .ref (a 8), .int (nI (sZ C))], ai E (a 6) 8 (sn C), ai E (a 7) 8 (sb C), ai E (a 8) 8 (ss C), ob 7 g0 [.ref g1, .ref g2, .ref g3, .ref g4, .int (nI tdB)], ai E g1 3 ebB, ai E g2 3 esB, ai E g3 3 ecB, ai E g4 12 etB, ob 0 k0 [.ref k1], az E k1 96 XA, ob 0 m0 [.ref m1], az E m1 96 YA, ob 2 y0 [.ref y1, .int (nI hn)], ob 4 x0 [.ref tc, .int (nI L9), .int (nI ta9), .int (nI br9), .int (nI lf9), .int (nI pl9), .int (nI vl9)], ai E qq 4 (qfS C), ai E li 24 lf, aj E us 2 (bu (sU C)), aj E c 64 (cc (sN C) 0), aj E d 64 (cc (sN C) 1), ai E w 9 WfB, aj E q 2 BA, aj E al_ 2 AA] := by
                intro n
                induction n with
                | zero => intro leaf z1 z2 z3 tdB ebB esB ecB etB WfB hz; exact absurd hz (Nat.not_lt_zero _)
                | succ n ih80 =>
                  intro leaf z1 z2 z3 tdB ebB esB ecB etB WfB hz80 hlf hz1 hz2 hz3
                  refine g_iload F 15 dL_same_80 rfl ?_
                  refine g_bipush (v := nI 16) F dL_same_82 (by decide) ?_
                  refine g_icmp_geN (tgt := 468) F dL_same_84 (by decide) (by omega) (by omega) (fun c84 => ?_) (fun c84 => ?_)
                  · skip
                    refine g_lvC 12 rfl (.int (nI (lvs C r 0 16))) (by rw [hz1, show leaf = 16 by omega]) (lv2 := [(0, .ref o), (1, .int (x)), (2, .ref qq), (3, .ref li), (4, .ref us), (5, .ref c), (6, .ref d), (7, .ref w), (8, .ref q), (9, .ref al_), (10, .int (nI (cu (sN C) (sU C) 96))), (11, .int (nI r)), (12, .int (nI (lvs C r 0 16))), (13, .int (nI z2)), (14, .int (nI z3)), (15, .int (nI leaf))]) rfl ?_
                    refine g_lvC 13 rfl (.int (nI (lvs C r 1 16))) (by rw [hz2, show leaf = 16 by omega]) (lv2 := [(0, .ref o), (1, .int (x)), (2, .ref qq), (3, .ref li), (4, .ref us), (5, .ref c), (6, .ref d), (7, .ref w), (8, .ref q), (9, .ref al_), (10, .int (nI (cu (sN C) (sU C) 96))), (11, .int (nI r)), (12, .int (nI (lvs C r 0 16))), (13, .int (nI (lvs C r 1 16))), (14, .int (nI z3)), (15, .int (nI leaf))]) rfl ?_
                    refine g_lvC 14 rfl (.int (nI (lvs C r 2 16))) (by rw [hz3, show leaf = 16 by omega]) (lv2 := [(0, .ref o), (1, .int (x)), (2, .ref qq), (3, .ref li), (4, .ref us), (5, .ref c), (6, .ref d), (7, .ref w), (8, .ref q), (9, .ref al_), (10, .int (nI (cu (sN C) (sU C) 96))), (11, .int (nI r)), (12, .int (nI (lvs C r 0 16))), (13, .int (nI (lvs C r 1 16))), (14, .int (nI (lvs C r 2 16))), (15, .int (nI leaf))]) rfl ?_
                    refine g_aload_n F 0 dL_same_468 rfl rfl ?_
                    refine g_iload F 11 dL_same_469 rfl ?_
                    refine g_iconst (v := nI 0) F dL_same_471 (by decide) ?_
                    refine g_callViW (n := 2) F [0, 1, 2, 3, 4, 5, 6, 7, 8, 9, 10, 11, 12, 13, 14] (c_X8_leaves l E o a b y0 x0 v0 g0 k0 m0 g1 g2 g3 g4 tdB ebB esB ecB etB C (nI r) (nI 0) (by exact hI)) dL_same_472 rfl (by decide) rfl rfl rfl (Nat.le_of_ble_eq_true rfl) ⟨Nat.le_of_ble_eq_true rfl, Nat.le_of_ble_eq_true rfl⟩ rfl rfl ⟨Nat.le_of_ble_eq_true rfl, Nat.le_of_ble_eq_true rfl⟩ 0 rfl rfl gL_same_X8_leaves (by decide +kernel) (fun r u hp => by obtain ⟨_, _, _, _, _, -, rfl⟩ := hp; rfl) ?_
                    rintro r_472 u_472 ⟨td2_472, Wb_472, Ws_472, Wc_472, Wt_472, rfl, rfl⟩
                    refine g_ws (w2 := [ob 8 o [.ref (a 0), .ref (b 0), .ref y0, .ref x0, .ref v0, .ref g0, .ref k0, .ref m0], ob 5 (a 0) [.ref (a 1), .ref (a 2), .ref (a 3), .int (nI (sM C)), .int (nI (sW C))], ob 1 (a 1) [.ref (a 4)], ai E (a 4) 768 (sN C), ob 0 (a 2) [.ref (a 5)], az E (a 5) 96 (sU C), ob 3 (a 3) [.ref (a 6), .ref (a 7), .ref (a 8), .int (nI (sZ C))], ai E (a 6) 8 (sn C), ai E (a 7) 8 (sb C), ai E (a 8) 8 (ss C), ob 7 g0 [.ref g1, .ref g2, .ref g3, .ref g4, .int (nI td2_472)], ai E g1 3 Wb_472, ai E g2 3 Ws_472, ai E g3 3 Wc_472, ai E g4 12 Wt_472, ob 0 k0 [.ref k1], az E k1 96 XA, ob 0 m0 [.ref m1], az E m1 96 YA, ob 2 y0 [.ref y1, .int (nI hn)], ob 4 x0 [.ref tc, .int (nI L9), .int (nI ta9), .int (nI br9), .int (nI lf9), .int (nI pl9), .int (nI vl9)], ai E qq 4 (qfS C), ai E li 24 lf, aj E us 2 (bu (sU C)), aj E c 64 (cc (sN C) 0), aj E d 64 (cc (sN C) 1), ai E w 9 WfB, aj E q 2 BA, aj E al_ 2 AA]) ?_ ?_
                    · exact rpl_eq [15, 16, 17, 18, 19, 20, 21, 22, 23, 24, 25, 26, 27, 28] 29 (by decide) rfl rfl rfl (by decide) (by decide) rfl rfl
                    refine g_top (p_leaves C (nI r) (nI 0)) (nI (lvs C r 0 16)) (by exact p_leaves_eq hz8 (by omega) (by omega)) ?_
                    refine g_iload F 12 dL_same_475 rfl ?_
                    refine g_icmp_ne (tgt := 504) F dL_same_477 (by decide) (fun z => absurd rfl z) (fun _ => ?_)
                    refine g_aload_n F 0 dL_same_480 rfl rfl ?_
                    refine g_iload F 11 dL_same_481 rfl ?_
                    refine g_iconst (v := nI 1) F dL_same_483 (by decide) ?_
                    refine g_callViW (n := 2) F [0, 1, 2, 3, 4, 5, 6, 7, 8, 9, 10, 11, 12, 13, 14] (c_X8_leaves l E o a b y0 x0 v0 g0 k0 m0 g1 g2 g3 g4 td2_472 Wb_472 Ws_472 Wc_472 Wt_472 C (nI r) (nI 1) (by exact hI)) dL_same_484 rfl (by decide) rfl rfl rfl (Nat.le_of_ble_eq_true rfl) ⟨Nat.le_of_ble_eq_true rfl, Nat.le_of_ble_eq_true rfl⟩ rfl rfl ⟨Nat.le_of_ble_eq_true rfl, Nat.le_of_ble_eq_true rfl⟩ 0 rfl rfl gL_same_X8_leaves (by decide +kernel) (fun r u hp => by obtain ⟨_, _, _, _, _, -, rfl⟩ := hp; rfl) ?_
                    rintro r_484 u_484 ⟨td2_484, Wb_484, Ws_484, Wc_484, Wt_484, rfl, rfl⟩
                    refine g_ws (w2 := [ob 8 o [.ref (a 0), .ref (b 0), .ref y0, .ref x0, .ref v0, .ref g0, .ref k0, .ref m0], ob 5 (a 0) [.ref (a 1), .ref (a 2), .ref (a 3), .int (nI (sM C)), .int (nI (sW C))], ob 1 (a 1) [.ref (a 4)], ai E (a 4) 768 (sN C), ob 0 (a 2) [.ref (a 5)], az E (a 5) 96 (sU C), ob 3 (a 3) [.ref (a 6), .ref (a 7), .ref (a 8), .int (nI (sZ C))], ai E (a 6) 8 (sn C), ai E (a 7) 8 (sb C), ai E (a 8) 8 (ss C), ob 7 g0 [.ref g1, .ref g2, .ref g3, .ref g4, .int (nI td2_484)], ai E g1 3 Wb_484, ai E g2 3 Ws_484, ai E g3 3 Wc_484, ai E g4 12 Wt_484, ob 0 k0 [.ref k1], az E k1 96 XA, ob 0 m0 [.ref m1], az E m1 96 YA, ob 2 y0 [.ref y1, .int (nI hn)], ob 4 x0 [.ref tc, .int (nI L9), .int (nI ta9), .int (nI br9), .int (nI lf9), .int (nI pl9), .int (nI vl9)], ai E qq 4 (qfS C), ai E li 24 lf, aj E us 2 (bu (sU C)), aj E c 64 (cc (sN C) 0), aj E d 64 (cc (sN C) 1), ai E w 9 WfB, aj E q 2 BA, aj E al_ 2 AA]) ?_ ?_
                    · exact rpl_eq [15, 16, 17, 18, 19, 20, 21, 22, 23, 24, 25, 26, 27, 28] 29 (by decide) rfl rfl rfl (by decide) (by decide) rfl rfl
                    refine g_top (p_leaves C (nI r) (nI 1)) (nI (lvs C r 1 16)) (by exact p_leaves_eq hz8 (by omega) (by omega)) ?_
                    refine g_iload F 13 dL_same_487 rfl ?_
                    refine g_icmp_ne (tgt := 504) F dL_same_489 (by decide) (fun z => absurd rfl z) (fun _ => ?_)
                    refine g_aload_n F 0 dL_same_492 rfl rfl ?_
                    refine g_iload F 11 dL_same_493 rfl ?_
                    refine g_iconst (v := nI 2) F dL_same_495 (by decide) ?_
                    refine g_callViW (n := 2) F [0, 1, 2, 3, 4, 5, 6, 7, 8, 9, 10, 11, 12, 13, 14] (c_X8_leaves l E o a b y0 x0 v0 g0 k0 m0 g1 g2 g3 g4 td2_484 Wb_484 Ws_484 Wc_484 Wt_484 C (nI r) (nI 2) (by exact hI)) dL_same_496 rfl (by decide) rfl rfl rfl (Nat.le_of_ble_eq_true rfl) ⟨Nat.le_of_ble_eq_true rfl, Nat.le_of_ble_eq_true rfl⟩ rfl rfl ⟨Nat.le_of_ble_eq_true rfl, Nat.le_of_ble_eq_true rfl⟩ 0 rfl rfl gL_same_X8_leaves (by decide +kernel) (fun r u hp => by obtain ⟨_, _, _, _, _, -, rfl⟩ := hp; rfl) ?_
                    rintro r_496 u_496 ⟨td2_496, Wb_496, Ws_496, Wc_496, Wt_496, rfl, rfl⟩
                    refine g_ws (w2 := [ob 8 o [.ref (a 0), .ref (b 0), .ref y0, .ref x0, .ref v0, .ref g0, .ref k0, .ref m0], ob 5 (a 0) [.ref (a 1), .ref (a 2), .ref (a 3), .int (nI (sM C)), .int (nI (sW C))], ob 1 (a 1) [.ref (a 4)], ai E (a 4) 768 (sN C), ob 0 (a 2) [.ref (a 5)], az E (a 5) 96 (sU C), ob 3 (a 3) [.ref (a 6), .ref (a 7), .ref (a 8), .int (nI (sZ C))], ai E (a 6) 8 (sn C), ai E (a 7) 8 (sb C), ai E (a 8) 8 (ss C), ob 7 g0 [.ref g1, .ref g2, .ref g3, .ref g4, .int (nI td2_496)], ai E g1 3 Wb_496, ai E g2 3 Ws_496, ai E g3 3 Wc_496, ai E g4 12 Wt_496, ob 0 k0 [.ref k1], az E k1 96 XA, ob 0 m0 [.ref m1], az E m1 96 YA, ob 2 y0 [.ref y1, .int (nI hn)], ob 4 x0 [.ref tc, .int (nI L9), .int (nI ta9), .int (nI br9), .int (nI lf9), .int (nI pl9), .int (nI vl9)], ai E qq 4 (qfS C), ai E li 24 lf, aj E us 2 (bu (sU C)), aj E c 64 (cc (sN C) 0), aj E d 64 (cc (sN C) 1), ai E w 9 WfB, aj E q 2 BA, aj E al_ 2 AA]) ?_ ?_
                    · exact rpl_eq [15, 16, 17, 18, 19, 20, 21, 22, 23, 24, 25, 26, 27, 28] 29 (by decide) rfl rfl rfl (by decide) (by decide) rfl rfl
                    refine g_top (p_leaves C (nI r) (nI 2)) (nI (lvs C r 2 16)) (by exact p_leaves_eq hz8 (by omega) (by omega)) ?_
                    refine g_iload F 14 dL_same_499 rfl ?_
                    refine g_icmp_eq (tgt := 506) F dL_same_501 (by decide) (fun _ => ?_) (fun z => absurd rfl z)
                    refine g_lconst (v := 0) F dL_same_506 (by decide) ?_
                    refine g_lstore (lv2 := [(15, .long (0)), (0, .ref o), (1, .int (x)), (2, .ref qq), (3, .ref li), (4, .ref us), (5, .ref c), (6, .ref d), (7, .ref w), (8, .ref q), (9, .ref al_), (10, .int (nI (cu (sN C) (sU C) 96))), (11, .int (nI r)), (12, .int (nI (lvs C r 0 16))), (13, .int (nI (lvs C r 1 16))), (14, .int (nI (lvs C r 2 16)))]) F dL_same_507 (by decide) rfl ?_
                    refine g_lconst (v := 0) F dL_same_509 (by decide) ?_
                    refine g_lstore (lv2 := [(17, .long (0)), (15, .long (0)), (0, .ref o), (1, .int (x)), (2, .ref qq), (3, .ref li), (4, .ref us), (5, .ref c), (6, .ref d), (7, .ref w), (8, .ref q), (9, .ref al_), (10, .int (nI (cu (sN C) (sU C) 96))), (11, .int (nI r)), (12, .int (nI (lvs C r 0 16))), (13, .int (nI (lvs C r 1 16))), (14, .int (nI (lvs C r 2 16)))]) F dL_same_510 (by decide) rfl ?_
                    refine g_iconst (v := nI 0) F dL_same_512 (by decide) ?_
                    refine g_istore (lv2 := [(19, .int (nI 0)), (17, .long (0)), (15, .long (0)), (0, .ref o), (1, .int (x)), (2, .ref qq), (3, .ref li), (4, .ref us), (5, .ref c), (6, .ref d), (7, .ref w), (8, .ref q), (9, .ref al_), (10, .int (nI (cu (sN C) (sU C) 96))), (11, .int (nI r)), (12, .int (nI (lvs C r 0 16))), (13, .int (nI (lvs C r 1 16))), (14, .int (nI (lvs C r 2 16)))]) F dL_same_513 (by decide) rfl ?_
                    have loop515 : ∀ (n : Nat) (k : Nat) (BD : Nat → Int64), sZ C - k < n → (k ≤ sZ C) → G Γ E (0) (0) 515 [(0, .ref o), (1, .int (x)), (2, .ref qq), (3, .ref li), (4, .ref us), (5, .ref c), (6, .ref d), (7, .ref w), (8, .ref q), (9, .ref al_), (10, .int (nI (cu (sN C) (sU C) 96))), (11, .int (nI r)), (12, .int (nI (lvs C r 0 16))), (13, .int (nI (lvs C r 1 16))), (14, .int (nI (lvs C r 2 16))), (15, .long (bs (oth C r k) 0)), (17, .long (bs (oth C r k) 1)), (19, .int (nI k))] [] [ob 8 o [.ref (a 0), .ref (b 0), .ref y0, .ref x0, .ref v0, .ref g0, .ref k0, .ref m0], ob 5 (a 0) [.ref (a 1), .ref (a 2), .ref (a 3), .int (nI (sM C)), .int (nI (sW C))], ob 1 (a 1) [.ref (a 4)], ai E (a 4) 768 (sN C), ob 0 (a 2) [.ref (a 5)], az E (a 5) 96 (sU C), ob 3 (a 3) [.ref (a 6), .ref (a 7), .ref (a 8), .int (nI (sZ C))], ai E (a 6) 8 (sn C), ai E (a 7) 8 (sb C), ai E (a 8) 8 (ss C), ob 7 g0 [.ref g1, .ref g2, .ref g3, .ref g4, .int (nI td2_496)], ai E g1 3 Wb_496, ai E g2 3 Ws_496, ai E g3 3 Wc_496, ai E g4 12 Wt_496, ob 0 k0 [.ref k1], az E k1 96 XA, ob 0 m0 [.ref m1], az E m1 96 YA, ob 2 y0 [.ref y1, .int (nI hn)], ob 4 x0 [.ref tc, .int (nI L9), .int (nI ta9), .int (nI br9), .int (nI lf9), .int (nI pl9), .int (nI vl9)], ai E qq 4 (qfS C), ai E li 24 lf, aj E us 2 (bu (sU C)), aj E c 64 (cc (sN C) 0), aj E d 64 (cc (sN C) 1), ai E w 9 WfB, aj E q 2 BD, aj E al_ 2 AA] := by
                      intro n
                      induction n with
                      | zero => intro k BD hz; exact absurd hz (Nat.not_lt_zero _)
                      | succ n ih515 =>
                        intro k BD hz515 hk
                        refine g_iload F 17 dL_same_515 rfl ?_
                        refine g_aload_n F 2 dL_same_517 rfl rfl ?_
                        refine g_iconst (v := nI 0) F dL_same_518 (by decide) ?_
                        refine g_iald F 21 dL_same_519 rfl (by omega) (by decide) ?_
                        refine g_top (nI ((qfS C) 0)) (nI (sZ C)) (by rfl) ?_
                        refine g_icmp_geN (tgt := 594) F dL_same_520 (by decide) (by omega) (by omega) (fun c520 => ?_) (fun c520 => ?_)
                        · skip
                          refine g_iload F 11 dL_same_594 rfl ?_
                          refine g_aload_n F 3 dL_same_596 rfl rfl ?_
                          refine g_aload F 5 dL_same_597 rfl ?_
                          refine g_aload F 6 dL_same_599 rfl ?_
                          refine g_aload F 8 dL_same_601 rfl ?_
                          refine g_callSvW (n := 5) F [22, 24, 25, 27] (c_L_owned l E li c d (sN C) lf q BD (sb C r) (ss C r) r (by omega) (by exact hI.1) (by exact hZ) (by exact (hli r (by omega)).2.1) (by exact (hli r (by omega)).2.2) (by have := hI.rb (r := r) (by omega); omega) (by have := hI.rs (r := r) (by omega); omega) (by exact hb64 r (by omega))) dL_same_603 rfl (by decide) rfl rfl rfl (Nat.le_of_ble_eq_true rfl) ⟨Nat.le_of_ble_eq_true rfl, Nat.le_of_ble_eq_true rfl⟩ rfl rfl ⟨Nat.le_of_ble_eq_true rfl, Nat.le_of_ble_eq_true rfl⟩ ggL_same_L_owned (by decide +kernel) (by decide +kernel) (by decide +kernel) (by decide +kernel) (fun u hp => by obtain rfl := hp; rfl) ?_
                          rintro u_603 rfl
                          refine g_ws (w2 := [ob 8 o [.ref (a 0), .ref (b 0), .ref y0, .ref x0, .ref v0, .ref g0, .ref k0, .ref m0], ob 5 (a 0) [.ref (a 1), .ref (a 2), .ref (a 3), .int (nI (sM C)), .int (nI (sW C))], ob 1 (a 1) [.ref (a 4)], ai E (a 4) 768 (sN C), ob 0 (a 2) [.ref (a 5)], az E (a 5) 96 (sU C), ob 3 (a 3) [.ref (a 6), .ref (a 7), .ref (a 8), .int (nI (sZ C))], ai E (a 6) 8 (sn C), ai E (a 7) 8 (sb C), ai E (a 8) 8 (ss C), ob 7 g0 [.ref g1, .ref g2, .ref g3, .ref g4, .int (nI td2_496)], ai E g1 3 Wb_496, ai E g2 3 Ws_496, ai E g3 3 Wc_496, ai E g4 12 Wt_496, ob 0 k0 [.ref k1], az E k1 96 XA, ob 0 m0 [.ref m1], az E m1 96 YA, ob 2 y0 [.ref y1, .int (nI hn)], ob 4 x0 [.ref tc, .int (nI L9), .int (nI ta9), .int (nI br9), .int (nI lf9), .int (nI pl9), .int (nI vl9)], ai E qq 4 (qfS C), ai E li 24 lf, aj E us 2 (bu (sU C)), aj E c 64 (cc (sN C) 0), aj E d 64 (cc (sN C) 1), ai E w 9 WfB, aj E q 2 (bu (ab (sN C) (sb C r) (ss C r) (fun _ => 0))), aj E al_ 2 AA]) ?_ ?_
                          · exact rpl_eq [0, 1, 2, 3, 4, 5, 6, 7, 8, 9, 10, 11, 12, 13, 14, 15, 16, 17, 18, 19, 20, 21, 23, 26, 28] 29 (by decide) rfl rfl rfl (by decide) (by decide) rfl rfl
                          refine g_aload F 9 dL_same_606 rfl ?_
                          refine g_iconst (v := nI 0) F dL_same_608 (by decide) ?_
                          refine g_aload F 8 dL_same_609 rfl ?_
                          refine g_iconst (v := nI 0) F dL_same_611 (by decide) ?_
                          refine g_jald F 27 dL_same_612 rfl (by omega) (by decide) ?_
                          refine g_lload F 15 dL_same_613 rfl ?_
                          refine g_ldc2 (v := (-1)) F dL_same_615 (by decide +kernel) ?_
                          refine g_lxor F dL_same_618 ?_
                          refine g_land F dL_same_619 ?_
                          refine g_jast F 28 dL_same_620 rfl (by omega) (by decide) (w2 := [ob 8 o [.ref (a 0), .ref (b 0), .ref y0, .ref x0, .ref v0, .ref g0, .ref k0, .ref m0], ob 5 (a 0) [.ref (a 1), .ref (a 2), .ref (a 3), .int (nI (sM C)), .int (nI (sW C))], ob 1 (a 1) [.ref (a 4)], ai E (a 4) 768 (sN C), ob 0 (a 2) [.ref (a 5)], az E (a 5) 96 (sU C), ob 3 (a 3) [.ref (a 6), .ref (a 7), .ref (a 8), .int (nI (sZ C))], ai E (a 6) 8 (sn C), ai E (a 7) 8 (sb C), ai E (a 8) 8 (ss C), ob 7 g0 [.ref g1, .ref g2, .ref g3, .ref g4, .int (nI td2_496)], ai E g1 3 Wb_496, ai E g2 3 Ws_496, ai E g3 3 Wc_496, ai E g4 12 Wt_496, ob 0 k0 [.ref k1], az E k1 96 XA, ob 0 m0 [.ref m1], az E m1 96 YA, ob 2 y0 [.ref y1, .int (nI hn)], ob 4 x0 [.ref tc, .int (nI L9), .int (nI ta9), .int (nI br9), .int (nI lf9), .int (nI pl9), .int (nI vl9)], ai E qq 4 (qfS C), ai E li 24 lf, aj E us 2 (bu (sU C)), aj E c 64 (cc (sN C) 0), aj E d 64 (cc (sN C) 1), ai E w 9 WfB, aj E q 2 (bu (ab (sN C) (sb C r) (ss C r) (fun _ => 0))), aj E al_ 2 (vp_updL AA 0 (((bu (ab (sN C) (sb C r) (ss C r) (fun _ => 0))) 0) &&& ((bs (oth C r k) 0) ^^^ (-1))))]) rfl ?_
                          refine g_aload F 9 dL_same_621 rfl ?_
                          refine g_iconst (v := nI 1) F dL_same_623 (by decide) ?_
                          refine g_aload F 8 dL_same_624 rfl ?_
                          refine g_iconst (v := nI 1) F dL_same_626 (by decide) ?_
                          refine g_jald F 27 dL_same_627 rfl (by omega) (by decide) ?_
                          refine g_lload F 16 dL_same_628 rfl ?_
                          refine g_ldc2 (v := (-1)) F dL_same_630 (by decide +kernel) ?_
                          refine g_lxor F dL_same_633 ?_
                          refine g_land F dL_same_634 ?_
                          refine g_jast F 28 dL_same_635 rfl (by omega) (by decide) (w2 := [ob 8 o [.ref (a 0), .ref (b 0), .ref y0, .ref x0, .ref v0, .ref g0, .ref k0, .ref m0], ob 5 (a 0) [.ref (a 1), .ref (a 2), .ref (a 3), .int (nI (sM C)), .int (nI (sW C))], ob 1 (a 1) [.ref (a 4)], ai E (a 4) 768 (sN C), ob 0 (a 2) [.ref (a 5)], az E (a 5) 96 (sU C), ob 3 (a 3) [.ref (a 6), .ref (a 7), .ref (a 8), .int (nI (sZ C))], ai E (a 6) 8 (sn C), ai E (a 7) 8 (sb C), ai E (a 8) 8 (ss C), ob 7 g0 [.ref g1, .ref g2, .ref g3, .ref g4, .int (nI td2_496)], ai E g1 3 Wb_496, ai E g2 3 Ws_496, ai E g3 3 Wc_496, ai E g4 12 Wt_496, ob 0 k0 [.ref k1], az E k1 96 XA, ob 0 m0 [.ref m1], az E m1 96 YA, ob 2 y0 [.ref y1, .int (nI hn)], ob 4 x0 [.ref tc, .int (nI L9), .int (nI ta9), .int (nI br9), .int (nI lf9), .int (nI pl9), .int (nI vl9)], ai E qq 4 (qfS C), ai E li 24 lf, aj E us 2 (bu (sU C)), aj E c 64 (cc (sN C) 0), aj E d 64 (cc (sN C) 1), ai E w 9 WfB, aj E q 2 (bu (ab (sN C) (sb C r) (ss C r) (fun _ => 0))), aj E al_ 2 (vp_updL (vp_updL AA 0 (((bu (ab (sN C) (sb C r) (ss C r) (fun _ => 0))) 0) &&& ((bs (oth C r k) 0) ^^^ (-1)))) 1 (((bu (ab (sN C) (sb C r) (ss C r) (fun _ => 0))) 1) &&& ((bs (oth C r k) 1) ^^^ (-1))))]) rfl ?_
                          refine g_ajC 28 rfl (bu (fun j => if oth C r (sZ C) j = 0 then own C r j else 0)) (by rw [show k = sZ C by omega]; exact bu_an (own C r) (oth C r (sZ C)) _) (w2 := [ob 8 o [.ref (a 0), .ref (b 0), .ref y0, .ref x0, .ref v0, .ref g0, .ref k0, .ref m0], ob 5 (a 0) [.ref (a 1), .ref (a 2), .ref (a 3), .int (nI (sM C)), .int (nI (sW C))], ob 1 (a 1) [.ref (a 4)], ai E (a 4) 768 (sN C), ob 0 (a 2) [.ref (a 5)], az E (a 5) 96 (sU C), ob 3 (a 3) [.ref (a 6), .ref (a 7), .ref (a 8), .int (nI (sZ C))], ai E (a 6) 8 (sn C), ai E (a 7) 8 (sb C), ai E (a 8) 8 (ss C), ob 7 g0 [.ref g1, .ref g2, .ref g3, .ref g4, .int (nI td2_496)], ai E g1 3 Wb_496, ai E g2 3 Ws_496, ai E g3 3 Wc_496, ai E g4 12 Wt_496, ob 0 k0 [.ref k1], az E k1 96 XA, ob 0 m0 [.ref m1], az E m1 96 YA, ob 2 y0 [.ref y1, .int (nI hn)], ob 4 x0 [.ref tc, .int (nI L9), .int (nI ta9), .int (nI br9), .int (nI lf9), .int (nI pl9), .int (nI vl9)], ai E qq 4 (qfS C), ai E li 24 lf, aj E us 2 (bu (sU C)), aj E c 64 (cc (sN C) 0), aj E d 64 (cc (sN C) 1), ai E w 9 WfB, aj E q 2 (bu (ab (sN C) (sb C r) (ss C r) (fun _ => 0))), aj E al_ 2 (bu (fun j => if oth C r (sZ C) j = 0 then own C r j else 0))]) rfl ?_
                          refine g_iconst (v := nI 0) F dL_same_636 (by decide) ?_
                          refine g_istore (lv2 := [(19, .int (nI 0)), (0, .ref o), (1, .int (x)), (2, .ref qq), (3, .ref li), (4, .ref us), (5, .ref c), (6, .ref d), (7, .ref w), (8, .ref q), (9, .ref al_), (10, .int (nI (cu (sN C) (sU C) 96))), (11, .int (nI r)), (12, .int (nI (lvs C r 0 16))), (13, .int (nI (lvs C r 1 16))), (14, .int (nI (lvs C r 2 16))), (15, .long (bs (oth C r k) 0)), (17, .long (bs (oth C r k) 1))]) F dL_same_637 (by decide) rfl ?_
                          have loop639 : ∀ (n : Nat) (t : Nat) (XE : Nat → Nat) (YE : Nat → Nat), 3 - t < n → (t ≤ 3) → G Γ E (0) (0) 639 [(0, .ref o), (1, .int (x)), (2, .ref qq), (3, .ref li), (4, .ref us), (5, .ref c), (6, .ref d), (7, .ref w), (8, .ref q), (9, .ref al_), (10, .int (nI (cu (sN C) (sU C) 96))), (11, .int (nI r)), (12, .int (nI (lvs C r 0 16))), (13, .int (nI (lvs C r 1 16))), (14, .int (nI (lvs C r 2 16))), (15, .long (bs (oth C r k) 0)), (17, .long (bs (oth C r k) 1)), (19, .int (nI t))] [] [ob 8 o [.ref (a 0), .ref (b 0), .ref y0, .ref x0, .ref v0, .ref g0, .ref k0, .ref m0], ob 5 (a 0) [.ref (a 1), .ref (a 2), .ref (a 3), .int (nI (sM C)), .int (nI (sW C))], ob 1 (a 1) [.ref (a 4)], ai E (a 4) 768 (sN C), ob 0 (a 2) [.ref (a 5)], az E (a 5) 96 (sU C), ob 3 (a 3) [.ref (a 6), .ref (a 7), .ref (a 8), .int (nI (sZ C))], ai E (a 6) 8 (sn C), ai E (a 7) 8 (sb C), ai E (a 8) 8 (ss C), ob 7 g0 [.ref g1, .ref g2, .ref g3, .ref g4, .int (nI td2_496)], ai E g1 3 Wb_496, ai E g2 3 Ws_496, ai E g3 3 Wc_496, ai E g4 12 Wt_496, ob 0 k0 [.ref k1], az E k1 96 XE, ob 0 m0 [.ref m1], az E m1 96 YE, ob 2 y0 [.ref y1, .int (nI hn)], ob 4 x0 [.ref tc, .int (nI L9), .int (nI ta9), .int (nI br9), .int (nI lf9), .int (nI pl9), .int (nI vl9)], ai E qq 4 (qfS C), ai E li 24 lf, aj E us 2 (bu (sU C)), aj E c 64 (cc (sN C) 0), aj E d 64 (cc (sN C) 1), ai E w 9 WfB, aj E q 2 (bu (ab (sN C) (sb C r) (ss C r) (fun _ => 0))), aj E al_ 2 (bu (fun j => if oth C r (sZ C) j = 0 then own C r j else 0))] := by
                            intro n
                            induction n with
                            | zero => intro t XE YE hz; exact absurd hz (Nat.not_lt_zero _)
                            | succ n ih639 =>
                              intro t XE YE hz639 ht
                              refine g_iload F 17 dL_same_639 rfl ?_
                              refine g_iconst (v := nI 3) F dL_same_641 (by decide) ?_
                              refine g_icmp_geN (tgt := 673) F dL_same_642 (by decide) (by omega) (by omega) (fun c642 => ?_) (fun c642 => ?_)
                              · skip
                                refine g_aload_n F 0 dL_same_673 rfl rfl ?_
                                refine g_iload F 11 dL_same_674 rfl ?_
                                refine g_iconst (v := nI 3) F dL_same_676 (by decide) ?_
                                refine g_callViW (n := 2) F [0, 1, 2, 3, 4, 5, 6, 7, 8, 9, 15, 16, 17, 18] (c_X8_rootOf l E o a b y0 x0 v0 g0 k0 m0 k1 XE m1 YE C (nI r) (nI 3) (by exact hI)) dL_same_677 rfl (by decide) rfl rfl rfl (Nat.le_of_ble_eq_true rfl) ⟨Nat.le_of_ble_eq_true rfl, Nat.le_of_ble_eq_true rfl⟩ rfl rfl ⟨Nat.le_of_ble_eq_true rfl, Nat.le_of_ble_eq_true rfl⟩ 0 rfl rfl gL_same_X8_rootOf (by decide +kernel) (fun r u hp => by obtain ⟨_, _, -, rfl⟩ := hp; rfl) ?_
                                rintro r_677 u_677 ⟨X2_677, Y2_677, rfl, rfl⟩
                                refine g_ws (w2 := [ob 8 o [.ref (a 0), .ref (b 0), .ref y0, .ref x0, .ref v0, .ref g0, .ref k0, .ref m0], ob 5 (a 0) [.ref (a 1), .ref (a 2), .ref (a 3), .int (nI (sM C)), .int (nI (sW C))], ob 1 (a 1) [.ref (a 4)], ai E (a 4) 768 (sN C), ob 0 (a 2) [.ref (a 5)], az E (a 5) 96 (sU C), ob 3 (a 3) [.ref (a 6), .ref (a 7), .ref (a 8), .int (nI (sZ C))], ai E (a 6) 8 (sn C), ai E (a 7) 8 (sb C), ai E (a 8) 8 (ss C), ob 7 g0 [.ref g1, .ref g2, .ref g3, .ref g4, .int (nI td2_496)], ai E g1 3 Wb_496, ai E g2 3 Ws_496, ai E g3 3 Wc_496, ai E g4 12 Wt_496, ob 0 k0 [.ref k1], az E k1 96 X2_677, ob 0 m0 [.ref m1], az E m1 96 Y2_677, ob 2 y0 [.ref y1, .int (nI hn)], ob 4 x0 [.ref tc, .int (nI L9), .int (nI ta9), .int (nI br9), .int (nI lf9), .int (nI pl9), .int (nI vl9)], ai E qq 4 (qfS C), ai E li 24 lf, aj E us 2 (bu (sU C)), aj E c 64 (cc (sN C) 0), aj E d 64 (cc (sN C) 1), ai E w 9 WfB, aj E q 2 (bu (ab (sN C) (sb C r) (ss C r) (fun _ => 0))), aj E al_ 2 (bu (fun j => if oth C r (sZ C) j = 0 then own C r j else 0))]) ?_ ?_
                                · exact rpl_eq [10, 11, 12, 13, 14, 19, 20, 21, 22, 23, 24, 25, 26, 27, 28] 29 (by decide) rfl rfl rfl (by decide) (by decide) rfl rfl
                                refine g_top (p_rootOf C (nI r) (nI 3)) (nI (cn (own C r) 96)) (by exact p_rootOf_eq hz8 (by omega) (by omega)) ?_
                                refine g_aload F 8 dL_same_680 rfl ?_
                                refine g_callSiR (n := 1) F [27] (c_L_bits l E q (ab (sN C) (sb C r) (ss C r) (fun _ => 0)) ) dL_same_682 rfl (by decide) rfl rfl rfl (Nat.le_of_ble_eq_true rfl) ⟨Nat.le_of_ble_eq_true rfl, Nat.le_of_ble_eq_true rfl⟩ rfl rfl ⟨Nat.le_of_ble_eq_true rfl, Nat.le_of_ble_eq_true rfl⟩ ggL_same_L_bits (by decide +kernel) (by decide +kernel) (by decide +kernel) (by decide +kernel) (fun r u hp => by obtain ⟨-, h⟩ := hp; exact h) ?_
                                rintro r_682 u_682 ⟨rfl, -⟩
                                refine g_top (nI (cn (ab (sN C) (sb C r) (ss C r) (fun _ => 0)) 96)) (nI (cn (own C r) 96)) (by rfl) ?_
                                refine g_icmp_ne (tgt := 703) F dL_same_685 (by decide) (fun z => absurd rfl z) (fun _ => ?_)
                                refine g_aload_n F 0 dL_same_688 rfl rfl ?_
                                refine g_iload F 11 dL_same_689 rfl ?_
                                refine g_iconst (v := nI 4) F dL_same_691 (by decide) ?_
                                refine g_callViW (n := 2) F [0, 1, 2, 3, 4, 5, 6, 7, 8, 9, 15, 16, 17, 18] (c_X8_rootOf l E o a b y0 x0 v0 g0 k0 m0 k1 X2_677 m1 Y2_677 C (nI r) (nI 4) (by exact hI)) dL_same_692 rfl (by decide) rfl rfl rfl (Nat.le_of_ble_eq_true rfl) ⟨Nat.le_of_ble_eq_true rfl, Nat.le_of_ble_eq_true rfl⟩ rfl rfl ⟨Nat.le_of_ble_eq_true rfl, Nat.le_of_ble_eq_true rfl⟩ 0 rfl rfl gL_same_X8_rootOf (by decide +kernel) (fun r u hp => by obtain ⟨_, _, -, rfl⟩ := hp; rfl) ?_
                                rintro r_692 u_692 ⟨X2_692, Y2_692, rfl, rfl⟩
                                refine g_ws (w2 := [ob 8 o [.ref (a 0), .ref (b 0), .ref y0, .ref x0, .ref v0, .ref g0, .ref k0, .ref m0], ob 5 (a 0) [.ref (a 1), .ref (a 2), .ref (a 3), .int (nI (sM C)), .int (nI (sW C))], ob 1 (a 1) [.ref (a 4)], ai E (a 4) 768 (sN C), ob 0 (a 2) [.ref (a 5)], az E (a 5) 96 (sU C), ob 3 (a 3) [.ref (a 6), .ref (a 7), .ref (a 8), .int (nI (sZ C))], ai E (a 6) 8 (sn C), ai E (a 7) 8 (sb C), ai E (a 8) 8 (ss C), ob 7 g0 [.ref g1, .ref g2, .ref g3, .ref g4, .int (nI td2_496)], ai E g1 3 Wb_496, ai E g2 3 Ws_496, ai E g3 3 Wc_496, ai E g4 12 Wt_496, ob 0 k0 [.ref k1], az E k1 96 X2_692, ob 0 m0 [.ref m1], az E m1 96 Y2_692, ob 2 y0 [.ref y1, .int (nI hn)], ob 4 x0 [.ref tc, .int (nI L9), .int (nI ta9), .int (nI br9), .int (nI lf9), .int (nI pl9), .int (nI vl9)], ai E qq 4 (qfS C), ai E li 24 lf, aj E us 2 (bu (sU C)), aj E c 64 (cc (sN C) 0), aj E d 64 (cc (sN C) 1), ai E w 9 WfB, aj E q 2 (bu (ab (sN C) (sb C r) (ss C r) (fun _ => 0))), aj E al_ 2 (bu (fun j => if oth C r (sZ C) j = 0 then own C r j else 0))]) ?_ ?_
                                · exact rpl_eq [10, 11, 12, 13, 14, 19, 20, 21, 22, 23, 24, 25, 26, 27, 28] 29 (by decide) rfl rfl rfl (by decide) (by decide) rfl rfl
                                refine g_top (p_rootOf C (nI r) (nI 4)) (nI (cw (own C r) (oth C r (sZ C)) 96)) (by exact p_rootOf_eq hz8 (by omega) (by omega)) ?_
                                refine g_aload F 9 dL_same_695 rfl ?_
                                refine g_callSiR (n := 1) F [28] (c_L_bits l E al_ (fun j => if oth C r (sZ C) j = 0 then own C r j else 0) ) dL_same_697 rfl (by decide) rfl rfl rfl (Nat.le_of_ble_eq_true rfl) ⟨Nat.le_of_ble_eq_true rfl, Nat.le_of_ble_eq_true rfl⟩ rfl rfl ⟨Nat.le_of_ble_eq_true rfl, Nat.le_of_ble_eq_true rfl⟩ ggL_same_L_bits (by decide +kernel) (by decide +kernel) (by decide +kernel) (by decide +kernel) (fun r u hp => by obtain ⟨-, h⟩ := hp; exact h) ?_
                                rintro r_697 u_697 ⟨rfl, -⟩
                                refine g_top (nI (cn (fun j => if oth C r (sZ C) j = 0 then own C r j else 0) 96)) (nI (cw (own C r) (oth C r (sZ C)) 96)) (by rw [cw_cn]) ?_
                                refine g_icmp_eq (tgt := 705) F dL_same_700 (by decide) (fun _ => ?_) (fun z => absurd rfl z)
                                refine g_iinc (k := 11) (v := nI (r + 1)) (lv2 := [(11, .int (nI (r + 1))), (0, .ref o), (1, .int (x)), (2, .ref qq), (3, .ref li), (4, .ref us), (5, .ref c), (6, .ref d), (7, .ref w), (8, .ref q), (9, .ref al_), (10, .int (nI (cu (sN C) (sU C) 96))), (12, .int (nI (lvs C r 0 16))), (13, .int (nI (lvs C r 1 16))), (14, .int (nI (lvs C r 2 16))), (15, .long (bs (oth C r k) 0)), (17, .long (bs (oth C r k) 1)), (19, .int (nI t))]) F dL_same_705 rfl (nI_1 _) (by decide) rfl ?_
                                refine g_goto (tgt := 60) F dL_same_708 (by decide) ?_
                                refine g_lv [1, 2, 3, 4, 5, 6, 7, 8, 9, 10, 11, 0] rfl ?_
                                exact ih60 (r + 1) td2_496 Wb_496 Ws_496 Wc_496 Wt_496 X2_692 Y2_692 WfB (bu (ab (sN C) (sb C r) (ss C r) (fun _ => 0))) (bu (fun j => if oth C r (sZ C) j = 0 then own C r j else 0)) (by omega) (by omega)
                              · skip
                                refine g_aload_n F 0 dL_same_645 rfl rfl ?_
                                refine g_iload F 11 dL_same_646 rfl ?_
                                refine g_iload F 17 dL_same_648 rfl ?_
                                refine g_callViW (n := 2) F [0, 1, 2, 3, 4, 5, 6, 7, 8, 9, 15, 16, 17, 18] (c_X8_rootOf l E o a b y0 x0 v0 g0 k0 m0 k1 XE m1 YE C (nI r) (nI t) (by exact hI)) dL_same_650 rfl (by decide) rfl rfl rfl (Nat.le_of_ble_eq_true rfl) ⟨Nat.le_of_ble_eq_true rfl, Nat.le_of_ble_eq_true rfl⟩ rfl rfl ⟨Nat.le_of_ble_eq_true rfl, Nat.le_of_ble_eq_true rfl⟩ 0 rfl rfl gL_same_X8_rootOf (by decide +kernel) (fun r u hp => by obtain ⟨_, _, -, rfl⟩ := hp; rfl) ?_
                                rintro r_650 u_650 ⟨X2_650, Y2_650, rfl, rfl⟩
                                refine g_ws (w2 := [ob 8 o [.ref (a 0), .ref (b 0), .ref y0, .ref x0, .ref v0, .ref g0, .ref k0, .ref m0], ob 5 (a 0) [.ref (a 1), .ref (a 2), .ref (a 3), .int (nI (sM C)), .int (nI (sW C))], ob 1 (a 1) [.ref (a 4)], ai E (a 4) 768 (sN C), ob 0 (a 2) [.ref (a 5)], az E (a 5) 96 (sU C), ob 3 (a 3) [.ref (a 6), .ref (a 7), .ref (a 8), .int (nI (sZ C))], ai E (a 6) 8 (sn C), ai E (a 7) 8 (sb C), ai E (a 8) 8 (ss C), ob 7 g0 [.ref g1, .ref g2, .ref g3, .ref g4, .int (nI td2_496)], ai E g1 3 Wb_496, ai E g2 3 Ws_496, ai E g3 3 Wc_496, ai E g4 12 Wt_496, ob 0 k0 [.ref k1], az E k1 96 X2_650, ob 0 m0 [.ref m1], az E m1 96 Y2_650, ob 2 y0 [.ref y1, .int (nI hn)], ob 4 x0 [.ref tc, .int (nI L9), .int (nI ta9), .int (nI br9), .int (nI lf9), .int (nI pl9), .int (nI vl9)], ai E qq 4 (qfS C), ai E li 24 lf, aj E us 2 (bu (sU C)), aj E c 64 (cc (sN C) 0), aj E d 64 (cc (sN C) 1), ai E w 9 WfB, aj E q 2 (bu (ab (sN C) (sb C r) (ss C r) (fun _ => 0))), aj E al_ 2 (bu (fun j => if oth C r (sZ C) j = 0 then own C r j else 0))]) ?_ ?_
                                · exact rpl_eq [10, 11, 12, 13, 14, 19, 20, 21, 22, 23, 24, 25, 26, 27, 28] 29 (by decide) rfl rfl rfl (by decide) (by decide) rfl rfl
                                refine g_top (p_rootOf C (nI r) (nI t)) (nI (rtv C r t)) (by exact p_rootOf_eq hz8 (by omega) (by omega)) ?_
                                refine g_aload_n F 3 dL_same_653 rfl rfl ?_
                                refine g_iconst (v := nI 3) F dL_same_654 (by decide) ?_
                                refine g_iload F 11 dL_same_655 rfl ?_
                                refine g_imulN F dL_same_657 ?_
                                refine g_iload F 17 dL_same_658 rfl ?_
                                refine g_iaddN F dL_same_660 ?_
                                refine g_iald F 22 dL_same_661 rfl (by omega) (by decide) ?_
                                refine g_top (nI (lf ((3 * r) + t))) (nI (rtv C r t)) (by rw [li_rt hli (by omega) (by omega)]) ?_
                                refine g_icmp_eq (tgt := 667) F dL_same_662 (by decide) (fun _ => ?_) (fun z => absurd rfl z)
                                refine g_iinc (k := 17) (v := nI (t + 1)) (lv2 := [(19, .int (nI (t + 1))), (0, .ref o), (1, .int (x)), (2, .ref qq), (3, .ref li), (4, .ref us), (5, .ref c), (6, .ref d), (7, .ref w), (8, .ref q), (9, .ref al_), (10, .int (nI (cu (sN C) (sU C) 96))), (11, .int (nI r)), (12, .int (nI (lvs C r 0 16))), (13, .int (nI (lvs C r 1 16))), (14, .int (nI (lvs C r 2 16))), (15, .long (bs (oth C r k) 0)), (17, .long (bs (oth C r k) 1))]) F dL_same_667 rfl (nI_1 _) (by decide) rfl ?_
                                refine g_goto (tgt := 639) F dL_same_670 (by decide) ?_
                                refine g_lv [1, 2, 3, 4, 5, 6, 7, 8, 9, 10, 11, 12, 13, 14, 15, 16, 17, 0] rfl ?_
                                exact ih639 (t + 1) X2_650 Y2_650 (by omega) (by omega)
                          refine g_lv [1, 2, 3, 4, 5, 6, 7, 8, 9, 10, 11, 12, 13, 14, 15, 16, 17, 0] rfl ?_
                          exact loop639 ((3 - 0) + 1) 0 XA YA (Nat.lt_succ_self _) (by omega)
                        · skip
                          refine g_iload F 17 dL_same_523 rfl ?_
                          refine g_iload F 11 dL_same_525 rfl ?_
                          refine g_icmp_neN (tgt := 533) F dL_same_527 (by decide) (by omega) (by omega) (fun c527 => ?_) (fun c527 => ?_)
                          · skip
                            refine g_iload F 17 dL_same_533 rfl ?_
                            refine g_aload_n F 3 dL_same_535 rfl rfl ?_
                            refine g_aload F 5 dL_same_536 rfl ?_
                            refine g_aload F 6 dL_same_538 rfl ?_
                            refine g_aload F 8 dL_same_540 rfl ?_
                            refine g_callSvW (n := 5) F [22, 24, 25, 27] (c_L_owned l E li c d (sN C) lf q BD (sb C k) (ss C k) k (by omega) (by exact hI.1) (by exact hZ) (by exact (hli k (by omega)).2.1) (by exact (hli k (by omega)).2.2) (by have := hI.rb (r := k) (by omega); omega) (by have := hI.rs (r := k) (by omega); omega) (by exact hb64 k (by omega))) dL_same_542 rfl (by decide) rfl rfl rfl (Nat.le_of_ble_eq_true rfl) ⟨Nat.le_of_ble_eq_true rfl, Nat.le_of_ble_eq_true rfl⟩ rfl rfl ⟨Nat.le_of_ble_eq_true rfl, Nat.le_of_ble_eq_true rfl⟩ ggL_same_L_owned (by decide +kernel) (by decide +kernel) (by decide +kernel) (by decide +kernel) (fun u hp => by obtain rfl := hp; rfl) ?_
                            rintro u_542 rfl
                            refine g_ws (w2 := [ob 8 o [.ref (a 0), .ref (b 0), .ref y0, .ref x0, .ref v0, .ref g0, .ref k0, .ref m0], ob 5 (a 0) [.ref (a 1), .ref (a 2), .ref (a 3), .int (nI (sM C)), .int (nI (sW C))], ob 1 (a 1) [.ref (a 4)], ai E (a 4) 768 (sN C), ob 0 (a 2) [.ref (a 5)], az E (a 5) 96 (sU C), ob 3 (a 3) [.ref (a 6), .ref (a 7), .ref (a 8), .int (nI (sZ C))], ai E (a 6) 8 (sn C), ai E (a 7) 8 (sb C), ai E (a 8) 8 (ss C), ob 7 g0 [.ref g1, .ref g2, .ref g3, .ref g4, .int (nI td2_496)], ai E g1 3 Wb_496, ai E g2 3 Ws_496, ai E g3 3 Wc_496, ai E g4 12 Wt_496, ob 0 k0 [.ref k1], az E k1 96 XA, ob 0 m0 [.ref m1], az E m1 96 YA, ob 2 y0 [.ref y1, .int (nI hn)], ob 4 x0 [.ref tc, .int (nI L9), .int (nI ta9), .int (nI br9), .int (nI lf9), .int (nI pl9), .int (nI vl9)], ai E qq 4 (qfS C), ai E li 24 lf, aj E us 2 (bu (sU C)), aj E c 64 (cc (sN C) 0), aj E d 64 (cc (sN C) 1), ai E w 9 WfB, aj E q 2 (bu (ab (sN C) (sb C k) (ss C k) (fun _ => 0))), aj E al_ 2 AA]) ?_ ?_
                            · exact rpl_eq [0, 1, 2, 3, 4, 5, 6, 7, 8, 9, 10, 11, 12, 13, 14, 15, 16, 17, 18, 19, 20, 21, 23, 26, 28] 29 (by decide) rfl rfl rfl (by decide) (by decide) rfl rfl
                            refine g_lload F 15 dL_same_545 rfl ?_
                            refine g_aload F 8 dL_same_547 rfl ?_
                            refine g_iconst (v := nI 0) F dL_same_549 (by decide) ?_
                            refine g_jald F 27 dL_same_550 rfl (by omega) (by decide) ?_
                            refine g_lor F dL_same_551 ?_
                            refine g_topJ ((bs (oth C r k) 0) ||| ((bu (ab (sN C) (sb C k) (ss C k) (fun _ => 0))) 0)) (bs (oth C r (k + 1)) 0) (by exact oth_or c527 0) ?_
                            refine g_lstore (lv2 := [(15, .long (bs (oth C r (k + 1)) 0)), (0, .ref o), (1, .int (x)), (2, .ref qq), (3, .ref li), (4, .ref us), (5, .ref c), (6, .ref d), (7, .ref w), (8, .ref q), (9, .ref al_), (10, .int (nI (cu (sN C) (sU C) 96))), (11, .int (nI r)), (12, .int (nI (lvs C r 0 16))), (13, .int (nI (lvs C r 1 16))), (14, .int (nI (lvs C r 2 16))), (17, .long (bs (oth C r k) 1)), (19, .int (nI k))]) F dL_same_552 (by decide) rfl ?_
                            refine g_lload F 16 dL_same_554 rfl ?_
                            refine g_aload F 9 dL_same_556 rfl ?_
                            refine g_iconst (v := nI 1) F dL_same_558 (by decide) ?_
                            refine g_jald F 27 dL_same_559 rfl (by omega) (by decide) ?_
                            refine g_lor F dL_same_560 ?_
                            refine g_topJ ((bs (oth C r k) 1) ||| ((bu (ab (sN C) (sb C k) (ss C k) (fun _ => 0))) 1)) (bs (oth C r (k + 1)) 1) (by exact oth_or c527 1) ?_
                            refine g_lstore (lv2 := [(17, .long (bs (oth C r (k + 1)) 1)), (15, .long (bs (oth C r (k + 1)) 0)), (0, .ref o), (1, .int (x)), (2, .ref qq), (3, .ref li), (4, .ref us), (5, .ref c), (6, .ref d), (7, .ref w), (8, .ref q), (9, .ref al_), (10, .int (nI (cu (sN C) (sU C) 96))), (11, .int (nI r)), (12, .int (nI (lvs C r 0 16))), (13, .int (nI (lvs C r 1 16))), (14, .int (nI (lvs C r 2 16))), (19, .int (nI k))]) F dL_same_561 (by decide) rfl ?_
                            refine g_aload_n F 2 dL_same_563 rfl rfl ?_
                            refine g_iload F 13 dL_same_564 rfl ?_
                            refine g_iload F 17 dL_same_566 rfl ?_
                            refine g_callViR (n := 2) F [0, 1, 2, 3, 4, 5, 6, 7, 8, 9] (c_X8_unlike l E o a b y0 x0 v0 g0 k0 m0 C (nI r) (nI k) (by exact hI)) dL_same_568 rfl (by decide) rfl rfl rfl (Nat.le_of_ble_eq_true rfl) ⟨Nat.le_of_ble_eq_true rfl, Nat.le_of_ble_eq_true rfl⟩ rfl rfl ⟨Nat.le_of_ble_eq_true rfl, Nat.le_of_ble_eq_true rfl⟩ 0 rfl rfl gL_same_X8_unlike (by decide +kernel) (fun r u hp => by obtain ⟨-, h⟩ := hp; exact h) ?_
                            rintro r_568 u_568 ⟨rfl, -⟩
                            refine g_top (p_unlike C (nI r) (nI k)) (ulI (uly (sN C) (sb C r) (ss C r) (sb C k) (ss C k))) (by exact p_unlike_eq hz8 (by omega) (by omega)) ?_
                            refine g_iload F 13 dL_same_571 rfl ?_
                            refine g_iload F 17 dL_same_573 rfl ?_
                            refine g_aload_n F 5 dL_same_575 rfl rfl ?_
                            refine g_aload F 7 dL_same_576 rfl ?_
                            refine g_aload F 8 dL_same_578 rfl ?_
                            refine g_callSiR (n := 5) F [22, 24, 25] (c_L_unlike l E li c d (sN C) lf (sb C r) (ss C r) (sb C k) (ss C k) r k (by omega) (by omega) (by exact hI.1) (by exact hZ) (by exact (hli r (by omega)).2.1) (by exact (hli r (by omega)).2.2) (by exact (hli k (by omega)).2.1) (by exact (hli k (by omega)).2.2) (by have := hI.rb (r := r) (by omega); omega) (by have := hI.rs (r := r) (by omega); omega) (by have := hI.rb (r := k) (by omega); omega) (by have := hI.rs (r := k) (by omega); omega)) dL_same_580 rfl (by decide) rfl rfl rfl (Nat.le_of_ble_eq_true rfl) ⟨Nat.le_of_ble_eq_true rfl, Nat.le_of_ble_eq_true rfl⟩ rfl rfl ⟨Nat.le_of_ble_eq_true rfl, Nat.le_of_ble_eq_true rfl⟩ ggL_same_L_unlike (by decide +kernel) (by decide +kernel) (by decide +kernel) (by decide +kernel) (fun r u hp => by obtain ⟨-, h⟩ := hp; exact h) ?_
                            rintro r_580 u_580 ⟨rfl, -⟩
                            refine g_icmp_eq (tgt := 588) F dL_same_583 (by decide) (fun _ => ?_) (fun z => absurd rfl z)
                            refine g_iinc (k := 17) (v := nI (k + 1)) (lv2 := [(19, .int (nI (k + 1))), (17, .long (bs (oth C r (k + 1)) 1)), (15, .long (bs (oth C r (k + 1)) 0)), (0, .ref o), (1, .int (x)), (2, .ref qq), (3, .ref li), (4, .ref us), (5, .ref c), (6, .ref d), (7, .ref w), (8, .ref q), (9, .ref al_), (10, .int (nI (cu (sN C) (sU C) 96))), (11, .int (nI r)), (12, .int (nI (lvs C r 0 16))), (13, .int (nI (lvs C r 1 16))), (14, .int (nI (lvs C r 2 16)))]) F dL_same_588 rfl (nI_1 _) (by decide) rfl ?_
                            refine g_goto (tgt := 515) F dL_same_591 (by decide) ?_
                            refine g_lv [3, 4, 5, 6, 7, 8, 9, 10, 11, 12, 13, 14, 15, 16, 17, 2, 1, 0] rfl ?_
                            exact ih515 (k + 1) (bu (ab (sN C) (sb C k) (ss C k) (fun _ => 0))) (by omega) (by omega)
                          · skip
                            refine g_goto (tgt := 588) F dL_same_530 (by decide) ?_
                            refine g_iinc (k := 17) (v := nI (k + 1)) (lv2 := [(19, .int (nI (k + 1))), (0, .ref o), (1, .int (x)), (2, .ref qq), (3, .ref li), (4, .ref us), (5, .ref c), (6, .ref d), (7, .ref w), (8, .ref q), (9, .ref al_), (10, .int (nI (cu (sN C) (sU C) 96))), (11, .int (nI r)), (12, .int (nI (lvs C r 0 16))), (13, .int (nI (lvs C r 1 16))), (14, .int (nI (lvs C r 2 16))), (15, .long (bs (oth C r k) 0)), (17, .long (bs (oth C r k) 1))]) F dL_same_588 rfl (nI_1 _) (by decide) rfl ?_
                            refine g_goto (tgt := 515) F dL_same_591 (by decide) ?_
                            refine g_lvC 16 rfl (.long (bs (oth C r (k + 1)) 0)) (by rw [oth_eq c527]) (lv2 := [(19, .int (nI (k + 1))), (0, .ref o), (1, .int (x)), (2, .ref qq), (3, .ref li), (4, .ref us), (5, .ref c), (6, .ref d), (7, .ref w), (8, .ref q), (9, .ref al_), (10, .int (nI (cu (sN C) (sU C) 96))), (11, .int (nI r)), (12, .int (nI (lvs C r 0 16))), (13, .int (nI (lvs C r 1 16))), (14, .int (nI (lvs C r 2 16))), (15, .long (bs (oth C r (k + 1)) 0)), (17, .long (bs (oth C r k) 1))]) rfl ?_
                            refine g_lvC 17 rfl (.long (bs (oth C r (k + 1)) 1)) (by rw [oth_eq c527]) (lv2 := [(19, .int (nI (k + 1))), (0, .ref o), (1, .int (x)), (2, .ref qq), (3, .ref li), (4, .ref us), (5, .ref c), (6, .ref d), (7, .ref w), (8, .ref q), (9, .ref al_), (10, .int (nI (cu (sN C) (sU C) 96))), (11, .int (nI r)), (12, .int (nI (lvs C r 0 16))), (13, .int (nI (lvs C r 1 16))), (14, .int (nI (lvs C r 2 16))), (15, .long (bs (oth C r (k + 1)) 0)), (17, .long (bs (oth C r (k + 1)) 1))]) rfl ?_
                            refine g_lv [1, 2, 3, 4, 5, 6, 7, 8, 9, 10, 11, 12, 13, 14, 15, 16, 17, 0] rfl ?_
                            exact ih515 (k + 1) BD (by omega) (by omega)
                    refine g_lvC 2 rfl (.long (bs (oth C r 0) 0)) (by exact congrArg Value.long (bs_zero 0)) (lv2 := [(19, .int (nI 0)), (17, .long (0)), (15, .long (bs (oth C r 0) 0)), (0, .ref o), (1, .int (x)), (2, .ref qq), (3, .ref li), (4, .ref us), (5, .ref c), (6, .ref d), (7, .ref w), (8, .ref q), (9, .ref al_), (10, .int (nI (cu (sN C) (sU C) 96))), (11, .int (nI r)), (12, .int (nI (lvs C r 0 16))), (13, .int (nI (lvs C r 1 16))), (14, .int (nI (lvs C r 2 16)))]) rfl ?_
                    refine g_lvC 1 rfl (.long (bs (oth C r 0) 1)) (by exact congrArg Value.long (bs_zero 1)) (lv2 := [(19, .int (nI 0)), (17, .long (bs (oth C r 0) 1)), (15, .long (bs (oth C r 0) 0)), (0, .ref o), (1, .int (x)), (2, .ref qq), (3, .ref li), (4, .ref us), (5, .ref c), (6, .ref d), (7, .ref w), (8, .ref q), (9, .ref al_), (10, .int (nI (cu (sN C) (sU C) 96))), (11, .int (nI r)), (12, .int (nI (lvs C r 0 16))), (13, .int (nI (lvs C r 1 16))), (14, .int (nI (lvs C r 2 16)))]) rfl ?_
                    refine g_lv [3, 4, 5, 6, 7, 8, 9, 10, 11, 12, 13, 14, 15, 16, 17, 2, 1, 0] rfl ?_
                    exact loop515 ((sZ C - 0) + 1) 0 BA (Nat.lt_succ_self _) (by exact Nat.zero_le _)
                  · skip
                    refine g_iload F 11 dL_same_87 rfl ?_
                    refine g_iload F 15 dL_same_89 rfl ?_
                    refine g_aload_n F 3 dL_same_91 rfl rfl ?_
                    refine g_aload F 5 dL_same_92 rfl ?_
                    refine g_aload F 6 dL_same_94 rfl ?_
                    refine g_aload F 7 dL_same_96 rfl ?_
                    refine g_callSiW (n := 6) F [22, 24, 25, 26] (c_L_way l E li c d (sN C) lf w WfB (sb C r) (ss C r) r leaf (by omega) (by omega) (by exact hI.1) (by exact hZ) (by exact (hli r (by omega)).2.1) (by exact (hli r (by omega)).2.2) (by have := hI.rb (r := r) (by omega); omega) (by have := hI.rs (r := r) (by omega); omega)) dL_same_98 rfl (by decide) rfl rfl rfl (Nat.le_of_ble_eq_true rfl) ⟨Nat.le_of_ble_eq_true rfl, Nat.le_of_ble_eq_true rfl⟩ rfl rfl ⟨Nat.le_of_ble_eq_true rfl, Nat.le_of_ble_eq_true rfl⟩ ggL_same_L_way (by decide +kernel) (by decide +kernel) (by decide +kernel) (by decide +kernel) (fun r u hp => by obtain ⟨_, -, -, rfl⟩ := hp; rfl) ?_
                    rintro r_98 u_98 ⟨W2_98, hW_98, rfl, rfl⟩
                    refine g_ws (w2 := [ob 8 o [.ref (a 0), .ref (b 0), .ref y0, .ref x0, .ref v0, .ref g0, .ref k0, .ref m0], ob 5 (a 0) [.ref (a 1), .ref (a 2), .ref (a 3), .int (nI (sM C)), .int (nI (sW C))], ob 1 (a 1) [.ref (a 4)], ai E (a 4) 768 (sN C), ob 0 (a 2) [.ref (a 5)], az E (a 5) 96 (sU C), ob 3 (a 3) [.ref (a 6), .ref (a 7), .ref (a 8), .int (nI (sZ C))], ai E (a 6) 8 (sn C), ai E (a 7) 8 (sb C), ai E (a 8) 8 (ss C), ob 7 g0 [.ref g1, .ref g2, .ref g3, .ref g4, .int (nI tdB)], ai E g1 3 ebB, ai E g2 3 esB, ai E g3 3 ecB, ai E g4 12 etB, ob 0 k0 [.ref k1], az E k1 96 XA, ob 0 m0 [.ref m1], az E m1 96 YA, ob 2 y0 [.ref y1, .int (nI hn)], ob 4 x0 [.ref tc, .int (nI L9), .int (nI ta9), .int (nI br9), .int (nI lf9), .int (nI pl9), .int (nI vl9)], ai E qq 4 (qfS C), ai E li 24 lf, aj E us 2 (bu (sU C)), aj E c 64 (cc (sN C) 0), aj E d 64 (cc (sN C) 1), ai E w 9 W2_98, aj E q 2 BA, aj E al_ 2 AA]) ?_ ?_
                    · exact rpl_eq [0, 1, 2, 3, 4, 5, 6, 7, 8, 9, 10, 11, 12, 13, 14, 15, 16, 17, 18, 19, 20, 21, 23, 27, 28] 29 (by decide) rfl rfl rfl (by decide) (by decide) rfl rfl
                    refine g_istore (lv2 := [(16, .int (nI (gl (sN C) (sb C r) (ss C r) leaf))), (0, .ref o), (1, .int (x)), (2, .ref qq), (3, .ref li), (4, .ref us), (5, .ref c), (6, .ref d), (7, .ref w), (8, .ref q), (9, .ref al_), (10, .int (nI (cu (sN C) (sU C) 96))), (11, .int (nI r)), (12, .int (nI z1)), (13, .int (nI z2)), (14, .int (nI z3)), (15, .int (nI leaf))]) F dL_same_101 (by decide) rfl ?_
                    have hg3 := gl_le (sN C) (sb C r) (ss C r) leaf
                    refine g_iload F 13 dL_same_103 rfl ?_
                    refine g_iload F 0 dL_same_105 rfl ?_
                    refine g_iconst (v := nI 3) F dL_same_107 (by decide) ?_
                    have kj119 : G Γ E (0) (0) 119 [(16, .int (nI (gl (sN C) (sb C r) (ss C r) leaf))), (0, .ref o), (1, .int (x)), (2, .ref qq), (3, .ref li), (4, .ref us), (5, .ref c), (6, .ref d), (7, .ref w), (8, .ref q), (9, .ref al_), (10, .int (nI (cu (sN C) (sU C) 96))), (11, .int (nI r)), (12, .int (nI z1)), (13, .int (nI z2)), (14, .int (nI z3)), (15, .int (nI leaf))] [.int (nI (lfb C r 0 leaf)), .int (nI z1)] [ob 8 o [.ref (a 0), .ref (b 0), .ref y0, .ref x0, .ref v0, .ref g0, .ref k0, .ref m0], ob 5 (a 0) [.ref (a 1), .ref (a 2), .ref (a 3), .int (nI (sM C)), .int (nI (sW C))], ob 1 (a 1) [.ref (a 4)], ai E (a 4) 768 (sN C), ob 0 (a 2) [.ref (a 5)], az E (a 5) 96 (sU C), ob 3 (a 3) [.ref (a 6), .ref (a 7), .ref (a 8), .int (nI (sZ C))], ai E (a 6) 8 (sn C), ai E (a 7) 8 (sb C), ai E (a 8) 8 (ss C), ob 7 g0 [.ref g1, .ref g2, .ref g3, .ref g4, .int (nI tdB)], ai E g1 3 ebB, ai E g2 3 esB, ai E g3 3 ecB, ai E g4 12 etB, ob 0 k0 [.ref k1], az E k1 96 XA, ob 0 m0 [.ref m1], az E m1 96 YA, ob 2 y0 [.ref y1, .int (nI hn)], ob 4 x0 [.ref tc, .int (nI L9), .int (nI ta9), .int (nI br9), .int (nI lf9), .int (nI pl9), .int (nI vl9)], ai E qq 4 (qfS C), ai E li 24 lf, aj E us 2 (bu (sU C)), aj E c 64 (cc (sN C) 0), aj E d 64 (cc (sN C) 1), ai E w 9 W2_98, aj E q 2 BA, aj E al_ 2 AA] := by
                      refine g_ior F dL_same_119 ?_
                      refine g_top ((nI z1) ||| (nI (lfb C r 0 leaf))) (nI (z1 ||| lfb C r 0 leaf)) (by rw [nI_or]) ?_
                      refine g_istore (lv2 := [(12, .int (nI (z1 ||| lfb C r 0 leaf))), (16, .int (nI (gl (sN C) (sb C r) (ss C r) leaf))), (0, .ref o), (1, .int (x)), (2, .ref qq), (3, .ref li), (4, .ref us), (5, .ref c), (6, .ref d), (7, .ref w), (8, .ref q), (9, .ref al_), (10, .int (nI (cu (sN C) (sU C) 96))), (11, .int (nI r)), (13, .int (nI z2)), (14, .int (nI z3)), (15, .int (nI leaf))]) F dL_same_120 (by decide) rfl ?_
                      refine g_iconst (v := nI 0) F dL_same_122 (by decide) ?_
                      refine g_istore (lv2 := [(17, .int (nI 0)), (12, .int (nI (z1 ||| lfb C r 0 leaf))), (16, .int (nI (gl (sN C) (sb C r) (ss C r) leaf))), (0, .ref o), (1, .int (x)), (2, .ref qq), (3, .ref li), (4, .ref us), (5, .ref c), (6, .ref d), (7, .ref w), (8, .ref q), (9, .ref al_), (10, .int (nI (cu (sN C) (sU C) 96))), (11, .int (nI r)), (13, .int (nI z2)), (14, .int (nI z3)), (15, .int (nI leaf))]) F dL_same_123 (by decide) rfl ?_
                      refine g_iconst (v := nI 0) F dL_same_125 (by decide) ?_
                      refine g_istore (lv2 := [(18, .int (nI 0)), (17, .int (nI 0)), (12, .int (nI (z1 ||| lfb C r 0 leaf))), (16, .int (nI (gl (sN C) (sb C r) (ss C r) leaf))), (0, .ref o), (1, .int (x)), (2, .ref qq), (3, .ref li), (4, .ref us), (5, .ref c), (6, .ref d), (7, .ref w), (8, .ref q), (9, .ref al_), (10, .int (nI (cu (sN C) (sU C) 96))), (11, .int (nI r)), (13, .int (nI z2)), (14, .int (nI z3)), (15, .int (nI leaf))]) F dL_same_126 (by decide) rfl ?_
                      refine g_iconst (v := nI 0) F dL_same_128 (by decide) ?_
                      refine g_istore (lv2 := [(19, .int (nI 0)), (18, .int (nI 0)), (17, .int (nI 0)), (12, .int (nI (z1 ||| lfb C r 0 leaf))), (16, .int (nI (gl (sN C) (sb C r) (ss C r) leaf))), (0, .ref o), (1, .int (x)), (2, .ref qq), (3, .ref li), (4, .ref us), (5, .ref c), (6, .ref d), (7, .ref w), (8, .ref q), (9, .ref al_), (10, .int (nI (cu (sN C) (sU C) 96))), (11, .int (nI r)), (13, .int (nI z2)), (14, .int (nI z3)), (15, .int (nI leaf))]) F dL_same_129 (by decide) rfl ?_
                      have loop131 : ∀ (n : Nat) (v : Nat) (i1 : Nat) (i2 : Nat), 4 - v < n → (v ≤ gl (sN C) (sb C r) (ss C r) leaf) → (i1 ≤ 1) → (i2 ≤ 1) → (i1 = 0 ↔ ∀ u : Nat, u < v → al (sN C) (wb (sN C) (sb C r) (ss C r) leaf u)) → (i2 = 0 ↔ ∀ u : Nat, u < v → ¬ wd (sN C) (sb C r) (ss C r) leaf u = 1) → G Γ E (0) (0) 131 [(0, .ref o), (1, .int (x)), (2, .ref qq), (3, .ref li), (4, .ref us), (5, .ref c), (6, .ref d), (7, .ref w), (8, .ref q), (9, .ref al_), (10, .int (nI (cu (sN C) (sU C) 96))), (11, .int (nI r)), (12, .int (nI (z1 ||| lfb C r 0 leaf))), (13, .int (nI z2)), (14, .int (nI z3)), (15, .int (nI leaf)), (16, .int (nI (gl (sN C) (sb C r) (ss C r) leaf))), (17, .int (nI i1)), (18, .int (nI i2)), (19, .int (nI v))] [] [ob 8 o [.ref (a 0), .ref (b 0), .ref y0, .ref x0, .ref v0, .ref g0, .ref k0, .ref m0], ob 5 (a 0) [.ref (a 1), .ref (a 2), .ref (a 3), .int (nI (sM C)), .int (nI (sW C))], ob 1 (a 1) [.ref (a 4)], ai E (a 4) 768 (sN C), ob 0 (a 2) [.ref (a 5)], az E (a 5) 96 (sU C), ob 3 (a 3) [.ref (a 6), .ref (a 7), .ref (a 8), .int (nI (sZ C))], ai E (a 6) 8 (sn C), ai E (a 7) 8 (sb C), ai E (a 8) 8 (ss C), ob 7 g0 [.ref g1, .ref g2, .ref g3, .ref g4, .int (nI tdB)], ai E g1 3 ebB, ai E g2 3 esB, ai E g3 3 ecB, ai E g4 12 etB, ob 0 k0 [.ref k1], az E k1 96 XA, ob 0 m0 [.ref m1], az E m1 96 YA, ob 2 y0 [.ref y1, .int (nI hn)], ob 4 x0 [.ref tc, .int (nI L9), .int (nI ta9), .int (nI br9), .int (nI lf9), .int (nI pl9), .int (nI vl9)], ai E qq 4 (qfS C), ai E li 24 lf, aj E us 2 (bu (sU C)), aj E c 64 (cc (sN C) 0), aj E d 64 (cc (sN C) 1), ai E w 9 W2_98, aj E q 2 BA, aj E al_ 2 AA] := by
                        intro n
                        induction n with
                        | zero => intro v i1 i2 hz; exact absurd hz (Nat.not_lt_zero _)
                        | succ n ih131 =>
                          intro v i1 i2 hz131 hv hi1 hi2 e1 e2
                          refine g_iload F 19 dL_same_131 rfl ?_
                          refine g_iload F 16 dL_same_133 rfl ?_
                          refine g_icmp_geN (tgt := 210) F dL_same_135 (by decide) (by omega) (by omega) (fun c135 => ?_) (fun c135 => ?_)
                          · skip
                            refine g_iload F 13 dL_same_210 rfl ?_
                            refine g_iload F 16 dL_same_212 rfl ?_
                            refine g_iconst (v := nI 3) F dL_same_214 (by decide) ?_
                            have kj231 : G Γ E (0) (0) 231 [(0, .ref o), (1, .int (x)), (2, .ref qq), (3, .ref li), (4, .ref us), (5, .ref c), (6, .ref d), (7, .ref w), (8, .ref q), (9, .ref al_), (10, .int (nI (cu (sN C) (sU C) 96))), (11, .int (nI r)), (12, .int (nI (z1 ||| lfb C r 0 leaf))), (13, .int (nI z2)), (14, .int (nI z3)), (15, .int (nI leaf)), (16, .int (nI (gl (sN C) (sb C r) (ss C r) leaf))), (17, .int (nI i1)), (18, .int (nI i2)), (19, .int (nI v))] [.int (nI (lfb C r 1 leaf)), .int (nI z2)] [ob 8 o [.ref (a 0), .ref (b 0), .ref y0, .ref x0, .ref v0, .ref g0, .ref k0, .ref m0], ob 5 (a 0) [.ref (a 1), .ref (a 2), .ref (a 3), .int (nI (sM C)), .int (nI (sW C))], ob 1 (a 1) [.ref (a 4)], ai E (a 4) 768 (sN C), ob 0 (a 2) [.ref (a 5)], az E (a 5) 96 (sU C), ob 3 (a 3) [.ref (a 6), .ref (a 7), .ref (a 8), .int (nI (sZ C))], ai E (a 6) 8 (sn C), ai E (a 7) 8 (sb C), ai E (a 8) 8 (ss C), ob 7 g0 [.ref g1, .ref g2, .ref g3, .ref g4, .int (nI tdB)], ai E g1 3 ebB, ai E g2 3 esB, ai E g3 3 ecB, ai E g4 12 etB, ob 0 k0 [.ref k1], az E k1 96 XA, ob 0 m0 [.ref m1], az E m1 96 YA, ob 2 y0 [.ref y1, .int (nI hn)], ob 4 x0 [.ref tc, .int (nI L9), .int (nI ta9), .int (nI br9), .int (nI lf9), .int (nI pl9), .int (nI vl9)], ai E qq 4 (qfS C), ai E li 24 lf, aj E us 2 (bu (sU C)), aj E c 64 (cc (sN C) 0), aj E d 64 (cc (sN C) 1), ai E w 9 W2_98, aj E q 2 BA, aj E al_ 2 AA] := by
                              refine g_ior F dL_same_231 ?_
                              refine g_top ((nI z2) ||| (nI (lfb C r 1 leaf))) (nI (z2 ||| lfb C r 1 leaf)) (by rw [nI_or]) ?_
                              refine g_istore (lv2 := [(13, .int (nI (z2 ||| lfb C r 1 leaf))), (0, .ref o), (1, .int (x)), (2, .ref qq), (3, .ref li), (4, .ref us), (5, .ref c), (6, .ref d), (7, .ref w), (8, .ref q), (9, .ref al_), (10, .int (nI (cu (sN C) (sU C) 96))), (11, .int (nI r)), (12, .int (nI (z1 ||| lfb C r 0 leaf))), (14, .int (nI z3)), (15, .int (nI leaf)), (16, .int (nI (gl (sN C) (sb C r) (ss C r) leaf))), (17, .int (nI i1)), (18, .int (nI i2)), (19, .int (nI v))]) F dL_same_232 (by decide) rfl ?_
                              refine g_iload F 14 dL_same_234 rfl ?_
                              refine g_iload F 16 dL_same_236 rfl ?_
                              refine g_iconst (v := nI 3) F dL_same_238 (by decide) ?_
                              have kj255 : G Γ E (0) (0) 255 [(13, .int (nI (z2 ||| lfb C r 1 leaf))), (0, .ref o), (1, .int (x)), (2, .ref qq), (3, .ref li), (4, .ref us), (5, .ref c), (6, .ref d), (7, .ref w), (8, .ref q), (9, .ref al_), (10, .int (nI (cu (sN C) (sU C) 96))), (11, .int (nI r)), (12, .int (nI (z1 ||| lfb C r 0 leaf))), (14, .int (nI z3)), (15, .int (nI leaf)), (16, .int (nI (gl (sN C) (sb C r) (ss C r) leaf))), (17, .int (nI i1)), (18, .int (nI i2)), (19, .int (nI v))] [.int (nI (lfb C r 2 leaf)), .int (nI z3)] [ob 8 o [.ref (a 0), .ref (b 0), .ref y0, .ref x0, .ref v0, .ref g0, .ref k0, .ref m0], ob 5 (a 0) [.ref (a 1), .ref (a 2), .ref (a 3), .int (nI (sM C)), .int (nI (sW C))], ob 1 (a 1) [.ref (a 4)], ai E (a 4) 768 (sN C), ob 0 (a 2) [.ref (a 5)], az E (a 5) 96 (sU C), ob 3 (a 3) [.ref (a 6), .ref (a 7), .ref (a 8), .int (nI (sZ C))], ai E (a 6) 8 (sn C), ai E (a 7) 8 (sb C), ai E (a 8) 8 (ss C), ob 7 g0 [.ref g1, .ref g2, .ref g3, .ref g4, .int (nI tdB)], ai E g1 3 ebB, ai E g2 3 esB, ai E g3 3 ecB, ai E g4 12 etB, ob 0 k0 [.ref k1], az E k1 96 XA, ob 0 m0 [.ref m1], az E m1 96 YA, ob 2 y0 [.ref y1, .int (nI hn)], ob 4 x0 [.ref tc, .int (nI L9), .int (nI ta9), .int (nI br9), .int (nI lf9), .int (nI pl9), .int (nI vl9)], ai E qq 4 (qfS C), ai E li 24 lf, aj E us 2 (bu (sU C)), aj E c 64 (cc (sN C) 0), aj E d 64 (cc (sN C) 1), ai E w 9 W2_98, aj E q 2 BA, aj E al_ 2 AA] := by
                                refine g_ior F dL_same_255 ?_
                                refine g_top ((nI z3) ||| (nI (lfb C r 2 leaf))) (nI (z3 ||| lfb C r 2 leaf)) (by rw [nI_or]) ?_
                                refine g_istore (lv2 := [(14, .int (nI (z3 ||| lfb C r 2 leaf))), (13, .int (nI (z2 ||| lfb C r 1 leaf))), (0, .ref o), (1, .int (x)), (2, .ref qq), (3, .ref li), (4, .ref us), (5, .ref c), (6, .ref d), (7, .ref w), (8, .ref q), (9, .ref al_), (10, .int (nI (cu (sN C) (sU C) 96))), (11, .int (nI r)), (12, .int (nI (z1 ||| lfb C r 0 leaf))), (15, .int (nI leaf)), (16, .int (nI (gl (sN C) (sb C r) (ss C r) leaf))), (17, .int (nI i1)), (18, .int (nI i2)), (19, .int (nI v))]) F dL_same_256 (by decide) rfl ?_
                                have hlw := lwv_lt x (show 0 < 4 by decide)
                                refine g_iload F 15 dL_same_258 rfl ?_
                                refine g_iconst (v := nI 4) F dL_same_260 (by decide) ?_
                                refine g_iremN F dL_same_261 (by omega) (by decide) (by decide) ?_
                                refine g_iload_n F 3 dL_same_262 rfl rfl ?_
                                refine g_iconst (v := nI 4) F dL_same_263 (by decide) ?_
                                refine g_callSiR (n := 2) F [] (c_L_low l E x 4 (by omega) (by omega)) dL_same_264 rfl (by decide) rfl rfl rfl (Nat.le_of_ble_eq_true rfl) ⟨Nat.le_of_ble_eq_true rfl, Nat.le_of_ble_eq_true rfl⟩ rfl rfl ⟨Nat.le_of_ble_eq_true rfl, Nat.le_of_ble_eq_true rfl⟩ ggL_same_L_low (by decide +kernel) (by decide +kernel) (by decide +kernel) (by decide +kernel) (fun r u hp => by obtain ⟨-, h⟩ := hp; exact h) ?_
                                rintro r_264 u_264 ⟨rfl, -⟩
                                have kj280 : G Γ E (0) (0) 280 [(14, .int (nI (z3 ||| lfb C r 2 leaf))), (13, .int (nI (z2 ||| lfb C r 1 leaf))), (0, .ref o), (1, .int (x)), (2, .ref qq), (3, .ref li), (4, .ref us), (5, .ref c), (6, .ref d), (7, .ref w), (8, .ref q), (9, .ref al_), (10, .int (nI (cu (sN C) (sU C) 96))), (11, .int (nI r)), (12, .int (nI (z1 ||| lfb C r 0 leaf))), (15, .int (nI leaf)), (16, .int (nI (gl (sN C) (sb C r) (ss C r) leaf))), (17, .int (nI i1)), (18, .int (nI i2)), (19, .int (nI v))] [] [ob 8 o [.ref (a 0), .ref (b 0), .ref y0, .ref x0, .ref v0, .ref g0, .ref k0, .ref m0], ob 5 (a 0) [.ref (a 1), .ref (a 2), .ref (a 3), .int (nI (sM C)), .int (nI (sW C))], ob 1 (a 1) [.ref (a 4)], ai E (a 4) 768 (sN C), ob 0 (a 2) [.ref (a 5)], az E (a 5) 96 (sU C), ob 3 (a 3) [.ref (a 6), .ref (a 7), .ref (a 8), .int (nI (sZ C))], ai E (a 6) 8 (sn C), ai E (a 7) 8 (sb C), ai E (a 8) 8 (ss C), ob 7 g0 [.ref g1, .ref g2, .ref g3, .ref g4, .int (nI tdB)], ai E g1 3 ebB, ai E g2 3 esB, ai E g3 3 ecB, ai E g4 12 etB, ob 0 k0 [.ref k1], az E k1 96 XA, ob 0 m0 [.ref m1], az E m1 96 YA, ob 2 y0 [.ref y1, .int (nI hn)], ob 4 x0 [.ref tc, .int (nI L9), .int (nI ta9), .int (nI br9), .int (nI lf9), .int (nI pl9), .int (nI vl9)], ai E qq 4 (qfS C), ai E li 24 lf, aj E us 2 (bu (sU C)), aj E c 64 (cc (sN C) 0), aj E d 64 (cc (sN C) 1), ai E w 9 W2_98, aj E q 2 BA, aj E al_ 2 AA] := by
                                  refine g_iconst (v := nI 0) F dL_same_280 (by decide) ?_
                                  refine g_istore (lv2 := [(19, .int (nI 0)), (14, .int (nI (z3 ||| lfb C r 2 leaf))), (13, .int (nI (z2 ||| lfb C r 1 leaf))), (0, .ref o), (1, .int (x)), (2, .ref qq), (3, .ref li), (4, .ref us), (5, .ref c), (6, .ref d), (7, .ref w), (8, .ref q), (9, .ref al_), (10, .int (nI (cu (sN C) (sU C) 96))), (11, .int (nI r)), (12, .int (nI (z1 ||| lfb C r 0 leaf))), (15, .int (nI leaf)), (16, .int (nI (gl (sN C) (sb C r) (ss C r) leaf))), (17, .int (nI i1)), (18, .int (nI i2))]) F dL_same_281 (by decide) rfl ?_
                                  have loop283 : ∀ (n : Nat) (p : Nat) (tdC9 : Nat) (ebC9 : Nat → Nat) (esC9 : Nat → Nat) (ecC9 : Nat → Nat) (etC9 : Nat → Nat), 4 - p < n → (p ≤ 4) → G Γ E (0) (0) 283 [(0, .ref o), (1, .int (x)), (2, .ref qq), (3, .ref li), (4, .ref us), (5, .ref c), (6, .ref d), (7, .ref w), (8, .ref q), (9, .ref al_), (10, .int (nI (cu (sN C) (sU C) 96))), (11, .int (nI r)), (12, .int (nI (z1 ||| lfb C r 0 leaf))), (13, .int (nI (z2 ||| lfb C r 1 leaf))), (14, .int (nI (z3 ||| lfb C r 2 leaf))), (15, .int (nI leaf)), (16, .int (nI (gl (sN C) (sb C r) (ss C r) leaf))), (19, .int (nI p))] [] [ob 8 o [.ref (a 0), .ref (b 0), .ref y0, .ref x0, .ref v0, .ref g0, .ref k0, .ref m0], ob 5 (a 0) [.ref (a 1), .ref (a 2), .ref (a 3), .int (nI (sM C)), .int (nI (sW C))], ob 1 (a 1) [.ref (a 4)], ai E (a 4) 768 (sN C), ob 0 (a 2) [.ref (a 5)], az E (a 5) 96 (sU C), ob 3 (a 3) [.ref (a 6), .ref (a 7), .ref (a 8), .int (nI (sZ C))], ai E (a 6) 8 (sn C), ai E (a 7) 8 (sb C), ai E (a 8) 8 (ss C), ob 7 g0 [.ref g1, .ref g2, .ref g3, .ref g4, .int (nI tdC9)], ai E g1 3 ebC9, ai E g2 3 esC9, ai E g3 3 ecC9, ai E g4 12 etC9, ob 0 k0 [.ref k1], az E k1 96 XA, ob 0 m0 [.ref m1], az E m1 96 YA, ob 2 y0 [.ref y1, .int (nI hn)], ob 4 x0 [.ref tc, .int (nI L9), .int (nI ta9), .int (nI br9), .int (nI lf9), .int (nI pl9), .int (nI vl9)], ai E qq 4 (qfS C), ai E li 24 lf, aj E us 2 (bu (sU C)), aj E c 64 (cc (sN C) 0), aj E d 64 (cc (sN C) 1), ai E w 9 W2_98, aj E q 2 BA, aj E al_ 2 AA] := by
                                    intro n
                                    induction n with
                                    | zero => intro p tdC9 ebC9 esC9 ecC9 etC9 hz; exact absurd hz (Nat.not_lt_zero _)
                                    | succ n ih283 =>
                                      intro p tdC9 ebC9 esC9 ecC9 etC9 hz283 hp
                                      refine g_iload F 17 dL_same_283 rfl ?_
                                      refine g_iconst (v := nI 4) F dL_same_285 (by decide) ?_
                                      refine g_icmp_geN (tgt := 348) F dL_same_286 (by decide) (by omega) (by omega) (fun c286 => ?_) (fun c286 => ?_)
                                      · skip
                                        refine g_iconst (v := nI 0) F dL_same_348 (by decide) ?_
                                        refine g_istore (lv2 := [(19, .int (nI 0)), (0, .ref o), (1, .int (x)), (2, .ref qq), (3, .ref li), (4, .ref us), (5, .ref c), (6, .ref d), (7, .ref w), (8, .ref q), (9, .ref al_), (10, .int (nI (cu (sN C) (sU C) 96))), (11, .int (nI r)), (12, .int (nI (z1 ||| lfb C r 0 leaf))), (13, .int (nI (z2 ||| lfb C r 1 leaf))), (14, .int (nI (z3 ||| lfb C r 2 leaf))), (15, .int (nI leaf)), (16, .int (nI (gl (sN C) (sb C r) (ss C r) leaf)))]) F dL_same_349 (by decide) rfl ?_
                                        have loop351 : ∀ (n : Nat) (t : Nat) (tdD : Nat) (ebD : Nat → Nat) (esD : Nat → Nat) (ecD : Nat → Nat) (etD : Nat → Nat), 3 - t < n → (t ≤ 3) → G Γ E (0) (0) 351 [(0, .ref o), (1, .int (x)), (2, .ref qq), (3, .ref li), (4, .ref us), (5, .ref c), (6, .ref d), (7, .ref w), (8, .ref q), (9, .ref al_), (10, .int (nI (cu (sN C) (sU C) 96))), (11, .int (nI r)), (12, .int (nI (z1 ||| lfb C r 0 leaf))), (13, .int (nI (z2 ||| lfb C r 1 leaf))), (14, .int (nI (z3 ||| lfb C r 2 leaf))), (15, .int (nI leaf)), (16, .int (nI (gl (sN C) (sb C r) (ss C r) leaf))), (19, .int (nI t))] [] [ob 8 o [.ref (a 0), .ref (b 0), .ref y0, .ref x0, .ref v0, .ref g0, .ref k0, .ref m0], ob 5 (a 0) [.ref (a 1), .ref (a 2), .ref (a 3), .int (nI (sM C)), .int (nI (sW C))], ob 1 (a 1) [.ref (a 4)], ai E (a 4) 768 (sN C), ob 0 (a 2) [.ref (a 5)], az E (a 5) 96 (sU C), ob 3 (a 3) [.ref (a 6), .ref (a 7), .ref (a 8), .int (nI (sZ C))], ai E (a 6) 8 (sn C), ai E (a 7) 8 (sb C), ai E (a 8) 8 (ss C), ob 7 g0 [.ref g1, .ref g2, .ref g3, .ref g4, .int (nI tdD)], ai E g1 3 ebD, ai E g2 3 esD, ai E g3 3 ecD, ai E g4 12 etD, ob 0 k0 [.ref k1], az E k1 96 XA, ob 0 m0 [.ref m1], az E m1 96 YA, ob 2 y0 [.ref y1, .int (nI hn)], ob 4 x0 [.ref tc, .int (nI L9), .int (nI ta9), .int (nI br9), .int (nI lf9), .int (nI pl9), .int (nI vl9)], ai E qq 4 (qfS C), ai E li 24 lf, aj E us 2 (bu (sU C)), aj E c 64 (cc (sN C) 0), aj E d 64 (cc (sN C) 1), ai E w 9 W2_98, aj E q 2 BA, aj E al_ 2 AA] := by
                                          intro n
                                          induction n with
                                          | zero => intro t tdD ebD esD ecD etD hz; exact absurd hz (Nat.not_lt_zero _)
                                          | succ n ih351 =>
                                            intro t tdD ebD esD ecD etD hz351 ht
                                            refine g_iload F 17 dL_same_351 rfl ?_
                                            refine g_iconst (v := nI 3) F dL_same_353 (by decide) ?_
                                            refine g_icmp_geN (tgt := 462) F dL_same_354 (by decide) (by omega) (by omega) (fun c354 => ?_) (fun c354 => ?_)
                                            · skip
                                              refine g_iinc (k := 15) (v := nI (leaf + 1)) (lv2 := [(15, .int (nI (leaf + 1))), (0, .ref o), (1, .int (x)), (2, .ref qq), (3, .ref li), (4, .ref us), (5, .ref c), (6, .ref d), (7, .ref w), (8, .ref q), (9, .ref al_), (10, .int (nI (cu (sN C) (sU C) 96))), (11, .int (nI r)), (12, .int (nI (z1 ||| lfb C r 0 leaf))), (13, .int (nI (z2 ||| lfb C r 1 leaf))), (14, .int (nI (z3 ||| lfb C r 2 leaf))), (16, .int (nI (gl (sN C) (sb C r) (ss C r) leaf))), (19, .int (nI t))]) F dL_same_462 rfl (nI_1 _) (by decide) rfl ?_
                                              refine g_goto (tgt := 80) F dL_same_465 (by decide) ?_
                                              refine g_lv [1, 2, 3, 4, 5, 6, 7, 8, 9, 10, 11, 12, 13, 14, 15, 0] rfl ?_
                                              exact ih80 (leaf + 1) (z1 ||| lfb C r 0 leaf) (z2 ||| lfb C r 1 leaf) (z3 ||| lfb C r 2 leaf) tdD ebD esD ecD etD W2_98 (by omega) (by omega) (by rw [lvs_s, hz1]) (by rw [lvs_s, hz2]) (by rw [lvs_s, hz3])
                                            · skip
                                              refine g_aload_n F 0 dL_same_357 rfl rfl ?_
                                              refine g_iload F 11 dL_same_358 rfl ?_
                                              refine g_iload F 15 dL_same_360 rfl ?_
                                              refine g_iload F 17 dL_same_362 rfl ?_
                                              refine g_callViW (n := 3) F [0, 1, 2, 3, 4, 5, 6, 7, 8, 9, 10, 11, 12, 13, 14] (c_X8_from l E o a b y0 x0 v0 g0 k0 m0 g1 g2 g3 g4 tdD ebD esD ecD etD C (nI r) (nI leaf) (nI t) (by exact hI)) dL_same_364 rfl (by decide) rfl rfl rfl (Nat.le_of_ble_eq_true rfl) ⟨Nat.le_of_ble_eq_true rfl, Nat.le_of_ble_eq_true rfl⟩ rfl rfl ⟨Nat.le_of_ble_eq_true rfl, Nat.le_of_ble_eq_true rfl⟩ 0 rfl rfl gL_same_X8_from (by decide +kernel) (fun r u hp => by obtain ⟨_, _, _, _, _, -, rfl⟩ := hp; rfl) ?_
                                              rintro r_364 u_364 ⟨td2_364, Wb_364, Ws_364, Wc_364, Wt_364, rfl, rfl⟩
                                              refine g_ws (w2 := [ob 8 o [.ref (a 0), .ref (b 0), .ref y0, .ref x0, .ref v0, .ref g0, .ref k0, .ref m0], ob 5 (a 0) [.ref (a 1), .ref (a 2), .ref (a 3), .int (nI (sM C)), .int (nI (sW C))], ob 1 (a 1) [.ref (a 4)], ai E (a 4) 768 (sN C), ob 0 (a 2) [.ref (a 5)], az E (a 5) 96 (sU C), ob 3 (a 3) [.ref (a 6), .ref (a 7), .ref (a 8), .int (nI (sZ C))], ai E (a 6) 8 (sn C), ai E (a 7) 8 (sb C), ai E (a 8) 8 (ss C), ob 7 g0 [.ref g1, .ref g2, .ref g3, .ref g4, .int (nI td2_364)], ai E g1 3 Wb_364, ai E g2 3 Ws_364, ai E g3 3 Wc_364, ai E g4 12 Wt_364, ob 0 k0 [.ref k1], az E k1 96 XA, ob 0 m0 [.ref m1], az E m1 96 YA, ob 2 y0 [.ref y1, .int (nI hn)], ob 4 x0 [.ref tc, .int (nI L9), .int (nI ta9), .int (nI br9), .int (nI lf9), .int (nI pl9), .int (nI vl9)], ai E qq 4 (qfS C), ai E li 24 lf, aj E us 2 (bu (sU C)), aj E c 64 (cc (sN C) 0), aj E d 64 (cc (sN C) 1), ai E w 9 W2_98, aj E q 2 BA, aj E al_ 2 AA]) ?_ ?_
                                              · exact rpl_eq [15, 16, 17, 18, 19, 20, 21, 22, 23, 24, 25, 26, 27, 28] 29 (by decide) rfl rfl rfl (by decide) (by decide) rfl rfl
                                              refine g_top (p_from C (nI r) (nI leaf) (nI t)) (frv C r leaf t) (by exact p_from_eq hz8 (by omega) (by omega) (by omega)) ?_
                                              refine g_iload F 17 dL_same_367 rfl ?_
                                              refine g_iload F 16 dL_same_369 rfl ?_
                                              have kj387 : G Γ E (0) (0) 387 [(0, .ref o), (1, .int (x)), (2, .ref qq), (3, .ref li), (4, .ref us), (5, .ref c), (6, .ref d), (7, .ref w), (8, .ref q), (9, .ref al_), (10, .int (nI (cu (sN C) (sU C) 96))), (11, .int (nI r)), (12, .int (nI (z1 ||| lfb C r 0 leaf))), (13, .int (nI (z2 ||| lfb C r 1 leaf))), (14, .int (nI (z3 ||| lfb C r 2 leaf))), (15, .int (nI leaf)), (16, .int (nI (gl (sN C) (sb C r) (ss C r) leaf))), (19, .int (nI t))] [.int (frv C r leaf t), .int (frv C r leaf t)] [ob 8 o [.ref (a 0), .ref (b 0), .ref y0, .ref x0, .ref v0, .ref g0, .ref k0, .ref m0], ob 5 (a 0) [.ref (a 1), .ref (a 2), .ref (a 3), .int (nI (sM C)), .int (nI (sW C))], ob 1 (a 1) [.ref (a 4)], ai E (a 4) 768 (sN C), ob 0 (a 2) [.ref (a 5)], az E (a 5) 96 (sU C), ob 3 (a 3) [.ref (a 6), .ref (a 7), .ref (a 8), .int (nI (sZ C))], ai E (a 6) 8 (sn C), ai E (a 7) 8 (sb C), ai E (a 8) 8 (ss C), ob 7 g0 [.ref g1, .ref g2, .ref g3, .ref g4, .int (nI td2_364)], ai E g1 3 Wb_364, ai E g2 3 Ws_364, ai E g3 3 Wc_364, ai E g4 12 Wt_364, ob 0 k0 [.ref k1], az E k1 96 XA, ob 0 m0 [.ref m1], az E m1 96 YA, ob 2 y0 [.ref y1, .int (nI hn)], ob 4 x0 [.ref tc, .int (nI L9), .int (nI ta9), .int (nI br9), .int (nI lf9), .int (nI pl9), .int (nI vl9)], ai E qq 4 (qfS C), ai E li 24 lf, aj E us 2 (bu (sU C)), aj E c 64 (cc (sN C) 0), aj E d 64 (cc (sN C) 1), ai E w 9 W2_98, aj E q 2 BA, aj E al_ 2 AA] := by
                                                refine g_icmp_ne (tgt := 454) F dL_same_387 (by decide) (fun z => absurd rfl z) (fun _ => ?_)
                                                refine g_aload_n F 0 dL_same_390 rfl rfl ?_
                                                refine g_iload F 11 dL_same_391 rfl ?_
                                                refine g_iload F 15 dL_same_393 rfl ?_
                                                refine g_iload F 17 dL_same_395 rfl ?_
                                                refine g_iconst (v := nI 0) F dL_same_397 (by decide) ?_
                                                refine g_callViW (n := 4) F [0, 1, 2, 3, 4, 5, 6, 7, 8, 9, 10, 11, 12, 13, 14] (c_X8_way l E o a b y0 x0 v0 g0 k0 m0 g1 g2 g3 g4 td2_364 Wb_364 Ws_364 Wc_364 Wt_364 C (nI r) (nI leaf) (nI t) (nI 0) (by exact hI)) dL_same_398 rfl (by decide) rfl rfl rfl (Nat.le_of_ble_eq_true rfl) ⟨Nat.le_of_ble_eq_true rfl, Nat.le_of_ble_eq_true rfl⟩ rfl rfl ⟨Nat.le_of_ble_eq_true rfl, Nat.le_of_ble_eq_true rfl⟩ 0 rfl rfl gL_same_X8_way (by decide +kernel) (fun r u hp => by obtain ⟨_, _, _, _, _, -, rfl⟩ := hp; rfl) ?_
                                                rintro r_398 u_398 ⟨td2_398, Wb_398, Ws_398, Wc_398, Wt_398, rfl, rfl⟩
                                                refine g_ws (w2 := [ob 8 o [.ref (a 0), .ref (b 0), .ref y0, .ref x0, .ref v0, .ref g0, .ref k0, .ref m0], ob 5 (a 0) [.ref (a 1), .ref (a 2), .ref (a 3), .int (nI (sM C)), .int (nI (sW C))], ob 1 (a 1) [.ref (a 4)], ai E (a 4) 768 (sN C), ob 0 (a 2) [.ref (a 5)], az E (a 5) 96 (sU C), ob 3 (a 3) [.ref (a 6), .ref (a 7), .ref (a 8), .int (nI (sZ C))], ai E (a 6) 8 (sn C), ai E (a 7) 8 (sb C), ai E (a 8) 8 (ss C), ob 7 g0 [.ref g1, .ref g2, .ref g3, .ref g4, .int (nI td2_398)], ai E g1 3 Wb_398, ai E g2 3 Ws_398, ai E g3 3 Wc_398, ai E g4 12 Wt_398, ob 0 k0 [.ref k1], az E k1 96 XA, ob 0 m0 [.ref m1], az E m1 96 YA, ob 2 y0 [.ref y1, .int (nI hn)], ob 4 x0 [.ref tc, .int (nI L9), .int (nI ta9), .int (nI br9), .int (nI lf9), .int (nI pl9), .int (nI vl9)], ai E qq 4 (qfS C), ai E li 24 lf, aj E us 2 (bu (sU C)), aj E c 64 (cc (sN C) 0), aj E d 64 (cc (sN C) 1), ai E w 9 W2_98, aj E q 2 BA, aj E al_ 2 AA]) ?_ ?_
                                                · exact rpl_eq [15, 16, 17, 18, 19, 20, 21, 22, 23, 24, 25, 26, 27, 28] 29 (by decide) rfl rfl rfl (by decide) (by decide) rfl rfl
                                                refine g_top (p_way C (nI r) (nI leaf) (nI t) (nI 0)) (wy0 C r leaf t) (by exact p_way0_eq hz8 (by omega) (by omega) (by omega)) ?_
                                                refine g_iload F 17 dL_same_401 rfl ?_
                                                refine g_iload F 16 dL_same_403 rfl ?_
                                                have kj418 : G Γ E (0) (0) 418 [(0, .ref o), (1, .int (x)), (2, .ref qq), (3, .ref li), (4, .ref us), (5, .ref c), (6, .ref d), (7, .ref w), (8, .ref q), (9, .ref al_), (10, .int (nI (cu (sN C) (sU C) 96))), (11, .int (nI r)), (12, .int (nI (z1 ||| lfb C r 0 leaf))), (13, .int (nI (z2 ||| lfb C r 1 leaf))), (14, .int (nI (z3 ||| lfb C r 2 leaf))), (15, .int (nI leaf)), (16, .int (nI (gl (sN C) (sb C r) (ss C r) leaf))), (19, .int (nI t))] [.int (wy0 C r leaf t), .int (wy0 C r leaf t)] [ob 8 o [.ref (a 0), .ref (b 0), .ref y0, .ref x0, .ref v0, .ref g0, .ref k0, .ref m0], ob 5 (a 0) [.ref (a 1), .ref (a 2), .ref (a 3), .int (nI (sM C)), .int (nI (sW C))], ob 1 (a 1) [.ref (a 4)], ai E (a 4) 768 (sN C), ob 0 (a 2) [.ref (a 5)], az E (a 5) 96 (sU C), ob 3 (a 3) [.ref (a 6), .ref (a 7), .ref (a 8), .int (nI (sZ C))], ai E (a 6) 8 (sn C), ai E (a 7) 8 (sb C), ai E (a 8) 8 (ss C), ob 7 g0 [.ref g1, .ref g2, .ref g3, .ref g4, .int (nI td2_398)], ai E g1 3 Wb_398, ai E g2 3 Ws_398, ai E g3 3 Wc_398, ai E g4 12 Wt_398, ob 0 k0 [.ref k1], az E k1 96 XA, ob 0 m0 [.ref m1], az E m1 96 YA, ob 2 y0 [.ref y1, .int (nI hn)], ob 4 x0 [.ref tc, .int (nI L9), .int (nI ta9), .int (nI br9), .int (nI lf9), .int (nI pl9), .int (nI vl9)], ai E qq 4 (qfS C), ai E li 24 lf, aj E us 2 (bu (sU C)), aj E c 64 (cc (sN C) 0), aj E d 64 (cc (sN C) 1), ai E w 9 W2_98, aj E q 2 BA, aj E al_ 2 AA] := by
                                                  refine g_icmp_ne (tgt := 454) F dL_same_418 (by decide) (fun z => absurd rfl z) (fun _ => ?_)
                                                  refine g_aload_n F 0 dL_same_421 rfl rfl ?_
                                                  refine g_iload F 11 dL_same_422 rfl ?_
                                                  refine g_iload F 15 dL_same_424 rfl ?_
                                                  refine g_iload F 17 dL_same_426 rfl ?_
                                                  refine g_iconst (v := nI 1) F dL_same_428 (by decide) ?_
                                                  refine g_callViW (n := 4) F [0, 1, 2, 3, 4, 5, 6, 7, 8, 9, 10, 11, 12, 13, 14] (c_X8_way l E o a b y0 x0 v0 g0 k0 m0 g1 g2 g3 g4 td2_398 Wb_398 Ws_398 Wc_398 Wt_398 C (nI r) (nI leaf) (nI t) (nI 1) (by exact hI)) dL_same_429 rfl (by decide) rfl rfl rfl (Nat.le_of_ble_eq_true rfl) ⟨Nat.le_of_ble_eq_true rfl, Nat.le_of_ble_eq_true rfl⟩ rfl rfl ⟨Nat.le_of_ble_eq_true rfl, Nat.le_of_ble_eq_true rfl⟩ 0 rfl rfl gL_same_X8_way (by decide +kernel) (fun r u hp => by obtain ⟨_, _, _, _, _, -, rfl⟩ := hp; rfl) ?_
                                                  rintro r_429 u_429 ⟨td2_429, Wb_429, Ws_429, Wc_429, Wt_429, rfl, rfl⟩
                                                  refine g_ws (w2 := [ob 8 o [.ref (a 0), .ref (b 0), .ref y0, .ref x0, .ref v0, .ref g0, .ref k0, .ref m0], ob 5 (a 0) [.ref (a 1), .ref (a 2), .ref (a 3), .int (nI (sM C)), .int (nI (sW C))], ob 1 (a 1) [.ref (a 4)], ai E (a 4) 768 (sN C), ob 0 (a 2) [.ref (a 5)], az E (a 5) 96 (sU C), ob 3 (a 3) [.ref (a 6), .ref (a 7), .ref (a 8), .int (nI (sZ C))], ai E (a 6) 8 (sn C), ai E (a 7) 8 (sb C), ai E (a 8) 8 (ss C), ob 7 g0 [.ref g1, .ref g2, .ref g3, .ref g4, .int (nI td2_429)], ai E g1 3 Wb_429, ai E g2 3 Ws_429, ai E g3 3 Wc_429, ai E g4 12 Wt_429, ob 0 k0 [.ref k1], az E k1 96 XA, ob 0 m0 [.ref m1], az E m1 96 YA, ob 2 y0 [.ref y1, .int (nI hn)], ob 4 x0 [.ref tc, .int (nI L9), .int (nI ta9), .int (nI br9), .int (nI lf9), .int (nI pl9), .int (nI vl9)], ai E qq 4 (qfS C), ai E li 24 lf, aj E us 2 (bu (sU C)), aj E c 64 (cc (sN C) 0), aj E d 64 (cc (sN C) 1), ai E w 9 W2_98, aj E q 2 BA, aj E al_ 2 AA]) ?_ ?_
                                                  · exact rpl_eq [15, 16, 17, 18, 19, 20, 21, 22, 23, 24, 25, 26, 27, 28] 29 (by decide) rfl rfl rfl (by decide) (by decide) rfl rfl
                                                  refine g_top (p_way C (nI r) (nI leaf) (nI t) (nI 1)) (wy1 C r leaf t) (by exact p_way1_eq hz8 (by omega) (by omega) (by omega)) ?_
                                                  refine g_iload F 17 dL_same_432 rfl ?_
                                                  refine g_iload F 16 dL_same_434 rfl ?_
                                                  have kj451 : G Γ E (0) (0) 451 [(0, .ref o), (1, .int (x)), (2, .ref qq), (3, .ref li), (4, .ref us), (5, .ref c), (6, .ref d), (7, .ref w), (8, .ref q), (9, .ref al_), (10, .int (nI (cu (sN C) (sU C) 96))), (11, .int (nI r)), (12, .int (nI (z1 ||| lfb C r 0 leaf))), (13, .int (nI (z2 ||| lfb C r 1 leaf))), (14, .int (nI (z3 ||| lfb C r 2 leaf))), (15, .int (nI leaf)), (16, .int (nI (gl (sN C) (sb C r) (ss C r) leaf))), (19, .int (nI t))] [.int (wy1 C r leaf t), .int (wy1 C r leaf t)] [ob 8 o [.ref (a 0), .ref (b 0), .ref y0, .ref x0, .ref v0, .ref g0, .ref k0, .ref m0], ob 5 (a 0) [.ref (a 1), .ref (a 2), .ref (a 3), .int (nI (sM C)), .int (nI (sW C))], ob 1 (a 1) [.ref (a 4)], ai E (a 4) 768 (sN C), ob 0 (a 2) [.ref (a 5)], az E (a 5) 96 (sU C), ob 3 (a 3) [.ref (a 6), .ref (a 7), .ref (a 8), .int (nI (sZ C))], ai E (a 6) 8 (sn C), ai E (a 7) 8 (sb C), ai E (a 8) 8 (ss C), ob 7 g0 [.ref g1, .ref g2, .ref g3, .ref g4, .int (nI td2_429)], ai E g1 3 Wb_429, ai E g2 3 Ws_429, ai E g3 3 Wc_429, ai E g4 12 Wt_429, ob 0 k0 [.ref k1], az E k1 96 XA, ob 0 m0 [.ref m1], az E m1 96 YA, ob 2 y0 [.ref y1, .int (nI hn)], ob 4 x0 [.ref tc, .int (nI L9), .int (nI ta9), .int (nI br9), .int (nI lf9), .int (nI pl9), .int (nI vl9)], ai E qq 4 (qfS C), ai E li 24 lf, aj E us 2 (bu (sU C)), aj E c 64 (cc (sN C) 0), aj E d 64 (cc (sN C) 1), ai E w 9 W2_98, aj E q 2 BA, aj E al_ 2 AA] := by
                                                    refine g_icmp_eq (tgt := 456) F dL_same_451 (by decide) (fun _ => ?_) (fun z => absurd rfl z)
                                                    refine g_iinc (k := 17) (v := nI (t + 1)) (lv2 := [(19, .int (nI (t + 1))), (0, .ref o), (1, .int (x)), (2, .ref qq), (3, .ref li), (4, .ref us), (5, .ref c), (6, .ref d), (7, .ref w), (8, .ref q), (9, .ref al_), (10, .int (nI (cu (sN C) (sU C) 96))), (11, .int (nI r)), (12, .int (nI (z1 ||| lfb C r 0 leaf))), (13, .int (nI (z2 ||| lfb C r 1 leaf))), (14, .int (nI (z3 ||| lfb C r 2 leaf))), (15, .int (nI leaf)), (16, .int (nI (gl (sN C) (sb C r) (ss C r) leaf)))]) F dL_same_456 rfl (nI_1 _) (by decide) rfl ?_
                                                    refine g_goto (tgt := 351) F dL_same_459 (by decide) ?_
                                                    refine g_lv [1, 2, 3, 4, 5, 6, 7, 8, 9, 10, 11, 12, 13, 14, 15, 16, 17, 0] rfl ?_
                                                    exact ih351 (t + 1) td2_429 Wb_429 Ws_429 Wc_429 Wt_429 (by omega) (by omega)
                                                  refine g_icmp_leN (tgt := 444) F dL_same_436 (by decide) (by omega) (by omega) (fun c436 => ?_) (fun c436 => ?_)
                                                  · skip
                                                    refine g_aload F 7 dL_same_444 rfl ?_
                                                    refine g_iconst (v := nI 3) F dL_same_446 (by decide) ?_
                                                    refine g_iload F 17 dL_same_447 rfl ?_
                                                    refine g_iaddN F dL_same_449 ?_
                                                    refine g_iald F 26 dL_same_450 rfl (by omega) (by decide) ?_
                                                    refine g_top (nI (W2_98 (3 + t))) (wy1 C r leaf t) (by unfold wy1; rw [if_pos (by omega), (hW_98 t (by omega) (by omega)).2.1]) ?_
                                                    exact kj451
                                                  · skip
                                                    refine g_ldc (v := (-1000004)) F dL_same_439 (by decide +kernel) ?_
                                                    refine g_goto (tgt := 451) F dL_same_441 (by decide) ?_
                                                    refine g_top ((-1000004)) (wy1 C r leaf t) (by unfold wy1; rw [if_neg (by omega)]) ?_
                                                    exact kj451
                                                refine g_icmp_leN (tgt := 413) F dL_same_405 (by decide) (by omega) (by omega) (fun c405 => ?_) (fun c405 => ?_)
                                                · skip
                                                  refine g_aload F 7 dL_same_413 rfl ?_
                                                  refine g_iload F 17 dL_same_415 rfl ?_
                                                  refine g_iald F 26 dL_same_417 rfl (by omega) (by decide) ?_
                                                  refine g_top (nI (W2_98 t)) (wy0 C r leaf t) (by unfold wy0; rw [if_pos (by omega), (hW_98 t (by omega) (by omega)).1]) ?_
                                                  exact kj418
                                                · skip
                                                  refine g_ldc (v := (-1000004)) F dL_same_408 (by decide +kernel) ?_
                                                  refine g_goto (tgt := 418) F dL_same_410 (by decide) ?_
                                                  refine g_top ((-1000004)) (wy0 C r leaf t) (by unfold wy0; rw [if_neg (by omega)]) ?_
                                                  exact kj418
                                              refine g_icmp_leN (tgt := 379) F dL_same_371 (by decide) (by omega) (by omega) (fun c371 => ?_) (fun c371 => ?_)
                                              · skip
                                                refine g_aload F 7 dL_same_379 rfl ?_
                                                refine g_bipush (v := nI 6) F dL_same_381 (by decide) ?_
                                                refine g_iload F 17 dL_same_383 rfl ?_
                                                refine g_iaddN F dL_same_385 ?_
                                                refine g_iald F 26 dL_same_386 rfl (by omega) (by decide) ?_
                                                refine g_top (nI (W2_98 (6 + t))) (frv C r leaf t) (by unfold frv; rw [if_pos (by omega), (hW_98 t (by omega) (by omega)).2.2]) ?_
                                                exact kj387
                                              · skip
                                                refine g_ldc (v := (-1000004)) F dL_same_374 (by decide +kernel) ?_
                                                refine g_goto (tgt := 387) F dL_same_376 (by decide) ?_
                                                refine g_top ((-1000004)) (frv C r leaf t) (by unfold frv; rw [if_neg (by omega)]) ?_
                                                exact kj387
                                        refine g_lv [1, 2, 3, 4, 5, 6, 7, 8, 9, 10, 11, 12, 13, 14, 15, 16, 17, 0] rfl ?_
                                        exact loop351 ((3 - 0) + 1) 0 tdC9 ebC9 esC9 ecC9 etC9 (Nat.lt_succ_self _) (by omega)
                                      · skip
                                        refine g_aload_n F 0 dL_same_289 rfl rfl ?_
                                        refine g_iload F 11 dL_same_290 rfl ?_
                                        refine g_iload F 15 dL_same_292 rfl ?_
                                        refine g_iload F 17 dL_same_294 rfl ?_
                                        refine g_callViW (n := 3) F [0, 1, 2, 3, 4, 5, 6, 7, 8, 9, 10, 11, 12, 13, 14] (c_X8_read l E o a b y0 x0 v0 g0 k0 m0 g1 g2 g3 g4 tdC9 ebC9 esC9 ecC9 etC9 C (nI r) (nI leaf) (nI p) (by exact hI)) dL_same_296 rfl (by decide) rfl rfl rfl (Nat.le_of_ble_eq_true rfl) ⟨Nat.le_of_ble_eq_true rfl, Nat.le_of_ble_eq_true rfl⟩ rfl rfl ⟨Nat.le_of_ble_eq_true rfl, Nat.le_of_ble_eq_true rfl⟩ 0 rfl rfl gL_same_X8_read (by decide +kernel) (fun r u hp => by obtain ⟨_, _, _, _, _, -, rfl⟩ := hp; rfl) ?_
                                        rintro r_296 u_296 ⟨td2_296, Wb_296, Ws_296, Wc_296, Wt_296, rfl, rfl⟩
                                        refine g_ws (w2 := [ob 8 o [.ref (a 0), .ref (b 0), .ref y0, .ref x0, .ref v0, .ref g0, .ref k0, .ref m0], ob 5 (a 0) [.ref (a 1), .ref (a 2), .ref (a 3), .int (nI (sM C)), .int (nI (sW C))], ob 1 (a 1) [.ref (a 4)], ai E (a 4) 768 (sN C), ob 0 (a 2) [.ref (a 5)], az E (a 5) 96 (sU C), ob 3 (a 3) [.ref (a 6), .ref (a 7), .ref (a 8), .int (nI (sZ C))], ai E (a 6) 8 (sn C), ai E (a 7) 8 (sb C), ai E (a 8) 8 (ss C), ob 7 g0 [.ref g1, .ref g2, .ref g3, .ref g4, .int (nI td2_296)], ai E g1 3 Wb_296, ai E g2 3 Ws_296, ai E g3 3 Wc_296, ai E g4 12 Wt_296, ob 0 k0 [.ref k1], az E k1 96 XA, ob 0 m0 [.ref m1], az E m1 96 YA, ob 2 y0 [.ref y1, .int (nI hn)], ob 4 x0 [.ref tc, .int (nI L9), .int (nI ta9), .int (nI br9), .int (nI lf9), .int (nI pl9), .int (nI vl9)], ai E qq 4 (qfS C), ai E li 24 lf, aj E us 2 (bu (sU C)), aj E c 64 (cc (sN C) 0), aj E d 64 (cc (sN C) 1), ai E w 9 W2_98, aj E q 2 BA, aj E al_ 2 AA]) ?_ ?_
                                        · exact rpl_eq [15, 16, 17, 18, 19, 20, 21, 22, 23, 24, 25, 26, 27, 28] 29 (by decide) rfl rfl rfl (by decide) (by decide) rfl rfl
                                        refine g_top (p_read C (nI r) (nI leaf) (nI p)) (rdv C r leaf p) (by exact p_read_eq hz8 (by omega) (by omega) (by omega)) ?_
                                        refine g_iload F 16 dL_same_299 rfl ?_
                                        refine g_iconst (v := nI 3) F dL_same_301 (by decide) ?_
                                        have kj337 : G Γ E (0) (0) 337 [(0, .ref o), (1, .int (x)), (2, .ref qq), (3, .ref li), (4, .ref us), (5, .ref c), (6, .ref d), (7, .ref w), (8, .ref q), (9, .ref al_), (10, .int (nI (cu (sN C) (sU C) 96))), (11, .int (nI r)), (12, .int (nI (z1 ||| lfb C r 0 leaf))), (13, .int (nI (z2 ||| lfb C r 1 leaf))), (14, .int (nI (z3 ||| lfb C r 2 leaf))), (15, .int (nI leaf)), (16, .int (nI (gl (sN C) (sb C r) (ss C r) leaf))), (19, .int (nI p))] [.int (rdv C r leaf p), .int (rdv C r leaf p)] [ob 8 o [.ref (a 0), .ref (b 0), .ref y0, .ref x0, .ref v0, .ref g0, .ref k0, .ref m0], ob 5 (a 0) [.ref (a 1), .ref (a 2), .ref (a 3), .int (nI (sM C)), .int (nI (sW C))], ob 1 (a 1) [.ref (a 4)], ai E (a 4) 768 (sN C), ob 0 (a 2) [.ref (a 5)], az E (a 5) 96 (sU C), ob 3 (a 3) [.ref (a 6), .ref (a 7), .ref (a 8), .int (nI (sZ C))], ai E (a 6) 8 (sn C), ai E (a 7) 8 (sb C), ai E (a 8) 8 (ss C), ob 7 g0 [.ref g1, .ref g2, .ref g3, .ref g4, .int (nI td2_296)], ai E g1 3 Wb_296, ai E g2 3 Ws_296, ai E g3 3 Wc_296, ai E g4 12 Wt_296, ob 0 k0 [.ref k1], az E k1 96 XA, ob 0 m0 [.ref m1], az E m1 96 YA, ob 2 y0 [.ref y1, .int (nI hn)], ob 4 x0 [.ref tc, .int (nI L9), .int (nI ta9), .int (nI br9), .int (nI lf9), .int (nI pl9), .int (nI vl9)], ai E qq 4 (qfS C), ai E li 24 lf, aj E us 2 (bu (sU C)), aj E c 64 (cc (sN C) 0), aj E d 64 (cc (sN C) 1), ai E w 9 W2_98, aj E q 2 BA, aj E al_ 2 AA] := by
                                          refine g_icmp_eq (tgt := 342) F dL_same_337 (by decide) (fun _ => ?_) (fun z => absurd rfl z)
                                          refine g_iinc (k := 17) (v := nI (p + 1)) (lv2 := [(19, .int (nI (p + 1))), (0, .ref o), (1, .int (x)), (2, .ref qq), (3, .ref li), (4, .ref us), (5, .ref c), (6, .ref d), (7, .ref w), (8, .ref q), (9, .ref al_), (10, .int (nI (cu (sN C) (sU C) 96))), (11, .int (nI r)), (12, .int (nI (z1 ||| lfb C r 0 leaf))), (13, .int (nI (z2 ||| lfb C r 1 leaf))), (14, .int (nI (z3 ||| lfb C r 2 leaf))), (15, .int (nI leaf)), (16, .int (nI (gl (sN C) (sb C r) (ss C r) leaf)))]) F dL_same_342 rfl (nI_1 _) (by decide) rfl ?_
                                          refine g_goto (tgt := 283) F dL_same_345 (by decide) ?_
                                          refine g_lv [1, 2, 3, 4, 5, 6, 7, 8, 9, 10, 11, 12, 13, 14, 15, 16, 17, 0] rfl ?_
                                          exact ih283 (p + 1) td2_296 Wb_296 Ws_296 Wc_296 Wt_296 (by omega) (by omega)
                                        refine g_icmp_geN (tgt := 310) F dL_same_302 (by decide) (by omega) (by omega) (fun c302 => ?_) (fun c302 => ?_)
                                        · skip
                                          have hg9 : gl (sN C) (sb C r) (ss C r) leaf = 3 := by omega
                                          have hw2 := hW_98 2 (by omega) (by omega)
                                          have hd2 : wd (sN C) (sb C r) (ss C r) leaf 2 < 2 := gl_lt (by omega)
                                          have hb2 : wb (sN C) (sb C r) (ss C r) leaf 2 < 96 := wb_in (by omega)
                                          refine g_aload F 7 dL_same_310 rfl ?_
                                          refine g_iconst (v := nI 2) F dL_same_312 (by decide) ?_
                                          refine g_iald F 26 dL_same_313 rfl (by omega) (by decide) ?_
                                          refine g_top (nI (W2_98 2)) (nI (wb (sN C) (sb C r) (ss C r) leaf 2)) (by rw [hw2.1]) ?_
                                          refine g_aload F 7 dL_same_314 rfl ?_
                                          refine g_bipush (v := nI 8) F dL_same_316 (by decide) ?_
                                          refine g_iald F 26 dL_same_318 rfl (by omega) (by decide) ?_
                                          have kj332 : G Γ E (0) (0) 332 [(0, .ref o), (1, .int (x)), (2, .ref qq), (3, .ref li), (4, .ref us), (5, .ref c), (6, .ref d), (7, .ref w), (8, .ref q), (9, .ref al_), (10, .int (nI (cu (sN C) (sU C) 96))), (11, .int (nI r)), (12, .int (nI (z1 ||| lfb C r 0 leaf))), (13, .int (nI (z2 ||| lfb C r 1 leaf))), (14, .int (nI (z3 ||| lfb C r 2 leaf))), (15, .int (nI leaf)), (16, .int (nI (gl (sN C) (sb C r) (ss C r) leaf))), (19, .int (nI p))] [.long (pkN (ccf (sN C) (wd (sN C) (sb C r) (ss C r) leaf 2) (wb (sN C) (sb C r) (ss C r) leaf 2))), .int (rdv C r leaf p)] [ob 8 o [.ref (a 0), .ref (b 0), .ref y0, .ref x0, .ref v0, .ref g0, .ref k0, .ref m0], ob 5 (a 0) [.ref (a 1), .ref (a 2), .ref (a 3), .int (nI (sM C)), .int (nI (sW C))], ob 1 (a 1) [.ref (a 4)], ai E (a 4) 768 (sN C), ob 0 (a 2) [.ref (a 5)], az E (a 5) 96 (sU C), ob 3 (a 3) [.ref (a 6), .ref (a 7), .ref (a 8), .int (nI (sZ C))], ai E (a 6) 8 (sn C), ai E (a 7) 8 (sb C), ai E (a 8) 8 (ss C), ob 7 g0 [.ref g1, .ref g2, .ref g3, .ref g4, .int (nI td2_296)], ai E g1 3 Wb_296, ai E g2 3 Ws_296, ai E g3 3 Wc_296, ai E g4 12 Wt_296, ob 0 k0 [.ref k1], az E k1 96 XA, ob 0 m0 [.ref m1], az E m1 96 YA, ob 2 y0 [.ref y1, .int (nI hn)], ob 4 x0 [.ref tc, .int (nI L9), .int (nI ta9), .int (nI br9), .int (nI lf9), .int (nI pl9), .int (nI vl9)], ai E qq 4 (qfS C), ai E li 24 lf, aj E us 2 (bu (sU C)), aj E c 64 (cc (sN C) 0), aj E d 64 (cc (sN C) 1), ai E w 9 W2_98, aj E q 2 BA, aj E al_ 2 AA] := by
                                            refine g_iload F 17 dL_same_332 rfl ?_
                                            refine g_callSiR (n := 2) F [] (c_L_number l E (ccf (sN C) (wd (sN C) (sb C r) (ss C r) leaf 2) (wb (sN C) (sb C r) (ss C r) leaf 2)) p (by exact ccf_lt hI.1 _ _) (by omega)) dL_same_334 rfl (by decide) rfl rfl rfl (Nat.le_of_ble_eq_true rfl) ⟨Nat.le_of_ble_eq_true rfl, Nat.le_of_ble_eq_true rfl⟩ rfl rfl ⟨Nat.le_of_ble_eq_true rfl, Nat.le_of_ble_eq_true rfl⟩ ggL_same_L_number (by decide +kernel) (by decide +kernel) (by decide +kernel) (by decide +kernel) (fun r u hp => by obtain ⟨-, h⟩ := hp; exact h) ?_
                                            rintro r_334 u_334 ⟨rfl, -⟩
                                            refine g_top (nI ((ccf (sN C) (wd (sN C) (sb C r) (ss C r) leaf 2) (wb (sN C) (sb C r) (ss C r) leaf 2)) p)) (nI (nu (sN C) (wd (sN C) (sb C r) (ss C r) leaf 2) (wb (sN C) (sb C r) (ss C r) leaf 2) p)) (by rfl) ?_
                                            refine g_top (nI (nu (sN C) (wd (sN C) (sb C r) (ss C r) leaf 2) (wb (sN C) (sb C r) (ss C r) leaf 2) p)) (rdv C r leaf p) (by unfold rdv; rw [if_pos ((gl_sp _ _ _ _).mp (by omega))]) ?_
                                            exact kj337
                                          refine g_top (nI (W2_98 8)) (nI (wd (sN C) (sb C r) (ss C r) leaf 2)) (by exact congrArg nI hw2.2.2) ?_
                                          refine g_if_neN (tgt := 327) F dL_same_319 (by decide) (by omega) (fun c319 => ?_) (fun c319 => ?_)
                                          · skip
                                            refine g_aload F 6 dL_same_327 rfl ?_
                                            refine g_callSjR (n := 2) F [25] (c_L_content l E d (sN C) 1 (wb (sN C) (sb C r) (ss C r) leaf 2) (by decide) (by exact hb2) (by exact hZ)) dL_same_329 rfl (by decide) rfl rfl rfl (Nat.le_of_ble_eq_true rfl) ⟨Nat.le_of_ble_eq_true rfl, Nat.le_of_ble_eq_true rfl⟩ rfl rfl ⟨Nat.le_of_ble_eq_true rfl, Nat.le_of_ble_eq_true rfl⟩ ggL_same_L_content (by decide +kernel) (by decide +kernel) (by decide +kernel) (by decide +kernel) (fun r u hp => by obtain ⟨-, h⟩ := hp; exact h) ?_
                                            rintro r_329 u_329 ⟨rfl, -⟩
                                            refine g_topJ (pkN (ccf (sN C) 1 (wb (sN C) (sb C r) (ss C r) leaf 2))) (pkN (ccf (sN C) (wd (sN C) (sb C r) (ss C r) leaf 2) (wb (sN C) (sb C r) (ss C r) leaf 2))) (by rw [show wd (sN C) (sb C r) (ss C r) leaf 2 = 1 by omega]) ?_
                                            exact kj332
                                          · skip
                                            refine g_aload F 5 dL_same_322 rfl ?_
                                            refine g_goto (tgt := 329) F dL_same_324 (by decide) ?_
                                            refine g_callSjR (n := 2) F [24] (c_L_content l E c (sN C) 0 (wb (sN C) (sb C r) (ss C r) leaf 2) (by decide) (by exact hb2) (by exact hZ)) dL_same_329 rfl (by decide) rfl rfl rfl (Nat.le_of_ble_eq_true rfl) ⟨Nat.le_of_ble_eq_true rfl, Nat.le_of_ble_eq_true rfl⟩ rfl rfl ⟨Nat.le_of_ble_eq_true rfl, Nat.le_of_ble_eq_true rfl⟩ ggL_same_L_content (by decide +kernel) (by decide +kernel) (by decide +kernel) (by decide +kernel) (fun r u hp => by obtain ⟨-, h⟩ := hp; exact h) ?_
                                            rintro r_329 u_329 ⟨rfl, -⟩
                                            refine g_topJ (pkN (ccf (sN C) 0 (wb (sN C) (sb C r) (ss C r) leaf 2))) (pkN (ccf (sN C) (wd (sN C) (sb C r) (ss C r) leaf 2) (wb (sN C) (sb C r) (ss C r) leaf 2))) (by rw [c319]) ?_
                                            exact kj332
                                        · skip
                                          refine g_ldc (v := (-1000002)) F dL_same_305 (by decide +kernel) ?_
                                          refine g_goto (tgt := 337) F dL_same_307 (by decide) ?_
                                          refine g_top ((-1000002)) (rdv C r leaf p) (by unfold rdv; rw [if_neg (fun z => absurd ((gl_sp _ _ _ _).mpr z) (by omega))]) ?_
                                          exact kj337
                                  refine g_lv [3, 4, 5, 6, 7, 8, 9, 10, 11, 12, 13, 14, 15, 2, 1, 16, 17, 0] rfl ?_
                                  exact loop283 ((4 - 0) + 1) 0 tdB ebB esB ecB etB (Nat.lt_succ_self _) (by omega)
                                refine g_icmp_eqN (tgt := 280) F dL_same_267 (by decide) (by omega) (by omega) (fun c267 => ?_) (fun c267 => ?_)
                                · skip
                                  exact kj280
                                · skip
                                  refine g_iload F 15 dL_same_270 rfl ?_
                                  refine g_iconst (v := nI 5) F dL_same_272 (by decide) ?_
                                  refine g_iremN F dL_same_273 (by omega) (by decide) (by decide) ?_
                                  refine g_if_eqN (tgt := 280) F dL_same_274 (by decide) (by omega) (fun c274 => ?_) (fun c274 => ?_)
                                  · skip
                                    exact kj280
                                  · skip
                                    refine g_goto (tgt := 462) F dL_same_277 (by decide) ?_
                                    refine g_iinc (k := 15) (v := nI (leaf + 1)) (lv2 := [(15, .int (nI (leaf + 1))), (14, .int (nI (z3 ||| lfb C r 2 leaf))), (13, .int (nI (z2 ||| lfb C r 1 leaf))), (0, .ref o), (1, .int (x)), (2, .ref qq), (3, .ref li), (4, .ref us), (5, .ref c), (6, .ref d), (7, .ref w), (8, .ref q), (9, .ref al_), (10, .int (nI (cu (sN C) (sU C) 96))), (11, .int (nI r)), (12, .int (nI (z1 ||| lfb C r 0 leaf))), (16, .int (nI (gl (sN C) (sb C r) (ss C r) leaf))), (17, .int (nI i1)), (18, .int (nI i2)), (19, .int (nI v))]) F dL_same_462 rfl (nI_1 _) (by decide) rfl ?_
                                    refine g_goto (tgt := 80) F dL_same_465 (by decide) ?_
                                    refine g_lv [3, 4, 5, 6, 7, 8, 9, 10, 11, 12, 13, 14, 15, 2, 1, 0] rfl ?_
                                    exact ih80 (leaf + 1) (z1 ||| lfb C r 0 leaf) (z2 ||| lfb C r 1 leaf) (z3 ||| lfb C r 2 leaf) tdB ebB esB ecB etB W2_98 (by omega) (by omega) (by rw [lvs_s, hz1]) (by rw [lvs_s, hz2]) (by rw [lvs_s, hz3])
                              refine g_icmp_neN (tgt := 254) F dL_same_239 (by decide) (by omega) (by omega) (fun c239 => ?_) (fun c239 => ?_)
                              · skip
                                refine g_iconst (v := nI 0) F dL_same_254 (by decide) ?_
                                refine g_top (nI 0) (nI (lfb C r 2 leaf)) (by rw [lfb_b (fun z => c239 (kd_2.mp z).1)]) ?_
                                exact kj255
                              · skip
                                refine g_iload F 18 dL_same_242 rfl ?_
                                refine g_if_eqN (tgt := 254) F dL_same_244 (by decide) (by omega) (fun c244 => ?_) (fun c244 => ?_)
                                · skip
                                  refine g_iconst (v := nI 0) F dL_same_254 (by decide) ?_
                                  refine g_top (nI 0) (nI (lfb C r 2 leaf)) (by rw [lfb_b (fun z => (kd_2.mp z).2 (fun u hu => e2.mp c244 u (by omega)))]) ?_
                                  exact kj255
                                · skip
                                  refine g_iconst (v := nI 1) F dL_same_247 (by decide) ?_
                                  refine g_iload F 15 dL_same_248 rfl ?_
                                  refine g_ishl F dL_same_250 ?_
                                  refine g_top ((nI 1) <<< ((nI leaf) &&& 31)) (nI (2 ^ leaf)) (by exact shl1 leaf (by omega)) ?_
                                  refine g_goto (tgt := 255) F dL_same_251 (by decide) ?_
                                  refine g_top (nI (2 ^ leaf)) (nI (lfb C r 2 leaf)) (by rw [lfb_a (kd_2.mpr ⟨c239, fun z => c244 (e2.mpr (fun u hu => z u (by omega)))⟩)]) ?_
                                  exact kj255
                            refine g_icmp_neN (tgt := 230) F dL_same_215 (by decide) (by omega) (by omega) (fun c215 => ?_) (fun c215 => ?_)
                            · skip
                              refine g_iconst (v := nI 0) F dL_same_230 (by decide) ?_
                              refine g_top (nI 0) (nI (lfb C r 1 leaf)) (by rw [lfb_b (fun z => c215 (kd_1.mp z).1)]) ?_
                              exact kj231
                            · skip
                              refine g_iload F 17 dL_same_218 rfl ?_
                              refine g_if_eqN (tgt := 230) F dL_same_220 (by decide) (by omega) (fun c220 => ?_) (fun c220 => ?_)
                              · skip
                                refine g_iconst (v := nI 0) F dL_same_230 (by decide) ?_
                                refine g_top (nI 0) (nI (lfb C r 1 leaf)) (by rw [lfb_b (fun z => (kd_1.mp z).2 (fun u hu => e1.mp c220 u (by omega)))]) ?_
                                exact kj231
                              · skip
                                refine g_iconst (v := nI 1) F dL_same_223 (by decide) ?_
                                refine g_iload F 15 dL_same_224 rfl ?_
                                refine g_ishl F dL_same_226 ?_
                                refine g_top ((nI 1) <<< ((nI leaf) &&& 31)) (nI (2 ^ leaf)) (by exact shl1 leaf (by omega)) ?_
                                refine g_goto (tgt := 231) F dL_same_227 (by decide) ?_
                                refine g_top (nI (2 ^ leaf)) (nI (lfb C r 1 leaf)) (by rw [lfb_a (kd_1.mpr ⟨c215, fun z => c220 (e1.mpr (fun u hu => z u (by omega)))⟩)]) ?_
                                exact kj231
                          · skip
                            have hw9 := hW_98 v (by omega) (by omega)
                            have hwb9 : wb (sN C) (sb C r) (ss C r) leaf v < 96 := wb_in c135
                            refine g_iload F 17 dL_same_138 rfl ?_
                            have kj178 : G Γ E (0) (0) 178 [(0, .ref o), (1, .int (x)), (2, .ref qq), (3, .ref li), (4, .ref us), (5, .ref c), (6, .ref d), (7, .ref w), (8, .ref q), (9, .ref al_), (10, .int (nI (cu (sN C) (sU C) 96))), (11, .int (nI r)), (12, .int (nI (z1 ||| lfb C r 0 leaf))), (13, .int (nI z2)), (14, .int (nI z3)), (15, .int (nI leaf)), (16, .int (nI (gl (sN C) (sb C r) (ss C r) leaf))), (17, .int (nI i1)), (18, .int (nI i2)), (19, .int (nI v))] [.int (nI (cI (i1 = 0 ∧ al (sN C) (wb (sN C) (sb C r) (ss C r) leaf v)) 0 1))] [ob 8 o [.ref (a 0), .ref (b 0), .ref y0, .ref x0, .ref v0, .ref g0, .ref k0, .ref m0], ob 5 (a 0) [.ref (a 1), .ref (a 2), .ref (a 3), .int (nI (sM C)), .int (nI (sW C))], ob 1 (a 1) [.ref (a 4)], ai E (a 4) 768 (sN C), ob 0 (a 2) [.ref (a 5)], az E (a 5) 96 (sU C), ob 3 (a 3) [.ref (a 6), .ref (a 7), .ref (a 8), .int (nI (sZ C))], ai E (a 6) 8 (sn C), ai E (a 7) 8 (sb C), ai E (a 8) 8 (ss C), ob 7 g0 [.ref g1, .ref g2, .ref g3, .ref g4, .int (nI tdB)], ai E g1 3 ebB, ai E g2 3 esB, ai E g3 3 ecB, ai E g4 12 etB, ob 0 k0 [.ref k1], az E k1 96 XA, ob 0 m0 [.ref m1], az E m1 96 YA, ob 2 y0 [.ref y1, .int (nI hn)], ob 4 x0 [.ref tc, .int (nI L9), .int (nI ta9), .int (nI br9), .int (nI lf9), .int (nI pl9), .int (nI vl9)], ai E qq 4 (qfS C), ai E li 24 lf, aj E us 2 (bu (sU C)), aj E c 64 (cc (sN C) 0), aj E d 64 (cc (sN C) 1), ai E w 9 W2_98, aj E q 2 BA, aj E al_ 2 AA] := by
                              refine g_istore (lv2 := [(17, .int (nI (cI (i1 = 0 ∧ al (sN C) (wb (sN C) (sb C r) (ss C r) leaf v)) 0 1))), (0, .ref o), (1, .int (x)), (2, .ref qq), (3, .ref li), (4, .ref us), (5, .ref c), (6, .ref d), (7, .ref w), (8, .ref q), (9, .ref al_), (10, .int (nI (cu (sN C) (sU C) 96))), (11, .int (nI r)), (12, .int (nI (z1 ||| lfb C r 0 leaf))), (13, .int (nI z2)), (14, .int (nI z3)), (15, .int (nI leaf)), (16, .int (nI (gl (sN C) (sb C r) (ss C r) leaf))), (18, .int (nI i2)), (19, .int (nI v))]) F dL_same_178 (by decide) rfl ?_
                              refine g_iload F 18 dL_same_180 rfl ?_
                              have kj202 : G Γ E (0) (0) 202 [(17, .int (nI (cI (i1 = 0 ∧ al (sN C) (wb (sN C) (sb C r) (ss C r) leaf v)) 0 1))), (0, .ref o), (1, .int (x)), (2, .ref qq), (3, .ref li), (4, .ref us), (5, .ref c), (6, .ref d), (7, .ref w), (8, .ref q), (9, .ref al_), (10, .int (nI (cu (sN C) (sU C) 96))), (11, .int (nI r)), (12, .int (nI (z1 ||| lfb C r 0 leaf))), (13, .int (nI z2)), (14, .int (nI z3)), (15, .int (nI leaf)), (16, .int (nI (gl (sN C) (sb C r) (ss C r) leaf))), (18, .int (nI i2)), (19, .int (nI v))] [.int (nI (cI (i2 = 0 ∧ ¬ wd (sN C) (sb C r) (ss C r) leaf v = 1) 0 1))] [ob 8 o [.ref (a 0), .ref (b 0), .ref y0, .ref x0, .ref v0, .ref g0, .ref k0, .ref m0], ob 5 (a 0) [.ref (a 1), .ref (a 2), .ref (a 3), .int (nI (sM C)), .int (nI (sW C))], ob 1 (a 1) [.ref (a 4)], ai E (a 4) 768 (sN C), ob 0 (a 2) [.ref (a 5)], az E (a 5) 96 (sU C), ob 3 (a 3) [.ref (a 6), .ref (a 7), .ref (a 8), .int (nI (sZ C))], ai E (a 6) 8 (sn C), ai E (a 7) 8 (sb C), ai E (a 8) 8 (ss C), ob 7 g0 [.ref g1, .ref g2, .ref g3, .ref g4, .int (nI tdB)], ai E g1 3 ebB, ai E g2 3 esB, ai E g3 3 ecB, ai E g4 12 etB, ob 0 k0 [.ref k1], az E k1 96 XA, ob 0 m0 [.ref m1], az E m1 96 YA, ob 2 y0 [.ref y1, .int (nI hn)], ob 4 x0 [.ref tc, .int (nI L9), .int (nI ta9), .int (nI br9), .int (nI lf9), .int (nI pl9), .int (nI vl9)], ai E qq 4 (qfS C), ai E li 24 lf, aj E us 2 (bu (sU C)), aj E c 64 (cc (sN C) 0), aj E d 64 (cc (sN C) 1), ai E w 9 W2_98, aj E q 2 BA, aj E al_ 2 AA] := by
                                refine g_istore (lv2 := [(18, .int (nI (cI (i2 = 0 ∧ ¬ wd (sN C) (sb C r) (ss C r) leaf v = 1) 0 1))), (17, .int (nI (cI (i1 = 0 ∧ al (sN C) (wb (sN C) (sb C r) (ss C r) leaf v)) 0 1))), (0, .ref o), (1, .int (x)), (2, .ref qq), (3, .ref li), (4, .ref us), (5, .ref c), (6, .ref d), (7, .ref w), (8, .ref q), (9, .ref al_), (10, .int (nI (cu (sN C) (sU C) 96))), (11, .int (nI r)), (12, .int (nI (z1 ||| lfb C r 0 leaf))), (13, .int (nI z2)), (14, .int (nI z3)), (15, .int (nI leaf)), (16, .int (nI (gl (sN C) (sb C r) (ss C r) leaf))), (19, .int (nI v))]) F dL_same_202 (by decide) rfl ?_
                                refine g_iinc (k := 19) (v := nI (v + 1)) (lv2 := [(19, .int (nI (v + 1))), (18, .int (nI (cI (i2 = 0 ∧ ¬ wd (sN C) (sb C r) (ss C r) leaf v = 1) 0 1))), (17, .int (nI (cI (i1 = 0 ∧ al (sN C) (wb (sN C) (sb C r) (ss C r) leaf v)) 0 1))), (0, .ref o), (1, .int (x)), (2, .ref qq), (3, .ref li), (4, .ref us), (5, .ref c), (6, .ref d), (7, .ref w), (8, .ref q), (9, .ref al_), (10, .int (nI (cu (sN C) (sU C) 96))), (11, .int (nI r)), (12, .int (nI (z1 ||| lfb C r 0 leaf))), (13, .int (nI z2)), (14, .int (nI z3)), (15, .int (nI leaf)), (16, .int (nI (gl (sN C) (sb C r) (ss C r) leaf)))]) F dL_same_204 rfl (nI_1 _) (by decide) rfl ?_
                                refine g_goto (tgt := 131) F dL_same_207 (by decide) ?_
                                refine g_lv [3, 4, 5, 6, 7, 8, 9, 10, 11, 12, 13, 14, 15, 16, 17, 18, 19, 2, 1, 0] rfl ?_
                                exact ih131 (v + 1) (cI (i1 = 0 ∧ al (sN C) (wb (sN C) (sb C r) (ss C r) leaf v)) 0 1) (cI (i2 = 0 ∧ ¬ wd (sN C) (sb C r) (ss C r) leaf v = 1) 0 1) (by omega) (by omega) (by exact (acc_s e1).1) (by exact (acc_s e2).1) (by exact (acc_s e1).2) (by exact (acc_s e2).2)
                              refine g_if_neN (tgt := 197) F dL_same_182 (by decide) (by omega) (fun c182 => ?_) (fun c182 => ?_)
                              · skip
                                refine g_iconst (v := nI 1) F dL_same_197 (by decide) ?_
                                refine g_goto (tgt := 202) F dL_same_198 (by decide) ?_
                                refine g_top (nI 1) (nI (cI (i2 = 0 ∧ ¬ wd (sN C) (sb C r) (ss C r) leaf v = 1) 0 1)) (by rw [cI_neg (fun z => c182 z.1)]) ?_
                                exact kj202
                              · skip
                                refine g_aload F 8 dL_same_185 rfl ?_
                                refine g_bipush (v := nI 6) F dL_same_187 (by decide) ?_
                                refine g_iload F 19 dL_same_189 rfl ?_
                                refine g_iaddN F dL_same_191 ?_
                                refine g_iald F 26 dL_same_192 rfl (by omega) (by decide) ?_
                                have hd9 := wd_le (sN C) (sb C r) (ss C r) leaf v
                                refine g_top (nI (W2_98 (6 + v))) (nI (wd (sN C) (sb C r) (ss C r) leaf v)) (by rw [hw9.2.2]) ?_
                                refine g_iconst (v := nI 1) F dL_same_193 (by decide) ?_
                                refine g_icmp_neN (tgt := 201) F dL_same_194 (by decide) (by omega) (by omega) (fun c194 => ?_) (fun c194 => ?_)
                                · skip
                                  refine g_iconst (v := nI 0) F dL_same_201 (by decide) ?_
                                  refine g_top (nI 0) (nI (cI (i2 = 0 ∧ ¬ wd (sN C) (sb C r) (ss C r) leaf v = 1) 0 1)) (by rw [cI_pos ⟨c182, c194⟩]) ?_
                                  exact kj202
                                · skip
                                  refine g_iconst (v := nI 1) F dL_same_197 (by decide) ?_
                                  refine g_goto (tgt := 202) F dL_same_198 (by decide) ?_
                                  refine g_top (nI 1) (nI (cI (i2 = 0 ∧ ¬ wd (sN C) (sb C r) (ss C r) leaf v = 1) 0 1)) (by rw [cI_neg (fun z => z.2 c194)]) ?_
                                  exact kj202
                            refine g_if_neN (tgt := 173) F dL_same_140 (by decide) (by omega) (fun c140 => ?_) (fun c140 => ?_)
                            · skip
                              refine g_iconst (v := nI 1) F dL_same_173 (by decide) ?_
                              refine g_goto (tgt := 178) F dL_same_174 (by decide) ?_
                              refine g_top (nI 1) (nI (cI (i1 = 0 ∧ al (sN C) (wb (sN C) (sb C r) (ss C r) leaf v)) 0 1)) (by rw [cI_neg (fun z => c140 z.1)]) ?_
                              exact kj178
                            · skip
                              refine g_aload F 7 dL_same_143 rfl ?_
                              refine g_iload F 19 dL_same_145 rfl ?_
                              refine g_iald F 26 dL_same_147 rfl (by omega) (by decide) ?_
                              refine g_top (nI (W2_98 v)) (nI (wb (sN C) (sb C r) (ss C r) leaf v)) (by rw [hw9.1]) ?_
                              refine g_bipush (v := nI 64) F dL_same_148 (by decide) ?_
                              refine g_icmp_geN (tgt := 177) F dL_same_150 (by decide) (by omega) (by omega) (fun c150 => ?_) (fun c150 => ?_)
                              · skip
                                refine g_iconst (v := nI 0) F dL_same_177 (by decide) ?_
                                refine g_top (nI 0) (nI (cI (i1 = 0 ∧ al (sN C) (wb (sN C) (sb C r) (ss C r) leaf v)) 0 1)) (by rw [cI_pos ⟨c140, al_big hZ c150 hwb9⟩]) ?_
                                exact kj178
                              · skip
                                refine g_aload F 5 dL_same_153 rfl ?_
                                refine g_aload F 7 dL_same_155 rfl ?_
                                refine g_iload F 19 dL_same_157 rfl ?_
                                refine g_iald F 26 dL_same_159 rfl (by omega) (by decide) ?_
                                refine g_top (nI (W2_98 v)) (nI (wb (sN C) (sb C r) (ss C r) leaf v)) (by rw [hw9.1]) ?_
                                refine g_jald F 24 dL_same_160 rfl (by omega) (by decide) ?_
                                refine g_aload F 6 dL_same_161 rfl ?_
                                refine g_aload F 7 dL_same_163 rfl ?_
                                refine g_iload F 19 dL_same_165 rfl ?_
                                refine g_iald F 26 dL_same_167 rfl (by omega) (by decide) ?_
                                refine g_top (nI (W2_98 v)) (nI (wb (sN C) (sb C r) (ss C r) leaf v)) (by rw [hw9.1]) ?_
                                refine g_jald F 25 dL_same_168 rfl (by omega) (by decide) ?_
                                refine g_lcmp F dL_same_169 ?_
                                refine g_if_eq (tgt := 177) F dL_same_170 (by decide) (fun c170 => ?_) (fun c170 => ?_)
                                · skip
                                  refine g_iconst (v := nI 0) F dL_same_177 (by decide) ?_
                                  refine g_top (nI 0) (nI (cI (i1 = 0 ∧ al (sN C) (wb (sN C) (sb C r) (ss C r) leaf v)) 0 1)) (by rw [cI_pos ⟨c140, (al_cc hI.1 _).mp c170⟩]) ?_
                                  exact kj178
                                · skip
                                  refine g_iconst (v := nI 1) F dL_same_173 (by decide) ?_
                                  refine g_goto (tgt := 178) F dL_same_174 (by decide) ?_
                                  refine g_top (nI 1) (nI (cI (i1 = 0 ∧ al (sN C) (wb (sN C) (sb C r) (ss C r) leaf v)) 0 1)) (by rw [cI_neg (fun z => c170 ((al_cc hI.1 _).mpr z.2))]) ?_
                                  exact kj178
                      refine g_lv [5, 6, 7, 8, 9, 10, 11, 12, 13, 14, 15, 16, 3, 17, 18, 19, 4, 2, 1, 0] rfl ?_
                      exact loop131 ((4 - 0) + 1) 0 0 0 (Nat.lt_succ_self _) (by exact Nat.zero_le _) (by omega) (by omega) (by exact ⟨fun _ u hu => by omega, fun _ => rfl⟩) (by exact ⟨fun _ u hu => by omega, fun _ => rfl⟩)
                    refine g_icmp_geN (tgt := 118) F dL_same_108 (by decide) (by omega) (by omega) (fun c108 => ?_) (fun c108 => ?_)
                    · skip
                      refine g_iconst (v := nI 0) F dL_same_118 (by decide) ?_
                      refine g_top (nI 0) (nI (lfb C r 0 leaf)) (by rw [lfb_b (fun z => kd_0.mp z (by omega))]) ?_
                      exact kj119
                    · skip
                      refine g_iconst (v := nI 1) F dL_same_111 (by decide) ?_
                      refine g_iload F 16 dL_same_112 rfl ?_
                      refine g_ishl F dL_same_114 ?_
                      refine g_top ((nI 1) <<< ((nI leaf) &&& 31)) (nI (2 ^ leaf)) (by exact shl1 leaf (by omega)) ?_
                      refine g_goto (tgt := 119) F dL_same_115 (by decide) ?_
                      refine g_top (nI (2 ^ leaf)) (nI (lfb C r 0 leaf)) (by rw [lfb_a (kd_0.mpr (by omega))]) ?_
                      exact kj119
              refine g_lv [4, 5, 6, 7, 8, 9, 10, 11, 12, 13, 14, 15, 3, 2, 1, 0] rfl ?_
              exact loop80 ((16 - 0) + 1) 0 0 0 0 tdA ebA esA ecA etA WfA (Nat.lt_succ_self _) (by omega) (by rfl) (by rfl) (by rfl)
        refine g_lv [1, 2, 3, 4, 5, 6, 7, 8, 9, 10, 11, 0] rfl ?_
        exact loop60 ((sZ C - 0) + 1) 0 td eb es ec et X Y Wf B9 A9 (Nat.lt_succ_self _) (by exact Nat.zero_le _)
      · skip
        refine g_iload F 10 dL_same_13 rfl ?_
        refine g_aload F 5 dL_same_15 rfl ?_
        refine g_iload F 11 dL_same_17 rfl ?_
        refine g_jald F 24 dL_same_19 rfl (by omega) (by decide) ?_
        refine g_aload F 6 dL_same_20 rfl ?_
        refine g_iload F 11 dL_same_22 rfl ?_
        refine g_jald F 25 dL_same_24 rfl (by omega) (by decide) ?_
        refine g_lcmp F dL_same_25 ?_
        have kj48 : G Γ E (0) (0) 48 [(0, .ref o), (1, .int (x)), (2, .ref qq), (3, .ref li), (4, .ref us), (5, .ref c), (6, .ref d), (7, .ref w), (8, .ref q), (9, .ref al_), (10, .int (nI z)), (11, .int (nI k))] [.int (nI (cu1 (sN C) (sU C) k)), .int (nI z)] [ob 8 o [.ref (a 0), .ref (b 0), .ref y0, .ref x0, .ref v0, .ref g0, .ref k0, .ref m0], ob 5 (a 0) [.ref (a 1), .ref (a 2), .ref (a 3), .int (nI (sM C)), .int (nI (sW C))], ob 1 (a 1) [.ref (a 4)], ai E (a 4) 768 (sN C), ob 0 (a 2) [.ref (a 5)], az E (a 5) 96 (sU C), ob 3 (a 3) [.ref (a 6), .ref (a 7), .ref (a 8), .int (nI (sZ C))], ai E (a 6) 8 (sn C), ai E (a 7) 8 (sb C), ai E (a 8) 8 (ss C), ob 7 g0 [.ref g1, .ref g2, .ref g3, .ref g4, .int (nI td)], ai E g1 3 eb, ai E g2 3 es, ai E g3 3 ec, ai E g4 12 et, ob 0 k0 [.ref k1], az E k1 96 X, ob 0 m0 [.ref m1], az E m1 96 Y, ob 2 y0 [.ref y1, .int (nI hn)], ob 4 x0 [.ref tc, .int (nI L9), .int (nI ta9), .int (nI br9), .int (nI lf9), .int (nI pl9), .int (nI vl9)], ai E qq 4 (qfS C), ai E li 24 lf, aj E us 2 (bu (sU C)), aj E c 64 (cc (sN C) 0), aj E d 64 (cc (sN C) 1), ai E w 9 Wf, aj E q 2 B9, aj E al_ 2 A9] := by
          refine g_iaddN F dL_same_48 ?_
          refine g_istore (lv2 := [(10, .int (nI (z + (cu1 (sN C) (sU C) k)))), (0, .ref o), (1, .int (x)), (2, .ref qq), (3, .ref li), (4, .ref us), (5, .ref c), (6, .ref d), (7, .ref w), (8, .ref q), (9, .ref al_), (11, .int (nI k))]) F dL_same_49 (by decide) rfl ?_
          refine g_iinc (k := 11) (v := nI (k + 1)) (lv2 := [(11, .int (nI (k + 1))), (10, .int (nI (z + (cu1 (sN C) (sU C) k)))), (0, .ref o), (1, .int (x)), (2, .ref qq), (3, .ref li), (4, .ref us), (5, .ref c), (6, .ref d), (7, .ref w), (8, .ref q), (9, .ref al_)]) F dL_same_51 rfl (nI_1 _) (by decide) rfl ?_
          refine g_goto (tgt := 6) F dL_same_54 (by decide) ?_
          refine g_lv [2, 3, 4, 5, 6, 7, 8, 9, 10, 11, 1, 0] rfl ?_
          exact ih6 (k + 1) (z + (cu1 (sN C) (sU C) k)) (by omega) (by omega) (by rw [cu_s, hz]; rfl)
        refine g_if_eq (tgt := 47) F dL_same_26 (by decide) (fun c26 => ?_) (fun c26 => ?_)
        · skip
          refine g_iconst (v := nI 0) F dL_same_47 (by decide) ?_
          refine g_top (nI 0) (nI (cu1 (sN C) (sU C) k)) (by rw [cu1_a (Or.inr ((al_cc hI.1 _).mp c26))]) ?_
          exact kj48
        · skip
          refine g_aload F 4 dL_same_29 rfl ?_
          refine g_iconst (v := nI 0) F dL_same_31 (by decide) ?_
          refine g_jald F 23 dL_same_32 rfl (by omega) (by decide) ?_
          refine g_iload F 11 dL_same_33 rfl ?_
          refine g_lushr (v := ((((bu (sU C)) 0)).toUInt64 >>> ((nI k).toInt64.toUInt64 &&& Int64.toUInt64 63)).toInt64) F dL_same_35 (by rfl) ?_
          refine g_lconst (v := 1) F dL_same_36 (by decide) ?_
          refine g_land F dL_same_37 ?_
          refine g_lconst (v := 1) F dL_same_38 (by decide) ?_
          refine g_lcmp F dL_same_39 ?_
          refine g_if_ne (tgt := 47) F dL_same_40 (by decide) (fun c40 => ?_) (fun c40 => ?_)
          · skip
            refine g_iconst (v := nI 0) F dL_same_47 (by decide) ?_
            refine g_top (nI 0) (nI (cu1 (sN C) (sU C) k)) (by rw [cu1_a (Or.inl (Classical.not_not.mp (fun z => c40 ((bs_tst1 (by omega)).mpr z))))]) ?_
            exact kj48
          · skip
            refine g_iconst (v := nI 1) F dL_same_43 (by decide) ?_
            refine g_goto (tgt := 48) F dL_same_44 (by decide) ?_
            refine g_top (nI 1) (nI (cu1 (sN C) (sU C) k)) (by rw [cu1_b ((bs_tst1 (by omega)).mp c40) (fun z => c26 ((al_cc hI.1 _).mpr z))]) ?_
            exact kj48
  refine g_lv [2, 3, 4, 5, 6, 7, 8, 9, 10, 11, 1, 0] rfl ?_
  exact loop6 ((64 - 0) + 1) 0 0 (Nat.lt_succ_self _) (by omega) (by rw [cu_0])
