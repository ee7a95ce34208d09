set_option maxHeartbeats 8000000 in
set_option maxRecDepth 100000 in
theorem law_loop {Γ : Gm} {E : En} {l : Launch} {sc : Nat} {o : Nat} {a : Nat → Nat} {b : Nat → Nat} {y0 : Nat} {y1 : Nat} {x0 : Nat} {tc : Nat} {v0 : Nat} {g0 : Nat} {g1 : Nat} {g2 : Nat} {g3 : Nat} {g4 : Nat} {k0 : Nat} {k1 : Nat} {m0 : Nat} {m1 : Nat} {qq : Nat} {li : Nat} {us : Nat} {c : Nat} {d : Nat} {w : Nat} {q : Nat} {al_ : Nat} {Ls : Nat} {xs : Nat → Int32} (F : Fx Γ E cL_law 19 wsL_law RL room_1 l) (hX : Sc Γ sc Ls xs) (hLs : Ls ≤ 260) (hret : ∀ (lv : List (Nat × Value)) (w : va_W), G Γ E (80 + 128 * 16) (6000 + 384 * 16) 925 lv [.int (nI 1)] w) : ∀ (n t : Nat), t ≤ 16 → 16 < n + t → ∀ (C : CS) (hn : Nat) (c0 : Nat → Nat) (c1 : Nat → Nat) (c2 : Nat → Nat) (H : Nat → CS) (td : Nat) (eb : Nat → Nat) (es : Nat → Nat) (ec : Nat → Nat) (et : Nat → Nat) (X : Nat → Nat) (Y : Nat → Nat) (lf : Nat → Nat) (Wf : Nat → Nat) (B9 : Nat → Int64) (A9 : Nat → Int64), (LSt C t) → (LI lf C) → (hn ≤ 3) → G Γ E (80 + 128 * t) (6000 + 384 * t) 227 [(0, .ref sc), (1, .ref o), (2, .ref qq), (3, .ref li), (4, .ref w), (5, .ref us), (6, .ref c), (7, .ref d), (8, .ref q), (9, .ref al_), (10, .int (nI t))] [] [ob 8 o [.ref (a 0), .ref (b 0), .ref y0, .ref x0, .ref v0, .ref g0, .ref k0, .ref m0], ob 5 (a 0) [.ref (a 1), .ref (a 2), .ref (a 3), .int (nI (sM C)), .int (nI (sW C))], ob 1 (a 1) [.ref (a 4)], ai E (a 4) 768 (sN C), ob 0 (a 2) [.ref (a 5)], az E (a 5) 96 (sU C), ob 3 (a 3) [.ref (a 6), .ref (a 7), .ref (a 8), .int (nI (sZ C))], ai E (a 6) 8 (sn C), ai E (a 7) 8 (sb C), ai E (a 8) 8 (ss C), ob 2 y0 [.ref y1, .int (nI hn)], aq E y1 3 (h3 (c0 0) (c1 0) (c2 0)), ob 5 (c0 0) [.ref (c0 1), .ref (c0 2), .ref (c0 3), .int (nI (sM (H 0))), .int (nI (sW (H 0)))], ob 1 (c0 1) [.ref (c0 4)], ai E (c0 4) 768 (sN (H 0)), ob 0 (c0 2) [.ref (c0 5)], az E (c0 5) 96 (sU (H 0)), ob 3 (c0 3) [.ref (c0 6), .ref (c0 7), .ref (c0 8), .int (nI (sZ (H 0)))], ai E (c0 6) 8 (sn (H 0)), ai E (c0 7) 8 (sb (H 0)), ai E (c0 8) 8 (ss (H 0)), ob 5 (c1 0) [.ref (c1 1), .ref (c1 2), .ref (c1 3), .int (nI (sM (H 1))), .int (nI (sW (H 1)))], ob 1 (c1 1) [.ref (c1 4)], ai E (c1 4) 768 (sN (H 1)), ob 0 (c1 2) [.ref (c1 5)], az E (c1 5) 96 (sU (H 1)), ob 3 (c1 3) [.ref (c1 6), .ref (c1 7), .ref (c1 8), .int (nI (sZ (H 1)))], ai E (c1 6) 8 (sn (H 1)), ai E (c1 7) 8 (sb (H 1)), ai E (c1 8) 8 (ss (H 1)), ob 5 (c2 0) [.ref (c2 1), .ref (c2 2), .ref (c2 3), .int (nI (sM (H 2))), .int (nI (sW (H 2)))], ob 1 (c2 1) [.ref (c2 4)], ai E (c2 4) 768 (sN (H 2)), ob 0 (c2 2) [.ref (c2 5)], az E (c2 5) 96 (sU (H 2)), ob 3 (c2 3) [.ref (c2 6), .ref (c2 7), .ref (c2 8), .int (nI (sZ (H 2)))], ai E (c2 6) 8 (sn (H 2)), ai E (c2 7) 8 (sb (H 2)), ai E (c2 8) 8 (ss (H 2)), ob 4 x0 [.ref tc, .int (nI 0), .int (nI 0), .int (nI 0), .int (nI 0), .int (nI 0), .int (nI 0)], ob 7 g0 [.ref g1, .ref g2, .ref g3, .ref g4, .int (nI td)], ai E g1 3 eb, ai E g2 3 es, ai E g3 3 ec, ai E g4 12 et, ob 0 k0 [.ref k1], az E k1 96 X, ob 0 m0 [.ref m1], az E m1 96 Y, ai E qq 4 (qfS C), ai E li 24 lf, aj E us 2 (bu (sU C)), aj E c 64 (cc (sN C) 0), aj E d 64 (cc (sN C) 1), ai E w 9 Wf, aj E q 2 B9, aj E al_ 2 A9] := by
  intro n
  induction n with
  | zero => intro t h1 h2; omega
  | succ n ih =>
    intro t ht0 hn0
    have step : t < 16 → LQ Γ E sc o a b y0 y1 x0 tc v0 g0 g1 g2 g3 g4 k0 k1 m0 m1 qq li us c d w q al_ t := by
      intro ht
      intro C hn c0 c1 c2 H td eb es ec et X Y lf Wf B9 A9 hLS hli hhn
      show G Γ E (80 + 128 * (t + 1)) (6000 + 384 * (t + 1)) 918 [(0, .ref sc), (1, .ref o), (2, .ref qq), (3, .ref li), (4, .ref w), (5, .ref us), (6, .ref c), (7, .ref d), (8, .ref q), (9, .ref al_), (10, .int (nI t))] [] [ob 8 o [.ref (a 0), .ref (b 0), .ref y0, .ref x0, .ref v0, .ref g0, .ref k0, .ref m0], ob 5 (a 0) [.ref (a 1), .ref (a 2), .ref (a 3), .int (nI (sM C)), .int (nI (sW C))], ob 1 (a 1) [.ref (a 4)], ai E (a 4) 768 (sN C), ob 0 (a 2) [.ref (a 5)], az E (a 5) 96 (sU C), ob 3 (a 3) [.ref (a 6), .ref (a 7), .ref (a 8), .int (nI (sZ C))], ai E (a 6) 8 (sn C), ai E (a 7) 8 (sb C), ai E (a 8) 8 (ss C), ob 2 y0 [.ref y1, .int (nI hn)], aq E y1 3 (h3 (c0 0) (c1 0) (c2 0)), ob 5 (c0 0) [.ref (c0 1), .ref (c0 2), .ref (c0 3), .int (nI (sM (H 0))), .int (nI (sW (H 0)))], ob 1 (c0 1) [.ref (c0 4)], ai E (c0 4) 768 (sN (H 0)), ob 0 (c0 2) [.ref (c0 5)], az E (c0 5) 96 (sU (H 0)), ob 3 (c0 3) [.ref (c0 6), .ref (c0 7), .ref (c0 8), .int (nI (sZ (H 0)))], ai E (c0 6) 8 (sn (H 0)), ai E (c0 7) 8 (sb (H 0)), ai E (c0 8) 8 (ss (H 0)), ob 5 (c1 0) [.ref (c1 1), .ref (c1 2), .ref (c1 3), .int (nI (sM (H 1))), .int (nI (sW (H 1)))], ob 1 (c1 1) [.ref (c1 4)], ai E (c1 4) 768 (sN (H 1)), ob 0 (c1 2) [.ref (c1 5)], az E (c1 5) 96 (sU (H 1)), ob 3 (c1 3) [.ref (c1 6), .ref (c1 7), .ref (c1 8), .int (nI (sZ (H 1)))], ai E (c1 6) 8 (sn (H 1)), ai E (c1 7) 8 (sb (H 1)), ai E (c1 8) 8 (ss (H 1)), ob 5 (c2 0) [.ref (c2 1), .ref (c2 2), .ref (c2 3), .int (nI (sM (H 2))), .int (nI (sW (H 2)))], ob 1 (c2 1) [.ref (c2 4)], ai E (c2 4) 768 (sN (H 2)), ob 0 (c2 2) [.ref (c2 5)], az E (c2 5) 96 (sU (H 2)), ob 3 (c2 3) [.ref (c2 6), .ref (c2 7), .ref (c2 8), .int (nI (sZ (H 2)))], ai E (c2 6) 8 (sn (H 2)), ai E (c2 7) 8 (sb (H 2)), ai E (c2 8) 8 (ss (H 2)), ob 4 x0 [.ref tc, .int (nI 0), .int (nI 0), .int (nI 0), .int (nI 0), .int (nI 0), .int (nI 0)], ob 7 g0 [.ref g1, .ref g2, .ref g3, .ref g4, .int (nI td)], ai E g1 3 eb, ai E g2 3 es, ai E g3 3 ec, ai E g4 12 et, ob 0 k0 [.ref k1], az E k1 96 X, ob 0 m0 [.ref m1], az E m1 96 Y, ai E qq 4 (qfS C), ai E li 24 lf, aj E us 2 (bu (sU C)), aj E c 64 (cc (sN C) 0), aj E d 64 (cc (sN C) 1), ai E w 9 Wf, aj E q 2 B9, aj E al_ 2 A9]
      refine g_iinc (k := 10) (v := nI (t + 1)) (lv2 := [(10, .int (nI (t + 1))), (0, .ref sc), (1, .ref o), (2, .ref qq), (3, .ref li), (4, .ref w), (5, .ref us), (6, .ref c), (7, .ref d), (8, .ref q), (9, .ref al_)]) F dL_law_918 rfl (nI_1 _) (by decide) rfl ?_
      refine g_goto (tgt := 227) F dL_law_921 (by decide) ?_
      refine g_lv [1, 2, 3, 4, 5, 6, 7, 8, 9, 10, 0] rfl ?_
      exact ih (t + 1) (by omega) (by omega) C hn c0 c1 c2 H td eb es ec et X Y lf Wf B9 A9 hLS hli hhn
    have cmp : t < 16 → LR Γ E sc o a b y0 y1 x0 tc v0 g0 g1 g2 g3 g4 k0 k1 m0 m1 qq li us c d w q al_ t := by
      intro ht
      intro C hn c0 c1 c2 H td eb es ec et X Y lf Wf B9 A9 x hLS hli hhn
      show G Γ E (80 + 128 * (t + 1)) (6000 + 384 * (t + 1)) 891 [(0, .ref sc), (1, .ref o), (2, .ref qq), (3, .ref li), (4, .ref w), (5, .ref us), (6, .ref c), (7, .ref d), (8, .ref q), (9, .ref al_), (10, .int (nI t)), (11, .int (x))] [] [ob 8 o [.ref (a 0), .ref (b 0), .ref y0, .ref x0, .ref v0, .ref g0, .ref k0, .ref m0], ob 5 (a 0) [.ref (a 1), .ref (a 2), .ref (a 3), .int (nI (sM C)), .int (nI (sW C))], ob 1 (a 1) [.ref (a 4)], ai E (a 4) 768 (sN C), ob 0 (a 2) [.ref (a 5)], az E (a 5) 96 (sU C), ob 3 (a 3) [.ref (a 6), .ref (a 7), .ref (a 8), .int (nI (sZ C))], ai E (a 6) 8 (sn C), ai E (a 7) 8 (sb C), ai E (a 8) 8 (ss C), ob 2 y0 [.ref y1, .int (nI hn)], aq E y1 3 (h3 (c0 0) (c1 0) (c2 0)), ob 5 (c0 0) [.ref (c0 1), .ref (c0 2), .ref (c0 3), .int (nI (sM (H 0))), .int (nI (sW (H 0)))], ob 1 (c0 1) [.ref (c0 4)], ai E (c0 4) 768 (sN (H 0)), ob 0 (c0 2) [.ref (c0 5)], az E (c0 5) 96 (sU (H 0)), ob 3 (c0 3) [.ref (c0 6), .ref (c0 7), .ref (c0 8), .int (nI (sZ (H 0)))], ai E (c0 6) 8 (sn (H 0)), ai E (c0 7) 8 (sb (H 0)), ai E (c0 8) 8 (ss (H 0)), ob 5 (c1 0) [.ref (c1 1), .ref (c1 2), .ref (c1 3), .int (nI (sM (H 1))), .int (nI (sW (H 1)))], ob 1 (c1 1) [.ref (c1 4)], ai E (c1 4) 768 (sN (H 1)), ob 0 (c1 2) [.ref (c1 5)], az E (c1 5) 96 (sU (H 1)), ob 3 (c1 3) [.ref (c1 6), .ref (c1 7), .ref (c1 8), .int (nI (sZ (H 1)))], ai E (c1 6) 8 (sn (H 1)), ai E (c1 7) 8 (sb (H 1)), ai E (c1 8) 8 (ss (H 1)), ob 5 (c2 0) [.ref (c2 1), .ref (c2 2), .ref (c2 3), .int (nI (sM (H 2))), .int (nI (sW (H 2)))], ob 1 (c2 1) [.ref (c2 4)], ai E (c2 4) 768 (sN (H 2)), ob 0 (c2 2) [.ref (c2 5)], az E (c2 5) 96 (sU (H 2)), ob 3 (c2 3) [.ref (c2 6), .ref (c2 7), .ref (c2 8), .int (nI (sZ (H 2)))], ai E (c2 6) 8 (sn (H 2)), ai E (c2 7) 8 (sb (H 2)), ai E (c2 8) 8 (ss (H 2)), ob 4 x0 [.ref tc, .int (nI 0), .int (nI 0), .int (nI 0), .int (nI 0), .int (nI 0), .int (nI 0)], ob 7 g0 [.ref g1, .ref g2, .ref g3, .ref g4, .int (nI td)], ai E g1 3 eb, ai E g2 3 es, ai E g3 3 ec, ai E g4 12 et, ob 0 k0 [.ref k1], az E k1 96 X, ob 0 m0 [.ref m1], az E m1 96 Y, ai E qq 4 (qfS C), ai E li 24 lf, aj E us 2 (bu (sU C)), aj E c 64 (cc (sN C) 0), aj E d 64 (cc (sN C) 1), ai E w 9 Wf, aj E q 2 B9, aj E al_ 2 A9]
      refine g_aload_n F 1 dL_law_891 rfl rfl ?_
      refine g_iload F 11 dL_law_892 rfl ?_
      refine g_iconst (v := nI 2) F dL_law_894 (by decide) ?_
      refine g_ishr F dL_law_895 ?_
      refine g_aload_n F 2 dL_law_896 rfl rfl ?_
      refine g_aload_n F 3 dL_law_897 rfl rfl ?_
      refine g_aload F 5 dL_law_898 rfl ?_
      refine g_aload F 6 dL_law_900 rfl ?_
      refine g_aload F 7 dL_law_902 rfl ?_
      refine g_aload F 4 dL_law_904 rfl ?_
      refine g_aload F 8 dL_law_906 rfl ?_
      refine g_aload F 9 dL_law_908 rfl ?_
      refine g_callSiW (n := 10) F [0, 1, 2, 3, 4, 5, 6, 7, 8, 9, 40, 41, 42, 43, 44, 45, 46, 47, 48, 10, 39, 49, 50, 51, 52, 53, 54, 55, 56] (c_L_same l E o a b y0 x0 v0 g0 k0 m0 g1 g2 g3 g4 k1 m1 y1 tc C td eb es ec et X Y hn 0 0 0 0 0 0 qq li us c d w q al_ lf Wf B9 A9 (x >>> ((nI 2) &&& 31)) (by exact hLS.1) (by exact hLS.2.1) (by exact hli) (by exact hLS.2.2.1)) dL_law_910 rfl (by decide) rfl rfl rfl (Nat.le_of_ble_eq_true rfl) ⟨Nat.le_of_ble_eq_true rfl, Nat.le_of_ble_eq_true rfl⟩ rfl rfl ⟨Nat.le_trans (show 80 + 128 * (t + 1) ≤ 4000 by omega) (Nat.le_of_ble_eq_true rfl), Nat.le_trans (show 6000 + 384 * (t + 1) ≤ 20000 by omega) (Nat.le_of_ble_eq_true rfl)⟩ ggL_law_L_same (by decide +kernel) (by decide +kernel) (by decide +kernel) (by decide +kernel) (fun r u hp => by obtain ⟨_, _, _, _, _, _, _, _, _, _, -, rfl⟩ := hp; rfl) ?_
      rintro r_910 u_910 ⟨td2_910, Wb_910, Ws_910, Wc_910, Wt_910, X2_910, Y2_910, Wf2_910, B2_910, A2_910, rfl, rfl⟩
      refine g_ws (w2 := [ob 8 o [.ref (a 0), .ref (b 0), .ref y0, .ref x0, .ref v0, .ref g0, .ref k0, .ref m0], ob 5 (a 0) [.ref (a 1), .ref (a 2), .ref (a 3), .int (nI (sM C)), .int (nI (sW C))], ob 1 (a 1) [.ref (a 4)], ai E (a 4) 768 (sN C), ob 0 (a 2) [.ref (a 5)], az E (a 5) 96 (sU C), ob 3 (a 3) [.ref (a 6), .ref (a 7), .ref (a 8), .int (nI (sZ C))], ai E (a 6) 8 (sn C), ai E (a 7) 8 (sb C), ai E (a 8) 8 (ss C), ob 2 y0 [.ref y1, .int (nI hn)], aq E y1 3 (h3 (c0 0) (c1 0) (c2 0)), ob 5 (c0 0) [.ref (c0 1), .ref (c0 2), .ref (c0 3), .int (nI (sM (H 0))), .int (nI (sW (H 0)))], ob 1 (c0 1) [.ref (c0 4)], ai E (c0 4) 768 (sN (H 0)), ob 0 (c0 2) [.ref (c0 5)], az E (c0 5) 96 (sU (H 0)), ob 3 (c0 3) [.ref (c0 6), .ref (c0 7), .ref (c0 8), .int (nI (sZ (H 0)))], ai E (c0 6) 8 (sn (H 0)), ai E (c0 7) 8 (sb (H 0)), ai E (c0 8) 8 (ss (H 0)), ob 5 (c1 0) [.ref (c1 1), .ref (c1 2), .ref (c1 3), .int (nI (sM (H 1))), .int (nI (sW (H 1)))], ob 1 (c1 1) [.ref (c1 4)], ai E (c1 4) 768 (sN (H 1)), ob 0 (c1 2) [.ref (c1 5)], az E (c1 5) 96 (sU (H 1)), ob 3 (c1 3) [.ref (c1 6), .ref (c1 7), .ref (c1 8), .int (nI (sZ (H 1)))], ai E (c1 6) 8 (sn (H 1)), ai E (c1 7) 8 (sb (H 1)), ai E (c1 8) 8 (ss (H 1)), ob 5 (c2 0) [.ref (c2 1), .ref (c2 2), .ref (c2 3), .int (nI (sM (H 2))), .int (nI (sW (H 2)))], ob 1 (c2 1) [.ref (c2 4)], ai E (c2 4) 768 (sN (H 2)), ob 0 (c2 2) [.ref (c2 5)], az E (c2 5) 96 (sU (H 2)), ob 3 (c2 3) [.ref (c2 6), .ref (c2 7), .ref (c2 8), .int (nI (sZ (H 2)))], ai E (c2 6) 8 (sn (H 2)), ai E (c2 7) 8 (sb (H 2)), ai E (c2 8) 8 (ss (H 2)), ob 4 x0 [.ref tc, .int (nI 0), .int (nI 0), .int (nI 0), .int (nI 0), .int (nI 0), .int (nI 0)], ob 7 g0 [.ref g1, .ref g2, .ref g3, .ref g4, .int (nI td2_910)], ai E g1 3 Wb_910, ai E g2 3 Ws_910, ai E g3 3 Wc_910, ai E g4 12 Wt_910, ob 0 k0 [.ref k1], az E k1 96 X2_910, ob 0 m0 [.ref m1], az E m1 96 Y2_910, ai E qq 4 (qfS C), ai E li 24 lf, aj E us 2 (bu (sU C)), aj E c 64 (cc (sN C) 0), aj E d 64 (cc (sN C) 1), ai E w 9 Wf2_910, aj E q 2 B2_910, aj E al_ 2 A2_910]) ?_ ?_
      · exact rpl_eq [11, 12, 13, 14, 15, 16, 17, 18, 19, 20, 21, 22, 23, 24, 25, 26, 27, 28, 29, 30, 31, 32, 33, 34, 35, 36, 37, 38] 57 (by decide) rfl rfl rfl (by decide) (by decide) rfl rfl
      refine g_if_neN (tgt := 918) F dL_law_913 (by decide) (by decide) (fun c913 => ?_) (fun c913 => absurd c913 (by decide))
      refine g_lv [0, 1, 2, 3, 4, 5, 6, 7, 8, 9, 10] rfl ?_
      exact step ht C hn c0 c1 c2 H td2_910 Wb_910 Ws_910 Wc_910 Wt_910 X2_910 Y2_910 lf Wf2_910 B2_910 A2_910 hLS hli hhn
    intro C hn c0 c1 c2 H td eb es ec et X Y lf Wf B9 A9 hLS hli hhn
    have h8 := hLS.1.2.2.2.1
    have h1 := hLS.1.2.2.1
    show G Γ E (80 + 128 * t) (6000 + 384 * t) 227 [(0, .ref sc), (1, .ref o), (2, .ref qq), (3, .ref li), (4, .ref w), (5, .ref us), (6, .ref c), (7, .ref d), (8, .ref q), (9, .ref al_), (10, .int (nI t))] [] [ob 8 o [.ref (a 0), .ref (b 0), .ref y0, .ref x0, .ref v0, .ref g0, .ref k0, .ref m0], ob 5 (a 0) [.ref (a 1), .ref (a 2), .ref (a 3), .int (nI (sM C)), .int (nI (sW C))], ob 1 (a 1) [.ref (a 4)], ai E (a 4) 768 (sN C), ob 0 (a 2) [.ref (a 5)], az E (a 5) 96 (sU C), ob 3 (a 3) [.ref (a 6), .ref (a 7), .ref (a 8), .int (nI (sZ C))], ai E (a 6) 8 (sn C), ai E (a 7) 8 (sb C), ai E (a 8) 8 (ss C), ob 2 y0 [.ref y1, .int (nI hn)], aq E y1 3 (h3 (c0 0) (c1 0) (c2 0)), ob 5 (c0 0) [.ref (c0 1), .ref (c0 2), .ref (c0 3), .int (nI (sM (H 0))), .int (nI (sW (H 0)))], ob 1 (c0 1) [.ref (c0 4)], ai E (c0 4) 768 (sN (H 0)), ob 0 (c0 2) [.ref (c0 5)], az E (c0 5) 96 (sU (H 0)), ob 3 (c0 3) [.ref (c0 6), .ref (c0 7), .ref (c0 8), .int (nI (sZ (H 0)))], ai E (c0 6) 8 (sn (H 0)), ai E (c0 7) 8 (sb (H 0)), ai E (c0 8) 8 (ss (H 0)), ob 5 (c1 0) [.ref (c1 1), .ref (c1 2), .ref (c1 3), .int (nI (sM (H 1))), .int (nI (sW (H 1)))], ob 1 (c1 1) [.ref (c1 4)], ai E (c1 4) 768 (sN (H 1)), ob 0 (c1 2) [.ref (c1 5)], az E (c1 5) 96 (sU (H 1)), ob 3 (c1 3) [.ref (c1 6), .ref (c1 7), .ref (c1 8), .int (nI (sZ (H 1)))], ai E (c1 6) 8 (sn (H 1)), ai E (c1 7) 8 (sb (H 1)), ai E (c1 8) 8 (ss (H 1)), ob 5 (c2 0) [.ref (c2 1), .ref (c2 2), .ref (c2 3), .int (nI (sM (H 2))), .int (nI (sW (H 2)))], ob 1 (c2 1) [.ref (c2 4)], ai E (c2 4) 768 (sN (H 2)), ob 0 (c2 2) [.ref (c2 5)], az E (c2 5) 96 (sU (H 2)), ob 3 (c2 3) [.ref (c2 6), .ref (c2 7), .ref (c2 8), .int (nI (sZ (H 2)))], ai E (c2 6) 8 (sn (H 2)), ai E (c2 7) 8 (sb (H 2)), ai E (c2 8) 8 (ss (H 2)), ob 4 x0 [.ref tc, .int (nI 0), .int (nI 0), .int (nI 0), .int (nI 0), .int (nI 0), .int (nI 0)], ob 7 g0 [.ref g1, .ref g2, .ref g3, .ref g4, .int (nI td)], ai E g1 3 eb, ai E g2 3 es, ai E g3 3 ec, ai E g4 12 et, ob 0 k0 [.ref k1], az E k1 96 X, ob 0 m0 [.ref m1], az E m1 96 Y, ai E qq 4 (qfS C), ai E li 24 lf, aj E us 2 (bu (sU C)), aj E c 64 (cc (sN C) 0), aj E d 64 (cc (sN C) 1), ai E w 9 Wf, aj E q 2 B9, aj E al_ 2 A9]
    refine g_iload F 10 dL_law_227 rfl ?_
    refine g_bipush (v := nI 16) F dL_law_229 (by decide) ?_
    refine g_icmp_geN (tgt := 924) F dL_law_231 (by decide) (by omega) (by omega) (fun c231 => ?_) (fun c231 => ?_)
    · skip
      refine g_iconst (v := nI 1) F dL_law_924 (by decide) ?_
      refine g_widen (k := 80 + 128 * 16) (n := 6000 + 384 * 16) (by omega) (by omega) ?_
      exact hret _ _
    · skip
      refine g_aload_n F 0 dL_law_234 rfl rfl ?_
      refine g_iload F 10 dL_law_235 rfl ?_
      refine g_callX (index := 97) F hX (c_L_cell l E sc Ls xs t (by omega) (by omega)) dL_law_237 rfl (by decide) ⟨Nat.le_of_ble_eq_true rfl, Nat.le_of_ble_eq_true rfl⟩ rfl rfl ⟨Nat.le_trans (show 80 + 128 * t ≤ 4000 by omega) (Nat.le_of_ble_eq_true rfl), Nat.le_trans (show 6000 + 384 * t ≤ 20000 by omega) (Nat.le_of_ble_eq_true rfl)⟩ ggL_law_L_cell (by decide +kernel) (by decide +kernel) (by decide +kernel) (by decide +kernel) (fun x => ?_)
      refine g_istore (lv2 := [(11, .int (x)), (0, .ref sc), (1, .ref o), (2, .ref qq), (3, .ref li), (4, .ref w), (5, .ref us), (6, .ref c), (7, .ref d), (8, .ref q), (9, .ref al_), (10, .int (nI t))]) F dL_law_240 (by decide) rfl ?_
      refine g_iload F 0 dL_law_242 rfl ?_
      refine g_bipush (v := nI 9) F dL_law_244 (by decide) ?_
      refine g_callSiR (n := 2) F [] (c_L_low l E x 9 (by omega) (by omega)) dL_law_246 rfl (by decide) rfl rfl rfl (Nat.le_of_ble_eq_true rfl) ⟨Nat.le_of_ble_eq_true rfl, Nat.le_of_ble_eq_true rfl⟩ rfl rfl ⟨Nat.le_trans (show 80 + 128 * t ≤ 4000 by omega) (Nat.le_of_ble_eq_true rfl), Nat.le_trans (show 6000 + 384 * t ≤ 20000 by omega) (Nat.le_of_ble_eq_true rfl)⟩ ggL_law_L_low (by decide +kernel) (by decide +kernel) (by decide +kernel) (by decide +kernel) (fun r u hp => by obtain ⟨-, h⟩ := hp; exact h) ?_
      rintro r_246 u_246 ⟨rfl, -⟩
      obtain ⟨kd9, ekd9⟩ : ∃ y : Nat, y = lwv x 9 := ⟨_, rfl⟩
      have hkd9 : kd9 < 9 := by rw [ekd9]; exact lwv_lt _ (by decide)
      refine g_top (nI (lwv x 9)) (nI kd9) (by rw [ekd9]) ?_
      refine g_istore (lv2 := [(12, .int (nI kd9)), (11, .int (x)), (0, .ref sc), (1, .ref o), (2, .ref qq), (3, .ref li), (4, .ref w), (5, .ref us), (6, .ref c), (7, .ref d), (8, .ref q), (9, .ref al_), (10, .int (nI t))]) F dL_law_249 (by decide) rfl ?_
      refine g_iload F 1 dL_law_251 rfl ?_
      refine g_iconst (v := nI 4) F dL_law_253 (by decide) ?_
      refine g_ishr F dL_law_254 ?_
      refine g_bipush (v := nI 16) F dL_law_255 (by decide) ?_
      refine g_callSiR (n := 2) F [] (c_L_low l E (x >>> ((nI 4) &&& 31)) 16 (by omega) (by omega)) dL_law_257 rfl (by decide) rfl rfl rfl (Nat.le_of_ble_eq_true rfl) ⟨Nat.le_of_ble_eq_true rfl, Nat.le_of_ble_eq_true rfl⟩ rfl rfl ⟨Nat.le_trans (show 80 + 128 * t ≤ 4000 by omega) (Nat.le_of_ble_eq_true rfl), Nat.le_trans (show 6000 + 384 * t ≤ 20000 by omega) (Nat.le_of_ble_eq_true rfl)⟩ ggL_law_L_low (by decide +kernel) (by decide +kernel) (by decide +kernel) (by decide +kernel) (fun r u hp => by obtain ⟨-, h⟩ := hp; exact h) ?_
      rintro r_257 u_257 ⟨rfl, -⟩
      obtain ⟨leaf, eleaf⟩ : ∃ y : Nat, y = lwv (x >>> (nI 4 &&& 31)) 16 := ⟨_, rfl⟩
      have hleaf : leaf < 16 := by rw [eleaf]; exact lwv_lt _ (by decide)
      refine g_top (nI (lwv (x >>> ((nI 4) &&& 31)) 16)) (nI leaf) (by rw [eleaf]) ?_
      refine g_istore (lv2 := [(13, .int (nI leaf)), (12, .int (nI kd9)), (11, .int (x)), (0, .ref sc), (1, .ref o), (2, .ref qq), (3, .ref li), (4, .ref w), (5, .ref us), (6, .ref c), (7, .ref d), (8, .ref q), (9, .ref al_), (10, .int (nI t))]) F dL_law_260 (by decide) rfl ?_
      refine g_iload F 2 dL_law_262 rfl ?_
      refine g_iconst (v := nI 3) F dL_law_264 (by decide) ?_
      refine g_ishr F dL_law_265 ?_
      refine g_aload_n F 5 dL_law_266 rfl rfl ?_
      refine g_iconst (v := nI 0) F dL_law_267 (by decide) ?_
      refine g_iald F 49 dL_law_268 rfl (by omega) (by decide) ?_
      refine g_top (nI ((qfS C) 0)) (nI (sZ C)) (by rfl) ?_
      refine g_callSiR (n := 2) F [] (c_L_low l E (x >>> ((nI 3) &&& 31)) (sZ C) (by omega) (by omega)) dL_law_269 rfl (by decide) rfl rfl rfl (Nat.le_of_ble_eq_true rfl) ⟨Nat.le_of_ble_eq_true rfl, Nat.le_of_ble_eq_true rfl⟩ rfl rfl ⟨Nat.le_trans (show 80 + 128 * t ≤ 4000 by omega) (Nat.le_of_ble_eq_true rfl), Nat.le_trans (show 6000 + 384 * t ≤ 20000 by omega) (Nat.le_of_ble_eq_true rfl)⟩ ggL_law_L_low (by decide +kernel) (by decide +kernel) (by decide +kernel) (by decide +kernel) (fun r u hp => by obtain ⟨-, h⟩ := hp; exact h) ?_
      rintro r_269 u_269 ⟨rfl, -⟩
      obtain ⟨r, er⟩ : ∃ y : Nat, y = lwv (x >>> (nI 3 &&& 31)) (sZ C) := ⟨_, rfl⟩
      have hr : r < sZ C := by rw [er]; exact lwv_lt _ (by omega)
      refine g_top (nI (lwv (x >>> ((nI 3) &&& 31)) (sZ C))) (nI r) (by rw [er]) ?_
      refine g_istore (lv2 := [(14, .int (nI r)), (13, .int (nI leaf)), (12, .int (nI kd9)), (11, .int (x)), (0, .ref sc), (1, .ref o), (2, .ref qq), (3, .ref li), (4, .ref w), (5, .ref us), (6, .ref c), (7, .ref d), (8, .ref q), (9, .ref al_), (10, .int (nI t))]) F dL_law_272 (by decide) rfl ?_
      refine g_iload F 2 dL_law_274 rfl ?_
      refine g_iconst (v := nI 4) F dL_law_276 (by decide) ?_
      refine g_icmp_geN (tgt := 384) F dL_law_277 (by decide) (by omega) (by omega) (fun c277 => ?_) (fun c277 => ?_)
      · skip
        refine g_iload F 2 dL_law_384 rfl ?_
        refine g_iconst (v := nI 4) F dL_law_386 (by decide) ?_
        refine g_icmp_neN (tgt := 589) F dL_law_387 (by decide) (by omega) (by omega) (fun c387 => ?_) (fun c387 => ?_)
        · skip
          refine g_iload F 2 dL_law_589 rfl ?_
          refine g_iconst (v := nI 5) F dL_law_591 (by decide) ?_
          refine g_icmp_neN (tgt := 622) F dL_law_592 (by decide) (by omega) (by omega) (fun c592 => ?_) (fun c592 => ?_)
          · skip
            refine g_iload F 2 dL_law_622 rfl ?_
            refine g_bipush (v := nI 6) F dL_law_624 (by decide) ?_
            refine g_icmp_neN (tgt := 712) F dL_law_626 (by decide) (by omega) (by omega) (fun c626 => ?_) (fun c626 => ?_)
            · skip
              refine g_iload F 2 dL_law_712 rfl ?_
              refine g_bipush (v := nI 7) F dL_law_714 (by decide) ?_
              refine g_icmp_neN (tgt := 807) F dL_law_716 (by decide) (by omega) (by omega) (fun c716 => ?_) (fun c716 => ?_)
              · skip
                refine g_lv [4, 5, 6, 7, 8, 9, 10, 11, 12, 13, 14, 3, 1, 0] rfl ?_
                exact law_back F c231 (step c231) (cmp c231) C hn c0 c1 c2 H td eb es ec et X Y lf Wf B9 A9 x leaf r hLS hli hhn hleaf hr
              · skip
                refine g_lv [4, 5, 6, 7, 8, 9, 10, 11, 12, 13, 14, 3, 1, 0] rfl ?_
                exact law_free F c231 (step c231) (cmp c231) C hn c0 c1 c2 H td eb es ec et X Y lf Wf B9 A9 x leaf r hLS hli hhn hleaf hr
            · skip
              refine g_lv [4, 5, 6, 7, 8, 9, 10, 11, 12, 13, 14, 3, 1, 0] rfl ?_
              exact law_scrub F c231 (step c231) (cmp c231) C hn c0 c1 c2 H td eb es ec et X Y lf Wf B9 A9 x leaf r hLS hli hhn hleaf hr
          · skip
            refine g_lv [4, 5, 6, 7, 8, 9, 10, 11, 12, 13, 14, 3, 1, 0] rfl ?_
            exact law_mend F c231 (step c231) (cmp c231) C hn c0 c1 c2 H td eb es ec et X Y lf Wf B9 A9 x leaf r hLS hli hhn hleaf hr
        · skip
          refine g_lv [4, 5, 6, 7, 8, 9, 10, 11, 12, 13, 14, 3, 1, 0] rfl ?_
          exact law_rot F c231 (step c231) (cmp c231) C hn c0 c1 c2 H td eb es ec et X Y lf Wf B9 A9 x leaf r hLS hli hhn hleaf hr
      · skip
        refine g_lv [4, 5, 6, 7, 8, 9, 10, 11, 12, 13, 14, 3, 1, 0] rfl ?_
        exact law_wr F c231 (step c231) (cmp c231) C hn c0 c1 c2 H td eb es ec et X Y lf Wf B9 A9 x leaf r hLS hli hhn hleaf hr
