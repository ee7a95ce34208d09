/-! The judgement G: from a place of a method, with these locals, this stack and this world (whatever the heap that bears it), the run comes to its end. Γ: all that a body keeps; E: the tables' numbers. -/
def nf (S : Nat → Nat) : Nat → Int32 := fun j => nI (S j)
def up (S : Nat → Nat) (i v : Nat) : Nat → Nat := fun j => if j = i then v else S j
theorem up_s (S : Nat → Nat) (i v : Nat) : up S i v i = v := if_pos rfl
theorem up_n (S : Nat → Nat) {i j : Nat} (v : Nat) (h : j ≠ i) : up S i v j = S j := if_neg h
theorem upd_nf (S : Nat → Nat) (i v : Nat) : upd (nf S) i (nI v) = nf (up S i v) := by
  funext j
  unfold upd nf up
  by_cases h : j = i
  · rw [if_pos h, if_pos h]
  · rw [if_neg h, if_neg h]
noncomputable def bi (P : Prop) : Int32 := @ite Int32 P (Classical.propDecidable P) 1 0
theorem bi_pos {P : Prop} (h : P) : bi P = 1 := by unfold bi; exact if_pos h
theorem bi_neg {P : Prop} (h : ¬ P) : bi P = 0 := by unfold bi; exact if_neg h
theorem bi_eq0 {P : Prop} : bi P = 0 ↔ ¬ P := by
  by_cases h : P
  · rw [bi_pos h]; exact ⟨fun z => absurd z (by decide), fun z => absurd h z⟩
  · rw [bi_neg h]; exact ⟨fun _ => h, fun _ => rfl⟩
theorem bi_narrow (P : Prop) : narrow .boolean (.int (bi P)) = .int (bi P) := by
  by_cases h : P
  · rw [bi_pos h]; decide
  · rw [bi_neg h]; decide
theorem bi_congr {P P' : Prop} (h : P ↔ P') : bi P = bi P' := by rw [propext h]
abbrev En : Type := va_G × ClassId × ClassId × ClassId × ClassId × ClassId
def T4 (E : En) : List (ClassId × FieldType) := [(E.2.1, .int), (E.2.2.1, .boolean), (E.2.2.2.1, .char), (E.2.2.2.2.1, .object "SummedParents$State"), (E.2.2.2.2.2, .long)]
def ob (ci a : Nat) (fs : List Value) : Nat × va_E := (a, .inr (ci, fs))
def ai (E : En) (a n : Nat) (f : Nat → Nat) : Nat × va_E := (a, .inl (E.2.1, n, .inl (nf f)))
def ax (E : En) (a n : Nat) (f : Nat → Int32) : Nat × va_E := (a, .inl (E.2.1, n, .inl f))
def az (E : En) (a n : Nat) (f : Nat → Nat) : Nat × va_E := (a, .inl (E.2.2.1, n, .inl (nf f)))
def ac (E : En) (a n : Nat) (f : Nat → Nat) : Nat × va_E := (a, .inl (E.2.2.2.1, n, .inl (nf f)))
def aq (E : En) (a n : Nat) (f : Nat → Option Nat) : Nat × va_E := (a, .inl (E.2.2.2.2.1, n, .inr (.inr (.inr (.inr f)))))
def aj (E : En) (a n : Nat) (f : Nat → Int64) : Nat × va_E := (a, .inl (E.2.2.2.2.2, n, .inr (.inl f)))
def KE (E : En) (U : State) : Prop := va_K E.1 vwCl (T4 E) U
def nestOk : Cond → Bool
  | .fieldLinkNest .. => true
  | .methodLinkNest .. => true
  | _ => false
def nestWs : List Cond := [.fieldLinkNest "SummedParents" 82 "SummedParents$State" "blocks" "LSummedParents$Blocks;" "SummedParents",
  .fieldLinkNest "SummedParents" 169 "SummedParents$State" "used" "LSummedParents$BlockSet;" "SummedParents",
  .fieldLinkNest "SummedParents" 133 "SummedParents$State" "roots" "LSummedParents$RootList;" "SummedParents",
  .fieldLinkNest "SummedParents" 77 "SummedParents$State" "nextMishap" "I" "SummedParents",
  .fieldLinkNest "SummedParents" 172 "SummedParents$State" "writes" "I" "SummedParents",
  .methodLinkNest "SummedParents" 9 ⟨"SummedParents$State", "<init>", "()V"⟩ "SummedParents",
  .methodLinkNest "SummedParents$State" 11 ⟨"SummedParents$Blocks", "<init>", "()V"⟩ "SummedParents",
  .methodLinkNest "SummedParents$State" 20 ⟨"SummedParents$BlockSet", "<init>", "()V"⟩ "SummedParents",
  .methodLinkNest "SummedParents$State" 27 ⟨"SummedParents$RootList", "<init>", "()V"⟩ "SummedParents",
  .methodLinkNest "SummedParents$Blocks" 23 ⟨"SummedParents", "sumFrom", "([II)I"⟩ "SummedParents",
  .methodLinkNest "SummedParents$Blocks" 19 ⟨"SummedParents", "below", "(II)Z"⟩ "SummedParents",
  .methodLinkNest "SummedParents$BlockSet" 15 ⟨"SummedParents", "below", "(II)Z"⟩ "SummedParents",
  .methodLinkNest "SummedParents$RootList" 25 ⟨"SummedParents", "below", "(II)Z"⟩ "SummedParents",
  .methodLinkNest "SummedParents$History" 17 ⟨"SummedParents$State", "<init>", "()V"⟩ "SummedParents",
  .methodLinkNest "SummedParents" 31 ⟨"SummedParents$Script", "<init>", "()V"⟩ "SummedParents",
  .methodLinkNest "SummedParents" 38 ⟨"SummedParents$Verdict", "<init>", "()V"⟩ "SummedParents",
  .methodLinkNest "SummedParents" 45 ⟨"SummedParents$Way", "<init>", "()V"⟩ "SummedParents",
  .methodLinkNest "SummedParents" 52 ⟨"SummedParents$BlockSet", "<init>", "()V"⟩ "SummedParents",
  .methodLinkNest "SummedParents$Way" 28 ⟨"SummedParents", "below", "(II)Z"⟩ "SummedParents",
  .methodLinkNest "SummedParents$State" 88 ⟨"SummedParents", "childTowards", "(II)I"⟩ "SummedParents",
  .methodLinkNest "SummedParents$History" 25 ⟨"SummedParents", "below", "(II)Z"⟩ "SummedParents",
  .methodLinkNest "SummedParents$Way" 40 ⟨"SummedParents", "sumFrom", "([II)I"⟩ "SummedParents",
  .methodLinkNest "SummedParents$State" 142 ⟨"SummedParents", "below", "(II)Z"⟩ "SummedParents"]
theorem nestWs_ok : nestWs.all nestOk = true := by decide +kernel
def NW (U : State) : Prop := (∀ w ∈ nestWs, va_Nw w U) ∧ va_AO "SummedParents$State" U
theorem nw_warm1 {w : Cond} {s U : State} (hn : nestOk w = true) (hW : s.WarmedH U.vm) (h : va_Nw w s) : va_Nw w U := by
  cases w <;> first | exact h.warmF hW | exact h.warmM hW | exact va_Nw.warmF hW h | exact va_Nw.warmM hW h | (simp [nestOk] at hn; done)
theorem NW.warm {s U : State} (hW : s.WarmedH U.vm) (h : NW s) : NW U := ⟨fun w hw => nw_warm1 (List.all_eq_true.mp nestWs_ok w hw) hW (h.1 w hw), h.2.moved hW.alike⟩
theorem nw_same1 {w : Cond} {s U : State} (hn : nestOk w = true) (hW : s.vm = U.vm) (h : va_Nw w s) : va_Nw w U := by
  refine va_Nw.same ?_ hW h
  cases w <;> first | rfl | (simp [nestOk] at hn; done)
theorem NW.same {s U : State} (hW : s.vm = U.vm) (h : NW s) : NW U := ⟨fun w hw => nw_same1 (List.all_eq_true.mp nestWs_ok w hw) hW (h.1 w hw), h.2.moved (by rw [hW]; exact Vm.Alike.refl U.vm)⟩
def PB (E : En) (w : va_W) (sz : Nat) (U : State) : Prop := U.heap.size = sz ∧ va_P E.1 vwCl w U.heap ∧ KE E U ∧ va_D (fun _ => True) w ∧ NW U
def WB (E : En) (A : Nat → Prop) (u : va_W) (t : State) : Prop := va_P E.1 vwCl u t.heap ∧ va_D A u
def CtI (l : Launch) (y : MethodName) (ws : List Cond) (rm : Room) (E : En) (av : List Value) (w : va_W) (post : Int32 → va_W → Prop) : Prop :=
  ∀ sz : Nat, Met l y ws rm (va_Pc av (PB E w sz)) (va_Qi post (WB E (va_A w sz)) (va_A w sz)) rm.cells rm.slots (va_A w sz)
def CtV (l : Launch) (y : MethodName) (ws : List Cond) (rm : Room) (E : En) (av : List Value) (w : va_W) (post : va_W → Prop) : Prop :=
  ∀ sz : Nat, Met l y ws rm (va_Pc av (PB E w sz)) (va_Qv post (WB E (va_A w sz)) (va_A w sz)) rm.cells rm.slots (va_A w sz)
def CtJ (l : Launch) (y : MethodName) (ws : List Cond) (rm : Room) (E : En) (av : List Value) (w : va_W) (post : Int64 → va_W → Prop) : Prop :=
  ∀ sz : Nat, Met l y ws rm (va_Pc av (PB E w sz)) (va_Ql post (WB E (va_A w sz)) (va_A w sz)) rm.cells rm.slots (va_A w sz)
abbrev Gm : Type := Program × Launch × Env × Room × State × MethodId × Array Value × List Frame × Method × Code × Nat × (Nat → Prop) × (State → Prop)
def G (Γ : Gm) (E : En) (nc ns : Nat) (pc : Nat) (lv : List (Nat × Value)) (st : List Value) (w : va_W) : Prop :=
  match Γ with
  | (p, l, e, R, s, m, args, below, meth, c, nL, A, Q) => ∀ (H : Heap) (locs : List Loc) (ls : Array Slot), va_P E.1 vwCl w H → va_D A w → va_S A s.heap H locs → lv_has ls nL lv → W p l e R s m args below meth c H locs nc ns Q (F0 m pc ls st)
def Fx (Γ : Gm) (E : En) (cc : ByteArray) (nL' : Nat) (Ts : List Cond) (own : String) (R' : Room) (l' : Launch) : Prop :=
  match Γ with
  | (p, l, e, R, s, m, args, below, meth, c, nL, A, Q) => p.tables.exec = Jvm.exec ∧ c.code = cc ∧ c.maxLocals = nL ∧ nL = nL' ∧ R = R' ∧ s.vm.findClass own = some m.cls ∧ (∀ w ∈ Ts, w.before args s = true) ∧ NW s ∧ KE E s ∧ (∀ q : Nat, s.heap.size ≤ q → A q) ∧ l = l'
def Hin (Γ : Gm) : Prop := match Γ with
  | (p, l, e, R, s, m, args, below, meth, c, nL, A, Q) => meth.name = "<init>"
/-- a body's end, for an int, for nothing -/
def RetI (Γ : Gm) (E : En) (cc : ByteArray) (nc ns : Nat) (post : Int32 → va_W → Prop) : Prop := ∀ (pc : Nat) (lv : List (Nat × Value)) (r : Int32) (u : va_W), decode cc pc = .ok (.ireturn, 1) → post r u → G Γ E nc ns pc lv [.int r] u
def RetJ (Γ : Gm) (E : En) (cc : ByteArray) (nc ns : Nat) (post : Int64 → va_W → Prop) : Prop := ∀ (pc : Nat) (lv : List (Nat × Value)) (r : Int64) (u : va_W), decode cc pc = .ok (.lreturn, 1) → post r u → G Γ E nc ns pc lv [.long r] u
def RetV (Γ : Gm) (E : En) (cc : ByteArray) (nc ns : Nat) (post : va_W → Prop) : Prop := ∀ (pc : Nat) (lv : List (Nat × Value)) (u : va_W), decode cc pc = .ok (.return_, 1) → post u → G Γ E nc ns pc lv [] u

section GR
variable {Γ : Gm} {E : En} {nc ns : Nat} {pc : Nat} {lv : List (Nat × Value)} {st : List Value} {w : va_W} {cc : ByteArray} {nL0 : Nat} {Ts : List Cond} {own : String} {R0 : Room} {l0 : Launch}
theorem g_iconst (F : Fx Γ E cc nL0 Ts own R0 l0) {n : Int} {v : Int32} (hdg : decode cc pc = .ok (.iconst n, 1)) (hv : Int32.ofInt n = v) (kk : G Γ E nc ns (pc + 1) lv (.int v :: st) w) : G Γ E nc ns pc lv (st) w := by
  obtain ⟨p, l, e, R, s, m, args, below, meth, c, nL, A, Q⟩ := Γ
  obtain ⟨hx, hb, hml, hnl, hR, hown, hts, hN, hK, hA, hll⟩ := F
  intro H locs ls hP hD hS h
  exact lv_iconst hx hb hdg hv (kk H locs ls hP hD hS h)
theorem g_bipush (F : Fx Γ E cc nL0 Ts own R0 l0) {n : Int} {v : Int32} (hdg : decode cc pc = .ok (.bipush n, 2)) (hv : (Int8.ofInt n).toInt32 = v) (kk : G Γ E nc ns (pc + 2) lv (.int v :: st) w) : G Γ E nc ns pc lv (st) w := by
  obtain ⟨p, l, e, R, s, m, args, below, meth, c, nL, A, Q⟩ := Γ
  obtain ⟨hx, hb, hml, hnl, hR, hown, hts, hN, hK, hA, hll⟩ := F
  intro H locs ls hP hD hS h
  exact lv_bipush hx hb hdg hv (kk H locs ls hP hD hS h)
theorem g_sipush (F : Fx Γ E cc nL0 Ts own R0 l0) {n : Int} {v : Int32} (hdg : decode cc pc = .ok (.sipush n, 3)) (hv : (Int16.ofInt n).toInt32 = v) (kk : G Γ E nc ns (pc + 3) lv (.int v :: st) w) : G Γ E nc ns pc lv (st) w := by
  obtain ⟨p, l, e, R, s, m, args, below, meth, c, nL, A, Q⟩ := Γ
  obtain ⟨hx, hb, hml, hnl, hR, hown, hts, hN, hK, hA, hll⟩ := F
  intro H locs ls hP hD hS h
  exact lv_sipush hx hb hdg hv (kk H locs ls hP hD hS h)
theorem g_ldc (F : Fx Γ E cc nL0 Ts own R0 l0) {index : Nat} {v : Int32} (hdg : decode cc pc = .ok (.ldc index, 2)) (hv : Cond.constant own index v ∈ Ts) (kk : G Γ E nc ns (pc + 2) lv (.int v :: st) w) : G Γ E nc ns pc lv (st) w := by
  obtain ⟨p, l, e, R, s, m, args, below, meth, c, nL, A, Q⟩ := Γ
  obtain ⟨hx, hb, hml, hnl, hR, hown, hts, hN, hK, hA, hll⟩ := F
  intro H locs ls hP hD hS h
  exact lv_ldc hx hb hown (hts _ hv) hdg (kk H locs ls hP hD hS h)
theorem g_iload_n (F : Fx Γ E cc nL0 Ts own R0 l0) {k : Fin 4} {i : Nat} {x : Int32} (j : Nat) (hdg : decode cc pc = .ok (.iload_n k, 1)) (hi : (k : Nat) = i) (hl : lv[j]? = some (i, .int x)) (kk : G Γ E nc ns (pc + 1) lv (.int x :: st) w) : G Γ E nc ns pc lv (st) w := by
  obtain ⟨p, l, e, R, s, m, args, below, meth, c, nL, A, Q⟩ := Γ
  obtain ⟨hx, hb, hml, hnl, hR, hown, hts, hN, hK, hA, hll⟩ := F
  intro H locs ls hP hD hS h
  exact lv_iload_n hx hb hdg hi (lv_at h j hl) (kk H locs ls hP hD hS h)
theorem g_iload (F : Fx Γ E cc nL0 Ts own R0 l0) {i : Nat} {x : Int32} (j : Nat) (hdg : decode cc pc = .ok (.iload i, 2)) (hl : lv[j]? = some (i, .int x)) (kk : G Γ E nc ns (pc + 2) lv (.int x :: st) w) : G Γ E nc ns pc lv (st) w := by
  obtain ⟨p, l, e, R, s, m, args, below, meth, c, nL, A, Q⟩ := Γ
  obtain ⟨hx, hb, hml, hnl, hR, hown, hts, hN, hK, hA, hll⟩ := F
  intro H locs ls hP hD hS h
  exact lv_iload hx hb hdg (lv_at h j hl) (kk H locs ls hP hD hS h)
theorem g_aload_n (F : Fx Γ E cc nL0 Ts own R0 l0) {k : Fin 4} {i : Nat} {x : Nat} (j : Nat) (hdg : decode cc pc = .ok (.aload_n k, 1)) (hi : (k : Nat) = i) (hl : lv[j]? = some (i, .ref x)) (kk : G Γ E nc ns (pc + 1) lv (.ref x :: st) w) : G Γ E nc ns pc lv (st) w := by
  obtain ⟨p, l, e, R, s, m, args, below, meth, c, nL, A, Q⟩ := Γ
  obtain ⟨hx, hb, hml, hnl, hR, hown, hts, hN, hK, hA, hll⟩ := F
  intro H locs ls hP hD hS h
  exact lv_aload_n hx hb hdg hi (lv_at h j hl) (kk H locs ls hP hD hS h)
theorem g_aload (F : Fx Γ E cc nL0 Ts own R0 l0) {i : Nat} {x : Nat} (j : Nat) (hdg : decode cc pc = .ok (.aload i, 2)) (hl : lv[j]? = some (i, .ref x)) (kk : G Γ E nc ns (pc + 2) lv (.ref x :: st) w) : G Γ E nc ns pc lv (st) w := by
  obtain ⟨p, l, e, R, s, m, args, below, meth, c, nL, A, Q⟩ := Γ
  obtain ⟨hx, hb, hml, hnl, hR, hown, hts, hN, hK, hA, hll⟩ := F
  intro H locs ls hP hD hS h
  exact lv_aload hx hb hdg (lv_at h j hl) (kk H locs ls hP hD hS h)
theorem g_iadd (F : Fx Γ E cc nL0 Ts own R0 l0) {x y : Int32} (hdg : decode cc pc = .ok (.iadd, 1))  (kk : G Γ E nc ns (pc + 1) lv (.int (x + y) :: st) w) : G Γ E nc ns pc lv (.int y :: .int x :: st) w := by
  obtain ⟨p, l, e, R, s, m, args, below, meth, c, nL, A, Q⟩ := Γ
  obtain ⟨hx, hb, hml, hnl, hR, hown, hts, hN, hK, hA, hll⟩ := F
  intro H locs ls hP hD hS h
  exact lv_iadd hx hb hdg (kk H locs ls hP hD hS h)
theorem g_isub (F : Fx Γ E cc nL0 Ts own R0 l0) {x y : Int32} (hdg : decode cc pc = .ok (.isub, 1))  (kk : G Γ E nc ns (pc + 1) lv (.int (x - y) :: st) w) : G Γ E nc ns pc lv (.int y :: .int x :: st) w := by
  obtain ⟨p, l, e, R, s, m, args, below, meth, c, nL, A, Q⟩ := Γ
  obtain ⟨hx, hb, hml, hnl, hR, hown, hts, hN, hK, hA, hll⟩ := F
  intro H locs ls hP hD hS h
  exact lv_isub hx hb hdg (kk H locs ls hP hD hS h)
theorem g_imul (F : Fx Γ E cc nL0 Ts own R0 l0) {x y : Int32} (hdg : decode cc pc = .ok (.imul, 1))  (kk : G Γ E nc ns (pc + 1) lv (.int (x * y) :: st) w) : G Γ E nc ns pc lv (.int y :: .int x :: st) w := by
  obtain ⟨p, l, e, R, s, m, args, below, meth, c, nL, A, Q⟩ := Γ
  obtain ⟨hx, hb, hml, hnl, hR, hown, hts, hN, hK, hA, hll⟩ := F
  intro H locs ls hP hD hS h
  exact lv_imul hx hb hdg (kk H locs ls hP hD hS h)
theorem g_iand (F : Fx Γ E cc nL0 Ts own R0 l0) {x y : Int32} (hdg : decode cc pc = .ok (.iand, 1))  (kk : G Γ E nc ns (pc + 1) lv (.int (x &&& y) :: st) w) : G Γ E nc ns pc lv (.int y :: .int x :: st) w := by
  obtain ⟨p, l, e, R, s, m, args, below, meth, c, nL, A, Q⟩ := Γ
  obtain ⟨hx, hb, hml, hnl, hR, hown, hts, hN, hK, hA, hll⟩ := F
  intro H locs ls hP hD hS h
  exact lv_iand hx hb hdg (kk H locs ls hP hD hS h)
theorem g_ior (F : Fx Γ E cc nL0 Ts own R0 l0) {x y : Int32} (hdg : decode cc pc = .ok (.ior, 1))  (kk : G Γ E nc ns (pc + 1) lv (.int (x ||| y) :: st) w) : G Γ E nc ns pc lv (.int y :: .int x :: st) w := by
  obtain ⟨p, l, e, R, s, m, args, below, meth, c, nL, A, Q⟩ := Γ
  obtain ⟨hx, hb, hml, hnl, hR, hown, hts, hN, hK, hA, hll⟩ := F
  intro H locs ls hP hD hS h
  exact lv_ior hx hb hdg (kk H locs ls hP hD hS h)
theorem g_ishl (F : Fx Γ E cc nL0 Ts own R0 l0) {x y : Int32} (hdg : decode cc pc = .ok (.ishl, 1))  (kk : G Γ E nc ns (pc + 1) lv (.int (x <<< (y &&& 31)) :: st) w) : G Γ E nc ns pc lv (.int y :: .int x :: st) w := by
  obtain ⟨p, l, e, R, s, m, args, below, meth, c, nL, A, Q⟩ := Γ
  obtain ⟨hx, hb, hml, hnl, hR, hown, hts, hN, hK, hA, hll⟩ := F
  intro H locs ls hP hD hS h
  exact lv_ishl hx hb hdg (kk H locs ls hP hD hS h)
theorem g_ishr (F : Fx Γ E cc nL0 Ts own R0 l0) {x y : Int32} (hdg : decode cc pc = .ok (.ishr, 1))  (kk : G Γ E nc ns (pc + 1) lv (.int (x >>> (y &&& 31)) :: st) w) : G Γ E nc ns pc lv (.int y :: .int x :: st) w := by
  obtain ⟨p, l, e, R, s, m, args, below, meth, c, nL, A, Q⟩ := Γ
  obtain ⟨hx, hb, hml, hnl, hR, hown, hts, hN, hK, hA, hll⟩ := F
  intro H locs ls hP hD hS h
  exact lv_ishr hx hb hdg (kk H locs ls hP hD hS h)
theorem g_idiv (F : Fx Γ E cc nL0 Ts own R0 l0) {x y : Int32} (hdg : decode cc pc = .ok (.idiv, 1)) (hne : ¬ y = 0) (kk : G Γ E nc ns (pc + 1) lv (.int (x / y) :: st) w) : G Γ E nc ns pc lv (.int y :: .int x :: st) w := by
  obtain ⟨p, l, e, R, s, m, args, below, meth, c, nL, A, Q⟩ := Γ
  obtain ⟨hx, hb, hml, hnl, hR, hown, hts, hN, hK, hA, hll⟩ := F
  intro H locs ls hP hD hS h
  exact lv_idiv hx hb hdg hne (kk H locs ls hP hD hS h)
theorem g_irem (F : Fx Γ E cc nL0 Ts own R0 l0) {x y : Int32} (hdg : decode cc pc = .ok (.irem, 1)) (hne : ¬ y = 0) (kk : G Γ E nc ns (pc + 1) lv (.int (x - x / y * y) :: st) w) : G Γ E nc ns pc lv (.int y :: .int x :: st) w := by
  obtain ⟨p, l, e, R, s, m, args, below, meth, c, nL, A, Q⟩ := Γ
  obtain ⟨hx, hb, hml, hnl, hR, hown, hts, hN, hK, hA, hll⟩ := F
  intro H locs ls hP hD hS h
  exact lv_irem hx hb hdg hne (kk H locs ls hP hD hS h)
theorem g_i2c (F : Fx Γ E cc nL0 Ts own R0 l0) {x v : Int32} (hdg : decode cc pc = .ok (.i2c, 1)) (hv : (x.toUInt32 % 65536).toInt32 = v) (kk : G Γ E nc ns (pc + 1) lv (.int v :: st) w) : G Γ E nc ns pc lv (.int x :: st) w := by
  obtain ⟨p, l, e, R, s, m, args, below, meth, c, nL, A, Q⟩ := Γ
  obtain ⟨hx, hb, hml, hnl, hR, hown, hts, hN, hK, hA, hll⟩ := F
  intro H locs ls hP hD hS h
  exact lv_i2c hx hb hdg hv (kk H locs ls hP hD hS h)
theorem g_dup (F : Fx Γ E cc nL0 Ts own R0 l0) {va : Value} (hdg : decode cc pc = .ok (.dup, 1)) (hva : va.category = 1) (kk : G Γ E nc ns (pc + 1) lv (va :: va :: st) w) : G Γ E nc ns pc lv (va :: st) w := by
  obtain ⟨p, l, e, R, s, m, args, below, meth, c, nL, A, Q⟩ := Γ
  obtain ⟨hx, hb, hml, hnl, hR, hown, hts, hN, hK, hA, hll⟩ := F
  intro H locs ls hP hD hS h
  exact lv_dup hx hb hdg hva (kk H locs ls hP hD hS h)
theorem g_pop (F : Fx Γ E cc nL0 Ts own R0 l0) {va : Value} (hdg : decode cc pc = .ok (.pop, 1)) (hva : va.category = 1) (kk : G Γ E nc ns (pc + 1) lv (st) w) : G Γ E nc ns pc lv (va :: st) w := by
  obtain ⟨p, l, e, R, s, m, args, below, meth, c, nL, A, Q⟩ := Γ
  obtain ⟨hx, hb, hml, hnl, hR, hown, hts, hN, hK, hA, hll⟩ := F
  intro H locs ls hP hD hS h
  exact lv_pop hx hb hdg hva (kk H locs ls hP hD hS h)
theorem g_dup2 (F : Fx Γ E cc nL0 Ts own R0 l0) {va vb : Value} (hdg : decode cc pc = .ok (.dup2, 1)) (hva : va.category = 1) (hvb : vb.category = 1) (kk : G Γ E nc ns (pc + 1) lv (va :: vb :: va :: vb :: st) w) : G Γ E nc ns pc lv (va :: vb :: st) w := by
  obtain ⟨p, l, e, R, s, m, args, below, meth, c, nL, A, Q⟩ := Γ
  obtain ⟨hx, hb, hml, hnl, hR, hown, hts, hN, hK, hA, hll⟩ := F
  intro H locs ls hP hD hS h
  exact lv_dup2_11 hx hb hdg hva hvb (kk H locs ls hP hD hS h)
theorem g_istore_n (F : Fx Γ E cc nL0 Ts own R0 l0) {k : Fin 4} {i : Nat} {x : Int32} {lv2 : List (Nat × Value)} (hdg : decode cc pc = .ok (.istore_n k, 1)) (hi : (k : Nat) = i) (hn : i < nL0) (hl : (i, Value.int x) :: lv.filter (fun q => !(q.1 == i) && !(q.1 + 1 == i && q.2.category == 2)) = lv2) (kk : G Γ E nc ns (pc + 1) lv2 st w) : G Γ E nc ns pc lv (.int x :: st) w := by
  obtain ⟨p, l, e, R, s, m, args, below, meth, c, nL, A, Q⟩ := Γ
  obtain ⟨hx, hb, hml, hnl, hR, hown, hts, hN, hK, hA, hll⟩ := F
  intro H locs ls hP hD hS h
  subst hnl
  exact lv_istore_n hx hb hdg hi h hn hl (fun ls2 h2 => kk H locs ls2 hP hD hS h2)
theorem g_astore_n (F : Fx Γ E cc nL0 Ts own R0 l0) {k : Fin 4} {i : Nat} {x : Nat} {lv2 : List (Nat × Value)} (hdg : decode cc pc = .ok (.astore_n k, 1)) (hi : (k : Nat) = i) (hn : i < nL0) (hl : (i, Value.ref x) :: lv.filter (fun q => !(q.1 == i) && !(q.1 + 1 == i && q.2.category == 2)) = lv2) (kk : G Γ E nc ns (pc + 1) lv2 st w) : G Γ E nc ns pc lv (.ref x :: st) w := by
  obtain ⟨p, l, e, R, s, m, args, below, meth, c, nL, A, Q⟩ := Γ
  obtain ⟨hx, hb, hml, hnl, hR, hown, hts, hN, hK, hA, hll⟩ := F
  intro H locs ls hP hD hS h
  subst hnl
  exact lv_astore_n hx hb hdg hi h hn hl (fun ls2 h2 => kk H locs ls2 hP hD hS h2)
theorem g_istore (F : Fx Γ E cc nL0 Ts own R0 l0) {i : Nat} {x : Int32} {lv2 : List (Nat × Value)} (hdg : decode cc pc = .ok (.istore i, 2)) (hn : i < nL0) (hl : (i, Value.int x) :: lv.filter (fun q => !(q.1 == i) && !(q.1 + 1 == i && q.2.category == 2)) = lv2) (kk : G Γ E nc ns (pc + 2) lv2 st w) : G Γ E nc ns pc lv (.int x :: st) w := by
  obtain ⟨p, l, e, R, s, m, args, below, meth, c, nL, A, Q⟩ := Γ
  obtain ⟨hx, hb, hml, hnl, hR, hown, hts, hN, hK, hA, hll⟩ := F
  intro H locs ls hP hD hS h
  subst hnl
  exact lv_istore hx hb hdg h hn hl (fun ls2 h2 => kk H locs ls2 hP hD hS h2)
theorem g_astore (F : Fx Γ E cc nL0 Ts own R0 l0) {i : Nat} {x : Nat} {lv2 : List (Nat × Value)} (hdg : decode cc pc = .ok (.astore i, 2)) (hn : i < nL0) (hl : (i, Value.ref x) :: lv.filter (fun q => !(q.1 == i) && !(q.1 + 1 == i && q.2.category == 2)) = lv2) (kk : G Γ E nc ns (pc + 2) lv2 st w) : G Γ E nc ns pc lv (.ref x :: st) w := by
  obtain ⟨p, l, e, R, s, m, args, below, meth, c, nL, A, Q⟩ := Γ
  obtain ⟨hx, hb, hml, hnl, hR, hown, hts, hN, hK, hA, hll⟩ := F
  intro H locs ls hP hD hS h
  subst hnl
  exact lv_astore hx hb hdg h hn hl (fun ls2 h2 => kk H locs ls2 hP hD hS h2)
theorem g_iinc (F : Fx Γ E cc nL0 Ts own R0 l0) {i k : Nat} {n : Int} {x v : Int32} {lv2 : List (Nat × Value)} (hdg : decode cc pc = .ok (.iinc i n, 3)) (hk : lv[k]? = some (i, .int x)) (hv : x + Int32.ofInt n = v) (hn : i < nL0) (hl : (i, Value.int v) :: lv.filter (fun q => !(q.1 == i) && !(q.1 + 1 == i && q.2.category == 2)) = lv2) (kk : G Γ E nc ns (pc + 3) lv2 st w) : G Γ E nc ns pc lv st w := by
  obtain ⟨p, l, e, R, s, m, args, below, meth, c, nL, A, Q⟩ := Γ
  obtain ⟨hx, hb, hml, hnl, hR, hown, hts, hN, hK, hA, hll⟩ := F
  intro H locs ls hP hD hS h
  subst hnl
  exact lv_iinc hx hb hdg h hk hv hn hl (fun ls2 h2 => kk H locs ls2 hP hD hS h2)
theorem g_lconst (F : Fx Γ E cc nL0 Ts own R0 l0) {n : Fin 2} {v : Int64} (hdg : decode cc pc = .ok (.lconst n, 1)) (hv : Int64.ofNat (n : Nat) = v) (kk : G Γ E nc ns (pc + 1) lv (.long v :: st) w) : G Γ E nc ns pc lv (st) w := by
  obtain ⟨p, l, e, R, s, m, args, below, meth, c, nL, A, Q⟩ := Γ
  obtain ⟨hx, hb, hml, hnl, hR, hown, hts, hN, hK, hA, hll⟩ := F
  intro H locs ls hP hD hS h
  exact lv_lconst hx hb hdg hv (kk H locs ls hP hD hS h)
theorem g_lload_n (F : Fx Γ E cc nL0 Ts own R0 l0) {k : Fin 4} {i : Nat} {x : Int64} (j : Nat) (hdg : decode cc pc = .ok (.lload_n k, 1)) (hi : (k : Nat) = i) (hl : lv[j]? = some (i, .long x)) (kk : G Γ E nc ns (pc + 1) lv (.long x :: st) w) : G Γ E nc ns pc lv (st) w := by
  obtain ⟨p, l, e, R, s, m, args, below, meth, c, nL, A, Q⟩ := Γ
  obtain ⟨hx, hb, hml, hnl, hR, hown, hts, hN, hK, hA, hll⟩ := F
  intro H locs ls hP hD hS h
  exact lv_lload_n hx hb hdg hi (lv_at h j hl) (kk H locs ls hP hD hS h)
theorem g_lload (F : Fx Γ E cc nL0 Ts own R0 l0) {i : Nat} {x : Int64} (j : Nat) (hdg : decode cc pc = .ok (.lload i, 2)) (hl : lv[j]? = some (i, .long x)) (kk : G Γ E nc ns (pc + 2) lv (.long x :: st) w) : G Γ E nc ns pc lv (st) w := by
  obtain ⟨p, l, e, R, s, m, args, below, meth, c, nL, A, Q⟩ := Γ
  obtain ⟨hx, hb, hml, hnl, hR, hown, hts, hN, hK, hA, hll⟩ := F
  intro H locs ls hP hD hS h
  exact lv_lload hx hb hdg (lv_at h j hl) (kk H locs ls hP hD hS h)
theorem g_ldc2 (F : Fx Γ E cc nL0 Ts own R0 l0) {index : Nat} {v : Int64} (hdg : decode cc pc = .ok (.ldc2_w index, 3)) (hv : Cond.constantLong own index v ∈ Ts) (kk : G Γ E nc ns (pc + 3) lv (.long v :: st) w) : G Γ E nc ns pc lv (st) w := by
  obtain ⟨p, l, e, R, s, m, args, below, meth, c, nL, A, Q⟩ := Γ
  obtain ⟨hx, hb, hml, hnl, hR, hown, hts, hN, hK, hA, hll⟩ := F
  intro H locs ls hP hD hS h
  exact lv_ldc2 hx hb hown (hts _ hv) hdg (kk H locs ls hP hD hS h)
theorem g_ladd (F : Fx Γ E cc nL0 Ts own R0 l0) {x y : Int64} (hdg : decode cc pc = .ok (.ladd, 1))  (kk : G Γ E nc ns (pc + 1) lv (.long (x + y) :: st) w) : G Γ E nc ns pc lv (.long y :: .long x :: st) w := by
  obtain ⟨p, l, e, R, s, m, args, below, meth, c, nL, A, Q⟩ := Γ
  obtain ⟨hx, hb, hml, hnl, hR, hown, hts, hN, hK, hA, hll⟩ := F
  intro H locs ls hP hD hS h
  exact lv_ladd hx hb hdg (kk H locs ls hP hD hS h)
theorem g_lsub (F : Fx Γ E cc nL0 Ts own R0 l0) {x y : Int64} (hdg : decode cc pc = .ok (.lsub, 1))  (kk : G Γ E nc ns (pc + 1) lv (.long (x - y) :: st) w) : G Γ E nc ns pc lv (.long y :: .long x :: st) w := by
  obtain ⟨p, l, e, R, s, m, args, below, meth, c, nL, A, Q⟩ := Γ
  obtain ⟨hx, hb, hml, hnl, hR, hown, hts, hN, hK, hA, hll⟩ := F
  intro H locs ls hP hD hS h
  exact lv_lsub hx hb hdg (kk H locs ls hP hD hS h)
theorem g_land (F : Fx Γ E cc nL0 Ts own R0 l0) {x y : Int64} (hdg : decode cc pc = .ok (.land, 1))  (kk : G Γ E nc ns (pc + 1) lv (.long (x &&& y) :: st) w) : G Γ E nc ns pc lv (.long y :: .long x :: st) w := by
  obtain ⟨p, l, e, R, s, m, args, below, meth, c, nL, A, Q⟩ := Γ
  obtain ⟨hx, hb, hml, hnl, hR, hown, hts, hN, hK, hA, hll⟩ := F
  intro H locs ls hP hD hS h
  exact lv_land hx hb hdg (kk H locs ls hP hD hS h)
theorem g_lor (F : Fx Γ E cc nL0 Ts own R0 l0) {x y : Int64} (hdg : decode cc pc = .ok (.lor, 1))  (kk : G Γ E nc ns (pc + 1) lv (.long (x ||| y) :: st) w) : G Γ E nc ns pc lv (.long y :: .long x :: st) w := by
  obtain ⟨p, l, e, R, s, m, args, below, meth, c, nL, A, Q⟩ := Γ
  obtain ⟨hx, hb, hml, hnl, hR, hown, hts, hN, hK, hA, hll⟩ := F
  intro H locs ls hP hD hS h
  exact lv_lor hx hb hdg (kk H locs ls hP hD hS h)
theorem g_lxor (F : Fx Γ E cc nL0 Ts own R0 l0) {x y : Int64} (hdg : decode cc pc = .ok (.lxor, 1))  (kk : G Γ E nc ns (pc + 1) lv (.long (x ^^^ y) :: st) w) : G Γ E nc ns pc lv (.long y :: .long x :: st) w := by
  obtain ⟨p, l, e, R, s, m, args, below, meth, c, nL, A, Q⟩ := Γ
  obtain ⟨hx, hb, hml, hnl, hR, hown, hts, hN, hK, hA, hll⟩ := F
  intro H locs ls hP hD hS h
  exact lv_lxor hx hb hdg (kk H locs ls hP hD hS h)
theorem g_lshl (F : Fx Γ E cc nL0 Ts own R0 l0) {x v : Int64} {y : Int32} (hdg : decode cc pc = .ok (.lshl, 1)) (hv : x <<< (y.toInt64 &&& 63) = v) (kk : G Γ E nc ns (pc + 1) lv (.long v :: st) w) : G Γ E nc ns pc lv (.int y :: .long x :: st) w := by
  obtain ⟨p, l, e, R, s, m, args, below, meth, c, nL, A, Q⟩ := Γ
  obtain ⟨hx, hb, hml, hnl, hR, hown, hts, hN, hK, hA, hll⟩ := F
  intro H locs ls hP hD hS h
  exact lv_lshl hx hb hdg hv (kk H locs ls hP hD hS h)
theorem g_lushr (F : Fx Γ E cc nL0 Ts own R0 l0) {x v : Int64} {y : Int32} (hdg : decode cc pc = .ok (.lushr, 1)) (hv : (x.toUInt64 >>> (y.toInt64.toUInt64 &&& Int64.toUInt64 63)).toInt64 = v) (kk : G Γ E nc ns (pc + 1) lv (.long v :: st) w) : G Γ E nc ns pc lv (.int y :: .long x :: st) w := by
  obtain ⟨p, l, e, R, s, m, args, below, meth, c, nL, A, Q⟩ := Γ
  obtain ⟨hx, hb, hml, hnl, hR, hown, hts, hN, hK, hA, hll⟩ := F
  intro H locs ls hP hD hS h
  exact lv_lushr hx hb hdg hv (kk H locs ls hP hD hS h)
theorem g_i2l (F : Fx Γ E cc nL0 Ts own R0 l0) {x : Int32} {v : Int64} (hdg : decode cc pc = .ok (.i2l, 1)) (hv : x.toInt64 = v) (kk : G Γ E nc ns (pc + 1) lv (.long v :: st) w) : G Γ E nc ns pc lv (.int x :: st) w := by
  obtain ⟨p, l, e, R, s, m, args, below, meth, c, nL, A, Q⟩ := Γ
  obtain ⟨hx, hb, hml, hnl, hR, hown, hts, hN, hK, hA, hll⟩ := F
  intro H locs ls hP hD hS h
  exact lv_i2l hx hb hdg hv (kk H locs ls hP hD hS h)
theorem g_l2i (F : Fx Γ E cc nL0 Ts own R0 l0) {x : Int64} {v : Int32} (hdg : decode cc pc = .ok (.l2i, 1)) (hv : x.toInt32 = v) (kk : G Γ E nc ns (pc + 1) lv (.int v :: st) w) : G Γ E nc ns pc lv (.long x :: st) w := by
  obtain ⟨p, l, e, R, s, m, args, below, meth, c, nL, A, Q⟩ := Γ
  obtain ⟨hx, hb, hml, hnl, hR, hown, hts, hN, hK, hA, hll⟩ := F
  intro H locs ls hP hD hS h
  exact lv_l2i hx hb hdg hv (kk H locs ls hP hD hS h)
theorem g_lcmp (F : Fx Γ E cc nL0 Ts own R0 l0) {x y : Int64} (hdg : decode cc pc = .ok (.lcmp, 1))  (kk : G Γ E nc ns (pc + 1) lv (.int (lg_cmp x y) :: st) w) : G Γ E nc ns pc lv (.long y :: .long x :: st) w := by
  obtain ⟨p, l, e, R, s, m, args, below, meth, c, nL, A, Q⟩ := Γ
  obtain ⟨hx, hb, hml, hnl, hR, hown, hts, hN, hK, hA, hll⟩ := F
  intro H locs ls hP hD hS h
  exact W.lcmp hx hb hdg (kk H locs ls hP hD hS h)
theorem g_dup_x2 (F : Fx Γ E cc nL0 Ts own R0 l0) {va vb vd : Value} (hdg : decode cc pc = .ok (.dup_x2, 1)) (hva : va.category = 1) (hvb : vb.category = 1) (hvd : vd.category = 1) (kk : G Γ E nc ns (pc + 1) lv (va :: vb :: vd :: va :: st) w) : G Γ E nc ns pc lv (va :: vb :: vd :: st) w := by
  obtain ⟨p, l, e, R, s, m, args, below, meth, c, nL, A, Q⟩ := Γ
  obtain ⟨hx, hb, hml, hnl, hR, hown, hts, hN, hK, hA, hll⟩ := F
  intro H locs ls hP hD hS h
  exact lv_dup_x2 hx hb hdg hva hvb hvd (kk H locs ls hP hD hS h)
theorem g_lstore_n (F : Fx Γ E cc nL0 Ts own R0 l0) {k : Fin 4} {i : Nat} {x : Int64} {lv2 : List (Nat × Value)} (hdg : decode cc pc = .ok (.lstore_n k, 1)) (hi : (k : Nat) = i) (hn : i + 1 < nL0) (hl : (i, Value.long x) :: lv.filter (fun q => !(q.1 == i) && (!(q.1 == i + 1) && !(q.1 + 1 == i && q.2.category == 2))) = lv2) (kk : G Γ E nc ns (pc + 1) lv2 st w) : G Γ E nc ns pc lv (.long x :: st) w := by
  obtain ⟨p, l, e, R, s, m, args, below, meth, c, nL, A, Q⟩ := Γ
  obtain ⟨hx, hb, hml, hnl, hR, hown, hts, hN, hK, hA, hll⟩ := F
  intro H locs ls hP hD hS h
  subst hnl
  exact lv_lstore_n hx hb hdg hi h hn hl (fun ls2 h2 => kk H locs ls2 hP hD hS h2)
theorem g_lstore (F : Fx Γ E cc nL0 Ts own R0 l0) {i : Nat} {x : Int64} {lv2 : List (Nat × Value)} (hdg : decode cc pc = .ok (.lstore i, 2)) (hn : i + 1 < nL0) (hl : (i, Value.long x) :: lv.filter (fun q => !(q.1 == i) && (!(q.1 == i + 1) && !(q.1 + 1 == i && q.2.category == 2))) = lv2) (kk : G Γ E nc ns (pc + 2) lv2 st w) : G Γ E nc ns pc lv (.long x :: st) w := by
  obtain ⟨p, l, e, R, s, m, args, below, meth, c, nL, A, Q⟩ := Γ
  obtain ⟨hx, hb, hml, hnl, hR, hown, hts, hN, hK, hA, hll⟩ := F
  intro H locs ls hP hD hS h
  subst hnl
  exact lv_lstore hx hb hdg h hn hl (fun ls2 h2 => kk H locs ls2 hP hD hS h2)
theorem g_if_eq (F : Fx Γ E cc nL0 Ts own R0 l0) {x : Int32} {off : Int} {tgt : Nat} (hdg : decode cc pc = .ok (.ifCond .eq off, 3)) (ht : (pc : Int) + off = (tgt : Int)) (kt : x = 0 → G Γ E nc ns tgt lv st w) (kf : ¬ x = 0 → G Γ E nc ns (pc + 3) lv st w) : G Γ E nc ns pc lv (.int x :: st) w := by
  obtain ⟨p, l, e, R, s, m, args, below, meth, c, nL, A, Q⟩ := Γ
  obtain ⟨hx, hb, hml, hnl, hR, hown, hts, hN, hK, hA, hll⟩ := F
  intro H locs ls hP hD hS h
  exact lv_if_eq hx hb hdg ht (fun q => kt q H locs ls hP hD hS h) (fun q => kf q H locs ls hP hD hS h)
theorem g_if_ne (F : Fx Γ E cc nL0 Ts own R0 l0) {x : Int32} {off : Int} {tgt : Nat} (hdg : decode cc pc = .ok (.ifCond .ne off, 3)) (ht : (pc : Int) + off = (tgt : Int)) (kt : ¬ x = 0 → G Γ E nc ns tgt lv st w) (kf : x = 0 → G Γ E nc ns (pc + 3) lv st w) : G Γ E nc ns pc lv (.int x :: st) w := by
  obtain ⟨p, l, e, R, s, m, args, below, meth, c, nL, A, Q⟩ := Γ
  obtain ⟨hx, hb, hml, hnl, hR, hown, hts, hN, hK, hA, hll⟩ := F
  intro H locs ls hP hD hS h
  exact lv_if_ne hx hb hdg ht (fun q => kt q H locs ls hP hD hS h) (fun q => kf q H locs ls hP hD hS h)
theorem g_if_lt (F : Fx Γ E cc nL0 Ts own R0 l0) {x : Int32} {off : Int} {tgt : Nat} (hdg : decode cc pc = .ok (.ifCond .lt off, 3)) (ht : (pc : Int) + off = (tgt : Int)) (kt : x < 0 → G Γ E nc ns tgt lv st w) (kf : ¬ x < 0 → G Γ E nc ns (pc + 3) lv st w) : G Γ E nc ns pc lv (.int x :: st) w := by
  obtain ⟨p, l, e, R, s, m, args, below, meth, c, nL, A, Q⟩ := Γ
  obtain ⟨hx, hb, hml, hnl, hR, hown, hts, hN, hK, hA, hll⟩ := F
  intro H locs ls hP hD hS h
  exact lv_if_lt hx hb hdg ht (fun q => kt q H locs ls hP hD hS h) (fun q => kf q H locs ls hP hD hS h)
theorem g_if_ge (F : Fx Γ E cc nL0 Ts own R0 l0) {x : Int32} {off : Int} {tgt : Nat} (hdg : decode cc pc = .ok (.ifCond .ge off, 3)) (ht : (pc : Int) + off = (tgt : Int)) (kt : 0 ≤ x → G Γ E nc ns tgt lv st w) (kf : ¬ 0 ≤ x → G Γ E nc ns (pc + 3) lv st w) : G Γ E nc ns pc lv (.int x :: st) w := by
  obtain ⟨p, l, e, R, s, m, args, below, meth, c, nL, A, Q⟩ := Γ
  obtain ⟨hx, hb, hml, hnl, hR, hown, hts, hN, hK, hA, hll⟩ := F
  intro H locs ls hP hD hS h
  exact lv_if_ge hx hb hdg ht (fun q => kt q H locs ls hP hD hS h) (fun q => kf q H locs ls hP hD hS h)
theorem g_if_gt (F : Fx Γ E cc nL0 Ts own R0 l0) {x : Int32} {off : Int} {tgt : Nat} (hdg : decode cc pc = .ok (.ifCond .gt off, 3)) (ht : (pc : Int) + off = (tgt : Int)) (kt : 0 < x → G Γ E nc ns tgt lv st w) (kf : ¬ 0 < x → G Γ E nc ns (pc + 3) lv st w) : G Γ E nc ns pc lv (.int x :: st) w := by
  obtain ⟨p, l, e, R, s, m, args, below, meth, c, nL, A, Q⟩ := Γ
  obtain ⟨hx, hb, hml, hnl, hR, hown, hts, hN, hK, hA, hll⟩ := F
  intro H locs ls hP hD hS h
  exact lv_if_gt hx hb hdg ht (fun q => kt q H locs ls hP hD hS h) (fun q => kf q H locs ls hP hD hS h)
theorem g_if_le (F : Fx Γ E cc nL0 Ts own R0 l0) {x : Int32} {off : Int} {tgt : Nat} (hdg : decode cc pc = .ok (.ifCond .le off, 3)) (ht : (pc : Int) + off = (tgt : Int)) (kt : x ≤ 0 → G Γ E nc ns tgt lv st w) (kf : ¬ x ≤ 0 → G Γ E nc ns (pc + 3) lv st w) : G Γ E nc ns pc lv (.int x :: st) w := by
  obtain ⟨p, l, e, R, s, m, args, below, meth, c, nL, A, Q⟩ := Γ
  obtain ⟨hx, hb, hml, hnl, hR, hown, hts, hN, hK, hA, hll⟩ := F
  intro H locs ls hP hD hS h
  exact lv_if_le hx hb hdg ht (fun q => kt q H locs ls hP hD hS h) (fun q => kf q H locs ls hP hD hS h)
theorem g_icmp_eq (F : Fx Γ E cc nL0 Ts own R0 l0) {x y : Int32} {off : Int} {tgt : Nat} (hdg : decode cc pc = .ok (.if_icmp .eq off, 3)) (ht : (pc : Int) + off = (tgt : Int)) (kt : x = y → G Γ E nc ns tgt lv st w) (kf : ¬ x = y → G Γ E nc ns (pc + 3) lv st w) : G Γ E nc ns pc lv (.int y :: .int x :: st) w := by
  obtain ⟨p, l, e, R, s, m, args, below, meth, c, nL, A, Q⟩ := Γ
  obtain ⟨hx, hb, hml, hnl, hR, hown, hts, hN, hK, hA, hll⟩ := F
  intro H locs ls hP hD hS h
  exact lv_icmp_eq hx hb hdg ht (fun q => kt q H locs ls hP hD hS h) (fun q => kf q H locs ls hP hD hS h)
theorem g_icmp_ne (F : Fx Γ E cc nL0 Ts own R0 l0) {x y : Int32} {off : Int} {tgt : Nat} (hdg : decode cc pc = .ok (.if_icmp .ne off, 3)) (ht : (pc : Int) + off = (tgt : Int)) (kt : ¬ x = y → G Γ E nc ns tgt lv st w) (kf : x = y → G Γ E nc ns (pc + 3) lv st w) : G Γ E nc ns pc lv (.int y :: .int x :: st) w := by
  obtain ⟨p, l, e, R, s, m, args, below, meth, c, nL, A, Q⟩ := Γ
  obtain ⟨hx, hb, hml, hnl, hR, hown, hts, hN, hK, hA, hll⟩ := F
  intro H locs ls hP hD hS h
  exact lv_icmp_ne hx hb hdg ht (fun q => kt q H locs ls hP hD hS h) (fun q => kf q H locs ls hP hD hS h)
theorem g_icmp_lt (F : Fx Γ E cc nL0 Ts own R0 l0) {x y : Int32} {off : Int} {tgt : Nat} (hdg : decode cc pc = .ok (.if_icmp .lt off, 3)) (ht : (pc : Int) + off = (tgt : Int)) (kt : x < y → G Γ E nc ns tgt lv st w) (kf : ¬ x < y → G Γ E nc ns (pc + 3) lv st w) : G Γ E nc ns pc lv (.int y :: .int x :: st) w := by
  obtain ⟨p, l, e, R, s, m, args, below, meth, c, nL, A, Q⟩ := Γ
  obtain ⟨hx, hb, hml, hnl, hR, hown, hts, hN, hK, hA, hll⟩ := F
  intro H locs ls hP hD hS h
  exact lv_icmp_lt hx hb hdg ht (fun q => kt q H locs ls hP hD hS h) (fun q => kf q H locs ls hP hD hS h)
theorem g_icmp_ge (F : Fx Γ E cc nL0 Ts own R0 l0) {x y : Int32} {off : Int} {tgt : Nat} (hdg : decode cc pc = .ok (.if_icmp .ge off, 3)) (ht : (pc : Int) + off = (tgt : Int)) (kt : y ≤ x → G Γ E nc ns tgt lv st w) (kf : ¬ y ≤ x → G Γ E nc ns (pc + 3) lv st w) : G Γ E nc ns pc lv (.int y :: .int x :: st) w := by
  obtain ⟨p, l, e, R, s, m, args, below, meth, c, nL, A, Q⟩ := Γ
  obtain ⟨hx, hb, hml, hnl, hR, hown, hts, hN, hK, hA, hll⟩ := F
  intro H locs ls hP hD hS h
  exact lv_icmp_ge hx hb hdg ht (fun q => kt q H locs ls hP hD hS h) (fun q => kf q H locs ls hP hD hS h)
theorem g_icmp_gt (F : Fx Γ E cc nL0 Ts own R0 l0) {x y : Int32} {off : Int} {tgt : Nat} (hdg : decode cc pc = .ok (.if_icmp .gt off, 3)) (ht : (pc : Int) + off = (tgt : Int)) (kt : y < x → G Γ E nc ns tgt lv st w) (kf : ¬ y < x → G Γ E nc ns (pc + 3) lv st w) : G Γ E nc ns pc lv (.int y :: .int x :: st) w := by
  obtain ⟨p, l, e, R, s, m, args, below, meth, c, nL, A, Q⟩ := Γ
  obtain ⟨hx, hb, hml, hnl, hR, hown, hts, hN, hK, hA, hll⟩ := F
  intro H locs ls hP hD hS h
  exact lv_icmp_gt hx hb hdg ht (fun q => kt q H locs ls hP hD hS h) (fun q => kf q H locs ls hP hD hS h)
theorem g_icmp_le (F : Fx Γ E cc nL0 Ts own R0 l0) {x y : Int32} {off : Int} {tgt : Nat} (hdg : decode cc pc = .ok (.if_icmp .le off, 3)) (ht : (pc : Int) + off = (tgt : Int)) (kt : x ≤ y → G Γ E nc ns tgt lv st w) (kf : ¬ x ≤ y → G Γ E nc ns (pc + 3) lv st w) : G Γ E nc ns pc lv (.int y :: .int x :: st) w := by
  obtain ⟨p, l, e, R, s, m, args, below, meth, c, nL, A, Q⟩ := Γ
  obtain ⟨hx, hb, hml, hnl, hR, hown, hts, hN, hK, hA, hll⟩ := F
  intro H locs ls hP hD hS h
  exact lv_icmp_le hx hb hdg ht (fun q => kt q H locs ls hP hD hS h) (fun q => kf q H locs ls hP hD hS h)
theorem g_goto (F : Fx Γ E cc nL0 Ts own R0 l0) {off : Int} {tgt : Nat} (hdg : decode cc pc = .ok (.goto off, 3)) (ht : (pc : Int) + off = (tgt : Int)) (kk : G Γ E nc ns tgt lv st w) : G Γ E nc ns pc lv st w := by
  obtain ⟨p, l, e, R, s, m, args, below, meth, c, nL, A, Q⟩ := Γ
  obtain ⟨hx, hb, hml, hnl, hR, hown, hts, hN, hK, hA, hll⟩ := F
  intro H locs ls hP hD hS h
  exact lv_goto hx hb hdg ht (kk H locs ls hP hD hS h)
theorem g_tabOut (F : Fx Γ E cc nL0 Ts own R0 l0) {dflt lo hi : Int} {offs : Array Int} {len : Nat} {x : Int32} {tgt : Nat} (hdg : decode cc pc = .ok (.tableswitch dflt lo hi offs, len)) (hh : x.toInt < lo ∨ hi < x.toInt) (ht : (pc : Int) + dflt = (tgt : Int)) (kk : G Γ E nc ns tgt lv st w) : G Γ E nc ns pc lv (.int x :: st) w := by
  obtain ⟨p, l, e, R, s, m, args, below, meth, c, nL, A, Q⟩ := Γ
  obtain ⟨hx, hb, hml, hnl, hR, hown, hts, hN, hK, hA, hll⟩ := F
  intro H locs ls hP hD hS h
  exact lv_tableOut hx hb hdg hh ht (kk H locs ls hP hD hS h)
theorem g_tabIn (F : Fx Γ E cc nL0 Ts own R0 l0) {dflt lo hi : Int} {offs : Array Int} {len : Nat} {x : Int32} {off : Int} {tgt : Nat} (hdg : decode cc pc = .ok (.tableswitch dflt lo hi offs, len)) (h1 : ¬ x.toInt < lo) (h2 : ¬ hi < x.toInt) (ho : offs[(x.toInt - lo).toNat]? = some off) (ht : (pc : Int) + off = (tgt : Int)) (kk : G Γ E nc ns tgt lv st w) : G Γ E nc ns pc lv (.int x :: st) w := by
  obtain ⟨p, l, e, R, s, m, args, below, meth, c, nL, A, Q⟩ := Γ
  obtain ⟨hx, hb, hml, hnl, hR, hown, hts, hN, hK, hA, hll⟩ := F
  intro H locs ls hP hD hS h
  exact lv_tableIn hx hb hdg h1 h2 ho ht (kk H locs ls hP hD hS h)
theorem g_iaddN (F : Fx Γ E cc nL0 Ts own R0 l0) {a b : Nat} (hdg : decode cc pc = .ok (.iadd, 1)) (kk : G Γ E nc ns (pc + 1) lv (.int (nI (a + b)) :: st) w) : G Γ E nc ns pc lv (.int (nI b) :: .int (nI a) :: st) w := g_iadd F hdg (by rw [nI_add]; exact kk)
theorem g_imulN (F : Fx Γ E cc nL0 Ts own R0 l0) {a b : Nat} (hdg : decode cc pc = .ok (.imul, 1)) (kk : G Γ E nc ns (pc + 1) lv (.int (nI (a * b)) :: st) w) : G Γ E nc ns pc lv (.int (nI b) :: .int (nI a) :: st) w := g_imul F hdg (by rw [pk_mul]; exact kk)
theorem g_isubN (F : Fx Γ E cc nL0 Ts own R0 l0) {a b : Nat} (hdg : decode cc pc = .ok (.isub, 1)) (hle : b ≤ a) (kk : G Γ E nc ns (pc + 1) lv (.int (nI (a - b)) :: st) w) : G Γ E nc ns pc lv (.int (nI b) :: .int (nI a) :: st) w := g_isub F hdg (by rw [pk_sub hle]; exact kk)
theorem g_idivN (F : Fx Γ E cc nL0 Ts own R0 l0) {a b : Nat} (hdg : decode cc pc = .ok (.idiv, 1)) (ha : a < 2 ^ 31) (h0 : 0 < b) (hb : b < 2 ^ 31) (kk : G Γ E nc ns (pc + 1) lv (.int (nI (a / b)) :: st) w) : G Γ E nc ns pc lv (.int (nI b) :: .int (nI a) :: st) w := g_idiv F hdg (nI_ne0 h0 hb) (by rw [pk_div ha h0 hb]; exact kk)
theorem g_iremN (F : Fx Γ E cc nL0 Ts own R0 l0) {a b : Nat} (hdg : decode cc pc = .ok (.irem, 1)) (ha : a < 2 ^ 31) (h0 : 0 < b) (hb : b < 2 ^ 31) (kk : G Γ E nc ns (pc + 1) lv (.int (nI (a % b)) :: st) w) : G Γ E nc ns pc lv (.int (nI b) :: .int (nI a) :: st) w := g_irem F hdg (nI_ne0 h0 hb) (by rw [pk_rem ha h0 hb]; exact kk)
theorem g_top (x y : Int32) (he : x = y) (kk : G Γ E nc ns pc lv (.int y :: st) w) : G Γ E nc ns pc lv (.int x :: st) w := by rw [he]; exact kk
theorem g_if_eqB (F : Fx Γ E cc nL0 Ts own R0 l0) {P : Prop} {off : Int} {tgt : Nat} (hdg : decode cc pc = .ok (.ifCond .eq off, 3)) (ht : (pc : Int) + off = (tgt : Int)) (kt : ¬ P → G Γ E nc ns tgt lv st w) (kf : P → G Γ E nc ns (pc + 3) lv st w) : G Γ E nc ns pc lv (.int (bi P) :: st) w := g_if_eq F hdg ht (fun q => kt (bi_eq0.mp q)) (fun q => kf (Classical.not_not.mp (fun z => q (bi_neg z))))
theorem g_if_neB (F : Fx Γ E cc nL0 Ts own R0 l0) {P : Prop} {off : Int} {tgt : Nat} (hdg : decode cc pc = .ok (.ifCond .ne off, 3)) (ht : (pc : Int) + off = (tgt : Int)) (kt : P → G Γ E nc ns tgt lv st w) (kf : ¬ P → G Γ E nc ns (pc + 3) lv st w) : G Γ E nc ns pc lv (.int (bi P) :: st) w := g_if_ne F hdg ht (fun q => kt (Classical.not_not.mp (fun z => q (bi_neg z)))) (fun q => kf (bi_eq0.mp q))
theorem nI_inj0 {a : Nat} (ha : a < 2 ^ 31) : nI a = 0 ↔ a = 0 := by rw [← nI_0]; exact nI_eq ha (by decide)
theorem g_icmp_eqN (F : Fx Γ E cc nL0 Ts own R0 l0) {a b : Nat} {off : Int} {tgt : Nat} (hdg : decode cc pc = .ok (.if_icmp .eq off, 3)) (ht : (pc : Int) + off = (tgt : Int)) (ha : a < 2 ^ 31) (hb : b < 2 ^ 31) (kt : a = b → G Γ E nc ns tgt lv st w) (kf : ¬ a = b → G Γ E nc ns (pc + 3) lv st w) : G Γ E nc ns pc lv (.int (nI b) :: .int (nI a) :: st) w := g_icmp_eq F hdg ht (fun q => kt ((nI_eq ha hb).mp q)) (fun q => kf (fun z => q (by rw [z])))
theorem g_icmp_neN (F : Fx Γ E cc nL0 Ts own R0 l0) {a b : Nat} {off : Int} {tgt : Nat} (hdg : decode cc pc = .ok (.if_icmp .ne off, 3)) (ht : (pc : Int) + off = (tgt : Int)) (ha : a < 2 ^ 31) (hb : b < 2 ^ 31) (kt : ¬ a = b → G Γ E nc ns tgt lv st w) (kf : a = b → G Γ E nc ns (pc + 3) lv st w) : G Γ E nc ns pc lv (.int (nI b) :: .int (nI a) :: st) w := g_icmp_ne F hdg ht (fun q => kt (fun z => q (by rw [z]))) (fun q => kf ((nI_eq ha hb).mp q))
theorem g_icmp_ltN (F : Fx Γ E cc nL0 Ts own R0 l0) {a b : Nat} {off : Int} {tgt : Nat} (hdg : decode cc pc = .ok (.if_icmp .lt off, 3)) (ht : (pc : Int) + off = (tgt : Int)) (ha : a < 2 ^ 31) (hb : b < 2 ^ 31) (kt : a < b → G Γ E nc ns tgt lv st w) (kf : b ≤ a → G Γ E nc ns (pc + 3) lv st w) : G Γ E nc ns pc lv (.int (nI b) :: .int (nI a) :: st) w := g_icmp_lt F hdg ht (fun q => kt ((nI_ltI ha hb).mp q)) (fun q => kf (Nat.not_lt.mp (fun z => q ((nI_ltI ha hb).mpr z))))
theorem g_icmp_geN (F : Fx Γ E cc nL0 Ts own R0 l0) {a b : Nat} {off : Int} {tgt : Nat} (hdg : decode cc pc = .ok (.if_icmp .ge off, 3)) (ht : (pc : Int) + off = (tgt : Int)) (ha : a < 2 ^ 31) (hb : b < 2 ^ 31) (kt : b ≤ a → G Γ E nc ns tgt lv st w) (kf : a < b → G Γ E nc ns (pc + 3) lv st w) : G Γ E nc ns pc lv (.int (nI b) :: .int (nI a) :: st) w := g_icmp_ge F hdg ht (fun q => kt ((nI_leI hb ha).mp q)) (fun q => kf (Nat.not_le.mp (fun z => q ((nI_leI hb ha).mpr z))))
theorem g_icmp_gtN (F : Fx Γ E cc nL0 Ts own R0 l0) {a b : Nat} {off : Int} {tgt : Nat} (hdg : decode cc pc = .ok (.if_icmp .gt off, 3)) (ht : (pc : Int) + off = (tgt : Int)) (ha : a < 2 ^ 31) (hb : b < 2 ^ 31) (kt : b < a → G Γ E nc ns tgt lv st w) (kf : a ≤ b → G Γ E nc ns (pc + 3) lv st w) : G Γ E nc ns pc lv (.int (nI b) :: .int (nI a) :: st) w := g_icmp_gt F hdg ht (fun q => kt ((nI_ltI hb ha).mp q)) (fun q => kf (Nat.not_lt.mp (fun z => q ((nI_ltI hb ha).mpr z))))
theorem g_icmp_leN (F : Fx Γ E cc nL0 Ts own R0 l0) {a b : Nat} {off : Int} {tgt : Nat} (hdg : decode cc pc = .ok (.if_icmp .le off, 3)) (ht : (pc : Int) + off = (tgt : Int)) (ha : a < 2 ^ 31) (hb : b < 2 ^ 31) (kt : a ≤ b → G Γ E nc ns tgt lv st w) (kf : b < a → G Γ E nc ns (pc + 3) lv st w) : G Γ E nc ns pc lv (.int (nI b) :: .int (nI a) :: st) w := g_icmp_le F hdg ht (fun q => kt ((nI_leI ha hb).mp q)) (fun q => kf (Nat.not_le.mp (fun z => q ((nI_leI ha hb).mpr z))))
theorem g_if_eqN (F : Fx Γ E cc nL0 Ts own R0 l0) {a : Nat} {off : Int} {tgt : Nat} (hdg : decode cc pc = .ok (.ifCond .eq off, 3)) (ht : (pc : Int) + off = (tgt : Int)) (ha : a < 2 ^ 31) (kt : a = 0 → G Γ E nc ns tgt lv st w) (kf : ¬ a = 0 → G Γ E nc ns (pc + 3) lv st w) : G Γ E nc ns pc lv (.int (nI a) :: st) w := g_if_eq F hdg ht (fun q => kt ((nI_inj0 ha).mp q)) (fun q => kf (fun z => q ((nI_inj0 ha).mpr z)))
theorem g_if_neN (F : Fx Γ E cc nL0 Ts own R0 l0) {a : Nat} {off : Int} {tgt : Nat} (hdg : decode cc pc = .ok (.ifCond .ne off, 3)) (ht : (pc : Int) + off = (tgt : Int)) (ha : a < 2 ^ 31) (kt : ¬ a = 0 → G Γ E nc ns tgt lv st w) (kf : a = 0 → G Γ E nc ns (pc + 3) lv st w) : G Γ E nc ns pc lv (.int (nI a) :: st) w := g_if_ne F hdg ht (fun q => kt (fun z => q ((nI_inj0 ha).mpr z))) (fun q => kf ((nI_inj0 ha).mp q))
theorem g_if_leN (F : Fx Γ E cc nL0 Ts own R0 l0) {a : Nat} {off : Int} {tgt : Nat} (hdg : decode cc pc = .ok (.ifCond .le off, 3)) (ht : (pc : Int) + off = (tgt : Int)) (ha : a < 2 ^ 31) (kt : a = 0 → G Γ E nc ns tgt lv st w) (kf : 0 < a → G Γ E nc ns (pc + 3) lv st w) : G Γ E nc ns pc lv (.int (nI a) :: st) w := g_if_le F hdg ht (fun q => kt (Nat.eq_zero_of_not_pos (fun z => nI_nle z ha q))) (fun q => kf (Nat.pos_of_ne_zero (fun z => q (by rw [z]; decide))))
theorem g_if_gtN (F : Fx Γ E cc nL0 Ts own R0 l0) {a : Nat} {off : Int} {tgt : Nat} (hdg : decode cc pc = .ok (.ifCond .gt off, 3)) (ht : (pc : Int) + off = (tgt : Int)) (ha : a < 2 ^ 31) (kt : 0 < a → G Γ E nc ns tgt lv st w) (kf : a = 0 → G Γ E nc ns (pc + 3) lv st w) : G Γ E nc ns pc lv (.int (nI a) :: st) w := g_if_gt F hdg ht (fun q => kt (Nat.pos_of_ne_zero (fun z => absurd q (by rw [z]; decide)))) (fun q => kf (Nat.eq_zero_of_not_pos (fun z => q (by rw [← nI_0]; exact nI_lt z ha))))
theorem g_if_ltN (F : Fx Γ E cc nL0 Ts own R0 l0) {a : Nat} {off : Int} (hdg : decode cc pc = .ok (.ifCond .lt off, 3)) (ht : ∃ tgt : Nat, (pc : Int) + off = (tgt : Int)) (ha : a < 2 ^ 31) (kf : G Γ E nc ns (pc + 3) lv st w) : G Γ E nc ns pc lv (.int (nI a) :: st) w := by
  obtain ⟨tgt, ht⟩ := ht
  exact g_if_lt F hdg ht (fun q => absurd q (nI_pos ha)) (fun _ => kf)
theorem g_if_geN (F : Fx Γ E cc nL0 Ts own R0 l0) {a : Nat} {off : Int} {tgt : Nat} (hdg : decode cc pc = .ok (.ifCond .ge off, 3)) (ht : (pc : Int) + off = (tgt : Int)) (ha : a < 2 ^ 31) (kt : G Γ E nc ns tgt lv st w) : G Γ E nc ns pc lv (.int (nI a) :: st) w := g_if_ge F hdg ht (fun _ => kt) (fun q => absurd (nI_pos' ha) q)
theorem g_get (F : Fx Γ E cc nL0 Ts own R0 l0) {C : String} {T : u_T} {N ci index a : Nat} {fs : List Value} {v : Value} (q0 k : Nat) (hdg : decode cc pc = .ok (.getfield index, 3)) (he : w[q0]? = some (ob ci a fs)) (hc : vwCl[ci]? = some (C, T, N)) (hk : k < N) (hin : ∀ x ∈ u_ws C T N, x ∈ Ts) (hlk : Cond.fieldLink own index (T k).1 (T k).2.1 (T k).2.2.1 ∈ Ts) (hv : fs[k]? = some v) (kk : G Γ E nc ns (pc + 3) lv (v :: st) w) : G Γ E nc ns pc lv (.ref a :: st) w := by
  obtain ⟨p, l, e, R, s, m, args, below, meth, c, nL, A, Q⟩ := Γ
  obtain ⟨hx, hb, hml, hnl, hR, hown, hts, hN, hK, hA, hll⟩ := F
  intro H locs ls hP hD hS h
  exact va_get hx hb hts hin hown hK hP q0 he hc k hk (hts _ hlk) (fun _ z => z) hv hdg (kk H locs ls hP hD hS h)
theorem g_getN (F : Fx Γ E cc nL0 Ts own R0 l0) {C : String} {T : u_T} {N ci index a : Nat} {fs : List Value} {v : Value} {host : String} (q0 k : Nat) (hdg : decode cc pc = .ok (.getfield index, 3)) (he : w[q0]? = some (ob ci a fs)) (hc : vwCl[ci]? = some (C, T, N)) (hk : k < N) (hin : ∀ x ∈ u_ws C T N, x ∈ Ts) (hlk : Cond.fieldLinkNest own index (T k).1 (T k).2.1 (T k).2.2.1 host ∈ nestWs) (hv : fs[k]? = some v) (kk : G Γ E nc ns (pc + 3) lv (v :: st) w) : G Γ E nc ns pc lv (.ref a :: st) w := by
  obtain ⟨p, l, e, R, s, m, args, below, meth, c, nL, A, Q⟩ := Γ
  obtain ⟨hx, hb, hml, hnl, hR, hown, hts, hN, hK, hA, hll⟩ := F
  intro H locs ls hP hD hS h
  exact va_getN hx hb hts hin hown hK hP q0 he hc k hk (va_Nw.use rfl (hN.1 _ hlk)) (fun _ z => z) hv hdg (kk H locs ls hP hD hS h)
theorem g_put (F : Fx Γ E cc nL0 Ts own R0 l0) {C : String} {T : u_T} {N ci index a : Nat} {fs : List Value} {v : Value} {fs2 : List Value} {w2 : va_W} {ty0 : Nat → FieldType} {ty : FieldType} (q0 k : Nat) (hdg : decode cc pc = .ok (.putfield index, 3)) (he : w[q0]? = some (ob ci a fs)) (hc : vwCl[ci]? = some (C, T, N)) (hk : k < N) (hin : ∀ x ∈ u_ws C T N, x ∈ Ts) (hlk : Cond.fieldLink own index (T k).1 (T k).2.1 (T k).2.2.1 ∈ Ts) (hty : ∀ k, k < N → parseFieldDescriptor (T k).2.2.1 = some (ty0 k)) (hnm : ∀ a, a < N → ∀ b, b < N → a ≠ b → (T a).2.1 ≠ (T b).2.1) (hfin : (T k).2.2.2 = false) (hd : parseFieldDescriptor (T k).2.2.1 = some ty) (hn : narrow ty v = v) (hfit : fits ty v = true) (hl : k < fs.length) (hfs : fs.set k v = fs2) (hw : w.set q0 (ob ci a fs2) = w2) (kk : G Γ E nc ns (pc + 3) lv st w2) : G Γ E nc ns pc lv (v :: .ref a :: st) w := by
  obtain ⟨p, l, e, R, s, m, args, below, meth, c, nL, A, Q⟩ := Γ
  obtain ⟨hx, hb, hml, hnl, hR, hown, hts, hN, hK, hA, hll⟩ := F
  intro H locs ls hP hD hS h
  subst hfs; subst hw
  exact va_put hx hb hts hin ty0 hty hnm hown hK hP hD hS q0 he hc k hk (hts _ hlk) (fun _ z => z) hfin hd hn hfit hl hdg (fun H1 locs1 hP1 hD1 hS1 => kk H1 locs1 ls hP1 hD1 hS1 h)
theorem g_putN (F : Fx Γ E cc nL0 Ts own R0 l0) {C : String} {T : u_T} {N ci index a : Nat} {fs : List Value} {v : Value} {fs2 : List Value} {w2 : va_W} {ty0 : Nat → FieldType} {ty : FieldType} (q0 k : Nat) (hdg : decode cc pc = .ok (.putfield index, 3)) (he : w[q0]? = some (ob ci a fs)) (hc : vwCl[ci]? = some (C, T, N)) (hk : k < N) (hin : ∀ x ∈ u_ws C T N, x ∈ Ts) {host : String} (hlk : Cond.fieldLinkNest own index (T k).1 (T k).2.1 (T k).2.2.1 host ∈ nestWs) (hty : ∀ k, k < N → parseFieldDescriptor (T k).2.2.1 = some (ty0 k)) (hnm : ∀ a, a < N → ∀ b, b < N → a ≠ b → (T a).2.1 ≠ (T b).2.1) (hfin : (T k).2.2.2 = false) (hd : parseFieldDescriptor (T k).2.2.1 = some ty) (hn : narrow ty v = v) (hfit : fits ty v = true) (hl : k < fs.length) (hfs : fs.set k v = fs2) (hw : w.set q0 (ob ci a fs2) = w2) (kk : G Γ E nc ns (pc + 3) lv st w2) : G Γ E nc ns pc lv (v :: .ref a :: st) w := by
  obtain ⟨p, l, e, R, s, m, args, below, meth, c, nL, A, Q⟩ := Γ
  obtain ⟨hx, hb, hml, hnl, hR, hown, hts, hN, hK, hA, hll⟩ := F
  intro H locs ls hP hD hS h
  subst hfs; subst hw
  exact va_putN hx hb hts hin ty0 hty hnm hown hK hP hD hS q0 he hc k hk (va_Nw.use rfl (hN.1 _ hlk)) (fun _ z => z) hfin hd hn hfit hl hdg (fun H1 locs1 hP1 hD1 hS1 => kk H1 locs1 ls hP1 hD1 hS1 h)
theorem g_putF (F : Fx Γ E cc nL0 Ts own R0 l0) (hi : Hin Γ) {C : String} {T : u_T} {N ci index a : Nat} {fs : List Value} {v : Value} {fs2 : List Value} {w2 : va_W} {ty0 : Nat → FieldType} {ty : FieldType} (q0 k : Nat) (hdg : decode cc pc = .ok (.putfield index, 3)) (he : w[q0]? = some (ob ci a fs)) (hc : vwCl[ci]? = some (C, T, N)) (hk : k < N) (hin : ∀ x ∈ u_ws C T N, x ∈ Ts) (hlk : Cond.fieldLink own index (T k).1 (T k).2.1 (T k).2.2.1 ∈ Ts) (hty : ∀ k, k < N → parseFieldDescriptor (T k).2.2.1 = some (ty0 k)) (hnm : ∀ a, a < N → ∀ b, b < N → a ≠ b → (T a).2.1 ≠ (T b).2.1) (hfin : (T k).2.2.2 = true) (hdecl : (T k).1 = own) (hd : parseFieldDescriptor (T k).2.2.1 = some ty) (hn : narrow ty v = v) (hfit : fits ty v = true) (hl : k < fs.length) (hfs : fs.set k v = fs2) (hw : w.set q0 (ob ci a fs2) = w2) (kk : G Γ E nc ns (pc + 3) lv st w2) : G Γ E nc ns pc lv (v :: .ref a :: st) w := by
  obtain ⟨p, l, e, R, s, m, args, below, meth, c, nL, A, Q⟩ := Γ
  obtain ⟨hx, hb, hml, hnl, hR, hown, hts, hN, hK, hA, hll⟩ := F
  intro H locs ls hP hD hS h
  subst hfs; subst hw
  exact va_putF hx hb hts hin ty0 hty hnm hown hK hP hD hS q0 he hc k hk (hts _ hlk) (fun _ z => z) hfin hi hdecl hd hn hfit hl hdg (fun H1 locs1 hP1 hD1 hS1 => kk H1 locs1 ls hP1 hD1 hS1 h)
theorem cb_ok {N c : Nat} (h : c ≤ 8) (hN : N < 100000) : N * c ≤ 536870912 := Nat.le_trans (Nat.mul_le_mul_left N h) (by omega)
theorem vin_of {i n : Nat} (h : i < n) (hn : n < 2 ^ 31) : vp_in (nI i) n := nI_in h hn
theorem g_iald (F : Fx Γ E cc nL0 Ts own R0 l0) {a n i : Nat} {f : Nat → Nat} (q0 : Nat) (hdg : decode cc pc = .ok (.iaload, 1)) (he : w[q0]? = some (ai E a n f)) (hi : i < n) (hn : n < 2 ^ 31) (kk : G Γ E nc ns (pc + 1) lv (.int (nI (f i)) :: st) w) : G Γ E nc ns pc lv (.int (nI i) :: .ref a :: st) w := by
  obtain ⟨p, l, e, R, s, m, args, below, meth, c, nL, A, Q⟩ := Γ
  obtain ⟨hx, hb, hml, hnl, hR, hown, hts, hN, hK, hA, hll⟩ := F
  intro H locs ls hP hD hS h
  refine va_iald (f := nf f) hx hb hK hP q0 0 he rfl (vin_of hi hn) hdg ?_
  rw [nI_clamp (Nat.lt_trans hi hn)]
  exact kk H locs ls hP hD hS h
theorem g_zald (F : Fx Γ E cc nL0 Ts own R0 l0) {a n i : Nat} {f : Nat → Nat} (q0 : Nat) (hdg : decode cc pc = .ok (.baload, 1)) (he : w[q0]? = some (az E a n f)) (hi : i < n) (hn : n < 2 ^ 31) (kk : G Γ E nc ns (pc + 1) lv (.int (nI (f i)) :: st) w) : G Γ E nc ns pc lv (.int (nI i) :: .ref a :: st) w := by
  obtain ⟨p, l, e, R, s, m, args, below, meth, c, nL, A, Q⟩ := Γ
  obtain ⟨hx, hb, hml, hnl, hR, hown, hts, hN, hK, hA, hll⟩ := F
  intro H locs ls hP hD hS h
  refine va_zald (f := nf f) hx hb hK hP q0 1 he rfl (vin_of hi hn) hdg ?_
  rw [nI_clamp (Nat.lt_trans hi hn)]
  exact kk H locs ls hP hD hS h
theorem g_cald (F : Fx Γ E cc nL0 Ts own R0 l0) {a n i : Nat} {f : Nat → Nat} (q0 : Nat) (hdg : decode cc pc = .ok (.caload, 1)) (he : w[q0]? = some (ac E a n f)) (hi : i < n) (hn : n < 2 ^ 31) (kk : G Γ E nc ns (pc + 1) lv (.int (nI (f i)) :: st) w) : G Γ E nc ns pc lv (.int (nI i) :: .ref a :: st) w := by
  obtain ⟨p, l, e, R, s, m, args, below, meth, c, nL, A, Q⟩ := Γ
  obtain ⟨hx, hb, hml, hnl, hR, hown, hts, hN, hK, hA, hll⟩ := F
  intro H locs ls hP hD hS h
  refine va_cald (f := nf f) hx hb hK hP q0 2 he rfl (vin_of hi hn) hdg ?_
  rw [nI_clamp (Nat.lt_trans hi hn)]
  exact kk H locs ls hP hD hS h
theorem g_xald (F : Fx Γ E cc nL0 Ts own R0 l0) {a n i : Nat} {f : Nat → Int32} (q0 : Nat) (hdg : decode cc pc = .ok (.iaload, 1)) (he : w[q0]? = some (ax E a n f)) (hi : i < n) (hn : n < 2 ^ 31) (kk : G Γ E nc ns (pc + 1) lv (.int (f i) :: st) w) : G Γ E nc ns pc lv (.int (nI i) :: .ref a :: st) w := by
  obtain ⟨p, l, e, R, s, m, args, below, meth, c, nL, A, Q⟩ := Γ
  obtain ⟨hx, hb, hml, hnl, hR, hown, hts, hN, hK, hA, hll⟩ := F
  intro H locs ls hP hD hS h
  refine va_iald (f := f) hx hb hK hP q0 0 he rfl (vin_of hi hn) hdg ?_
  rw [nI_clamp (Nat.lt_trans hi hn)]
  exact kk H locs ls hP hD hS h
theorem g_qald (F : Fx Γ E cc nL0 Ts own R0 l0) {a n i : Nat} {f : Nat → Option Nat} {v : Value} (q0 : Nat) (hdg : decode cc pc = .ok (.aaload, 1)) (he : w[q0]? = some (aq E a n f)) (hi : i < n) (hn : n < 2 ^ 31) (hv : va_rf (f i) = v) (kk : G Γ E nc ns (pc + 1) lv (v :: st) w) : G Γ E nc ns pc lv (.int (nI i) :: .ref a :: st) w := by
  obtain ⟨p, l, e, R, s, m, args, below, meth, c, nL, A, Q⟩ := Γ
  obtain ⟨hx, hb, hml, hnl, hR, hown, hts, hN, hK, hA, hll⟩ := F
  intro H locs ls hP hD hS h
  subst hv
  refine va_aldq (f := f) hx hb hK hP q0 3 he rfl (vin_of hi hn) hdg ?_
  rw [nI_clamp (Nat.lt_trans hi hn)]
  exact kk H locs ls hP hD hS h
theorem g_iast (F : Fx Γ E cc nL0 Ts own R0 l0) {a n i v : Nat} {f : Nat → Nat} {w2 : va_W} (q0 : Nat) (hdg : decode cc pc = .ok (.iastore, 1)) (he : w[q0]? = some (ai E a n f)) (hi : i < n) (hn : n < 2 ^ 31) (hw : w.set q0 (ai E a n (up f i v)) = w2) (kk : G Γ E nc ns (pc + 1) lv st w2) : G Γ E nc ns pc lv (.int (nI v) :: .int (nI i) :: .ref a :: st) w := by
  obtain ⟨p, l, e, R, s, m, args, below, meth, c, nL, A, Q⟩ := Γ
  obtain ⟨hx, hb, hml, hnl, hR, hown, hts, hN, hK, hA, hll⟩ := F
  intro H locs ls hP hD hS h
  subst hw
  refine va_iast (f := nf f) hx hb hK hP hD hS q0 0 he rfl (vin_of hi hn) hdg (fun H1 locs1 hP1 hD1 hS1 => ?_)
  rw [nI_clamp (Nat.lt_trans hi hn), upd_nf] at hP1 hD1
  exact kk H1 locs1 ls hP1 hD1 hS1 h
theorem g_xast (F : Fx Γ E cc nL0 Ts own R0 l0) {a n i : Nat} {v : Int32} {f : Nat → Int32} {w2 : va_W} (q0 : Nat) (hdg : decode cc pc = .ok (.iastore, 1)) (he : w[q0]? = some (ax E a n f)) (hi : i < n) (hn : n < 2 ^ 31) (hw : w.set q0 (ax E a n (upd f i v)) = w2) (kk : G Γ E nc ns (pc + 1) lv st w2) : G Γ E nc ns pc lv (.int v :: .int (nI i) :: .ref a :: st) w := by
  obtain ⟨p, l, e, R, s, m, args, below, meth, c, nL, A, Q⟩ := Γ
  obtain ⟨hx, hb, hml, hnl, hR, hown, hts, hN, hK, hA, hll⟩ := F
  intro H locs ls hP hD hS h
  subst hw
  refine va_iast (f := f) hx hb hK hP hD hS q0 0 he rfl (vin_of hi hn) hdg (fun H1 locs1 hP1 hD1 hS1 => ?_)
  rw [nI_clamp (Nat.lt_trans hi hn)] at hP1 hD1
  exact kk H1 locs1 ls hP1 hD1 hS1 h
theorem g_zast (F : Fx Γ E cc nL0 Ts own R0 l0) {a n i v : Nat} {f : Nat → Nat} {w2 : va_W} (q0 : Nat) (hdg : decode cc pc = .ok (.bastore, 1)) (he : w[q0]? = some (az E a n f)) (hi : i < n) (hn : n < 2 ^ 31) (hv : vp_nar .boolean (nI v) = nI v) (hw : w.set q0 (az E a n (up f i v)) = w2) (kk : G Γ E nc ns (pc + 1) lv st w2) : G Γ E nc ns pc lv (.int (nI v) :: .int (nI i) :: .ref a :: st) w := by
  obtain ⟨p, l, e, R, s, m, args, below, meth, c, nL, A, Q⟩ := Γ
  obtain ⟨hx, hb, hml, hnl, hR, hown, hts, hN, hK, hA, hll⟩ := F
  intro H locs ls hP hD hS h
  subst hw
  refine va_zast (f := nf f) hx hb hK hP hD hS q0 1 he rfl (vin_of hi hn) hdg (fun H1 locs1 hP1 hD1 hS1 => ?_)
  rw [nI_clamp (Nat.lt_trans hi hn), hv, upd_nf] at hP1 hD1
  exact kk H1 locs1 ls hP1 hD1 hS1 h
theorem g_cast (F : Fx Γ E cc nL0 Ts own R0 l0) {a n i v : Nat} {f : Nat → Nat} {w2 : va_W} (q0 : Nat) (hdg : decode cc pc = .ok (.castore, 1)) (he : w[q0]? = some (ac E a n f)) (hi : i < n) (hn : n < 2 ^ 31) (hv : vp_nar .char (nI v) = nI v) (hw : w.set q0 (ac E a n (up f i v)) = w2) (kk : G Γ E nc ns (pc + 1) lv st w2) : G Γ E nc ns pc lv (.int (nI v) :: .int (nI i) :: .ref a :: st) w := by
  obtain ⟨p, l, e, R, s, m, args, below, meth, c, nL, A, Q⟩ := Γ
  obtain ⟨hx, hb, hml, hnl, hR, hown, hts, hN, hK, hA, hll⟩ := F
  intro H locs ls hP hD hS h
  subst hw
  refine va_cast (f := nf f) hx hb hK hP hD hS q0 2 he rfl (vin_of hi hn) hdg (fun H1 locs1 hP1 hD1 hS1 => ?_)
  rw [nI_clamp (Nat.lt_trans hi hn), hv, upd_nf] at hP1 hD1
  exact kk H1 locs1 ls hP1 hD1 hS1 h
theorem g_qast (F : Fx Γ E cc nL0 Ts own R0 l0) {a n i v : Nat} {vs : List Value} {f : Nat → Option Nat} {w2 : va_W} (q0 qk : Nat) (hdg : decode cc pc = .ok (.aastore, 1)) (he : w[q0]? = some (aq E a n f)) (hv : w[qk]? = some (ob 5 v vs)) (hi : i < n) (hn : n < 2 ^ 31) (hw : w.set q0 (aq E a n (va_up f i (some v))) = w2) (kk : G Γ E nc ns (pc + 1) lv st w2) : G Γ E nc ns pc lv (.ref v :: .int (nI i) :: .ref a :: st) w := by
  obtain ⟨p, l, e, R, s, m, args, below, meth, c, nL, A, Q⟩ := Γ
  obtain ⟨hx, hb, hml, hnl, hR, hown, hts, hN, hK, hA, hll⟩ := F
  intro H locs ls hP hD hS h
  subst hw
  refine va_astq (r := (RX5, TX5, 5)) (f := f) hx hb hK hP hD hS q0 3 qk 5 he rfl hv rfl (vin_of hi hn) hdg (fun H1 locs1 hP1 hD1 hS1 => ?_)
  rw [nI_clamp (Nat.lt_trans hi hn)] at hP1 hD1
  exact kk H1 locs1 ls hP1 hD1 hS1 h
theorem g_jald (F : Fx Γ E cc nL0 Ts own R0 l0) {a n i : Nat} {f : Nat → Int64} (q0 : Nat) (hdg : decode cc pc = .ok (.laload, 1)) (he : w[q0]? = some (aj E a n f)) (hi : i < n) (hn : n < 2 ^ 31) (kk : G Γ E nc ns (pc + 1) lv (.long (f i) :: st) w) : G Γ E nc ns pc lv (.int (nI i) :: .ref a :: st) w := by
  obtain ⟨p, l, e, R, s, m, args, below, meth, c, nL, A, Q⟩ := Γ
  obtain ⟨hx, hb, hml, hnl, hR, hown, hts, hN, hK, hA, hll⟩ := F
  intro H locs ls hP hD hS h
  refine va_lald (f := f) hx hb hK hP q0 4 he rfl (vin_of hi hn) hdg ?_
  rw [nI_clamp (Nat.lt_trans hi hn)]
  exact kk H locs ls hP hD hS h
theorem g_jast (F : Fx Γ E cc nL0 Ts own R0 l0) {a n i : Nat} {v : Int64} {f : Nat → Int64} {w2 : va_W} (q0 : Nat) (hdg : decode cc pc = .ok (.lastore, 1)) (he : w[q0]? = some (aj E a n f)) (hi : i < n) (hn : n < 2 ^ 31) (hw : w.set q0 (aj E a n (vp_updL f i v)) = w2) (kk : G Γ E nc ns (pc + 1) lv st w2) : G Γ E nc ns pc lv (.long v :: .int (nI i) :: .ref a :: st) w := by
  obtain ⟨p, l, e, R, s, m, args, below, meth, c, nL, A, Q⟩ := Γ
  obtain ⟨hx, hb, hml, hnl, hR, hown, hts, hN, hK, hA, hll⟩ := F
  intro H locs ls hP hD hS h
  subst hw
  refine va_last (f := f) hx hb hK hP hD hS q0 4 he rfl (vin_of hi hn) hdg (fun H1 locs1 hP1 hD1 hS1 => ?_)
  rw [nI_clamp (Nat.lt_trans hi hn)] at hP1 hD1
  exact kk H1 locs1 ls hP1 hD1 hS1 h
theorem g_alen (F : Fx Γ E cc nL0 Ts own R0 l0) {a n : Nat} {f : Nat → Nat} (q0 : Nat) (hdg : decode cc pc = .ok (.arraylength, 1)) (he : w[q0]? = some (ai E a n f)) (kk : G Γ E nc ns (pc + 1) lv (.int (nI n) :: st) w) : G Γ E nc ns pc lv (.ref a :: st) w := by
  obtain ⟨p, l, e, R, s, m, args, below, meth, c, nL, A, Q⟩ := Γ
  obtain ⟨hx, hb, hml, hnl, hR, hown, hts, hN, hK, hA, hll⟩ := F
  intro H locs ls hP hD hS h
  exact va_alen hx hb hK hP q0 0 he (ty := .int) rfl rfl hdg (kk H locs ls hP hD hS h)
theorem g_ws {w2 : va_W} (hs : w = w2) (kk : G Γ E nc ns pc lv st w2) : G Γ E nc ns pc lv st w := by rw [hs]; exact kk
theorem g_w {w2 : va_W} (is : List Nat) (hn : va_nd is = true) (hs : is.map (fun i => w[i]?) = w2.map some) (kk : G Γ E nc ns pc lv st w2) : G Γ E nc ns pc lv st w := by
  obtain ⟨p, l, e, R, s, m, args, below, meth, c, nL, A, Q⟩ := Γ
  intro H locs ls hP hD hS h
  exact kk H locs ls (by
    intro k q hk
    have h1 : (is.map (fun i => w[i]?))[k]? = some (some q) := by rw [hs, List.getElem?_map, hk]; rfl
    rw [List.getElem?_map] at h1
    cases hi : is[k]? with
    | none => rw [hi] at h1; cases h1
    | some i => rw [hi] at h1; exact hP i q (Option.some.inj h1)) (hD.sub is hn hs) hS h
theorem g_lv {lv2 : List (Nat × Value)} (is : List Nat) (hs : lv_pick lv is = lv2) (kk : G Γ E nc ns pc lv2 st w) : G Γ E nc ns pc lv st w := by
  obtain ⟨p, l, e, R, s, m, args, below, meth, c, nL, A, Q⟩ := Γ
  intro H locs ls hP hD hS h
  exact kk H locs ls hP hD hS (lv_sub h is hs)
theorem g_widen {k n : Nat} (h1 : nc ≤ k) (h2 : ns ≤ n) (kk : G Γ E k n pc lv st w) : G Γ E nc ns pc lv st w := by
  obtain ⟨p, l, e, R, s, m, args, below, meth, c, nL, A, Q⟩ := Γ
  intro H locs ls hP hD hS h
  exact W.widen h1 h2 (kk H locs ls hP hD hS h)
theorem g_new (F : Fx Γ E cc nL0 Ts own R0 l0) {C : String} {T : u_T} {N ci index : Nat} {fs : List Value} {ty : Nat → FieldType} (hdg : decode cc pc = .ok (.new index, 3)) (hin : ∀ x ∈ u_ws C T N, x ∈ Ts) (hty : ∀ k, k < N → parseFieldDescriptor (T k).2.2.1 = some (ty k)) (hcl : Cond.classLink own index C ∈ Ts) (hins : Cond.instantiable C N ∈ Ts) (hini : Cond.initialized C ∈ Ts) (hc : vwCl[ci]? = some (C, T, N)) (hfs : ∀ j, j < N → defaultValue (ty j) = vp_V fs j) (hcells : nc + 1 ≤ R0.cells) (hslots : ns + N ≤ R0.slots) (kk : ∀ q : Nat, G Γ E (nc + 1) (ns + N) (pc + 3) lv (.ref q :: st) (w ++ [ob ci q fs])) : G Γ E nc ns pc lv st w := by
  obtain ⟨p, l, e, R, s, m, args, below, meth, c, nL, A, Q⟩ := Γ
  obtain ⟨hx, hb, hml, hnl, hR, hown, hts, hN, hK, hA, hll⟩ := F
  intro H locs ls hP hD hS h
  subst hR
  exact va_new hx hb hts hin ty hty hown (hts _ hcl) (hts _ hins) (hts _ hini) hK hP hD hS hA hc hfs hcells hslots hdg (fun q H1 hP1 hD1 hS1 => kk q H1 locs ls hP1 hD1 hS1 h)
theorem g_newaI (F : Fx Γ E cc nL0 Ts own R0 l0) {N : Nat} (hdg : decode cc pc = .ok (.newarray .int, 2)) (harr : Cond.arrayClass .int ∈ Ts) (hN2 : N < 100000) (hcells : nc + 1 ≤ R0.cells) (hslots : ns + N ≤ R0.slots) (kk : ∀ q : Nat, G Γ E (nc + 1) (ns + N) (pc + 2) lv (.ref q :: st) (w ++ [ai E q N (fun _ => 0)])) : G Γ E nc ns pc lv (.int (nI N) :: st) w := by
  obtain ⟨p, l, e, R, s, m, args, below, meth, c, nL, A, Q⟩ := Γ
  obtain ⟨hx, hb, hml, hnl, hR, hown, hts, hN, hK, hA, hll⟩ := F
  intro H locs ls hP hD hS h
  subst hR
  refine va_newa (atype := .int) (ty := .int) (N' := N) (a0 := (N, .inl (nf fun _ => 0))) hx hb (hts _ harr) rfl hK hP hD hS hA (fun cA => rfl) (nI_pos (by omega)) (nI_clamp (by omega)) (cb_ok (by decide : componentBytes (FieldType.int) ≤ 8) hN2) hcells hslots hdg (fun q cA H1 hK1 hP1 hD1 hS1 => ?_)
  have e1 := (hK1.2 5 (cA, .int) rfl).2
  have e2 := (hK1.2 0 _ rfl).2
  have e3 : cA = E.2.1 := Option.some.inj (e1.symm.trans e2)
  subst e3
  exact kk q H1 locs ls hP1 hD1 hS1 h
theorem g_newaZ (F : Fx Γ E cc nL0 Ts own R0 l0) {N : Nat} (hdg : decode cc pc = .ok (.newarray .boolean, 2)) (harr : Cond.arrayClass .boolean ∈ Ts) (hN2 : N < 100000) (hcells : nc + 1 ≤ R0.cells) (hslots : ns + N ≤ R0.slots) (kk : ∀ q : Nat, G Γ E (nc + 1) (ns + N) (pc + 2) lv (.ref q :: st) (w ++ [az E q N (fun _ => 0)])) : G Γ E nc ns pc lv (.int (nI N) :: st) w := by
  obtain ⟨p, l, e, R, s, m, args, below, meth, c, nL, A, Q⟩ := Γ
  obtain ⟨hx, hb, hml, hnl, hR, hown, hts, hN, hK, hA, hll⟩ := F
  intro H locs ls hP hD hS h
  subst hR
  refine va_newa (atype := .boolean) (ty := .boolean) (N' := N) (a0 := (N, .inl (nf fun _ => 0))) hx hb (hts _ harr) rfl hK hP hD hS hA (fun cA => rfl) (nI_pos (by omega)) (nI_clamp (by omega)) (cb_ok (by decide : componentBytes (FieldType.boolean) ≤ 8) hN2) hcells hslots hdg (fun q cA H1 hK1 hP1 hD1 hS1 => ?_)
  have e1 := (hK1.2 5 (cA, .boolean) rfl).2
  have e2 := (hK1.2 1 _ rfl).2
  have e3 : cA = E.2.2.1 := Option.some.inj (e1.symm.trans e2)
  subst e3
  exact kk q H1 locs ls hP1 hD1 hS1 h
theorem g_newaC (F : Fx Γ E cc nL0 Ts own R0 l0) {N : Nat} (hdg : decode cc pc = .ok (.newarray .char, 2)) (harr : Cond.arrayClass .char ∈ Ts) (hN2 : N < 100000) (hcells : nc + 1 ≤ R0.cells) (hslots : ns + N ≤ R0.slots) (kk : ∀ q : Nat, G Γ E (nc + 1) (ns + N) (pc + 2) lv (.ref q :: st) (w ++ [ac E q N (fun _ => 0)])) : G Γ E nc ns pc lv (.int (nI N) :: st) w := by
  obtain ⟨p, l, e, R, s, m, args, below, meth, c, nL, A, Q⟩ := Γ
  obtain ⟨hx, hb, hml, hnl, hR, hown, hts, hN, hK, hA, hll⟩ := F
  intro H locs ls hP hD hS h
  subst hR
  refine va_newa (atype := .char) (ty := .char) (N' := N) (a0 := (N, .inl (nf fun _ => 0))) hx hb (hts _ harr) rfl hK hP hD hS hA (fun cA => rfl) (nI_pos (by omega)) (nI_clamp (by omega)) (cb_ok (by decide : componentBytes (FieldType.char) ≤ 8) hN2) hcells hslots hdg (fun q cA H1 hK1 hP1 hD1 hS1 => ?_)
  have e1 := (hK1.2 5 (cA, .char) rfl).2
  have e2 := (hK1.2 2 _ rfl).2
  have e3 : cA = E.2.2.2.1 := Option.some.inj (e1.symm.trans e2)
  subst e3
  exact kk q H1 locs ls hP1 hD1 hS1 h
theorem g_newaJ (F : Fx Γ E cc nL0 Ts own R0 l0) {N : Nat} (hdg : decode cc pc = .ok (.newarray .long, 2)) (harr : Cond.arrayClass .long ∈ Ts) (hN2 : N < 100000) (hcells : nc + 1 ≤ R0.cells) (hslots : ns + N ≤ R0.slots) (kk : ∀ q : Nat, G Γ E (nc + 1) (ns + N) (pc + 2) lv (.ref q :: st) (w ++ [aj E q N (fun _ => 0)])) : G Γ E nc ns pc lv (.int (nI N) :: st) w := by
  obtain ⟨p, l, e, R, s, m, args, below, meth, c, nL, A, Q⟩ := Γ
  obtain ⟨hx, hb, hml, hnl, hR, hown, hts, hN, hK, hA, hll⟩ := F
  intro H locs ls hP hD hS h
  subst hR
  refine va_newa (atype := .long) (ty := .long) (N' := N) (a0 := (N, .inr (.inl fun _ => 0))) hx hb (hts _ harr) rfl hK hP hD hS hA (fun cA => rfl) (nI_pos (by omega)) (nI_clamp (by omega)) (cb_ok (by decide : componentBytes (FieldType.long) ≤ 8) hN2) hcells hslots hdg (fun q cA H1 hK1 hP1 hD1 hS1 => ?_)
  have e1 := (hK1.2 5 (cA, .long) rfl).2
  have e2 := (hK1.2 4 _ rfl).2
  have e3 : cA = E.2.2.2.2.2 := Option.some.inj (e1.symm.trans e2)
  subst e3
  exact kk q H1 locs ls hP1 hD1 hS1 h
theorem g_newq (F : Fx Γ E cc nL0 Ts own R0 l0) {N index : Nat} (hdg : decode cc pc = .ok (.anewarray index, 3)) (hcl : Cond.classLink own index "SummedParents$State" ∈ Ts) (hN2 : N < 100000) (hcells : nc + 1 ≤ R0.cells) (hslots : ns + N ≤ R0.slots) (kk : ∀ q : Nat, G Γ E (nc + 1) (ns + N) (pc + 3) lv (.ref q :: st) (w ++ [aq E q N (fun _ => none)])) : G Γ E nc ns pc lv (.int (nI N) :: st) w := by
  obtain ⟨p, l, e, R, s, m, args, below, meth, c, nL, A, Q⟩ := Γ
  obtain ⟨hx, hb, hml, hnl, hR, hown, hts, hN, hK, hA, hll⟩ := F
  intro H locs ls hP hD hS h
  subst hR
  refine va_newq (N' := N) hx hb hown (hts _ hcl) hN.2 hK hP hD hS hA (nI_pos (by omega)) (nI_clamp (by omega)) (by omega) hcells hslots hdg (fun q cA H1 hK1 hP1 hD1 hS1 => ?_)
  obtain ⟨_, _, _, _, _, e1⟩ := (hK1.2 5 (cA, .object "SummedParents$State") rfl).2
  obtain ⟨_, _, _, _, _, e2⟩ := (hK1.2 3 _ rfl).2
  have e3 : cA = E.2.2.2.2.1 := Option.some.inj (e1.symm.trans e2)
  subst e3
  exact kk q H1 locs ls hP1 hD1 hS1 h
theorem g_objInit (F : Fx Γ E cc nL0 Ts own R0 l0) {a index : Nat} (hdg : decode cc pc = .ok (.invokespecial index, 3)) (hlk : Cond.methodLink own index objectInit ∈ Ts) (hins : Cond.instanceMethod objectInit ∈ Ts) (hco : Cond.code objectInit ⟨#[0xb1]⟩ 1 none ∈ Ts) (hfr : 1 ≤ R0.frames) (hlo : (st.map fun v => v.category).sum + 12 ≤ R0.locals) (kk : G Γ E nc ns (pc + 3) lv st w) : G Γ E nc ns pc lv (.ref a :: st) w := by
  obtain ⟨p, l, e, R, s, m, args, below, meth, c, nL, A, Q⟩ := Γ
  obtain ⟨hx, hb, hml, hnl, hR, hown, hts, hN, hK, hA, hll⟩ := F
  intro H locs ls hP hD hS h
  subst hR
  refine W.objInit hx hb hown (hts _ hlk) (hts _ hins) (hts _ hco) rfl (h.1.trans hml.symm) rfl hdg hfr ?_ (kk H locs ls hP hD hS h)
  have := lv_room (m := m) (pc := pc) (ls := ls) (rest := .ref a :: st) (st := []) (by decide)
  simp only [List.map_nil, List.sum_nil, Nat.add_zero] at this
  have hz : (F0 m pc ls (Value.ref a :: st)).monitorRoom = 0 := rfl
  rw [hz]
  omega
theorem g_copy (F : Fx Γ E cc nL0 Ts own R0 l0) {a0 a n : Nat} {f g : Nat → Nat} {w2 : va_W} {index : Nat} (q0 q1 : Nat) (hdg : decode cc pc = .ok (.invokestatic index, 3)) (hlk : Cond.methodLink own index arraycopyName ∈ Ts) (hna : Cond.native arraycopyName ∈ Ts) (hsta : Cond.static arraycopyName ∈ Ts) (hini : Cond.initialized "java/lang/System" ∈ Ts) (ha0 : w[q0]? = some (ai E a0 n f)) (ha1 : w[q1]? = some (ai E a n g)) (hn : n < 2 ^ 31) (hfr : 1 ≤ R0.frames) (hlo : (st.map fun v => v.category).sum + (nativeFrameWords "java/lang/System" "arraycopy" 5 + 11) ≤ R0.locals) (hw : w.set q1 (ai E a n (fun j => if j < n then f j else g j)) = w2) (kk : G Γ E nc ns (pc + 3) lv st w2) : G Γ E nc ns pc lv (.int (nI n) :: .int (nI 0) :: .ref a :: .int (nI 0) :: .ref a0 :: st) w := by
  obtain ⟨p, l, e, R, s, m, args, below, meth, c, nL, A, Q⟩ := Γ
  obtain ⟨hx, hb, hml, hnl, hR, hown, hts, hN, hK, hA, hll⟩ := F
  intro H locs ls hP hD hS h
  subst hR; subst hw
  refine va_copyi (f := nf f) (g := nf g) (ty := .int) hx hb (hml.trans h.1.symm) hown (hts _ hlk) (hts _ hna) (hts _ hsta) (hts _ hini) hK hP hD hS q0 q1 0 0 ha0 ha1 rfl rfl rfl (nI_pos (by decide)) (nI_pos (by decide)) (nI_pos hn) ?_ ?_ (fun _ _ => rfl) hfr hlo hdg (fun H1 locs1 hP1 hD1 hS1 => ?_)
  · rw [nI_clamp hn, nI_clamp (by decide)]; omega
  · rw [nI_clamp hn, nI_clamp (by decide)]; omega
  · rw [nI_clamp hn, nI_clamp (by decide)] at hP1 hD1
    have e : va_cpy (nf f) (nf g) 0 0 n = nf (fun j => if j < n then f j else g j) := by
      funext j
      by_cases hj : j < n
      · rw [pk_cpy_in (Nat.zero_le j) (by omega)]; simp [nf, hj]
      · rw [pk_cpy_out (Or.inr (by omega))]; simp [nf, hj]
    rw [e] at hP1 hD1
    exact kk H1 locs1 ls hP1 hD1 hS1 h
/-- the law's script -/
def Sc (Γ : Gm) (b L : Nat) (xs : Nat → Int32) : Prop := match Γ with
  | (p, l, e, R, s, m, args, below, meth, c, nL, A, Q) => va_X b L xs s s.heap ∧ b < s.heap.size ∧ ¬ A b
theorem g_sld (F : Fx Γ E cc nL0 Ts own R0 l0) {b L i : Nat} {xs : Nat → Int32} (hX : Sc Γ b L xs) (hdg : decode cc pc = .ok (.iaload, 1)) (hi : i < L) (hn : L < 2 ^ 31) (kk : G Γ E nc ns (pc + 1) lv (.int (xs i) :: st) w) : G Γ E nc ns pc lv (.int (nI i) :: .ref b :: st) w := by
  obtain ⟨p, l, e, R, s, m, args, below, meth, c, nL, A, Q⟩ := Γ
  obtain ⟨hx, hb, hml, hnl, hR, hown, hts, hN, hK, hA, hll⟩ := F
  intro H locs ls hP hD hS h
  obtain ⟨h1, h2, h3⟩ := hX
  refine va_sld hx hb h1 h2 h3 hS (vin_of hi hn) hdg ?_
  rw [nI_clamp (Nat.lt_trans hi hn)]
  exact kk H locs ls hP hD hS h
theorem g_slen (F : Fx Γ E cc nL0 Ts own R0 l0) {b L : Nat} {xs : Nat → Int32} (hX : Sc Γ b L xs) (hdg : decode cc pc = .ok (.arraylength, 1)) (kk : G Γ E nc ns (pc + 1) lv (.int (nI L) :: st) w) : G Γ E nc ns pc lv (.ref b :: st) w := by
  obtain ⟨p, l, e, R, s, m, args, below, meth, c, nL, A, Q⟩ := Γ
  obtain ⟨hx, hb, hml, hnl, hR, hown, hts, hN, hK, hA, hll⟩ := F
  intro H locs ls hP hD hS h
  obtain ⟨h1, h2, h3⟩ := hX
  exact va_slen hx hb h1 h2 h3 hS hdg (kk H locs ls hP hD hS h)
theorem g_aiC {a n : Nat} {f : Nat → Nat} {w2 : va_W} (q0 : Nat) (he : w[q0]? = some (ai E a n f)) (f2 : Nat → Nat) (hf : ∀ j, j < n → f j = f2 j) (hw : w.set q0 (ai E a n f2) = w2) (kk : G Γ E nc ns pc lv st w2) : G Γ E nc ns pc lv st w := by
  obtain ⟨p, l, e, R, s, m, args, below, meth, c, nL, A, Q⟩ := Γ
  subst hw
  intro H locs ls hP hD hS h
  refine kk H locs ls (hP.set hD he ?_ (fun _ _ => rfl)) (hD.set he) hS h
  have h1 := hP q0 _ he
  have e1 : vp_cell E.2.1 (n, .inl (nf f)) = vp_cell E.2.1 (n, .inl (nf f2)) := by
    rw [vp_cell_i, vp_cell_i]
    unfold arrV
    congr 2
    funext j
    simp only [nf]
    rw [hf j.val j.isLt]
  show H[a]? = some (vp_cell _ _)
  rw [← e1]
  exact h1
theorem g_azC {a n : Nat} {f : Nat → Nat} {w2 : va_W} (q0 : Nat) (he : w[q0]? = some (az E a n f)) (f2 : Nat → Nat) (hf : ∀ j, j < n → f j = f2 j) (hw : w.set q0 (az E a n f2) = w2) (kk : G Γ E nc ns pc lv st w2) : G Γ E nc ns pc lv st w := by
  obtain ⟨p, l, e, R, s, m, args, below, meth, c, nL, A, Q⟩ := Γ
  subst hw
  intro H locs ls hP hD hS h
  refine kk H locs ls (hP.set hD he ?_ (fun _ _ => rfl)) (hD.set he) hS h
  have h1 := hP q0 _ he
  have e1 : vp_cell E.2.2.1 (n, .inl (nf f)) = vp_cell E.2.2.1 (n, .inl (nf f2)) := by
    rw [vp_cell_i, vp_cell_i]
    unfold arrV
    congr 2
    funext j
    simp only [nf]
    rw [hf j.val j.isLt]
  show H[a]? = some (vp_cell _ _)
  rw [← e1]
  exact h1
theorem g_acC {a n : Nat} {f : Nat → Nat} {w2 : va_W} (q0 : Nat) (he : w[q0]? = some (ac E a n f)) (f2 : Nat → Nat) (hf : ∀ j, j < n → f j = f2 j) (hw : w.set q0 (ac E a n f2) = w2) (kk : G Γ E nc ns pc lv st w2) : G Γ E nc ns pc lv st w := by
  obtain ⟨p, l, e, R, s, m, args, below, meth, c, nL, A, Q⟩ := Γ
  subst hw
  intro H locs ls hP hD hS h
  refine kk H locs ls (hP.set hD he ?_ (fun _ _ => rfl)) (hD.set he) hS h
  have h1 := hP q0 _ he
  have e1 : vp_cell E.2.2.2.1 (n, .inl (nf f)) = vp_cell E.2.2.2.1 (n, .inl (nf f2)) := by
    rw [vp_cell_i, vp_cell_i]
    unfold arrV
    congr 2
    funext j
    simp only [nf]
    rw [hf j.val j.isLt]
  show H[a]? = some (vp_cell _ _)
  rw [← e1]
  exact h1
theorem g_topJ (x y : Int64) (he : x = y) (kk : G Γ E nc ns pc lv (.long y :: st) w) : G Γ E nc ns pc lv (.long x :: st) w := by rw [he]; exact kk
theorem g_ajC {a n : Nat} {f : Nat → Int64} {w2 : va_W} (q0 : Nat) (he : w[q0]? = some (aj E a n f)) (f2 : Nat → Int64) (hf : ∀ j, j < n → f j = f2 j) (hw : w.set q0 (aj E a n f2) = w2) (kk : G Γ E nc ns pc lv st w2) : G Γ E nc ns pc lv st w := by
  obtain ⟨p, l, e, R, s, m, args, below, meth, c, nL, A, Q⟩ := Γ
  subst hw
  intro H locs ls hP hD hS h
  refine kk H locs ls (hP.set hD he ?_ (fun _ _ => rfl)) (hD.set he) hS h
  have h1 := hP q0 _ he
  have e1 : vp_cell E.2.2.2.2.2 (n, .inr (.inl f)) = vp_cell E.2.2.2.2.2 (n, .inr (.inl f2)) := by
    rw [vp_cell_l, vp_cell_l]
    unfold arrV
    congr 2
    funext j
    show Value.long (f j.val) = Value.long (f2 j.val)
    rw [hf j.val j.isLt]
  show H[a]? = some (vp_cell _ _)
  rw [← e1]
  exact h1
theorem g_obC {ci a : Nat} {fs : List Value} {w2 : va_W} (q0 : Nat) (he : w[q0]? = some (ob ci a fs)) (fs2 : List Value) (hf : fs = fs2) (hw : w.set q0 (ob ci a fs2) = w2) (kk : G Γ E nc ns pc lv st w2) : G Γ E nc ns pc lv st w := by
  subst hf
  have e : w.set q0 (ob ci a fs) = w := by
    apply List.ext_getElem?
    intro i
    by_cases h : i = q0
    · subst h
      have hl := (List.getElem?_eq_some_iff.mp he).1
      rw [List.getElem?_set_self hl, he]
    · rw [List.getElem?_set_ne (Ne.symm h)]
  rw [e] at hw
  rw [hw]; exact kk
theorem g_aqC {a n : Nat} {f : Nat → Option Nat} {w2 : va_W} (q0 : Nat) (he : w[q0]? = some (aq E a n f)) (f2 : Nat → Option Nat) (hf : ∀ j, j < n → f j = f2 j) (hw : w.set q0 (aq E a n f2) = w2) (kk : G Γ E nc ns pc lv st w2) : G Γ E nc ns pc lv st w := by
  obtain ⟨p, l, e, R, s, m, args, below, meth, c, nL, A, Q⟩ := Γ
  subst hw
  intro H locs ls hP hD hS h
  refine kk H locs ls (hP.set hD he ?_ (fun _ _ => rfl)) (hD.set he) hS h
  have h1 := hP q0 _ he
  have e1 : vp_cell E.2.2.2.2.1 (n, .inr (.inr (.inr (.inr f)))) = vp_cell E.2.2.2.2.1 (n, .inr (.inr (.inr (.inr f2)))) := by
    rw [vp_cell_q, vp_cell_q]
    unfold arrV
    congr 2
    funext j
    show va_rf (f j.val) = va_rf (f2 j.val)
    rw [hf j.val j.isLt]
  show H[a]? = some (vp_cell _ _)
  rw [← e1]
  exact h1
theorem g_lvC {i : Nat} {x : Value} {lv2 : List (Nat × Value)} (q0 : Nat) (he : lv[q0]? = some (i, x)) (x2 : Value) (hx2 : x = x2) (hw : lv.set q0 (i, x2) = lv2) (kk : G Γ E nc ns pc lv2 st w) : G Γ E nc ns pc lv st w := by
  subst hx2
  have e : lv.set q0 (i, x) = lv := by
    apply List.ext_getElem?
    intro j
    by_cases h : j = q0
    · subst h
      have hl := (List.getElem?_eq_some_iff.mp he).1
      rw [List.getElem?_set_self hl, he]
    · rw [List.getElem?_set_ne (Ne.symm h)]
  rw [e] at hw
  rw [hw]; exact kk
theorem pk_dec {a : Nat} (h : 0 < a) : nI a + Int32.ofInt (-1) = nI (a - 1) := by
  obtain ⟨b, rfl⟩ : ∃ b, a = b + 1 := ⟨a - 1, by omega⟩
  exact pk_m1 b
theorem bi_fits (P : Prop) : fits .boolean (.int (bi P)) = true := by
  by_cases h : P
  · rw [bi_pos h]; decide
  · rw [bi_neg h]; decide
theorem nar_b {x : Nat} (h : x ≤ 1) : vp_nar .boolean (nI x) = nI x := by
  rcases (show x = 0 ∨ x = 1 by omega) with rfl | rfl <;> decide
theorem nar_c {x : Nat} (h : x < 65536) : vp_nar .char (nI x) = nI x := by
  unfold vp_nar
  rw [(pk_charN h).1]
end GR
/-- what is left of a world without the cells at some places -/
def wrest (w : va_W) (is : List Nat) : va_W := (List.range w.length).filterMap (fun i => if i ∈ is then none else w[i]?)
def rplace (w : va_W) (is : List Nat) : List Nat := (List.range w.length).filter (fun i => !(decide (i ∈ is)))
theorem va_nd_of : ∀ (l : List Nat), l.Nodup → va_nd l = true
  | [], _ => rfl
  | a :: l, h => by
    have h2 := List.nodup_cons.mp h
    simp only [va_nd, Bool.and_eq_true, decide_eq_true_eq]
    exact ⟨h2.1, va_nd_of l h2.2⟩
theorem rplace_nd (w : va_W) (is : List Nat) : va_nd (rplace w is) = true := va_nd_of _ (List.Nodup.sublist List.filter_sublist List.nodup_range)
theorem rplace_dis (w : va_W) (is : List Nat) : ∀ i ∈ rplace w is, i ∉ is := fun i h => by
  have := (List.mem_filter.mp h).2
  simpa using this
theorem rplace_map (w : va_W) (is : List Nat) : (rplace w is).map (fun i => w[i]?) = (wrest w is).map some := by
  unfold rplace wrest
  have key : ∀ (l : List Nat), (∀ i ∈ l, i < w.length) → (l.filter (fun i => !(decide (i ∈ is)))).map (fun i => w[i]?) = (l.filterMap (fun i => if i ∈ is then none else w[i]?)).map some := by
    intro l
    induction l with
    | nil => intro _; rfl
    | cons a l ih =>
      intro hl
      have iha := ih (fun i h => hl i (List.mem_cons_of_mem _ h))
      have ha := hl a List.mem_cons_self
      by_cases hm : a ∈ is
      · rw [List.filter_cons_of_neg (by simpa using hm), List.filterMap_cons_none (f := fun i => if i ∈ is then none else w[i]?) (by rw [if_pos hm]), iha]
      · have hw : (if a ∈ is then none else w[a]?) = some w[a] := by rw [if_neg hm]; exact List.getElem?_eq_getElem ha
        rw [List.filter_cons_of_pos (by simpa using hm), List.map_cons, iha, List.filterMap_cons_some (f := fun i => if i ∈ is then none else w[i]?) hw, List.map_cons, List.getElem?_eq_getElem ha]
  exact key _ (fun i h => List.mem_range.mp h)
/-- the cells at some places put anew -/
def rpl : va_W → List Nat → va_W → va_W
  | w, i :: is, c :: u => rpl (w.set i c) is u
  | w, _, _ => w
theorem rpl_out {k : Nat} : ∀ (is : List Nat) (w u : va_W), k ∉ is → (rpl w is u)[k]? = w[k]?
  | [], w, u, _ => by cases u <;> rfl
  | i :: is, w, [], _ => rfl
  | i :: is, w, c :: u, h => by
    show (rpl (w.set i c) is u)[k]? = _
    rw [rpl_out is _ u (fun z => h (List.mem_cons_of_mem _ z)), List.getElem?_set_ne (fun z => h (by rw [z]; exact List.mem_cons_self))]
theorem rpl_in {k n : Nat} : ∀ (is : List Nat) (w u : va_W), is.Nodup → u.length = is.length → is[n]? = some k → k < w.length → (rpl w is u)[k]? = u[n]?
  | [], w, u, _, _, h, _ => by simp at h
  | i :: is, w, [], _, hl, _, _ => by simp at hl
  | i :: is, w, c :: u, hn, hl, h, hk => by
    have hn2 := List.nodup_cons.mp hn
    show (rpl (w.set i c) is u)[k]? = _
    cases n with
    | zero =>
      simp only [List.getElem?_cons_zero, Option.some.injEq] at h
      subst h
      rw [rpl_out is _ u hn2.1, List.getElem?_set_self hk]
      rfl
    | succ n =>
      simp only [List.getElem?_cons_succ] at h
      rw [rpl_in is _ u hn2.2 (by simpa using hl) h (by rw [List.length_set]; exact hk)]
      rfl
theorem nd_of_va : ∀ (l : List Nat), va_nd l = true → l.Nodup
  | [], _ => List.nodup_nil
  | a :: l, h => by
    simp only [va_nd, Bool.and_eq_true, decide_eq_true_eq] at h
    exact List.nodup_cons.mpr ⟨h.1, nd_of_va l h.2⟩
theorem rpl_world {D : va_G} {cl : List vw_C} {A A1 : Nat → Prop} {w wc u : va_W} {H1 : Heap} {isC : List Nat} (hnd : va_nd isC = true) (hC : isC.map (fun i => w[i]?) = wc.map some) (hu : u.length = isC.length) (hD : va_D A w) (hD1 : va_D A1 u) (hP2 : va_P D cl (wrest w isC ++ u) H1) (hD2 : va_D A (wrest w isC ++ u)) : va_P D cl (rpl w isC u) H1 ∧ va_D A (rpl w isC u) := by
  have hN := nd_of_va isC hnd
  have hlt : ∀ k, k ∈ isC → k < w.length := by
    intro k hk
    obtain ⟨n, hn⟩ := List.getElem?_of_mem hk
    have h1 : (isC.map (fun i => w[i]?))[n]? = some (w[k]?) := by rw [List.getElem?_map, hn]; rfl
    rw [hC, List.getElem?_map] at h1
    cases hz : wc[n]? with
    | none => rw [hz] at h1; simp at h1
    | some c => rw [hz] at h1; simp at h1; exact (List.getElem?_eq_some_iff.mp h1.symm).1
  have key : ∀ (k : Nat) (q : Nat × va_E), (rpl w isC u)[k]? = some q → (k ∉ isC ∧ w[k]? = some q ∧ ∃ j : Nat, (wrest w isC)[j]? = some q) ∨ (∃ n : Nat, isC[n]? = some k ∧ u[n]? = some q) := by
    intro k q hq
    by_cases hm : k ∈ isC
    · right
      obtain ⟨n, hn⟩ := List.getElem?_of_mem hm
      exact ⟨n, hn, by rw [← rpl_in isC w u hN hu hn (hlt k hm)]; exact hq⟩
    · left
      rw [rpl_out isC w u hm] at hq
      have h3 : k < w.length := (List.getElem?_eq_some_iff.mp hq).1
      have h2 : q ∈ wrest w isC := List.mem_filterMap.mpr ⟨k, List.mem_range.mpr h3, by rw [if_neg hm]; exact hq⟩
      exact ⟨hm, hq, List.getElem?_of_mem h2⟩
  have left : ∀ (j : Nat) (q : Nat × va_E), (wrest w isC)[j]? = some q → (wrest w isC ++ u)[j]? = some q ∧ j < (wrest w isC).length := fun j q h => ⟨by rw [List.getElem?_append_left (List.getElem?_eq_some_iff.mp h).1]; exact h, (List.getElem?_eq_some_iff.mp h).1⟩
  have right : ∀ (n : Nat) (q : Nat × va_E), u[n]? = some q → (wrest w isC ++ u)[(wrest w isC).length + n]? = some q := fun n q h => by rw [List.getElem?_append_right (by omega), Nat.add_sub_cancel_left]; exact h
  refine ⟨fun k q hq => ?_, fun i j p q hi hj hpq => ?_, fun k q hq => ?_⟩
  · rcases key k q hq with ⟨-, -, j, hj⟩ | ⟨n, -, hn⟩
    · exact hP2 j q (left j q hj).1
    · exact hP2 _ q (right n q hn)
  · rcases key i p hi with ⟨hm, hp, a, ha⟩ | ⟨n, hn, hp⟩ <;> rcases key j q hj with ⟨hm2, hq, b, hb⟩ | ⟨n2, hn2, hq⟩
    · exact hD.1 i j p q hp hq hpq
    · have := hD2.1 a _ p q (left a p ha).1 (right n2 q hq) hpq
      have := (left a p ha).2
      omega
    · have := hD2.1 _ b p q (right n p hp) (left b q hb).1 hpq
      have := (left b q hb).2
      omega
    · have e := hD1.1 n n2 p q hp hq hpq
      subst e
      exact Option.some.inj (hn.symm.trans hn2)
  · rcases key k q hq with ⟨-, -, j, hj⟩ | ⟨n, -, hn⟩
    · exact hD2.2 j q (left j q hj).1
    · exact hD2.2 _ q (right n q hn)
theorem rpl_eq {w u w2 : va_W} {isC : List Nat} (isR : List Nat) (n : Nat) (hnd : va_nd isC = true) (hu : u.length = isC.length) (hl1 : w.length = n) (hl2 : w2.length = n) (hcov : (List.range n).all (fun k => decide (k ∈ isC) || decide (k ∈ isR)) = true) (hlt : isC.all (fun k => decide (k < n)) = true) (hb : isC.map (fun i => w2[i]?) = u.map some) (hc : isR.map (fun i => w2[i]?) = (isR.map (fun i => w[i]?)).map id) : rpl w isC u = w2 := by
  rw [List.map_id] at hc
  have hN := nd_of_va isC hnd
  have hlen : ∀ (is : List Nat) (w u : va_W), (rpl w is u).length = w.length := by
    intro is
    induction is with
    | nil => intro w u; cases u <;> rfl
    | cons i is ih =>
      intro w u
      cases u with
      | nil => rfl
      | cons c u => show (rpl (w.set i c) is u).length = _; rw [ih, List.length_set]
  apply List.ext_getElem?
  intro k
  by_cases hk : k < n
  · have h1 := List.all_eq_true.mp hcov k (List.mem_range.mpr hk)
    simp only [Bool.or_eq_true, decide_eq_true_eq] at h1
    by_cases hm : k ∈ isC
    · obtain ⟨m, hm2⟩ := List.getElem?_of_mem hm
      rw [rpl_in isC w u hN hu hm2 (by rw [hl1]; exact hk)]
      have h2 : (isC.map (fun i => w2[i]?))[m]? = some (w2[k]?) := by rw [List.getElem?_map, hm2]; rfl
      rw [hb, List.getElem?_map] at h2
      cases hz : u[m]? with
      | none => rw [hz] at h2; simp at h2
      | some c => rw [hz] at h2; simp at h2; exact h2
    · rw [rpl_out isC w u hm]
      obtain ⟨m, hm2⟩ := List.getElem?_of_mem (h1.resolve_left hm)
      have h2 : (isR.map (fun i => w2[i]?))[m]? = some (w2[k]?) := by rw [List.getElem?_map, hm2]; rfl
      rw [hc, List.getElem?_map, hm2] at h2
      exact Option.some.inj h2
  · rw [List.getElem?_eq_none (by rw [hlen, hl1]; omega), List.getElem?_eq_none (by rw [hl2]; omega)]
theorem pb_blind {E : En} {av : List Value} {wc : va_W} {sz : Nat} : FrameBlind (va_Pc av (PB E wc sz)) := fun a U g mk q => by
  obtain ⟨q0, q1, qP, qK, qD, qN⟩ := q
  exact ⟨q0, q1, qP, va_K.moved (u := U) (U := U.calling g mk a) (Vm.Alike.refl U.vm) qK, qD, NW.same (s := U) (U := U.calling g mk a) rfl qN⟩
theorem pb_at {E : En} {av : List Value} {wc : va_W} {s : State} {H : Heap} (hP : va_P E.1 vwCl wc H) (hD : va_D (fun _ => True) wc) (hK : KE E s) (hN : NW s) : ∀ U : State, U.heap = H → s.WarmedH U.vm → va_Pc av (PB E wc H.size) av.toArray U := fun U hU hW => ⟨rfl, by rw [hU], by rw [hU]; exact hP, va_K.moved hW.alike hK, hD, NW.warm hW hN⟩
section GC
variable {Γ : Gm} {E : En} {nc ns : Nat} {pc : Nat} {lv : List (Nat × Value)} {st : List Value} {w : va_W} {cc : ByteArray} {nL0 : Nat} {Ts : List Cond} {own : String} {R0 : Room} {l0 : Launch}
variable {y : MethodName} {wsY ws' : List Cond} {rm : Room} {As rest : List Value} {wc : va_W} {bytes : ByteArray} {maxL index n : Nat} {ret : Option FieldType}
theorem g_callSjR (F : Fx Γ E cc nL0 Ts own R0 l0) {post : Int64 → va_W → Prop} (isC : List Nat) (hM : CtJ l0 y wsY rm E As wc post) (hdg : decode cc pc = .ok (.invokestatic index, 3)) (hC : isC.map (fun i => w[i]?) = wc.map some) (hnd : va_nd isC = true) (hsd : st = As.reverse ++ rest) (hn : As.length = n) (hw : wsY = Cond.code y bytes maxL ret :: ws') (hcat : (rest.map fun v => v.category).sum ≤ 8) (hR : rm.frames + 1 ≤ R0.frames ∧ 8 + (maxL + 11) + rm.locals ≤ R0.locals) (hz1 : rm.cells = 0) (hz2 : rm.slots = 0) (hcs : nc ≤ R0.cells ∧ ns ≤ R0.slots) (hG : GoodIn Ts wsY) (hlk : Cond.methodLink own index y ∈ Ts) (hsta : Cond.static y ∈ Ts) (hini : Cond.initialized y.cls ∈ Ts) (hd : y.cls ≠ "java/lang/invoke/MethodHandle" ∧ y.cls ≠ "java/lang/invoke/VarHandle" ∧ (parseMethodDescriptor y.desc).map (fun d => d.parameters.length) = some n) (hro : ∀ r u, post r u → u = wc) (kk : ∀ (r : Int64) (u : va_W), post r u → G Γ E nc ns (pc + 3) lv (.long r :: rest) w) : G Γ E nc ns pc lv st w := by
  obtain ⟨p, l, e, R, s, m, args, below, meth, c, nL, A, Q⟩ := Γ
  obtain ⟨hx, hb, hml, hnl, hR', hown, hts, hN, hK, hA, hll⟩ := F
  intro H locs ls hP hD hS h
  subst hsd; subst hR'; subst hll
  have hcs2 : nc + rm.cells ≤ R.cells ∧ ns + rm.slots ≤ R.slots := by rw [hz1, hz2]; exact hcs
  have hPc : va_P E.1 vwCl wc H := by
    intro k q hk
    have h1 : (isC.map (fun i => w[i]?))[k]? = some (some q) := by rw [hC, List.getElem?_map, hk]; rfl
    rw [List.getElem?_map] at h1
    cases hi : isC[k]? with
    | none => rw [hi] at h1; cases h1
    | some i => rw [hi] at h1; exact hP i q (Option.some.inj h1)
  have hDc := hD.sub (ws' := wc) isC hnd hC
  have hFc := va_free (wc := wc) hD hS hA isC hC
  have hpre := pb_at (av := As) hPc (hDc.weaken (fun _ _ _ _ => trivial)) hK hN
  refine va_calll (va_runS (As := As) (rest := rest) ⟨hx, hb, hml, hown, hts⟩ (hM H.size) ⟨callB_of n hts hG hw rfl rfl (hts _ hini) (hts _ hlk) hd hR, hts _ hsta⟩ ⟨pb_blind, hpre⟩ rfl hn (h.1.trans rfl) rfl (lv_room hcat) hdg hcs2) hS (fun q _ z => hFc q z) hFc (fun r u t H1 locs1 ht hvm hw1 hB hzz hk1 hS1 => ?_)
  obtain ⟨hP1, hD1⟩ := hB
  rw [ht] at hP1
  obtain ⟨hP2, hD2⟩ := va_join hP hD isC (rplace w isC) hC (rplace_map w isC) (rplace_nd w isC) (rplace_dis w isC) hk1 hFc hP1 hD1
  have ez1 : nc + rm.cells = nc := by rw [hz1]; rfl
  have ez2 : ns + rm.slots = ns := by rw [hz2]; rfl
  rw [ez1, ez2]
  have hu := hro r u hw1
  subst hu
  have hP3 : va_P E.1 vwCl w H1 := by
    intro k q hk
    by_cases hm : k ∈ isC
    · obtain ⟨j, hj⟩ := List.getElem?_of_mem hm
      have h1 : (isC.map (fun i => w[i]?))[j]? = some (some q) := by rw [List.getElem?_map, hj]; exact congrArg some hk
      rw [hC, List.getElem?_map] at h1
      cases hi : u[j]? with
      | none => rw [hi] at h1; cases h1
      | some i => rw [hi] at h1; have := Option.some.inj (Option.some.inj h1); subst this; exact hP1 j _ hi
    · have hlt : k < w.length := (List.getElem?_eq_some_iff.mp hk).1
      have h2 : q ∈ wrest w isC := List.mem_filterMap.mpr ⟨k, List.mem_range.mpr hlt, by rw [if_neg hm]; exact hk⟩
      obtain ⟨j, hj⟩ := List.getElem?_of_mem h2
      exact hP2 j q (by rw [List.getElem?_append_left (List.getElem?_eq_some_iff.mp hj).1]; exact hj)
  exact kk r u hw1 H1 locs1 ls hP3 hD hS1 h
theorem g_callSiWA (F : Fx Γ E cc nL0 Ts own R0 l0) {post : Int32 → va_W → Prop} (isC : List Nat) (hM : CtI l0 y wsY rm E As wc post) (hdg : decode cc pc = .ok (.invokestatic index, 3)) (hC : isC.map (fun i => w[i]?) = wc.map some) (hnd : va_nd isC = true) (hsd : st = As.reverse ++ rest) (hn : As.length = n) (hw : wsY = Cond.code y bytes maxL ret :: ws') (hcat : (rest.map fun v => v.category).sum ≤ 8) (hR : rm.frames + 1 ≤ R0.frames ∧ 8 + (maxL + 11) + rm.locals ≤ R0.locals) (hcs : nc + rm.cells ≤ R0.cells ∧ ns + rm.slots ≤ R0.slots) (hG : GoodIn Ts wsY) (hlk : Cond.methodLink own index y ∈ Ts) (hsta : Cond.static y ∈ Ts) (hini : Cond.initialized y.cls ∈ Ts) (hd : y.cls ≠ "java/lang/invoke/MethodHandle" ∧ y.cls ≠ "java/lang/invoke/VarHandle" ∧ (parseMethodDescriptor y.desc).map (fun d => d.parameters.length) = some n) (hul : ∀ r u, post r u → u.length = isC.length) (kk : ∀ (r : Int32) (u : va_W), post r u → G Γ E (nc + rm.cells) (ns + rm.slots) (pc + 3) lv (.int r :: rest) (rpl w isC u)) : G Γ E nc ns pc lv st w := by
  obtain ⟨p, l, e, R, s, m, args, below, meth, c, nL, A, Q⟩ := Γ
  obtain ⟨hx, hb, hml, hnl, hR', hown, hts, hN, hK, hA, hll⟩ := F
  intro H locs ls hP hD hS h
  subst hsd; subst hR'; subst hll
  have hPc : va_P E.1 vwCl wc H := by
    intro k q hk
    have h1 : (isC.map (fun i => w[i]?))[k]? = some (some q) := by rw [hC, List.getElem?_map, hk]; rfl
    rw [List.getElem?_map] at h1
    cases hi : isC[k]? with
    | none => rw [hi] at h1; cases h1
    | some i => rw [hi] at h1; exact hP i q (Option.some.inj h1)
  have hDc := hD.sub (ws' := wc) isC hnd hC
  have hFc := va_free (wc := wc) hD hS hA isC hC
  have hpre := pb_at (av := As) hPc (hDc.weaken (fun _ _ _ _ => trivial)) hK hN
  refine va_calli (va_runS (As := As) (rest := rest) ⟨hx, hb, hml, hown, hts⟩ (hM H.size) ⟨callB_of n hts hG hw rfl rfl (hts _ hini) (hts _ hlk) hd hR, hts _ hsta⟩ ⟨pb_blind, hpre⟩ rfl hn (h.1.trans rfl) rfl (lv_room hcat) hdg hcs) hS (fun q _ z => hFc q z) hFc (fun r u t H1 locs1 ht hvm hw1 hB hzz hk1 hS1 => ?_)
  obtain ⟨hP1, hD1⟩ := hB
  rw [ht] at hP1
  obtain ⟨hP2, hD2⟩ := va_join hP hD isC (rplace w isC) hC (rplace_map w isC) (rplace_nd w isC) (rplace_dis w isC) hk1 hFc hP1 hD1
  have hP3 := rpl_world hnd hC (hul r u hw1) hD hD1 hP2 hD2
  exact kk r u hw1 H1 locs1 ls hP3.1 hP3.2 hS1 h
theorem g_callVi (F : Fx Γ E cc nL0 Ts own R0 l0) {post : Int32 → va_W → Prop} {b : Nat} (isC : List Nat) (hM : CtI l0 y wsY rm E (.ref b :: As) wc post) (hdg : decode cc pc = .ok (.invokevirtual index, 3)) (hC : isC.map (fun i => w[i]?) = wc.map some) (hnd : va_nd isC = true) (hsd : st = As.reverse ++ .ref b :: rest) (hn : As.length = n) (hw : wsY = Cond.code y bytes maxL ret :: ws') (hcat : (rest.map fun v => v.category).sum ≤ 8) (hR : rm.frames + 1 ≤ R0.frames ∧ 8 + (maxL + 11) + rm.locals ≤ R0.locals) (hz1 : rm.cells = 0) (hz2 : rm.slots = 0) (hcs : nc ≤ R0.cells ∧ ns ≤ R0.slots) {C : String} {T : u_T} {N ci : Nat} {fs : List Value} (q0 : Nat) (hrc : w[q0]? = some (ob ci b fs)) (hrq : vwCl[ci]? = some (C, T, N)) (hG : GoodIn Ts (wsV own index C y wsY)) (hd : y.cls = C ∧ y.cls ≠ "java/lang/invoke/MethodHandle" ∧ y.cls ≠ "java/lang/invoke/VarHandle" ∧ (parseMethodDescriptor y.desc).map (fun d => d.parameters.length) = some n) (kk : ∀ (r : Int32) (u : va_W), post r u → G Γ E nc ns (pc + 3) lv (.int r :: rest) (wrest w isC ++ u)) : G Γ E nc ns pc lv st w := by
  obtain ⟨p, l, e, R, s, m, args, below, meth, c, nL, A, Q⟩ := Γ
  obtain ⟨hx, hb, hml, hnl, hR', hown, hts, hN, hK, hA, hll⟩ := F
  intro H locs ls hP hD hS h
  subst hsd; subst hR'; subst hll
  have hcs2 : nc + rm.cells ≤ R.cells ∧ ns + rm.slots ≤ R.slots := by rw [hz1, hz2]; exact hcs
  have hPc : va_P E.1 vwCl wc H := by
    intro k q hk
    have h1 : (isC.map (fun i => w[i]?))[k]? = some (some q) := by rw [hC, List.getElem?_map, hk]; rfl
    rw [List.getElem?_map] at h1
    cases hi : isC[k]? with
    | none => rw [hi] at h1; cases h1
    | some i => rw [hi] at h1; exact hP i q (Option.some.inj h1)
  have hDc := hD.sub (ws' := wc) isC hnd hC
  have hFc := va_free (wc := wc) hD hS hA isC hC
  have hpre := pb_at (av := (.ref b :: As)) hPc (hDc.weaken (fun _ _ _ _ => trivial)) hK hN
  refine va_calli (va_runV (As := As) (rest := rest) ⟨hx, hb, hml, hown, hts⟩ (hM H.size) (cwV n hts hG hw rfl rfl hd hR) ⟨pb_blind, va_recv hK hP (ci := ci) (q0 := q0) hrq hrc, hpre⟩ rfl hn (h.1.trans rfl) rfl (lv_room hcat) hdg hcs2) hS (fun q _ z => hFc q z) hFc (fun r u t H1 locs1 ht hvm hw1 hB hzz hk1 hS1 => ?_)
  obtain ⟨hP1, hD1⟩ := hB
  rw [ht] at hP1
  obtain ⟨hP2, hD2⟩ := va_join hP hD isC (rplace w isC) hC (rplace_map w isC) (rplace_nd w isC) (rplace_dis w isC) hk1 hFc hP1 hD1
  have ez1 : nc + rm.cells = nc := by rw [hz1]; rfl
  have ez2 : ns + rm.slots = ns := by rw [hz2]; rfl
  rw [ez1, ez2]
  exact kk r u hw1 H1 locs1 ls hP2 hD2 hS1 h
theorem g_callViR (F : Fx Γ E cc nL0 Ts own R0 l0) {post : Int32 → va_W → Prop} {b : Nat} (isC : List Nat) (hM : CtI l0 y wsY rm E (.ref b :: As) wc post) (hdg : decode cc pc = .ok (.invokevirtual index, 3)) (hC : isC.map (fun i => w[i]?) = wc.map some) (hnd : va_nd isC = true) (hsd : st = As.reverse ++ .ref b :: rest) (hn : As.length = n) (hw : wsY = Cond.code y bytes maxL ret :: ws') (hcat : (rest.map fun v => v.category).sum ≤ 8) (hR : rm.frames + 1 ≤ R0.frames ∧ 8 + (maxL + 11) + rm.locals ≤ R0.locals) (hz1 : rm.cells = 0) (hz2 : rm.slots = 0) (hcs : nc ≤ R0.cells ∧ ns ≤ R0.slots) {C : String} {T : u_T} {N ci : Nat} {fs : List Value} (q0 : Nat) (hrc : w[q0]? = some (ob ci b fs)) (hrq : vwCl[ci]? = some (C, T, N)) (hG : GoodIn Ts (wsV own index C y wsY)) (hd : y.cls = C ∧ y.cls ≠ "java/lang/invoke/MethodHandle" ∧ y.cls ≠ "java/lang/invoke/VarHandle" ∧ (parseMethodDescriptor y.desc).map (fun d => d.parameters.length) = some n) (hro : ∀ r u, post r u → u = wc) (kk : ∀ (r : Int32) (u : va_W), post r u → G Γ E nc ns (pc + 3) lv (.int r :: rest) w) : G Γ E nc ns pc lv st w := by
  obtain ⟨p, l, e, R, s, m, args, below, meth, c, nL, A, Q⟩ := Γ
  obtain ⟨hx, hb, hml, hnl, hR', hown, hts, hN, hK, hA, hll⟩ := F
  intro H locs ls hP hD hS h
  subst hsd; subst hR'; subst hll
  have hcs2 : nc + rm.cells ≤ R.cells ∧ ns + rm.slots ≤ R.slots := by rw [hz1, hz2]; exact hcs
  have hPc : va_P E.1 vwCl wc H := by
    intro k q hk
    have h1 : (isC.map (fun i => w[i]?))[k]? = some (some q) := by rw [hC, List.getElem?_map, hk]; rfl
    rw [List.getElem?_map] at h1
    cases hi : isC[k]? with
    | none => rw [hi] at h1; cases h1
    | some i => rw [hi] at h1; exact hP i q (Option.some.inj h1)
  have hDc := hD.sub (ws' := wc) isC hnd hC
  have hFc := va_free (wc := wc) hD hS hA isC hC
  have hpre := pb_at (av := (.ref b :: As)) hPc (hDc.weaken (fun _ _ _ _ => trivial)) hK hN
  refine va_calli (va_runV (As := As) (rest := rest) ⟨hx, hb, hml, hown, hts⟩ (hM H.size) (cwV n hts hG hw rfl rfl hd hR) ⟨pb_blind, va_recv hK hP (ci := ci) (q0 := q0) hrq hrc, hpre⟩ rfl hn (h.1.trans rfl) rfl (lv_room hcat) hdg hcs2) hS (fun q _ z => hFc q z) hFc (fun r u t H1 locs1 ht hvm hw1 hB hzz hk1 hS1 => ?_)
  obtain ⟨hP1, hD1⟩ := hB
  rw [ht] at hP1
  obtain ⟨hP2, hD2⟩ := va_join hP hD isC (rplace w isC) hC (rplace_map w isC) (rplace_nd w isC) (rplace_dis w isC) hk1 hFc hP1 hD1
  have ez1 : nc + rm.cells = nc := by rw [hz1]; rfl
  have ez2 : ns + rm.slots = ns := by rw [hz2]; rfl
  rw [ez1, ez2]
  have hu := hro r u hw1
  subst hu
  have hP3 : va_P E.1 vwCl w H1 := by
    intro k q hk
    by_cases hm : k ∈ isC
    · obtain ⟨j, hj⟩ := List.getElem?_of_mem hm
      have h1 : (isC.map (fun i => w[i]?))[j]? = some (some q) := by rw [List.getElem?_map, hj]; exact congrArg some hk
      rw [hC, List.getElem?_map] at h1
      cases hi : u[j]? with
      | none => rw [hi] at h1; cases h1
      | some i => rw [hi] at h1; have := Option.some.inj (Option.some.inj h1); subst this; exact hP1 j _ hi
    · have hlt : k < w.length := (List.getElem?_eq_some_iff.mp hk).1
      have h2 : q ∈ wrest w isC := List.mem_filterMap.mpr ⟨k, List.mem_range.mpr hlt, by rw [if_neg hm]; exact hk⟩
      obtain ⟨j, hj⟩ := List.getElem?_of_mem h2
      exact hP2 j q (by rw [List.getElem?_append_left (List.getElem?_eq_some_iff.mp hj).1]; exact hj)
  exact kk r u hw1 H1 locs1 ls hP3 hD hS1 h
theorem g_callViW (F : Fx Γ E cc nL0 Ts own R0 l0) {post : Int32 → va_W → Prop} {b : Nat} (isC : List Nat) (hM : CtI l0 y wsY rm E (.ref b :: As) wc post) (hdg : decode cc pc = .ok (.invokevirtual index, 3)) (hC : isC.map (fun i => w[i]?) = wc.map some) (hnd : va_nd isC = true) (hsd : st = As.reverse ++ .ref b :: rest) (hn : As.length = n) (hw : wsY = Cond.code y bytes maxL ret :: ws') (hcat : (rest.map fun v => v.category).sum ≤ 8) (hR : rm.frames + 1 ≤ R0.frames ∧ 8 + (maxL + 11) + rm.locals ≤ R0.locals) (hz1 : rm.cells = 0) (hz2 : rm.slots = 0) (hcs : nc ≤ R0.cells ∧ ns ≤ R0.slots) {C : String} {T : u_T} {N ci : Nat} {fs : List Value} (q0 : Nat) (hrc : w[q0]? = some (ob ci b fs)) (hrq : vwCl[ci]? = some (C, T, N)) (hG : GoodIn Ts (wsV own index C y wsY)) (hd : y.cls = C ∧ y.cls ≠ "java/lang/invoke/MethodHandle" ∧ y.cls ≠ "java/lang/invoke/VarHandle" ∧ (parseMethodDescriptor y.desc).map (fun d => d.parameters.length) = some n) (hul : ∀ r u, post r u → u.length = isC.length) (kk : ∀ (r : Int32) (u : va_W), post r u → G Γ E nc ns (pc + 3) lv (.int r :: rest) (rpl w isC u)) : G Γ E nc ns pc lv st w := by
  obtain ⟨p, l, e, R, s, m, args, below, meth, c, nL, A, Q⟩ := Γ
  obtain ⟨hx, hb, hml, hnl, hR', hown, hts, hN, hK, hA, hll⟩ := F
  intro H locs ls hP hD hS h
  subst hsd; subst hR'; subst hll
  have hcs2 : nc + rm.cells ≤ R.cells ∧ ns + rm.slots ≤ R.slots := by rw [hz1, hz2]; exact hcs
  have hPc : va_P E.1 vwCl wc H := by
    intro k q hk
    have h1 : (isC.map (fun i => w[i]?))[k]? = some (some q) := by rw [hC, List.getElem?_map, hk]; rfl
    rw [List.getElem?_map] at h1
    cases hi : isC[k]? with
    | none => rw [hi] at h1; cases h1
    | some i => rw [hi] at h1; exact hP i q (Option.some.inj h1)
  have hDc := hD.sub (ws' := wc) isC hnd hC
  have hFc := va_free (wc := wc) hD hS hA isC hC
  have hpre := pb_at (av := (.ref b :: As)) hPc (hDc.weaken (fun _ _ _ _ => trivial)) hK hN
  refine va_calli (va_runV (As := As) (rest := rest) ⟨hx, hb, hml, hown, hts⟩ (hM H.size) (cwV n hts hG hw rfl rfl hd hR) ⟨pb_blind, va_recv hK hP (ci := ci) (q0 := q0) hrq hrc, hpre⟩ rfl hn (h.1.trans rfl) rfl (lv_room hcat) hdg hcs2) hS (fun q _ z => hFc q z) hFc (fun r u t H1 locs1 ht hvm hw1 hB hzz hk1 hS1 => ?_)
  obtain ⟨hP1, hD1⟩ := hB
  rw [ht] at hP1
  obtain ⟨hP2, hD2⟩ := va_join hP hD isC (rplace w isC) hC (rplace_map w isC) (rplace_nd w isC) (rplace_dis w isC) hk1 hFc hP1 hD1
  have ez1 : nc + rm.cells = nc := by rw [hz1]; rfl
  have ez2 : ns + rm.slots = ns := by rw [hz2]; rfl
  rw [ez1, ez2]
  have hP3 := rpl_world hnd hC (hul r u hw1) hD hD1 hP2 hD2
  exact kk r u hw1 H1 locs1 ls hP3.1 hP3.2 hS1 h
theorem g_callVv (F : Fx Γ E cc nL0 Ts own R0 l0) {post : va_W → Prop} {b : Nat} (isC : List Nat) (hM : CtV l0 y wsY rm E (.ref b :: As) wc post) (hdg : decode cc pc = .ok (.invokevirtual index, 3)) (hC : isC.map (fun i => w[i]?) = wc.map some) (hnd : va_nd isC = true) (hsd : st = As.reverse ++ .ref b :: rest) (hn : As.length = n) (hw : wsY = Cond.code y bytes maxL ret :: ws') (hcat : (rest.map fun v => v.category).sum ≤ 8) (hR : rm.frames + 1 ≤ R0.frames ∧ 8 + (maxL + 11) + rm.locals ≤ R0.locals) (hz1 : rm.cells = 0) (hz2 : rm.slots = 0) (hcs : nc ≤ R0.cells ∧ ns ≤ R0.slots) {C : String} {T : u_T} {N ci : Nat} {fs : List Value} (q0 : Nat) (hrc : w[q0]? = some (ob ci b fs)) (hrq : vwCl[ci]? = some (C, T, N)) (hG : GoodIn Ts (wsV own index C y wsY)) (hd : y.cls = C ∧ y.cls ≠ "java/lang/invoke/MethodHandle" ∧ y.cls ≠ "java/lang/invoke/VarHandle" ∧ (parseMethodDescriptor y.desc).map (fun d => d.parameters.length) = some n) (kk : ∀ (u : va_W), post u → G Γ E nc ns (pc + 3) lv rest (wrest w isC ++ u)) : G Γ E nc ns pc lv st w := by
  obtain ⟨p, l, e, R, s, m, args, below, meth, c, nL, A, Q⟩ := Γ
  obtain ⟨hx, hb, hml, hnl, hR', hown, hts, hN, hK, hA, hll⟩ := F
  intro H locs ls hP hD hS h
  subst hsd; subst hR'; subst hll
  have hcs2 : nc + rm.cells ≤ R.cells ∧ ns + rm.slots ≤ R.slots := by rw [hz1, hz2]; exact hcs
  have hPc : va_P E.1 vwCl wc H := by
    intro k q hk
    have h1 : (isC.map (fun i => w[i]?))[k]? = some (some q) := by rw [hC, List.getElem?_map, hk]; rfl
    rw [List.getElem?_map] at h1
    cases hi : isC[k]? with
    | none => rw [hi] at h1; cases h1
    | some i => rw [hi] at h1; exact hP i q (Option.some.inj h1)
  have hDc := hD.sub (ws' := wc) isC hnd hC
  have hFc := va_free (wc := wc) hD hS hA isC hC
  have hpre := pb_at (av := (.ref b :: As)) hPc (hDc.weaken (fun _ _ _ _ => trivial)) hK hN
  refine va_callv (va_runV (As := As) (rest := rest) ⟨hx, hb, hml, hown, hts⟩ (hM H.size) (cwV n hts hG hw rfl rfl hd hR) ⟨pb_blind, va_recv hK hP (ci := ci) (q0 := q0) hrq hrc, hpre⟩ rfl hn (h.1.trans rfl) rfl (lv_room hcat) hdg hcs2) hS (fun q _ z => hFc q z) hFc (fun u t H1 locs1 ht hvm hw1 hB hzz hk1 hS1 => ?_)
  obtain ⟨hP1, hD1⟩ := hB
  rw [ht] at hP1
  obtain ⟨hP2, hD2⟩ := va_join hP hD isC (rplace w isC) hC (rplace_map w isC) (rplace_nd w isC) (rplace_dis w isC) hk1 hFc hP1 hD1
  have ez1 : nc + rm.cells = nc := by rw [hz1]; rfl
  have ez2 : ns + rm.slots = ns := by rw [hz2]; rfl
  rw [ez1, ez2]
  exact kk u hw1 H1 locs1 ls hP2 hD2 hS1 h
theorem g_callVvR (F : Fx Γ E cc nL0 Ts own R0 l0) {post : va_W → Prop} {b : Nat} (isC : List Nat) (hM : CtV l0 y wsY rm E (.ref b :: As) wc post) (hdg : decode cc pc = .ok (.invokevirtual index, 3)) (hC : isC.map (fun i => w[i]?) = wc.map some) (hnd : va_nd isC = true) (hsd : st = As.reverse ++ .ref b :: rest) (hn : As.length = n) (hw : wsY = Cond.code y bytes maxL ret :: ws') (hcat : (rest.map fun v => v.category).sum ≤ 8) (hR : rm.frames + 1 ≤ R0.frames ∧ 8 + (maxL + 11) + rm.locals ≤ R0.locals) (hz1 : rm.cells = 0) (hz2 : rm.slots = 0) (hcs : nc ≤ R0.cells ∧ ns ≤ R0.slots) {C : String} {T : u_T} {N ci : Nat} {fs : List Value} (q0 : Nat) (hrc : w[q0]? = some (ob ci b fs)) (hrq : vwCl[ci]? = some (C, T, N)) (hG : GoodIn Ts (wsV own index C y wsY)) (hd : y.cls = C ∧ y.cls ≠ "java/lang/invoke/MethodHandle" ∧ y.cls ≠ "java/lang/invoke/VarHandle" ∧ (parseMethodDescriptor y.desc).map (fun d => d.parameters.length) = some n) (hro : ∀ u, post u → u = wc) (kk : ∀ (u : va_W), post u → G Γ E nc ns (pc + 3) lv rest w) : G Γ E nc ns pc lv st w := by
  obtain ⟨p, l, e, R, s, m, args, below, meth, c, nL, A, Q⟩ := Γ
  obtain ⟨hx, hb, hml, hnl, hR', hown, hts, hN, hK, hA, hll⟩ := F
  intro H locs ls hP hD hS h
  subst hsd; subst hR'; subst hll
  have hcs2 : nc + rm.cells ≤ R.cells ∧ ns + rm.slots ≤ R.slots := by rw [hz1, hz2]; exact hcs
  have hPc : va_P E.1 vwCl wc H := by
    intro k q hk
    have h1 : (isC.map (fun i => w[i]?))[k]? = some (some q) := by rw [hC, List.getElem?_map, hk]; rfl
    rw [List.getElem?_map] at h1
    cases hi : isC[k]? with
    | none => rw [hi] at h1; cases h1
    | some i => rw [hi] at h1; exact hP i q (Option.some.inj h1)
  have hDc := hD.sub (ws' := wc) isC hnd hC
  have hFc := va_free (wc := wc) hD hS hA isC hC
  have hpre := pb_at (av := (.ref b :: As)) hPc (hDc.weaken (fun _ _ _ _ => trivial)) hK hN
  refine va_callv (va_runV (As := As) (rest := rest) ⟨hx, hb, hml, hown, hts⟩ (hM H.size) (cwV n hts hG hw rfl rfl hd hR) ⟨pb_blind, va_recv hK hP (ci := ci) (q0 := q0) hrq hrc, hpre⟩ rfl hn (h.1.trans rfl) rfl (lv_room hcat) hdg hcs2) hS (fun q _ z => hFc q z) hFc (fun u t H1 locs1 ht hvm hw1 hB hzz hk1 hS1 => ?_)
  obtain ⟨hP1, hD1⟩ := hB
  rw [ht] at hP1
  obtain ⟨hP2, hD2⟩ := va_join hP hD isC (rplace w isC) hC (rplace_map w isC) (rplace_nd w isC) (rplace_dis w isC) hk1 hFc hP1 hD1
  have ez1 : nc + rm.cells = nc := by rw [hz1]; rfl
  have ez2 : ns + rm.slots = ns := by rw [hz2]; rfl
  rw [ez1, ez2]
  have hu := hro u hw1
  subst hu
  have hP3 : va_P E.1 vwCl w H1 := by
    intro k q hk
    by_cases hm : k ∈ isC
    · obtain ⟨j, hj⟩ := List.getElem?_of_mem hm
      have h1 : (isC.map (fun i => w[i]?))[j]? = some (some q) := by rw [List.getElem?_map, hj]; exact congrArg some hk
      rw [hC, List.getElem?_map] at h1
      cases hi : u[j]? with
      | none => rw [hi] at h1; cases h1
      | some i => rw [hi] at h1; have := Option.some.inj (Option.some.inj h1); subst this; exact hP1 j _ hi
    · have hlt : k < w.length := (List.getElem?_eq_some_iff.mp hk).1
      have h2 : q ∈ wrest w isC := List.mem_filterMap.mpr ⟨k, List.mem_range.mpr hlt, by rw [if_neg hm]; exact hk⟩
      obtain ⟨j, hj⟩ := List.getElem?_of_mem h2
      exact hP2 j q (by rw [List.getElem?_append_left (List.getElem?_eq_some_iff.mp hj).1]; exact hj)
  exact kk u hw1 H1 locs1 ls hP3 hD hS1 h
theorem g_callVvW (F : Fx Γ E cc nL0 Ts own R0 l0) {post : va_W → Prop} {b : Nat} (isC : List Nat) (hM : CtV l0 y wsY rm E (.ref b :: As) wc post) (hdg : decode cc pc = .ok (.invokevirtual index, 3)) (hC : isC.map (fun i => w[i]?) = wc.map some) (hnd : va_nd isC = true) (hsd : st = As.reverse ++ .ref b :: rest) (hn : As.length = n) (hw : wsY = Cond.code y bytes maxL ret :: ws') (hcat : (rest.map fun v => v.category).sum ≤ 8) (hR : rm.frames + 1 ≤ R0.frames ∧ 8 + (maxL + 11) + rm.locals ≤ R0.locals) (hz1 : rm.cells = 0) (hz2 : rm.slots = 0) (hcs : nc ≤ R0.cells ∧ ns ≤ R0.slots) {C : String} {T : u_T} {N ci : Nat} {fs : List Value} (q0 : Nat) (hrc : w[q0]? = some (ob ci b fs)) (hrq : vwCl[ci]? = some (C, T, N)) (hG : GoodIn Ts (wsV own index C y wsY)) (hd : y.cls = C ∧ y.cls ≠ "java/lang/invoke/MethodHandle" ∧ y.cls ≠ "java/lang/invoke/VarHandle" ∧ (parseMethodDescriptor y.desc).map (fun d => d.parameters.length) = some n) (hul : ∀ u, post u → u.length = isC.length) (kk : ∀ (u : va_W), post u → G Γ E nc ns (pc + 3) lv rest (rpl w isC u)) : G Γ E nc ns pc lv st w := by
  obtain ⟨p, l, e, R, s, m, args, below, meth, c, nL, A, Q⟩ := Γ
  obtain ⟨hx, hb, hml, hnl, hR', hown, hts, hN, hK, hA, hll⟩ := F
  intro H locs ls hP hD hS h
  subst hsd; subst hR'; subst hll
  have hcs2 : nc + rm.cells ≤ R.cells ∧ ns + rm.slots ≤ R.slots := by rw [hz1, hz2]; exact hcs
  have hPc : va_P E.1 vwCl wc H := by
    intro k q hk
    have h1 : (isC.map (fun i => w[i]?))[k]? = some (some q) := by rw [hC, List.getElem?_map, hk]; rfl
    rw [List.getElem?_map] at h1
    cases hi : isC[k]? with
    | none => rw [hi] at h1; cases h1
    | some i => rw [hi] at h1; exact hP i q (Option.some.inj h1)
  have hDc := hD.sub (ws' := wc) isC hnd hC
  have hFc := va_free (wc := wc) hD hS hA isC hC
  have hpre := pb_at (av := (.ref b :: As)) hPc (hDc.weaken (fun _ _ _ _ => trivial)) hK hN
  refine va_callv (va_runV (As := As) (rest := rest) ⟨hx, hb, hml, hown, hts⟩ (hM H.size) (cwV n hts hG hw rfl rfl hd hR) ⟨pb_blind, va_recv hK hP (ci := ci) (q0 := q0) hrq hrc, hpre⟩ rfl hn (h.1.trans rfl) rfl (lv_room hcat) hdg hcs2) hS (fun q _ z => hFc q z) hFc (fun u t H1 locs1 ht hvm hw1 hB hzz hk1 hS1 => ?_)
  obtain ⟨hP1, hD1⟩ := hB
  rw [ht] at hP1
  obtain ⟨hP2, hD2⟩ := va_join hP hD isC (rplace w isC) hC (rplace_map w isC) (rplace_nd w isC) (rplace_dis w isC) hk1 hFc hP1 hD1
  have ez1 : nc + rm.cells = nc := by rw [hz1]; rfl
  have ez2 : ns + rm.slots = ns := by rw [hz2]; rfl
  rw [ez1, ez2]
  have hP3 := rpl_world hnd hC (hul u hw1) hD hD1 hP2 hD2
  exact kk u hw1 H1 locs1 ls hP3.1 hP3.2 hS1 h
theorem g_callSi (F : Fx Γ E cc nL0 Ts own R0 l0) {post : Int32 → va_W → Prop} (isC : List Nat) (hM : CtI l0 y wsY rm E As wc post) (hdg : decode cc pc = .ok (.invokestatic index, 3)) (hC : isC.map (fun i => w[i]?) = wc.map some) (hnd : va_nd isC = true) (hsd : st = As.reverse ++ rest) (hn : As.length = n) (hw : wsY = Cond.code y bytes maxL ret :: ws') (hcat : (rest.map fun v => v.category).sum ≤ 8) (hR : rm.frames + 1 ≤ R0.frames ∧ 8 + (maxL + 11) + rm.locals ≤ R0.locals) (hz1 : rm.cells = 0) (hz2 : rm.slots = 0) (hcs : nc ≤ R0.cells ∧ ns ≤ R0.slots) (hG : GoodIn Ts wsY) (hlk : Cond.methodLink own index y ∈ Ts) (hsta : Cond.static y ∈ Ts) (hini : Cond.initialized y.cls ∈ Ts) (hd : y.cls ≠ "java/lang/invoke/MethodHandle" ∧ y.cls ≠ "java/lang/invoke/VarHandle" ∧ (parseMethodDescriptor y.desc).map (fun d => d.parameters.length) = some n) (kk : ∀ (r : Int32) (u : va_W), post r u → G Γ E nc ns (pc + 3) lv (.int r :: rest) (wrest w isC ++ u)) : G Γ E nc ns pc lv st w := by
  obtain ⟨p, l, e, R, s, m, args, below, meth, c, nL, A, Q⟩ := Γ
  obtain ⟨hx, hb, hml, hnl, hR', hown, hts, hN, hK, hA, hll⟩ := F
  intro H locs ls hP hD hS h
  subst hsd; subst hR'; subst hll
  have hcs2 : nc + rm.cells ≤ R.cells ∧ ns + rm.slots ≤ R.slots := by rw [hz1, hz2]; exact hcs
  have hPc : va_P E.1 vwCl wc H := by
    intro k q hk
    have h1 : (isC.map (fun i => w[i]?))[k]? = some (some q) := by rw [hC, List.getElem?_map, hk]; rfl
    rw [List.getElem?_map] at h1
    cases hi : isC[k]? with
    | none => rw [hi] at h1; cases h1
    | some i => rw [hi] at h1; exact hP i q (Option.some.inj h1)
  have hDc := hD.sub (ws' := wc) isC hnd hC
  have hFc := va_free (wc := wc) hD hS hA isC hC
  have hpre := pb_at (av := As) hPc (hDc.weaken (fun _ _ _ _ => trivial)) hK hN
  refine va_calli (va_runS (As := As) (rest := rest) ⟨hx, hb, hml, hown, hts⟩ (hM H.size) ⟨callB_of n hts hG hw rfl rfl (hts _ hini) (hts _ hlk) hd hR, hts _ hsta⟩ ⟨pb_blind, hpre⟩ rfl hn (h.1.trans rfl) rfl (lv_room hcat) hdg hcs2) hS (fun q _ z => hFc q z) hFc (fun r u t H1 locs1 ht hvm hw1 hB hzz hk1 hS1 => ?_)
  obtain ⟨hP1, hD1⟩ := hB
  rw [ht] at hP1
  obtain ⟨hP2, hD2⟩ := va_join hP hD isC (rplace w isC) hC (rplace_map w isC) (rplace_nd w isC) (rplace_dis w isC) hk1 hFc hP1 hD1
  have ez1 : nc + rm.cells = nc := by rw [hz1]; rfl
  have ez2 : ns + rm.slots = ns := by rw [hz2]; rfl
  rw [ez1, ez2]
  exact kk r u hw1 H1 locs1 ls hP2 hD2 hS1 h
theorem g_callSiR (F : Fx Γ E cc nL0 Ts own R0 l0) {post : Int32 → va_W → Prop} (isC : List Nat) (hM : CtI l0 y wsY rm E As wc post) (hdg : decode cc pc = .ok (.invokestatic index, 3)) (hC : isC.map (fun i => w[i]?) = wc.map some) (hnd : va_nd isC = true) (hsd : st = As.reverse ++ rest) (hn : As.length = n) (hw : wsY = Cond.code y bytes maxL ret :: ws') (hcat : (rest.map fun v => v.category).sum ≤ 8) (hR : rm.frames + 1 ≤ R0.frames ∧ 8 + (maxL + 11) + rm.locals ≤ R0.locals) (hz1 : rm.cells = 0) (hz2 : rm.slots = 0) (hcs : nc ≤ R0.cells ∧ ns ≤ R0.slots) (hG : GoodIn Ts wsY) (hlk : Cond.methodLink own index y ∈ Ts) (hsta : Cond.static y ∈ Ts) (hini : Cond.initialized y.cls ∈ Ts) (hd : y.cls ≠ "java/lang/invoke/MethodHandle" ∧ y.cls ≠ "java/lang/invoke/VarHandle" ∧ (parseMethodDescriptor y.desc).map (fun d => d.parameters.length) = some n) (hro : ∀ r u, post r u → u = wc) (kk : ∀ (r : Int32) (u : va_W), post r u → G Γ E nc ns (pc + 3) lv (.int r :: rest) w) : G Γ E nc ns pc lv st w := by
  obtain ⟨p, l, e, R, s, m, args, below, meth, c, nL, A, Q⟩ := Γ
  obtain ⟨hx, hb, hml, hnl, hR', hown, hts, hN, hK, hA, hll⟩ := F
  intro H locs ls hP hD hS h
  subst hsd; subst hR'; subst hll
  have hcs2 : nc + rm.cells ≤ R.cells ∧ ns + rm.slots ≤ R.slots := by rw [hz1, hz2]; exact hcs
  have hPc : va_P E.1 vwCl wc H := by
    intro k q hk
    have h1 : (isC.map (fun i => w[i]?))[k]? = some (some q) := by rw [hC, List.getElem?_map, hk]; rfl
    rw [List.getElem?_map] at h1
    cases hi : isC[k]? with
    | none => rw [hi] at h1; cases h1
    | some i => rw [hi] at h1; exact hP i q (Option.some.inj h1)
  have hDc := hD.sub (ws' := wc) isC hnd hC
  have hFc := va_free (wc := wc) hD hS hA isC hC
  have hpre := pb_at (av := As) hPc (hDc.weaken (fun _ _ _ _ => trivial)) hK hN
  refine va_calli (va_runS (As := As) (rest := rest) ⟨hx, hb, hml, hown, hts⟩ (hM H.size) ⟨callB_of n hts hG hw rfl rfl (hts _ hini) (hts _ hlk) hd hR, hts _ hsta⟩ ⟨pb_blind, hpre⟩ rfl hn (h.1.trans rfl) rfl (lv_room hcat) hdg hcs2) hS (fun q _ z => hFc q z) hFc (fun r u t H1 locs1 ht hvm hw1 hB hzz hk1 hS1 => ?_)
  obtain ⟨hP1, hD1⟩ := hB
  rw [ht] at hP1
  obtain ⟨hP2, hD2⟩ := va_join hP hD isC (rplace w isC) hC (rplace_map w isC) (rplace_nd w isC) (rplace_dis w isC) hk1 hFc hP1 hD1
  have ez1 : nc + rm.cells = nc := by rw [hz1]; rfl
  have ez2 : ns + rm.slots = ns := by rw [hz2]; rfl
  rw [ez1, ez2]
  have hu := hro r u hw1
  subst hu
  have hP3 : va_P E.1 vwCl w H1 := by
    intro k q hk
    by_cases hm : k ∈ isC
    · obtain ⟨j, hj⟩ := List.getElem?_of_mem hm
      have h1 : (isC.map (fun i => w[i]?))[j]? = some (some q) := by rw [List.getElem?_map, hj]; exact congrArg some hk
      rw [hC, List.getElem?_map] at h1
      cases hi : u[j]? with
      | none => rw [hi] at h1; cases h1
      | some i => rw [hi] at h1; have := Option.some.inj (Option.some.inj h1); subst this; exact hP1 j _ hi
    · have hlt : k < w.length := (List.getElem?_eq_some_iff.mp hk).1
      have h2 : q ∈ wrest w isC := List.mem_filterMap.mpr ⟨k, List.mem_range.mpr hlt, by rw [if_neg hm]; exact hk⟩
      obtain ⟨j, hj⟩ := List.getElem?_of_mem h2
      exact hP2 j q (by rw [List.getElem?_append_left (List.getElem?_eq_some_iff.mp hj).1]; exact hj)
  exact kk r u hw1 H1 locs1 ls hP3 hD hS1 h
theorem g_callSiW (F : Fx Γ E cc nL0 Ts own R0 l0) {post : Int32 → va_W → Prop} (isC : List Nat) (hM : CtI l0 y wsY rm E As wc post) (hdg : decode cc pc = .ok (.invokestatic index, 3)) (hC : isC.map (fun i => w[i]?) = wc.map some) (hnd : va_nd isC = true) (hsd : st = As.reverse ++ rest) (hn : As.length = n) (hw : wsY = Cond.code y bytes maxL ret :: ws') (hcat : (rest.map fun v => v.category).sum ≤ 8) (hR : rm.frames + 1 ≤ R0.frames ∧ 8 + (maxL + 11) + rm.locals ≤ R0.locals) (hz1 : rm.cells = 0) (hz2 : rm.slots = 0) (hcs : nc ≤ R0.cells ∧ ns ≤ R0.slots) (hG : GoodIn Ts wsY) (hlk : Cond.methodLink own index y ∈ Ts) (hsta : Cond.static y ∈ Ts) (hini : Cond.initialized y.cls ∈ Ts) (hd : y.cls ≠ "java/lang/invoke/MethodHandle" ∧ y.cls ≠ "java/lang/invoke/VarHandle" ∧ (parseMethodDescriptor y.desc).map (fun d => d.parameters.length) = some n) (hul : ∀ r u, post r u → u.length = isC.length) (kk : ∀ (r : Int32) (u : va_W), post r u → G Γ E nc ns (pc + 3) lv (.int r :: rest) (rpl w isC u)) : G Γ E nc ns pc lv st w := by
  obtain ⟨p, l, e, R, s, m, args, below, meth, c, nL, A, Q⟩ := Γ
  obtain ⟨hx, hb, hml, hnl, hR', hown, hts, hN, hK, hA, hll⟩ := F
  intro H locs ls hP hD hS h
  subst hsd; subst hR'; subst hll
  have hcs2 : nc + rm.cells ≤ R.cells ∧ ns + rm.slots ≤ R.slots := by rw [hz1, hz2]; exact hcs
  have hPc : va_P E.1 vwCl wc H := by
    intro k q hk
    have h1 : (isC.map (fun i => w[i]?))[k]? = some (some q) := by rw [hC, List.getElem?_map, hk]; rfl
    rw [List.getElem?_map] at h1
    cases hi : isC[k]? with
    | none => rw [hi] at h1; cases h1
    | some i => rw [hi] at h1; exact hP i q (Option.some.inj h1)
  have hDc := hD.sub (ws' := wc) isC hnd hC
  have hFc := va_free (wc := wc) hD hS hA isC hC
  have hpre := pb_at (av := As) hPc (hDc.weaken (fun _ _ _ _ => trivial)) hK hN
  refine va_calli (va_runS (As := As) (rest := rest) ⟨hx, hb, hml, hown, hts⟩ (hM H.size) ⟨callB_of n hts hG hw rfl rfl (hts _ hini) (hts _ hlk) hd hR, hts _ hsta⟩ ⟨pb_blind, hpre⟩ rfl hn (h.1.trans rfl) rfl (lv_room hcat) hdg hcs2) hS (fun q _ z => hFc q z) hFc (fun r u t H1 locs1 ht hvm hw1 hB hzz hk1 hS1 => ?_)
  obtain ⟨hP1, hD1⟩ := hB
  rw [ht] at hP1
  obtain ⟨hP2, hD2⟩ := va_join hP hD isC (rplace w isC) hC (rplace_map w isC) (rplace_nd w isC) (rplace_dis w isC) hk1 hFc hP1 hD1
  have ez1 : nc + rm.cells = nc := by rw [hz1]; rfl
  have ez2 : ns + rm.slots = ns := by rw [hz2]; rfl
  rw [ez1, ez2]
  have hP3 := rpl_world hnd hC (hul r u hw1) hD hD1 hP2 hD2
  exact kk r u hw1 H1 locs1 ls hP3.1 hP3.2 hS1 h
theorem g_callSv (F : Fx Γ E cc nL0 Ts own R0 l0) {post : va_W → Prop} (isC : List Nat) (hM : CtV l0 y wsY rm E As wc post) (hdg : decode cc pc = .ok (.invokestatic index, 3)) (hC : isC.map (fun i => w[i]?) = wc.map some) (hnd : va_nd isC = true) (hsd : st = As.reverse ++ rest) (hn : As.length = n) (hw : wsY = Cond.code y bytes maxL ret :: ws') (hcat : (rest.map fun v => v.category).sum ≤ 8) (hR : rm.frames + 1 ≤ R0.frames ∧ 8 + (maxL + 11) + rm.locals ≤ R0.locals) (hz1 : rm.cells = 0) (hz2 : rm.slots = 0) (hcs : nc ≤ R0.cells ∧ ns ≤ R0.slots) (hG : GoodIn Ts wsY) (hlk : Cond.methodLink own index y ∈ Ts) (hsta : Cond.static y ∈ Ts) (hini : Cond.initialized y.cls ∈ Ts) (hd : y.cls ≠ "java/lang/invoke/MethodHandle" ∧ y.cls ≠ "java/lang/invoke/VarHandle" ∧ (parseMethodDescriptor y.desc).map (fun d => d.parameters.length) = some n) (kk : ∀ (u : va_W), post u → G Γ E nc ns (pc + 3) lv rest (wrest w isC ++ u)) : G Γ E nc ns pc lv st w := by
  obtain ⟨p, l, e, R, s, m, args, below, meth, c, nL, A, Q⟩ := Γ
  obtain ⟨hx, hb, hml, hnl, hR', hown, hts, hN, hK, hA, hll⟩ := F
  intro H locs ls hP hD hS h
  subst hsd; subst hR'; subst hll
  have hcs2 : nc + rm.cells ≤ R.cells ∧ ns + rm.slots ≤ R.slots := by rw [hz1, hz2]; exact hcs
  have hPc : va_P E.1 vwCl wc H := by
    intro k q hk
    have h1 : (isC.map (fun i => w[i]?))[k]? = some (some q) := by rw [hC, List.getElem?_map, hk]; rfl
    rw [List.getElem?_map] at h1
    cases hi : isC[k]? with
    | none => rw [hi] at h1; cases h1
    | some i => rw [hi] at h1; exact hP i q (Option.some.inj h1)
  have hDc := hD.sub (ws' := wc) isC hnd hC
  have hFc := va_free (wc := wc) hD hS hA isC hC
  have hpre := pb_at (av := As) hPc (hDc.weaken (fun _ _ _ _ => trivial)) hK hN
  refine va_callv (va_runS (As := As) (rest := rest) ⟨hx, hb, hml, hown, hts⟩ (hM H.size) ⟨callB_of n hts hG hw rfl rfl (hts _ hini) (hts _ hlk) hd hR, hts _ hsta⟩ ⟨pb_blind, hpre⟩ rfl hn (h.1.trans rfl) rfl (lv_room hcat) hdg hcs2) hS (fun q _ z => hFc q z) hFc (fun u t H1 locs1 ht hvm hw1 hB hzz hk1 hS1 => ?_)
  obtain ⟨hP1, hD1⟩ := hB
  rw [ht] at hP1
  obtain ⟨hP2, hD2⟩ := va_join hP hD isC (rplace w isC) hC (rplace_map w isC) (rplace_nd w isC) (rplace_dis w isC) hk1 hFc hP1 hD1
  have ez1 : nc + rm.cells = nc := by rw [hz1]; rfl
  have ez2 : ns + rm.slots = ns := by rw [hz2]; rfl
  rw [ez1, ez2]
  exact kk u hw1 H1 locs1 ls hP2 hD2 hS1 h
theorem g_callSvR (F : Fx Γ E cc nL0 Ts own R0 l0) {post : va_W → Prop} (isC : List Nat) (hM : CtV l0 y wsY rm E As wc post) (hdg : decode cc pc = .ok (.invokestatic index, 3)) (hC : isC.map (fun i => w[i]?) = wc.map some) (hnd : va_nd isC = true) (hsd : st = As.reverse ++ rest) (hn : As.length = n) (hw : wsY = Cond.code y bytes maxL ret :: ws') (hcat : (rest.map fun v => v.category).sum ≤ 8) (hR : rm.frames + 1 ≤ R0.frames ∧ 8 + (maxL + 11) + rm.locals ≤ R0.locals) (hz1 : rm.cells = 0) (hz2 : rm.slots = 0) (hcs : nc ≤ R0.cells ∧ ns ≤ R0.slots) (hG : GoodIn Ts wsY) (hlk : Cond.methodLink own index y ∈ Ts) (hsta : Cond.static y ∈ Ts) (hini : Cond.initialized y.cls ∈ Ts) (hd : y.cls ≠ "java/lang/invoke/MethodHandle" ∧ y.cls ≠ "java/lang/invoke/VarHandle" ∧ (parseMethodDescriptor y.desc).map (fun d => d.parameters.length) = some n) (hro : ∀ u, post u → u = wc) (kk : ∀ (u : va_W), post u → G Γ E nc ns (pc + 3) lv rest w) : G Γ E nc ns pc lv st w := by
  obtain ⟨p, l, e, R, s, m, args, below, meth, c, nL, A, Q⟩ := Γ
  obtain ⟨hx, hb, hml, hnl, hR', hown, hts, hN, hK, hA, hll⟩ := F
  intro H locs ls hP hD hS h
  subst hsd; subst hR'; subst hll
  have hcs2 : nc + rm.cells ≤ R.cells ∧ ns + rm.slots ≤ R.slots := by rw [hz1, hz2]; exact hcs
  have hPc : va_P E.1 vwCl wc H := by
    intro k q hk
    have h1 : (isC.map (fun i => w[i]?))[k]? = some (some q) := by rw [hC, List.getElem?_map, hk]; rfl
    rw [List.getElem?_map] at h1
    cases hi : isC[k]? with
    | none => rw [hi] at h1; cases h1
    | some i => rw [hi] at h1; exact hP i q (Option.some.inj h1)
  have hDc := hD.sub (ws' := wc) isC hnd hC
  have hFc := va_free (wc := wc) hD hS hA isC hC
  have hpre := pb_at (av := As) hPc (hDc.weaken (fun _ _ _ _ => trivial)) hK hN
  refine va_callv (va_runS (As := As) (rest := rest) ⟨hx, hb, hml, hown, hts⟩ (hM H.size) ⟨callB_of n hts hG hw rfl rfl (hts _ hini) (hts _ hlk) hd hR, hts _ hsta⟩ ⟨pb_blind, hpre⟩ rfl hn (h.1.trans rfl) rfl (lv_room hcat) hdg hcs2) hS (fun q _ z => hFc q z) hFc (fun u t H1 locs1 ht hvm hw1 hB hzz hk1 hS1 => ?_)
  obtain ⟨hP1, hD1⟩ := hB
  rw [ht] at hP1
  obtain ⟨hP2, hD2⟩ := va_join hP hD isC (rplace w isC) hC (rplace_map w isC) (rplace_nd w isC) (rplace_dis w isC) hk1 hFc hP1 hD1
  have ez1 : nc + rm.cells = nc := by rw [hz1]; rfl
  have ez2 : ns + rm.slots = ns := by rw [hz2]; rfl
  rw [ez1, ez2]
  have hu := hro u hw1
  subst hu
  have hP3 : va_P E.1 vwCl w H1 := by
    intro k q hk
    by_cases hm : k ∈ isC
    · obtain ⟨j, hj⟩ := List.getElem?_of_mem hm
      have h1 : (isC.map (fun i => w[i]?))[j]? = some (some q) := by rw [List.getElem?_map, hj]; exact congrArg some hk
      rw [hC, List.getElem?_map] at h1
      cases hi : u[j]? with
      | none => rw [hi] at h1; cases h1
      | some i => rw [hi] at h1; have := Option.some.inj (Option.some.inj h1); subst this; exact hP1 j _ hi
    · have hlt : k < w.length := (List.getElem?_eq_some_iff.mp hk).1
      have h2 : q ∈ wrest w isC := List.mem_filterMap.mpr ⟨k, List.mem_range.mpr hlt, by rw [if_neg hm]; exact hk⟩
      obtain ⟨j, hj⟩ := List.getElem?_of_mem h2
      exact hP2 j q (by rw [List.getElem?_append_left (List.getElem?_eq_some_iff.mp hj).1]; exact hj)
  exact kk u hw1 H1 locs1 ls hP3 hD hS1 h
theorem g_callSvW (F : Fx Γ E cc nL0 Ts own R0 l0) {post : va_W → Prop} (isC : List Nat) (hM : CtV l0 y wsY rm E As wc post) (hdg : decode cc pc = .ok (.invokestatic index, 3)) (hC : isC.map (fun i => w[i]?) = wc.map some) (hnd : va_nd isC = true) (hsd : st = As.reverse ++ rest) (hn : As.length = n) (hw : wsY = Cond.code y bytes maxL ret :: ws') (hcat : (rest.map fun v => v.category).sum ≤ 8) (hR : rm.frames + 1 ≤ R0.frames ∧ 8 + (maxL + 11) + rm.locals ≤ R0.locals) (hz1 : rm.cells = 0) (hz2 : rm.slots = 0) (hcs : nc ≤ R0.cells ∧ ns ≤ R0.slots) (hG : GoodIn Ts wsY) (hlk : Cond.methodLink own index y ∈ Ts) (hsta : Cond.static y ∈ Ts) (hini : Cond.initialized y.cls ∈ Ts) (hd : y.cls ≠ "java/lang/invoke/MethodHandle" ∧ y.cls ≠ "java/lang/invoke/VarHandle" ∧ (parseMethodDescriptor y.desc).map (fun d => d.parameters.length) = some n) (hul : ∀ u, post u → u.length = isC.length) (kk : ∀ (u : va_W), post u → G Γ E nc ns (pc + 3) lv rest (rpl w isC u)) : G Γ E nc ns pc lv st w := by
  obtain ⟨p, l, e, R, s, m, args, below, meth, c, nL, A, Q⟩ := Γ
  obtain ⟨hx, hb, hml, hnl, hR', hown, hts, hN, hK, hA, hll⟩ := F
  intro H locs ls hP hD hS h
  subst hsd; subst hR'; subst hll
  have hcs2 : nc + rm.cells ≤ R.cells ∧ ns + rm.slots ≤ R.slots := by rw [hz1, hz2]; exact hcs
  have hPc : va_P E.1 vwCl wc H := by
    intro k q hk
    have h1 : (isC.map (fun i => w[i]?))[k]? = some (some q) := by rw [hC, List.getElem?_map, hk]; rfl
    rw [List.getElem?_map] at h1
    cases hi : isC[k]? with
    | none => rw [hi] at h1; cases h1
    | some i => rw [hi] at h1; exact hP i q (Option.some.inj h1)
  have hDc := hD.sub (ws' := wc) isC hnd hC
  have hFc := va_free (wc := wc) hD hS hA isC hC
  have hpre := pb_at (av := As) hPc (hDc.weaken (fun _ _ _ _ => trivial)) hK hN
  refine va_callv (va_runS (As := As) (rest := rest) ⟨hx, hb, hml, hown, hts⟩ (hM H.size) ⟨callB_of n hts hG hw rfl rfl (hts _ hini) (hts _ hlk) hd hR, hts _ hsta⟩ ⟨pb_blind, hpre⟩ rfl hn (h.1.trans rfl) rfl (lv_room hcat) hdg hcs2) hS (fun q _ z => hFc q z) hFc (fun u t H1 locs1 ht hvm hw1 hB hzz hk1 hS1 => ?_)
  obtain ⟨hP1, hD1⟩ := hB
  rw [ht] at hP1
  obtain ⟨hP2, hD2⟩ := va_join hP hD isC (rplace w isC) hC (rplace_map w isC) (rplace_nd w isC) (rplace_dis w isC) hk1 hFc hP1 hD1
  have ez1 : nc + rm.cells = nc := by rw [hz1]; rfl
  have ez2 : ns + rm.slots = ns := by rw [hz2]; rfl
  rw [ez1, ez2]
  have hP3 := rpl_world hnd hC (hul u hw1) hD hD1 hP2 hD2
  exact kk u hw1 H1 locs1 ls hP3.1 hP3.2 hS1 h
theorem g_callSNi (F : Fx Γ E cc nL0 Ts own R0 l0) {post : Int32 → va_W → Prop} (isC : List Nat) (hM : CtI l0 y wsY rm E As wc post) (hdg : decode cc pc = .ok (.invokestatic index, 3)) (hC : isC.map (fun i => w[i]?) = wc.map some) (hnd : va_nd isC = true) (hsd : st = As.reverse ++ rest) (hn : As.length = n) (hw : wsY = Cond.code y bytes maxL ret :: ws') (hcat : (rest.map fun v => v.category).sum ≤ 8) (hR : rm.frames + 1 ≤ R0.frames ∧ 8 + (maxL + 11) + rm.locals ≤ R0.locals) (hz1 : rm.cells = 0) (hz2 : rm.slots = 0) (hcs : nc ≤ R0.cells ∧ ns ≤ R0.slots) {host : String} (hG : GoodIn Ts wsY) (hln : Cond.methodLinkNest own index y host ∈ nestWs) (hsta : Cond.static y ∈ Ts) (hini : Cond.initialized y.cls ∈ Ts) (hd : y.cls ≠ "java/lang/invoke/MethodHandle" ∧ y.cls ≠ "java/lang/invoke/VarHandle" ∧ (parseMethodDescriptor y.desc).map (fun d => d.parameters.length) = some n) (kk : ∀ (r : Int32) (u : va_W), post r u → G Γ E nc ns (pc + 3) lv (.int r :: rest) (wrest w isC ++ u)) : G Γ E nc ns pc lv st w := by
  obtain ⟨p, l, e, R, s, m, args, below, meth, c, nL, A, Q⟩ := Γ
  obtain ⟨hx, hb, hml, hnl, hR', hown, hts, hN, hK, hA, hll⟩ := F
  intro H locs ls hP hD hS h
  subst hsd; subst hR'; subst hll
  have hcs2 : nc + rm.cells ≤ R.cells ∧ ns + rm.slots ≤ R.slots := by rw [hz1, hz2]; exact hcs
  have hPc : va_P E.1 vwCl wc H := by
    intro k q hk
    have h1 : (isC.map (fun i => w[i]?))[k]? = some (some q) := by rw [hC, List.getElem?_map, hk]; rfl
    rw [List.getElem?_map] at h1
    cases hi : isC[k]? with
    | none => rw [hi] at h1; cases h1
    | some i => rw [hi] at h1; exact hP i q (Option.some.inj h1)
  have hDc := hD.sub (ws' := wc) isC hnd hC
  have hFc := va_free (wc := wc) hD hS hA isC hC
  have hpre := pb_at (av := As) hPc (hDc.weaken (fun _ _ _ _ => trivial)) hK hN
  refine va_calli (va_runSN (As := As) (rest := rest) ⟨hx, hb, hml, hown, hts⟩ (hM H.size) ⟨va_cnB n hts hG hw rfl rfl (hN.1 _ hln) (hts _ hini) hd hR, hts _ hsta, trivial⟩ ⟨pb_blind, hpre⟩ rfl hn (h.1.trans rfl) rfl (lv_room hcat) hdg hcs2) hS (fun q _ z => hFc q z) hFc (fun r u t H1 locs1 ht hvm hw1 hB hzz hk1 hS1 => ?_)
  obtain ⟨hP1, hD1⟩ := hB
  rw [ht] at hP1
  obtain ⟨hP2, hD2⟩ := va_join hP hD isC (rplace w isC) hC (rplace_map w isC) (rplace_nd w isC) (rplace_dis w isC) hk1 hFc hP1 hD1
  have ez1 : nc + rm.cells = nc := by rw [hz1]; rfl
  have ez2 : ns + rm.slots = ns := by rw [hz2]; rfl
  rw [ez1, ez2]
  exact kk r u hw1 H1 locs1 ls hP2 hD2 hS1 h
theorem g_callSNiR (F : Fx Γ E cc nL0 Ts own R0 l0) {post : Int32 → va_W → Prop} (isC : List Nat) (hM : CtI l0 y wsY rm E As wc post) (hdg : decode cc pc = .ok (.invokestatic index, 3)) (hC : isC.map (fun i => w[i]?) = wc.map some) (hnd : va_nd isC = true) (hsd : st = As.reverse ++ rest) (hn : As.length = n) (hw : wsY = Cond.code y bytes maxL ret :: ws') (hcat : (rest.map fun v => v.category).sum ≤ 8) (hR : rm.frames + 1 ≤ R0.frames ∧ 8 + (maxL + 11) + rm.locals ≤ R0.locals) (hz1 : rm.cells = 0) (hz2 : rm.slots = 0) (hcs : nc ≤ R0.cells ∧ ns ≤ R0.slots) {host : String} (hG : GoodIn Ts wsY) (hln : Cond.methodLinkNest own index y host ∈ nestWs) (hsta : Cond.static y ∈ Ts) (hini : Cond.initialized y.cls ∈ Ts) (hd : y.cls ≠ "java/lang/invoke/MethodHandle" ∧ y.cls ≠ "java/lang/invoke/VarHandle" ∧ (parseMethodDescriptor y.desc).map (fun d => d.parameters.length) = some n) (hro : ∀ r u, post r u → u = wc) (kk : ∀ (r : Int32) (u : va_W), post r u → G Γ E nc ns (pc + 3) lv (.int r :: rest) w) : G Γ E nc ns pc lv st w := by
  obtain ⟨p, l, e, R, s, m, args, below, meth, c, nL, A, Q⟩ := Γ
  obtain ⟨hx, hb, hml, hnl, hR', hown, hts, hN, hK, hA, hll⟩ := F
  intro H locs ls hP hD hS h
  subst hsd; subst hR'; subst hll
  have hcs2 : nc + rm.cells ≤ R.cells ∧ ns + rm.slots ≤ R.slots := by rw [hz1, hz2]; exact hcs
  have hPc : va_P E.1 vwCl wc H := by
    intro k q hk
    have h1 : (isC.map (fun i => w[i]?))[k]? = some (some q) := by rw [hC, List.getElem?_map, hk]; rfl
    rw [List.getElem?_map] at h1
    cases hi : isC[k]? with
    | none => rw [hi] at h1; cases h1
    | some i => rw [hi] at h1; exact hP i q (Option.some.inj h1)
  have hDc := hD.sub (ws' := wc) isC hnd hC
  have hFc := va_free (wc := wc) hD hS hA isC hC
  have hpre := pb_at (av := As) hPc (hDc.weaken (fun _ _ _ _ => trivial)) hK hN
  refine va_calli (va_runSN (As := As) (rest := rest) ⟨hx, hb, hml, hown, hts⟩ (hM H.size) ⟨va_cnB n hts hG hw rfl rfl (hN.1 _ hln) (hts _ hini) hd hR, hts _ hsta, trivial⟩ ⟨pb_blind, hpre⟩ rfl hn (h.1.trans rfl) rfl (lv_room hcat) hdg hcs2) hS (fun q _ z => hFc q z) hFc (fun r u t H1 locs1 ht hvm hw1 hB hzz hk1 hS1 => ?_)
  obtain ⟨hP1, hD1⟩ := hB
  rw [ht] at hP1
  obtain ⟨hP2, hD2⟩ := va_join hP hD isC (rplace w isC) hC (rplace_map w isC) (rplace_nd w isC) (rplace_dis w isC) hk1 hFc hP1 hD1
  have ez1 : nc + rm.cells = nc := by rw [hz1]; rfl
  have ez2 : ns + rm.slots = ns := by rw [hz2]; rfl
  rw [ez1, ez2]
  have hu := hro r u hw1
  subst hu
  have hP3 : va_P E.1 vwCl w H1 := by
    intro k q hk
    by_cases hm : k ∈ isC
    · obtain ⟨j, hj⟩ := List.getElem?_of_mem hm
      have h1 : (isC.map (fun i => w[i]?))[j]? = some (some q) := by rw [List.getElem?_map, hj]; exact congrArg some hk
      rw [hC, List.getElem?_map] at h1
      cases hi : u[j]? with
      | none => rw [hi] at h1; cases h1
      | some i => rw [hi] at h1; have := Option.some.inj (Option.some.inj h1); subst this; exact hP1 j _ hi
    · have hlt : k < w.length := (List.getElem?_eq_some_iff.mp hk).1
      have h2 : q ∈ wrest w isC := List.mem_filterMap.mpr ⟨k, List.mem_range.mpr hlt, by rw [if_neg hm]; exact hk⟩
      obtain ⟨j, hj⟩ := List.getElem?_of_mem h2
      exact hP2 j q (by rw [List.getElem?_append_left (List.getElem?_eq_some_iff.mp hj).1]; exact hj)
  exact kk r u hw1 H1 locs1 ls hP3 hD hS1 h
theorem g_callSNiW (F : Fx Γ E cc nL0 Ts own R0 l0) {post : Int32 → va_W → Prop} (isC : List Nat) (hM : CtI l0 y wsY rm E As wc post) (hdg : decode cc pc = .ok (.invokestatic index, 3)) (hC : isC.map (fun i => w[i]?) = wc.map some) (hnd : va_nd isC = true) (hsd : st = As.reverse ++ rest) (hn : As.length = n) (hw : wsY = Cond.code y bytes maxL ret :: ws') (hcat : (rest.map fun v => v.category).sum ≤ 8) (hR : rm.frames + 1 ≤ R0.frames ∧ 8 + (maxL + 11) + rm.locals ≤ R0.locals) (hz1 : rm.cells = 0) (hz2 : rm.slots = 0) (hcs : nc ≤ R0.cells ∧ ns ≤ R0.slots) {host : String} (hG : GoodIn Ts wsY) (hln : Cond.methodLinkNest own index y host ∈ nestWs) (hsta : Cond.static y ∈ Ts) (hini : Cond.initialized y.cls ∈ Ts) (hd : y.cls ≠ "java/lang/invoke/MethodHandle" ∧ y.cls ≠ "java/lang/invoke/VarHandle" ∧ (parseMethodDescriptor y.desc).map (fun d => d.parameters.length) = some n) (hul : ∀ r u, post r u → u.length = isC.length) (kk : ∀ (r : Int32) (u : va_W), post r u → G Γ E nc ns (pc + 3) lv (.int r :: rest) (rpl w isC u)) : G Γ E nc ns pc lv st w := by
  obtain ⟨p, l, e, R, s, m, args, below, meth, c, nL, A, Q⟩ := Γ
  obtain ⟨hx, hb, hml, hnl, hR', hown, hts, hN, hK, hA, hll⟩ := F
  intro H locs ls hP hD hS h
  subst hsd; subst hR'; subst hll
  have hcs2 : nc + rm.cells ≤ R.cells ∧ ns + rm.slots ≤ R.slots := by rw [hz1, hz2]; exact hcs
  have hPc : va_P E.1 vwCl wc H := by
    intro k q hk
    have h1 : (isC.map (fun i => w[i]?))[k]? = some (some q) := by rw [hC, List.getElem?_map, hk]; rfl
    rw [List.getElem?_map] at h1
    cases hi : isC[k]? with
    | none => rw [hi] at h1; cases h1
    | some i => rw [hi] at h1; exact hP i q (Option.some.inj h1)
  have hDc := hD.sub (ws' := wc) isC hnd hC
  have hFc := va_free (wc := wc) hD hS hA isC hC
  have hpre := pb_at (av := As) hPc (hDc.weaken (fun _ _ _ _ => trivial)) hK hN
  refine va_calli (va_runSN (As := As) (rest := rest) ⟨hx, hb, hml, hown, hts⟩ (hM H.size) ⟨va_cnB n hts hG hw rfl rfl (hN.1 _ hln) (hts _ hini) hd hR, hts _ hsta, trivial⟩ ⟨pb_blind, hpre⟩ rfl hn (h.1.trans rfl) rfl (lv_room hcat) hdg hcs2) hS (fun q _ z => hFc q z) hFc (fun r u t H1 locs1 ht hvm hw1 hB hzz hk1 hS1 => ?_)
  obtain ⟨hP1, hD1⟩ := hB
  rw [ht] at hP1
  obtain ⟨hP2, hD2⟩ := va_join hP hD isC (rplace w isC) hC (rplace_map w isC) (rplace_nd w isC) (rplace_dis w isC) hk1 hFc hP1 hD1
  have ez1 : nc + rm.cells = nc := by rw [hz1]; rfl
  have ez2 : ns + rm.slots = ns := by rw [hz2]; rfl
  rw [ez1, ez2]
  have hP3 := rpl_world hnd hC (hul r u hw1) hD hD1 hP2 hD2
  exact kk r u hw1 H1 locs1 ls hP3.1 hP3.2 hS1 h
theorem g_callSNv (F : Fx Γ E cc nL0 Ts own R0 l0) {post : va_W → Prop} (isC : List Nat) (hM : CtV l0 y wsY rm E As wc post) (hdg : decode cc pc = .ok (.invokestatic index, 3)) (hC : isC.map (fun i => w[i]?) = wc.map some) (hnd : va_nd isC = true) (hsd : st = As.reverse ++ rest) (hn : As.length = n) (hw : wsY = Cond.code y bytes maxL ret :: ws') (hcat : (rest.map fun v => v.category).sum ≤ 8) (hR : rm.frames + 1 ≤ R0.frames ∧ 8 + (maxL + 11) + rm.locals ≤ R0.locals) (hz1 : rm.cells = 0) (hz2 : rm.slots = 0) (hcs : nc ≤ R0.cells ∧ ns ≤ R0.slots) {host : String} (hG : GoodIn Ts wsY) (hln : Cond.methodLinkNest own index y host ∈ nestWs) (hsta : Cond.static y ∈ Ts) (hini : Cond.initialized y.cls ∈ Ts) (hd : y.cls ≠ "java/lang/invoke/MethodHandle" ∧ y.cls ≠ "java/lang/invoke/VarHandle" ∧ (parseMethodDescriptor y.desc).map (fun d => d.parameters.length) = some n) (kk : ∀ (u : va_W), post u → G Γ E nc ns (pc + 3) lv rest (wrest w isC ++ u)) : G Γ E nc ns pc lv st w := by
  obtain ⟨p, l, e, R, s, m, args, below, meth, c, nL, A, Q⟩ := Γ
  obtain ⟨hx, hb, hml, hnl, hR', hown, hts, hN, hK, hA, hll⟩ := F
  intro H locs ls hP hD hS h
  subst hsd; subst hR'; subst hll
  have hcs2 : nc + rm.cells ≤ R.cells ∧ ns + rm.slots ≤ R.slots := by rw [hz1, hz2]; exact hcs
  have hPc : va_P E.1 vwCl wc H := by
    intro k q hk
    have h1 : (isC.map (fun i => w[i]?))[k]? = some (some q) := by rw [hC, List.getElem?_map, hk]; rfl
    rw [List.getElem?_map] at h1
    cases hi : isC[k]? with
    | none => rw [hi] at h1; cases h1
    | some i => rw [hi] at h1; exact hP i q (Option.some.inj h1)
  have hDc := hD.sub (ws' := wc) isC hnd hC
  have hFc := va_free (wc := wc) hD hS hA isC hC
  have hpre := pb_at (av := As) hPc (hDc.weaken (fun _ _ _ _ => trivial)) hK hN
  refine va_callv (va_runSN (As := As) (rest := rest) ⟨hx, hb, hml, hown, hts⟩ (hM H.size) ⟨va_cnB n hts hG hw rfl rfl (hN.1 _ hln) (hts _ hini) hd hR, hts _ hsta, trivial⟩ ⟨pb_blind, hpre⟩ rfl hn (h.1.trans rfl) rfl (lv_room hcat) hdg hcs2) hS (fun q _ z => hFc q z) hFc (fun u t H1 locs1 ht hvm hw1 hB hzz hk1 hS1 => ?_)
  obtain ⟨hP1, hD1⟩ := hB
  rw [ht] at hP1
  obtain ⟨hP2, hD2⟩ := va_join hP hD isC (rplace w isC) hC (rplace_map w isC) (rplace_nd w isC) (rplace_dis w isC) hk1 hFc hP1 hD1
  have ez1 : nc + rm.cells = nc := by rw [hz1]; rfl
  have ez2 : ns + rm.slots = ns := by rw [hz2]; rfl
  rw [ez1, ez2]
  exact kk u hw1 H1 locs1 ls hP2 hD2 hS1 h
theorem g_callSNvR (F : Fx Γ E cc nL0 Ts own R0 l0) {post : va_W → Prop} (isC : List Nat) (hM : CtV l0 y wsY rm E As wc post) (hdg : decode cc pc = .ok (.invokestatic index, 3)) (hC : isC.map (fun i => w[i]?) = wc.map some) (hnd : va_nd isC = true) (hsd : st = As.reverse ++ rest) (hn : As.length = n) (hw : wsY = Cond.code y bytes maxL ret :: ws') (hcat : (rest.map fun v => v.category).sum ≤ 8) (hR : rm.frames + 1 ≤ R0.frames ∧ 8 + (maxL + 11) + rm.locals ≤ R0.locals) (hz1 : rm.cells = 0) (hz2 : rm.slots = 0) (hcs : nc ≤ R0.cells ∧ ns ≤ R0.slots) {host : String} (hG : GoodIn Ts wsY) (hln : Cond.methodLinkNest own index y host ∈ nestWs) (hsta : Cond.static y ∈ Ts) (hini : Cond.initialized y.cls ∈ Ts) (hd : y.cls ≠ "java/lang/invoke/MethodHandle" ∧ y.cls ≠ "java/lang/invoke/VarHandle" ∧ (parseMethodDescriptor y.desc).map (fun d => d.parameters.length) = some n) (hro : ∀ u, post u → u = wc) (kk : ∀ (u : va_W), post u → G Γ E nc ns (pc + 3) lv rest w) : G Γ E nc ns pc lv st w := by
  obtain ⟨p, l, e, R, s, m, args, below, meth, c, nL, A, Q⟩ := Γ
  obtain ⟨hx, hb, hml, hnl, hR', hown, hts, hN, hK, hA, hll⟩ := F
  intro H locs ls hP hD hS h
  subst hsd; subst hR'; subst hll
  have hcs2 : nc + rm.cells ≤ R.cells ∧ ns + rm.slots ≤ R.slots := by rw [hz1, hz2]; exact hcs
  have hPc : va_P E.1 vwCl wc H := by
    intro k q hk
    have h1 : (isC.map (fun i => w[i]?))[k]? = some (some q) := by rw [hC, List.getElem?_map, hk]; rfl
    rw [List.getElem?_map] at h1
    cases hi : isC[k]? with
    | none => rw [hi] at h1; cases h1
    | some i => rw [hi] at h1; exact hP i q (Option.some.inj h1)
  have hDc := hD.sub (ws' := wc) isC hnd hC
  have hFc := va_free (wc := wc) hD hS hA isC hC
  have hpre := pb_at (av := As) hPc (hDc.weaken (fun _ _ _ _ => trivial)) hK hN
  refine va_callv (va_runSN (As := As) (rest := rest) ⟨hx, hb, hml, hown, hts⟩ (hM H.size) ⟨va_cnB n hts hG hw rfl rfl (hN.1 _ hln) (hts _ hini) hd hR, hts _ hsta, trivial⟩ ⟨pb_blind, hpre⟩ rfl hn (h.1.trans rfl) rfl (lv_room hcat) hdg hcs2) hS (fun q _ z => hFc q z) hFc (fun u t H1 locs1 ht hvm hw1 hB hzz hk1 hS1 => ?_)
  obtain ⟨hP1, hD1⟩ := hB
  rw [ht] at hP1
  obtain ⟨hP2, hD2⟩ := va_join hP hD isC (rplace w isC) hC (rplace_map w isC) (rplace_nd w isC) (rplace_dis w isC) hk1 hFc hP1 hD1
  have ez1 : nc + rm.cells = nc := by rw [hz1]; rfl
  have ez2 : ns + rm.slots = ns := by rw [hz2]; rfl
  rw [ez1, ez2]
  have hu := hro u hw1
  subst hu
  have hP3 : va_P E.1 vwCl w H1 := by
    intro k q hk
    by_cases hm : k ∈ isC
    · obtain ⟨j, hj⟩ := List.getElem?_of_mem hm
      have h1 : (isC.map (fun i => w[i]?))[j]? = some (some q) := by rw [List.getElem?_map, hj]; exact congrArg some hk
      rw [hC, List.getElem?_map] at h1
      cases hi : u[j]? with
      | none => rw [hi] at h1; cases h1
      | some i => rw [hi] at h1; have := Option.some.inj (Option.some.inj h1); subst this; exact hP1 j _ hi
    · have hlt : k < w.length := (List.getElem?_eq_some_iff.mp hk).1
      have h2 : q ∈ wrest w isC := List.mem_filterMap.mpr ⟨k, List.mem_range.mpr hlt, by rw [if_neg hm]; exact hk⟩
      obtain ⟨j, hj⟩ := List.getElem?_of_mem h2
      exact hP2 j q (by rw [List.getElem?_append_left (List.getElem?_eq_some_iff.mp hj).1]; exact hj)
  exact kk u hw1 H1 locs1 ls hP3 hD hS1 h
theorem g_callSNvW (F : Fx Γ E cc nL0 Ts own R0 l0) {post : va_W → Prop} (isC : List Nat) (hM : CtV l0 y wsY rm E As wc post) (hdg : decode cc pc = .ok (.invokestatic index, 3)) (hC : isC.map (fun i => w[i]?) = wc.map some) (hnd : va_nd isC = true) (hsd : st = As.reverse ++ rest) (hn : As.length = n) (hw : wsY = Cond.code y bytes maxL ret :: ws') (hcat : (rest.map fun v => v.category).sum ≤ 8) (hR : rm.frames + 1 ≤ R0.frames ∧ 8 + (maxL + 11) + rm.locals ≤ R0.locals) (hz1 : rm.cells = 0) (hz2 : rm.slots = 0) (hcs : nc ≤ R0.cells ∧ ns ≤ R0.slots) {host : String} (hG : GoodIn Ts wsY) (hln : Cond.methodLinkNest own index y host ∈ nestWs) (hsta : Cond.static y ∈ Ts) (hini : Cond.initialized y.cls ∈ Ts) (hd : y.cls ≠ "java/lang/invoke/MethodHandle" ∧ y.cls ≠ "java/lang/invoke/VarHandle" ∧ (parseMethodDescriptor y.desc).map (fun d => d.parameters.length) = some n) (hul : ∀ u, post u → u.length = isC.length) (kk : ∀ (u : va_W), post u → G Γ E nc ns (pc + 3) lv rest (rpl w isC u)) : G Γ E nc ns pc lv st w := by
  obtain ⟨p, l, e, R, s, m, args, below, meth, c, nL, A, Q⟩ := Γ
  obtain ⟨hx, hb, hml, hnl, hR', hown, hts, hN, hK, hA, hll⟩ := F
  intro H locs ls hP hD hS h
  subst hsd; subst hR'; subst hll
  have hcs2 : nc + rm.cells ≤ R.cells ∧ ns + rm.slots ≤ R.slots := by rw [hz1, hz2]; exact hcs
  have hPc : va_P E.1 vwCl wc H := by
    intro k q hk
    have h1 : (isC.map (fun i => w[i]?))[k]? = some (some q) := by rw [hC, List.getElem?_map, hk]; rfl
    rw [List.getElem?_map] at h1
    cases hi : isC[k]? with
    | none => rw [hi] at h1; cases h1
    | some i => rw [hi] at h1; exact hP i q (Option.some.inj h1)
  have hDc := hD.sub (ws' := wc) isC hnd hC
  have hFc := va_free (wc := wc) hD hS hA isC hC
  have hpre := pb_at (av := As) hPc (hDc.weaken (fun _ _ _ _ => trivial)) hK hN
  refine va_callv (va_runSN (As := As) (rest := rest) ⟨hx, hb, hml, hown, hts⟩ (hM H.size) ⟨va_cnB n hts hG hw rfl rfl (hN.1 _ hln) (hts _ hini) hd hR, hts _ hsta, trivial⟩ ⟨pb_blind, hpre⟩ rfl hn (h.1.trans rfl) rfl (lv_room hcat) hdg hcs2) hS (fun q _ z => hFc q z) hFc (fun u t H1 locs1 ht hvm hw1 hB hzz hk1 hS1 => ?_)
  obtain ⟨hP1, hD1⟩ := hB
  rw [ht] at hP1
  obtain ⟨hP2, hD2⟩ := va_join hP hD isC (rplace w isC) hC (rplace_map w isC) (rplace_nd w isC) (rplace_dis w isC) hk1 hFc hP1 hD1
  have ez1 : nc + rm.cells = nc := by rw [hz1]; rfl
  have ez2 : ns + rm.slots = ns := by rw [hz2]; rfl
  rw [ez1, ez2]
  have hP3 := rpl_world hnd hC (hul u hw1) hD hD1 hP2 hD2
  exact kk u hw1 H1 locs1 ls hP3.1 hP3.2 hS1 h
theorem g_callIv (F : Fx Γ E cc nL0 Ts own R0 l0) {post : va_W → Prop} {b : Nat} (isC : List Nat) (hM : CtV l0 y wsY rm E (.ref b :: As) wc post) (hdg : decode cc pc = .ok (.invokespecial index, 3)) (hC : isC.map (fun i => w[i]?) = wc.map some) (hnd : va_nd isC = true) (hsd : st = As.reverse ++ .ref b :: rest) (hn : As.length = n) (hw : wsY = Cond.code y bytes maxL none :: ws') (hcat : (rest.map fun v => v.category).sum ≤ 8) (hR : rm.frames + 1 ≤ R0.frames ∧ 8 + (maxL + 11) + rm.locals ≤ R0.locals) (hcs : nc + rm.cells ≤ R0.cells ∧ ns + rm.slots ≤ R0.slots) (hG : GoodIn Ts wsY) (hlk : Cond.methodLink own index y ∈ Ts) (hins : Cond.instanceMethod y ∈ Ts) (hini : Cond.initialized y.cls ∈ Ts) (hy1 : y.name = "<init>") (hd : y.cls ≠ "java/lang/invoke/MethodHandle" ∧ y.cls ≠ "java/lang/invoke/VarHandle" ∧ (parseMethodDescriptor y.desc).map (fun d => d.parameters.length) = some n) (kk : ∀ (u : va_W), post u → G Γ E (nc + rm.cells) (ns + rm.slots) (pc + 3) lv rest (wrest w isC ++ u)) : G Γ E nc ns pc lv st w := by
  obtain ⟨p, l, e, R, s, m, args, below, meth, c, nL, A, Q⟩ := Γ
  obtain ⟨hx, hb, hml, hnl, hR', hown, hts, hN, hK, hA, hll⟩ := F
  intro H locs ls hP hD hS h
  subst hsd; subst hR'; subst hll
  have hPc : va_P E.1 vwCl wc H := by
    intro k q hk
    have h1 : (isC.map (fun i => w[i]?))[k]? = some (some q) := by rw [hC, List.getElem?_map, hk]; rfl
    rw [List.getElem?_map] at h1
    cases hi : isC[k]? with
    | none => rw [hi] at h1; cases h1
    | some i => rw [hi] at h1; exact hP i q (Option.some.inj h1)
  have hDc := hD.sub (ws' := wc) isC hnd hC
  have hFc := va_free (wc := wc) hD hS hA isC hC
  have hpre := pb_at (av := (.ref b :: As)) hPc (hDc.weaken (fun _ _ _ _ => trivial)) hK hN
  refine va_callv (va_runI (As := As) (rest := rest) ⟨hx, hb, hml, hown, hts⟩ (hM H.size) (cwI n hts hG hw rfl rfl (hts _ hini) (hts _ hlk) (hts _ hins) hy1 hd hR) ⟨pb_blind, hpre⟩ rfl hn (h.1.trans rfl) rfl (lv_room hcat) hdg hcs) hS (fun q _ z => hFc q z) hFc (fun u t H1 locs1 ht hvm hw1 hB hzz hk1 hS1 => ?_)
  obtain ⟨hP1, hD1⟩ := hB
  rw [ht] at hP1
  obtain ⟨hP2, hD2⟩ := va_join hP hD isC (rplace w isC) hC (rplace_map w isC) (rplace_nd w isC) (rplace_dis w isC) hk1 hFc hP1 hD1
  exact kk u hw1 H1 locs1 ls hP2 hD2 hS1 h
theorem g_callINv (F : Fx Γ E cc nL0 Ts own R0 l0) {post : va_W → Prop} {b : Nat} (isC : List Nat) (hM : CtV l0 y wsY rm E (.ref b :: As) wc post) (hdg : decode cc pc = .ok (.invokespecial index, 3)) (hC : isC.map (fun i => w[i]?) = wc.map some) (hnd : va_nd isC = true) (hsd : st = As.reverse ++ .ref b :: rest) (hn : As.length = n) (hw : wsY = Cond.code y bytes maxL none :: ws') (hcat : (rest.map fun v => v.category).sum ≤ 8) (hR : rm.frames + 1 ≤ R0.frames ∧ 8 + (maxL + 11) + rm.locals ≤ R0.locals) (hcs : nc + rm.cells ≤ R0.cells ∧ ns + rm.slots ≤ R0.slots) {host : String} (hG : GoodIn Ts wsY) (hln : Cond.methodLinkNest own index y host ∈ nestWs) (hins : Cond.instanceMethod y ∈ Ts) (hini : Cond.initialized y.cls ∈ Ts) (hy1 : y.name = "<init>") (hd : y.cls ≠ "java/lang/invoke/MethodHandle" ∧ y.cls ≠ "java/lang/invoke/VarHandle" ∧ (parseMethodDescriptor y.desc).map (fun d => d.parameters.length) = some n) (kk : ∀ (u : va_W), post u → G Γ E (nc + rm.cells) (ns + rm.slots) (pc + 3) lv rest (wrest w isC ++ u)) : G Γ E nc ns pc lv st w := by
  obtain ⟨p, l, e, R, s, m, args, below, meth, c, nL, A, Q⟩ := Γ
  obtain ⟨hx, hb, hml, hnl, hR', hown, hts, hN, hK, hA, hll⟩ := F
  intro H locs ls hP hD hS h
  subst hsd; subst hR'; subst hll
  have hPc : va_P E.1 vwCl wc H := by
    intro k q hk
    have h1 : (isC.map (fun i => w[i]?))[k]? = some (some q) := by rw [hC, List.getElem?_map, hk]; rfl
    rw [List.getElem?_map] at h1
    cases hi : isC[k]? with
    | none => rw [hi] at h1; cases h1
    | some i => rw [hi] at h1; exact hP i q (Option.some.inj h1)
  have hDc := hD.sub (ws' := wc) isC hnd hC
  have hFc := va_free (wc := wc) hD hS hA isC hC
  have hpre := pb_at (av := (.ref b :: As)) hPc (hDc.weaken (fun _ _ _ _ => trivial)) hK hN
  refine va_callv (va_runIN (As := As) (rest := rest) ⟨hx, hb, hml, hown, hts⟩ (hM H.size) ⟨va_cnB n hts hG hw rfl rfl (hN.1 _ hln) (hts _ hini) hd hR, hy1, hts _ hins⟩ ⟨pb_blind, hpre⟩ rfl hn (h.1.trans rfl) rfl (lv_room hcat) hdg hcs) hS (fun q _ z => hFc q z) hFc (fun u t H1 locs1 ht hvm hw1 hB hzz hk1 hS1 => ?_)
  obtain ⟨hP1, hD1⟩ := hB
  rw [ht] at hP1
  obtain ⟨hP2, hD2⟩ := va_join hP hD isC (rplace w isC) hC (rplace_map w isC) (rplace_nd w isC) (rplace_dis w isC) hk1 hFc hP1 hD1
  exact kk u hw1 H1 locs1 ls hP2 hD2 hS1 h
theorem g_wr {u w2 : va_W} {isC : List Nat} (isR : List Nat) (n : Nat) (hnd : va_nd isC = true) (hu : u.length = isC.length) (hl1 : w.length = n) (hl2 : w2.length = n) (hcov : (List.range n).all (fun k => decide (k ∈ isC) || decide (k ∈ isR)) = true) (hlt : isC.all (fun k => decide (k < n)) = true) (hb : isC.map (fun i => w2[i]?) = u.map some) (hc : isR.map (fun i => w2[i]?) = (isR.map (fun i => w[i]?)).map id) (kk : G Γ E nc ns pc lv st w2) : G Γ E nc ns pc lv st (rpl w isC u) := by
  rw [rpl_eq isR n hnd hu hl1 hl2 hcov hlt hb hc]
  exact kk
end GC
theorem CtI.of {l : Launch} {y : MethodName} {ws ws' : List Cond} {rm : Room} {E : En} {av : List Value} {w : va_W} {post : Int32 → va_W → Prop} (cc : ByteArray) (maxL : Nat) (own : String) (ty : FieldType) (hcl : y.cls = own) (hy : plainName y.cls = true) (hws : ws = Cond.code y cc maxL (some ty) :: ws') (hty : ty = .int ∨ ty = .boolean) (hlen : (lg_sl av).length ≤ maxL) (hpost : ty = .boolean → ∀ r u, post r u → narrow .boolean (.int r) = .int r)
    (body : ∀ Γ : Gm, Fx Γ E cc maxL ws own (headSpec ws rm).room l → RetI Γ E cc rm.cells rm.slots post → G Γ E 0 0 0 (lv_args 0 av) [] w) : CtI l y ws rm E av w post := by
  intro sz
  subst hcl
  refine Met.ofW (cc := cc) (maxL := maxL) (ret := some ty) hy hws ?_
  intro p e s m args below meth c s₁ B hml hv
  obtain ⟨rfl, hsz, hP, hK, hD0, hN⟩ := hv
  have hown : s.vm.findClass y.cls = some m.cls := findClass_of_methodNamed B.named
  have hlocks := B.notSynchronized
  subst hsz
  have hD := hD0.self (sz := s.heap.size)
  have hl := lv_entry av (n := maxL) hlen
  rw [lg_entry_eq]
  refine body (p, l, e, (headSpec ws rm).room, s, m, av.toArray, below, meth, c, maxL, va_A w s.heap.size, _) ⟨B.exec, B.bytes, hml, rfl, rfl, hown, atoms_spec (ws := ws) B.pre, hN, hK, fun q h => Or.inr h, rfl⟩ ?_ s.heap [] _ hP hD va_S.rf hl
  intro pc lv r u hdg hpo H locs ls hP1 hD1 hS1 _
  rcases hty with rfl | rfl
  · exact W.iret (v := r) B.exec B.bytes B.returns (fun t ht hW => ⟨⟨r, u, rfl, hpo, by rw [ht]; exact hP1, hD1⟩, hS1.F ht⟩) hS1.2.2 hdg
  · exact W.zret (v := r) B.exec B.bytes B.returns (hpost rfl r u hpo) (fun t ht hW => ⟨⟨r, u, rfl, hpo, by rw [ht]; exact hP1, hD1⟩, hS1.F ht⟩) hS1.2.2 hdg
theorem CtJ.of {l : Launch} {y : MethodName} {ws ws' : List Cond} {rm : Room} {E : En} {av : List Value} {w : va_W} {post : Int64 → va_W → Prop} (cc : ByteArray) (maxL : Nat) (own : String) (hcl : y.cls = own) (hy : plainName y.cls = true) (hws : ws = Cond.code y cc maxL (some .long) :: ws') (hlen : (lg_sl av).length ≤ maxL)
    (body : ∀ Γ : Gm, Fx Γ E cc maxL ws own (headSpec ws rm).room l → RetJ Γ E cc rm.cells rm.slots post → G Γ E 0 0 0 (lv_args 0 av) [] w) : CtJ l y ws rm E av w post := by
  intro sz
  subst hcl
  refine Met.ofW (cc := cc) (maxL := maxL) (ret := some .long) hy hws ?_
  intro p e s m args below meth c s₁ B hml hv
  obtain ⟨rfl, hsz, hP, hK, hD0, hN⟩ := hv
  have hown : s.vm.findClass y.cls = some m.cls := findClass_of_methodNamed B.named
  have hlocks := B.notSynchronized
  subst hsz
  have hD := hD0.self (sz := s.heap.size)
  have hl := lv_entry av (n := maxL) hlen
  rw [lg_entry_eq]
  refine body (p, l, e, (headSpec ws rm).room, s, m, av.toArray, below, meth, c, maxL, va_A w s.heap.size, _) ⟨B.exec, B.bytes, hml, rfl, rfl, hown, atoms_spec (ws := ws) B.pre, hN, hK, fun q h => Or.inr h, rfl⟩ ?_ s.heap [] _ hP hD va_S.rf hl
  intro pc lv r u hdg hpo H locs ls hP1 hD1 hS1 _
  exact W.lret (v := r) B.exec B.bytes B.returns (fun t ht hW => ⟨⟨r, u, rfl, hpo, by rw [ht]; exact hP1, hD1⟩, hS1.F ht⟩) hS1.2.2 hdg
theorem CtV.of {l : Launch} {y : MethodName} {ws ws' : List Cond} {rm : Room} {E : En} {av : List Value} {w : va_W} {post : va_W → Prop} (cc : ByteArray) (maxL : Nat) (own : String) (hcl : y.cls = own) (hy : plainName y.cls = true) (hws : ws = Cond.code y cc maxL none :: ws') (hlen : (lg_sl av).length ≤ maxL)
    (body : ∀ Γ : Gm, Fx Γ E cc maxL ws own (headSpec ws rm).room l → (y.name = "<init>" → Hin Γ) → RetV Γ E cc rm.cells rm.slots post → G Γ E 0 0 0 (lv_args 0 av) [] w) : CtV l y ws rm E av w post := by
  intro sz
  subst hcl
  refine Met.ofW (cc := cc) (maxL := maxL) (ret := none) hy hws ?_
  intro p e s m args below meth c s₁ B hml hv
  obtain ⟨rfl, hsz, hP, hK, hD0, hN⟩ := hv
  have hown : s.vm.findClass y.cls = some m.cls := findClass_of_methodNamed B.named
  have hlocks := B.notSynchronized
  subst hsz
  have hD := hD0.self (sz := s.heap.size)
  have hl := lv_entry av (n := maxL) hlen
  rw [lg_entry_eq]
  refine body (p, l, e, (headSpec ws rm).room, s, m, av.toArray, below, meth, c, maxL, va_A w s.heap.size, _) ⟨B.exec, B.bytes, hml, rfl, rfl, hown, atoms_spec (ws := ws) B.pre, hN, hK, fun q h => Or.inr h, rfl⟩ (fun hn => by show meth.name = "<init>"; rw [← hn]; exact (name_of_methodNamed B.named B.method).1) ?_ s.heap [] _ hP hD va_S.rf hl
  intro pc lv u hdg hpo H locs ls hP1 hD1 hS1 _
  exact W.vret B.exec B.bytes B.returns (fun t ht hW => ⟨⟨u, rfl, hpo, by rw [ht]; exact hP1, hD1⟩, hS1.F ht⟩) hS1.2.2 hdg
