/-! longs, by their bits -/
def lb (x : Int64) (i : Nat) : Bool := x.toBitVec.getLsbD i
theorem l_ext {x y : Int64} (h : ∀ i, i < 64 → lb x i = lb y i) : x = y := Int64.toBitVec_inj.mp (BitVec.eq_of_getLsbD_eq (fun i hi => h i hi))
theorem l_or (x y : Int64) (i : Nat) : lb (x ||| y) i = (lb x i || lb y i) := by unfold lb; rw [Int64.toBitVec_or, BitVec.getLsbD_or]
theorem l_and (x y : Int64) (i : Nat) : lb (x &&& y) i = (lb x i && lb y i) := by unfold lb; rw [Int64.toBitVec_and, BitVec.getLsbD_and]
theorem l_xor (x y : Int64) (i : Nat) : lb (x ^^^ y) i = (lb x i ^^ lb y i) := by unfold lb; rw [Int64.toBitVec_xor, BitVec.getLsbD_xor]
theorem l_big {x : Int64} {i : Nat} (h : 64 ≤ i) : lb x i = false := BitVec.getLsbD_of_ge _ _ h
theorem l_m1 : ∀ i, i < 64 → lb (-1) i = true := by decide +kernel
theorem l_0 (i : Nat) : lb 0 i = false := BitVec.getLsbD_zero
theorem l_65535 (i : Nat) : lb 65535 i = decide (i < 16) := by
  rcases Nat.lt_or_ge i 64 with h | h
  · exact (by decide +kernel : ∀ i, i < 64 → lb 65535 i = decide (i < 16)) i h
  · rw [l_big h, decide_eq_false (by omega)]
theorem l_1 (i : Nat) : lb 1 i = decide (i = 0) := by
  rcases Nat.lt_or_ge i 64 with h | h
  · exact (by decide +kernel : ∀ i, i < 64 → lb 1 i = decide (i = 0)) i h
  · rw [l_big h, decide_eq_false (by omega)]
theorem l_lo : ∀ i, i < 64 → lb 4294967295 i = decide (i < 32) := by decide +kernel
theorem l_hi : ∀ i, i < 64 → lb (-4294967296) i = decide (32 ≤ i) := by decide +kernel
theorem l_21 : ∀ i, i < 64 → lb 2097151 i = decide (i < 21) := by decide +kernel
theorem l_sl : ∀ n, n < 64 → (((nI n).toInt64 &&& 63).toBitVec.smod 64).toNat = n := by decide +kernel
theorem l_su : ∀ n, n < 64 → (((nI n).toInt64.toUInt64 &&& Int64.toUInt64 63).toBitVec % 64).toNat = n := by decide +kernel
theorem l_shl (n : Nat) (hn : n < 64) (x : Int64) {i : Nat} (hi : i < 64) : lb (x <<< ((nI n).toInt64 &&& 63)) i = (decide (n ≤ i) && lb x (i - n)) := by
  unfold lb
  rw [Int64.toBitVec_shiftLeft]
  show (x.toBitVec <<< (((nI n).toInt64 &&& 63).toBitVec.smod 64).toNat).getLsbD i = _
  rw [l_sl n hn, BitVec.getLsbD_shiftLeft]
  rcases Nat.lt_or_ge i n with h | h
  · simp [h, Nat.not_le.mpr h]
  · simp [hi, h, Nat.not_lt.mpr h]
theorem l_ushr (n : Nat) (hn : n < 64) (x : Int64) (i : Nat) : lb ((x.toUInt64 >>> ((nI n).toInt64.toUInt64 &&& Int64.toUInt64 63)).toInt64) i = lb x (n + i) := by
  show (x.toUInt64 >>> ((nI n).toInt64.toUInt64 &&& Int64.toUInt64 63)).toBitVec.getLsbD i = x.toUInt64.toBitVec.getLsbD (n + i)
  rw [UInt64.toBitVec_shiftRight]
  show (x.toUInt64.toBitVec >>> (((nI n).toInt64.toUInt64 &&& Int64.toUInt64 63).toBitVec % 64).toNat).getLsbD i = _
  rw [l_su n hn, BitVec.getLsbD_ushiftRight]
theorem l_nI {v i : Nat} (hv : v < 2 ^ 31) (hi : i < 64) : lb (nI v).toInt64 i = v.testBit i := by
  rw [nI_l hv]
  show (BitVec.ofNat 64 v).getLsbD i = _
  rw [BitVec.getLsbD_ofNat]
  simp [hi]
def bn (p : Nat → Bool) : Nat → Nat
  | 0 => 0
  | n + 1 => bn p n + (if p n = true then 2 ^ n else 0)
theorem bn_lt (p : Nat → Bool) : ∀ n, bn p n < 2 ^ n
  | 0 => Nat.one_pos
  | n + 1 => by
    have h := bn_lt p n
    show bn p n + _ < 2 ^ n * 2
    split <;> omega
theorem bn_bit (p : Nat → Bool) : ∀ n i, (bn p n).testBit i = (decide (i < n) && p i)
  | 0, i => by
    show (0 : Nat).testBit i = _
    rw [Nat.zero_testBit, decide_eq_false (by omega)]; rfl
  | n + 1, i => by
    have ih := bn_bit p n i
    have hl := bn_lt p n
    show (bn p n + (if p n = true then 2 ^ n else 0)).testBit i = _
    by_cases hp : p n = true
    · rw [if_pos hp, show bn p n + 2 ^ n = 2 ^ n * 1 + bn p n by omega, Nat.testBit_two_pow_mul_add 1 hl]
      by_cases hi : i < n
      · rw [if_pos hi, ih, decide_eq_true hi, decide_eq_true (show i < n + 1 by omega)]
      · rw [if_neg hi]
        by_cases he : i = n
        · subst he
          rw [Nat.sub_self, decide_eq_true (Nat.lt_succ_self i), hp]; rfl
        · rw [decide_eq_false (show ¬ i < n + 1 by omega), Nat.testBit_lt_two_pow (Nat.one_lt_two_pow (by omega))]; rfl
    · rw [if_neg hp, Nat.add_zero, ih]
      by_cases he : i = n
      · subst he
        rw [Bool.not_eq_true] at hp
        rw [hp, Bool.and_false, Bool.and_false]
      · by_cases hi : i < n
        · rw [decide_eq_true hi, decide_eq_true (show i < n + 1 by omega)]
        · rw [decide_eq_false hi, decide_eq_false (show ¬ i < n + 1 by omega)]
theorem ofB_ex : ∃ f : (Nat → Bool) → Int64, ∀ p i, lb (f p) i = (decide (i < 64) && p i) := ⟨fun p => Int64.ofBitVec (BitVec.ofNat 64 (bn p 64)), fun p i => by
  show (BitVec.ofNat 64 (bn p 64)).getLsbD i = _
  rw [BitVec.getLsbD_ofNat, bn_bit]
  cases decide (i < 64) <;> rfl⟩
/-- the long whose bits are told -/
noncomputable def ofB : (Nat → Bool) → Int64 := Classical.choose ofB_ex
theorem ofB_b (p : Nat → Bool) (i : Nat) : lb (ofB p) i = (decide (i < 64) && p i) := Classical.choose_spec ofB_ex p i
theorem ofB_i (p : Nat → Bool) {i : Nat} (hi : i < 64) : lb (ofB p) i = p i := by rw [ofB_b, decide_eq_true hi]; rfl
/-- four numbers in one long -/
noncomputable def pkN (f : Nat → Nat) : Int64 := ofB (fun i => (f (i / 16)).testBit (i % 16))
/-- 64 members of a set of blocks, as bits -/
noncomputable def bs (U : Nat → Nat) (h : Nat) : Int64 := ofB (fun i => decide (64 * h + i < 96 ∧ ¬ U (64 * h + i) = 0))
noncomputable def bu (U : Nat → Nat) : Nat → Int64 := fun h => bs U h
theorem pk_b (f : Nat → Nat) {i : Nat} (hi : i < 64) : lb (pkN f) i = (f (i / 16)).testBit (i % 16) := ofB_i _ hi
theorem bs_b (U : Nat → Nat) (h : Nat) {i : Nat} (hi : i < 64) : lb (bs U h) i = decide (64 * h + i < 96 ∧ ¬ U (64 * h + i) = 0) := ofB_i _ hi
theorem tb_big {v i : Nat} (hv : v < 65536) (hi : 16 ≤ i) : v.testBit i = false := Nat.testBit_lt_two_pow (Nat.lt_of_lt_of_le hv (by have := Nat.pow_le_pow_right (show 0 < 2 by decide) hi; have e : 2 ^ 16 = 65536 := by decide
                                                                                                                                     omega))
theorem pk_num {f : Nat → Nat} {k : Nat} (hf : ∀ j, j < 4 → f j < 65536) (hk : k < 4) : ((((pkN f).toUInt64 >>> ((nI (16 * k)).toInt64.toUInt64 &&& Int64.toUInt64 63)).toInt64) &&& 65535).toInt32 = nI (f k) := by
  apply Int32.toBitVec_inj.mp
  apply BitVec.eq_of_getLsbD_eq
  intro i hi
  rw [Int64.toBitVec_toInt32, BitVec.getLsbD_signExtend, decide_eq_true hi, Bool.true_and, if_pos (by omega)]
  show lb ((((pkN f).toUInt64 >>> ((nI (16 * k)).toInt64.toUInt64 &&& Int64.toUInt64 63)).toInt64) &&& 65535) i = (BitVec.ofNat 32 (f k)).getLsbD i
  rw [l_and, l_ushr _ (by omega), l_65535, BitVec.getLsbD_ofNat, decide_eq_true hi, Bool.true_and]
  by_cases h : i < 16
  · rw [pk_b f (by omega), decide_eq_true h, Bool.and_true, show (16 * k + i) / 16 = k by omega, show (16 * k + i) % 16 = i by omega]
  · rw [decide_eq_false h, Bool.and_false, tb_big (hf k hk) (by omega)]
theorem pk_with {f : Nat → Nat} {k v : Nat} (hk : k < 4) (hv : v < 65536) : ((pkN f) &&& ((65535 <<< ((nI (16 * k)).toInt64 &&& 63)) ^^^ (-1))) ||| ((nI v).toInt64 <<< ((nI (16 * k)).toInt64 &&& 63)) = pkN (up f k v) := by
  apply l_ext
  intro i hi
  rw [l_or, l_and, l_xor, l_m1 i hi, l_shl _ (by omega) _ hi, l_shl _ (by omega) _ hi, l_65535, l_nI (by omega) (by omega), pk_b f hi, pk_b _ hi]
  unfold up
  by_cases h : i / 16 = k
  · rw [if_pos h, decide_eq_true (show 16 * k ≤ i by omega), decide_eq_true (show i - 16 * k < 16 by omega), show i - 16 * k = i % 16 by omega]
    simp
  · rw [if_neg h]
    by_cases h2 : 16 * k ≤ i
    · rw [decide_eq_true h2, decide_eq_false (show ¬ i - 16 * k < 16 by omega), tb_big hv (show 16 ≤ i - 16 * k by omega)]
      simp
    · rw [decide_eq_false h2]
      simp
theorem pk_torn (f g : Nat → Nat) : (pkN f &&& 4294967295) ||| (pkN g &&& (-4294967296)) = pkN (fun k => if k < 2 then f k else g k) := by
  apply l_ext
  intro i hi
  rw [l_or, l_and, l_and, l_lo i hi, l_hi i hi, pk_b f hi, pk_b g hi, pk_b _ hi]
  by_cases h : i < 32
  · rw [decide_eq_true h, decide_eq_false (show ¬ 32 ≤ i by omega), if_pos (show i / 16 < 2 by omega)]
    simp
  · rw [decide_eq_false h, decide_eq_true (show 32 ≤ i by omega), if_neg (show ¬ i / 16 < 2 by omega)]
    simp
theorem pk_congr {f g : Nat → Nat} (h : ∀ k, k < 4 → f k = g k) : pkN f = pkN g := by
  apply l_ext
  intro i hi
  rw [pk_b f hi, pk_b g hi, h (i / 16) (by omega)]
theorem pk_inj {f g : Nat → Nat} (hf : ∀ j, j < 4 → f j < 65536) (hg : ∀ j, j < 4 → g j < 65536) : pkN f = pkN g ↔ ∀ k, k < 4 → f k = g k := by
  refine ⟨fun e k hk => ?_, pk_congr⟩
  apply Nat.eq_of_testBit_eq
  intro i
  by_cases h : i < 16
  · have h1 : lb (pkN f) (16 * k + i) = lb (pkN g) (16 * k + i) := by rw [e]
    rw [pk_b f (by omega), pk_b g (by omega), show (16 * k + i) / 16 = k by omega, show (16 * k + i) % 16 = i by omega] at h1
    exact h1
  · rw [tb_big (hf k hk) (by omega), tb_big (hg k hk) (by omega)]
theorem pk_zero {f : Nat → Nat} (h : ∀ k, k < 4 → f k = 0) : (0 : Int64) = pkN f := by
  apply l_ext
  intro i hi
  rw [pk_b f hi, h (i / 16) (by omega), l_0, Nat.zero_testBit]
/-! sets -/
theorem bs_ex {U : Nat → Nat} {k : Nat} (hk : k < 96) : ((bs U (k / 64)).toUInt64 >>> ((nI (k % 64)).toInt64.toUInt64 &&& Int64.toUInt64 63)).toInt64 &&& 1 = if U k = 0 then 0 else 1 := by
  apply l_ext
  intro i hi
  rw [l_and, l_ushr _ (by omega), l_1]
  by_cases h : i = 0
  · subst h
    rw [bs_b U _ (by omega), show 64 * (k / 64) + (k % 64 + 0) = k by omega]
    by_cases hz : U k = 0
    · rw [if_pos hz, l_0, decide_eq_false (fun z => z.2 hz)]; rfl
    · rw [if_neg hz, l_1, decide_eq_true (show k < 96 ∧ ¬ U k = 0 from ⟨hk, hz⟩)]; rfl
  · rw [decide_eq_false h, Bool.and_false]
    split
    · rw [l_0]
    · rw [l_1, decide_eq_false h]
theorem l_10 : ¬ (1 : Int64) = 0 := by decide
theorem l_01 : ¬ (0 : Int64) = 1 := by decide
theorem bs_tst {U : Nat → Nat} {k : Nat} (hk : k < 96) : lg_cmp (((bs U (k / 64)).toUInt64 >>> ((nI (k % 64)).toInt64.toUInt64 &&& Int64.toUInt64 63)).toInt64 &&& 1) 0 = 0 ↔ U k = 0 := by
  rw [lg_cmp_eq, bs_ex hk]
  split
  · rename_i z; exact ⟨fun _ => z, fun _ => rfl⟩
  · rename_i z; exact ⟨fun q => absurd q l_10, fun q => absurd q z⟩
theorem bs_tst1 {U : Nat → Nat} {k : Nat} (hk : k < 64) : lg_cmp (((bs U 0).toUInt64 >>> ((nI k).toInt64.toUInt64 &&& Int64.toUInt64 63)).toInt64 &&& 1) 1 = 0 ↔ ¬ U k = 0 := by
  have h := bs_ex (U := U) (k := k) (by omega)
  rw [show k / 64 = 0 by omega, show k % 64 = k by omega] at h
  rw [lg_cmp_eq, h]
  split
  · rename_i z; exact ⟨fun q => absurd q l_01, fun q => absurd z q⟩
  · rename_i z; exact ⟨fun _ => z, fun _ => rfl⟩
theorem bs_congr {U V : Nat → Nat} (h : ∀ j, j < 96 → (U j = 0 ↔ V j = 0)) (n : Nat) : bs U n = bs V n := by
  apply l_ext
  intro i hi
  rw [bs_b U n hi, bs_b V n hi]
  by_cases z : 64 * n + i < 96
  · have := h _ z
    apply decide_eq_decide.mpr
    rw [this]
  · rw [decide_eq_false (fun q => z q.1), decide_eq_false (fun q => z q.1)]
theorem bs_set {U : Nat → Nat} {k : Nat} (hk : k < 96) : bs U (k / 64) ||| (1 <<< ((nI (k % 64)).toInt64 &&& 63)) = bs (up U k 1) (k / 64) := by
  apply l_ext
  intro i hi
  rw [l_or, l_shl _ (by omega) _ hi, l_1, bs_b U _ hi, bs_b _ _ hi]
  unfold up
  by_cases h : i = k % 64
  · rw [if_pos (show 64 * (k / 64) + i = k by omega), decide_eq_true (show k % 64 ≤ i by omega), decide_eq_true (show i - k % 64 = 0 by omega), decide_eq_true (show 64 * (k / 64) + i < 96 ∧ ¬ (1 : Nat) = 0 from ⟨by omega, by decide⟩)]
    cases decide (64 * (k / 64) + i < 96 ∧ ¬ U (64 * (k / 64) + i) = 0) <;> rfl
  · rw [if_neg (show ¬ 64 * (k / 64) + i = k by omega)]
    have : (decide (k % 64 ≤ i) && decide (i - k % 64 = 0)) = false := by
      by_cases h2 : k % 64 ≤ i
      · rw [decide_eq_false (show ¬ i - k % 64 = 0 by omega), Bool.and_false]
      · rw [decide_eq_false h2]; rfl
    rw [this, Bool.or_false]
theorem bs_oth {U : Nat → Nat} {k v n : Nat} (hn : ¬ n = k / 64) : bs (up U k v) n = bs U n := by
  apply l_ext
  intro i hi
  rw [bs_b U _ hi, bs_b _ _ hi, up_n U v (by omega)]
theorem bu_set {U : Nat → Nat} {k : Nat} (hk : k < 96) : vp_updL (bu U) (k / 64) (bs U (k / 64) ||| (1 <<< ((nI (k % 64)).toInt64 &&& 63))) = bu (up U k 1) := by
  rw [bs_set hk]
  funext j
  unfold vp_updL
  by_cases h : j = k / 64
  · rw [if_pos h, h]; rfl
  · rw [if_neg h]; exact (bs_oth h).symm
theorem bs_or (U V : Nat → Nat) (n : Nat) : bs U n ||| bs V n = bs (fun j => if U j = 0 then V j else U j) n := by
  apply l_ext
  intro i hi
  rw [l_or, bs_b U _ hi, bs_b V _ hi, bs_b _ _ hi]
  by_cases z : 64 * n + i < 96 <;> by_cases h : U (64 * n + i) = 0 <;> simp [z, h]
theorem bs_andn (U V : Nat → Nat) (n : Nat) : bs U n &&& (bs V n ^^^ (-1)) = bs (fun j => if V j = 0 then U j else 0) n := by
  apply l_ext
  intro i hi
  rw [l_and, l_xor, l_m1 i hi, bs_b U _ hi, bs_b V _ hi, bs_b _ _ hi]
  by_cases z : 64 * n + i < 96 <;> by_cases h : V (64 * n + i) = 0 <;> simp [z, h]
theorem bs_zero (n : Nat) : (0 : Int64) = bs (fun _ => 0) n := by
  apply l_ext
  intro i hi
  rw [l_0, bs_b _ _ hi, decide_eq_false (fun q => q.2 rfl)]
theorem bs_21 : (2097151 : Int64) = bs (fun j => if j < 21 then 1 else 0) 0 := by
  apply l_ext
  intro i hi
  rw [l_21 i hi, bs_b _ _ hi]
  by_cases h : i < 21
  · rw [decide_eq_true h, decide_eq_true ⟨by omega, by rw [if_pos (by omega)]; decide⟩]
  · rw [decide_eq_false h, decide_eq_false (fun q => q.2 (by rw [if_neg (by omega)]))]
theorem bs_210 : (0 : Int64) = bs (fun j => if j < 21 then 1 else 0) 1 := by
  apply l_ext
  intro i hi
  rw [l_0, bs_b _ _ hi, decide_eq_false (fun q => q.2 (by rw [if_neg (by omega)]))]
/-! how many bits -/
def pcN (v : Nat) : Nat → Nat
  | 0 => 0
  | n + 1 => pcN v n + (if v.testBit n = true then 1 else 0)
theorem pcN_s (v : Nat) : ∀ n, pcN v (n + 1) = v % 2 + pcN (v / 2) n
  | 0 => by
    show 0 + _ = _ + 0
    rw [Nat.testBit_zero]
    rcases Nat.mod_two_eq_zero_or_one v with h | h <;> simp [h]
  | n + 1 => by
    show pcN v (n + 1) + _ = _ + (pcN (v / 2) n + _)
    rw [pcN_s v n, Nat.testBit_succ]
    omega
theorem pcN_dec : ∀ (n v : Nat), ¬ v = 0 → v < 2 ^ n → pcN (v &&& (v - 1)) n + 1 = pcN v n
  | 0, v, h, h2 => by have : v < 1 := h2; omega
  | n + 1, v, h, h2 => by
    have h2' : v < 2 ^ n * 2 := h2
    rw [pcN_s, pcN_s]
    rcases Nat.mod_two_eq_zero_or_one v with hm | hm
    · have e2 : (v &&& (v - 1)) / 2 = (v / 2) &&& (v / 2 - 1) := by
        rw [Nat.and_div_two, show (v - 1) / 2 = v / 2 - 1 by omega]
      have e1 : (v &&& (v - 1)) % 2 = 0 := by
        have := Nat.and_mod_two_eq_one (a := v) (b := v - 1)
        omega
      rw [e1, e2, hm]
      have := pcN_dec n (v / 2) (by omega) (by omega)
      omega
    · have e2 : (v &&& (v - 1)) / 2 = v / 2 := by
        rw [Nat.and_div_two, show (v - 1) / 2 = v / 2 by omega, Nat.and_self]
      have e1 : (v &&& (v - 1)) % 2 = 0 := by
        have := Nat.and_mod_two_eq_one (a := v) (b := v - 1)
        omega
      rw [e1, e2, hm]
      omega
def pcL (x : Int64) : Nat := pcN x.toBitVec.toNat 64
theorem pcN_le (v : Nat) : ∀ n, pcN v n ≤ n
  | 0 => Nat.le_refl 0
  | n + 1 => by
    have := pcN_le v n
    show pcN v n + _ ≤ n + 1
    split <;> omega
theorem pcL_le (x : Int64) : pcL x ≤ 64 := pcN_le _ 64
theorem pcL_0 : pcL 0 = 0 := by decide +kernel
theorem pcL_dec {x : Int64} (h : ¬ x = 0) : pcL (x &&& (x - 1)) + 1 = pcL x := by
  have hz : ¬ x.toBitVec.toNat = 0 := fun z => h (Int64.toBitVec_inj.mp (BitVec.eq_of_toNat_eq (by rw [z]; rfl)))
  have hl := x.toBitVec.isLt
  have e : (x &&& (x - 1)).toBitVec.toNat = x.toBitVec.toNat &&& (x.toBitVec.toNat - 1) := by
    rw [Int64.toBitVec_and, BitVec.toNat_and]
    congr 1
    show (x.toBitVec - 1#64).toNat = _
    rw [BitVec.toNat_sub]
    show (2 ^ 64 - 1 + x.toBitVec.toNat) % 2 ^ 64 = _
    omega
  unfold pcL
  rw [e]
  exact pcN_dec 64 _ hz hl
theorem pcN_bs {U : Nat → Nat} (h : Nat) : ∀ n, n ≤ 64 → 64 * h + n ≤ 96 → pcN (bs U h).toBitVec.toNat n + cn U (64 * h) = cn U (64 * h + n)
  | 0, _, _ => Nat.zero_add _
  | n + 1, hn, hn2 => by
    have ih := pcN_bs (U := U) h n (by omega) (by omega)
    show pcN _ n + (if (bs U h).toBitVec.toNat.testBit n = true then 1 else 0) + _ = cn U (64 * h + n + 1)
    have e : (bs U h).toBitVec.toNat.testBit n = lb (bs U h) n := (BitVec.testBit_toNat _)
    rw [cn_s, e, bs_b U h (by omega)]
    by_cases z : U (64 * h + n) = 0
    · rw [if_pos z, decide_eq_false (fun q => q.2 z), if_neg (by decide)]; omega
    · rw [if_neg z, decide_eq_true ⟨by omega, z⟩, if_pos rfl]; omega
theorem pcN_bs1 {U : Nat → Nat} : ∀ n, 32 ≤ n → n ≤ 64 → pcN (bs U 1).toBitVec.toNat n = pcN (bs U 1).toBitVec.toNat 32 := by
  intro n
  induction n with
  | zero => intro h; omega
  | succ n ih =>
    intro h h2
    by_cases he : n + 1 = 32
    · rw [he]
    · show pcN _ n + (if (bs U 1).toBitVec.toNat.testBit n = true then 1 else 0) = _
      have e : (bs U 1).toBitVec.toNat.testBit n = lb (bs U 1) n := (BitVec.testBit_toNat _)
      rw [e, bs_b U 1 (by omega), decide_eq_false (fun q => by have := q.1; omega), if_neg (by decide), ih (by omega) (by omega)]; rfl
theorem pcL_bs (U : Nat → Nat) : pcL (bs U 0) + pcL (bs U 1) = cn U 96 := by
  have h0 := pcN_bs (U := U) 0 64 (by omega) (by omega)
  have h1 := pcN_bs (U := U) 1 32 (by omega) (by omega)
  have h2 := pcN_bs1 (U := U) 64 (by omega) (by omega)
  rw [Nat.mul_zero, cn_0, Nat.zero_add] at h0
  unfold pcL
  rw [h2]
  rw [show 64 * 1 + 32 = 96 from rfl, show 64 * 1 = 64 from rfl] at h1
  omega
