/-! ===== bits of small numbers ===== -/
theorem bn_get (a : Nat) {i : Nat} (h : i < 32) : (nI a).toBitVec.getLsbD i = a.testBit i := by
  show (BitVec.ofNat 32 a).getLsbD i = a.testBit i
  rw [BitVec.getLsbD_ofNat, decide_eq_true h, Bool.true_and]
theorem bn_ext {x y : Int32} (h : ∀ i, i < 32 → x.toBitVec.getLsbD i = y.toBitVec.getLsbD i) : x = y := Int32.toBitVec_inj.mp (BitVec.eq_of_getLsbD_eq (fun i hi => h i hi))
theorem bn_and (a b : Nat) : nI a &&& nI b = nI (a &&& b) := bn_ext fun i hi => by
  rw [Int32.toBitVec_and, BitVec.getLsbD_and, bn_get a hi, bn_get b hi, bn_get _ hi, Nat.testBit_and]
theorem bn_or (a b : Nat) : nI a ||| nI b = nI (a ||| b) := bn_ext fun i hi => by
  rw [Int32.toBitVec_or, BitVec.getLsbD_or, bn_get a hi, bn_get b hi, bn_get _ hi, Nat.testBit_or]
theorem bn_xor (a b : Nat) : nI a ^^^ nI b = nI (a ^^^ b) := bn_ext fun i hi => by
  rw [Int32.toBitVec_xor, BitVec.getLsbD_xor, bn_get a hi, bn_get b hi, bn_get _ hi, Nat.testBit_xor]
/-- the bits of a that b has not -/
def an (a b : Nat) : Nat := a ^^^ (a &&& b)
theorem an_bit (a b i : Nat) : (an a b).testBit i = (a.testBit i && !b.testBit i) := by
  rw [an, Nat.testBit_xor, Nat.testBit_and]
  cases a.testBit i <;> cases b.testBit i <;> rfl
theorem bn_m1 : ∀ i, i < 32 → (-1 : Int32).toBitVec.getLsbD i = true := by decide +kernel
theorem bn_an (a b : Nat) : nI a &&& (nI b ^^^ -1) = nI (an a b) := bn_ext fun i hi => by
  rw [Int32.toBitVec_and, BitVec.getLsbD_and, Int32.toBitVec_xor, BitVec.getLsbD_xor, bn_get a hi, bn_get b hi, bn_m1 i hi, bn_get _ hi, an_bit]
  cases a.testBit i <;> cases b.testBit i <;> rfl
theorem bn_shl : ∀ l, l < 31 → (1 : Int32) <<< (nI l &&& 31) = nI (2 ^ l) := by decide +kernel
theorem bn_sm : ∀ n, n < 32 → ((nI n &&& 31).toBitVec.smod 32).toNat = n := by decide +kernel
theorem bn_big {a i : Nat} (ha : a < 65536) (hi : 16 ≤ i) : a.testBit i = false := Nat.testBit_lt_two_pow (Nat.lt_of_lt_of_le ha (Nat.pow_le_pow_right (by decide) hi : 2 ^ 16 ≤ 2 ^ i))
theorem bn_shr {a l : Nat} (ha : a < 65536) (hl : l < 16) : nI a >>> (nI l &&& 31) = nI (a >>> l) := bn_ext fun i hi => by
  rw [bn_get _ hi, Nat.testBit_shiftRight, Int32.toBitVec_shiftRight]
  show ((nI a).toBitVec.sshiftRight ((nI l &&& 31).toBitVec.smod 32).toNat).getLsbD i = _
  rw [bn_sm l (by omega), BitVec.getLsbD_sshiftRight, BitVec.msb_eq_getLsbD_last]
  have e31 : (nI a).toBitVec.getLsbD (32 - 1) = false := by rw [bn_get a (by decide)]; exact bn_big ha (by decide)
  rw [e31]
  by_cases c : l + i < 32
  · rw [if_pos c, bn_get a c]; simp [hi]
  · rw [if_neg c, bn_big ha (by omega)]; simp
theorem bn_bit {a l : Nat} (ha : a < 65536) (hl : l < 16) : (nI a >>> (nI l &&& 31)) &&& 1 = if a.testBit l = true then 1 else 0 := by
  rw [bn_shr ha hl, show (1 : Int32) = nI 1 from rfl, bn_and, Nat.and_one_is_mod, Nat.shiftRight_eq_div_pow]
  by_cases c : a.testBit l = true
  · rw [if_pos c]; rw [Nat.testBit_eq_decide_div_mod_eq, decide_eq_true_iff] at c; rw [c]
  · rw [if_neg c]; rw [Nat.testBit_eq_decide_div_mod_eq, decide_eq_true_iff] at c; rw [show a / 2 ^ l % 2 = 0 by omega]; rfl
theorem bn_bit0 {a l : Nat} (ha : a < 65536) (hl : l < 16) : (nI a >>> (nI l &&& 31)) &&& 1 = 0 ↔ ¬ a.testBit l = true := by
  rw [bn_bit ha hl]
  by_cases c : a.testBit l = true
  · rw [if_pos c]; exact ⟨fun q => absurd q (by decide), fun q => absurd c q⟩
  · rw [if_neg c]; exact ⟨fun _ => c, fun _ => rfl⟩
theorem bn_bit1 {a l : Nat} (ha : a < 65536) (hl : l < 16) : (nI a >>> (nI l &&& 31)) &&& 1 = 1 ↔ a.testBit l = true := by
  rw [bn_bit ha hl]
  by_cases c : a.testBit l = true
  · rw [if_pos c]; exact ⟨fun _ => c, fun _ => rfl⟩
  · rw [if_neg c]; exact ⟨fun q => absurd q (by decide), fun q => absurd q c⟩
/-- the number with the bits p below n -/
def bS (p : Nat → Bool) : Nat → Nat
  | 0 => 0
  | n + 1 => bS p n ||| (if p n = true then 2 ^ n else 0)
theorem bS_lt (p : Nat → Bool) : ∀ n, bS p n < 2 ^ n
  | 0 => by show 0 < 2 ^ 0; decide
  | n + 1 => by
    have h := bS_lt p n
    have h2 : (2 : Nat) ^ n < 2 ^ (n + 1) := Nat.pow_lt_pow_right (by decide) (Nat.lt_succ_self n)
    refine Nat.or_lt_two_pow (Nat.lt_trans h h2) ?_
    split
    · exact h2
    · exact Nat.lt_trans (Nat.two_pow_pos n) h2
theorem bS_bit (p : Nat → Bool) (i : Nat) : ∀ n, (bS p n).testBit i = (decide (i < n) && p i)
  | 0 => by simp [bS]
  | n + 1 => by
    rw [bS, Nat.testBit_or, bS_bit p i n]
    by_cases c : i = n
    · subst c
      by_cases d : p i = true
      · simp [d]
      · simp [d]
    · have e : (if p n = true then 2 ^ n else 0).testBit i = false := by
        split
        · rw [Nat.testBit_two_pow]; simp; omega
        · exact Nat.zero_testBit i
      rw [e, Bool.or_false]
      by_cases d : i < n
      · simp [d, Nat.lt_succ_of_lt d]
      · simp [d, show ¬ i < n + 1 by omega]
/-! ===== how many bits ===== -/
theorem cnt_mo {p q : Nat → Bool} : ∀ {n : Nat}, (∀ i, i < n → p i = true → q i = true) → cnt p n ≤ cnt q n
  | 0, _ => Nat.le_refl _
  | n + 1, h => by
    have a := cnt_mo (n := n) (fun i hi => h i (by omega))
    have b := h n (by omega)
    rw [cnt, cnt]
    by_cases c : p n = true
    · rw [if_pos c, if_pos (b c)]; omega
    · rw [if_neg c]; omega
theorem cnt_st {p q : Nat → Bool} : ∀ {n : Nat}, (∀ i, i < n → p i = true → q i = true) → (∃ i, i < n ∧ q i = true ∧ ¬ p i = true) → cnt p n < cnt q n
  | 0, _, h => by obtain ⟨i, h, -⟩ := h; omega
  | n + 1, h, ⟨i, h1, h2, h3⟩ => by
    rw [cnt, cnt]
    by_cases c : i = n
    · subst c
      have a := cnt_mo (n := i) (fun j hj => h j (by omega))
      rw [if_pos h2, if_neg h3]; omega
    · have a := cnt_st (n := n) (fun j hj => h j (by omega)) ⟨i, by omega, h2, h3⟩
      have b := h n (by omega)
      by_cases d : p n = true
      · rw [if_pos d, if_pos (b d)]; omega
      · rw [if_neg d]; omega
def pc (a : Nat) : Nat := cnt (fun i => a.testBit i) 12
theorem pc_le (a : Nat) : pc a ≤ 12 := cnt_le
theorem an_0 {a b : Nat} : an a b = 0 ↔ ∀ i, a.testBit i = true → b.testBit i = true := by
  constructor
  · intro h i hi
    have k : (an a b).testBit i = false := by rw [h]; exact Nat.zero_testBit i
    rw [an_bit, hi] at k
    simpa using k
  · intro h
    refine Nat.eq_of_testBit_eq fun i => ?_
    rw [an_bit, Nat.zero_testBit]
    cases c : a.testBit i
    · rfl
    · rw [h i c]; rfl
theorem an_le {a b : Nat} (h : an a b = 0) : a ≤ b := by
  have e : a = a &&& b := Nat.eq_of_testBit_eq fun i => by
    rw [Nat.testBit_and]
    cases c : a.testBit i
    · rfl
    · rw [an_0.mp h i c]; rfl
  rw [e]
  exact Nat.and_le_right
theorem an_pc {a b : Nat} (h : an a b = 0) (hb : b < 4096) (hn : a ≠ b) : pc a < pc b := by
  refine cnt_st (fun i _ => an_0.mp h i) ?_
  apply Classical.byContradiction
  intro w
  apply hn
  refine Nat.eq_of_testBit_eq fun i => ?_
  by_cases hi : i < 12
  · cases c : a.testBit i
    · cases d : b.testBit i
      · rfl
      · exact absurd ⟨i, hi, d, by rw [c]; decide⟩ w
    · rw [an_0.mp h i c]
  · have k : b.testBit i = false := Nat.testBit_lt_two_pow (Nat.lt_of_lt_of_le hb (Nat.pow_le_pow_right (by decide) (by omega) : 2 ^ 12 ≤ 2 ^ i))
    cases c : a.testBit i
    · rw [k]
    · rw [an_0.mp h i c] at k; exact absurd k (by decide)
theorem an_self (a : Nat) : an a a = 0 := an_0.mpr fun _ h => h
theorem an_lt {a b n : Nat} (h : a < 2 ^ n) : an a b < 2 ^ n := Nat.xor_lt_two_pow h (Nat.lt_of_le_of_lt Nat.and_le_left h)
/-- the JDK's way to count bits -/
def bcU (x y : Int32) : Int32 := (x.toUInt32 >>> (y.toUInt32 &&& Int32.toUInt32 31)).toInt32
def bc1 (x : Int32) : Int32 := x - (bcU x 1 &&& 1431655765)
def bc2 (x : Int32) : Int32 := (x &&& 858993459) + (bcU x (nI 2) &&& 858993459)
def bc3 (x : Int32) : Int32 := (x + bcU x (nI 4)) &&& 252645135
def bc4 (x : Int32) : Int32 := x + bcU x (nI 8)
def bc5 (x : Int32) : Int32 := (x + bcU x (nI 16)) &&& nI 63
set_option maxRecDepth 100000 in
theorem bc_all : ∀ a, a < 1024 → bc5 (bc4 (bc3 (bc2 (bc1 (nI a))))) = nI (pc a) := by decide +kernel
theorem bc_pc {a : Nat} {K : Int32 → Prop} (ha : a < 1024) (h : K (nI (pc a))) : K (bc5 (bc4 (bc3 (bc2 (bc1 (nI a)))))) := by
  rw [bc_all a ha]; exact h
