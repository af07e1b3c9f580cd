/-! ===== the crossings to light ===== -/
def dkp (V : Sg) (k : Nat) : Bool := decide (V 140 k = nI 3 ∧ V 143 k = 0)
def dk (V : Sg) (n : Nat) : Nat := bS (dkp V) n
theorem dk_y {V : Sg} {j : Nat} (hj : j < 31) (h : V 140 j = nI 3 ∧ V 143 j = 0) : nI (dk V j) ||| ((1 : Int32) <<< (nI j &&& 31)) = nI (dk V (j + 1)) := by
  rw [bn_shl j hj, bn_or]
  show _ = nI (bS (dkp V) (j + 1))
  rw [bS, if_pos (show dkp V j = true from decide_eq_true h)]
  rfl
theorem dk_no {V : Sg} {j : Nat} (h : ¬ (V 140 j = nI 3 ∧ V 143 j = 0)) : nI (dk V j) ||| 0 = nI (dk V (j + 1)) := by
  show nI _ ||| nI 0 = nI (bS (dkp V) (j + 1))
  rw [bn_or, bS, if_neg (by rw [show dkp V j = false from decide_eq_false h]; decide)]
  rfl
theorem dk_lt {V : Sg} {n : Nat} (h : n ≤ 10) : dk V n < 1024 := Nat.lt_of_lt_of_le (bS_lt _ n) (Nat.pow_le_pow_right (by decide) h : 2 ^ n ≤ 2 ^ 10)
def wy (f g : Nat) : Nat := 2 ^ (max f g) - 2 ^ (min f g)
def inw (f g k : Nat) : Bool := decide (min f g ≤ k) && decide (k < max f g)
set_option maxRecDepth 100000 in
theorem wy_bit : ∀ f, f < 11 → ∀ g, g < 11 → ∀ k, k < 12 → (wy f g).testBit k = inw f g k := by decide +kernel
theorem wy_sub {a c : Nat} (h : c ≤ a) (_ : a < 2 ^ 31) : nI a - nI c = nI (a - c) := pk_sub h
theorem mx_nI {f g : Nat} (hf : f < 1000) (hg : g < 1000) : (if (nI f).toInt < (nI g).toInt then nI g else nI f) = nI (max f g) := by
  rw [nI_toInt (by omega), nI_toInt (by omega)]
  split
  · rw [Nat.max_eq_right (by omega)]
  · rw [Nat.max_eq_left (by omega)]
theorem mn_nI {f g : Nat} (hf : f < 1000) (hg : g < 1000) : (if (nI g).toInt < (nI f).toInt then nI g else nI f) = nI (min f g) := by
  rw [nI_toInt (by omega), nI_toInt (by omega)]
  split
  · rw [Nat.min_eq_right (by omega)]
  · rw [Nat.min_eq_left (by omega)]
theorem pw_le {f : Nat} (h : f ≤ 10) : 2 ^ f ≤ 1024 := (Nat.pow_le_pow_right (by decide) h : 2 ^ f ≤ 2 ^ 10)
/-- what is known of trip t -/
def TK (σ : Sg) (t : Nat) : Prop := ∃ f g w : Nat, f < 11 ∧ g < 11 ∧ w < 10 ∧ (σ (109 + t) 0 = nI f ∧ σ (109 + t) 1 = nI g ∧ σ (109 + t) 2 = nI w) ∧ σ 165 t = nI f ∧ σ 166 t = nI g ∧ σ 167 t = nI w
def TM (V : Sg) (ns t : Nat) : Prop := ∃ f g w : Nat, f ≤ ns ∧ g ≤ ns ∧ w < 10 ∧ V 165 t = nI f ∧ V 166 t = nI g ∧ V 167 t = nI w
theorem TK_of {σ : Sg} {ns nt : Nat} (h : cT σ 4 σ ns nt) (hn : ns ≤ 10) : ∀ t, t < nt → TK σ t := fun t ht => by
  obtain ⟨⟨h1, h2, h3⟩, ⟨f, hf, ef⟩, ⟨g, hg, eg⟩, ⟨w, hw, ew⟩⟩ := h t ht
  exact ⟨f, g, w, by omega, by omega, hw, ⟨(show σ (4 + 105 + t) 0 = _ from h1).trans ef, (show σ (4 + 105 + t) 1 = _ from h2).trans eg, (show σ (4 + 105 + t) 2 = _ from h3).trans ew⟩, ef, eg, ew⟩
theorem TM_of {ρ σ : Sg} {ns nt : Nat} (h : cT ρ 4 σ ns nt) : ∀ t, t < nt → TM σ ns t := fun t ht => by
  obtain ⟨-, ⟨f, hf, ef⟩, ⟨g, hg, eg⟩, ⟨w, hw, ew⟩⟩ := h t ht
  exact ⟨f, g, w, by omega, by omega, hw, ef, eg, ew⟩
def tkB (V : Sg) (x t : Nat) : Bool := decide (cnt (fun k => x.testBit k && inw (V 165 t).toNatClampNeg (V 166 t).toNatClampNeg k) 12 ≤ (V 167 t).toNatClampNeg)
/-- no trip ahead of n has more dark crossings of x on its way than it waits -/
def brs (V : Sg) (x : Nat) : Nat → Bool
  | 0 => true
  | n + 1 => brs V x n && tkB V x n
theorem brs_no {V : Sg} {x t : Nat} (h : tkB V x t = false) : ∀ n, t < n → brs V x n = false
  | 0, h => absurd h (by omega)
  | n + 1, hn => by
    rw [brs]
    by_cases c : t = n
    · subst c; rw [h, Bool.and_false]
    · rw [brs_no h n (by omega), Bool.false_and]
theorem brs_y {V : Sg} {x n : Nat} (h1 : brs V x n = true) (h2 : tkB V x n = true) : brs V x (n + 1) = true := by rw [brs, h1, h2]; rfl
theorem tkB_w {V : Sg} {x t f g w : Nat} (hf : f < 11) (hg : g < 11) (hw : w < 10) (ef : V 165 t = nI f) (eg : V 166 t = nI g) (ew : V 167 t = nI w) : tkB V x t = decide (cnt (fun k => x.testBit k && inw f g k) 12 ≤ w) := by
  rw [tkB, ef, eg, ew, nI_clamp (by omega), nI_clamp (by omega), nI_clamp (by omega)]
theorem pc_wy {x f g : Nat} (hf : f < 11) (hg : g < 11) : pc (x &&& wy f g) = cnt (fun k => x.testBit k && inw f g k) 12 := cnt_cg fun k hk => by
  rw [Nat.testBit_and, wy_bit f hf g hg k hk]
theorem brs_ag {τ σ : Sg} (h : ∀ a i, 139 ≤ a → a < 192 → τ a i = σ a i) {x : Nat} : ∀ n, brs τ x n = brs σ x n
  | 0 => rfl
  | n + 1 => by rw [brs, brs, brs_ag h n, tkB, tkB, h _ _ (by decide) (by decide), h _ _ (by decide) (by decide), h _ _ (by decide) (by decide)]
theorem and_lt {x y n : Nat} (h : x < n) : x &&& y < n := Nat.lt_of_le_of_lt Nat.and_le_left h
theorem brs_0 {V : Sg} {n : Nat} : ∀ m, m ≤ n → (∀ t, t < n → TM V 10 t) → brs V 0 m = true
  | 0, _, _ => rfl
  | m + 1, hm, h => by
    refine brs_y (brs_0 m (by omega) h) ?_
    obtain ⟨f, g, w, h1, h2, h3, h4, h5, h6⟩ := h m (by omega)
    rw [tkB_w (by omega) (by omega) h3 h4 h5 h6, cnt_cg (p := fun _ => false) (fun k _ => by rw [Nat.zero_testBit, Bool.false_and])]
    exact decide_eq_true (by show cnt (fun _ => false) 12 ≤ w; exact Nat.zero_le _)
/-- the class's best set after the sets below j, of D -/
def lC (V : Sg) (D nt : Nat) : Nat → Nat
  | 0 => D
  | j + 1 => if an j D = 0 ∧ pc j < pc (lC V D nt j) ∧ brs V (an D j) nt = true then j else lC V D nt j
theorem lC_y {V : Sg} {D nt j : Nat} (h : an j D = 0 ∧ pc j < pc (lC V D nt j) ∧ brs V (an D j) nt = true) : lC V D nt (j + 1) = j := by rw [lC, if_pos h]
theorem lC_n {V : Sg} {D nt j : Nat} (h : ¬ (an j D = 0 ∧ pc j < pc (lC V D nt j) ∧ brs V (an D j) nt = true)) : lC V D nt (j + 1) = lC V D nt j := by rw [lC, if_neg h]
theorem lC_le {V : Sg} {D nt : Nat} : ∀ j, j ≤ D → lC V D nt j ≤ D
  | 0, _ => Nat.le_refl _
  | j + 1, h => by
    rw [lC]
    split
    · omega
    · exact lC_le j (by omega)
def lv (o : Option Nat) : Int32 := match o with
  | none => -1
  | some k => nI k
/-- the reference's -/
def lM (V : Sg) (D nt : Nat) : Nat → Option Nat
  | 0 => none
  | j + 1 => if an j D = 0 ∧ (∀ k, lM V D nt j = some k → pc j < pc k) ∧ brs V (an D j) nt = true then some j else lM V D nt j
theorem lM_y {V : Sg} {D nt j : Nat} (h : an j D = 0 ∧ (∀ k, lM V D nt j = some k → pc j < pc k) ∧ brs V (an D j) nt = true) : lM V D nt (j + 1) = some j := by rw [lM, if_pos h]
theorem lM_n {V : Sg} {D nt j : Nat} (h : ¬ (an j D = 0 ∧ (∀ k, lM V D nt j = some k → pc j < pc k) ∧ brs V (an D j) nt = true)) : lM V D nt (j + 1) = lM V D nt j := by rw [lM, if_neg h]
theorem lM_lt {V : Sg} {D nt : Nat} : ∀ j k, lM V D nt j = some k → k < j
  | 0, k, h => by cases h
  | j + 1, k, h => by
    rw [lM] at h
    split at h
    · cases h; omega
    · have := lM_lt j k h; omega
theorem lv_none {o : Option Nat} (ho : ∀ k, o = some k → k < 2000) (h : lv o = -1) : o = none := by
  cases o with
  | none => rfl
  | some k => exact absurd h (nI_nm1 (by have := ho k rfl; omega))
theorem lv_some {o : Option Nat} (h : ¬ lv o = -1) : ∃ k, o = some k := by
  cases o with
  | none => exact absurd rfl h
  | some k => exact ⟨k, rfl⟩
/-- below D both have found the same, or nothing yet -/
theorem lCM {V : Sg} {D nt : Nat} (hD : D < 1024) : ∀ j, j ≤ D → (lM V D nt j = none ∧ lC V D nt j = D) ∨ (lM V D nt j = some (lC V D nt j) ∧ pc (lC V D nt j) < pc D)
  | 0, _ => Or.inl ⟨rfl, rfl⟩
  | j + 1, h => by
    have ih := lCM hD (V := V) (nt := nt) j (by omega)
    by_cases c : an j D = 0
    · by_cases e : brs V (an D j) nt = true
      · have k1 : pc j < pc D := an_pc c (by omega) (by omega)
        rcases ih with ⟨i1, i2⟩ | ⟨i1, i2⟩
        · right
          rw [lM_y ⟨c, fun k hk => (by rw [i1] at hk; cases hk), e⟩, lC_y ⟨c, by rw [i2]; exact k1, e⟩]
          exact ⟨rfl, k1⟩
        · right
          by_cases d : pc j < pc (lC V D nt j)
          · rw [lM_y ⟨c, fun k hk => (by rw [i1] at hk; cases hk; exact d), e⟩, lC_y ⟨c, d, e⟩]
            exact ⟨rfl, k1⟩
          · rw [lM_n (fun w => d (w.2.1 _ i1)), lC_n (fun w => d w.2.1)]
            exact ⟨i1, i2⟩
      · rw [lM_n (fun w => e w.2.2), lC_n (fun w => e w.2.2)]
        exact ih
    · rw [lM_n (fun w => c w.1), lC_n (fun w => c w.1)]
      exact ih
theorem lM_up {V : Sg} {D nt : Nat} : ∀ n, lM V D nt (D + 1 + n) = lM V D nt (D + 1)
  | 0 => rfl
  | n + 1 => by
    rw [← lM_up n, show D + 1 + (n + 1) = (D + 1 + n) + 1 by omega]
    exact lM_n (fun w => by have := an_le w.1; omega)
theorem lights_eq {V : Sg} {D nt N : Nat} (hD : D < 1024) (hN : D < N) (h0 : brs V 0 nt = true) : lM V D nt N = some (lC V D nt D) := by
  obtain ⟨n, rfl⟩ : ∃ n, N = D + 1 + n := ⟨N - (D + 1), by omega⟩
  rw [lM_up]
  rcases lCM hD (V := V) (nt := nt) D (Nat.le_refl _) with ⟨i1, i2⟩ | ⟨i1, i2⟩
  · rw [lM_y ⟨an_self D, fun k hk => (by rw [i1] at hk; cases hk), by rw [an_self]; exact h0⟩, i2]
  · rw [lM_n (fun w => by have := w.2.1 _ i1; omega), i1]
theorem cnt_z {p : Nat → Bool} : ∀ {n : Nat}, (∀ i, i < n → p i = false) → cnt p n = 0
  | 0, _ => rfl
  | n + 1, h => by rw [cnt, cnt_z (fun i hi => h i (by omega)), if_neg (by rw [h n (by omega)]; decide)]
theorem cnt_up {p : Nat → Bool} {m : Nat} : ∀ {n : Nat}, m ≤ n → (∀ i, m ≤ i → i < n → p i = false) → cnt p n = cnt p m
  | 0, h, _ => by rw [show m = 0 by omega]
  | n + 1, h, hp => by
    by_cases c : m = n + 1
    · rw [c]
    · rw [cnt, cnt_up (n := n) (by omega) (fun i h1 h2 => hp i h1 (by omega)), if_neg (by rw [hp n (by omega) (by omega)]; decide), Nat.add_zero]
theorem cnt_y {p : Nat → Bool} {n : Nat} (h : p n = true) : nI (cnt p n) + 1 = nI (cnt p (n + 1)) := by rw [cnt, if_pos h, nI_1]
theorem cnt_n {p : Nat → Bool} {n : Nat} (h : ¬ p n = true) : nI (cnt p n) + 0 = nI (cnt p (n + 1)) := by rw [cnt, if_neg h, Int32.add_zero, Nat.add_zero]
section HJ
variable {G : Gl} {h : Hp} {K : Int32 → Hp → Prop}
theorem ct_J_bitCount {a : Nat} (ha : a < 1024) (hq : K (nI (pc a)) h) : CM G mJ_bitCount (rl 1) [.int (nI a)] h (QI K) := by
  refine CM.ofF (by decide +kernel) (Nat.le_of_ble_eq_true rfl) (cats1 rfl) ?_
  refine V_iload_n (pc := 0) d_J_bitCount_0 rfl ?_
  refine V_iload_n (pc := 1) d_J_bitCount_1 rfl ?_
  refine V_iconst (pc := 2) (1) d_J_bitCount_2 (by decide) ?_
  refine V_iushr (pc := 3) d_J_bitCount_3 ?_
  refine V_ldcw (pc := 4) d_J_bitCount_4 l_J_265 ?_
  refine V_iand (pc := 7) d_J_bitCount_7 ?_
  refine V_isub (pc := 8) d_J_bitCount_8 ?_
  refine V_istore_n (pc := 9) d_J_bitCount_9 (by decide) ?_
  refine V_iload_n (pc := 10) d_J_bitCount_10 rfl ?_
  refine V_ldcw (pc := 11) d_J_bitCount_11 l_J_266 ?_
  refine V_iand (pc := 14) d_J_bitCount_14 ?_
  refine V_iload_n (pc := 15) d_J_bitCount_15 rfl ?_
  refine V_iconst (pc := 16) (nI 2) d_J_bitCount_16 (by decide) ?_
  refine V_iushr (pc := 17) d_J_bitCount_17 ?_
  refine V_ldcw (pc := 18) d_J_bitCount_18 l_J_266 ?_
  refine V_iand (pc := 21) d_J_bitCount_21 ?_
  refine V_iadd (pc := 22) d_J_bitCount_22 ?_
  refine V_istore_n (pc := 23) d_J_bitCount_23 (by decide) ?_
  refine V_iload_n (pc := 24) d_J_bitCount_24 rfl ?_
  refine V_iload_n (pc := 25) d_J_bitCount_25 rfl ?_
  refine V_iconst (pc := 26) (nI 4) d_J_bitCount_26 (by decide) ?_
  refine V_iushr (pc := 27) d_J_bitCount_27 ?_
  refine V_iadd (pc := 28) d_J_bitCount_28 ?_
  refine V_ldcw (pc := 29) d_J_bitCount_29 l_J_267 ?_
  refine V_iand (pc := 32) d_J_bitCount_32 ?_
  refine V_istore_n (pc := 33) d_J_bitCount_33 (by decide) ?_
  refine V_iload_n (pc := 34) d_J_bitCount_34 rfl ?_
  refine V_iload_n (pc := 35) d_J_bitCount_35 rfl ?_
  refine V_bipush (pc := 36) (nI 8) d_J_bitCount_36 (by decide) ?_
  refine V_iushr (pc := 38) d_J_bitCount_38 ?_
  refine V_iadd (pc := 39) d_J_bitCount_39 ?_
  refine V_istore_n (pc := 40) d_J_bitCount_40 (by decide) ?_
  refine V_iload_n (pc := 41) d_J_bitCount_41 rfl ?_
  refine V_iload_n (pc := 42) d_J_bitCount_42 rfl ?_
  refine V_bipush (pc := 43) (nI 16) d_J_bitCount_43 (by decide) ?_
  refine V_iushr (pc := 45) d_J_bitCount_45 ?_
  refine V_iadd (pc := 46) d_J_bitCount_46 ?_
  refine V_istore_n (pc := 47) d_J_bitCount_47 (by decide) ?_
  refine V_iload_n (pc := 48) d_J_bitCount_48 rfl ?_
  refine V_bipush (pc := 49) (nI 63) d_J_bitCount_49 (by decide) ?_
  refine V_iand (pc := 51) d_J_bitCount_51 ?_
  exact V_retI (pc := 52) d_J_bitCount_52 rfl ⟨Nat.le_refl _, Nat.le_refl _⟩ (bc_pc (K := fun r => K r h) ha hq)
end HJ
section HC
variable {G : Gl} {R : Room} {F : Fn} {K : Int32 → Hp → Prop} {KV : Hp → Prop} {σ : Nat → Nat → Int32} {b : Bool}
theorem lp_many {a : Nat} (ha : a < 65536) (hE : V G mX12_many (rl 1) F 0 0 24 [some (.int (nI a)), some (.int (nI (cnt (fun i => a.testBit i) 12))), some (.int (nI 12))] [] (σ, sh b)) : ∀ n, n ≤ 12 → ∀ j, j + n = 12 → V G mX12_many (rl 1) F 0 0 4 [some (.int (nI a)), some (.int (nI (cnt (fun i => a.testBit i) j))), some (.int (nI j))] [] (σ, sh b) := by
  intro n
  induction n with
  | zero =>
    intro hx j hj
    obtain rfl : j = 12 := by omega
    refine V_iload_n (pc := 4) d_X12_many_4 rfl ?_
    refine V_bipush (pc := 5) (nI 12) d_X12_many_5 (by decide) ?_
    refine B_icmp_ge (pc := 7) 24 d_X12_many_7 (by decide) (fun c7 => ?_) (fun c7 => ?_)
    · simp (disch := omega) only [show (nI 12).toInt = 12 from by decide, show (nI 12).toInt = 12 from by decide, nI_toInt, ti0, ti1, tim1, tim20, tim1000] at c7
      exact hE
    · simp (disch := omega) only [show (nI 12).toInt = 12 from by decide, show (nI 12).toInt = 12 from by decide, nI_toInt, ti0, ti1, tim1, tim20, tim1000] at c7
      all_goals omega
  | succ n ih =>
    intro hx j hj
    refine V_iload_n (pc := 4) d_X12_many_4 rfl ?_
    refine V_bipush (pc := 5) (nI 12) d_X12_many_5 (by decide) ?_
    refine B_icmp_ge (pc := 7) 24 d_X12_many_7 (by decide) (fun c7 => ?_) (fun c7 => ?_)
    · simp (disch := omega) only [show (nI 12).toInt = 12 from by decide, nI_toInt, ti0, ti1, tim1, tim20, tim1000] at c7
      all_goals omega
    · simp (disch := omega) only [show (nI 12).toInt = 12 from by decide, nI_toInt, ti0, ti1, tim1, tim20, tim1000] at c7
      refine V_iload_n (pc := 10) d_X12_many_10 rfl ?_
      refine V_iload_n (pc := 11) d_X12_many_11 rfl ?_
      refine V_iload_n (pc := 12) d_X12_many_12 rfl ?_
      refine V_ishr (pc := 13) d_X12_many_13 ?_
      refine V_iconst (pc := 14) (1) d_X12_many_14 (by decide) ?_
      refine V_iand (pc := 15) d_X12_many_15 ?_
      refine V_iadd (pc := 16) d_X12_many_16 ?_
      refine V_istore_n (pc := 17) d_X12_many_17 (by decide) ?_
      refine V_iinc (pc := 18) d_X12_many_18 rfl (by decide) ?_
      refine V_goto (pc := 21) 4 d_X12_many_21 (by decide) ?_
      have e : nI (cnt (fun i => a.testBit i) j) + ((nI a >>> (nI j &&& 31)) &&& 1) = nI (cnt (fun i => a.testBit i) (j + 1)) := by
        rw [bn_bit ha (by omega)]
        by_cases c : a.testBit j = true
        · rw [if_pos c]; exact cnt_y (p := fun i => a.testBit i) c
        · rw [if_neg c]; exact cnt_n (p := fun i => a.testBit i) c
      rw [p1_s, e]
      exact ih (by omega) (j + 1) (by omega)
theorem ct_X12_many {a : Nat} (ha : a < 65536) (hq : K (nI (pc a)) (σ, sh b)) : CM G mX12_many (rl 1) [.int (nI a)] (σ, sh b) (QI K) := by
  refine CM.of (by decide) (Nat.le_of_ble_eq_true rfl) (cats1 rfl) ?_
  refine V_iconst (pc := 0) (0) d_X12_many_0 (by decide) ?_
  refine V_istore_n (pc := 1) d_X12_many_1 (by decide) ?_
  refine V_iconst (pc := 2) (0) d_X12_many_2 (by decide) ?_
  refine V_istore_n (pc := 3) d_X12_many_3 (by decide) ?_
  refine lp_many (F := FM G (rl 1) (QI K)) ha ?_ 12 (Nat.le_refl _) 0 (by omega)
  refine V_iload_n (pc := 24) d_X12_many_24 rfl ?_
  exact V_retI (pc := 25) d_X12_many_25 rfl ⟨Nat.le_refl _, Nat.le_refl _⟩ hq
theorem lp_dc {ns : Nat} (hS : cS σ 4 σ ns) (rns : σ 4 1 = nI ns) (hn : ns ≤ 10) (hE : ∀ z : Option Value, V G mX4_darkCrossings (rl 1) F 0 0 63 [some (.ref 4), some (.int (nI (dk σ ns))), some (.int (nI ns)), z] [] (σ, sh b)) : ∀ n, n ≤ ns → ∀ j, j + n = ns → ∀ z : Option Value, V G mX4_darkCrossings (rl 1) F 0 0 4 [some (.ref 4), some (.int (nI (dk σ j))), some (.int (nI j)), z] [] (σ, sh b) := by
  intro n
  induction n with
  | zero =>
    intro hx j hj z
    obtain rfl : j = ns := by omega
    refine V_iload_n (pc := 4) d_X4_darkCrossings_4 rfl ?_
    refine V_aload_n (pc := 5) d_X4_darkCrossings_5 rfl ?_
    refine P_getI (pc := 6) d_X4_darkCrossings_6 f_X4_15 (tt_4 b) ?_
    rw [rns]
    refine B_icmp_ge (pc := 9) 63 d_X4_darkCrossings_9 (by decide) (fun c9 => ?_) (fun c9 => ?_)
    · simp (disch := omega) only [nI_toInt, ti0, ti1, tim1, tim20, tim1000] at c9
      exact hE _
    · simp (disch := omega) only [nI_toInt, ti0, ti1, tim1, tim20, tim1000] at c9
      all_goals omega
  | succ n ih =>
    intro hx j hj z
    refine V_iload_n (pc := 4) d_X4_darkCrossings_4 rfl ?_
    refine V_aload_n (pc := 5) d_X4_darkCrossings_5 rfl ?_
    refine P_getI (pc := 6) d_X4_darkCrossings_6 f_X4_15 (tt_4 b) ?_
    rw [rns]
    refine B_icmp_ge (pc := 9) 63 d_X4_darkCrossings_9 (by decide) (fun c9 => ?_) (fun c9 => ?_)
    · simp (disch := omega) only [nI_toInt, ti0, ti1, tim1, tim20, tim1000] at c9
      all_goals omega
    · simp (disch := omega) only [nI_toInt, ti0, ti1, tim1, tim20, tim1000] at c9
      refine V_aload_n (pc := 12) d_X4_darkCrossings_12 rfl ?_
      refine P_getR (pc := 13) d_X4_darkCrossings_13 f_X4_46 (tt_4 b) (rr_4_10 b) ?_
      refine V_iload_n (pc := 16) d_X4_darkCrossings_16 rfl ?_
      refine P_aald (pc := 17) (c := 7) (j) d_X4_darkCrossings_17 (tt_7 b) (by decide) rfl (ln_of (ll_7 b) ⟨by omega, by decide⟩) (rS b (by omega)) ?_
      refine P_getI (pc := 18) d_X4_darkCrossings_18 f_X4_129 (tS b (by omega)) ?_
      rw [(cS_f hS (by omega : j < ns)).2.1]
      refine V_iconst (pc := 21) (nI 3) d_X4_darkCrossings_21 (by decide) ?_
      refine V_icmp_ne (pc := 22) 41 d_X4_darkCrossings_22 (by decide) (fun c22 => ?_) (fun c22 => ?_)
      · refine V_iconst (pc := 41) (0) d_X4_darkCrossings_41 (by decide) ?_
        refine V_istore_n (pc := 42) d_X4_darkCrossings_42 (by decide) ?_
        refine V_iload_n (pc := 43) d_X4_darkCrossings_43 rfl ?_
        refine V_iload_n (pc := 44) d_X4_darkCrossings_44 rfl ?_
        refine V_if_eq (pc := 45) 54 d_X4_darkCrossings_45 (by decide) (fun c45 => ?_) (fun c45 => ?_)
        · refine V_iconst (pc := 54) (0) d_X4_darkCrossings_54 (by decide) ?_
          refine V_ior (pc := 55) d_X4_darkCrossings_55 ?_
          refine V_istore_n (pc := 56) d_X4_darkCrossings_56 (by decide) ?_
          refine V_iinc (pc := 57) d_X4_darkCrossings_57 rfl (by decide) ?_
          refine V_goto (pc := 60) 4 d_X4_darkCrossings_60 (by decide) ?_
          rw [p1_s]
          first | rw [dk_y (by omega) ⟨c22, Classical.not_not.mp c34⟩] | rw [dk_y (by omega) ⟨c22, c34⟩] | rw [dk_no (fun w => c34 w.2)] | rw [dk_no (fun w => c22 w.1)]
          exact ih (by omega) (j + 1) (by omega) _
        · exact absurd (by decide) c45
      · refine V_aload_n (pc := 25) d_X4_darkCrossings_25 rfl ?_
        refine P_getR (pc := 26) d_X4_darkCrossings_26 f_X4_46 (tt_4 b) (rr_4_10 b) ?_
        refine V_iload_n (pc := 29) d_X4_darkCrossings_29 rfl ?_
        refine P_aald (pc := 30) (c := 7) (j) d_X4_darkCrossings_30 (tt_7 b) (by decide) rfl (ln_of (ll_7 b) ⟨by omega, by decide⟩) (rS b (by omega)) ?_
        refine P_getI (pc := 31) d_X4_darkCrossings_31 f_X4_146 (tS b (by omega)) ?_
        rw [(cS_f hS (by omega : j < ns)).2.2.2.2]
        refine V_if_ne (pc := 34) 41 d_X4_darkCrossings_34 (by decide) (fun c34 => ?_) (fun c34 => ?_)
        · refine V_iconst (pc := 41) (0) d_X4_darkCrossings_41 (by decide) ?_
          refine V_istore_n (pc := 42) d_X4_darkCrossings_42 (by decide) ?_
          refine V_iload_n (pc := 43) d_X4_darkCrossings_43 rfl ?_
          refine V_iload_n (pc := 44) d_X4_darkCrossings_44 rfl ?_
          refine V_if_eq (pc := 45) 54 d_X4_darkCrossings_45 (by decide) (fun c45 => ?_) (fun c45 => ?_)
          · refine V_iconst (pc := 54) (0) d_X4_darkCrossings_54 (by decide) ?_
            refine V_ior (pc := 55) d_X4_darkCrossings_55 ?_
            refine V_istore_n (pc := 56) d_X4_darkCrossings_56 (by decide) ?_
            refine V_iinc (pc := 57) d_X4_darkCrossings_57 rfl (by decide) ?_
            refine V_goto (pc := 60) 4 d_X4_darkCrossings_60 (by decide) ?_
            rw [p1_s]
            first | rw [dk_y (by omega) ⟨c22, Classical.not_not.mp c34⟩] | rw [dk_y (by omega) ⟨c22, c34⟩] | rw [dk_no (fun w => c34 w.2)] | rw [dk_no (fun w => c22 w.1)]
            exact ih (by omega) (j + 1) (by omega) _
          · exact absurd (by decide) c45
        · refine V_iconst (pc := 37) (1) d_X4_darkCrossings_37 (by decide) ?_
          refine V_goto (pc := 38) 42 d_X4_darkCrossings_38 (by decide) ?_
          refine V_istore_n (pc := 42) d_X4_darkCrossings_42 (by decide) ?_
          refine V_iload_n (pc := 43) d_X4_darkCrossings_43 rfl ?_
          refine V_iload_n (pc := 44) d_X4_darkCrossings_44 rfl ?_
          refine V_if_eq (pc := 45) 54 d_X4_darkCrossings_45 (by decide) (fun c45 => ?_) (fun c45 => ?_)
          · exact absurd c45 (by decide)
          · refine V_iconst (pc := 48) (1) d_X4_darkCrossings_48 (by decide) ?_
            refine V_iload_n (pc := 49) d_X4_darkCrossings_49 rfl ?_
            refine V_ishl (pc := 50) d_X4_darkCrossings_50 ?_
            refine V_goto (pc := 51) 55 d_X4_darkCrossings_51 (by decide) ?_
            refine V_ior (pc := 55) d_X4_darkCrossings_55 ?_
            refine V_istore_n (pc := 56) d_X4_darkCrossings_56 (by decide) ?_
            refine V_iinc (pc := 57) d_X4_darkCrossings_57 rfl (by decide) ?_
            refine V_goto (pc := 60) 4 d_X4_darkCrossings_60 (by decide) ?_
            rw [p1_s]
            first | rw [dk_y (by omega) ⟨c22, Classical.not_not.mp c34⟩] | rw [dk_y (by omega) ⟨c22, c34⟩] | rw [dk_no (fun w => c34 w.2)] | rw [dk_no (fun w => c22 w.1)]
            exact ih (by omega) (j + 1) (by omega) _
theorem ct_X4_darkCrossings {ns : Nat} (hS : cS σ 4 σ ns) (rns : σ 4 1 = nI ns) (hn : ns ≤ 10) (hq : K (nI (dk σ ns)) (σ, sh b)) : CM G mX4_darkCrossings (rl 1) [.ref 4] (σ, sh b) (QI K) := by
  refine CM.of (by decide) (Nat.le_of_ble_eq_true rfl) (cats1 rfl) ?_
  refine V_iconst (pc := 0) (0) d_X4_darkCrossings_0 (by decide) ?_
  refine V_istore_n (pc := 1) d_X4_darkCrossings_1 (by decide) ?_
  refine V_iconst (pc := 2) (0) d_X4_darkCrossings_2 (by decide) ?_
  refine V_istore_n (pc := 3) d_X4_darkCrossings_3 (by decide) ?_
  refine lp_dc (F := FM G (rl 1) (QI K)) hS rns hn (fun z => ?_) ns (Nat.le_refl _) 0 (by omega) _
  refine V_iload_n (pc := 63) d_X4_darkCrossings_63 rfl ?_
  exact V_retI (pc := 64) d_X4_darkCrossings_64 rfl ⟨Nat.le_refl _, Nat.le_refl _⟩ hq
theorem lp_dm {ns : Nat} (vns : σ 139 2 = nI ns) (hn : ns ≤ 10) (hE : V G mX12_lights (rl 2) F 0 0 47 [some (.ref 139), some (.int (nI (dk σ ns))), some (.int (nI ns)), none] [] (σ, sh b)) : ∀ n, n ≤ ns → ∀ j, j + n = ns → V G mX12_lights (rl 2) F 0 0 4 [some (.ref 139), some (.int (nI (dk σ j))), some (.int (nI j)), none] [] (σ, sh b) := by
  intro n
  induction n with
  | zero =>
    intro hx j hj
    obtain rfl : j = ns := by omega
    refine V_iload_n (pc := 4) d_X12_lights_4 rfl ?_
    refine V_aload_n (pc := 5) d_X12_lights_5 rfl ?_
    refine P_getI (pc := 6) d_X12_lights_6 f_X12_171 (tt_139 b) ?_
    rw [vns]
    refine B_icmp_ge (pc := 9) 47 d_X12_lights_9 (by decide) (fun c9 => ?_) (fun c9 => ?_)
    · simp (disch := omega) only [nI_toInt, ti0, ti1, tim1, tim20, tim1000] at c9
      exact hE
    · simp (disch := omega) only [nI_toInt, ti0, ti1, tim1, tim20, tim1000] at c9
      all_goals omega
  | succ n ih =>
    intro hx j hj
    refine V_iload_n (pc := 4) d_X12_lights_4 rfl ?_
    refine V_aload_n (pc := 5) d_X12_lights_5 rfl ?_
    refine P_getI (pc := 6) d_X12_lights_6 f_X12_171 (tt_139 b) ?_
    rw [vns]
    refine B_icmp_ge (pc := 9) 47 d_X12_lights_9 (by decide) (fun c9 => ?_) (fun c9 => ?_)
    · simp (disch := omega) only [nI_toInt, ti0, ti1, tim1, tim20, tim1000] at c9
      all_goals omega
    · simp (disch := omega) only [nI_toInt, ti0, ti1, tim1, tim20, tim1000] at c9
      refine V_iload_n (pc := 12) d_X12_lights_12 rfl ?_
      refine V_aload_n (pc := 13) d_X12_lights_13 rfl ?_
      refine P_getR (pc := 14) d_X12_lights_14 f_X12_7 (tt_139 b) (rr_139_3 b) ?_
      refine V_iload_n (pc := 17) d_X12_lights_17 rfl ?_
      refine P_iald (pc := 18) (j) d_X12_lights_18 (tt_140 b) rfl (ln_of (ll_140 b) ⟨by omega, by decide⟩) ?_
      refine V_iconst (pc := 19) (nI 3) d_X12_lights_19 (by decide) ?_
      refine V_icmp_ne (pc := 20) 38 d_X12_lights_20 (by decide) (fun c20 => ?_) (fun c20 => ?_)
      · refine V_iconst (pc := 38) (0) d_X12_lights_38 (by decide) ?_
        refine V_ior (pc := 39) d_X12_lights_39 ?_
        refine V_istore_n (pc := 40) d_X12_lights_40 (by decide) ?_
        refine V_iinc (pc := 41) d_X12_lights_41 rfl (by decide) ?_
        refine V_goto (pc := 44) 4 d_X12_lights_44 (by decide) ?_
        rw [p1_s]
        first | rw [dk_y (by omega) ⟨c20, Classical.not_not.mp c29⟩] | rw [dk_y (by omega) ⟨c20, c29⟩] | rw [dk_no (fun w => c29 w.2)] | rw [dk_no (fun w => c20 w.1)]
        exact ih (by omega) (j + 1) (by omega)
      · refine V_aload_n (pc := 23) d_X12_lights_23 rfl ?_
        refine P_getR (pc := 24) d_X12_lights_24 f_X12_19 (tt_139 b) (rr_139_6 b) ?_
        refine V_iload_n (pc := 27) d_X12_lights_27 rfl ?_
        refine P_zald (pc := 28) (j) d_X12_lights_28 (tt_143 b) rfl (ln_of (ll_143 b) ⟨by omega, by decide⟩) ?_
        refine V_if_ne (pc := 29) 38 d_X12_lights_29 (by decide) (fun c29 => ?_) (fun c29 => ?_)
        · refine V_iconst (pc := 38) (0) d_X12_lights_38 (by decide) ?_
          refine V_ior (pc := 39) d_X12_lights_39 ?_
          refine V_istore_n (pc := 40) d_X12_lights_40 (by decide) ?_
          refine V_iinc (pc := 41) d_X12_lights_41 rfl (by decide) ?_
          refine V_goto (pc := 44) 4 d_X12_lights_44 (by decide) ?_
          rw [p1_s]
          first | rw [dk_y (by omega) ⟨c20, Classical.not_not.mp c29⟩] | rw [dk_y (by omega) ⟨c20, c29⟩] | rw [dk_no (fun w => c29 w.2)] | rw [dk_no (fun w => c20 w.1)]
          exact ih (by omega) (j + 1) (by omega)
        · refine V_iconst (pc := 32) (1) d_X12_lights_32 (by decide) ?_
          refine V_iload_n (pc := 33) d_X12_lights_33 rfl ?_
          refine V_ishl (pc := 34) d_X12_lights_34 ?_
          refine V_goto (pc := 35) 39 d_X12_lights_35 (by decide) ?_
          refine V_ior (pc := 39) d_X12_lights_39 ?_
          refine V_istore_n (pc := 40) d_X12_lights_40 (by decide) ?_
          refine V_iinc (pc := 41) d_X12_lights_41 rfl (by decide) ?_
          refine V_goto (pc := 44) 4 d_X12_lights_44 (by decide) ?_
          rw [p1_s]
          first | rw [dk_y (by omega) ⟨c20, Classical.not_not.mp c29⟩] | rw [dk_y (by omega) ⟨c20, c29⟩] | rw [dk_no (fun w => c29 w.2)] | rw [dk_no (fun w => c20 w.1)]
          exact ih (by omega) (j + 1) (by omega)
theorem ct_X8_wayBits {f g a : Nat} {s : (Nat → Nat → Option Nat) × (Nat → Nat) × (Nat → Nat) × Nat} (hT : s.2.1 a = 9) (hf : f < 11) (hg : g < 11) (e0 : σ a 0 = nI f) (e1 : σ a 1 = nI g) (hq : K (nI (wy f g)) (σ, s)) : CM G mX8_wayBits (rl 2) [.ref a] (σ, s) (QI K) := by
  refine CM.of (by decide) (Nat.le_of_ble_eq_true rfl) (cats1 rfl) ?_
  refine V_iconst (pc := 0) (1) d_X8_wayBits_0 (by decide) ?_
  refine V_aload_n (pc := 1) d_X8_wayBits_1 rfl ?_
  refine P_getI (pc := 2) d_X8_wayBits_2 f_X8_7 hT ?_
  rw [e0]
  refine V_aload_n (pc := 5) d_X8_wayBits_5 rfl ?_
  refine P_getI (pc := 6) d_X8_wayBits_6 f_X8_13 hT ?_
  rw [e1]
  refine V_csI (pc := 9) (n := 1) [_, _] d_X8_wayBits_9 c_X8_23 k_J_max rfl (Nat.le_of_ble_eq_true rfl) ⟨Nat.le_of_ble_eq_true rfl, Nat.le_of_ble_eq_true rfl⟩ ⟨Nat.le_refl _, Nat.le_refl _⟩ (ct_J_max ?_)
  rw [mx_nI (by omega) (by omega)]
  refine V_ishl (pc := 12) d_X8_wayBits_12 ?_
  rw [bn_shl _ (by omega)]
  refine V_iconst (pc := 13) (1) d_X8_wayBits_13 (by decide) ?_
  refine V_aload_n (pc := 14) d_X8_wayBits_14 rfl ?_
  refine P_getI (pc := 15) d_X8_wayBits_15 f_X8_7 hT ?_
  rw [e0]
  refine V_aload_n (pc := 18) d_X8_wayBits_18 rfl ?_
  refine P_getI (pc := 19) d_X8_wayBits_19 f_X8_13 hT ?_
  rw [e1]
  refine V_csI (pc := 22) (n := 1) [_, _] d_X8_wayBits_22 c_X8_29 k_J_min rfl (Nat.le_of_ble_eq_true rfl) ⟨Nat.le_of_ble_eq_true rfl, Nat.le_of_ble_eq_true rfl⟩ ⟨Nat.le_refl _, Nat.le_refl _⟩ (ct_J_min ?_)
  rw [mn_nI (by omega) (by omega)]
  refine V_ishl (pc := 25) d_X8_wayBits_25 ?_
  rw [bn_shl _ (by omega)]
  refine V_isub (pc := 26) d_X8_wayBits_26 ?_
  rw [wy_sub (Nat.pow_le_pow_right (by decide) (by omega)) (Nat.lt_of_le_of_lt (pw_le (by omega)) (by decide))]
  exact V_retI (pc := 27) d_X8_wayBits_27 rfl ⟨Nat.le_refl _, Nat.le_refl _⟩ hq
theorem lp_tb {nt x : Nat} (rnt : σ 4 4 = nI nt) (hnt : nt ≤ 6) (hT : ∀ t, t < nt → TK σ t) (hx : x < 1024) (hE : K (if brs σ x nt = true then 1 else 0) (σ, sh b)) : ∀ n, n ≤ nt → ∀ j, j + n = nt → brs σ x j = true → V G mX4_tripsBear (rl 3) (FM G (rl 3) (QI K)) 0 0 2 [some (.ref 4), some (.int (nI x)), some (.int (nI j))] [] (σ, sh b) := by
  intro n
  induction n with
  | zero =>
    intro _ j hj hb
    obtain rfl : j = nt := by omega
    refine V_iload_n (pc := 2) d_X4_tripsBear_2 rfl ?_
    refine V_aload_n (pc := 3) d_X4_tripsBear_3 rfl ?_
    refine P_getI (pc := 4) d_X4_tripsBear_4 f_X4_24 (tt_4 b) ?_
    rw [rnt]
    refine B_icmp_ge (pc := 7) 44 d_X4_tripsBear_7 (by decide) (fun c7 => ?_) (fun c7 => ?_)
    · simp (disch := omega) only [nI_toInt, ti0, ti1, tim1, tim20, tim1000] at c7
      refine V_iconst (pc := 44) (1) d_X4_tripsBear_44 (by decide) ?_
      exact V_retZ (pc := 45) d_X4_tripsBear_45 rfl (by first | exact Or.inl rfl | exact Or.inr rfl | exact z01) ⟨Nat.le_refl _, Nat.le_refl _⟩ (by rw [if_pos hb] at hE; exact hE)
    · simp (disch := omega) only [nI_toInt, ti0, ti1, tim1, tim20, tim1000] at c7
      all_goals omega
  | succ n ih =>
    intro _ j hj hb
    refine V_iload_n (pc := 2) d_X4_tripsBear_2 rfl ?_
    refine V_aload_n (pc := 3) d_X4_tripsBear_3 rfl ?_
    refine P_getI (pc := 4) d_X4_tripsBear_4 f_X4_24 (tt_4 b) ?_
    rw [rnt]
    refine B_icmp_ge (pc := 7) 44 d_X4_tripsBear_7 (by decide) (fun c7 => ?_) (fun c7 => ?_)
    · simp (disch := omega) only [nI_toInt, ti0, ti1, tim1, tim20, tim1000] at c7
      all_goals omega
    · simp (disch := omega) only [nI_toInt, ti0, ti1, tim1, tim20, tim1000] at c7
      obtain ⟨f, g, w, hf, hg, hw, ⟨e0, e1, e2⟩, ef, eg, ew⟩ := hT j (by omega)
      refine V_iload_n (pc := 10) d_X4_tripsBear_10 rfl ?_
      refine V_aload_n (pc := 11) d_X4_tripsBear_11 rfl ?_
      refine P_getR (pc := 12) d_X4_tripsBear_12 f_X4_70 (tt_4 b) (rr_4_14 b) ?_
      refine V_iload_n (pc := 15) d_X4_tripsBear_15 rfl ?_
      refine P_aald (pc := 16) (c := 8) (j) d_X4_tripsBear_16 (tt_11 b) (by decide) rfl (ln_of (ll_11 b) ⟨by omega, by decide⟩) (rTR b (by omega)) ?_
      refine V_cvI (pc := 17) (n := 2) (c := 8) [] d_X4_tripsBear_17 c_X4_225 k_X8_wayBits ⟨rfl, rfl⟩ (tTR b (by omega)) rfl (Nat.le_of_ble_eq_true rfl) ⟨Nat.le_of_ble_eq_true rfl, Nat.le_of_ble_eq_true rfl⟩ ⟨Nat.le_refl _, Nat.le_refl _⟩ (ct_X8_wayBits (tTR b (by omega)) hf hg e0 e1 ?_)
      refine V_iand (pc := 20) d_X4_tripsBear_20 ?_
      rw [bn_and]
      refine V_csI (pc := 21) (n := 1) [_] d_X4_tripsBear_21 c_X4_228 k_J_bitCount rfl (Nat.le_of_ble_eq_true rfl) ⟨Nat.le_of_ble_eq_true rfl, Nat.le_of_ble_eq_true rfl⟩ ⟨Nat.le_refl _, Nat.le_refl _⟩ (ct_J_bitCount (and_lt hx) ?_)
      refine V_aload_n (pc := 24) d_X4_tripsBear_24 rfl ?_
      refine P_getR (pc := 25) d_X4_tripsBear_25 f_X4_70 (tt_4 b) (rr_4_14 b) ?_
      refine V_iload_n (pc := 28) d_X4_tripsBear_28 rfl ?_
      refine P_aald (pc := 29) (c := 8) (j) d_X4_tripsBear_29 (tt_11 b) (by decide) rfl (ln_of (ll_11 b) ⟨by omega, by decide⟩) (rTR b (by omega)) ?_
      refine P_getI (pc := 30) d_X4_tripsBear_30 f_X4_233 (tTR b (by omega)) ?_
      rw [e2]
      refine B_icmp_le (pc := 33) 38 d_X4_tripsBear_33 (by decide) (fun c33 => ?_) (fun c33 => ?_)
      · rw [nI_toInt (by have := pc_le (x &&& wy f g); omega), nI_toInt (by omega), pc_wy hf hg] at c33
        have hk : tkB σ x j = true := by rw [tkB_w hf hg hw ef eg ew]; exact decide_eq_true (by omega)
        refine V_iinc (pc := 38) d_X4_tripsBear_38 rfl (by decide) ?_
        refine V_goto (pc := 41) 2 d_X4_tripsBear_41 (by decide) ?_
        rw [p1_s]
        exact ih (by omega) (j + 1) (by omega) (brs_y hb hk)
      · rw [nI_toInt (by have := pc_le (x &&& wy f g); omega), nI_toInt (by omega), pc_wy hf hg] at c33
        have hk : tkB σ x j = false := by rw [tkB_w hf hg hw ef eg ew]; exact decide_eq_false (by omega)
        refine V_iconst (pc := 36) (0) d_X4_tripsBear_36 (by decide) ?_
        exact V_retZ (pc := 37) d_X4_tripsBear_37 rfl (by first | exact Or.inl rfl | exact Or.inr rfl | exact z01) ⟨Nat.le_refl _, Nat.le_refl _⟩ (by rw [if_neg (by rw [brs_no hk nt (by omega)]; decide)] at hE; exact hE)
theorem ct_X4_tripsBear {nt x : Nat} (rnt : σ 4 4 = nI nt) (hnt : nt ≤ 6) (hT : ∀ t, t < nt → TK σ t) (hx : x < 1024) (hE : K (if brs σ x nt = true then 1 else 0) (σ, sh b)) : CM G mX4_tripsBear (rl 3) [.ref 4, .int (nI x)] (σ, sh b) (QI K) := by
  refine CM.of (by decide) (Nat.le_of_ble_eq_true rfl) (cats1 rfl) ?_
  refine V_iconst (pc := 0) (0) d_X4_tripsBear_0 (by decide) ?_
  refine V_istore_n (pc := 1) d_X4_tripsBear_1 (by decide) ?_
  exact lp_tb rnt hnt hT hx hE nt (Nat.le_refl _) 0 (by omega) rfl
theorem lp_lC {nt D : Nat} (hD : D < 1024) (rnt : σ 4 4 = nI nt) (hnt : nt ≤ 6) (hT : ∀ t, t < nt → TK σ t) (hE : ∀ z : Option Value, V G mX11_lights (rl 4) F 0 0 71 [some (.ref 3), some (.int (nI D)), some (.int (nI (lC σ D nt D))), some (.int (nI D)), z] [] (σ, sh b)) : ∀ n, n ≤ D → ∀ j, j + n = D → ∀ z : Option Value, V G mX11_lights (rl 4) F 0 0 12 [some (.ref 3), some (.int (nI D)), some (.int (nI (lC σ D nt j))), some (.int (nI j)), z] [] (σ, sh b) := by
  intro n
  induction n with
  | zero =>
    intro _ j hj z
    obtain rfl : j = D := by omega
    refine V_iload_n (pc := 12) d_X11_lights_12 rfl ?_
    refine V_iload_n (pc := 13) d_X11_lights_13 rfl ?_
    refine B_icmp_ge (pc := 14) 71 d_X11_lights_14 (by decide) (fun c14 => ?_) (fun c14 => ?_)
    · simp (disch := omega) only [nI_toInt, ti0, ti1, tim1, tim20, tim1000] at c14
      exact hE _
    · simp (disch := omega) only [nI_toInt, ti0, ti1, tim1, tim20, tim1000] at c14
      all_goals omega
  | succ n ih =>
    intro _ j hj z
    have stp : ∀ v, lC σ D nt (j + 1) = v → ∀ z : Option Value, V G mX11_lights (rl 4) F 0 0 12 [some (.ref 3), some (.int (nI D)), some (.int (nI v)), some (.int (nI (j + 1))), z] [] (σ, sh b) := fun v e z => by
      have k := ih (by omega) (j + 1) (by omega) z
      rw [e] at k
      exact k
    refine V_iload_n (pc := 12) d_X11_lights_12 rfl ?_
    refine V_iload_n (pc := 13) d_X11_lights_13 rfl ?_
    refine B_icmp_ge (pc := 14) 71 d_X11_lights_14 (by decide) (fun c14 => ?_) (fun c14 => ?_)
    · simp (disch := omega) only [nI_toInt, ti0, ti1, tim1, tim20, tim1000] at c14
      all_goals omega
    · simp (disch := omega) only [nI_toInt, ti0, ti1, tim1, tim20, tim1000] at c14
      refine V_iload_n (pc := 17) d_X11_lights_17 rfl ?_
      refine V_iload_n (pc := 18) d_X11_lights_18 rfl ?_
      refine V_iconst (pc := 19) (-1) d_X11_lights_19 (by decide) ?_
      refine V_ixor (pc := 20) d_X11_lights_20 ?_
      refine V_iand (pc := 21) d_X11_lights_21 ?_
      rw [bn_an]
      refine V_if_ne (pc := 22) 40 d_X11_lights_22 (by decide) (fun c22 => ?_) (fun c22 => ?_)
      · rw [nI_eq0 (by have := an_lt (n := 10) (a := j) (b := D) (by omega); omega)] at c22
        refine V_iconst (pc := 40) (0) d_X11_lights_40 (by decide) ?_
        refine V_istore (pc := 41) d_X11_lights_41 (by decide) ?_
        refine V_iload (pc := 43) d_X11_lights_43 rfl ?_
        refine V_if_eq (pc := 45) 65 d_X11_lights_45 (by decide) (fun c45 => ?_) (fun c45 => ?_)
        · refine V_iinc (pc := 65) d_X11_lights_65 rfl (by decide) ?_
          refine V_goto (pc := 68) 12 d_X11_lights_68 (by decide) ?_
          rw [p1_s]
          first | exact stp _ (lC_n (fun w => c22 w.1)) _ | exact stp _ (lC_n (fun w => absurd w.2.1 (by omega))) _ | exact stp _ (lC_n (fun w => c60 w.2.2)) _ | exact stp _ (lC_y ⟨Classical.not_not.mp c22, by omega, c60⟩) _ | exact stp _ (lC_y ⟨c22, by omega, c60⟩) _
        · exact absurd (by decide) c45
      · rw [nI_eq0 (by have := an_lt (n := 10) (a := j) (b := D) (by omega); omega)] at c22
        refine V_iload_n (pc := 25) d_X11_lights_25 rfl ?_
        refine V_csI (pc := 26) (n := 1) [_] d_X11_lights_26 c_X11_293 k_J_bitCount rfl (Nat.le_of_ble_eq_true rfl) ⟨Nat.le_of_ble_eq_true rfl, Nat.le_of_ble_eq_true rfl⟩ ⟨Nat.le_refl _, Nat.le_refl _⟩ (ct_J_bitCount (by omega) ?_)
        refine V_iload_n (pc := 29) d_X11_lights_29 rfl ?_
        refine V_csI (pc := 30) (n := 1) [_] d_X11_lights_30 c_X11_293 k_J_bitCount rfl (Nat.le_of_ble_eq_true rfl) ⟨Nat.le_of_ble_eq_true rfl, Nat.le_of_ble_eq_true rfl⟩ ⟨Nat.le_refl _, Nat.le_refl _⟩ (ct_J_bitCount (by have := lC_le (V := σ) (D := D) (nt := nt) j (by omega); omega) ?_)
        have g1 := pc_le j
        have g2 := pc_le (lC σ D nt j)
        refine B_icmp_ge (pc := 33) 40 d_X11_lights_33 (by decide) (fun c33 => ?_) (fun c33 => ?_)
        · rw [nI_toInt (by omega), nI_toInt (by omega)] at c33
          refine V_iconst (pc := 40) (0) d_X11_lights_40 (by decide) ?_
          refine V_istore (pc := 41) d_X11_lights_41 (by decide) ?_
          refine V_iload (pc := 43) d_X11_lights_43 rfl ?_
          refine V_if_eq (pc := 45) 65 d_X11_lights_45 (by decide) (fun c45 => ?_) (fun c45 => ?_)
          · refine V_iinc (pc := 65) d_X11_lights_65 rfl (by decide) ?_
            refine V_goto (pc := 68) 12 d_X11_lights_68 (by decide) ?_
            rw [p1_s]
            first | exact stp _ (lC_n (fun w => c22 w.1)) _ | exact stp _ (lC_n (fun w => absurd w.2.1 (by omega))) _ | exact stp _ (lC_n (fun w => c60 w.2.2)) _ | exact stp _ (lC_y ⟨Classical.not_not.mp c22, by omega, c60⟩) _ | exact stp _ (lC_y ⟨c22, by omega, c60⟩) _
          · exact absurd (by decide) c45
        · rw [nI_toInt (by omega), nI_toInt (by omega)] at c33
          refine V_iconst (pc := 36) (1) d_X11_lights_36 (by decide) ?_
          refine V_goto (pc := 37) 41 d_X11_lights_37 (by decide) ?_
          refine V_istore (pc := 41) d_X11_lights_41 (by decide) ?_
          refine V_iload (pc := 43) d_X11_lights_43 rfl ?_
          refine V_if_eq (pc := 45) 65 d_X11_lights_45 (by decide) (fun c45 => ?_) (fun c45 => ?_)
          · exact absurd c45 (by decide)
          · refine V_aload_n (pc := 48) d_X11_lights_48 rfl ?_
            refine P_getR (pc := 49) d_X11_lights_49 f_X11_10 (tt_3 b) (rr_3_0 b) ?_
            refine V_iload_n (pc := 52) d_X11_lights_52 rfl ?_
            refine V_iload_n (pc := 53) d_X11_lights_53 rfl ?_
            refine V_iconst (pc := 54) (-1) d_X11_lights_54 (by decide) ?_
            refine V_ixor (pc := 55) d_X11_lights_55 ?_
            refine V_iand (pc := 56) d_X11_lights_56 ?_
            rw [bn_an]
            refine V_cvI (pc := 57) (n := 3) (c := 4) [_] d_X11_lights_57 c_X11_298 k_X4_tripsBear ⟨rfl, rfl⟩ (tt_4 b) rfl (Nat.le_of_ble_eq_true rfl) ⟨Nat.le_of_ble_eq_true rfl, Nat.le_of_ble_eq_true rfl⟩ ⟨Nat.le_refl _, Nat.le_refl _⟩ (ct_X4_tripsBear rnt hnt hT (an_lt (n := 10) (by omega)) ?_)
            refine V_if_eq (pc := 60) 65 d_X11_lights_60 (by decide) (fun c60 => ?_) (fun c60 => ?_)
            · replace c60 := zf c60
              refine V_iinc (pc := 65) d_X11_lights_65 rfl (by decide) ?_
              refine V_goto (pc := 68) 12 d_X11_lights_68 (by decide) ?_
              rw [p1_s]
              first | exact stp _ (lC_n (fun w => c22 w.1)) _ | exact stp _ (lC_n (fun w => absurd w.2.1 (by omega))) _ | exact stp _ (lC_n (fun w => c60 w.2.2)) _ | exact stp _ (lC_y ⟨Classical.not_not.mp c22, by omega, c60⟩) _ | exact stp _ (lC_y ⟨c22, by omega, c60⟩) _
            · replace c60 := zt c60
              refine V_iload_n (pc := 63) d_X11_lights_63 rfl ?_
              refine V_istore_n (pc := 64) d_X11_lights_64 (by decide) ?_
              refine V_iinc (pc := 65) d_X11_lights_65 rfl (by decide) ?_
              refine V_goto (pc := 68) 12 d_X11_lights_68 (by decide) ?_
              rw [p1_s]
              first | exact stp _ (lC_n (fun w => c22 w.1)) _ | exact stp _ (lC_n (fun w => absurd w.2.1 (by omega))) _ | exact stp _ (lC_n (fun w => c60 w.2.2)) _ | exact stp _ (lC_y ⟨Classical.not_not.mp c22, by omega, c60⟩) _ | exact stp _ (lC_y ⟨c22, by omega, c60⟩) _
theorem ct_X11_lights  {q ns nb nl nt nr : Nat} (hR : RR σ 4 σ q ns nb nl nt nr) (hq : K (nI (lC σ (dk σ ns) nt (dk σ ns))) (σ, sh b)) : CM G mX11_lights (rl 4) [.ref 3] (σ, sh b) (QI K) := by
  obtain ⟨⟨⟨hq2, hn10, hnb, hnl, hnt, hnr⟩, ⟨vq, vns, vnb, vnl, vnt, vnr⟩, ⟨rq, rns, rnb, rnl, rnt, rnr⟩, hpd⟩, hH, hC, hS, hLD, hB, hA, hT, hU⟩ := id hR
  refine CM.of (by decide) (Nat.le_of_ble_eq_true rfl) (cats1 rfl) ?_
  refine V_aload_n (pc := 0) d_X11_lights_0 rfl ?_
  refine P_getR (pc := 1) d_X11_lights_1 f_X11_10 (tt_3 b) (rr_3_0 b) ?_
  refine V_cvI (pc := 4) (n := 1) (c := 4) [] d_X11_lights_4 c_X11_290 k_X4_darkCrossings ⟨rfl, rfl⟩ (tt_4 b) rfl (Nat.le_of_ble_eq_true rfl) ⟨Nat.le_of_ble_eq_true rfl, Nat.le_of_ble_eq_true rfl⟩ ⟨Nat.le_refl _, Nat.le_refl _⟩ (ct_X4_darkCrossings hS rns hn10 ?_)
  refine V_istore_n (pc := 7) d_X11_lights_7 (by decide) ?_
  refine V_iload_n (pc := 8) d_X11_lights_8 rfl ?_
  refine V_istore_n (pc := 9) d_X11_lights_9 (by decide) ?_
  refine V_iconst (pc := 10) (0) d_X11_lights_10 (by decide) ?_
  refine V_istore_n (pc := 11) d_X11_lights_11 (by decide) ?_
  refine lp_lC (F := FM G (rl 4) (QI K)) (nt := nt) (D := dk σ ns) (dk_lt hn10) rnt (by omega) (TK_of hT hn10) (fun z => ?_) (dk σ ns) (Nat.le_refl _) 0 (by omega) _
  refine V_iload_n (pc := 71) d_X11_lights_71 rfl ?_
  exact V_retI (pc := 72) d_X11_lights_72 rfl ⟨Nat.le_refl _, Nat.le_refl _⟩ hq
theorem lp_hk {ns D s t f g : Nat} (hn : ns ≤ 10) (hD : D = dk σ ns) (hs : s < 1024) (hf : f ≤ ns) (hg : g ≤ ns) (hE : V G mX12_helps (rl 1) F 0 0 117 [some (.ref 139), some (.int (nI s)), some (.int (nI t)), some (.int (nI (cnt (fun k => (an D s).testBit k && inw f g k) (max f g)))), some (.int (nI (min f g))), some (.int (nI (max f g))), some (.int (nI (max f g)))] [] (σ, sh b)) : ∀ n, n ≤ max f g → ∀ k, k + n = max f g → min f g ≤ k → V G mX12_helps (rl 1) F 0 0 66 [some (.ref 139), some (.int (nI s)), some (.int (nI t)), some (.int (nI (cnt (fun k => (an D s).testBit k && inw f g k) k))), some (.int (nI (min f g))), some (.int (nI (max f g))), some (.int (nI k))] [] (σ, sh b) := by
  intro n
  induction n with
  | zero =>
    intro _ k hk hm
    obtain rfl : k = max f g := by omega
    refine V_iload (pc := 66) d_X12_helps_66 rfl ?_
    refine V_iload (pc := 68) d_X12_helps_68 rfl ?_
    refine B_icmp_ge (pc := 70) 117 d_X12_helps_70 (by decide) (fun c70 => ?_) (fun c70 => ?_)
    · simp (disch := omega) only [nI_toInt, ti0, ti1, tim1, tim20, tim1000] at c70
      exact hE
    · simp (disch := omega) only [nI_toInt, ti0, ti1, tim1, tim20, tim1000] at c70
      all_goals omega
  | succ n ih =>
    intro _ k hk hm
    have hw : inw f g k = true := by simp only [inw, Bool.and_eq_true, decide_eq_true_iff]; omega
    have hb : (fun k => (an D s).testBit k && inw f g k) k = true ↔ (σ 140 k = nI 3 ∧ σ 143 k = 0) ∧ ¬ s.testBit k = true := by
      show ((an D s).testBit k && inw f g k) = true ↔ _
      rw [hw, Bool.and_true, an_bit, hD, dk, bS_bit, decide_eq_true (by omega), Bool.true_and, Bool.and_eq_true, dkp, decide_eq_true_iff, Bool.not_eq_true', ← Bool.not_eq_true]
    have hyes : (σ 140 k = nI 3 ∧ σ 143 k = 0) → ¬ s.testBit k = true → (fun k => (an D s).testBit k && inw f g k) k = true := fun w1 w2 => hb.mpr ⟨w1, w2⟩
    have hno : ¬ ((σ 140 k = nI 3 ∧ σ 143 k = 0) ∧ ¬ s.testBit k = true) → ¬ (fun k => (an D s).testBit k && inw f g k) k = true := fun w q => w (hb.mp q)
    refine V_iload (pc := 66) d_X12_helps_66 rfl ?_
    refine V_iload (pc := 68) d_X12_helps_68 rfl ?_
    refine B_icmp_ge (pc := 70) 117 d_X12_helps_70 (by decide) (fun c70 => ?_) (fun c70 => ?_)
    · simp (disch := omega) only [nI_toInt, ti0, ti1, tim1, tim20, tim1000] at c70
      all_goals omega
    · simp (disch := omega) only [nI_toInt, ti0, ti1, tim1, tim20, tim1000] at c70
      refine V_iload_n (pc := 73) d_X12_helps_73 rfl ?_
      refine V_aload_n (pc := 74) d_X12_helps_74 rfl ?_
      refine P_getR (pc := 75) d_X12_helps_75 f_X12_7 (tt_139 b) (rr_139_3 b) ?_
      refine V_iload (pc := 78) d_X12_helps_78 rfl ?_
      refine P_iald (pc := 80) (k) d_X12_helps_80 (tt_140 b) rfl (ln_of (ll_140 b) ⟨by omega, by decide⟩) ?_
      refine V_iconst (pc := 81) (nI 3) d_X12_helps_81 (by decide) ?_
      refine V_icmp_ne (pc := 82) 108 d_X12_helps_82 (by decide) (fun c82 => ?_) (fun c82 => ?_)
      · refine V_iconst (pc := 108) (0) d_X12_helps_108 (by decide) ?_
        refine V_iadd (pc := 109) d_X12_helps_109 ?_
        refine V_istore_n (pc := 110) d_X12_helps_110 (by decide) ?_
        refine V_iinc (pc := 111) d_X12_helps_111 rfl (by decide) ?_
        refine V_goto (pc := 114) 66 d_X12_helps_114 (by decide) ?_
        rw [p1_s]
        first | rw [cnt_y (p := (fun k => (an D s).testBit k && inw f g k)) (hyes ⟨c82, c92⟩ c101)] | rw [cnt_y (p := (fun k => (an D s).testBit k && inw f g k)) (hyes ⟨c82, Classical.not_not.mp c92⟩ c101)] | rw [cnt_n (p := (fun k => (an D s).testBit k && inw f g k)) (hno (fun w => c101 w.2))] | rw [cnt_n (p := (fun k => (an D s).testBit k && inw f g k)) (hno (fun w => c92 w.1.2))] | rw [cnt_n (p := (fun k => (an D s).testBit k && inw f g k)) (hno (fun w => c82 w.1.1))]
        exact ih (by omega) (k + 1) (by omega) (by omega)
      · refine V_aload_n (pc := 85) d_X12_helps_85 rfl ?_
        refine P_getR (pc := 86) d_X12_helps_86 f_X12_19 (tt_139 b) (rr_139_6 b) ?_
        refine V_iload (pc := 89) d_X12_helps_89 rfl ?_
        refine P_zald (pc := 91) (k) d_X12_helps_91 (tt_143 b) rfl (ln_of (ll_143 b) ⟨by omega, by decide⟩) ?_
        refine V_if_ne (pc := 92) 108 d_X12_helps_92 (by decide) (fun c92 => ?_) (fun c92 => ?_)
        · refine V_iconst (pc := 108) (0) d_X12_helps_108 (by decide) ?_
          refine V_iadd (pc := 109) d_X12_helps_109 ?_
          refine V_istore_n (pc := 110) d_X12_helps_110 (by decide) ?_
          refine V_iinc (pc := 111) d_X12_helps_111 rfl (by decide) ?_
          refine V_goto (pc := 114) 66 d_X12_helps_114 (by decide) ?_
          rw [p1_s]
          first | rw [cnt_y (p := (fun k => (an D s).testBit k && inw f g k)) (hyes ⟨c82, c92⟩ c101)] | rw [cnt_y (p := (fun k => (an D s).testBit k && inw f g k)) (hyes ⟨c82, Classical.not_not.mp c92⟩ c101)] | rw [cnt_n (p := (fun k => (an D s).testBit k && inw f g k)) (hno (fun w => c101 w.2))] | rw [cnt_n (p := (fun k => (an D s).testBit k && inw f g k)) (hno (fun w => c92 w.1.2))] | rw [cnt_n (p := (fun k => (an D s).testBit k && inw f g k)) (hno (fun w => c82 w.1.1))]
          exact ih (by omega) (k + 1) (by omega) (by omega)
        · refine V_iload_n (pc := 95) d_X12_helps_95 rfl ?_
          refine V_iload (pc := 96) d_X12_helps_96 rfl ?_
          refine V_ishr (pc := 98) d_X12_helps_98 ?_
          refine V_iconst (pc := 99) (1) d_X12_helps_99 (by decide) ?_
          refine V_iand (pc := 100) d_X12_helps_100 ?_
          refine V_if_ne (pc := 101) 108 d_X12_helps_101 (by decide) (fun c101 => ?_) (fun c101 => ?_)
          · rw [bn_bit0 (by omega) (by omega)] at c101
            refine V_iconst (pc := 108) (0) d_X12_helps_108 (by decide) ?_
            refine V_iadd (pc := 109) d_X12_helps_109 ?_
            refine V_istore_n (pc := 110) d_X12_helps_110 (by decide) ?_
            refine V_iinc (pc := 111) d_X12_helps_111 rfl (by decide) ?_
            refine V_goto (pc := 114) 66 d_X12_helps_114 (by decide) ?_
            rw [p1_s]
            first | rw [cnt_y (p := (fun k => (an D s).testBit k && inw f g k)) (hyes ⟨c82, c92⟩ c101)] | rw [cnt_y (p := (fun k => (an D s).testBit k && inw f g k)) (hyes ⟨c82, Classical.not_not.mp c92⟩ c101)] | rw [cnt_n (p := (fun k => (an D s).testBit k && inw f g k)) (hno (fun w => c101 w.2))] | rw [cnt_n (p := (fun k => (an D s).testBit k && inw f g k)) (hno (fun w => c92 w.1.2))] | rw [cnt_n (p := (fun k => (an D s).testBit k && inw f g k)) (hno (fun w => c82 w.1.1))]
            exact ih (by omega) (k + 1) (by omega) (by omega)
          · rw [bn_bit0 (by omega) (by omega)] at c101
            refine V_iconst (pc := 104) (1) d_X12_helps_104 (by decide) ?_
            refine V_goto (pc := 105) 109 d_X12_helps_105 (by decide) ?_
            refine V_iadd (pc := 109) d_X12_helps_109 ?_
            refine V_istore_n (pc := 110) d_X12_helps_110 (by decide) ?_
            refine V_iinc (pc := 111) d_X12_helps_111 rfl (by decide) ?_
            refine V_goto (pc := 114) 66 d_X12_helps_114 (by decide) ?_
            rw [p1_s]
            first | rw [cnt_y (p := (fun k => (an D s).testBit k && inw f g k)) (hyes ⟨c82, c92⟩ c101)] | rw [cnt_y (p := (fun k => (an D s).testBit k && inw f g k)) (hyes ⟨c82, Classical.not_not.mp c92⟩ c101)] | rw [cnt_n (p := (fun k => (an D s).testBit k && inw f g k)) (hno (fun w => c101 w.2))] | rw [cnt_n (p := (fun k => (an D s).testBit k && inw f g k)) (hno (fun w => c92 w.1.2))] | rw [cnt_n (p := (fun k => (an D s).testBit k && inw f g k)) (hno (fun w => c82 w.1.1))]
            exact ih (by omega) (k + 1) (by omega) (by omega)
theorem lp_hp {ns nt D s : Nat} (hn : ns ≤ 10) (hD : D = dk σ ns) (hs : s < 1024) (vnt : σ 139 31 = nI nt) (hnt : nt ≤ 6) (hT : ∀ t, t < nt → TM σ ns t) (hE : K (if brs σ (an D s) nt = true then 1 else 0) (σ, sh b)) : ∀ n, n ≤ nt → ∀ t, t + n = nt → brs σ (an D s) t = true → ∀ a0 a1 a2 a3 : Option Value, V G mX12_helps (rl 1) (FM G (rl 1) (QI K)) 0 0 2 [some (.ref 139), some (.int (nI s)), some (.int (nI t)), a0, a1, a2, a3] [] (σ, sh b) := by
  intro n
  induction n with
  | zero =>
    intro _ t ht hb a0 a1 a2 a3
    obtain rfl : t = nt := by omega
    refine V_iload_n (pc := 2) d_X12_helps_2 rfl ?_
    refine V_aload_n (pc := 3) d_X12_helps_3 rfl ?_
    refine P_getI (pc := 4) d_X12_helps_4 f_X12_287 (tt_139 b) ?_
    rw [vnt]
    refine B_icmp_ge (pc := 7) 135 d_X12_helps_7 (by decide) (fun c7 => ?_) (fun c7 => ?_)
    · simp (disch := omega) only [nI_toInt, ti0, ti1, tim1, tim20, tim1000] at c7
      refine V_iconst (pc := 135) (1) d_X12_helps_135 (by decide) ?_
      exact V_retZ (pc := 136) d_X12_helps_136 rfl (by first | exact Or.inl rfl | exact Or.inr rfl | exact z01) ⟨Nat.le_refl _, Nat.le_refl _⟩ (by rw [if_pos hb] at hE; exact hE)
    · simp (disch := omega) only [nI_toInt, ti0, ti1, tim1, tim20, tim1000] at c7
      all_goals omega
  | succ n ih =>
    intro _ t ht hb a0 a1 a2 a3
    refine V_iload_n (pc := 2) d_X12_helps_2 rfl ?_
    refine V_aload_n (pc := 3) d_X12_helps_3 rfl ?_
    refine P_getI (pc := 4) d_X12_helps_4 f_X12_287 (tt_139 b) ?_
    rw [vnt]
    refine B_icmp_ge (pc := 7) 135 d_X12_helps_7 (by decide) (fun c7 => ?_) (fun c7 => ?_)
    · simp (disch := omega) only [nI_toInt, ti0, ti1, tim1, tim20, tim1000] at c7
      all_goals omega
    · simp (disch := omega) only [nI_toInt, ti0, ti1, tim1, tim20, tim1000] at c7
      obtain ⟨f, g, w, hf, hg, hw, ef, eg, ew⟩ := hT t (by omega)
      have g3 := @cnt_le (fun k => (an D s).testBit k && inw f g k) (max f g)
      have e12 : cnt (fun k => (an D s).testBit k && inw f g k) (max f g) = cnt (fun k => (an D s).testBit k && inw f g k) 12 := (cnt_up (by omega) (fun i h1 h2 => by show ((an D s).testBit i && inw f g i) = false; rw [show inw f g i = false by simp only [inw, Bool.and_eq_false_iff, decide_eq_false_iff_not]; omega, Bool.and_false])).symm
      refine V_iconst (pc := 10) (0) d_X12_helps_10 (by decide) ?_
      refine V_istore_n (pc := 11) d_X12_helps_11 (by decide) ?_
      refine V_aload_n (pc := 12) d_X12_helps_12 rfl ?_
      refine P_getR (pc := 13) d_X12_helps_13 f_X12_86 (tt_139 b) (rr_139_32 b) ?_
      refine V_iload_n (pc := 16) d_X12_helps_16 rfl ?_
      refine P_iald (pc := 17) (t) d_X12_helps_17 (tt_165 b) rfl (ln_of (ll_165 b) ⟨by omega, by decide⟩) ?_
      rw [ef]
      refine V_aload_n (pc := 18) d_X12_helps_18 rfl ?_
      refine P_getR (pc := 19) d_X12_helps_19 f_X12_89 (tt_139 b) (rr_139_33 b) ?_
      refine V_iload_n (pc := 22) d_X12_helps_22 rfl ?_
      refine P_iald (pc := 23) (t) d_X12_helps_23 (tt_166 b) rfl (ln_of (ll_166 b) ⟨by omega, by decide⟩) ?_
      rw [eg]
      refine B_icmp_ge (pc := 24) 36 d_X12_helps_24 (by decide) (fun c24 => ?_) (fun c24 => ?_)
      · rw [nI_toInt (by omega), nI_toInt (by omega)] at c24
        refine V_aload_n (pc := 36) d_X12_helps_36 rfl ?_
        refine P_getR (pc := 37) d_X12_helps_37 f_X12_89 (tt_139 b) (rr_139_33 b) ?_
        refine V_iload_n (pc := 40) d_X12_helps_40 rfl ?_
        refine P_iald (pc := 41) (t) d_X12_helps_41 (tt_166 b) rfl (ln_of (ll_166 b) ⟨by omega, by decide⟩) ?_
        rw [eg]
        refine V_istore (pc := 42) d_X12_helps_42 (by decide) ?_
        refine V_aload_n (pc := 44) d_X12_helps_44 rfl ?_
        refine P_getR (pc := 45) d_X12_helps_45 f_X12_86 (tt_139 b) (rr_139_32 b) ?_
        refine V_iload_n (pc := 48) d_X12_helps_48 rfl ?_
        refine P_iald (pc := 49) (t) d_X12_helps_49 (tt_165 b) rfl (ln_of (ll_165 b) ⟨by omega, by decide⟩) ?_
        rw [ef]
        refine V_aload_n (pc := 50) d_X12_helps_50 rfl ?_
        refine P_getR (pc := 51) d_X12_helps_51 f_X12_89 (tt_139 b) (rr_139_33 b) ?_
        refine V_iload_n (pc := 54) d_X12_helps_54 rfl ?_
        refine P_iald (pc := 55) (t) d_X12_helps_55 (tt_166 b) rfl (ln_of (ll_166 b) ⟨by omega, by decide⟩) ?_
        rw [eg]
        refine V_iadd (pc := 56) d_X12_helps_56 ?_
        refine V_iload (pc := 57) d_X12_helps_57 rfl ?_
        refine V_isub (pc := 59) d_X12_helps_59 ?_
        refine V_istore (pc := 60) d_X12_helps_60 (by decide) ?_
        refine V_iload (pc := 62) d_X12_helps_62 rfl ?_
        refine V_istore (pc := 64) d_X12_helps_64 (by decide) ?_
        first | rw [show nI f + nI g - nI f = nI (max f g) by rw [nI_add, wy_sub (by omega) (by omega), show f + g - f = max f g by omega], show nI f = nI (min f g) by rw [show min f g = f by omega]] | rw [show nI f + nI g - nI g = nI (max f g) by rw [nI_add, wy_sub (by omega) (by omega), show f + g - g = max f g by omega], show nI g = nI (min f g) by rw [show min f g = g by omega]]
        rw [show (0 : Int32) = nI (cnt (fun k => (an D s).testBit k && inw f g k) (min f g)) by rw [cnt_z (fun i hi => by show ((an D s).testBit i && inw f g i) = false; rw [show inw f g i = false by simp only [inw, Bool.and_eq_false_iff, decide_eq_false_iff_not]; omega, Bool.and_false])]; rfl]
        refine lp_hk (F := FM G (rl 1) (QI K)) hn hD hs hf hg ?_ (max f g - min f g) (by omega) (min f g) (by omega) (Nat.le_refl _)
        refine V_iload_n (pc := 117) d_X12_helps_117 rfl ?_
        refine V_aload_n (pc := 118) d_X12_helps_118 rfl ?_
        refine P_getR (pc := 119) d_X12_helps_119 f_X12_92 (tt_139 b) (rr_139_34 b) ?_
        refine V_iload_n (pc := 122) d_X12_helps_122 rfl ?_
        refine P_iald (pc := 123) (t) d_X12_helps_123 (tt_167 b) rfl (ln_of (ll_167 b) ⟨by omega, by decide⟩) ?_
        rw [ew]
        refine B_icmp_le (pc := 124) 129 d_X12_helps_124 (by decide) (fun c124 => ?_) (fun c124 => ?_)
        · rw [nI_toInt (by omega), nI_toInt (by omega), e12] at c124
          have hk : tkB σ (an D s) t = true := by rw [tkB_w (by omega) (by omega) hw ef eg ew]; exact decide_eq_true (by omega)
          refine V_iinc (pc := 129) d_X12_helps_129 rfl (by decide) ?_
          refine V_goto (pc := 132) 2 d_X12_helps_132 (by decide) ?_
          rw [p1_s]
          exact ih (by omega) (t + 1) (by omega) (brs_y hb hk) _ _ _ _
        · rw [nI_toInt (by omega), nI_toInt (by omega), e12] at c124
          have hk : tkB σ (an D s) t = false := by rw [tkB_w (by omega) (by omega) hw ef eg ew]; exact decide_eq_false (by omega)
          refine V_iconst (pc := 127) (0) d_X12_helps_127 (by decide) ?_
          exact V_retZ (pc := 128) d_X12_helps_128 rfl (by first | exact Or.inl rfl | exact Or.inr rfl | exact z01) ⟨Nat.le_refl _, Nat.le_refl _⟩ (by rw [if_neg (by rw [brs_no hk nt (by omega)]; decide)] at hE; exact hE)
      · rw [nI_toInt (by omega), nI_toInt (by omega)] at c24
        refine V_aload_n (pc := 27) d_X12_helps_27 rfl ?_
        refine P_getR (pc := 28) d_X12_helps_28 f_X12_86 (tt_139 b) (rr_139_32 b) ?_
        refine V_iload_n (pc := 31) d_X12_helps_31 rfl ?_
        refine P_iald (pc := 32) (t) d_X12_helps_32 (tt_165 b) rfl (ln_of (ll_165 b) ⟨by omega, by decide⟩) ?_
        rw [ef]
        refine V_goto (pc := 33) 42 d_X12_helps_33 (by decide) ?_
        refine V_istore (pc := 42) d_X12_helps_42 (by decide) ?_
        refine V_aload_n (pc := 44) d_X12_helps_44 rfl ?_
        refine P_getR (pc := 45) d_X12_helps_45 f_X12_86 (tt_139 b) (rr_139_32 b) ?_
        refine V_iload_n (pc := 48) d_X12_helps_48 rfl ?_
        refine P_iald (pc := 49) (t) d_X12_helps_49 (tt_165 b) rfl (ln_of (ll_165 b) ⟨by omega, by decide⟩) ?_
        rw [ef]
        refine V_aload_n (pc := 50) d_X12_helps_50 rfl ?_
        refine P_getR (pc := 51) d_X12_helps_51 f_X12_89 (tt_139 b) (rr_139_33 b) ?_
        refine V_iload_n (pc := 54) d_X12_helps_54 rfl ?_
        refine P_iald (pc := 55) (t) d_X12_helps_55 (tt_166 b) rfl (ln_of (ll_166 b) ⟨by omega, by decide⟩) ?_
        rw [eg]
        refine V_iadd (pc := 56) d_X12_helps_56 ?_
        refine V_iload (pc := 57) d_X12_helps_57 rfl ?_
        refine V_isub (pc := 59) d_X12_helps_59 ?_
        refine V_istore (pc := 60) d_X12_helps_60 (by decide) ?_
        refine V_iload (pc := 62) d_X12_helps_62 rfl ?_
        refine V_istore (pc := 64) d_X12_helps_64 (by decide) ?_
        first | rw [show nI f + nI g - nI f = nI (max f g) by rw [nI_add, wy_sub (by omega) (by omega), show f + g - f = max f g by omega], show nI f = nI (min f g) by rw [show min f g = f by omega]] | rw [show nI f + nI g - nI g = nI (max f g) by rw [nI_add, wy_sub (by omega) (by omega), show f + g - g = max f g by omega], show nI g = nI (min f g) by rw [show min f g = g by omega]]
        rw [show (0 : Int32) = nI (cnt (fun k => (an D s).testBit k && inw f g k) (min f g)) by rw [cnt_z (fun i hi => by show ((an D s).testBit i && inw f g i) = false; rw [show inw f g i = false by simp only [inw, Bool.and_eq_false_iff, decide_eq_false_iff_not]; omega, Bool.and_false])]; rfl]
        refine lp_hk (F := FM G (rl 1) (QI K)) hn hD hs hf hg ?_ (max f g - min f g) (by omega) (min f g) (by omega) (Nat.le_refl _)
        refine V_iload_n (pc := 117) d_X12_helps_117 rfl ?_
        refine V_aload_n (pc := 118) d_X12_helps_118 rfl ?_
        refine P_getR (pc := 119) d_X12_helps_119 f_X12_92 (tt_139 b) (rr_139_34 b) ?_
        refine V_iload_n (pc := 122) d_X12_helps_122 rfl ?_
        refine P_iald (pc := 123) (t) d_X12_helps_123 (tt_167 b) rfl (ln_of (ll_167 b) ⟨by omega, by decide⟩) ?_
        rw [ew]
        refine B_icmp_le (pc := 124) 129 d_X12_helps_124 (by decide) (fun c124 => ?_) (fun c124 => ?_)
        · rw [nI_toInt (by omega), nI_toInt (by omega), e12] at c124
          have hk : tkB σ (an D s) t = true := by rw [tkB_w (by omega) (by omega) hw ef eg ew]; exact decide_eq_true (by omega)
          refine V_iinc (pc := 129) d_X12_helps_129 rfl (by decide) ?_
          refine V_goto (pc := 132) 2 d_X12_helps_132 (by decide) ?_
          rw [p1_s]
          exact ih (by omega) (t + 1) (by omega) (brs_y hb hk) _ _ _ _
        · rw [nI_toInt (by omega), nI_toInt (by omega), e12] at c124
          have hk : tkB σ (an D s) t = false := by rw [tkB_w (by omega) (by omega) hw ef eg ew]; exact decide_eq_false (by omega)
          refine V_iconst (pc := 127) (0) d_X12_helps_127 (by decide) ?_
          exact V_retZ (pc := 128) d_X12_helps_128 rfl (by first | exact Or.inl rfl | exact Or.inr rfl | exact z01) ⟨Nat.le_refl _, Nat.le_refl _⟩ (by rw [if_neg (by rw [brs_no hk nt (by omega)]; decide)] at hE; exact hE)
theorem ct_X12_helps {ns nt D s : Nat} (hn : ns ≤ 10) (hD : D = dk σ ns) (hs : s < 1024) (vnt : σ 139 31 = nI nt) (hnt : nt ≤ 6) (hT : ∀ t, t < nt → TM σ ns t) (hE : K (if brs σ (an D s) nt = true then 1 else 0) (σ, sh b)) : CM G mX12_helps (rl 1) [.ref 139, .int (nI s)] (σ, sh b) (QI K) := by
  refine CM.of (by decide) (Nat.le_of_ble_eq_true rfl) (cats1 rfl) ?_
  refine V_iconst (pc := 0) (0) d_X12_helps_0 (by decide) ?_
  refine V_istore_n (pc := 1) d_X12_helps_1 (by decide) ?_
  exact lp_hp hn hD hs vnt hnt hT hE nt (Nat.le_refl _) 0 (by omega) rfl _ _ _ _
theorem lp_lM {ns nt D : Nat} (hn : ns ≤ 10) (hD : D = dk σ ns) (vns : σ 139 2 = nI ns) (vnt : σ 139 31 = nI nt) (hnt : nt ≤ 6) (hT : ∀ t, t < nt → TM σ ns t) (hE : V G mX12_lights (rl 2) F 0 0 101 [some (.ref 139), some (.int (nI D)), some (.int (lv (lM σ D nt (2 ^ ns)))), some (.int (nI (2 ^ ns)))] [] (σ, sh b)) : ∀ n, n ≤ 2 ^ ns → ∀ j, j + n = 2 ^ ns → V G mX12_lights (rl 2) F 0 0 51 [some (.ref 139), some (.int (nI D)), some (.int (lv (lM σ D nt j))), some (.int (nI j))] [] (σ, sh b) := by
  have hp := pw_le hn
  intro n
  induction n with
  | zero =>
    intro _ j hj
    obtain rfl : j = 2 ^ ns := by omega
    refine V_iload_n (pc := 51) d_X12_lights_51 rfl ?_
    refine V_iconst (pc := 52) (1) d_X12_lights_52 (by decide) ?_
    refine V_aload_n (pc := 53) d_X12_lights_53 rfl ?_
    refine P_getI (pc := 54) d_X12_lights_54 f_X12_171 (tt_139 b) ?_
    refine V_ishl (pc := 57) d_X12_lights_57 ?_
    rw [vns, bn_shl _ (by omega)]
    refine B_icmp_ge (pc := 58) 101 d_X12_lights_58 (by decide) (fun c58 => ?_) (fun c58 => ?_)
    · exact hE
    · all_goals omega
  | succ n ih =>
    intro _ j hj
    have stp : ∀ v, lM σ D nt (j + 1) = v → V G mX12_lights (rl 2) F 0 0 51 [some (.ref 139), some (.int (nI D)), some (.int (lv v)), some (.int (nI (j + 1)))] [] (σ, sh b) := fun v e => by
      have k := ih (by omega) (j + 1) (by omega)
      rw [e] at k
      exact k
    refine V_iload_n (pc := 51) d_X12_lights_51 rfl ?_
    refine V_iconst (pc := 52) (1) d_X12_lights_52 (by decide) ?_
    refine V_aload_n (pc := 53) d_X12_lights_53 rfl ?_
    refine P_getI (pc := 54) d_X12_lights_54 f_X12_171 (tt_139 b) ?_
    refine V_ishl (pc := 57) d_X12_lights_57 ?_
    rw [vns, bn_shl _ (by omega)]
    refine B_icmp_ge (pc := 58) 101 d_X12_lights_58 (by decide) (fun c58 => ?_) (fun c58 => ?_)
    · simp (disch := omega) only [nI_toInt, ti0, ti1, tim1, tim20, tim1000] at c58
      all_goals omega
    · simp (disch := omega) only [nI_toInt, ti0, ti1, tim1, tim20, tim1000] at c58
      refine V_iload_n (pc := 61) d_X12_lights_61 rfl ?_
      refine V_iload_n (pc := 62) d_X12_lights_62 rfl ?_
      refine V_iconst (pc := 63) (-1) d_X12_lights_63 (by decide) ?_
      refine V_ixor (pc := 64) d_X12_lights_64 ?_
      refine V_iand (pc := 65) d_X12_lights_65 ?_
      rw [bn_an]
      refine V_if_ne (pc := 66) 95 d_X12_lights_66 (by decide) (fun c66 => ?_) (fun c66 => ?_)
      · rw [nI_eq0 (by have := an_lt (n := 10) (a := j) (b := D) (by omega); omega)] at c66
        refine V_iinc (pc := 95) d_X12_lights_95 rfl (by decide) ?_
        refine V_goto (pc := 98) 51 d_X12_lights_98 (by decide) ?_
        rw [p1_s]
        first | exact stp _ (lM_n (fun w => c66 w.1)) | exact stp (some m) ((lM_n (fun w => absurd (w.2.1 m em) (by omega))).trans em) | exact stp (some m) ((lM_n (fun w => c90 w.2.2)).trans em) | exact stp _ (lM_n (fun w => c90 w.2.2)) | exact stp (some j) (lM_y ⟨c66, fun k hk => (by rw [em] at hk; first | (cases hk; done) | (cases hk; omega)), c90⟩)
      · rw [nI_eq0 (by have := an_lt (n := 10) (a := j) (b := D) (by omega); omega)] at c66
        refine V_iload_n (pc := 69) d_X12_lights_69 rfl ?_
        refine V_iconst (pc := 70) (-1) d_X12_lights_70 (by decide) ?_
        refine V_icmp_eq (pc := 71) 85 d_X12_lights_71 (by decide) (fun c71 => ?_) (fun c71 => ?_)
        · have em := lv_none (fun k hk => by have := lM_lt j k hk; omega) c71
          refine V_aload_n (pc := 85) d_X12_lights_85 rfl ?_
          refine V_iload_n (pc := 86) d_X12_lights_86 rfl ?_
          refine V_cvI (pc := 87) (n := 1) (c := 12) [_] d_X12_lights_87 c_X12_293 k_X12_helps ⟨rfl, rfl⟩ (tt_139 b) rfl (Nat.le_of_ble_eq_true rfl) ⟨Nat.le_of_ble_eq_true rfl, Nat.le_of_ble_eq_true rfl⟩ ⟨Nat.le_refl _, Nat.le_refl _⟩ (ct_X12_helps hn hD (by omega) vnt hnt hT ?_)
          refine V_if_eq (pc := 90) 95 d_X12_lights_90 (by decide) (fun c90 => ?_) (fun c90 => ?_)
          · replace c90 := zf c90
            refine V_iinc (pc := 95) d_X12_lights_95 rfl (by decide) ?_
            refine V_goto (pc := 98) 51 d_X12_lights_98 (by decide) ?_
            rw [p1_s]
            first | exact stp _ (lM_n (fun w => c66 w.1)) | exact stp (some m) ((lM_n (fun w => absurd (w.2.1 m em) (by omega))).trans em) | exact stp (some m) ((lM_n (fun w => c90 w.2.2)).trans em) | exact stp _ (lM_n (fun w => c90 w.2.2)) | exact stp (some j) (lM_y ⟨c66, fun k hk => (by rw [em] at hk; first | (cases hk; done) | (cases hk; omega)), c90⟩)
          · replace c90 := zt c90
            refine V_iload_n (pc := 93) d_X12_lights_93 rfl ?_
            refine V_istore_n (pc := 94) d_X12_lights_94 (by decide) ?_
            refine V_iinc (pc := 95) d_X12_lights_95 rfl (by decide) ?_
            refine V_goto (pc := 98) 51 d_X12_lights_98 (by decide) ?_
            rw [p1_s]
            first | exact stp _ (lM_n (fun w => c66 w.1)) | exact stp (some m) ((lM_n (fun w => absurd (w.2.1 m em) (by omega))).trans em) | exact stp (some m) ((lM_n (fun w => c90 w.2.2)).trans em) | exact stp _ (lM_n (fun w => c90 w.2.2)) | exact stp (some j) (lM_y ⟨c66, fun k hk => (by rw [em] at hk; first | (cases hk; done) | (cases hk; omega)), c90⟩)
        · obtain ⟨m, em⟩ := lv_some c71
          have hm := lM_lt j m em
          refine V_iload_n (pc := 74) d_X12_lights_74 rfl ?_
          refine V_csI (pc := 75) (n := 1) [_] d_X12_lights_75 c_X12_290 k_X12_many rfl (Nat.le_of_ble_eq_true rfl) ⟨Nat.le_of_ble_eq_true rfl, Nat.le_of_ble_eq_true rfl⟩ ⟨Nat.le_refl _, Nat.le_refl _⟩ (ct_X12_many (by omega) ?_)
          refine V_iload_n (pc := 78) d_X12_lights_78 rfl ?_
          rw [em]
          show V G mX12_lights (rl 2) F 0 0 79 _ [.int (nI m), .int (nI (pc j))] _
          refine V_csI (pc := 79) (n := 1) [_] d_X12_lights_79 c_X12_290 k_X12_many rfl (Nat.le_of_ble_eq_true rfl) ⟨Nat.le_of_ble_eq_true rfl, Nat.le_of_ble_eq_true rfl⟩ ⟨Nat.le_refl _, Nat.le_refl _⟩ (ct_X12_many (by omega) ?_)
          have g1 := pc_le j
          have g2 := pc_le m
          refine B_icmp_ge (pc := 82) 95 d_X12_lights_82 (by decide) (fun c82 => ?_) (fun c82 => ?_)
          · rw [nI_toInt (by omega), nI_toInt (by omega)] at c82
            refine V_iinc (pc := 95) d_X12_lights_95 rfl (by decide) ?_
            refine V_goto (pc := 98) 51 d_X12_lights_98 (by decide) ?_
            rw [p1_s]
            first | exact stp _ (lM_n (fun w => c66 w.1)) | exact stp (some m) ((lM_n (fun w => absurd (w.2.1 m em) (by omega))).trans em) | exact stp (some m) ((lM_n (fun w => c90 w.2.2)).trans em) | exact stp _ (lM_n (fun w => c90 w.2.2)) | exact stp (some j) (lM_y ⟨c66, fun k hk => (by rw [em] at hk; first | (cases hk; done) | (cases hk; omega)), c90⟩)
          · rw [nI_toInt (by omega), nI_toInt (by omega)] at c82
            refine V_aload_n (pc := 85) d_X12_lights_85 rfl ?_
            refine V_iload_n (pc := 86) d_X12_lights_86 rfl ?_
            refine V_cvI (pc := 87) (n := 1) (c := 12) [_] d_X12_lights_87 c_X12_293 k_X12_helps ⟨rfl, rfl⟩ (tt_139 b) rfl (Nat.le_of_ble_eq_true rfl) ⟨Nat.le_of_ble_eq_true rfl, Nat.le_of_ble_eq_true rfl⟩ ⟨Nat.le_refl _, Nat.le_refl _⟩ (ct_X12_helps hn hD (by omega) vnt hnt hT ?_)
            refine V_if_eq (pc := 90) 95 d_X12_lights_90 (by decide) (fun c90 => ?_) (fun c90 => ?_)
            · replace c90 := zf c90
              refine V_iinc (pc := 95) d_X12_lights_95 rfl (by decide) ?_
              refine V_goto (pc := 98) 51 d_X12_lights_98 (by decide) ?_
              rw [p1_s]
              first | exact stp _ (lM_n (fun w => c66 w.1)) | exact stp (some m) ((lM_n (fun w => absurd (w.2.1 m em) (by omega))).trans em) | exact stp (some m) ((lM_n (fun w => c90 w.2.2)).trans em) | exact stp _ (lM_n (fun w => c90 w.2.2)) | exact stp (some j) (lM_y ⟨c66, fun k hk => (by rw [em] at hk; first | (cases hk; done) | (cases hk; omega)), c90⟩)
            · replace c90 := zt c90
              refine V_iload_n (pc := 93) d_X12_lights_93 rfl ?_
              refine V_istore_n (pc := 94) d_X12_lights_94 (by decide) ?_
              refine V_iinc (pc := 95) d_X12_lights_95 rfl (by decide) ?_
              refine V_goto (pc := 98) 51 d_X12_lights_98 (by decide) ?_
              rw [p1_s]
              first | exact stp _ (lM_n (fun w => c66 w.1)) | exact stp (some m) ((lM_n (fun w => absurd (w.2.1 m em) (by omega))).trans em) | exact stp (some m) ((lM_n (fun w => c90 w.2.2)).trans em) | exact stp _ (lM_n (fun w => c90 w.2.2)) | exact stp (some j) (lM_y ⟨c66, fun k hk => (by rw [em] at hk; first | (cases hk; done) | (cases hk; omega)), c90⟩)
theorem ct_X12_lights  {ρ : Sg} {q ns nb nl nt nr : Nat} (hR : RR ρ 4 σ q ns nb nl nt nr) (hq : K (lv (lM σ (dk σ ns) nt (2 ^ ns))) (σ, sh b)) : CM G mX12_lights (rl 2) [.ref 139] (σ, sh b) (QI K) := by
  obtain ⟨⟨⟨hq2, hn10, hnb, hnl, hnt, hnr⟩, ⟨vq, vns, vnb, vnl, vnt, vnr⟩, ⟨rq, rns, rnb, rnl, rnt, rnr⟩, hpd⟩, hH, hC, hS, hLD, hB, hA, hT, hU⟩ := id hR
  refine CM.of (by decide) (Nat.le_of_ble_eq_true rfl) (cats1 rfl) ?_
  refine V_iconst (pc := 0) (0) d_X12_lights_0 (by decide) ?_
  refine V_istore_n (pc := 1) d_X12_lights_1 (by decide) ?_
  refine V_iconst (pc := 2) (0) d_X12_lights_2 (by decide) ?_
  refine V_istore_n (pc := 3) d_X12_lights_3 (by decide) ?_
  refine lp_dm (F := FM G (rl 2) (QI K)) vns hn10 ?_ ns (Nat.le_refl _) 0 (by omega)
  refine V_iconst (pc := 47) (-1) d_X12_lights_47 (by decide) ?_
  refine V_istore_n (pc := 48) d_X12_lights_48 (by decide) ?_
  refine V_iconst (pc := 49) (0) d_X12_lights_49 (by decide) ?_
  refine V_istore_n (pc := 50) d_X12_lights_50 (by decide) ?_
  refine lp_lM (F := FM G (rl 2) (QI K)) (nt := nt) (D := dk σ ns) hn10 rfl vns vnt (by omega) (TM_of hT) ?_ (2 ^ ns) (Nat.le_refl _) 0 (by omega)
  refine V_iload_n (pc := 101) d_X12_lights_101 rfl ?_
  exact V_retI (pc := 102) d_X12_lights_102 rfl ⟨Nat.le_refl _, Nat.le_refl _⟩ hq
theorem pr_lights (h : Rel σ b) : PR G mX11_lights mX12_lights 4 2 [] σ b := by
  have h0 := h
  obtain ⟨q, ns, nb, nl, nt, nr, hR, hX, hP, hQ, hK⟩ := h
  obtain ⟨hcn, hH, hC, hS, hLD, hB, hA, hT, hU⟩ := id hR
  have hbd := hcn.1
  have e : lM σ (dk σ ns) nt (2 ^ ns) = some (lC σ (dk σ ns) nt (dk σ ns)) := lights_eq (dk_lt (by omega)) (bS_lt _ ns) (brs_0 nt (Nat.le_refl _) (fun t ht => by
    obtain ⟨f, g, w, h1, h2, h3⟩ := TM_of hT t ht
    exact ⟨f, g, w, by omega, by omega, h3⟩))
  exact ct_X11_lights hR (⟨rfl, ct_X12_lights hR ⟨by rw [e]; rfl, σ, rfl, h0⟩⟩)
end HC
