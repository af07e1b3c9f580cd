/-- the words of boat i and of box l, places below n, the later of both -/
def exC (σ : Sg) (i l n : Nat) : Sg := fun a k =>
  if k < n then
    (if a = 79 + 4 * i then (if (σ (80 + 4 * i) k).toInt < (σ (36 + 4 * l) k).toInt then σ (35 + 4 * l) k else σ a k)
    else if a = 80 + 4 * i then (if (σ (80 + 4 * i) k).toInt < (σ (36 + 4 * l) k).toInt then σ (36 + 4 * l) k else σ a k)
    else if a = 35 + 4 * l then (if (σ (36 + 4 * l) k).toInt < (σ (80 + 4 * i) k).toInt then σ (79 + 4 * i) k else σ a k)
    else if a = 36 + 4 * l then (if (σ (36 + 4 * l) k).toInt < (σ (80 + 4 * i) k).toInt then σ (80 + 4 * i) k else σ a k) else σ a k)
  else σ a k
theorem exC_hi {σ : Sg} {i l n a k : Nat} (h : n ≤ k) : exC σ i l n a k = σ a k := if_neg (by omega)
theorem exC_o {σ : Sg} {i l n a k : Nat} (h : a ≠ 79 + 4 * i ∧ a ≠ 80 + 4 * i ∧ a ≠ 35 + 4 * l ∧ a ≠ 36 + 4 * l) : exC σ i l n a k = σ a k := by
  unfold exC
  rw [if_neg h.1, if_neg h.2.1, if_neg h.2.2.1, if_neg h.2.2.2]
  split <;> rfl
theorem exC_w1 {σ : Sg} {i l n k : Nat} (h : k < n) : exC σ i l n (79 + 4 * i) k = if (σ (80 + 4 * i) k).toInt < (σ (36 + 4 * l) k).toInt then σ (35 + 4 * l) k else σ (79 + 4 * i) k := by
  unfold exC
  rw [if_pos h, if_pos rfl]
theorem exC_q1 {σ : Sg} {i l n k : Nat} (h : k < n) : exC σ i l n (80 + 4 * i) k = if (σ (80 + 4 * i) k).toInt < (σ (36 + 4 * l) k).toInt then σ (36 + 4 * l) k else σ (80 + 4 * i) k := by
  unfold exC
  rw [if_pos h, if_neg (by omega), if_pos rfl]
theorem exC_w2 {σ : Sg} {i l n k : Nat} (hl : l < 11) (h : k < n) : exC σ i l n (35 + 4 * l) k = if (σ (36 + 4 * l) k).toInt < (σ (80 + 4 * i) k).toInt then σ (79 + 4 * i) k else σ (35 + 4 * l) k := by
  unfold exC
  rw [if_pos h, if_neg (by omega), if_neg (by omega), if_pos rfl]
theorem exC_q2 {σ : Sg} {i l n k : Nat} (hl : l < 11) (h : k < n) : exC σ i l n (36 + 4 * l) k = if (σ (36 + 4 * l) k).toInt < (σ (80 + 4 * i) k).toInt then σ (80 + 4 * i) k else σ (36 + 4 * l) k := by
  unfold exC
  rw [if_pos h, if_neg (by omega), if_neg (by omega), if_neg (by omega), if_pos rfl]
theorem exC_lo {σ : Sg} {i l n a k : Nat} (h : k ≠ n) : exC σ i l (n + 1) a k = exC σ i l n a k := by
  by_cases z : k < n
  · unfold exC
    rw [if_pos z, if_pos (by omega)]
  · rw [exC_hi (by omega), exC_hi (by omega)]
theorem exC_0 {σ : Sg} {i l : Nat} : exC σ i l 0 = σ := by
  funext a k
  exact exC_hi (by omega)
theorem exC_A {σ : Sg} {i l n : Nat} (hl : l < 11) (h : (σ (36 + 4 * l) n).toInt < (σ (80 + 4 * i) n).toInt) : up2 (up2 (exC σ i l n) (35 + 4 * l) n (σ (79 + 4 * i) n)) (36 + 4 * l) n (σ (80 + 4 * i) n) = exC σ i l (n + 1) := by
  funext a k
  by_cases e : k = n
  · subst e
    by_cases e4 : a = 36 + 4 * l
    · subst e4; rw [up2_y, exC_q2 hl (by omega), if_pos h]
    by_cases e3 : a = 35 + 4 * l
    · subst e3; rw [up2_n (by omega), up2_y, exC_w2 hl (by omega), if_pos h]
    rw [up2_n (by omega), up2_n (by omega), exC_hi (by omega)]
    by_cases e2 : a = 80 + 4 * i
    · subst e2; rw [exC_q1 (by omega), if_neg (by omega)]
    by_cases e1 : a = 79 + 4 * i
    · subst e1; rw [exC_w1 (by omega), if_neg (by omega)]
    rw [exC_o ⟨e1, e2, e3, e4⟩]
  · rw [up2_n (by omega), up2_n (by omega), exC_lo e]
theorem exC_B {σ : Sg} {i l n : Nat} (hl : l < 11) (h : (σ (80 + 4 * i) n).toInt < (σ (36 + 4 * l) n).toInt) : up2 (up2 (exC σ i l n) (79 + 4 * i) n (σ (35 + 4 * l) n)) (80 + 4 * i) n (σ (36 + 4 * l) n) = exC σ i l (n + 1) := by
  funext a k
  by_cases e : k = n
  · subst e
    by_cases e2 : a = 80 + 4 * i
    · subst e2; rw [up2_y, exC_q1 (by omega), if_pos h]
    by_cases e1 : a = 79 + 4 * i
    · subst e1; rw [up2_n (by omega), up2_y, exC_w1 (by omega), if_pos h]
    rw [up2_n (by omega), up2_n (by omega), exC_hi (by omega)]
    by_cases e4 : a = 36 + 4 * l
    · subst e4; rw [exC_q2 hl (by omega), if_neg (by omega)]
    by_cases e3 : a = 35 + 4 * l
    · subst e3; rw [exC_w2 hl (by omega), if_neg (by omega)]
    rw [exC_o ⟨e1, e2, e3, e4⟩]
  · rw [up2_n (by omega), up2_n (by omega), exC_lo e]
theorem exC_N {σ : Sg} {i l n : Nat} (hl : l < 11) (h1 : ¬ (σ (36 + 4 * l) n).toInt < (σ (80 + 4 * i) n).toInt) (h : ¬ (σ (80 + 4 * i) n).toInt < (σ (36 + 4 * l) n).toInt) : exC σ i l n = exC σ i l (n + 1) := by
  funext a k
  by_cases e : k = n
  · subst e
    rw [exC_hi (by omega)]
    by_cases e2 : a = 80 + 4 * i
    · subst e2; rw [exC_q1 (by omega), if_neg h]
    by_cases e1 : a = 79 + 4 * i
    · subst e1; rw [exC_w1 (by omega), if_neg h]
    by_cases e4 : a = 36 + 4 * l
    · subst e4; rw [exC_q2 hl (by omega), if_neg h1]
    by_cases e3 : a = 35 + 4 * l
    · subst e3; rw [exC_w2 hl (by omega), if_neg h1]
    rw [exC_o ⟨e1, e2, e3, e4⟩]
  · rw [exC_lo e]
/-- the same of the reference's rows: m1 the boat's place, m2 the box's -/
def exM (V : Sg) (m1 m2 n : Nat) : Sg := fun a i =>
  if a = 157 ∨ a = 158 then
    (if m1 ≤ i ∧ i < m1 + n then (if (V 158 i).toInt < (V 158 (m2 + (i - m1))).toInt then V a (m2 + (i - m1)) else V a i)
    else if m2 ≤ i ∧ i < m2 + n then (if (V 158 i).toInt < (V 158 (m1 + (i - m2))).toInt then V a (m1 + (i - m2)) else V a i)
    else V a i)
  else V a i
theorem exM_a {V : Sg} {m1 m2 n a i : Nat} (h : ¬ (a = 157 ∨ a = 158)) : exM V m1 m2 n a i = V a i := if_neg h
theorem exM_i {V : Sg} {m1 m2 n a i : Nat} (h : ¬ (m1 ≤ i ∧ i < m1 + n) ∧ ¬ (m2 ≤ i ∧ i < m2 + n)) : exM V m1 m2 n a i = V a i := by
  unfold exM
  rw [if_neg h.1, if_neg h.2]
  split <;> rfl
theorem exM_1 {V : Sg} {m1 m2 n a k : Nat} (ha : a = 157 ∨ a = 158) (h : k < n) : exM V m1 m2 n a (m1 + k) = if (V 158 (m1 + k)).toInt < (V 158 (m2 + k)).toInt then V a (m2 + k) else V a (m1 + k) := by
  unfold exM
  rw [if_pos ha, if_pos (by omega), show m1 + k - m1 = k by omega]
theorem exM_2 {V : Sg} {m1 m2 n a k : Nat} (ha : a = 157 ∨ a = 158) (h : k < n) (hm : m1 + n ≤ m2) : exM V m1 m2 n a (m2 + k) = if (V 158 (m2 + k)).toInt < (V 158 (m1 + k)).toInt then V a (m1 + k) else V a (m2 + k) := by
  unfold exM
  rw [if_pos ha, if_neg (by omega), if_pos (by omega), show m2 + k - m2 = k by omega]
theorem exM_0 {V : Sg} {m1 m2 : Nat} : exM V m1 m2 0 = V := by
  funext a i
  exact exM_i (by omega)
theorem exM_lo {V : Sg} {m1 m2 n a i : Nat} (h1 : i ≠ m1 + n) (h2 : i ≠ m2 + n) : exM V m1 m2 (n + 1) a i = exM V m1 m2 n a i := by
  unfold exM
  by_cases ha : a = 157 ∨ a = 158
  · rw [if_pos ha, if_pos ha]
    by_cases z1 : m1 ≤ i ∧ i < m1 + n
    · rw [if_pos z1, if_pos (by omega)]
    rw [if_neg z1, if_neg (by omega)]
    by_cases z2 : m2 ≤ i ∧ i < m2 + n
    · rw [if_pos z2, if_pos (by omega)]
    rw [if_neg z2, if_neg (by omega)]
  · rw [if_neg ha, if_neg ha]
def hearM (V : Sg) (m p : Nat) : Sg := if (V 158 m).toInt < (V 158 p).toInt then up2 (up2 V 158 m (V 158 p)) 157 m (V 157 p) else V
theorem hear_ex {V : Sg} {m1 m2 n : Nat} (hm : m1 + n < m2) : hearM (hearM (exM V m1 m2 n) (m1 + n) (m2 + n)) (m2 + n) (m1 + n) = exM V m1 m2 (n + 1) := by
  have e1 : ∀ a, exM V m1 m2 n a (m1 + n) = V a (m1 + n) := fun a => exM_i (by omega)
  have e2 : ∀ a, exM V m1 m2 n a (m2 + n) = V a (m2 + n) := fun a => exM_i (by omega)
  have fin : ∀ τ : Sg, (∀ a i, i ≠ m1 + n → i ≠ m2 + n → τ a i = exM V m1 m2 n a i) → (∀ a i, ¬ (a = 157 ∨ a = 158) → τ a i = V a i) →
      (∀ a, (a = 157 ∨ a = 158) → τ a (m1 + n) = if (V 158 (m1 + n)).toInt < (V 158 (m2 + n)).toInt then V a (m2 + n) else V a (m1 + n)) →
      (∀ a, (a = 157 ∨ a = 158) → τ a (m2 + n) = if (V 158 (m2 + n)).toInt < (V 158 (m1 + n)).toInt then V a (m1 + n) else V a (m2 + n)) → τ = exM V m1 m2 (n + 1) := by
    intro τ h1 h2 h3 h4
    funext a i
    by_cases ha : a = 157 ∨ a = 158
    · by_cases z1 : i = m1 + n
      · subst z1; rw [h3 a ha, exM_1 ha (by omega)]
      by_cases z2 : i = m2 + n
      · subst z2; rw [h4 a ha, exM_2 ha (by omega) (by omega)]
      rw [h1 a i z1 z2, exM_lo z1 z2]
    · rw [h2 a i ha, exM_a ha]
  unfold hearM
  rw [e1, e2, e2]
  by_cases c : (V 158 (m1 + n)).toInt < (V 158 (m2 + n)).toInt
  · rw [if_pos c]
    rw [if_neg (by simp (disch := omega) only [up2_n, up2_e, e2]; omega)]
    refine fin _ (fun a i h1 h2 => ?_) (fun a i ha => ?_) (fun a ha => ?_) (fun a ha => ?_)
    · simp (disch := omega) only [up2_n]
    · simp (disch := omega) only [up2_n, exM_a]
    · rw [if_pos c]; rcases ha with rfl | rfl <;> simp (disch := omega) only [up2_n, up2_e]
    · rw [if_neg (by omega)]; rcases ha with rfl | rfl <;> simp (disch := omega) only [up2_n, e2]
  · rw [if_neg c, e1, e2]
    by_cases c2 : (V 158 (m2 + n)).toInt < (V 158 (m1 + n)).toInt
    · rw [if_pos c2, e1]
      refine fin _ (fun a i h1 h2 => ?_) (fun a i ha => ?_) (fun a ha => ?_) (fun a ha => ?_)
      · simp (disch := omega) only [up2_n]
      · simp (disch := omega) only [up2_n, exM_a]
      · rw [if_neg c]; rcases ha with rfl | rfl <;> simp (disch := omega) only [up2_n, e1]
      · rw [if_pos c2]; rcases ha with rfl | rfl <;> simp (disch := omega) only [up2_n, up2_e]
    · rw [if_neg c2]
      refine fin _ (fun a i h1 h2 => rfl) (fun a i ha => exM_a ha) (fun a ha => ?_) (fun a ha => ?_)
      · rw [if_neg c, e1]
      · rw [if_neg c2, e2]
def comeC (σ : Sg) (i l : Nat) : Sg := exC (up2 (up2 σ (77 + 4 * i) 5 0) (77 + 4 * i) 6 (nI l)) i l 10
def comeM (V : Sg) (i l ns : Nat) : Sg := exM (up2 (up2 (up2 V 152 i 0) 153 i (nI l)) 155 i 0) (10 * i) (10 * (5 + l)) ns
section HC
variable {G : Gl} {R : Room} {F : Fn} {K : Int32 → Hp → Prop} {KV : Hp → Prop} {σ : Nat → Nat → Int32} {b : Bool}
theorem lp_ex {i l : Nat} (hi : i < 5) (hl : l < 11) (hE : V G mX10_exchange (rl 2) F 0 0 81 [some (.ref (78 + 4 * i)), some (.ref (34 + 4 * l)), some (.int (nI 10))] [] (exC σ i l 10, sh b)) : ∀ n, n ≤ 10 → ∀ j, j + n = 10 → V G mX10_exchange (rl 2) F 0 0 2 [some (.ref (78 + 4 * i)), some (.ref (34 + 4 * l)), some (.int (nI j))] [] (exC σ i l j, sh b) := by
  intro n
  induction n with
  | zero =>
    intro hx j hj
    obtain rfl : j = 10 := by omega
    refine V_iload_n (pc := 2) d_X10_exchange_2 rfl ?_
    refine V_bipush (pc := 3) (nI 10) d_X10_exchange_3 (by decide) ?_
    refine B_icmp_ge (pc := 5) 81 d_X10_exchange_5 (by decide) (fun c5 => ?_) (fun c5 => ?_)
    · simp (disch := omega) only [show (nI 10).toInt = 10 from by decide, nI_toInt, ti0, ti1, tim1, tim20, tim1000] at c5
      exact hE
    · simp (disch := omega) only [show (nI 10).toInt = 10 from by decide, nI_toInt, ti0, ti1, tim1, tim20, tim1000] at c5
      all_goals omega
  | succ n ih =>
    intro hx j hj
    refine V_iload_n (pc := 2) d_X10_exchange_2 rfl ?_
    refine V_bipush (pc := 3) (nI 10) d_X10_exchange_3 (by decide) ?_
    refine B_icmp_ge (pc := 5) 81 d_X10_exchange_5 (by decide) (fun c5 => ?_) (fun c5 => ?_)
    · simp (disch := omega) only [show (nI 10).toInt = 10 from by decide, nI_toInt, ti0, ti1, tim1, tim20, tim1000] at c5
      all_goals omega
    · simp (disch := omega) only [show (nI 10).toInt = 10 from by decide, nI_toInt, ti0, ti1, tim1, tim20, tim1000] at c5
      refine V_aload_n (pc := 8) d_X10_exchange_8 rfl ?_
      refine P_getR (pc := 9) d_X10_exchange_9 f_X10_15 (tBW b (by omega)) (rBW1 b (by omega)) ?_
      refine V_iload_n (pc := 12) d_X10_exchange_12 rfl ?_
      refine P_iald (pc := 13) (j) d_X10_exchange_13 (tBW1 b (by omega)) rfl (ln_of (lBW1 b (by omega)) ⟨by omega, by decide⟩) ?_
      simp (disch := omega) only [up2_n, up2_e, exC_hi]
      refine V_aload_n (pc := 14) d_X10_exchange_14 rfl ?_
      refine P_getR (pc := 15) d_X10_exchange_15 f_X10_15 (tLW b (by omega)) (rLW1 b (by omega)) ?_
      refine V_iload_n (pc := 18) d_X10_exchange_18 rfl ?_
      refine P_iald (pc := 19) (j) d_X10_exchange_19 (tLW1 b (by omega)) rfl (ln_of (lLW1 b (by omega)) ⟨by omega, by decide⟩) ?_
      simp (disch := omega) only [up2_n, up2_e, exC_hi]
      refine B_icmp_le (pc := 20) 43 d_X10_exchange_20 (by decide) (fun c20 => ?_) (fun c20 => ?_)
      · refine V_aload_n (pc := 43) d_X10_exchange_43 rfl ?_
        refine P_getR (pc := 44) d_X10_exchange_44 f_X10_15 (tBW b (by omega)) (rBW1 b (by omega)) ?_
        refine V_iload_n (pc := 47) d_X10_exchange_47 rfl ?_
        refine P_iald (pc := 48) (j) d_X10_exchange_48 (tBW1 b (by omega)) rfl (ln_of (lBW1 b (by omega)) ⟨by omega, by decide⟩) ?_
        simp (disch := omega) only [up2_n, up2_e, exC_hi]
        refine V_aload_n (pc := 49) d_X10_exchange_49 rfl ?_
        refine P_getR (pc := 50) d_X10_exchange_50 f_X10_15 (tLW b (by omega)) (rLW1 b (by omega)) ?_
        refine V_iload_n (pc := 53) d_X10_exchange_53 rfl ?_
        refine P_iald (pc := 54) (j) d_X10_exchange_54 (tLW1 b (by omega)) rfl (ln_of (lLW1 b (by omega)) ⟨by omega, by decide⟩) ?_
        simp (disch := omega) only [up2_n, up2_e, exC_hi]
        refine B_icmp_ge (pc := 55) 75 d_X10_exchange_55 (by decide) (fun c55 => ?_) (fun c55 => ?_)
        · refine V_iinc (pc := 75) d_X10_exchange_75 rfl (by decide) ?_
          refine V_goto (pc := 78) 2 d_X10_exchange_78 (by decide) ?_
          rw [p1_s]
          first | rw [exC_A hl (by omega)] | rw [exC_B hl (by omega)] | rw [exC_N hl (by omega) (by omega)]
          exact ih (by omega) (j + 1) (by omega)
        · refine V_aload_n (pc := 58) d_X10_exchange_58 rfl ?_
          refine V_iload_n (pc := 59) d_X10_exchange_59 rfl ?_
          refine V_aload_n (pc := 60) d_X10_exchange_60 rfl ?_
          refine P_getR (pc := 61) d_X10_exchange_61 f_X10_9 (tLW b (by omega)) (rLW0 b (by omega)) ?_
          refine V_iload_n (pc := 64) d_X10_exchange_64 rfl ?_
          refine P_iald (pc := 65) (j) d_X10_exchange_65 (tLW0 b (by omega)) rfl (ln_of (lLW0 b (by omega)) ⟨by omega, by decide⟩) ?_
          simp (disch := omega) only [up2_n, up2_e, exC_hi]
          refine V_aload_n (pc := 66) d_X10_exchange_66 rfl ?_
          refine P_getR (pc := 67) d_X10_exchange_67 f_X10_15 (tLW b (by omega)) (rLW1 b (by omega)) ?_
          refine V_iload_n (pc := 70) d_X10_exchange_70 rfl ?_
          refine P_iald (pc := 71) (j) d_X10_exchange_71 (tLW1 b (by omega)) rfl (ln_of (lLW1 b (by omega)) ⟨by omega, by decide⟩) ?_
          simp (disch := omega) only [up2_n, up2_e, exC_hi]
          refine V_cvV (pc := 72) (n := 1) (c := 10) [_, _, _] d_X10_exchange_72 c_X10_30 k_X10_learn ⟨rfl, rfl⟩ (tBW b (by omega)) rfl (Nat.le_of_ble_eq_true rfl) ⟨Nat.le_of_ble_eq_true rfl, Nat.le_of_ble_eq_true rfl⟩ ⟨Nat.le_refl _, Nat.le_refl _⟩ (ct_X10_learn (tBW b (by omega)) (rBW0 b (by omega)) (rBW1 b (by omega)) (tBW0 b (by omega)) (tBW1 b (by omega)) (lBW0 b (by omega)) (lBW1 b (by omega)) (by omega) ?_)
          refine V_iinc (pc := 75) d_X10_exchange_75 rfl (by decide) ?_
          refine V_goto (pc := 78) 2 d_X10_exchange_78 (by decide) ?_
          rw [p1_s]
          first | rw [exC_A hl (by omega)] | rw [exC_B hl (by omega)] | rw [exC_N hl (by omega) (by omega)]
          exact ih (by omega) (j + 1) (by omega)
      · refine V_aload_n (pc := 23) d_X10_exchange_23 rfl ?_
        refine V_iload_n (pc := 24) d_X10_exchange_24 rfl ?_
        refine V_aload_n (pc := 25) d_X10_exchange_25 rfl ?_
        refine P_getR (pc := 26) d_X10_exchange_26 f_X10_9 (tBW b (by omega)) (rBW0 b (by omega)) ?_
        refine V_iload_n (pc := 29) d_X10_exchange_29 rfl ?_
        refine P_iald (pc := 30) (j) d_X10_exchange_30 (tBW0 b (by omega)) rfl (ln_of (lBW0 b (by omega)) ⟨by omega, by decide⟩) ?_
        simp (disch := omega) only [up2_n, up2_e, exC_hi]
        refine V_aload_n (pc := 31) d_X10_exchange_31 rfl ?_
        refine P_getR (pc := 32) d_X10_exchange_32 f_X10_15 (tBW b (by omega)) (rBW1 b (by omega)) ?_
        refine V_iload_n (pc := 35) d_X10_exchange_35 rfl ?_
        refine P_iald (pc := 36) (j) d_X10_exchange_36 (tBW1 b (by omega)) rfl (ln_of (lBW1 b (by omega)) ⟨by omega, by decide⟩) ?_
        simp (disch := omega) only [up2_n, up2_e, exC_hi]
        refine V_cvV (pc := 37) (n := 1) (c := 10) [_, _, _] d_X10_exchange_37 c_X10_30 k_X10_learn ⟨rfl, rfl⟩ (tLW b (by omega)) rfl (Nat.le_of_ble_eq_true rfl) ⟨Nat.le_of_ble_eq_true rfl, Nat.le_of_ble_eq_true rfl⟩ ⟨Nat.le_refl _, Nat.le_refl _⟩ (ct_X10_learn (tLW b (by omega)) (rLW0 b (by omega)) (rLW1 b (by omega)) (tLW0 b (by omega)) (tLW1 b (by omega)) (lLW0 b (by omega)) (lLW1 b (by omega)) (by omega) ?_)
        refine V_goto (pc := 40) 75 d_X10_exchange_40 (by decide) ?_
        refine V_iinc (pc := 75) d_X10_exchange_75 rfl (by decide) ?_
        refine V_goto (pc := 78) 2 d_X10_exchange_78 (by decide) ?_
        rw [p1_s]
        first | rw [exC_A hl (by omega)] | rw [exC_B hl (by omega)] | rw [exC_N hl (by omega) (by omega)]
        exact ih (by omega) (j + 1) (by omega)
theorem ct_X10_exchange {i l : Nat} (hi : i < 5) (hl : l < 11) (hq : KV (exC σ i l 10, sh b)) : CM G mX10_exchange (rl 2) [.ref (78 + 4 * i), .ref (34 + 4 * l)] (σ, sh b) (QV KV) := by
  refine CM.of (by decide) (Nat.le_of_ble_eq_true rfl) (cats1 rfl) ?_
  refine V_iconst (pc := 0) (0) d_X10_exchange_0 (by decide) ?_
  refine V_istore_n (pc := 1) d_X10_exchange_1 (by decide) ?_
  have k := lp_ex (G := G) (F := FM G (rl 2) (QV KV)) (σ := σ) (b := b) hi hl ?_ 10 (Nat.le_refl _) 0 (by omega)
  · rw [exC_0] at k
    exact k
  · exact V_retV (pc := 81) d_X10_exchange_81 rfl ⟨Nat.le_refl _, Nat.le_refl _⟩ hq
theorem ct_X4_comeTo {i l : Nat} (hi : i < 5) (hl : l < 11) (hq : KV (comeC σ i l, sh b)) : CM G mX4_comeTo (rl 3) [.ref 4, .ref (77 + 4 * i), .int (nI l)] (σ, sh b) (QV KV) := by
  refine CM.of (by decide) (Nat.le_of_ble_eq_true rfl) (cats1 rfl) ?_
  refine V_aload_n (pc := 0) d_X4_comeTo_0 rfl ?_
  refine V_iconst (pc := 1) (0) d_X4_comeTo_1 (by decide) ?_
  refine P_putI (pc := 2) d_X4_comeTo_2 f_X4_160 (tB b (by omega)) ?_
  refine V_aload_n (pc := 5) d_X4_comeTo_5 rfl ?_
  refine V_iload_n (pc := 6) d_X4_comeTo_6 rfl ?_
  refine P_putI (pc := 7) d_X4_comeTo_7 f_X4_199 (tB b (by omega)) ?_
  refine V_aload_n (pc := 10) d_X4_comeTo_10 rfl ?_
  refine P_getR (pc := 11) d_X4_comeTo_11 f_X4_170 (tB b (by omega)) (rB9 b (by omega)) ?_
  refine V_aload_n (pc := 14) d_X4_comeTo_14 rfl ?_
  refine P_getR (pc := 15) d_X4_comeTo_15 f_X4_52 (tt_4 b) (rr_4_11 b) ?_
  refine V_iload_n (pc := 18) d_X4_comeTo_18 rfl ?_
  refine P_aald (pc := 19) (c := 3) (l) d_X4_comeTo_19 (tt_8 b) (by decide) rfl (ln_of (ll_8 b) ⟨by omega, by decide⟩) (rLD b (by omega)) ?_
  refine P_getR (pc := 20) d_X4_comeTo_20 f_X4_215 (tLD b (by omega)) (rLD1 b (by omega)) ?_
  refine V_cvV (pc := 23) (n := 2) (c := 10) [_] d_X4_comeTo_23 c_X4_216 k_X10_exchange ⟨rfl, rfl⟩ (tBW b (by omega)) rfl (Nat.le_of_ble_eq_true rfl) ⟨Nat.le_of_ble_eq_true rfl, Nat.le_of_ble_eq_true rfl⟩ ⟨Nat.le_refl _, Nat.le_refl _⟩ (ct_X10_exchange hi hl ?_)
  exact V_retV (pc := 26) d_X4_comeTo_26 rfl ⟨Nat.le_refl _, Nat.le_refl _⟩ hq
theorem ct_X12_hears {m p : Nat} (hm : m < 160) (hp : p < 160) (hne : m ≠ p) (hq : KV (hearM σ m p, sh b)) : CM G mX12_hears (rl 1) [.ref 139, .int (nI m), .int (nI p)] (σ, sh b) (QV KV) := by
  refine CM.of (by decide) (Nat.le_of_ble_eq_true rfl) (cats1 rfl) ?_
  refine V_aload_n (pc := 0) d_X12_hears_0 rfl ?_
  refine P_getR (pc := 1) d_X12_hears_1 f_X12_65 (tt_139 b) (rr_139_22 b) ?_
  refine V_iload_n (pc := 4) d_X12_hears_4 rfl ?_
  refine P_iald (pc := 5) (p) d_X12_hears_5 (tt_158 b) rfl (ln_of (ll_158 b) ⟨by omega, by decide⟩) ?_
  refine V_aload_n (pc := 6) d_X12_hears_6 rfl ?_
  refine P_getR (pc := 7) d_X12_hears_7 f_X12_65 (tt_139 b) (rr_139_22 b) ?_
  refine V_iload_n (pc := 10) d_X12_hears_10 rfl ?_
  refine P_iald (pc := 11) (m) d_X12_hears_11 (tt_158 b) rfl (ln_of (ll_158 b) ⟨by omega, by decide⟩) ?_
  refine B_icmp_le (pc := 12) 39 d_X12_hears_12 (by decide) (fun c12 => ?_) (fun c12 => ?_)
  · exact V_retV (pc := 39) d_X12_hears_39 rfl ⟨Nat.le_refl _, Nat.le_refl _⟩ (by unfold hearM at hq; first | (rw [if_neg (by omega)] at hq; exact hq) | (rw [if_pos (by omega)] at hq; exact hq))
  · refine V_aload_n (pc := 15) d_X12_hears_15 rfl ?_
    refine P_getR (pc := 16) d_X12_hears_16 f_X12_65 (tt_139 b) (rr_139_22 b) ?_
    refine V_iload_n (pc := 19) d_X12_hears_19 rfl ?_
    refine V_aload_n (pc := 20) d_X12_hears_20 rfl ?_
    refine P_getR (pc := 21) d_X12_hears_21 f_X12_65 (tt_139 b) (rr_139_22 b) ?_
    refine V_iload_n (pc := 24) d_X12_hears_24 rfl ?_
    refine P_iald (pc := 25) (p) d_X12_hears_25 (tt_158 b) rfl (ln_of (ll_158 b) ⟨by omega, by decide⟩) ?_
    refine P_iast (pc := 26) (m) d_X12_hears_26 (tt_158 b) rfl (ln_of (ll_158 b) ⟨by omega, by decide⟩) ?_
    refine V_aload_n (pc := 27) d_X12_hears_27 rfl ?_
    refine P_getR (pc := 28) d_X12_hears_28 f_X12_62 (tt_139 b) (rr_139_21 b) ?_
    refine V_iload_n (pc := 31) d_X12_hears_31 rfl ?_
    refine V_aload_n (pc := 32) d_X12_hears_32 rfl ?_
    refine P_getR (pc := 33) d_X12_hears_33 f_X12_62 (tt_139 b) (rr_139_21 b) ?_
    refine V_iload_n (pc := 36) d_X12_hears_36 rfl ?_
    refine P_iald (pc := 37) (p) d_X12_hears_37 (tt_157 b) rfl (ln_of (ll_157 b) ⟨by omega, by decide⟩) ?_
    simp (disch := omega) only [up2_n, up2_e]
    refine P_iast (pc := 38) (m) d_X12_hears_38 (tt_157 b) rfl (ln_of (ll_157 b) ⟨by omega, by decide⟩) ?_
    exact V_retV (pc := 39) d_X12_hears_39 rfl ⟨Nat.le_refl _, Nat.le_refl _⟩ (by unfold hearM at hq; first | (rw [if_neg (by omega)] at hq; exact hq) | (rw [if_pos (by omega)] at hq; exact hq))
theorem lp_come {i l ns : Nat} (hi : i < 5) (hl : l < 11) (hn10 : ns ≤ 10) (hns : σ 139 2 = nI ns) (hE : ∀ z4 z5 : Option Value, V G mX12_comes (rl 2) F 0 0 71 [some (.ref 139), some (.int (nI i)), some (.int (nI l)), some (.int (nI ns)), z4, z5] [] (exM σ (10 * i) (10 * (5 + l)) ns, sh b)) : ∀ n, n ≤ ns → ∀ j, j + n = ns → ∀ z4 z5 : Option Value, V G mX12_comes (rl 2) F 0 0 23 [some (.ref 139), some (.int (nI i)), some (.int (nI l)), some (.int (nI j)), z4, z5] [] (exM σ (10 * i) (10 * (5 + l)) j, sh b) := by
  intro n
  induction n with
  | zero =>
    intro hx j hj z4 z5
    obtain rfl : j = ns := by omega
    refine V_iload_n (pc := 23) d_X12_comes_23 rfl ?_
    refine V_aload_n (pc := 24) d_X12_comes_24 rfl ?_
    refine P_getI (pc := 25) d_X12_comes_25 f_X12_171 (tt_139 b) ?_
    simp (disch := omega) only [up2_n, up2_e, exM_a]
    rw [hns]
    refine B_icmp_ge (pc := 28) 71 d_X12_comes_28 (by decide) (fun c28 => ?_) (fun c28 => ?_)
    · simp (disch := omega) only [nI_toInt, ti0, ti1, tim1, tim20, tim1000] at c28
      exact hE _ _
    · simp (disch := omega) only [nI_toInt, ti0, ti1, tim1, tim20, tim1000] at c28
      all_goals omega
  | succ n ih =>
    intro hx j hj z4 z5
    refine V_iload_n (pc := 23) d_X12_comes_23 rfl ?_
    refine V_aload_n (pc := 24) d_X12_comes_24 rfl ?_
    refine P_getI (pc := 25) d_X12_comes_25 f_X12_171 (tt_139 b) ?_
    simp (disch := omega) only [up2_n, up2_e, exM_a]
    rw [hns]
    refine B_icmp_ge (pc := 28) 71 d_X12_comes_28 (by decide) (fun c28 => ?_) (fun c28 => ?_)
    · simp (disch := omega) only [nI_toInt, ti0, ti1, tim1, tim20, tim1000] at c28
      all_goals omega
    · simp (disch := omega) only [nI_toInt, ti0, ti1, tim1, tim20, tim1000] at c28
      refine V_bipush (pc := 31) (nI 10) d_X12_comes_31 (by decide) ?_
      refine V_iload_n (pc := 33) d_X12_comes_33 rfl ?_
      refine V_imul (pc := 34) d_X12_comes_34 ?_
      refine V_iload_n (pc := 35) d_X12_comes_35 rfl ?_
      refine V_iadd (pc := 36) d_X12_comes_36 ?_
      refine V_istore (pc := 37) d_X12_comes_37 (by decide) ?_
      refine V_bipush (pc := 39) (nI 10) d_X12_comes_39 (by decide) ?_
      refine V_iconst (pc := 41) (nI 5) d_X12_comes_41 (by decide) ?_
      refine V_iload_n (pc := 42) d_X12_comes_42 rfl ?_
      refine V_iadd (pc := 43) d_X12_comes_43 ?_
      refine V_imul (pc := 44) d_X12_comes_44 ?_
      refine V_iload_n (pc := 45) d_X12_comes_45 rfl ?_
      refine V_iadd (pc := 46) d_X12_comes_46 ?_
      refine V_istore (pc := 47) d_X12_comes_47 (by decide) ?_
      rw [show nI 10 * nI i + nI j = nI (10 * i + j) from by simp only [nI_add, pk_mul], show nI 10 * (nI 5 + nI l) + nI j = nI (10 * (5 + l) + j) from by simp only [nI_add, pk_mul]]
      refine V_aload_n (pc := 49) d_X12_comes_49 rfl ?_
      refine V_iload (pc := 50) d_X12_comes_50 rfl ?_
      refine V_iload (pc := 52) d_X12_comes_52 rfl ?_
      refine V_cvV (pc := 54) (n := 1) (c := 12) [_, _] d_X12_comes_54 c_X12_247 k_X12_hears ⟨rfl, rfl⟩ (tt_139 b) rfl (Nat.le_of_ble_eq_true rfl) ⟨Nat.le_of_ble_eq_true rfl, Nat.le_of_ble_eq_true rfl⟩ ⟨Nat.le_refl _, Nat.le_refl _⟩ (ct_X12_hears (by omega) (by omega) (by omega) ?_)
      refine V_aload_n (pc := 57) d_X12_comes_57 rfl ?_
      refine V_iload (pc := 58) d_X12_comes_58 rfl ?_
      refine V_iload (pc := 60) d_X12_comes_60 rfl ?_
      refine V_cvV (pc := 62) (n := 1) (c := 12) [_, _] d_X12_comes_62 c_X12_247 k_X12_hears ⟨rfl, rfl⟩ (tt_139 b) rfl (Nat.le_of_ble_eq_true rfl) ⟨Nat.le_of_ble_eq_true rfl, Nat.le_of_ble_eq_true rfl⟩ ⟨Nat.le_refl _, Nat.le_refl _⟩ (ct_X12_hears (by omega) (by omega) (by omega) ?_)
      refine V_iinc (pc := 65) d_X12_comes_65 rfl (by decide) ?_
      refine V_goto (pc := 68) 23 d_X12_comes_68 (by decide) ?_
      rw [p1_s, hear_ex (by omega)]
      exact ih (by omega) (j + 1) (by omega) _ _
theorem exM_go {Y : MI} {R : Room} {F : Fn} {pc m1 m2 : Nat} {L : List (Option Value)} {S : (Nat → Nat → Option Nat) × (Nat → Nat) × (Nat → Nat) × Nat} (k : V G Y R F 0 0 pc L [] (exM σ m1 m2 0, S)) : V G Y R F 0 0 pc L [] (σ, S) := by
  rw [exM_0] at k
  exact k
theorem ct_X12_comes {i l ns : Nat} (hi : i < 5) (hl : l < 11) (hn10 : ns ≤ 10) (hns : σ 139 2 = nI ns) (hq : KV (comeM σ i l ns, sh b)) : CM G mX12_comes (rl 2) [.ref 139, .int (nI i), .int (nI l)] (σ, sh b) (QV KV) := by
  refine CM.of (by decide) (Nat.le_of_ble_eq_true rfl) (cats1 rfl) ?_
  refine V_aload_n (pc := 0) d_X12_comes_0 rfl ?_
  refine P_getR (pc := 1) d_X12_comes_1 f_X12_47 (tt_139 b) (rr_139_16 b) ?_
  refine V_iload_n (pc := 4) d_X12_comes_4 rfl ?_
  refine V_iconst (pc := 5) (0) d_X12_comes_5 (by decide) ?_
  refine P_iast (pc := 6) (i) d_X12_comes_6 (tt_152 b) rfl (ln_of (ll_152 b) ⟨by omega, by decide⟩) ?_
  refine V_aload_n (pc := 7) d_X12_comes_7 rfl ?_
  refine P_getR (pc := 8) d_X12_comes_8 f_X12_50 (tt_139 b) (rr_139_17 b) ?_
  refine V_iload_n (pc := 11) d_X12_comes_11 rfl ?_
  refine V_iload_n (pc := 12) d_X12_comes_12 rfl ?_
  refine P_iast (pc := 13) (i) d_X12_comes_13 (tt_153 b) rfl (ln_of (ll_153 b) ⟨by omega, by decide⟩) ?_
  refine V_aload_n (pc := 14) d_X12_comes_14 rfl ?_
  refine P_getR (pc := 15) d_X12_comes_15 f_X12_56 (tt_139 b) (rr_139_19 b) ?_
  refine V_iload_n (pc := 18) d_X12_comes_18 rfl ?_
  refine V_iconst (pc := 19) (0) d_X12_comes_19 (by decide) ?_
  refine P_iast (pc := 20) (i) d_X12_comes_20 (tt_155 b) rfl (ln_of (ll_155 b) ⟨by omega, by decide⟩) ?_
  refine V_iconst (pc := 21) (0) d_X12_comes_21 (by decide) ?_
  refine V_istore_n (pc := 22) d_X12_comes_22 (by decide) ?_
  refine exM_go (lp_come (F := FM G (rl 2) (QV KV)) hi hl hn10 (by simp (disch := omega) only [up2_n]; exact hns) (fun z4 z5 => ?_) ns (Nat.le_refl _) 0 (by omega) _ _)
  exact V_retV (pc := 71) d_X12_comes_71 rfl ⟨Nat.le_refl _, Nat.le_refl _⟩ hq
end HC
