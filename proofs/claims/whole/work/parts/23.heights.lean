/-! ===== heights, shifts: the search ahead and behind ===== -/
def dn (p : Nat → Bool) : Nat → Option Nat
  | 0 => if p 0 = true then some 0 else none
  | n + 1 => if p (n + 1) = true then some (n + 1) else dn p n
def un (p : Nat → Bool) (e : Nat) : Nat → Option Nat
  | 0 => none
  | k + 1 => if p (e - (k + 1)) = true then some (e - (k + 1)) else un p e k
theorem dn_yes {p : Nat → Bool} : ∀ {n : Nat}, p n = true → dn p n = some n
  | 0, h => by rw [dn, if_pos h]
  | n + 1, h => by rw [dn, if_pos h]
theorem dn_no0 {p : Nat → Bool} (h : ¬ p 0 = true) : dn p 0 = none := by rw [dn, if_neg h]
theorem dn_no {p : Nat → Bool} {n : Nat} (h : ¬ p (n + 1) = true) : dn p (n + 1) = dn p n := by rw [dn, if_neg h]
theorem un_yes {p : Nat → Bool} {e k : Nat} (h : p (e - (k + 1)) = true) : un p e (k + 1) = some (e - (k + 1)) := by rw [un, if_pos h]
theorem un_no {p : Nat → Bool} {e k : Nat} (h : ¬ p (e - (k + 1)) = true) : un p e (k + 1) = un p e k := by rw [un, if_neg h]
theorem dn_spec {p : Nat → Bool} : ∀ {n y : Nat}, dn p n = some y → y ≤ n ∧ p y = true
  | 0, y, h => by
    unfold dn at h
    split at h
    · cases h; exact ⟨Nat.le_refl _, by assumption⟩
    · cases h
  | n + 1, y, h => by
    unfold dn at h
    split at h
    · cases h; exact ⟨Nat.le_refl _, by assumption⟩
    · have := dn_spec h
      exact ⟨by omega, this.2⟩
theorem un_spec {p : Nat → Bool} {e : Nat} : ∀ {k y : Nat}, un p e k = some y → k ≤ e → e - k ≤ y ∧ y < e ∧ p y = true
  | 0, y, h, _ => by cases h
  | k + 1, y, h, hk => by
    unfold un at h
    split at h
    · cases h; exact ⟨Nat.le_refl _, by omega, by assumption⟩
    · have := un_spec h (by omega)
      exact ⟨by omega, this.2⟩
def told (V : Sg) : Nat → Bool := fun d => V 147 d == 1
def heightS (V : Sg) (d : Nat) : Int32 := match dn (told V) d, un (told V) 100 (100 - d) with
  | none, none => 0
  | some x, none => V 146 x
  | none, some y => V 146 y
  | some x, some y => if x = y then V 146 x else V 146 x + (V 146 y - V 146 x) * (nI d - nI x) / (nI y - nI x)
def shifted (V : Sg) (k : Nat) : Nat → Bool := fun d => V 145 (100 * k + d) == 1
def shiftS (V : Sg) (k d : Nat) : Int32 := match dn (shifted V k) d with
  | none => 0
  | some x => V 144 (100 * k + x)
theorem m1_0 : nI 0 + Int32.ofInt (-1) = -1 := by decide
theorem m1_s (x : Nat) : nI (x + 1) + Int32.ofInt (-1) = nI x := pk_m1 x
theorem p1_s (x : Nat) : nI x + Int32.ofInt 1 = nI (x + 1) := nI_1 x
theorem cH_no {σ V : Sg} {r d : Nat} (h : cH σ r V) (hd : d < 100) : (σ (r + 1) d = -1000) ↔ ¬ told V d = true := by
  rcases h.1 d hd with ⟨h1, h2⟩ | ⟨h1, h2, h3, h4⟩
  · simp [told, h1, h2]
  · simp only [told, h1, h2]
    constructor
    · intro q
      rw [q] at h3
      exact absurd h3 (by decide)
    · intro q
      simp at q
theorem cH_ht {σ V : Sg} {r d : Nat} (h : cH σ r V) (hd : d < 100) (ht : told V d = true) : σ (r + 1) d = V 146 d := by
  rcases h.1 d hd with ⟨h1, h2⟩ | ⟨h1, h2, h3, h4⟩
  · simp [told, h1] at ht
  · exact h2
theorem told_y {σ V : Sg} {r d : Nat} (h : cH σ r V) (hd : d < 100) (hc : ¬ V 147 d = 0) : told V d = true := by
  rcases h.1 d hd with ⟨h1, h2⟩ | ⟨h1, h2, h3, h4⟩
  · exact absurd h1 hc
  · simp [told, h1]
theorem told_n {V : Sg} {d : Nat} (hc : V 147 d = 0) : ¬ told V d = true := by simp [told, hc]
section HC
variable {G : Gl} {R : Room} {F : Fn} {K : Int32 → Hp → Prop} {σ : Nat → Nat → Int32} {b : Bool}
theorem lp_hA_m {d : Nat} (h : V G mX4_heightOn R F 0 0 24 [some (.ref 4), some (.int (nI d)), some (.int (-1)), none, none] [] (σ, sh b)) : V G mX4_heightOn R F 0 0 2 [some (.ref 4), some (.int (nI d)), some (.int (-1)), none, none] [] (σ, sh b) := by
  refine V_iload_n (pc := 2) d_X4_heightOn_2 rfl ?_
  refine B_if_lt (pc := 3) 24 d_X4_heightOn_3 (by decide) (fun c3 => ?_) (fun c3 => ?_)
  · exact h
  · exact absurd (by decide) c3
theorem lp_hA {d : Nat} (hH : cH σ 4 σ) : ∀ x, x < 100 → (∀ y, dn (told σ) x = some y → V G mX4_heightOn R F 0 0 24 [some (.ref 4), some (.int (nI d)), some (.int (nI y)), none, none] [] (σ, sh b)) → (dn (told σ) x = none → V G mX4_heightOn R F 0 0 24 [some (.ref 4), some (.int (nI d)), some (.int (-1)), none, none] [] (σ, sh b)) → V G mX4_heightOn R F 0 0 2 [some (.ref 4), some (.int (nI d)), some (.int (nI x)), none, none] [] (σ, sh b) := by
  intro x
  induction x with
  | zero =>
    intro hx h1 h2
    refine V_iload_n (pc := 2) d_X4_heightOn_2 rfl ?_
    refine B_if_lt (pc := 3) 24 d_X4_heightOn_3 (by decide) (fun c3 => ?_) (fun c3 => ?_)
    · exact absurd c3 (by rw [nI_toInt (by omega)]; omega)
    · refine V_aload_n (pc := 6) d_X4_heightOn_6 rfl ?_
      refine P_getR (pc := 7) d_X4_heightOn_7 f_X4_36 (tt_4 b) (rr_4_8 b) ?_
      refine V_iload_n (pc := 10) d_X4_heightOn_10 rfl ?_
      refine P_iald (pc := 11) (0) d_X4_heightOn_11 (tt_5 b) (by decide) (ln_of (ll_5 b) ⟨by omega, by decide⟩) ?_
      refine V_sipush (pc := 12) (-1000) d_X4_heightOn_12 (by decide) ?_
      refine V_icmp_ne (pc := 15) 24 d_X4_heightOn_15 (by decide) (fun c15 => ?_) (fun c15 => ?_)
      · exact h1 0 (dn_yes (Classical.not_not.mp (fun q => c15 ((cH_no hH (by omega)).mpr q))))
      · refine V_iinc (pc := 18) d_X4_heightOn_18 rfl (by decide) ?_
        refine V_goto (pc := 21) 2 d_X4_heightOn_21 (by decide) ?_
        rw [m1_0]
        exact lp_hA_m (h2 (dn_no0 ((cH_no hH (by omega)).mp c15)))
  | succ x ih =>
    intro hx h1 h2
    refine V_iload_n (pc := 2) d_X4_heightOn_2 rfl ?_
    refine B_if_lt (pc := 3) 24 d_X4_heightOn_3 (by decide) (fun c3 => ?_) (fun c3 => ?_)
    · exact absurd c3 (by rw [nI_toInt (by omega)]; omega)
    · refine V_aload_n (pc := 6) d_X4_heightOn_6 rfl ?_
      refine P_getR (pc := 7) d_X4_heightOn_7 f_X4_36 (tt_4 b) (rr_4_8 b) ?_
      refine V_iload_n (pc := 10) d_X4_heightOn_10 rfl ?_
      refine P_iald (pc := 11) ((x + 1)) d_X4_heightOn_11 (tt_5 b) (by simp only [nI_add, pk_mul, nI_1]) (ln_of (ll_5 b) ⟨by omega, by decide⟩) ?_
      refine V_sipush (pc := 12) (-1000) d_X4_heightOn_12 (by decide) ?_
      refine V_icmp_ne (pc := 15) 24 d_X4_heightOn_15 (by decide) (fun c15 => ?_) (fun c15 => ?_)
      · exact h1 (x + 1) (dn_yes (Classical.not_not.mp (fun q => c15 ((cH_no hH (by omega)).mpr q))))
      · refine V_iinc (pc := 18) d_X4_heightOn_18 rfl (by decide) ?_
        refine V_goto (pc := 21) 2 d_X4_heightOn_21 (by decide) ?_
        rw [m1_s]
        have hn := dn_no ((cH_no hH (by omega)).mp c15)
        exact ih (by omega) (fun y hy => h1 y (hn.trans hy)) (fun hy => h2 (hn.trans hy))
theorem dz {x y : Nat} (hx : x < 100) (hy : y < 100) (h : ¬ x = y) : ¬ nI y - nI x = 0 := by
  intro q
  have e := pk_sub_toInt (a := y) (b := x) (by omega) (by omega)
  rw [q, ti0] at e
  omega
theorem lp_hB {d : Nat} {w : Int32} (hH : cH σ 4 σ) : ∀ k, k ≤ 100 → (∀ y, un (told σ) 100 k = some y → V G mX4_heightOn R F 0 0 50 [some (.ref 4), some (.int (nI d)), some (.int w), some (.int (nI y)), none] [] (σ, sh b)) → (un (told σ) 100 k = none → V G mX4_heightOn R F 0 0 50 [some (.ref 4), some (.int (nI d)), some (.int w), some (.int (nI 100)), none] [] (σ, sh b)) → V G mX4_heightOn R F 0 0 26 [some (.ref 4), some (.int (nI d)), some (.int w), some (.int (nI (100 - k))), none] [] (σ, sh b) := by
  intro k
  induction k with
  | zero =>
    intro hx h1 h2
    refine V_iload_n (pc := 26) d_X4_heightOn_26 rfl ?_
    refine V_bipush (pc := 27) (nI 100) d_X4_heightOn_27 (by decide) ?_
    refine B_icmp_ge (pc := 29) 50 d_X4_heightOn_29 (by decide) (fun c29 => ?_) (fun c29 => ?_)
    · simp (disch := omega) only [show (nI 100).toInt = 100 from by decide, nI_toInt, ti0, ti1, tim1, tim20, tim1000] at c29
      exact h2 rfl
    · simp (disch := omega) only [show (nI 100).toInt = 100 from by decide, nI_toInt, ti0, ti1, tim1, tim20, tim1000] at c29
      omega
  | succ k ih =>
    intro hx h1 h2
    refine V_iload_n (pc := 26) d_X4_heightOn_26 rfl ?_
    refine V_bipush (pc := 27) (nI 100) d_X4_heightOn_27 (by decide) ?_
    refine B_icmp_ge (pc := 29) 50 d_X4_heightOn_29 (by decide) (fun c29 => ?_) (fun c29 => ?_)
    · simp (disch := omega) only [show (nI 100).toInt = 100 from by decide, nI_toInt, ti0, ti1, tim1, tim20, tim1000] at c29
      omega
    · simp (disch := omega) only [show (nI 100).toInt = 100 from by decide, nI_toInt, ti0, ti1, tim1, tim20, tim1000] at c29
      refine V_aload_n (pc := 32) d_X4_heightOn_32 rfl ?_
      refine P_getR (pc := 33) d_X4_heightOn_33 f_X4_36 (tt_4 b) (rr_4_8 b) ?_
      refine V_iload_n (pc := 36) d_X4_heightOn_36 rfl ?_
      refine P_iald (pc := 37) ((100 - (k + 1))) d_X4_heightOn_37 (tt_5 b) (by simp only [nI_add, pk_mul, nI_1]) (ln_of (ll_5 b) ⟨by omega, by decide⟩) ?_
      refine V_sipush (pc := 38) (-1000) d_X4_heightOn_38 (by decide) ?_
      refine V_icmp_ne (pc := 41) 50 d_X4_heightOn_41 (by decide) (fun c41 => ?_) (fun c41 => ?_)
      · exact h1 (100 - (k + 1)) (un_yes (Classical.not_not.mp (fun q => c41 ((cH_no hH (by omega)).mpr q))))
      · refine V_iinc (pc := 44) d_X4_heightOn_44 rfl (by decide) ?_
        refine V_goto (pc := 47) 26 d_X4_heightOn_47 (by decide) ?_
        rw [p1_s, show 100 - (k + 1) + 1 = 100 - k from by omega]
        have hn := un_no ((cH_no hH (by omega)).mp c41)
        exact ih (by omega) (fun y hy => h1 y (hn.trans hy)) (fun hy => h2 (hn.trans hy))
theorem lp_hC_m {d : Nat} (h : V G mX12_heightOf R F 0 0 21 [some (.ref 139), some (.int (nI d)), some (.int (-1)), none] [] (σ, sh b)) : V G mX12_heightOf R F 0 0 2 [some (.ref 139), some (.int (nI d)), some (.int (-1)), none] [] (σ, sh b) := by
  refine V_iload_n (pc := 2) d_X12_heightOf_2 rfl ?_
  refine B_if_lt (pc := 3) 21 d_X12_heightOf_3 (by decide) (fun c3 => ?_) (fun c3 => ?_)
  · exact h
  · exact absurd (by decide) c3
theorem lp_hC {d : Nat} {ρ : Sg} (hH : cH ρ 4 σ) : ∀ x, x < 100 → (∀ y, dn (told σ) x = some y → V G mX12_heightOf R F 0 0 21 [some (.ref 139), some (.int (nI d)), some (.int (nI y)), none] [] (σ, sh b)) → (dn (told σ) x = none → V G mX12_heightOf R F 0 0 21 [some (.ref 139), some (.int (nI d)), some (.int (-1)), none] [] (σ, sh b)) → V G mX12_heightOf R F 0 0 2 [some (.ref 139), some (.int (nI d)), some (.int (nI x)), none] [] (σ, sh b) := by
  intro x
  induction x with
  | zero =>
    intro hx h1 h2
    refine V_iload_n (pc := 2) d_X12_heightOf_2 rfl ?_
    refine B_if_lt (pc := 3) 21 d_X12_heightOf_3 (by decide) (fun c3 => ?_) (fun c3 => ?_)
    · exact absurd c3 (by rw [nI_toInt (by omega)]; omega)
    · refine V_aload_n (pc := 6) d_X12_heightOf_6 rfl ?_
      refine P_getR (pc := 7) d_X12_heightOf_7 f_X12_32 (tt_139 b) (rr_139_10 b) ?_
      refine V_iload_n (pc := 10) d_X12_heightOf_10 rfl ?_
      refine P_zald (pc := 11) (0) d_X12_heightOf_11 (tt_147 b) (by decide) (ln_of (ll_147 b) ⟨by omega, by decide⟩) ?_
      refine V_if_ne (pc := 12) 21 d_X12_heightOf_12 (by decide) (fun c12 => ?_) (fun c12 => ?_)
      · exact h1 0 (dn_yes (told_y hH (by omega) c12))
      · refine V_iinc (pc := 15) d_X12_heightOf_15 rfl (by decide) ?_
        refine V_goto (pc := 18) 2 d_X12_heightOf_18 (by decide) ?_
        rw [m1_0]
        exact lp_hC_m (h2 (dn_no0 (told_n c12)))
  | succ x ih =>
    intro hx h1 h2
    refine V_iload_n (pc := 2) d_X12_heightOf_2 rfl ?_
    refine B_if_lt (pc := 3) 21 d_X12_heightOf_3 (by decide) (fun c3 => ?_) (fun c3 => ?_)
    · exact absurd c3 (by rw [nI_toInt (by omega)]; omega)
    · refine V_aload_n (pc := 6) d_X12_heightOf_6 rfl ?_
      refine P_getR (pc := 7) d_X12_heightOf_7 f_X12_32 (tt_139 b) (rr_139_10 b) ?_
      refine V_iload_n (pc := 10) d_X12_heightOf_10 rfl ?_
      refine P_zald (pc := 11) ((x + 1)) d_X12_heightOf_11 (tt_147 b) (by simp only [nI_add, pk_mul, nI_1]) (ln_of (ll_147 b) ⟨by omega, by decide⟩) ?_
      refine V_if_ne (pc := 12) 21 d_X12_heightOf_12 (by decide) (fun c12 => ?_) (fun c12 => ?_)
      · exact h1 (x + 1) (dn_yes (told_y hH (by omega) c12))
      · refine V_iinc (pc := 15) d_X12_heightOf_15 rfl (by decide) ?_
        refine V_goto (pc := 18) 2 d_X12_heightOf_18 (by decide) ?_
        rw [m1_s]
        have hn := dn_no (told_n c12)
        exact ih (by omega) (fun y hy => h1 y (hn.trans hy)) (fun hy => h2 (hn.trans hy))
theorem lp_hD {d : Nat} {w : Int32} {ρ : Sg} (hH : cH ρ 4 σ) : ∀ k, k ≤ 100 → (∀ y, un (told σ) 100 k = some y → V G mX12_heightOf R F 0 0 44 [some (.ref 139), some (.int (nI d)), some (.int w), some (.int (nI y))] [] (σ, sh b)) → (un (told σ) 100 k = none → V G mX12_heightOf R F 0 0 44 [some (.ref 139), some (.int (nI d)), some (.int w), some (.int (nI 100))] [] (σ, sh b)) → V G mX12_heightOf R F 0 0 23 [some (.ref 139), some (.int (nI d)), some (.int w), some (.int (nI (100 - k)))] [] (σ, sh b) := by
  intro k
  induction k with
  | zero =>
    intro hx h1 h2
    refine V_iload_n (pc := 23) d_X12_heightOf_23 rfl ?_
    refine V_bipush (pc := 24) (nI 100) d_X12_heightOf_24 (by decide) ?_
    refine B_icmp_ge (pc := 26) 44 d_X12_heightOf_26 (by decide) (fun c26 => ?_) (fun c26 => ?_)
    · simp (disch := omega) only [show (nI 100).toInt = 100 from by decide, nI_toInt, ti0, ti1, tim1, tim20, tim1000] at c26
      exact h2 rfl
    · simp (disch := omega) only [show (nI 100).toInt = 100 from by decide, nI_toInt, ti0, ti1, tim1, tim20, tim1000] at c26
      omega
  | succ k ih =>
    intro hx h1 h2
    refine V_iload_n (pc := 23) d_X12_heightOf_23 rfl ?_
    refine V_bipush (pc := 24) (nI 100) d_X12_heightOf_24 (by decide) ?_
    refine B_icmp_ge (pc := 26) 44 d_X12_heightOf_26 (by decide) (fun c26 => ?_) (fun c26 => ?_)
    · simp (disch := omega) only [show (nI 100).toInt = 100 from by decide, nI_toInt, ti0, ti1, tim1, tim20, tim1000] at c26
      omega
    · simp (disch := omega) only [show (nI 100).toInt = 100 from by decide, nI_toInt, ti0, ti1, tim1, tim20, tim1000] at c26
      refine V_aload_n (pc := 29) d_X12_heightOf_29 rfl ?_
      refine P_getR (pc := 30) d_X12_heightOf_30 f_X12_32 (tt_139 b) (rr_139_10 b) ?_
      refine V_iload_n (pc := 33) d_X12_heightOf_33 rfl ?_
      refine P_zald (pc := 34) ((100 - (k + 1))) d_X12_heightOf_34 (tt_147 b) (by simp only [nI_add, pk_mul, nI_1]) (ln_of (ll_147 b) ⟨by omega, by decide⟩) ?_
      refine V_if_ne (pc := 35) 44 d_X12_heightOf_35 (by decide) (fun c35 => ?_) (fun c35 => ?_)
      · exact h1 (100 - (k + 1)) (un_yes (told_y hH (by omega) c35))
      · refine V_iinc (pc := 38) d_X12_heightOf_38 rfl (by decide) ?_
        refine V_goto (pc := 41) 23 d_X12_heightOf_41 (by decide) ?_
        rw [p1_s, show 100 - (k + 1) + 1 = 100 - k from by omega]
        have hn := un_no (told_n c35)
        exact ih (by omega) (fun y hy => h1 y (hn.trans hy)) (fun hy => h2 (hn.trans hy))
theorem ct_X4_heightOn {d : Nat} (hH : cH σ 4 σ) (hd : d < 100) (hq : K (heightS σ d) (σ, sh b)) : CM G mX4_heightOn (rl 1) [.ref 4, .int (nI d)] (σ, sh b) (QI K) := by
  refine CM.of (by decide) (Nat.le_of_ble_eq_true rfl) (cats1 rfl) ?_
  refine V_iload_n (pc := 0) d_X4_heightOn_0 rfl ?_
  refine V_istore_n (pc := 1) d_X4_heightOn_1 (by decide) ?_
  refine lp_hA hH d hd (fun x hA => ?_) (fun hA => ?_)
  · have ha := dn_spec hA
    refine V_iload_n (pc := 24) d_X4_heightOn_24 rfl ?_
    refine V_istore_n (pc := 25) d_X4_heightOn_25 (by decide) ?_
    rw [show d = 100 - (100 - d) from by omega]
    refine lp_hB hH (100 - d) (by omega) (fun y hB => ?_) (fun hB => ?_) <;> rw [show 100 - (100 - d) = d from by omega]
    · have hb := un_spec hB (by omega)
      refine V_iload_n (pc := 50) d_X4_heightOn_50 rfl ?_
      refine B_if_ge (pc := 51) 71 d_X4_heightOn_51 (by decide) (fun c51 => ?_) (fun c51 => ?_)
      · refine V_iload_n (pc := 71) d_X4_heightOn_71 rfl ?_
        refine V_bipush (pc := 72) (nI 100) d_X4_heightOn_72 (by decide) ?_
        refine B_icmp_ge (pc := 74) 82 d_X4_heightOn_74 (by decide) (fun c74 => ?_) (fun c74 => ?_)
        · simp (disch := omega) only [show (nI 100).toInt = 100 from by decide, nI_toInt, ti0, ti1, tim1, tim20, tim1000] at c74
          omega
        · simp (disch := omega) only [show (nI 100).toInt = 100 from by decide, nI_toInt, ti0, ti1, tim1, tim20, tim1000] at c74
          refine V_iload_n (pc := 77) d_X4_heightOn_77 rfl ?_
          refine V_iload_n (pc := 78) d_X4_heightOn_78 rfl ?_
          refine V_icmp_ne (pc := 79) 89 d_X4_heightOn_79 (by decide) (fun c79 => ?_) (fun c79 => ?_)
          · have hxy : ¬ x = y := fun e => c79 (by rw [e])
            refine V_aload_n (pc := 89) d_X4_heightOn_89 rfl ?_
            refine P_getR (pc := 90) d_X4_heightOn_90 f_X4_36 (tt_4 b) (rr_4_8 b) ?_
            refine V_iload_n (pc := 93) d_X4_heightOn_93 rfl ?_
            refine P_iald (pc := 94) (y) d_X4_heightOn_94 (tt_5 b) rfl (ln_of (ll_5 b) ⟨by omega, by decide⟩) ?_
            refine V_aload_n (pc := 95) d_X4_heightOn_95 rfl ?_
            refine P_getR (pc := 96) d_X4_heightOn_96 f_X4_36 (tt_4 b) (rr_4_8 b) ?_
            refine V_iload_n (pc := 99) d_X4_heightOn_99 rfl ?_
            refine P_iald (pc := 100) (x) d_X4_heightOn_100 (tt_5 b) rfl (ln_of (ll_5 b) ⟨by omega, by decide⟩) ?_
            refine V_isub (pc := 101) d_X4_heightOn_101 ?_
            refine V_istore (pc := 102) d_X4_heightOn_102 (by decide) ?_
            refine V_aload_n (pc := 104) d_X4_heightOn_104 rfl ?_
            refine P_getR (pc := 105) d_X4_heightOn_105 f_X4_36 (tt_4 b) (rr_4_8 b) ?_
            refine V_iload_n (pc := 108) d_X4_heightOn_108 rfl ?_
            refine P_iald (pc := 109) (x) d_X4_heightOn_109 (tt_5 b) rfl (ln_of (ll_5 b) ⟨by omega, by decide⟩) ?_
            refine V_iload (pc := 110) d_X4_heightOn_110 rfl ?_
            refine V_iload_n (pc := 112) d_X4_heightOn_112 rfl ?_
            refine V_iload_n (pc := 113) d_X4_heightOn_113 rfl ?_
            refine V_isub (pc := 114) d_X4_heightOn_114 ?_
            refine V_imul (pc := 115) d_X4_heightOn_115 ?_
            refine V_iload_n (pc := 116) d_X4_heightOn_116 rfl ?_
            refine V_iload_n (pc := 117) d_X4_heightOn_117 rfl ?_
            refine V_isub (pc := 118) d_X4_heightOn_118 ?_
            refine V_idiv (pc := 119) d_X4_heightOn_119 (dz (by omega) (by omega) hxy) ?_
            refine V_iadd (pc := 120) d_X4_heightOn_120 ?_
            exact V_retI (pc := 121) d_X4_heightOn_121 rfl ⟨Nat.le_refl _, Nat.le_refl _⟩ (by first | (simp only [show σ 5 x = σ 146 x from cH_ht hH (by omega) ha.2, show σ 5 y = σ 146 y from cH_ht hH (by omega) hb.2.2]; simpa [heightS, hA, hB, hxy] using hq) | (simp only [show σ 5 x = σ 146 x from cH_ht hH (by omega) ha.2]; simpa [heightS, hA, hB, hxy] using hq))
          · have hxy : x = y := ((nI_eq (by omega) (by omega)).mp c79).symm
            refine V_aload_n (pc := 82) d_X4_heightOn_82 rfl ?_
            refine P_getR (pc := 83) d_X4_heightOn_83 f_X4_36 (tt_4 b) (rr_4_8 b) ?_
            refine V_iload_n (pc := 86) d_X4_heightOn_86 rfl ?_
            refine P_iald (pc := 87) (x) d_X4_heightOn_87 (tt_5 b) rfl (ln_of (ll_5 b) ⟨by omega, by decide⟩) ?_
            exact V_retI (pc := 88) d_X4_heightOn_88 rfl ⟨Nat.le_refl _, Nat.le_refl _⟩ (by first | (simp only [show σ 5 x = σ 146 x from cH_ht hH (by omega) ha.2, show σ 5 y = σ 146 y from cH_ht hH (by omega) hb.2.2]; simpa [heightS, hA, hB, hxy] using hq) | (simp only [show σ 5 x = σ 146 x from cH_ht hH (by omega) ha.2]; simpa [heightS, hA, hB, hxy] using hq))
      · exact absurd (by rw [nI_toInt (by omega)]; omega) c51
    · skip
      refine V_iload_n (pc := 50) d_X4_heightOn_50 rfl ?_
      refine B_if_ge (pc := 51) 71 d_X4_heightOn_51 (by decide) (fun c51 => ?_) (fun c51 => ?_)
      · refine V_iload_n (pc := 71) d_X4_heightOn_71 rfl ?_
        refine V_bipush (pc := 72) (nI 100) d_X4_heightOn_72 (by decide) ?_
        refine B_icmp_ge (pc := 74) 82 d_X4_heightOn_74 (by decide) (fun c74 => ?_) (fun c74 => ?_)
        · simp (disch := omega) only [show (nI 100).toInt = 100 from by decide, nI_toInt, ti0, ti1, tim1, tim20, tim1000] at c74
          refine V_aload_n (pc := 82) d_X4_heightOn_82 rfl ?_
          refine P_getR (pc := 83) d_X4_heightOn_83 f_X4_36 (tt_4 b) (rr_4_8 b) ?_
          refine V_iload_n (pc := 86) d_X4_heightOn_86 rfl ?_
          refine P_iald (pc := 87) (x) d_X4_heightOn_87 (tt_5 b) rfl (ln_of (ll_5 b) ⟨by omega, by decide⟩) ?_
          exact V_retI (pc := 88) d_X4_heightOn_88 rfl ⟨Nat.le_refl _, Nat.le_refl _⟩ (by simp only [show σ 5 x = σ 146 x from cH_ht hH (by omega) ha.2]; simpa [heightS, hA, hB] using hq)
        · simp (disch := omega) only [show (nI 100).toInt = 100 from by decide, nI_toInt, ti0, ti1, tim1, tim20, tim1000] at c74
          omega
      · exact absurd (by rw [nI_toInt (by omega)]; omega) c51
  · skip
    refine V_iload_n (pc := 24) d_X4_heightOn_24 rfl ?_
    refine V_istore_n (pc := 25) d_X4_heightOn_25 (by decide) ?_
    rw [show d = 100 - (100 - d) from by omega]
    refine lp_hB hH (100 - d) (by omega) (fun y hB => ?_) (fun hB => ?_) <;> rw [show 100 - (100 - d) = d from by omega]
    · have hb := un_spec hB (by omega)
      refine V_iload_n (pc := 50) d_X4_heightOn_50 rfl ?_
      refine B_if_ge (pc := 51) 71 d_X4_heightOn_51 (by decide) (fun c51 => ?_) (fun c51 => ?_)
      · exact absurd c51 (by decide)
      · refine V_iload_n (pc := 54) d_X4_heightOn_54 rfl ?_
        refine V_bipush (pc := 55) (nI 100) d_X4_heightOn_55 (by decide) ?_
        refine B_icmp_ge (pc := 57) 69 d_X4_heightOn_57 (by decide) (fun c57 => ?_) (fun c57 => ?_)
        · simp (disch := omega) only [show (nI 100).toInt = 100 from by decide, nI_toInt, ti0, ti1, tim1, tim20, tim1000] at c57
          omega
        · simp (disch := omega) only [show (nI 100).toInt = 100 from by decide, nI_toInt, ti0, ti1, tim1, tim20, tim1000] at c57
          refine V_aload_n (pc := 60) d_X4_heightOn_60 rfl ?_
          refine P_getR (pc := 61) d_X4_heightOn_61 f_X4_36 (tt_4 b) (rr_4_8 b) ?_
          refine V_iload_n (pc := 64) d_X4_heightOn_64 rfl ?_
          refine P_iald (pc := 65) (y) d_X4_heightOn_65 (tt_5 b) rfl (ln_of (ll_5 b) ⟨by omega, by decide⟩) ?_
          refine V_goto (pc := 66) 70 d_X4_heightOn_66 (by decide) ?_
          exact V_retI (pc := 70) d_X4_heightOn_70 rfl ⟨Nat.le_refl _, Nat.le_refl _⟩ (by simp only [show σ 5 y = σ 146 y from cH_ht hH (by omega) hb.2.2]; simpa [heightS, hA, hB] using hq)
    · skip
      refine V_iload_n (pc := 50) d_X4_heightOn_50 rfl ?_
      refine B_if_ge (pc := 51) 71 d_X4_heightOn_51 (by decide) (fun c51 => ?_) (fun c51 => ?_)
      · exact absurd c51 (by decide)
      · refine V_iload_n (pc := 54) d_X4_heightOn_54 rfl ?_
        refine V_bipush (pc := 55) (nI 100) d_X4_heightOn_55 (by decide) ?_
        refine B_icmp_ge (pc := 57) 69 d_X4_heightOn_57 (by decide) (fun c57 => ?_) (fun c57 => ?_)
        · simp (disch := omega) only [show (nI 100).toInt = 100 from by decide, nI_toInt, ti0, ti1, tim1, tim20, tim1000] at c57
          refine V_iconst (pc := 69) (0) d_X4_heightOn_69 (by decide) ?_
          exact V_retI (pc := 70) d_X4_heightOn_70 rfl ⟨Nat.le_refl _, Nat.le_refl _⟩ (by simpa [heightS, hA, hB] using hq)
        · simp (disch := omega) only [show (nI 100).toInt = 100 from by decide, nI_toInt, ti0, ti1, tim1, tim20, tim1000] at c57
          omega
theorem ct_X12_heightOf {d : Nat} {ρ : Sg} (hH : cH ρ 4 σ) (hd : d < 100) (hq : K (heightS σ d) (σ, sh b)) : CM G mX12_heightOf (rl 1) [.ref 139, .int (nI d)] (σ, sh b) (QI K) := by
  refine CM.of (by decide) (Nat.le_of_ble_eq_true rfl) (cats1 rfl) ?_
  refine V_iload_n (pc := 0) d_X12_heightOf_0 rfl ?_
  refine V_istore_n (pc := 1) d_X12_heightOf_1 (by decide) ?_
  refine lp_hC hH d hd (fun x hA => ?_) (fun hA => ?_)
  · have ha := dn_spec hA
    refine V_iload_n (pc := 21) d_X12_heightOf_21 rfl ?_
    refine V_istore_n (pc := 22) d_X12_heightOf_22 (by decide) ?_
    rw [show d = 100 - (100 - d) from by omega]
    refine lp_hD hH (100 - d) (by omega) (fun y hB => ?_) (fun hB => ?_) <;> rw [show 100 - (100 - d) = d from by omega]
    · have hb := un_spec hB (by omega)
      refine V_iload_n (pc := 44) d_X12_heightOf_44 rfl ?_
      refine B_if_lt (pc := 45) 54 d_X12_heightOf_45 (by decide) (fun c45 => ?_) (fun c45 => ?_)
      · exact absurd c45 (by rw [nI_toInt (by omega)]; omega)
      · refine V_iload_n (pc := 48) d_X12_heightOf_48 rfl ?_
        refine V_bipush (pc := 49) (nI 100) d_X12_heightOf_49 (by decide) ?_
        refine V_icmp_ne (pc := 51) 84 d_X12_heightOf_51 (by decide) (fun c51 => ?_) (fun c51 => ?_)
        · refine V_iload_n (pc := 84) d_X12_heightOf_84 rfl ?_
          refine V_iload_n (pc := 85) d_X12_heightOf_85 rfl ?_
          refine V_icmp_ne (pc := 86) 98 d_X12_heightOf_86 (by decide) (fun c86 => ?_) (fun c86 => ?_)
          · have hxy : ¬ x = y := fun e => c86 (by rw [e])
            refine V_aload_n (pc := 98) d_X12_heightOf_98 rfl ?_
            refine P_getR (pc := 99) d_X12_heightOf_99 f_X12_29 (tt_139 b) (rr_139_9 b) ?_
            refine V_iload_n (pc := 102) d_X12_heightOf_102 rfl ?_
            refine P_iald (pc := 103) (x) d_X12_heightOf_103 (tt_146 b) rfl (ln_of (ll_146 b) ⟨by omega, by decide⟩) ?_
            refine V_aload_n (pc := 104) d_X12_heightOf_104 rfl ?_
            refine P_getR (pc := 105) d_X12_heightOf_105 f_X12_29 (tt_139 b) (rr_139_9 b) ?_
            refine V_iload_n (pc := 108) d_X12_heightOf_108 rfl ?_
            refine P_iald (pc := 109) (y) d_X12_heightOf_109 (tt_146 b) rfl (ln_of (ll_146 b) ⟨by omega, by decide⟩) ?_
            refine V_aload_n (pc := 110) d_X12_heightOf_110 rfl ?_
            refine P_getR (pc := 111) d_X12_heightOf_111 f_X12_29 (tt_139 b) (rr_139_9 b) ?_
            refine V_iload_n (pc := 114) d_X12_heightOf_114 rfl ?_
            refine P_iald (pc := 115) (x) d_X12_heightOf_115 (tt_146 b) rfl (ln_of (ll_146 b) ⟨by omega, by decide⟩) ?_
            refine V_isub (pc := 116) d_X12_heightOf_116 ?_
            refine V_iload_n (pc := 117) d_X12_heightOf_117 rfl ?_
            refine V_iload_n (pc := 118) d_X12_heightOf_118 rfl ?_
            refine V_isub (pc := 119) d_X12_heightOf_119 ?_
            refine V_imul (pc := 120) d_X12_heightOf_120 ?_
            refine V_iload_n (pc := 121) d_X12_heightOf_121 rfl ?_
            refine V_iload_n (pc := 122) d_X12_heightOf_122 rfl ?_
            refine V_isub (pc := 123) d_X12_heightOf_123 ?_
            refine V_idiv (pc := 124) d_X12_heightOf_124 (dz (by omega) (by omega) hxy) ?_
            refine V_iadd (pc := 125) d_X12_heightOf_125 ?_
            exact V_retI (pc := 126) d_X12_heightOf_126 rfl ⟨Nat.le_refl _, Nat.le_refl _⟩ (by simpa [heightS, hA, hB, hxy] using hq)
          · have hxy : x = y := ((nI_eq (by omega) (by omega)).mp c86)
            refine V_aload_n (pc := 89) d_X12_heightOf_89 rfl ?_
            refine P_getR (pc := 90) d_X12_heightOf_90 f_X12_29 (tt_139 b) (rr_139_9 b) ?_
            refine V_iload_n (pc := 93) d_X12_heightOf_93 rfl ?_
            refine P_iald (pc := 94) (x) d_X12_heightOf_94 (tt_146 b) rfl (ln_of (ll_146 b) ⟨by omega, by decide⟩) ?_
            refine V_goto (pc := 95) 126 d_X12_heightOf_95 (by decide) ?_
            exact V_retI (pc := 126) d_X12_heightOf_126 rfl ⟨Nat.le_refl _, Nat.le_refl _⟩ (by simpa [heightS, hA, hB, hxy] using hq)
        · exact absurd ((nI_eq (by omega) (by omega)).mp c51) (by omega)
    · skip
      refine V_iload_n (pc := 44) d_X12_heightOf_44 rfl ?_
      refine B_if_lt (pc := 45) 54 d_X12_heightOf_45 (by decide) (fun c45 => ?_) (fun c45 => ?_)
      · exact absurd c45 (by rw [nI_toInt (by omega)]; omega)
      · refine V_iload_n (pc := 48) d_X12_heightOf_48 rfl ?_
        refine V_bipush (pc := 49) (nI 100) d_X12_heightOf_49 (by decide) ?_
        refine V_icmp_ne (pc := 51) 84 d_X12_heightOf_51 (by decide) (fun c51 => ?_) (fun c51 => ?_)
        · exact absurd rfl c51
        · refine V_iload_n (pc := 54) d_X12_heightOf_54 rfl ?_
          refine B_if_lt (pc := 55) 67 d_X12_heightOf_55 (by decide) (fun c55 => ?_) (fun c55 => ?_)
          · exact absurd c55 (by rw [nI_toInt (by omega)]; omega)
          · refine V_aload_n (pc := 58) d_X12_heightOf_58 rfl ?_
            refine P_getR (pc := 59) d_X12_heightOf_59 f_X12_29 (tt_139 b) (rr_139_9 b) ?_
            refine V_iload_n (pc := 62) d_X12_heightOf_62 rfl ?_
            refine P_iald (pc := 63) (x) d_X12_heightOf_63 (tt_146 b) rfl (ln_of (ll_146 b) ⟨by omega, by decide⟩) ?_
            refine V_goto (pc := 64) 83 d_X12_heightOf_64 (by decide) ?_
            exact V_retI (pc := 83) d_X12_heightOf_83 rfl ⟨Nat.le_refl _, Nat.le_refl _⟩ (by simpa [heightS, hA, hB] using hq)
  · skip
    refine V_iload_n (pc := 21) d_X12_heightOf_21 rfl ?_
    refine V_istore_n (pc := 22) d_X12_heightOf_22 (by decide) ?_
    rw [show d = 100 - (100 - d) from by omega]
    refine lp_hD hH (100 - d) (by omega) (fun y hB => ?_) (fun hB => ?_) <;> rw [show 100 - (100 - d) = d from by omega]
    · have hb := un_spec hB (by omega)
      refine V_iload_n (pc := 44) d_X12_heightOf_44 rfl ?_
      refine B_if_lt (pc := 45) 54 d_X12_heightOf_45 (by decide) (fun c45 => ?_) (fun c45 => ?_)
      · refine V_iload_n (pc := 54) d_X12_heightOf_54 rfl ?_
        refine B_if_lt (pc := 55) 67 d_X12_heightOf_55 (by decide) (fun c55 => ?_) (fun c55 => ?_)
        · refine V_iload_n (pc := 67) d_X12_heightOf_67 rfl ?_
          refine V_bipush (pc := 68) (nI 100) d_X12_heightOf_68 (by decide) ?_
          refine B_icmp_ge (pc := 70) 82 d_X12_heightOf_70 (by decide) (fun c70 => ?_) (fun c70 => ?_)
          · simp (disch := omega) only [show (nI 100).toInt = 100 from by decide, nI_toInt, ti0, ti1, tim1, tim20, tim1000] at c70
            omega
          · simp (disch := omega) only [show (nI 100).toInt = 100 from by decide, nI_toInt, ti0, ti1, tim1, tim20, tim1000] at c70
            refine V_aload_n (pc := 73) d_X12_heightOf_73 rfl ?_
            refine P_getR (pc := 74) d_X12_heightOf_74 f_X12_29 (tt_139 b) (rr_139_9 b) ?_
            refine V_iload_n (pc := 77) d_X12_heightOf_77 rfl ?_
            refine P_iald (pc := 78) (y) d_X12_heightOf_78 (tt_146 b) rfl (ln_of (ll_146 b) ⟨by omega, by decide⟩) ?_
            refine V_goto (pc := 79) 83 d_X12_heightOf_79 (by decide) ?_
            exact V_retI (pc := 83) d_X12_heightOf_83 rfl ⟨Nat.le_refl _, Nat.le_refl _⟩ (by simpa [heightS, hA, hB] using hq)
        · exact absurd (by decide) c55
      · exact absurd (by decide) c45
    · skip
      refine V_iload_n (pc := 44) d_X12_heightOf_44 rfl ?_
      refine B_if_lt (pc := 45) 54 d_X12_heightOf_45 (by decide) (fun c45 => ?_) (fun c45 => ?_)
      · refine V_iload_n (pc := 54) d_X12_heightOf_54 rfl ?_
        refine B_if_lt (pc := 55) 67 d_X12_heightOf_55 (by decide) (fun c55 => ?_) (fun c55 => ?_)
        · refine V_iload_n (pc := 67) d_X12_heightOf_67 rfl ?_
          refine V_bipush (pc := 68) (nI 100) d_X12_heightOf_68 (by decide) ?_
          refine B_icmp_ge (pc := 70) 82 d_X12_heightOf_70 (by decide) (fun c70 => ?_) (fun c70 => ?_)
          · simp (disch := omega) only [show (nI 100).toInt = 100 from by decide, nI_toInt, ti0, ti1, tim1, tim20, tim1000] at c70
            refine V_iconst (pc := 82) (0) d_X12_heightOf_82 (by decide) ?_
            exact V_retI (pc := 83) d_X12_heightOf_83 rfl ⟨Nat.le_refl _, Nat.le_refl _⟩ (by simpa [heightS, hA, hB] using hq)
          · simp (disch := omega) only [show (nI 100).toInt = 100 from by decide, nI_toInt, ti0, ti1, tim1, tim20, tim1000] at c70
            omega
        · exact absurd (by decide) c55
      · exact absurd (by decide) c45
end HC
