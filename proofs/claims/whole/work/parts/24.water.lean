theorem nI_eq0 {n : Nat} (h : n < 2 ^ 31) : nI n = 0 ↔ n = 0 := by rw [← nI_0, nI_eq h (by decide)]
theorem nI_eq1 {n : Nat} (h : n < 2 ^ 31) : nI n = 1 ↔ n = 1 := by rw [show (1 : Int32) = nI 1 from by decide, nI_eq h (by decide)]
theorem nI_e0n {n : Nat} (h : n < 2 ^ 31) : (0 : Int32) = nI n ↔ n = 0 := by rw [eq_comm, nI_eq0 h]
theorem nI_e1n {n : Nat} (h : n < 2 ^ 31) : (1 : Int32) = nI n ↔ n = 1 := by rw [eq_comm, nI_eq1 h]
def waterS (V : Sg) (k d : Nat) : Int32 := if V 140 k = nI 4 then V 142 k else if V 140 k = nI 5 ∧ ¬ V 148 d = 0 then 0 else V 142 k + heightS V d - shiftS V k d
def baseS (V : Sg) (k d : Nat) : Int32 := if V 140 k = nI 2 ∧ ¬ (heightS V d).toInt < 20 then (V 141 k + 1) / nI 2 else V 141 k
def longS (V : Sg) (k d : Nat) (n : Int32) : Int32 := baseS V k d + (if V 140 k = nI 4 then nI 4 else 0) + (if V 140 k = nI 3 ∧ ¬ n = 0 ∧ V 143 k = 0 then nI 8 else 0)
def draS (V : Sg) (i n : Nat) : Int32 := V 149 i + aboS V i n / nI 10
theorem cS_f {σ V : Sg} {ns k : Nat} (h : cS σ 4 V ns) (hk : k < ns) : σ (13 + 2 * k) 0 = nI k ∧ σ (13 + 2 * k) 1 = V 140 k ∧ σ (13 + 2 * k) 2 = V 141 k ∧ σ (13 + 2 * k) 3 = V 142 k ∧ σ (13 + 2 * k) 4 = V 143 k := (h k hk).1
theorem cS_d {σ V : Sg} {ns k d : Nat} (h : cS σ 4 V ns) (hk : k < ns) (hd : d < 100) : (V 145 (100 * k + d) = 0 ∧ σ (14 + 2 * k) d = -1000) ∨ (V 145 (100 * k + d) = 1 ∧ σ (14 + 2 * k) d = V 144 (100 * k + d) ∧ -20 ≤ (V 144 (100 * k + d)).toInt ∧ (V 144 (100 * k + d)).toInt ≤ 20 ∧ (V 140 k = 1 ∨ V 140 k = nI 3)) := (h k hk).2.2.2.2.2 d hd
theorem cS_no {σ V : Sg} {ns k d : Nat} (h : cS σ 4 V ns) (hk : k < ns) (hd : d < 100) : (σ (14 + 2 * k) d = -1000) ↔ ¬ shifted V k d = true := by
  rcases cS_d h hk hd with ⟨h1, h2⟩ | ⟨h1, h2, h3, h4⟩
  · simp [shifted, h1, h2]
  · simp only [shifted, h1, h2]
    constructor
    · intro q
      rw [q] at h3
      exact absurd h3 (by decide)
    · intro q
      simp at q
theorem cS_sh {σ V : Sg} {ns k d : Nat} (h : cS σ 4 V ns) (hk : k < ns) (hd : d < 100) (ht : shifted V k d = true) : σ (14 + 2 * k) d = V 144 (100 * k + d) := by
  rcases cS_d h hk hd with ⟨h1, h2⟩ | ⟨h1, h2, h3, h4⟩
  · simp [shifted, h1] at ht
  · exact h2
theorem cS_y {σ V : Sg} {ns k d : Nat} (h : cS σ 4 V ns) (hk : k < ns) (hd : d < 100) (hc : ¬ V 145 (100 * k + d) = 0) : shifted V k d = true := by
  rcases cS_d h hk hd with ⟨h1, h2⟩ | ⟨h1, h2, h3, h4⟩
  · exact absurd h1 hc
  · simp [shifted, h1]
theorem cS_n {V : Sg} {k d : Nat} (hc : V 145 (100 * k + d) = 0) : ¬ shifted V k d = true := by simp [shifted, hc]
theorem cS_bar {σ V : Sg} {ns k : Nat} (h : cS σ 4 V ns) (hk : k < ns) (hb : ¬ (V 140 k = 1 ∨ V 140 k = nI 3)) : ∀ d, d < 100 → dn (shifted V k) d = none := by
  intro d
  induction d with
  | zero =>
    intro hd
    refine dn_no0 (fun q => ?_)
    rcases cS_d h hk hd with ⟨h1, h2⟩ | ⟨h1, h2, h3, h4, h5⟩
    · exact cS_n h1 q
    · exact hb h5
  | succ d ih =>
    intro hd
    rw [dn_no (fun q => ?_)]
    · exact ih (by omega)
    · rcases cS_d h hk hd with ⟨h1, h2⟩ | ⟨h1, h2, h3, h4, h5⟩
      · exact cS_n h1 q
      · exact hb h5
section HC
variable {G : Gl} {R : Room} {F : Fn} {K : Int32 → Hp → Prop} {KV : Hp → Prop} {σ : Nat → Nat → Int32} {b : Bool}
theorem lp_sA_m {d k : Nat} (h : V G mX7_shiftOn (rl 1) F 0 0 24 [some (.ref (13 + 2 * k)), some (.int (nI d)), some (.int (-1))] [] (σ, sh b)) : V G mX7_shiftOn (rl 1) F 0 0 2 [some (.ref (13 + 2 * k)), some (.int (nI d)), some (.int (-1))] [] (σ, sh b) := by
  refine V_iload_n (pc := 2) d_X7_shiftOn_2 rfl ?_
  refine B_if_lt (pc := 3) 24 d_X7_shiftOn_3 (by decide) (fun c3 => ?_) (fun c3 => ?_)
  · exact h
  · exact absurd (by decide) c3
theorem lp_sA {d k ns : Nat} (hS : cS σ 4 σ ns) (hk : k < ns) (hn10 : ns ≤ 10) : ∀ x, x < 100 → (∀ y, dn (shifted σ k) x = some y → V G mX7_shiftOn (rl 1) F 0 0 24 [some (.ref (13 + 2 * k)), some (.int (nI d)), some (.int (nI y))] [] (σ, sh b)) → (dn (shifted σ k) x = none → V G mX7_shiftOn (rl 1) F 0 0 24 [some (.ref (13 + 2 * k)), some (.int (nI d)), some (.int (-1))] [] (σ, sh b)) → V G mX7_shiftOn (rl 1) F 0 0 2 [some (.ref (13 + 2 * k)), some (.int (nI d)), some (.int (nI x))] [] (σ, sh b) := by
  intro x
  induction x with
  | zero =>
    intro hx h1 h2
    refine V_iload_n (pc := 2) d_X7_shiftOn_2 rfl ?_
    refine B_if_lt (pc := 3) 24 d_X7_shiftOn_3 (by decide) (fun c3 => ?_) (fun c3 => ?_)
    · exact absurd c3 (by rw [nI_toInt (by omega)]; omega)
    · refine V_aload_n (pc := 6) d_X7_shiftOn_6 rfl ?_
      refine P_getR (pc := 7) d_X7_shiftOn_7 f_X7_28 (tS b (by omega)) (rS5 b (by omega)) ?_
      refine V_iload_n (pc := 10) d_X7_shiftOn_10 rfl ?_
      refine P_iald (pc := 11) (0) d_X7_shiftOn_11 (tS5 b (by omega)) (by decide) (ln_of (lS5 b (by omega)) ⟨by omega, by decide⟩) ?_
      refine V_sipush (pc := 12) (-1000) d_X7_shiftOn_12 (by decide) ?_
      refine V_icmp_ne (pc := 15) 24 d_X7_shiftOn_15 (by decide) (fun c15 => ?_) (fun c15 => ?_)
      · exact h1 0 (dn_yes (Classical.not_not.mp (fun q => c15 ((cS_no hS hk (by omega)).mpr q))))
      · refine V_iinc (pc := 18) d_X7_shiftOn_18 rfl (by decide) ?_
        refine V_goto (pc := 21) 2 d_X7_shiftOn_21 (by decide) ?_
        rw [m1_0]
        exact lp_sA_m (h2 (dn_no0 ((cS_no hS hk (by omega)).mp c15)))
  | succ x ih =>
    intro hx h1 h2
    refine V_iload_n (pc := 2) d_X7_shiftOn_2 rfl ?_
    refine B_if_lt (pc := 3) 24 d_X7_shiftOn_3 (by decide) (fun c3 => ?_) (fun c3 => ?_)
    · exact absurd c3 (by rw [nI_toInt (by omega)]; omega)
    · refine V_aload_n (pc := 6) d_X7_shiftOn_6 rfl ?_
      refine P_getR (pc := 7) d_X7_shiftOn_7 f_X7_28 (tS b (by omega)) (rS5 b (by omega)) ?_
      refine V_iload_n (pc := 10) d_X7_shiftOn_10 rfl ?_
      refine P_iald (pc := 11) ((x + 1)) d_X7_shiftOn_11 (tS5 b (by omega)) (by simp only [nI_add, pk_mul, nI_1]) (ln_of (lS5 b (by omega)) ⟨by omega, by decide⟩) ?_
      refine V_sipush (pc := 12) (-1000) d_X7_shiftOn_12 (by decide) ?_
      refine V_icmp_ne (pc := 15) 24 d_X7_shiftOn_15 (by decide) (fun c15 => ?_) (fun c15 => ?_)
      · exact h1 (x + 1) (dn_yes (Classical.not_not.mp (fun q => c15 ((cS_no hS hk (by omega)).mpr q))))
      · refine V_iinc (pc := 18) d_X7_shiftOn_18 rfl (by decide) ?_
        refine V_goto (pc := 21) 2 d_X7_shiftOn_21 (by decide) ?_
        rw [m1_s]
        have hn := dn_no ((cS_no hS hk (by omega)).mp c15)
        exact ih (by omega) (fun y hy => h1 y (hn.trans hy)) (fun hy => h2 (hn.trans hy))
theorem ct_X7_shiftOn {d k ns : Nat} (hS : cS σ 4 σ ns) (hk : k < ns) (hn10 : ns ≤ 10) (hd : d < 100) (hq : K (shiftS σ k d) (σ, sh b)) : CM G mX7_shiftOn (rl 1) [.ref (13 + 2 * k), .int (nI d)] (σ, sh b) (QI K) := by
  refine CM.of (by decide) (Nat.le_of_ble_eq_true rfl) (cats1 rfl) ?_
  refine V_iload_n (pc := 0) d_X7_shiftOn_0 rfl ?_
  refine V_istore_n (pc := 1) d_X7_shiftOn_1 (by decide) ?_
  refine lp_sA hS hk hn10 d hd (fun x hA => ?_) (fun hA => ?_)
  · have ha := dn_spec hA
    refine V_iload_n (pc := 24) d_X7_shiftOn_24 rfl ?_
    refine B_if_lt (pc := 25) 37 d_X7_shiftOn_25 (by decide) (fun c25 => ?_) (fun c25 => ?_)
    · exact absurd c25 (by rw [nI_toInt (by omega)]; omega)
    · refine V_aload_n (pc := 28) d_X7_shiftOn_28 rfl ?_
      refine P_getR (pc := 29) d_X7_shiftOn_29 f_X7_28 (tS b (by omega)) (rS5 b (by omega)) ?_
      refine V_iload_n (pc := 32) d_X7_shiftOn_32 rfl ?_
      refine P_iald (pc := 33) (x) d_X7_shiftOn_33 (tS5 b (by omega)) rfl (ln_of (lS5 b (by omega)) ⟨by omega, by decide⟩) ?_
      refine V_goto (pc := 34) 38 d_X7_shiftOn_34 (by decide) ?_
      exact V_retI (pc := 38) d_X7_shiftOn_38 rfl ⟨Nat.le_refl _, Nat.le_refl _⟩ (by rw [cS_sh hS hk (by omega) ha.2]; simpa [shiftS, hA] using hq)
  · skip
    refine V_iload_n (pc := 24) d_X7_shiftOn_24 rfl ?_
    refine B_if_lt (pc := 25) 37 d_X7_shiftOn_25 (by decide) (fun c25 => ?_) (fun c25 => ?_)
    · refine V_iconst (pc := 37) (0) d_X7_shiftOn_37 (by decide) ?_
      exact V_retI (pc := 38) d_X7_shiftOn_38 rfl ⟨Nat.le_refl _, Nat.le_refl _⟩ (by simpa [shiftS, hA] using hq)
    · exact absurd (by decide) c25
theorem ct_X12_isBar {k : Nat} (hk : k < 10) (hq : K (if σ 140 k = 1 ∨ σ 140 k = nI 3 then 1 else 0) (σ, sh b)) : CM G mX12_isBar (rl 1) [.ref 139, .int (nI k)] (σ, sh b) (QI K) := by
  refine CM.of (by decide) (Nat.le_of_ble_eq_true rfl) (cats1 rfl) ?_
  refine V_aload_n (pc := 0) d_X12_isBar_0 rfl ?_
  refine P_getR (pc := 1) d_X12_isBar_1 f_X12_7 (tt_139 b) (rr_139_3 b) ?_
  refine V_iload_n (pc := 4) d_X12_isBar_4 rfl ?_
  refine P_iald (pc := 5) (k) d_X12_isBar_5 (tt_140 b) rfl (ln_of (ll_140 b) ⟨by omega, by decide⟩) ?_
  refine V_iconst (pc := 6) (1) d_X12_isBar_6 (by decide) ?_
  refine V_icmp_eq (pc := 7) 20 d_X12_isBar_7 (by decide) (fun c7 => ?_) (fun c7 => ?_)
  · refine V_iconst (pc := 20) (1) d_X12_isBar_20 (by decide) ?_
    refine V_goto (pc := 21) 25 d_X12_isBar_21 (by decide) ?_
    exact V_retZ (pc := 25) d_X12_isBar_25 rfl (by first | exact Or.inl rfl | exact Or.inr rfl | exact z01) ⟨Nat.le_refl _, Nat.le_refl _⟩ (by simpa [c7] using hq)
  · refine V_aload_n (pc := 10) d_X12_isBar_10 rfl ?_
    refine P_getR (pc := 11) d_X12_isBar_11 f_X12_7 (tt_139 b) (rr_139_3 b) ?_
    refine V_iload_n (pc := 14) d_X12_isBar_14 rfl ?_
    refine P_iald (pc := 15) (k) d_X12_isBar_15 (tt_140 b) rfl (ln_of (ll_140 b) ⟨by omega, by decide⟩) ?_
    refine V_iconst (pc := 16) (nI 3) d_X12_isBar_16 (by decide) ?_
    refine V_icmp_ne (pc := 17) 24 d_X12_isBar_17 (by decide) (fun c17 => ?_) (fun c17 => ?_)
    · refine V_iconst (pc := 24) (0) d_X12_isBar_24 (by decide) ?_
      exact V_retZ (pc := 25) d_X12_isBar_25 rfl (by first | exact Or.inl rfl | exact Or.inr rfl | exact z01) ⟨Nat.le_refl _, Nat.le_refl _⟩ (by simpa [c7, c17] using hq)
    · refine V_iconst (pc := 20) (1) d_X12_isBar_20 (by decide) ?_
      refine V_goto (pc := 21) 25 d_X12_isBar_21 (by decide) ?_
      exact V_retZ (pc := 25) d_X12_isBar_25 rfl (by first | exact Or.inl rfl | exact Or.inr rfl | exact z01) ⟨Nat.le_refl _, Nat.le_refl _⟩ (by simpa [c7, c17] using hq)
theorem lp_sB_m {d k : Nat} (hk : k < 10) (h : V G mX12_shiftOf (rl 2) F 0 0 46 [some (.ref 139), some (.int (nI k)), some (.int (nI d)), some (.int (-1))] [] (σ, sh b)) : V G mX12_shiftOf (rl 2) F 0 0 2 [some (.ref 139), some (.int (nI k)), some (.int (nI d)), some (.int (-1))] [] (σ, sh b) := by
  refine V_aload_n (pc := 2) d_X12_shiftOf_2 rfl ?_
  refine V_iload_n (pc := 3) d_X12_shiftOf_3 rfl ?_
  refine V_cvI (pc := 4) (n := 1) (c := 12) [_] d_X12_shiftOf_4 c_X12_205 k_X12_isBar ⟨rfl, rfl⟩ (tt_139 b) rfl (Nat.le_of_ble_eq_true rfl) ⟨Nat.le_of_ble_eq_true rfl, Nat.le_of_ble_eq_true rfl⟩ ⟨Nat.le_refl _, Nat.le_refl _⟩ (ct_X12_isBar (by omega) ?_)
  refine V_if_eq (pc := 7) 46 d_X12_shiftOf_7 (by decide) (fun c7 => ?_) (fun c7 => ?_)
  · replace c7 := zf c7
    exact h
  · replace c7 := zt c7
    refine V_iload_n (pc := 10) d_X12_shiftOf_10 rfl ?_
    refine B_if_lt (pc := 11) 46 d_X12_shiftOf_11 (by decide) (fun c11 => ?_) (fun c11 => ?_)
    · exact h
    · exact absurd (by decide) c11
theorem lp_sB {ρ : Sg} {d k ns : Nat} (hS : cS ρ 4 σ ns) (hk : k < ns) (hn10 : ns ≤ 10) (hbar : σ 140 k = 1 ∨ σ 140 k = nI 3) : ∀ x, x < 100 → (∀ y, dn (shifted σ k) x = some y → V G mX12_shiftOf (rl 2) F 0 0 28 [some (.ref 139), some (.int (nI k)), some (.int (nI d)), some (.int (nI y))] [] (σ, sh b)) → (dn (shifted σ k) x = none → V G mX12_shiftOf (rl 2) F 0 0 46 [some (.ref 139), some (.int (nI k)), some (.int (nI d)), some (.int (-1))] [] (σ, sh b)) → V G mX12_shiftOf (rl 2) F 0 0 2 [some (.ref 139), some (.int (nI k)), some (.int (nI d)), some (.int (nI x))] [] (σ, sh b) := by
  intro x
  induction x with
  | zero =>
    intro hx h1 h2
    refine V_aload_n (pc := 2) d_X12_shiftOf_2 rfl ?_
    refine V_iload_n (pc := 3) d_X12_shiftOf_3 rfl ?_
    refine V_cvI (pc := 4) (n := 1) (c := 12) [_] d_X12_shiftOf_4 c_X12_205 k_X12_isBar ⟨rfl, rfl⟩ (tt_139 b) rfl (Nat.le_of_ble_eq_true rfl) ⟨Nat.le_of_ble_eq_true rfl, Nat.le_of_ble_eq_true rfl⟩ ⟨Nat.le_refl _, Nat.le_refl _⟩ (ct_X12_isBar (by omega) ?_)
    refine V_if_eq (pc := 7) 46 d_X12_shiftOf_7 (by decide) (fun c7 => ?_) (fun c7 => ?_)
    · replace c7 := zf c7
      exact absurd hbar c7
    · replace c7 := zt c7
      refine V_iload_n (pc := 10) d_X12_shiftOf_10 rfl ?_
      refine B_if_lt (pc := 11) 46 d_X12_shiftOf_11 (by decide) (fun c11 => ?_) (fun c11 => ?_)
      · exact absurd c11 (by rw [nI_toInt (by omega)]; omega)
      · refine V_aload_n (pc := 14) d_X12_shiftOf_14 rfl ?_
        refine P_getR (pc := 15) d_X12_shiftOf_15 f_X12_26 (tt_139 b) (rr_139_8 b) ?_
        refine V_bipush (pc := 18) (nI 100) d_X12_shiftOf_18 (by decide) ?_
        refine V_iload_n (pc := 20) d_X12_shiftOf_20 rfl ?_
        refine V_imul (pc := 21) d_X12_shiftOf_21 ?_
        refine V_iload_n (pc := 22) d_X12_shiftOf_22 rfl ?_
        refine V_iadd (pc := 23) d_X12_shiftOf_23 ?_
        refine P_zald (pc := 24) (((100 * k) + 0)) d_X12_shiftOf_24 (tt_145 b) (by simp only [nI_add, pk_mul, nI_1]) (ln_of (ll_145 b) ⟨by omega, by decide⟩) ?_
        refine V_if_eq (pc := 25) 40 d_X12_shiftOf_25 (by decide) (fun c25 => ?_) (fun c25 => ?_)
        · refine V_iinc (pc := 40) d_X12_shiftOf_40 rfl (by decide) ?_
          refine V_goto (pc := 43) 2 d_X12_shiftOf_43 (by decide) ?_
          rw [m1_0]
          exact lp_sB_m (by omega) (h2 (dn_no0 (cS_n c25)))
        · exact h1 0 (dn_yes (cS_y hS hk (by omega) c25))
  | succ x ih =>
    intro hx h1 h2
    refine V_aload_n (pc := 2) d_X12_shiftOf_2 rfl ?_
    refine V_iload_n (pc := 3) d_X12_shiftOf_3 rfl ?_
    refine V_cvI (pc := 4) (n := 1) (c := 12) [_] d_X12_shiftOf_4 c_X12_205 k_X12_isBar ⟨rfl, rfl⟩ (tt_139 b) rfl (Nat.le_of_ble_eq_true rfl) ⟨Nat.le_of_ble_eq_true rfl, Nat.le_of_ble_eq_true rfl⟩ ⟨Nat.le_refl _, Nat.le_refl _⟩ (ct_X12_isBar (by omega) ?_)
    refine V_if_eq (pc := 7) 46 d_X12_shiftOf_7 (by decide) (fun c7 => ?_) (fun c7 => ?_)
    · replace c7 := zf c7
      exact absurd hbar c7
    · replace c7 := zt c7
      refine V_iload_n (pc := 10) d_X12_shiftOf_10 rfl ?_
      refine B_if_lt (pc := 11) 46 d_X12_shiftOf_11 (by decide) (fun c11 => ?_) (fun c11 => ?_)
      · exact absurd c11 (by rw [nI_toInt (by omega)]; omega)
      · refine V_aload_n (pc := 14) d_X12_shiftOf_14 rfl ?_
        refine P_getR (pc := 15) d_X12_shiftOf_15 f_X12_26 (tt_139 b) (rr_139_8 b) ?_
        refine V_bipush (pc := 18) (nI 100) d_X12_shiftOf_18 (by decide) ?_
        refine V_iload_n (pc := 20) d_X12_shiftOf_20 rfl ?_
        refine V_imul (pc := 21) d_X12_shiftOf_21 ?_
        refine V_iload_n (pc := 22) d_X12_shiftOf_22 rfl ?_
        refine V_iadd (pc := 23) d_X12_shiftOf_23 ?_
        refine P_zald (pc := 24) (((100 * k) + (x + 1))) d_X12_shiftOf_24 (tt_145 b) (by simp only [nI_add, pk_mul, nI_1]) (ln_of (ll_145 b) ⟨by omega, by decide⟩) ?_
        refine V_if_eq (pc := 25) 40 d_X12_shiftOf_25 (by decide) (fun c25 => ?_) (fun c25 => ?_)
        · refine V_iinc (pc := 40) d_X12_shiftOf_40 rfl (by decide) ?_
          refine V_goto (pc := 43) 2 d_X12_shiftOf_43 (by decide) ?_
          rw [m1_s]
          have hn := dn_no (cS_n c25)
          exact ih (by omega) (fun y hy => h1 y (hn.trans hy)) (fun hy => h2 (hn.trans hy))
        · exact h1 (x + 1) (dn_yes (cS_y hS hk (by omega) c25))
theorem ct_X12_shiftOf {ρ : Sg} {d k ns : Nat} (hS : cS ρ 4 σ ns) (hk : k < ns) (hn10 : ns ≤ 10) (hd : d < 100) (hq : K (shiftS σ k d) (σ, sh b)) : CM G mX12_shiftOf (rl 2) [.ref 139, .int (nI k), .int (nI d)] (σ, sh b) (QI K) := by
  refine CM.of (by decide) (Nat.le_of_ble_eq_true rfl) (cats1 rfl) ?_
  refine V_iload_n (pc := 0) d_X12_shiftOf_0 rfl ?_
  refine V_istore_n (pc := 1) d_X12_shiftOf_1 (by decide) ?_
  by_cases hbar : σ 140 k = 1 ∨ σ 140 k = nI 3
  · refine lp_sB hS hk hn10 hbar d hd (fun x hA => ?_) (fun hA => ?_)
    · have ha := dn_spec hA
      refine V_aload_n (pc := 28) d_X12_shiftOf_28 rfl ?_
      refine P_getR (pc := 29) d_X12_shiftOf_29 f_X12_23 (tt_139 b) (rr_139_7 b) ?_
      refine V_bipush (pc := 32) (nI 100) d_X12_shiftOf_32 (by decide) ?_
      refine V_iload_n (pc := 34) d_X12_shiftOf_34 rfl ?_
      refine V_imul (pc := 35) d_X12_shiftOf_35 ?_
      refine V_iload_n (pc := 36) d_X12_shiftOf_36 rfl ?_
      refine V_iadd (pc := 37) d_X12_shiftOf_37 ?_
      refine P_iald (pc := 38) (((100 * k) + x)) d_X12_shiftOf_38 (tt_144 b) (by simp only [nI_add, pk_mul, nI_1]) (ln_of (ll_144 b) ⟨by omega, by decide⟩) ?_
      exact V_retI (pc := 39) d_X12_shiftOf_39 rfl ⟨Nat.le_refl _, Nat.le_refl _⟩ (by simpa [shiftS, hA] using hq)
    · skip
      refine V_iconst (pc := 46) (0) d_X12_shiftOf_46 (by decide) ?_
      exact V_retI (pc := 47) d_X12_shiftOf_47 rfl ⟨Nat.le_refl _, Nat.le_refl _⟩ (by simpa [shiftS, hA] using hq)
  · skip
    refine V_aload_n (pc := 2) d_X12_shiftOf_2 rfl ?_
    refine V_iload_n (pc := 3) d_X12_shiftOf_3 rfl ?_
    refine V_cvI (pc := 4) (n := 1) (c := 12) [_] d_X12_shiftOf_4 c_X12_205 k_X12_isBar ⟨rfl, rfl⟩ (tt_139 b) rfl (Nat.le_of_ble_eq_true rfl) ⟨Nat.le_of_ble_eq_true rfl, Nat.le_of_ble_eq_true rfl⟩ ⟨Nat.le_refl _, Nat.le_refl _⟩ (ct_X12_isBar (by omega) ?_)
    refine V_if_eq (pc := 7) 46 d_X12_shiftOf_7 (by decide) (fun c7 => ?_) (fun c7 => ?_)
    · replace c7 := zf c7
      refine V_iconst (pc := 46) (0) d_X12_shiftOf_46 (by decide) ?_
      exact V_retI (pc := 47) d_X12_shiftOf_47 rfl ⟨Nat.le_refl _, Nat.le_refl _⟩ (by simpa [shiftS, cS_bar hS hk hbar d hd] using hq)
    · replace c7 := zt c7
      exact absurd c7 hbar
theorem ct_X4_waterOn {k d ns : Nat} (hH : cH σ 4 σ) (hC : cC σ 4 σ) (hS : cS σ 4 σ ns) (hk : k < ns) (hn10 : ns ≤ 10) (hd : d < 100) (hq : K (waterS σ k d) (σ, sh b)) : CM G mX4_waterOn (rl 2) [.ref 4, .int (nI k), .int (nI d)] (σ, sh b) (QI K) := by
  refine CM.of (by decide) (Nat.le_of_ble_eq_true rfl) (cats1 rfl) ?_
  refine V_aload_n (pc := 0) d_X4_waterOn_0 rfl ?_
  refine P_getR (pc := 1) d_X4_waterOn_1 f_X4_46 (tt_4 b) (rr_4_10 b) ?_
  refine V_iload_n (pc := 4) d_X4_waterOn_4 rfl ?_
  refine P_aald (pc := 5) (c := 7) (k) d_X4_waterOn_5 (tt_7 b) (by decide) rfl (ln_of (ll_7 b) ⟨by omega, by decide⟩) (rS b (by omega)) ?_
  refine V_astore_n (pc := 6) d_X4_waterOn_6 (by decide) ?_
  refine V_aload_n (pc := 7) d_X4_waterOn_7 rfl ?_
  refine P_getI (pc := 8) d_X4_waterOn_8 f_X4_129 (tS b (by omega)) ?_
  rw [(cS_f hS hk).2.1]
  refine V_iconst (pc := 11) (nI 4) d_X4_waterOn_11 (by decide) ?_
  refine V_icmp_ne (pc := 12) 20 d_X4_waterOn_12 (by decide) (fun c12 => ?_) (fun c12 => ?_)
  · refine V_aload_n (pc := 20) d_X4_waterOn_20 rfl ?_
    refine P_getI (pc := 21) d_X4_waterOn_21 f_X4_129 (tS b (by omega)) ?_
    rw [(cS_f hS hk).2.1]
    refine V_iconst (pc := 24) (nI 5) d_X4_waterOn_24 (by decide) ?_
    refine V_icmp_ne (pc := 25) 39 d_X4_waterOn_25 (by decide) (fun c25 => ?_) (fun c25 => ?_)
    · refine V_aload_n (pc := 39) d_X4_waterOn_39 rfl ?_
      refine P_getI (pc := 40) d_X4_waterOn_40 f_X4_132 (tS b (by omega)) ?_
      rw [(cS_f hS hk).2.2.2.1]
      refine V_aload_n (pc := 43) d_X4_waterOn_43 rfl ?_
      refine V_iload_n (pc := 44) d_X4_waterOn_44 rfl ?_
      refine V_cvI (pc := 45) (n := 1) (c := 4) [_] d_X4_waterOn_45 c_X4_135 k_X4_heightOn ⟨rfl, rfl⟩ (tt_4 b) rfl (Nat.le_of_ble_eq_true rfl) ⟨Nat.le_of_ble_eq_true rfl, Nat.le_of_ble_eq_true rfl⟩ ⟨Nat.le_refl _, Nat.le_refl _⟩ (ct_X4_heightOn hH (by omega) ?_)
      refine V_iadd (pc := 48) d_X4_waterOn_48 ?_
      refine V_aload_n (pc := 49) d_X4_waterOn_49 rfl ?_
      refine V_iload_n (pc := 50) d_X4_waterOn_50 rfl ?_
      refine V_cvI (pc := 51) (n := 1) (c := 7) [_] d_X4_waterOn_51 c_X4_139 k_X7_shiftOn ⟨rfl, rfl⟩ (tS b (by omega)) rfl (Nat.le_of_ble_eq_true rfl) ⟨Nat.le_of_ble_eq_true rfl, Nat.le_of_ble_eq_true rfl⟩ ⟨Nat.le_refl _, Nat.le_refl _⟩ (ct_X7_shiftOn hS hk hn10 (by omega) ?_)
      refine V_isub (pc := 54) d_X4_waterOn_54 ?_
      exact V_retI (pc := 55) d_X4_waterOn_55 rfl ⟨Nat.le_refl _, Nat.le_refl _⟩ (by first | simpa (disch := omega) [-Int.not_lt, -Int.not_le, nI_eq, nI_eq0, nI_eq1, nI_e0n, nI_e1n, waterS, c12, c25] using hq | (exfalso; simp_all [show nI 2 = (2 : Int32) from rfl, show nI 3 = (3 : Int32) from rfl, show nI 4 = (4 : Int32) from rfl, show nI 5 = (5 : Int32) from rfl, show nI 6 = (6 : Int32) from rfl, show nI 7 = (7 : Int32) from rfl, show nI 8 = (8 : Int32) from rfl, show nI 9 = (9 : Int32) from rfl]; done))
    · refine V_aload_n (pc := 28) d_X4_waterOn_28 rfl ?_
      refine P_getR (pc := 29) d_X4_waterOn_29 f_X4_40 (tt_4 b) (rr_4_9 b) ?_
      refine V_iload_n (pc := 32) d_X4_waterOn_32 rfl ?_
      refine P_zald (pc := 33) (d) d_X4_waterOn_33 (tt_6 b) rfl (ln_of (ll_6 b) ⟨by omega, by decide⟩) ?_
      refine V_if_eq (pc := 34) 39 d_X4_waterOn_34 (by decide) (fun c34 => ?_) (fun c34 => ?_)
      · rw [show σ 6 d = σ 148 d from (hC d hd).1] at c34
        refine V_aload_n (pc := 39) d_X4_waterOn_39 rfl ?_
        refine P_getI (pc := 40) d_X4_waterOn_40 f_X4_132 (tS b (by omega)) ?_
        rw [(cS_f hS hk).2.2.2.1]
        refine V_aload_n (pc := 43) d_X4_waterOn_43 rfl ?_
        refine V_iload_n (pc := 44) d_X4_waterOn_44 rfl ?_
        refine V_cvI (pc := 45) (n := 1) (c := 4) [_] d_X4_waterOn_45 c_X4_135 k_X4_heightOn ⟨rfl, rfl⟩ (tt_4 b) rfl (Nat.le_of_ble_eq_true rfl) ⟨Nat.le_of_ble_eq_true rfl, Nat.le_of_ble_eq_true rfl⟩ ⟨Nat.le_refl _, Nat.le_refl _⟩ (ct_X4_heightOn hH (by omega) ?_)
        refine V_iadd (pc := 48) d_X4_waterOn_48 ?_
        refine V_aload_n (pc := 49) d_X4_waterOn_49 rfl ?_
        refine V_iload_n (pc := 50) d_X4_waterOn_50 rfl ?_
        refine V_cvI (pc := 51) (n := 1) (c := 7) [_] d_X4_waterOn_51 c_X4_139 k_X7_shiftOn ⟨rfl, rfl⟩ (tS b (by omega)) rfl (Nat.le_of_ble_eq_true rfl) ⟨Nat.le_of_ble_eq_true rfl, Nat.le_of_ble_eq_true rfl⟩ ⟨Nat.le_refl _, Nat.le_refl _⟩ (ct_X7_shiftOn hS hk hn10 (by omega) ?_)
        refine V_isub (pc := 54) d_X4_waterOn_54 ?_
        exact V_retI (pc := 55) d_X4_waterOn_55 rfl ⟨Nat.le_refl _, Nat.le_refl _⟩ (by first | simpa (disch := omega) [-Int.not_lt, -Int.not_le, nI_eq, nI_eq0, nI_eq1, nI_e0n, nI_e1n, waterS, c12, c25, c34] using hq | (exfalso; simp_all [show nI 2 = (2 : Int32) from rfl, show nI 3 = (3 : Int32) from rfl, show nI 4 = (4 : Int32) from rfl, show nI 5 = (5 : Int32) from rfl, show nI 6 = (6 : Int32) from rfl, show nI 7 = (7 : Int32) from rfl, show nI 8 = (8 : Int32) from rfl, show nI 9 = (9 : Int32) from rfl]; done))
      · rw [show σ 6 d = σ 148 d from (hC d hd).1] at c34
        refine V_iconst (pc := 37) (0) d_X4_waterOn_37 (by decide) ?_
        exact V_retI (pc := 38) d_X4_waterOn_38 rfl ⟨Nat.le_refl _, Nat.le_refl _⟩ (by first | simpa (disch := omega) [-Int.not_lt, -Int.not_le, nI_eq, nI_eq0, nI_eq1, nI_e0n, nI_e1n, waterS, c12, c25, c34] using hq | (exfalso; simp_all [show nI 2 = (2 : Int32) from rfl, show nI 3 = (3 : Int32) from rfl, show nI 4 = (4 : Int32) from rfl, show nI 5 = (5 : Int32) from rfl, show nI 6 = (6 : Int32) from rfl, show nI 7 = (7 : Int32) from rfl, show nI 8 = (8 : Int32) from rfl, show nI 9 = (9 : Int32) from rfl]; done))
  · refine V_aload_n (pc := 15) d_X4_waterOn_15 rfl ?_
    refine P_getI (pc := 16) d_X4_waterOn_16 f_X4_132 (tS b (by omega)) ?_
    rw [(cS_f hS hk).2.2.2.1]
    exact V_retI (pc := 19) d_X4_waterOn_19 rfl ⟨Nat.le_refl _, Nat.le_refl _⟩ (by first | simpa (disch := omega) [-Int.not_lt, -Int.not_le, nI_eq, nI_eq0, nI_eq1, nI_e0n, nI_e1n, waterS, c12] using hq | (exfalso; simp_all [show nI 2 = (2 : Int32) from rfl, show nI 3 = (3 : Int32) from rfl, show nI 4 = (4 : Int32) from rfl, show nI 5 = (5 : Int32) from rfl, show nI 6 = (6 : Int32) from rfl, show nI 7 = (7 : Int32) from rfl, show nI 8 = (8 : Int32) from rfl, show nI 9 = (9 : Int32) from rfl]; done))
theorem ct_X12_waterOf {ρ : Sg} {k d ns : Nat} (hH : cH ρ 4 σ) (hC : cC ρ 4 σ) (hS : cS ρ 4 σ ns) (hk : k < ns) (hn10 : ns ≤ 10) (hd : d < 100) (hq : K (waterS σ k d) (σ, sh b)) : CM G mX12_waterOf (rl 3) [.ref 139, .int (nI k), .int (nI d)] (σ, sh b) (QI K) := by
  refine CM.of (by decide) (Nat.le_of_ble_eq_true rfl) (cats1 rfl) ?_
  refine V_aload_n (pc := 0) d_X12_waterOf_0 rfl ?_
  refine P_getR (pc := 1) d_X12_waterOf_1 f_X12_7 (tt_139 b) (rr_139_3 b) ?_
  refine V_iload_n (pc := 4) d_X12_waterOf_4 rfl ?_
  refine P_iald (pc := 5) (k) d_X12_waterOf_5 (tt_140 b) rfl (ln_of (ll_140 b) ⟨by omega, by decide⟩) ?_
  refine V_iconst (pc := 6) (nI 4) d_X12_waterOf_6 (by decide) ?_
  refine V_icmp_ne (pc := 7) 17 d_X12_waterOf_7 (by decide) (fun c7 => ?_) (fun c7 => ?_)
  · refine V_aload_n (pc := 17) d_X12_waterOf_17 rfl ?_
    refine P_getR (pc := 18) d_X12_waterOf_18 f_X12_7 (tt_139 b) (rr_139_3 b) ?_
    refine V_iload_n (pc := 21) d_X12_waterOf_21 rfl ?_
    refine P_iald (pc := 22) (k) d_X12_waterOf_22 (tt_140 b) rfl (ln_of (ll_140 b) ⟨by omega, by decide⟩) ?_
    refine V_iconst (pc := 23) (nI 5) d_X12_waterOf_23 (by decide) ?_
    refine V_icmp_ne (pc := 24) 40 d_X12_waterOf_24 (by decide) (fun c24 => ?_) (fun c24 => ?_)
    · refine V_aload_n (pc := 40) d_X12_waterOf_40 rfl ?_
      refine P_getR (pc := 41) d_X12_waterOf_41 f_X12_16 (tt_139 b) (rr_139_5 b) ?_
      refine V_iload_n (pc := 44) d_X12_waterOf_44 rfl ?_
      refine P_iald (pc := 45) (k) d_X12_waterOf_45 (tt_142 b) rfl (ln_of (ll_142 b) ⟨by omega, by decide⟩) ?_
      refine V_aload_n (pc := 46) d_X12_waterOf_46 rfl ?_
      refine V_iload_n (pc := 47) d_X12_waterOf_47 rfl ?_
      refine V_cvI (pc := 48) (n := 1) (c := 12) [_] d_X12_waterOf_48 c_X12_208 k_X12_heightOf ⟨rfl, rfl⟩ (tt_139 b) rfl (Nat.le_of_ble_eq_true rfl) ⟨Nat.le_of_ble_eq_true rfl, Nat.le_of_ble_eq_true rfl⟩ ⟨Nat.le_refl _, Nat.le_refl _⟩ (ct_X12_heightOf hH (by omega) ?_)
      refine V_iadd (pc := 51) d_X12_waterOf_51 ?_
      refine V_aload_n (pc := 52) d_X12_waterOf_52 rfl ?_
      refine V_iload_n (pc := 53) d_X12_waterOf_53 rfl ?_
      refine V_iload_n (pc := 54) d_X12_waterOf_54 rfl ?_
      refine V_cvI (pc := 55) (n := 2) (c := 12) [_, _] d_X12_waterOf_55 c_X12_211 k_X12_shiftOf ⟨rfl, rfl⟩ (tt_139 b) rfl (Nat.le_of_ble_eq_true rfl) ⟨Nat.le_of_ble_eq_true rfl, Nat.le_of_ble_eq_true rfl⟩ ⟨Nat.le_refl _, Nat.le_refl _⟩ (ct_X12_shiftOf hS hk hn10 (by omega) ?_)
      refine V_isub (pc := 58) d_X12_waterOf_58 ?_
      exact V_retI (pc := 59) d_X12_waterOf_59 rfl ⟨Nat.le_refl _, Nat.le_refl _⟩ (by first | simpa (disch := omega) [-Int.not_lt, -Int.not_le, nI_eq, nI_eq0, nI_eq1, nI_e0n, nI_e1n, waterS, c7, c24] using hq | (exfalso; simp_all [show nI 2 = (2 : Int32) from rfl, show nI 3 = (3 : Int32) from rfl, show nI 4 = (4 : Int32) from rfl, show nI 5 = (5 : Int32) from rfl, show nI 6 = (6 : Int32) from rfl, show nI 7 = (7 : Int32) from rfl, show nI 8 = (8 : Int32) from rfl, show nI 9 = (9 : Int32) from rfl]; done))
    · refine V_aload_n (pc := 27) d_X12_waterOf_27 rfl ?_
      refine P_getR (pc := 28) d_X12_waterOf_28 f_X12_35 (tt_139 b) (rr_139_11 b) ?_
      refine V_iload_n (pc := 31) d_X12_waterOf_31 rfl ?_
      refine P_zald (pc := 32) (d) d_X12_waterOf_32 (tt_148 b) rfl (ln_of (ll_148 b) ⟨by omega, by decide⟩) ?_
      refine V_if_eq (pc := 33) 40 d_X12_waterOf_33 (by decide) (fun c33 => ?_) (fun c33 => ?_)
      · refine V_aload_n (pc := 40) d_X12_waterOf_40 rfl ?_
        refine P_getR (pc := 41) d_X12_waterOf_41 f_X12_16 (tt_139 b) (rr_139_5 b) ?_
        refine V_iload_n (pc := 44) d_X12_waterOf_44 rfl ?_
        refine P_iald (pc := 45) (k) d_X12_waterOf_45 (tt_142 b) rfl (ln_of (ll_142 b) ⟨by omega, by decide⟩) ?_
        refine V_aload_n (pc := 46) d_X12_waterOf_46 rfl ?_
        refine V_iload_n (pc := 47) d_X12_waterOf_47 rfl ?_
        refine V_cvI (pc := 48) (n := 1) (c := 12) [_] d_X12_waterOf_48 c_X12_208 k_X12_heightOf ⟨rfl, rfl⟩ (tt_139 b) rfl (Nat.le_of_ble_eq_true rfl) ⟨Nat.le_of_ble_eq_true rfl, Nat.le_of_ble_eq_true rfl⟩ ⟨Nat.le_refl _, Nat.le_refl _⟩ (ct_X12_heightOf hH (by omega) ?_)
        refine V_iadd (pc := 51) d_X12_waterOf_51 ?_
        refine V_aload_n (pc := 52) d_X12_waterOf_52 rfl ?_
        refine V_iload_n (pc := 53) d_X12_waterOf_53 rfl ?_
        refine V_iload_n (pc := 54) d_X12_waterOf_54 rfl ?_
        refine V_cvI (pc := 55) (n := 2) (c := 12) [_, _] d_X12_waterOf_55 c_X12_211 k_X12_shiftOf ⟨rfl, rfl⟩ (tt_139 b) rfl (Nat.le_of_ble_eq_true rfl) ⟨Nat.le_of_ble_eq_true rfl, Nat.le_of_ble_eq_true rfl⟩ ⟨Nat.le_refl _, Nat.le_refl _⟩ (ct_X12_shiftOf hS hk hn10 (by omega) ?_)
        refine V_isub (pc := 58) d_X12_waterOf_58 ?_
        exact V_retI (pc := 59) d_X12_waterOf_59 rfl ⟨Nat.le_refl _, Nat.le_refl _⟩ (by first | simpa (disch := omega) [-Int.not_lt, -Int.not_le, nI_eq, nI_eq0, nI_eq1, nI_e0n, nI_e1n, waterS, c7, c24, c33] using hq | (exfalso; simp_all [show nI 2 = (2 : Int32) from rfl, show nI 3 = (3 : Int32) from rfl, show nI 4 = (4 : Int32) from rfl, show nI 5 = (5 : Int32) from rfl, show nI 6 = (6 : Int32) from rfl, show nI 7 = (7 : Int32) from rfl, show nI 8 = (8 : Int32) from rfl, show nI 9 = (9 : Int32) from rfl]; done))
      · refine V_iconst (pc := 36) (0) d_X12_waterOf_36 (by decide) ?_
        refine V_goto (pc := 37) 59 d_X12_waterOf_37 (by decide) ?_
        exact V_retI (pc := 59) d_X12_waterOf_59 rfl ⟨Nat.le_refl _, Nat.le_refl _⟩ (by first | simpa (disch := omega) [-Int.not_lt, -Int.not_le, nI_eq, nI_eq0, nI_eq1, nI_e0n, nI_e1n, waterS, c7, c24, c33] using hq | (exfalso; simp_all [show nI 2 = (2 : Int32) from rfl, show nI 3 = (3 : Int32) from rfl, show nI 4 = (4 : Int32) from rfl, show nI 5 = (5 : Int32) from rfl, show nI 6 = (6 : Int32) from rfl, show nI 7 = (7 : Int32) from rfl, show nI 8 = (8 : Int32) from rfl, show nI 9 = (9 : Int32) from rfl]; done))
  · refine V_aload_n (pc := 10) d_X12_waterOf_10 rfl ?_
    refine P_getR (pc := 11) d_X12_waterOf_11 f_X12_16 (tt_139 b) (rr_139_5 b) ?_
    refine V_iload_n (pc := 14) d_X12_waterOf_14 rfl ?_
    refine P_iald (pc := 15) (k) d_X12_waterOf_15 (tt_142 b) rfl (ln_of (ll_142 b) ⟨by omega, by decide⟩) ?_
    exact V_retI (pc := 16) d_X12_waterOf_16 rfl ⟨Nat.le_refl _, Nat.le_refl _⟩ (by first | simpa (disch := omega) [-Int.not_lt, -Int.not_le, nI_eq, nI_eq0, nI_eq1, nI_e0n, nI_e1n, waterS, c7] using hq | (exfalso; simp_all [show nI 2 = (2 : Int32) from rfl, show nI 3 = (3 : Int32) from rfl, show nI 4 = (4 : Int32) from rfl, show nI 5 = (5 : Int32) from rfl, show nI 6 = (6 : Int32) from rfl, show nI 7 = (7 : Int32) from rfl, show nI 8 = (8 : Int32) from rfl, show nI 9 = (9 : Int32) from rfl]; done))
theorem ct_X4_longByDaylight {k q ns : Nat} (hH : cH σ 4 σ) (hC : cC σ 4 σ) (hS : cS σ 4 σ ns) (hk : k < ns) (hn10 : ns ≤ 10) (hq0 : σ 4 0 = nI q) (hq2 : q ≤ 9599) (hq : K (longS σ k (q / 96) 0) (σ, sh b)) : CM G mX4_longByDaylight (rl 2) [.ref 4, .int (nI k)] (σ, sh b) (QI K) := by
  refine CM.of (by decide) (Nat.le_of_ble_eq_true rfl) (cats1 rfl) ?_
  refine V_aload_n (pc := 0) d_X4_longByDaylight_0 rfl ?_
  refine P_getR (pc := 1) d_X4_longByDaylight_1 f_X4_46 (tt_4 b) (rr_4_10 b) ?_
  refine V_iload_n (pc := 4) d_X4_longByDaylight_4 rfl ?_
  refine P_aald (pc := 5) (c := 7) (k) d_X4_longByDaylight_5 (tt_7 b) (by decide) rfl (ln_of (ll_7 b) ⟨by omega, by decide⟩) (rS b (by omega)) ?_
  refine V_astore_n (pc := 6) d_X4_longByDaylight_6 (by decide) ?_
  refine V_aload_n (pc := 7) d_X4_longByDaylight_7 rfl ?_
  refine P_getI (pc := 8) d_X4_longByDaylight_8 f_X4_129 (tS b (by omega)) ?_
  rw [(cS_f hS hk).2.1]
  refine V_iconst (pc := 11) (nI 4) d_X4_longByDaylight_11 (by decide) ?_
  refine V_icmp_ne (pc := 12) 22 d_X4_longByDaylight_12 (by decide) (fun c12 => ?_) (fun c12 => ?_)
  · refine V_aload_n (pc := 22) d_X4_longByDaylight_22 rfl ?_
    refine P_getI (pc := 23) d_X4_longByDaylight_23 f_X4_129 (tS b (by omega)) ?_
    rw [(cS_f hS hk).2.1]
    refine V_iconst (pc := 26) (nI 2) d_X4_longByDaylight_26 (by decide) ?_
    refine V_icmp_ne (pc := 27) 52 d_X4_longByDaylight_27 (by decide) (fun c27 => ?_) (fun c27 => ?_)
    · refine V_aload_n (pc := 52) d_X4_longByDaylight_52 rfl ?_
      refine P_getI (pc := 53) d_X4_longByDaylight_53 f_X4_153 (tS b (by omega)) ?_
      rw [(cS_f hS hk).2.2.1]
      exact V_retI (pc := 56) d_X4_longByDaylight_56 rfl ⟨Nat.le_refl _, Nat.le_refl _⟩ (by first | simpa (disch := omega) [-Int.not_lt, -Int.not_le, nI_eq, nI_eq0, nI_eq1, nI_e0n, nI_e1n, longS, baseS, c12, c27] using hq | (exfalso; simp_all [show nI 2 = (2 : Int32) from rfl, show nI 3 = (3 : Int32) from rfl, show nI 4 = (4 : Int32) from rfl, show nI 5 = (5 : Int32) from rfl, show nI 6 = (6 : Int32) from rfl, show nI 7 = (7 : Int32) from rfl, show nI 8 = (8 : Int32) from rfl, show nI 9 = (9 : Int32) from rfl]; done))
    · refine V_aload_n (pc := 30) d_X4_longByDaylight_30 rfl ?_
      refine V_aload_n (pc := 31) d_X4_longByDaylight_31 rfl ?_
      refine V_cvI (pc := 32) (n := 1) (c := 4) [] d_X4_longByDaylight_32 c_X4_156 k_X4_today ⟨rfl, rfl⟩ (tt_4 b) rfl (Nat.le_of_ble_eq_true rfl) ⟨Nat.le_of_ble_eq_true rfl, Nat.le_of_ble_eq_true rfl⟩ ⟨Nat.le_refl _, Nat.le_refl _⟩ (ct_X4_today hq0 hq2 ?_)
      refine V_cvI (pc := 35) (n := 1) (c := 4) [_] d_X4_longByDaylight_35 c_X4_135 k_X4_heightOn ⟨rfl, rfl⟩ (tt_4 b) rfl (Nat.le_of_ble_eq_true rfl) ⟨Nat.le_of_ble_eq_true rfl, Nat.le_of_ble_eq_true rfl⟩ ⟨Nat.le_refl _, Nat.le_refl _⟩ (ct_X4_heightOn hH (by omega) ?_)
      refine V_bipush (pc := 38) (nI 20) d_X4_longByDaylight_38 (by decide) ?_
      refine B_icmp_lt (pc := 40) 52 d_X4_longByDaylight_40 (by decide) (fun c40 => ?_) (fun c40 => ?_)
      · simp (disch := omega) only [show (nI 20).toInt = 20 from by decide, nI_toInt, ti0, ti1, tim1, tim20, tim1000] at c40
        refine V_aload_n (pc := 52) d_X4_longByDaylight_52 rfl ?_
        refine P_getI (pc := 53) d_X4_longByDaylight_53 f_X4_153 (tS b (by omega)) ?_
        rw [(cS_f hS hk).2.2.1]
        exact V_retI (pc := 56) d_X4_longByDaylight_56 rfl ⟨Nat.le_refl _, Nat.le_refl _⟩ (by first | simpa (disch := omega) [-Int.not_lt, -Int.not_le, nI_eq, nI_eq0, nI_eq1, nI_e0n, nI_e1n, longS, baseS, c12, c27, c40] using hq | (exfalso; simp_all [show nI 2 = (2 : Int32) from rfl, show nI 3 = (3 : Int32) from rfl, show nI 4 = (4 : Int32) from rfl, show nI 5 = (5 : Int32) from rfl, show nI 6 = (6 : Int32) from rfl, show nI 7 = (7 : Int32) from rfl, show nI 8 = (8 : Int32) from rfl, show nI 9 = (9 : Int32) from rfl]; done))
      · simp (disch := omega) only [show (nI 20).toInt = 20 from by decide, nI_toInt, ti0, ti1, tim1, tim20, tim1000] at c40
        refine V_aload_n (pc := 43) d_X4_longByDaylight_43 rfl ?_
        refine P_getI (pc := 44) d_X4_longByDaylight_44 f_X4_153 (tS b (by omega)) ?_
        rw [(cS_f hS hk).2.2.1]
        refine V_iconst (pc := 47) (1) d_X4_longByDaylight_47 (by decide) ?_
        refine V_iadd (pc := 48) d_X4_longByDaylight_48 ?_
        refine V_iconst (pc := 49) (nI 2) d_X4_longByDaylight_49 (by decide) ?_
        refine V_idiv (pc := 50) d_X4_longByDaylight_50 (by decide) ?_
        exact V_retI (pc := 51) d_X4_longByDaylight_51 rfl ⟨Nat.le_refl _, Nat.le_refl _⟩ (by first | simpa (disch := omega) [-Int.not_lt, -Int.not_le, nI_eq, nI_eq0, nI_eq1, nI_e0n, nI_e1n, longS, baseS, c12, c27, c40] using hq | (exfalso; simp_all [show nI 2 = (2 : Int32) from rfl, show nI 3 = (3 : Int32) from rfl, show nI 4 = (4 : Int32) from rfl, show nI 5 = (5 : Int32) from rfl, show nI 6 = (6 : Int32) from rfl, show nI 7 = (7 : Int32) from rfl, show nI 8 = (8 : Int32) from rfl, show nI 9 = (9 : Int32) from rfl]; done))
  · refine V_aload_n (pc := 15) d_X4_longByDaylight_15 rfl ?_
    refine P_getI (pc := 16) d_X4_longByDaylight_16 f_X4_153 (tS b (by omega)) ?_
    rw [(cS_f hS hk).2.2.1]
    refine V_iconst (pc := 19) (nI 4) d_X4_longByDaylight_19 (by decide) ?_
    refine V_iadd (pc := 20) d_X4_longByDaylight_20 ?_
    exact V_retI (pc := 21) d_X4_longByDaylight_21 rfl ⟨Nat.le_refl _, Nat.le_refl _⟩ (by first | simpa (disch := omega) [-Int.not_lt, -Int.not_le, nI_eq, nI_eq0, nI_eq1, nI_e0n, nI_e1n, longS, baseS, c12] using hq | (exfalso; simp_all [show nI 2 = (2 : Int32) from rfl, show nI 3 = (3 : Int32) from rfl, show nI 4 = (4 : Int32) from rfl, show nI 5 = (5 : Int32) from rfl, show nI 6 = (6 : Int32) from rfl, show nI 7 = (7 : Int32) from rfl, show nI 8 = (8 : Int32) from rfl, show nI 9 = (9 : Int32) from rfl]; done))
theorem ct_X4_longNow {k q ns : Nat} (hH : cH σ 4 σ) (hC : cC σ 4 σ) (hS : cS σ 4 σ ns) (hk : k < ns) (hn10 : ns ≤ 10) (hq0 : σ 4 0 = nI q) (hq2 : q ≤ 9599) (hq : K (longS σ k (q / 96) (if q % 96 < 24 ∨ 72 ≤ q % 96 then 1 else 0)) (σ, sh b)) : CM G mX4_longNow (rl 3) [.ref 4, .int (nI k)] (σ, sh b) (QI K) := by
  refine CM.of (by decide) (Nat.le_of_ble_eq_true rfl) (cats1 rfl) ?_
  refine V_aload_n (pc := 0) d_X4_longNow_0 rfl ?_
  refine V_cvI (pc := 1) (n := 2) (c := 4) [] d_X4_longNow_1 c_X4_142 k_X4_isNight ⟨rfl, rfl⟩ (tt_4 b) rfl (Nat.le_of_ble_eq_true rfl) ⟨Nat.le_of_ble_eq_true rfl, Nat.le_of_ble_eq_true rfl⟩ ⟨Nat.le_refl _, Nat.le_refl _⟩ (ct_X4_isNight hq0 hq2 ?_)
  refine V_if_eq (pc := 4) 36 d_X4_longNow_4 (by decide) (fun c4 => ?_) (fun c4 => ?_)
  · replace c4 := zf c4
    refine V_iconst (pc := 36) (0) d_X4_longNow_36 (by decide) ?_
    refine V_istore_n (pc := 37) d_X4_longNow_37 (by decide) ?_
    refine V_aload_n (pc := 38) d_X4_longNow_38 rfl ?_
    refine V_iload_n (pc := 39) d_X4_longNow_39 rfl ?_
    refine V_cvI (pc := 40) (n := 2) (c := 4) [_] d_X4_longNow_40 c_X4_150 k_X4_longByDaylight ⟨rfl, rfl⟩ (tt_4 b) rfl (Nat.le_of_ble_eq_true rfl) ⟨Nat.le_of_ble_eq_true rfl, Nat.le_of_ble_eq_true rfl⟩ ⟨Nat.le_refl _, Nat.le_refl _⟩ (ct_X4_longByDaylight hH hC hS hk hn10 hq0 hq2 ?_)
    refine V_iload_n (pc := 43) d_X4_longNow_43 rfl ?_
    refine V_if_eq (pc := 44) 52 d_X4_longNow_44 (by decide) (fun c44 => ?_) (fun c44 => ?_)
    · refine V_iconst (pc := 52) (0) d_X4_longNow_52 (by decide) ?_
      refine V_iadd (pc := 53) d_X4_longNow_53 ?_
      exact V_retI (pc := 54) d_X4_longNow_54 rfl ⟨Nat.le_refl _, Nat.le_refl _⟩ (by first | simpa (disch := omega) [-Int.not_lt, -Int.not_le, nI_eq, nI_eq0, nI_eq1, nI_e0n, nI_e1n, longS, c4, c44] using hq | (exfalso; simp_all [show nI 2 = (2 : Int32) from rfl, show nI 3 = (3 : Int32) from rfl, show nI 4 = (4 : Int32) from rfl, show nI 5 = (5 : Int32) from rfl, show nI 6 = (6 : Int32) from rfl, show nI 7 = (7 : Int32) from rfl, show nI 8 = (8 : Int32) from rfl, show nI 9 = (9 : Int32) from rfl]; done))
    · exact absurd (by decide) c44
  · replace c4 := zt c4
    refine V_aload_n (pc := 7) d_X4_longNow_7 rfl ?_
    refine P_getR (pc := 8) d_X4_longNow_8 f_X4_46 (tt_4 b) (rr_4_10 b) ?_
    refine V_iload_n (pc := 11) d_X4_longNow_11 rfl ?_
    refine P_aald (pc := 12) (c := 7) (k) d_X4_longNow_12 (tt_7 b) (by decide) rfl (ln_of (ll_7 b) ⟨by omega, by decide⟩) (rS b (by omega)) ?_
    refine P_getI (pc := 13) d_X4_longNow_13 f_X4_129 (tS b (by omega)) ?_
    rw [(cS_f hS hk).2.1]
    refine V_iconst (pc := 16) (nI 3) d_X4_longNow_16 (by decide) ?_
    refine V_icmp_ne (pc := 17) 36 d_X4_longNow_17 (by decide) (fun c17 => ?_) (fun c17 => ?_)
    · refine V_iconst (pc := 36) (0) d_X4_longNow_36 (by decide) ?_
      refine V_istore_n (pc := 37) d_X4_longNow_37 (by decide) ?_
      refine V_aload_n (pc := 38) d_X4_longNow_38 rfl ?_
      refine V_iload_n (pc := 39) d_X4_longNow_39 rfl ?_
      refine V_cvI (pc := 40) (n := 2) (c := 4) [_] d_X4_longNow_40 c_X4_150 k_X4_longByDaylight ⟨rfl, rfl⟩ (tt_4 b) rfl (Nat.le_of_ble_eq_true rfl) ⟨Nat.le_of_ble_eq_true rfl, Nat.le_of_ble_eq_true rfl⟩ ⟨Nat.le_refl _, Nat.le_refl _⟩ (ct_X4_longByDaylight hH hC hS hk hn10 hq0 hq2 ?_)
      refine V_iload_n (pc := 43) d_X4_longNow_43 rfl ?_
      refine V_if_eq (pc := 44) 52 d_X4_longNow_44 (by decide) (fun c44 => ?_) (fun c44 => ?_)
      · refine V_iconst (pc := 52) (0) d_X4_longNow_52 (by decide) ?_
        refine V_iadd (pc := 53) d_X4_longNow_53 ?_
        exact V_retI (pc := 54) d_X4_longNow_54 rfl ⟨Nat.le_refl _, Nat.le_refl _⟩ (by first | simpa (disch := omega) [-Int.not_lt, -Int.not_le, nI_eq, nI_eq0, nI_eq1, nI_e0n, nI_e1n, longS, c4, c17, c44] using hq | (exfalso; simp_all [show nI 2 = (2 : Int32) from rfl, show nI 3 = (3 : Int32) from rfl, show nI 4 = (4 : Int32) from rfl, show nI 5 = (5 : Int32) from rfl, show nI 6 = (6 : Int32) from rfl, show nI 7 = (7 : Int32) from rfl, show nI 8 = (8 : Int32) from rfl, show nI 9 = (9 : Int32) from rfl]; done))
      · exact absurd (by decide) c44
    · refine V_aload_n (pc := 20) d_X4_longNow_20 rfl ?_
      refine P_getR (pc := 21) d_X4_longNow_21 f_X4_46 (tt_4 b) (rr_4_10 b) ?_
      refine V_iload_n (pc := 24) d_X4_longNow_24 rfl ?_
      refine P_aald (pc := 25) (c := 7) (k) d_X4_longNow_25 (tt_7 b) (by decide) rfl (ln_of (ll_7 b) ⟨by omega, by decide⟩) (rS b (by omega)) ?_
      refine P_getI (pc := 26) d_X4_longNow_26 f_X4_146 (tS b (by omega)) ?_
      rw [(cS_f hS hk).2.2.2.2]
      refine V_if_ne (pc := 29) 36 d_X4_longNow_29 (by decide) (fun c29 => ?_) (fun c29 => ?_)
      · refine V_iconst (pc := 36) (0) d_X4_longNow_36 (by decide) ?_
        refine V_istore_n (pc := 37) d_X4_longNow_37 (by decide) ?_
        refine V_aload_n (pc := 38) d_X4_longNow_38 rfl ?_
        refine V_iload_n (pc := 39) d_X4_longNow_39 rfl ?_
        refine V_cvI (pc := 40) (n := 2) (c := 4) [_] d_X4_longNow_40 c_X4_150 k_X4_longByDaylight ⟨rfl, rfl⟩ (tt_4 b) rfl (Nat.le_of_ble_eq_true rfl) ⟨Nat.le_of_ble_eq_true rfl, Nat.le_of_ble_eq_true rfl⟩ ⟨Nat.le_refl _, Nat.le_refl _⟩ (ct_X4_longByDaylight hH hC hS hk hn10 hq0 hq2 ?_)
        refine V_iload_n (pc := 43) d_X4_longNow_43 rfl ?_
        refine V_if_eq (pc := 44) 52 d_X4_longNow_44 (by decide) (fun c44 => ?_) (fun c44 => ?_)
        · refine V_iconst (pc := 52) (0) d_X4_longNow_52 (by decide) ?_
          refine V_iadd (pc := 53) d_X4_longNow_53 ?_
          exact V_retI (pc := 54) d_X4_longNow_54 rfl ⟨Nat.le_refl _, Nat.le_refl _⟩ (by first | simpa (disch := omega) [-Int.not_lt, -Int.not_le, nI_eq, nI_eq0, nI_eq1, nI_e0n, nI_e1n, longS, c4, c17, c29, c44] using hq | (exfalso; simp_all [show nI 2 = (2 : Int32) from rfl, show nI 3 = (3 : Int32) from rfl, show nI 4 = (4 : Int32) from rfl, show nI 5 = (5 : Int32) from rfl, show nI 6 = (6 : Int32) from rfl, show nI 7 = (7 : Int32) from rfl, show nI 8 = (8 : Int32) from rfl, show nI 9 = (9 : Int32) from rfl]; done))
        · exact absurd (by decide) c44
      · refine V_iconst (pc := 32) (1) d_X4_longNow_32 (by decide) ?_
        refine V_goto (pc := 33) 37 d_X4_longNow_33 (by decide) ?_
        refine V_istore_n (pc := 37) d_X4_longNow_37 (by decide) ?_
        refine V_aload_n (pc := 38) d_X4_longNow_38 rfl ?_
        refine V_iload_n (pc := 39) d_X4_longNow_39 rfl ?_
        refine V_cvI (pc := 40) (n := 2) (c := 4) [_] d_X4_longNow_40 c_X4_150 k_X4_longByDaylight ⟨rfl, rfl⟩ (tt_4 b) rfl (Nat.le_of_ble_eq_true rfl) ⟨Nat.le_of_ble_eq_true rfl, Nat.le_of_ble_eq_true rfl⟩ ⟨Nat.le_refl _, Nat.le_refl _⟩ (ct_X4_longByDaylight hH hC hS hk hn10 hq0 hq2 ?_)
        refine V_iload_n (pc := 43) d_X4_longNow_43 rfl ?_
        refine V_if_eq (pc := 44) 52 d_X4_longNow_44 (by decide) (fun c44 => ?_) (fun c44 => ?_)
        · exact absurd c44 (by decide)
        · refine V_bipush (pc := 47) (nI 8) d_X4_longNow_47 (by decide) ?_
          refine V_goto (pc := 49) 53 d_X4_longNow_49 (by decide) ?_
          refine V_iadd (pc := 53) d_X4_longNow_53 ?_
          exact V_retI (pc := 54) d_X4_longNow_54 rfl ⟨Nat.le_refl _, Nat.le_refl _⟩ (by first | simpa (disch := omega) [-Int.not_lt, -Int.not_le, nI_eq, nI_eq0, nI_eq1, nI_e0n, nI_e1n, longS, c4, c17, c29, c44] using hq | (exfalso; simp_all [show nI 2 = (2 : Int32) from rfl, show nI 3 = (3 : Int32) from rfl, show nI 4 = (4 : Int32) from rfl, show nI 5 = (5 : Int32) from rfl, show nI 6 = (6 : Int32) from rfl, show nI 7 = (7 : Int32) from rfl, show nI 8 = (8 : Int32) from rfl, show nI 9 = (9 : Int32) from rfl]; done))
theorem ct_X12_longOf {ρ : Sg} {n : Int32} {k q ns : Nat} (hH : cH ρ 4 σ) (hC : cC ρ 4 σ) (hS : cS ρ 4 σ ns) (hk : k < ns) (hn10 : ns ≤ 10) (hq0 : σ 139 1 = nI q) (hq2 : q ≤ 9599) (hq : K (longS σ k (q / 96) n) (σ, sh b)) : CM G mX12_longOf (rl 2) [.ref 139, .int (nI k), .int n] (σ, sh b) (QI K) := by
  refine CM.of (by decide) (Nat.le_of_ble_eq_true rfl) (cats1 rfl) ?_
  refine V_aload_n (pc := 0) d_X12_longOf_0 rfl ?_
  refine P_getR (pc := 1) d_X12_longOf_1 f_X12_13 (tt_139 b) (rr_139_4 b) ?_
  refine V_iload_n (pc := 4) d_X12_longOf_4 rfl ?_
  refine P_iald (pc := 5) (k) d_X12_longOf_5 (tt_141 b) rfl (ln_of (ll_141 b) ⟨by omega, by decide⟩) ?_
  refine V_istore_n (pc := 6) d_X12_longOf_6 (by decide) ?_
  refine V_aload_n (pc := 7) d_X12_longOf_7 rfl ?_
  refine P_getR (pc := 8) d_X12_longOf_8 f_X12_7 (tt_139 b) (rr_139_3 b) ?_
  refine V_iload_n (pc := 11) d_X12_longOf_11 rfl ?_
  refine P_iald (pc := 12) (k) d_X12_longOf_12 (tt_140 b) rfl (ln_of (ll_140 b) ⟨by omega, by decide⟩) ?_
  refine V_iconst (pc := 13) (nI 2) d_X12_longOf_13 (by decide) ?_
  refine V_icmp_ne (pc := 14) 36 d_X12_longOf_14 (by decide) (fun c14 => ?_) (fun c14 => ?_)
  · refine V_iload_n (pc := 36) d_X12_longOf_36 rfl ?_
    refine V_aload_n (pc := 37) d_X12_longOf_37 rfl ?_
    refine P_getR (pc := 38) d_X12_longOf_38 f_X12_7 (tt_139 b) (rr_139_3 b) ?_
    refine V_iload_n (pc := 41) d_X12_longOf_41 rfl ?_
    refine P_iald (pc := 42) (k) d_X12_longOf_42 (tt_140 b) rfl (ln_of (ll_140 b) ⟨by omega, by decide⟩) ?_
    refine V_iconst (pc := 43) (nI 4) d_X12_longOf_43 (by decide) ?_
    refine V_icmp_ne (pc := 44) 51 d_X12_longOf_44 (by decide) (fun c44 => ?_) (fun c44 => ?_)
    · refine V_iconst (pc := 51) (0) d_X12_longOf_51 (by decide) ?_
      refine V_iadd (pc := 52) d_X12_longOf_52 ?_
      refine V_aload_n (pc := 53) d_X12_longOf_53 rfl ?_
      refine P_getR (pc := 54) d_X12_longOf_54 f_X12_7 (tt_139 b) (rr_139_3 b) ?_
      refine V_iload_n (pc := 57) d_X12_longOf_57 rfl ?_
      refine P_iald (pc := 58) (k) d_X12_longOf_58 (tt_140 b) rfl (ln_of (ll_140 b) ⟨by omega, by decide⟩) ?_
      refine V_iconst (pc := 59) (nI 3) d_X12_longOf_59 (by decide) ?_
      refine V_icmp_ne (pc := 60) 81 d_X12_longOf_60 (by decide) (fun c60 => ?_) (fun c60 => ?_)
      · refine V_iconst (pc := 81) (0) d_X12_longOf_81 (by decide) ?_
        refine V_iadd (pc := 82) d_X12_longOf_82 ?_
        exact V_retI (pc := 83) d_X12_longOf_83 rfl ⟨Nat.le_refl _, Nat.le_refl _⟩ (by first | simpa (disch := omega) [-Int.not_lt, -Int.not_le, nI_eq, nI_eq0, nI_eq1, nI_e0n, nI_e1n, longS, baseS, c14, c44, c60] using hq | (exfalso; simp_all [show nI 2 = (2 : Int32) from rfl, show nI 3 = (3 : Int32) from rfl, show nI 4 = (4 : Int32) from rfl, show nI 5 = (5 : Int32) from rfl, show nI 6 = (6 : Int32) from rfl, show nI 7 = (7 : Int32) from rfl, show nI 8 = (8 : Int32) from rfl, show nI 9 = (9 : Int32) from rfl]; done))
      · refine V_iload_n (pc := 63) d_X12_longOf_63 rfl ?_
        refine V_if_eq (pc := 64) 81 d_X12_longOf_64 (by decide) (fun c64 => ?_) (fun c64 => ?_)
        · refine V_iconst (pc := 81) (0) d_X12_longOf_81 (by decide) ?_
          refine V_iadd (pc := 82) d_X12_longOf_82 ?_
          exact V_retI (pc := 83) d_X12_longOf_83 rfl ⟨Nat.le_refl _, Nat.le_refl _⟩ (by first | simpa (disch := omega) [-Int.not_lt, -Int.not_le, nI_eq, nI_eq0, nI_eq1, nI_e0n, nI_e1n, longS, baseS, c14, c44, c60, c64] using hq | (exfalso; simp_all [show nI 2 = (2 : Int32) from rfl, show nI 3 = (3 : Int32) from rfl, show nI 4 = (4 : Int32) from rfl, show nI 5 = (5 : Int32) from rfl, show nI 6 = (6 : Int32) from rfl, show nI 7 = (7 : Int32) from rfl, show nI 8 = (8 : Int32) from rfl, show nI 9 = (9 : Int32) from rfl]; done))
        · refine V_aload_n (pc := 67) d_X12_longOf_67 rfl ?_
          refine P_getR (pc := 68) d_X12_longOf_68 f_X12_19 (tt_139 b) (rr_139_6 b) ?_
          refine V_iload_n (pc := 71) d_X12_longOf_71 rfl ?_
          refine P_zald (pc := 72) (k) d_X12_longOf_72 (tt_143 b) rfl (ln_of (ll_143 b) ⟨by omega, by decide⟩) ?_
          refine V_if_ne (pc := 73) 81 d_X12_longOf_73 (by decide) (fun c73 => ?_) (fun c73 => ?_)
          · refine V_iconst (pc := 81) (0) d_X12_longOf_81 (by decide) ?_
            refine V_iadd (pc := 82) d_X12_longOf_82 ?_
            exact V_retI (pc := 83) d_X12_longOf_83 rfl ⟨Nat.le_refl _, Nat.le_refl _⟩ (by first | simpa (disch := omega) [-Int.not_lt, -Int.not_le, nI_eq, nI_eq0, nI_eq1, nI_e0n, nI_e1n, longS, baseS, c14, c44, c60, c64, c73] using hq | (exfalso; simp_all [show nI 2 = (2 : Int32) from rfl, show nI 3 = (3 : Int32) from rfl, show nI 4 = (4 : Int32) from rfl, show nI 5 = (5 : Int32) from rfl, show nI 6 = (6 : Int32) from rfl, show nI 7 = (7 : Int32) from rfl, show nI 8 = (8 : Int32) from rfl, show nI 9 = (9 : Int32) from rfl]; done))
          · refine V_bipush (pc := 76) (nI 8) d_X12_longOf_76 (by decide) ?_
            refine V_goto (pc := 78) 82 d_X12_longOf_78 (by decide) ?_
            refine V_iadd (pc := 82) d_X12_longOf_82 ?_
            exact V_retI (pc := 83) d_X12_longOf_83 rfl ⟨Nat.le_refl _, Nat.le_refl _⟩ (by first | simpa (disch := omega) [-Int.not_lt, -Int.not_le, nI_eq, nI_eq0, nI_eq1, nI_e0n, nI_e1n, longS, baseS, c14, c44, c60, c64, c73] using hq | (exfalso; simp_all [show nI 2 = (2 : Int32) from rfl, show nI 3 = (3 : Int32) from rfl, show nI 4 = (4 : Int32) from rfl, show nI 5 = (5 : Int32) from rfl, show nI 6 = (6 : Int32) from rfl, show nI 7 = (7 : Int32) from rfl, show nI 8 = (8 : Int32) from rfl, show nI 9 = (9 : Int32) from rfl]; done))
    · refine V_iconst (pc := 47) (nI 4) d_X12_longOf_47 (by decide) ?_
      refine V_goto (pc := 48) 52 d_X12_longOf_48 (by decide) ?_
      refine V_iadd (pc := 52) d_X12_longOf_52 ?_
      refine V_aload_n (pc := 53) d_X12_longOf_53 rfl ?_
      refine P_getR (pc := 54) d_X12_longOf_54 f_X12_7 (tt_139 b) (rr_139_3 b) ?_
      refine V_iload_n (pc := 57) d_X12_longOf_57 rfl ?_
      refine P_iald (pc := 58) (k) d_X12_longOf_58 (tt_140 b) rfl (ln_of (ll_140 b) ⟨by omega, by decide⟩) ?_
      refine V_iconst (pc := 59) (nI 3) d_X12_longOf_59 (by decide) ?_
      refine V_icmp_ne (pc := 60) 81 d_X12_longOf_60 (by decide) (fun c60 => ?_) (fun c60 => ?_)
      · refine V_iconst (pc := 81) (0) d_X12_longOf_81 (by decide) ?_
        refine V_iadd (pc := 82) d_X12_longOf_82 ?_
        exact V_retI (pc := 83) d_X12_longOf_83 rfl ⟨Nat.le_refl _, Nat.le_refl _⟩ (by first | simpa (disch := omega) [-Int.not_lt, -Int.not_le, nI_eq, nI_eq0, nI_eq1, nI_e0n, nI_e1n, longS, baseS, c14, c44, c60] using hq | (exfalso; simp_all [show nI 2 = (2 : Int32) from rfl, show nI 3 = (3 : Int32) from rfl, show nI 4 = (4 : Int32) from rfl, show nI 5 = (5 : Int32) from rfl, show nI 6 = (6 : Int32) from rfl, show nI 7 = (7 : Int32) from rfl, show nI 8 = (8 : Int32) from rfl, show nI 9 = (9 : Int32) from rfl]; done))
      · refine V_iload_n (pc := 63) d_X12_longOf_63 rfl ?_
        refine V_if_eq (pc := 64) 81 d_X12_longOf_64 (by decide) (fun c64 => ?_) (fun c64 => ?_)
        · refine V_iconst (pc := 81) (0) d_X12_longOf_81 (by decide) ?_
          refine V_iadd (pc := 82) d_X12_longOf_82 ?_
          exact V_retI (pc := 83) d_X12_longOf_83 rfl ⟨Nat.le_refl _, Nat.le_refl _⟩ (by first | simpa (disch := omega) [-Int.not_lt, -Int.not_le, nI_eq, nI_eq0, nI_eq1, nI_e0n, nI_e1n, longS, baseS, c14, c44, c60, c64] using hq | (exfalso; simp_all [show nI 2 = (2 : Int32) from rfl, show nI 3 = (3 : Int32) from rfl, show nI 4 = (4 : Int32) from rfl, show nI 5 = (5 : Int32) from rfl, show nI 6 = (6 : Int32) from rfl, show nI 7 = (7 : Int32) from rfl, show nI 8 = (8 : Int32) from rfl, show nI 9 = (9 : Int32) from rfl]; done))
        · refine V_aload_n (pc := 67) d_X12_longOf_67 rfl ?_
          refine P_getR (pc := 68) d_X12_longOf_68 f_X12_19 (tt_139 b) (rr_139_6 b) ?_
          refine V_iload_n (pc := 71) d_X12_longOf_71 rfl ?_
          refine P_zald (pc := 72) (k) d_X12_longOf_72 (tt_143 b) rfl (ln_of (ll_143 b) ⟨by omega, by decide⟩) ?_
          refine V_if_ne (pc := 73) 81 d_X12_longOf_73 (by decide) (fun c73 => ?_) (fun c73 => ?_)
          · refine V_iconst (pc := 81) (0) d_X12_longOf_81 (by decide) ?_
            refine V_iadd (pc := 82) d_X12_longOf_82 ?_
            exact V_retI (pc := 83) d_X12_longOf_83 rfl ⟨Nat.le_refl _, Nat.le_refl _⟩ (by first | simpa (disch := omega) [-Int.not_lt, -Int.not_le, nI_eq, nI_eq0, nI_eq1, nI_e0n, nI_e1n, longS, baseS, c14, c44, c60, c64, c73] using hq | (exfalso; simp_all [show nI 2 = (2 : Int32) from rfl, show nI 3 = (3 : Int32) from rfl, show nI 4 = (4 : Int32) from rfl, show nI 5 = (5 : Int32) from rfl, show nI 6 = (6 : Int32) from rfl, show nI 7 = (7 : Int32) from rfl, show nI 8 = (8 : Int32) from rfl, show nI 9 = (9 : Int32) from rfl]; done))
          · refine V_bipush (pc := 76) (nI 8) d_X12_longOf_76 (by decide) ?_
            refine V_goto (pc := 78) 82 d_X12_longOf_78 (by decide) ?_
            refine V_iadd (pc := 82) d_X12_longOf_82 ?_
            exact V_retI (pc := 83) d_X12_longOf_83 rfl ⟨Nat.le_refl _, Nat.le_refl _⟩ (by first | simpa (disch := omega) [-Int.not_lt, -Int.not_le, nI_eq, nI_eq0, nI_eq1, nI_e0n, nI_e1n, longS, baseS, c14, c44, c60, c64, c73] using hq | (exfalso; simp_all [show nI 2 = (2 : Int32) from rfl, show nI 3 = (3 : Int32) from rfl, show nI 4 = (4 : Int32) from rfl, show nI 5 = (5 : Int32) from rfl, show nI 6 = (6 : Int32) from rfl, show nI 7 = (7 : Int32) from rfl, show nI 8 = (8 : Int32) from rfl, show nI 9 = (9 : Int32) from rfl]; done))
  · refine V_aload_n (pc := 17) d_X12_longOf_17 rfl ?_
    refine V_aload_n (pc := 18) d_X12_longOf_18 rfl ?_
    refine V_cvI (pc := 19) (n := 1) (c := 12) [] d_X12_longOf_19 c_X12_218 k_X12_today ⟨rfl, rfl⟩ (tt_139 b) rfl (Nat.le_of_ble_eq_true rfl) ⟨Nat.le_of_ble_eq_true rfl, Nat.le_of_ble_eq_true rfl⟩ ⟨Nat.le_refl _, Nat.le_refl _⟩ (ct_X12_today hq0 hq2 ?_)
    refine V_cvI (pc := 22) (n := 1) (c := 12) [_] d_X12_longOf_22 c_X12_208 k_X12_heightOf ⟨rfl, rfl⟩ (tt_139 b) rfl (Nat.le_of_ble_eq_true rfl) ⟨Nat.le_of_ble_eq_true rfl, Nat.le_of_ble_eq_true rfl⟩ ⟨Nat.le_refl _, Nat.le_refl _⟩ (ct_X12_heightOf hH (by omega) ?_)
    refine V_bipush (pc := 25) (nI 20) d_X12_longOf_25 (by decide) ?_
    refine B_icmp_lt (pc := 27) 36 d_X12_longOf_27 (by decide) (fun c27 => ?_) (fun c27 => ?_)
    · simp (disch := omega) only [show (nI 20).toInt = 20 from by decide, nI_toInt, ti0, ti1, tim1, tim20, tim1000] at c27
      refine V_iload_n (pc := 36) d_X12_longOf_36 rfl ?_
      refine V_aload_n (pc := 37) d_X12_longOf_37 rfl ?_
      refine P_getR (pc := 38) d_X12_longOf_38 f_X12_7 (tt_139 b) (rr_139_3 b) ?_
      refine V_iload_n (pc := 41) d_X12_longOf_41 rfl ?_
      refine P_iald (pc := 42) (k) d_X12_longOf_42 (tt_140 b) rfl (ln_of (ll_140 b) ⟨by omega, by decide⟩) ?_
      refine V_iconst (pc := 43) (nI 4) d_X12_longOf_43 (by decide) ?_
      refine V_icmp_ne (pc := 44) 51 d_X12_longOf_44 (by decide) (fun c44 => ?_) (fun c44 => ?_)
      · refine V_iconst (pc := 51) (0) d_X12_longOf_51 (by decide) ?_
        refine V_iadd (pc := 52) d_X12_longOf_52 ?_
        refine V_aload_n (pc := 53) d_X12_longOf_53 rfl ?_
        refine P_getR (pc := 54) d_X12_longOf_54 f_X12_7 (tt_139 b) (rr_139_3 b) ?_
        refine V_iload_n (pc := 57) d_X12_longOf_57 rfl ?_
        refine P_iald (pc := 58) (k) d_X12_longOf_58 (tt_140 b) rfl (ln_of (ll_140 b) ⟨by omega, by decide⟩) ?_
        refine V_iconst (pc := 59) (nI 3) d_X12_longOf_59 (by decide) ?_
        refine V_icmp_ne (pc := 60) 81 d_X12_longOf_60 (by decide) (fun c60 => ?_) (fun c60 => ?_)
        · refine V_iconst (pc := 81) (0) d_X12_longOf_81 (by decide) ?_
          refine V_iadd (pc := 82) d_X12_longOf_82 ?_
          exact V_retI (pc := 83) d_X12_longOf_83 rfl ⟨Nat.le_refl _, Nat.le_refl _⟩ (by first | simpa (disch := omega) [-Int.not_lt, -Int.not_le, nI_eq, nI_eq0, nI_eq1, nI_e0n, nI_e1n, longS, baseS, c14, c27, c44, c60] using hq | (exfalso; simp_all [show nI 2 = (2 : Int32) from rfl, show nI 3 = (3 : Int32) from rfl, show nI 4 = (4 : Int32) from rfl, show nI 5 = (5 : Int32) from rfl, show nI 6 = (6 : Int32) from rfl, show nI 7 = (7 : Int32) from rfl, show nI 8 = (8 : Int32) from rfl, show nI 9 = (9 : Int32) from rfl]; done))
        · refine V_iload_n (pc := 63) d_X12_longOf_63 rfl ?_
          refine V_if_eq (pc := 64) 81 d_X12_longOf_64 (by decide) (fun c64 => ?_) (fun c64 => ?_)
          · refine V_iconst (pc := 81) (0) d_X12_longOf_81 (by decide) ?_
            refine V_iadd (pc := 82) d_X12_longOf_82 ?_
            exact V_retI (pc := 83) d_X12_longOf_83 rfl ⟨Nat.le_refl _, Nat.le_refl _⟩ (by first | simpa (disch := omega) [-Int.not_lt, -Int.not_le, nI_eq, nI_eq0, nI_eq1, nI_e0n, nI_e1n, longS, baseS, c14, c27, c44, c60, c64] using hq | (exfalso; simp_all [show nI 2 = (2 : Int32) from rfl, show nI 3 = (3 : Int32) from rfl, show nI 4 = (4 : Int32) from rfl, show nI 5 = (5 : Int32) from rfl, show nI 6 = (6 : Int32) from rfl, show nI 7 = (7 : Int32) from rfl, show nI 8 = (8 : Int32) from rfl, show nI 9 = (9 : Int32) from rfl]; done))
          · refine V_aload_n (pc := 67) d_X12_longOf_67 rfl ?_
            refine P_getR (pc := 68) d_X12_longOf_68 f_X12_19 (tt_139 b) (rr_139_6 b) ?_
            refine V_iload_n (pc := 71) d_X12_longOf_71 rfl ?_
            refine P_zald (pc := 72) (k) d_X12_longOf_72 (tt_143 b) rfl (ln_of (ll_143 b) ⟨by omega, by decide⟩) ?_
            refine V_if_ne (pc := 73) 81 d_X12_longOf_73 (by decide) (fun c73 => ?_) (fun c73 => ?_)
            · refine V_iconst (pc := 81) (0) d_X12_longOf_81 (by decide) ?_
              refine V_iadd (pc := 82) d_X12_longOf_82 ?_
              exact V_retI (pc := 83) d_X12_longOf_83 rfl ⟨Nat.le_refl _, Nat.le_refl _⟩ (by first | simpa (disch := omega) [-Int.not_lt, -Int.not_le, nI_eq, nI_eq0, nI_eq1, nI_e0n, nI_e1n, longS, baseS, c14, c27, c44, c60, c64, c73] using hq | (exfalso; simp_all [show nI 2 = (2 : Int32) from rfl, show nI 3 = (3 : Int32) from rfl, show nI 4 = (4 : Int32) from rfl, show nI 5 = (5 : Int32) from rfl, show nI 6 = (6 : Int32) from rfl, show nI 7 = (7 : Int32) from rfl, show nI 8 = (8 : Int32) from rfl, show nI 9 = (9 : Int32) from rfl]; done))
            · refine V_bipush (pc := 76) (nI 8) d_X12_longOf_76 (by decide) ?_
              refine V_goto (pc := 78) 82 d_X12_longOf_78 (by decide) ?_
              refine V_iadd (pc := 82) d_X12_longOf_82 ?_
              exact V_retI (pc := 83) d_X12_longOf_83 rfl ⟨Nat.le_refl _, Nat.le_refl _⟩ (by first | simpa (disch := omega) [-Int.not_lt, -Int.not_le, nI_eq, nI_eq0, nI_eq1, nI_e0n, nI_e1n, longS, baseS, c14, c27, c44, c60, c64, c73] using hq | (exfalso; simp_all [show nI 2 = (2 : Int32) from rfl, show nI 3 = (3 : Int32) from rfl, show nI 4 = (4 : Int32) from rfl, show nI 5 = (5 : Int32) from rfl, show nI 6 = (6 : Int32) from rfl, show nI 7 = (7 : Int32) from rfl, show nI 8 = (8 : Int32) from rfl, show nI 9 = (9 : Int32) from rfl]; done))
      · refine V_iconst (pc := 47) (nI 4) d_X12_longOf_47 (by decide) ?_
        refine V_goto (pc := 48) 52 d_X12_longOf_48 (by decide) ?_
        refine V_iadd (pc := 52) d_X12_longOf_52 ?_
        refine V_aload_n (pc := 53) d_X12_longOf_53 rfl ?_
        refine P_getR (pc := 54) d_X12_longOf_54 f_X12_7 (tt_139 b) (rr_139_3 b) ?_
        refine V_iload_n (pc := 57) d_X12_longOf_57 rfl ?_
        refine P_iald (pc := 58) (k) d_X12_longOf_58 (tt_140 b) rfl (ln_of (ll_140 b) ⟨by omega, by decide⟩) ?_
        refine V_iconst (pc := 59) (nI 3) d_X12_longOf_59 (by decide) ?_
        refine V_icmp_ne (pc := 60) 81 d_X12_longOf_60 (by decide) (fun c60 => ?_) (fun c60 => ?_)
        · refine V_iconst (pc := 81) (0) d_X12_longOf_81 (by decide) ?_
          refine V_iadd (pc := 82) d_X12_longOf_82 ?_
          exact V_retI (pc := 83) d_X12_longOf_83 rfl ⟨Nat.le_refl _, Nat.le_refl _⟩ (by first | simpa (disch := omega) [-Int.not_lt, -Int.not_le, nI_eq, nI_eq0, nI_eq1, nI_e0n, nI_e1n, longS, baseS, c14, c27, c44, c60] using hq | (exfalso; simp_all [show nI 2 = (2 : Int32) from rfl, show nI 3 = (3 : Int32) from rfl, show nI 4 = (4 : Int32) from rfl, show nI 5 = (5 : Int32) from rfl, show nI 6 = (6 : Int32) from rfl, show nI 7 = (7 : Int32) from rfl, show nI 8 = (8 : Int32) from rfl, show nI 9 = (9 : Int32) from rfl]; done))
        · refine V_iload_n (pc := 63) d_X12_longOf_63 rfl ?_
          refine V_if_eq (pc := 64) 81 d_X12_longOf_64 (by decide) (fun c64 => ?_) (fun c64 => ?_)
          · refine V_iconst (pc := 81) (0) d_X12_longOf_81 (by decide) ?_
            refine V_iadd (pc := 82) d_X12_longOf_82 ?_
            exact V_retI (pc := 83) d_X12_longOf_83 rfl ⟨Nat.le_refl _, Nat.le_refl _⟩ (by first | simpa (disch := omega) [-Int.not_lt, -Int.not_le, nI_eq, nI_eq0, nI_eq1, nI_e0n, nI_e1n, longS, baseS, c14, c27, c44, c60, c64] using hq | (exfalso; simp_all [show nI 2 = (2 : Int32) from rfl, show nI 3 = (3 : Int32) from rfl, show nI 4 = (4 : Int32) from rfl, show nI 5 = (5 : Int32) from rfl, show nI 6 = (6 : Int32) from rfl, show nI 7 = (7 : Int32) from rfl, show nI 8 = (8 : Int32) from rfl, show nI 9 = (9 : Int32) from rfl]; done))
          · refine V_aload_n (pc := 67) d_X12_longOf_67 rfl ?_
            refine P_getR (pc := 68) d_X12_longOf_68 f_X12_19 (tt_139 b) (rr_139_6 b) ?_
            refine V_iload_n (pc := 71) d_X12_longOf_71 rfl ?_
            refine P_zald (pc := 72) (k) d_X12_longOf_72 (tt_143 b) rfl (ln_of (ll_143 b) ⟨by omega, by decide⟩) ?_
            refine V_if_ne (pc := 73) 81 d_X12_longOf_73 (by decide) (fun c73 => ?_) (fun c73 => ?_)
            · refine V_iconst (pc := 81) (0) d_X12_longOf_81 (by decide) ?_
              refine V_iadd (pc := 82) d_X12_longOf_82 ?_
              exact V_retI (pc := 83) d_X12_longOf_83 rfl ⟨Nat.le_refl _, Nat.le_refl _⟩ (by first | simpa (disch := omega) [-Int.not_lt, -Int.not_le, nI_eq, nI_eq0, nI_eq1, nI_e0n, nI_e1n, longS, baseS, c14, c27, c44, c60, c64, c73] using hq | (exfalso; simp_all [show nI 2 = (2 : Int32) from rfl, show nI 3 = (3 : Int32) from rfl, show nI 4 = (4 : Int32) from rfl, show nI 5 = (5 : Int32) from rfl, show nI 6 = (6 : Int32) from rfl, show nI 7 = (7 : Int32) from rfl, show nI 8 = (8 : Int32) from rfl, show nI 9 = (9 : Int32) from rfl]; done))
            · refine V_bipush (pc := 76) (nI 8) d_X12_longOf_76 (by decide) ?_
              refine V_goto (pc := 78) 82 d_X12_longOf_78 (by decide) ?_
              refine V_iadd (pc := 82) d_X12_longOf_82 ?_
              exact V_retI (pc := 83) d_X12_longOf_83 rfl ⟨Nat.le_refl _, Nat.le_refl _⟩ (by first | simpa (disch := omega) [-Int.not_lt, -Int.not_le, nI_eq, nI_eq0, nI_eq1, nI_e0n, nI_e1n, longS, baseS, c14, c27, c44, c60, c64, c73] using hq | (exfalso; simp_all [show nI 2 = (2 : Int32) from rfl, show nI 3 = (3 : Int32) from rfl, show nI 4 = (4 : Int32) from rfl, show nI 5 = (5 : Int32) from rfl, show nI 6 = (6 : Int32) from rfl, show nI 7 = (7 : Int32) from rfl, show nI 8 = (8 : Int32) from rfl, show nI 9 = (9 : Int32) from rfl]; done))
    · simp (disch := omega) only [show (nI 20).toInt = 20 from by decide, nI_toInt, ti0, ti1, tim1, tim20, tim1000] at c27
      refine V_iload_n (pc := 30) d_X12_longOf_30 rfl ?_
      refine V_iconst (pc := 31) (1) d_X12_longOf_31 (by decide) ?_
      refine V_iadd (pc := 32) d_X12_longOf_32 ?_
      refine V_iconst (pc := 33) (nI 2) d_X12_longOf_33 (by decide) ?_
      refine V_idiv (pc := 34) d_X12_longOf_34 (by decide) ?_
      refine V_istore_n (pc := 35) d_X12_longOf_35 (by decide) ?_
      refine V_iload_n (pc := 36) d_X12_longOf_36 rfl ?_
      refine V_aload_n (pc := 37) d_X12_longOf_37 rfl ?_
      refine P_getR (pc := 38) d_X12_longOf_38 f_X12_7 (tt_139 b) (rr_139_3 b) ?_
      refine V_iload_n (pc := 41) d_X12_longOf_41 rfl ?_
      refine P_iald (pc := 42) (k) d_X12_longOf_42 (tt_140 b) rfl (ln_of (ll_140 b) ⟨by omega, by decide⟩) ?_
      refine V_iconst (pc := 43) (nI 4) d_X12_longOf_43 (by decide) ?_
      refine V_icmp_ne (pc := 44) 51 d_X12_longOf_44 (by decide) (fun c44 => ?_) (fun c44 => ?_)
      · refine V_iconst (pc := 51) (0) d_X12_longOf_51 (by decide) ?_
        refine V_iadd (pc := 52) d_X12_longOf_52 ?_
        refine V_aload_n (pc := 53) d_X12_longOf_53 rfl ?_
        refine P_getR (pc := 54) d_X12_longOf_54 f_X12_7 (tt_139 b) (rr_139_3 b) ?_
        refine V_iload_n (pc := 57) d_X12_longOf_57 rfl ?_
        refine P_iald (pc := 58) (k) d_X12_longOf_58 (tt_140 b) rfl (ln_of (ll_140 b) ⟨by omega, by decide⟩) ?_
        refine V_iconst (pc := 59) (nI 3) d_X12_longOf_59 (by decide) ?_
        refine V_icmp_ne (pc := 60) 81 d_X12_longOf_60 (by decide) (fun c60 => ?_) (fun c60 => ?_)
        · refine V_iconst (pc := 81) (0) d_X12_longOf_81 (by decide) ?_
          refine V_iadd (pc := 82) d_X12_longOf_82 ?_
          exact V_retI (pc := 83) d_X12_longOf_83 rfl ⟨Nat.le_refl _, Nat.le_refl _⟩ (by first | simpa (disch := omega) [-Int.not_lt, -Int.not_le, nI_eq, nI_eq0, nI_eq1, nI_e0n, nI_e1n, longS, baseS, c14, c27, c44, c60] using hq | (exfalso; simp_all [show nI 2 = (2 : Int32) from rfl, show nI 3 = (3 : Int32) from rfl, show nI 4 = (4 : Int32) from rfl, show nI 5 = (5 : Int32) from rfl, show nI 6 = (6 : Int32) from rfl, show nI 7 = (7 : Int32) from rfl, show nI 8 = (8 : Int32) from rfl, show nI 9 = (9 : Int32) from rfl]; done))
        · refine V_iload_n (pc := 63) d_X12_longOf_63 rfl ?_
          refine V_if_eq (pc := 64) 81 d_X12_longOf_64 (by decide) (fun c64 => ?_) (fun c64 => ?_)
          · refine V_iconst (pc := 81) (0) d_X12_longOf_81 (by decide) ?_
            refine V_iadd (pc := 82) d_X12_longOf_82 ?_
            exact V_retI (pc := 83) d_X12_longOf_83 rfl ⟨Nat.le_refl _, Nat.le_refl _⟩ (by first | simpa (disch := omega) [-Int.not_lt, -Int.not_le, nI_eq, nI_eq0, nI_eq1, nI_e0n, nI_e1n, longS, baseS, c14, c27, c44, c60, c64] using hq | (exfalso; simp_all [show nI 2 = (2 : Int32) from rfl, show nI 3 = (3 : Int32) from rfl, show nI 4 = (4 : Int32) from rfl, show nI 5 = (5 : Int32) from rfl, show nI 6 = (6 : Int32) from rfl, show nI 7 = (7 : Int32) from rfl, show nI 8 = (8 : Int32) from rfl, show nI 9 = (9 : Int32) from rfl]; done))
          · refine V_aload_n (pc := 67) d_X12_longOf_67 rfl ?_
            refine P_getR (pc := 68) d_X12_longOf_68 f_X12_19 (tt_139 b) (rr_139_6 b) ?_
            refine V_iload_n (pc := 71) d_X12_longOf_71 rfl ?_
            refine P_zald (pc := 72) (k) d_X12_longOf_72 (tt_143 b) rfl (ln_of (ll_143 b) ⟨by omega, by decide⟩) ?_
            refine V_if_ne (pc := 73) 81 d_X12_longOf_73 (by decide) (fun c73 => ?_) (fun c73 => ?_)
            · refine V_iconst (pc := 81) (0) d_X12_longOf_81 (by decide) ?_
              refine V_iadd (pc := 82) d_X12_longOf_82 ?_
              exact V_retI (pc := 83) d_X12_longOf_83 rfl ⟨Nat.le_refl _, Nat.le_refl _⟩ (by first | simpa (disch := omega) [-Int.not_lt, -Int.not_le, nI_eq, nI_eq0, nI_eq1, nI_e0n, nI_e1n, longS, baseS, c14, c27, c44, c60, c64, c73] using hq | (exfalso; simp_all [show nI 2 = (2 : Int32) from rfl, show nI 3 = (3 : Int32) from rfl, show nI 4 = (4 : Int32) from rfl, show nI 5 = (5 : Int32) from rfl, show nI 6 = (6 : Int32) from rfl, show nI 7 = (7 : Int32) from rfl, show nI 8 = (8 : Int32) from rfl, show nI 9 = (9 : Int32) from rfl]; done))
            · refine V_bipush (pc := 76) (nI 8) d_X12_longOf_76 (by decide) ?_
              refine V_goto (pc := 78) 82 d_X12_longOf_78 (by decide) ?_
              refine V_iadd (pc := 82) d_X12_longOf_82 ?_
              exact V_retI (pc := 83) d_X12_longOf_83 rfl ⟨Nat.le_refl _, Nat.le_refl _⟩ (by first | simpa (disch := omega) [-Int.not_lt, -Int.not_le, nI_eq, nI_eq0, nI_eq1, nI_e0n, nI_e1n, longS, baseS, c14, c27, c44, c60, c64, c73] using hq | (exfalso; simp_all [show nI 2 = (2 : Int32) from rfl, show nI 3 = (3 : Int32) from rfl, show nI 4 = (4 : Int32) from rfl, show nI 5 = (5 : Int32) from rfl, show nI 6 = (6 : Int32) from rfl, show nI 7 = (7 : Int32) from rfl, show nI 8 = (8 : Int32) from rfl, show nI 9 = (9 : Int32) from rfl]; done))
      · refine V_iconst (pc := 47) (nI 4) d_X12_longOf_47 (by decide) ?_
        refine V_goto (pc := 48) 52 d_X12_longOf_48 (by decide) ?_
        refine V_iadd (pc := 52) d_X12_longOf_52 ?_
        refine V_aload_n (pc := 53) d_X12_longOf_53 rfl ?_
        refine P_getR (pc := 54) d_X12_longOf_54 f_X12_7 (tt_139 b) (rr_139_3 b) ?_
        refine V_iload_n (pc := 57) d_X12_longOf_57 rfl ?_
        refine P_iald (pc := 58) (k) d_X12_longOf_58 (tt_140 b) rfl (ln_of (ll_140 b) ⟨by omega, by decide⟩) ?_
        refine V_iconst (pc := 59) (nI 3) d_X12_longOf_59 (by decide) ?_
        refine V_icmp_ne (pc := 60) 81 d_X12_longOf_60 (by decide) (fun c60 => ?_) (fun c60 => ?_)
        · refine V_iconst (pc := 81) (0) d_X12_longOf_81 (by decide) ?_
          refine V_iadd (pc := 82) d_X12_longOf_82 ?_
          exact V_retI (pc := 83) d_X12_longOf_83 rfl ⟨Nat.le_refl _, Nat.le_refl _⟩ (by first | simpa (disch := omega) [-Int.not_lt, -Int.not_le, nI_eq, nI_eq0, nI_eq1, nI_e0n, nI_e1n, longS, baseS, c14, c27, c44, c60] using hq | (exfalso; simp_all [show nI 2 = (2 : Int32) from rfl, show nI 3 = (3 : Int32) from rfl, show nI 4 = (4 : Int32) from rfl, show nI 5 = (5 : Int32) from rfl, show nI 6 = (6 : Int32) from rfl, show nI 7 = (7 : Int32) from rfl, show nI 8 = (8 : Int32) from rfl, show nI 9 = (9 : Int32) from rfl]; done))
        · refine V_iload_n (pc := 63) d_X12_longOf_63 rfl ?_
          refine V_if_eq (pc := 64) 81 d_X12_longOf_64 (by decide) (fun c64 => ?_) (fun c64 => ?_)
          · refine V_iconst (pc := 81) (0) d_X12_longOf_81 (by decide) ?_
            refine V_iadd (pc := 82) d_X12_longOf_82 ?_
            exact V_retI (pc := 83) d_X12_longOf_83 rfl ⟨Nat.le_refl _, Nat.le_refl _⟩ (by first | simpa (disch := omega) [-Int.not_lt, -Int.not_le, nI_eq, nI_eq0, nI_eq1, nI_e0n, nI_e1n, longS, baseS, c14, c27, c44, c60, c64] using hq | (exfalso; simp_all [show nI 2 = (2 : Int32) from rfl, show nI 3 = (3 : Int32) from rfl, show nI 4 = (4 : Int32) from rfl, show nI 5 = (5 : Int32) from rfl, show nI 6 = (6 : Int32) from rfl, show nI 7 = (7 : Int32) from rfl, show nI 8 = (8 : Int32) from rfl, show nI 9 = (9 : Int32) from rfl]; done))
          · refine V_aload_n (pc := 67) d_X12_longOf_67 rfl ?_
            refine P_getR (pc := 68) d_X12_longOf_68 f_X12_19 (tt_139 b) (rr_139_6 b) ?_
            refine V_iload_n (pc := 71) d_X12_longOf_71 rfl ?_
            refine P_zald (pc := 72) (k) d_X12_longOf_72 (tt_143 b) rfl (ln_of (ll_143 b) ⟨by omega, by decide⟩) ?_
            refine V_if_ne (pc := 73) 81 d_X12_longOf_73 (by decide) (fun c73 => ?_) (fun c73 => ?_)
            · refine V_iconst (pc := 81) (0) d_X12_longOf_81 (by decide) ?_
              refine V_iadd (pc := 82) d_X12_longOf_82 ?_
              exact V_retI (pc := 83) d_X12_longOf_83 rfl ⟨Nat.le_refl _, Nat.le_refl _⟩ (by first | simpa (disch := omega) [-Int.not_lt, -Int.not_le, nI_eq, nI_eq0, nI_eq1, nI_e0n, nI_e1n, longS, baseS, c14, c27, c44, c60, c64, c73] using hq | (exfalso; simp_all [show nI 2 = (2 : Int32) from rfl, show nI 3 = (3 : Int32) from rfl, show nI 4 = (4 : Int32) from rfl, show nI 5 = (5 : Int32) from rfl, show nI 6 = (6 : Int32) from rfl, show nI 7 = (7 : Int32) from rfl, show nI 8 = (8 : Int32) from rfl, show nI 9 = (9 : Int32) from rfl]; done))
            · refine V_bipush (pc := 76) (nI 8) d_X12_longOf_76 (by decide) ?_
              refine V_goto (pc := 78) 82 d_X12_longOf_78 (by decide) ?_
              refine V_iadd (pc := 82) d_X12_longOf_82 ?_
              exact V_retI (pc := 83) d_X12_longOf_83 rfl ⟨Nat.le_refl _, Nat.le_refl _⟩ (by first | simpa (disch := omega) [-Int.not_lt, -Int.not_le, nI_eq, nI_eq0, nI_eq1, nI_e0n, nI_e1n, longS, baseS, c14, c27, c44, c60, c64, c73] using hq | (exfalso; simp_all [show nI 2 = (2 : Int32) from rfl, show nI 3 = (3 : Int32) from rfl, show nI 4 = (4 : Int32) from rfl, show nI 5 = (5 : Int32) from rfl, show nI 6 = (6 : Int32) from rfl, show nI 7 = (7 : Int32) from rfl, show nI 8 = (8 : Int32) from rfl, show nI 9 = (9 : Int32) from rfl]; done))
end HC
