theorem cntm1 {x : Int32} {n : Nat} (h : x = nI n) (hn : n ≤ 10000) : (x - 1).toInt = (n : Int) - 1 := by
  rw [h, show (1 : Int32) = nI 1 from by decide, pk_sub_toInt (by omega) (by decide)]
  rfl
theorem cnt0 {x : Int32} {n : Nat} (h : x = nI n) (hn : n ≤ 10000) : x.toInt = (n : Int) := by
  rw [h, nI_toInt (by omega)]
section HA
variable {G : Gl} {K : Int32 → Hp → Prop} {σ : Nat → Nat → Int32} {b : Bool}
theorem ct_X11_done {v : Int32} (hq : K v (up2 σ 3 3 0, sh b)) : CM G mX11_done (rl 1) [.ref 3, .int v] (σ, sh b) (QI K) := by
  refine CM.of (by decide) (Nat.le_of_ble_eq_true rfl) (cats1 rfl) ?_
  refine V_aload_n (pc := 0) d_X11_done_0 rfl ?_
  refine V_iconst (pc := 1) (0) d_X11_done_1 (by decide) ?_
  refine P_putI (pc := 2) d_X11_done_2 f_X11_23 (tt_3 b) ?_
  refine V_iload_n (pc := 5) d_X11_done_5 rfl ?_
  exact V_retI (pc := 6) d_X11_done_6 rfl ⟨Nat.le_refl _, Nat.le_refl _⟩ hq
theorem ct_X11_refused {v : Int32} (hq : K (-1) (up2 σ 3 3 v, sh b)) : CM G mX11_refused (rl 1) [.ref 3, .int v] (σ, sh b) (QI K) := by
  refine CM.of (by decide) (Nat.le_of_ble_eq_true rfl) (cats1 rfl) ?_
  refine V_aload_n (pc := 0) d_X11_refused_0 rfl ?_
  refine V_iload_n (pc := 1) d_X11_refused_1 rfl ?_
  refine P_putI (pc := 2) d_X11_refused_2 f_X11_23 (tt_3 b) ?_
  refine V_iconst (pc := 5) (-1) d_X11_refused_5 (by decide) ?_
  exact V_retI (pc := 6) d_X11_refused_6 rfl ⟨Nat.le_refl _, Nat.le_refl _⟩ hq
theorem ct_X12_done {v : Int32} (hq : K v (up2 σ 139 0 0, sh b)) : CM G mX12_done (rl 1) [.ref 139, .int v] (σ, sh b) (QI K) := by
  refine CM.of (by decide) (Nat.le_of_ble_eq_true rfl) (cats1 rfl) ?_
  refine V_aload_n (pc := 0) d_X12_done_0 rfl ?_
  refine V_iconst (pc := 1) (0) d_X12_done_1 (by decide) ?_
  refine P_putI (pc := 2) d_X12_done_2 f_X12_167 (tt_139 b) ?_
  refine V_iload_n (pc := 5) d_X12_done_5 rfl ?_
  exact V_retI (pc := 6) d_X12_done_6 rfl ⟨Nat.le_refl _, Nat.le_refl _⟩ hq
theorem ct_X12_refused {v : Int32} (hq : K (-1) (up2 σ 139 0 v, sh b)) : CM G mX12_refused (rl 1) [.ref 139, .int v] (σ, sh b) (QI K) := by
  refine CM.of (by decide) (Nat.le_of_ble_eq_true rfl) (cats1 rfl) ?_
  refine V_aload_n (pc := 0) d_X12_refused_0 rfl ?_
  refine V_iload_n (pc := 1) d_X12_refused_1 rfl ?_
  refine P_putI (pc := 2) d_X12_refused_2 f_X12_167 (tt_139 b) ?_
  refine V_iconst (pc := 5) (-1) d_X12_refused_5 (by decide) ?_
  exact V_retI (pc := 6) d_X12_refused_6 rfl ⟨Nat.le_refl _, Nat.le_refl _⟩ hq
theorem ct_X4_isStretch {x : Int32} {n : Nat} (hn : σ 4 1 = nI n) (hn2 : n ≤ 20) (hq : K (if 0 ≤ x.toInt ∧ x.toInt ≤ (n : Int) - 1 then 1 else 0) (σ, sh b)) : CM G mX4_isStretch (rl 2) [.ref 4, .int x] (σ, sh b) (QI K) := by
  refine CM.of (by decide) (Nat.le_of_ble_eq_true rfl) (cats1 rfl) ?_
  refine V_iload_n (pc := 0) d_X4_isStretch_0 rfl ?_
  refine V_iconst (pc := 1) (0) d_X4_isStretch_1 (by decide) ?_
  refine V_aload_n (pc := 2) d_X4_isStretch_2 rfl ?_
  refine P_getI (pc := 3) d_X4_isStretch_3 f_X4_15 (tt_4 b) ?_
  refine V_iconst (pc := 6) (1) d_X4_isStretch_6 (by decide) ?_
  refine V_isub (pc := 7) d_X4_isStretch_7 ?_
  refine V_csI (pc := 8) (n := 1) [_, _, _] d_X4_isStretch_8 c_X4_121 k_X11_isWithin rfl (by decide) ⟨Nat.le_of_ble_eq_true rfl, Nat.le_of_ble_eq_true rfl⟩ ⟨Nat.le_refl _, Nat.le_refl _⟩ (ct_X11_isWithin (lo := 0) (hi := (n : Int) - 1) (by decide) (cntm1 hn (by omega)) ?_)
  exact V_retZ (pc := 11) d_X4_isStretch_11 rfl (by first | exact Or.inl rfl | exact Or.inr rfl | exact z01) ⟨Nat.le_refl _, Nat.le_refl _⟩ hq
theorem ct_X4_isLanding {x : Int32} {n : Nat} (hn : σ 4 1 = nI n) (hn2 : n ≤ 20) (hq : K (if 0 ≤ x.toInt ∧ x.toInt ≤ (n : Int) then 1 else 0) (σ, sh b)) : CM G mX4_isLanding (rl 2) [.ref 4, .int x] (σ, sh b) (QI K) := by
  refine CM.of (by decide) (Nat.le_of_ble_eq_true rfl) (cats1 rfl) ?_
  refine V_iload_n (pc := 0) d_X4_isLanding_0 rfl ?_
  refine V_iconst (pc := 1) (0) d_X4_isLanding_1 (by decide) ?_
  refine V_aload_n (pc := 2) d_X4_isLanding_2 rfl ?_
  refine P_getI (pc := 3) d_X4_isLanding_3 f_X4_15 (tt_4 b) ?_
  refine V_csI (pc := 6) (n := 1) [_, _, _] d_X4_isLanding_6 c_X4_121 k_X11_isWithin rfl (by decide) ⟨Nat.le_of_ble_eq_true rfl, Nat.le_of_ble_eq_true rfl⟩ ⟨Nat.le_refl _, Nat.le_refl _⟩ (ct_X11_isWithin (lo := 0) (hi := (n : Int)) (by decide) (cnt0 hn (by omega)) ?_)
  exact V_retZ (pc := 9) d_X4_isLanding_9 rfl (by first | exact Or.inl rfl | exact Or.inr rfl | exact z01) ⟨Nat.le_refl _, Nat.le_refl _⟩ hq
theorem ct_X4_isBoat {x : Int32} {n : Nat} (hn : σ 4 2 = nI n) (hn2 : n ≤ 20) (hq : K (if 0 ≤ x.toInt ∧ x.toInt ≤ (n : Int) - 1 then 1 else 0) (σ, sh b)) : CM G mX4_isBoat (rl 2) [.ref 4, .int x] (σ, sh b) (QI K) := by
  refine CM.of (by decide) (Nat.le_of_ble_eq_true rfl) (cats1 rfl) ?_
  refine V_iload_n (pc := 0) d_X4_isBoat_0 rfl ?_
  refine V_iconst (pc := 1) (0) d_X4_isBoat_1 (by decide) ?_
  refine V_aload_n (pc := 2) d_X4_isBoat_2 rfl ?_
  refine P_getI (pc := 3) d_X4_isBoat_3 f_X4_18 (tt_4 b) ?_
  refine V_iconst (pc := 6) (1) d_X4_isBoat_6 (by decide) ?_
  refine V_isub (pc := 7) d_X4_isBoat_7 ?_
  refine V_csI (pc := 8) (n := 1) [_, _, _] d_X4_isBoat_8 c_X4_121 k_X11_isWithin rfl (by decide) ⟨Nat.le_of_ble_eq_true rfl, Nat.le_of_ble_eq_true rfl⟩ ⟨Nat.le_refl _, Nat.le_refl _⟩ (ct_X11_isWithin (lo := 0) (hi := (n : Int) - 1) (by decide) (cntm1 hn (by omega)) ?_)
  exact V_retZ (pc := 11) d_X4_isBoat_11 rfl (by first | exact Or.inl rfl | exact Or.inr rfl | exact z01) ⟨Nat.le_refl _, Nat.le_refl _⟩ hq
theorem ct_X4_isBale {x : Int32} {n : Nat} (hn : σ 4 3 = nI n) (hn2 : n ≤ 20) (hq : K (if 0 ≤ x.toInt ∧ x.toInt ≤ (n : Int) - 1 then 1 else 0) (σ, sh b)) : CM G mX4_isBale (rl 2) [.ref 4, .int x] (σ, sh b) (QI K) := by
  refine CM.of (by decide) (Nat.le_of_ble_eq_true rfl) (cats1 rfl) ?_
  refine V_iload_n (pc := 0) d_X4_isBale_0 rfl ?_
  refine V_iconst (pc := 1) (0) d_X4_isBale_1 (by decide) ?_
  refine V_aload_n (pc := 2) d_X4_isBale_2 rfl ?_
  refine P_getI (pc := 3) d_X4_isBale_3 f_X4_21 (tt_4 b) ?_
  refine V_iconst (pc := 6) (1) d_X4_isBale_6 (by decide) ?_
  refine V_isub (pc := 7) d_X4_isBale_7 ?_
  refine V_csI (pc := 8) (n := 1) [_, _, _] d_X4_isBale_8 c_X4_121 k_X11_isWithin rfl (by decide) ⟨Nat.le_of_ble_eq_true rfl, Nat.le_of_ble_eq_true rfl⟩ ⟨Nat.le_refl _, Nat.le_refl _⟩ (ct_X11_isWithin (lo := 0) (hi := (n : Int) - 1) (by decide) (cntm1 hn (by omega)) ?_)
  exact V_retZ (pc := 11) d_X4_isBale_11 rfl (by first | exact Or.inl rfl | exact Or.inr rfl | exact z01) ⟨Nat.le_refl _, Nat.le_refl _⟩ hq
theorem ct_X4_today {q : Nat} (hq0 : σ 4 0 = nI q) (hq2 : q ≤ 9599) (hq : K (nI (q / 96)) (σ, sh b)) : CM G mX4_today (rl 1) [.ref 4] (σ, sh b) (QI K) := by
  refine CM.of (by decide) (Nat.le_of_ble_eq_true rfl) (cats1 rfl) ?_
  refine V_aload_n (pc := 0) d_X4_today_0 rfl ?_
  refine P_getI (pc := 1) d_X4_today_1 f_X4_9 (tt_4 b) ?_
  refine V_bipush (pc := 4) (nI 96) d_X4_today_4 (by decide) ?_
  refine V_idiv (pc := 6) d_X4_today_6 (by decide) ?_
  exact V_retI (pc := 7) d_X4_today_7 rfl ⟨Nat.le_refl _, Nat.le_refl _⟩ (by rw [hq0, pk_div (by omega) (by decide) (by decide)]; exact hq)
theorem ct_X12_isStretch {x : Int32} {n : Nat} (hn : σ 139 2 = nI n) (hn2 : n ≤ 20) (hq : K (if 0 ≤ x.toInt ∧ x.toInt ≤ (n : Int) - 1 then 1 else 0) (σ, sh b)) : CM G mX12_isStretch (rl 2) [.ref 139, .int x] (σ, sh b) (QI K) := by
  refine CM.of (by decide) (Nat.le_of_ble_eq_true rfl) (cats1 rfl) ?_
  refine V_iload_n (pc := 0) d_X12_isStretch_0 rfl ?_
  refine V_iconst (pc := 1) (0) d_X12_isStretch_1 (by decide) ?_
  refine V_aload_n (pc := 2) d_X12_isStretch_2 rfl ?_
  refine P_getI (pc := 3) d_X12_isStretch_3 f_X12_171 (tt_139 b) ?_
  refine V_iconst (pc := 6) (1) d_X12_isStretch_6 (by decide) ?_
  refine V_isub (pc := 7) d_X12_isStretch_7 ?_
  refine V_csI (pc := 8) (n := 1) [_, _, _] d_X12_isStretch_8 c_X12_174 k_X12_in rfl (by decide) ⟨Nat.le_of_ble_eq_true rfl, Nat.le_of_ble_eq_true rfl⟩ ⟨Nat.le_refl _, Nat.le_refl _⟩ (ct_X12_in (lo := 0) (hi := (n : Int) - 1) (by decide) (cntm1 hn (by omega)) ?_)
  exact V_retZ (pc := 11) d_X12_isStretch_11 rfl (by first | exact Or.inl rfl | exact Or.inr rfl | exact z01) ⟨Nat.le_refl _, Nat.le_refl _⟩ hq
theorem ct_X12_isLanding {x : Int32} {n : Nat} (hn : σ 139 2 = nI n) (hn2 : n ≤ 20) (hq : K (if 0 ≤ x.toInt ∧ x.toInt ≤ (n : Int) then 1 else 0) (σ, sh b)) : CM G mX12_isLanding (rl 2) [.ref 139, .int x] (σ, sh b) (QI K) := by
  refine CM.of (by decide) (Nat.le_of_ble_eq_true rfl) (cats1 rfl) ?_
  refine V_iload_n (pc := 0) d_X12_isLanding_0 rfl ?_
  refine V_iconst (pc := 1) (0) d_X12_isLanding_1 (by decide) ?_
  refine V_aload_n (pc := 2) d_X12_isLanding_2 rfl ?_
  refine P_getI (pc := 3) d_X12_isLanding_3 f_X12_171 (tt_139 b) ?_
  refine V_csI (pc := 6) (n := 1) [_, _, _] d_X12_isLanding_6 c_X12_174 k_X12_in rfl (by decide) ⟨Nat.le_of_ble_eq_true rfl, Nat.le_of_ble_eq_true rfl⟩ ⟨Nat.le_refl _, Nat.le_refl _⟩ (ct_X12_in (lo := 0) (hi := (n : Int)) (by decide) (cnt0 hn (by omega)) ?_)
  exact V_retZ (pc := 9) d_X12_isLanding_9 rfl (by first | exact Or.inl rfl | exact Or.inr rfl | exact z01) ⟨Nat.le_refl _, Nat.le_refl _⟩ hq
theorem ct_X12_isBoat {x : Int32} {n : Nat} (hn : σ 139 12 = nI n) (hn2 : n ≤ 20) (hq : K (if 0 ≤ x.toInt ∧ x.toInt ≤ (n : Int) - 1 then 1 else 0) (σ, sh b)) : CM G mX12_isBoat (rl 2) [.ref 139, .int x] (σ, sh b) (QI K) := by
  refine CM.of (by decide) (Nat.le_of_ble_eq_true rfl) (cats1 rfl) ?_
  refine V_iload_n (pc := 0) d_X12_isBoat_0 rfl ?_
  refine V_iconst (pc := 1) (0) d_X12_isBoat_1 (by decide) ?_
  refine V_aload_n (pc := 2) d_X12_isBoat_2 rfl ?_
  refine P_getI (pc := 3) d_X12_isBoat_3 f_X12_178 (tt_139 b) ?_
  refine V_iconst (pc := 6) (1) d_X12_isBoat_6 (by decide) ?_
  refine V_isub (pc := 7) d_X12_isBoat_7 ?_
  refine V_csI (pc := 8) (n := 1) [_, _, _] d_X12_isBoat_8 c_X12_174 k_X12_in rfl (by decide) ⟨Nat.le_of_ble_eq_true rfl, Nat.le_of_ble_eq_true rfl⟩ ⟨Nat.le_refl _, Nat.le_refl _⟩ (ct_X12_in (lo := 0) (hi := (n : Int) - 1) (by decide) (cntm1 hn (by omega)) ?_)
  exact V_retZ (pc := 11) d_X12_isBoat_11 rfl (by first | exact Or.inl rfl | exact Or.inr rfl | exact z01) ⟨Nat.le_refl _, Nat.le_refl _⟩ hq
theorem ct_X12_isBale {x : Int32} {n : Nat} (hn : σ 139 24 = nI n) (hn2 : n ≤ 20) (hq : K (if 0 ≤ x.toInt ∧ x.toInt ≤ (n : Int) - 1 then 1 else 0) (σ, sh b)) : CM G mX12_isBale (rl 2) [.ref 139, .int x] (σ, sh b) (QI K) := by
  refine CM.of (by decide) (Nat.le_of_ble_eq_true rfl) (cats1 rfl) ?_
  refine V_iload_n (pc := 0) d_X12_isBale_0 rfl ?_
  refine V_iconst (pc := 1) (0) d_X12_isBale_1 (by decide) ?_
  refine V_aload_n (pc := 2) d_X12_isBale_2 rfl ?_
  refine P_getI (pc := 3) d_X12_isBale_3 f_X12_181 (tt_139 b) ?_
  refine V_iconst (pc := 6) (1) d_X12_isBale_6 (by decide) ?_
  refine V_isub (pc := 7) d_X12_isBale_7 ?_
  refine V_csI (pc := 8) (n := 1) [_, _, _] d_X12_isBale_8 c_X12_174 k_X12_in rfl (by decide) ⟨Nat.le_of_ble_eq_true rfl, Nat.le_of_ble_eq_true rfl⟩ ⟨Nat.le_refl _, Nat.le_refl _⟩ (ct_X12_in (lo := 0) (hi := (n : Int) - 1) (by decide) (cntm1 hn (by omega)) ?_)
  exact V_retZ (pc := 11) d_X12_isBale_11 rfl (by first | exact Or.inl rfl | exact Or.inr rfl | exact z01) ⟨Nat.le_refl _, Nat.le_refl _⟩ hq
theorem ct_X12_today {q : Nat} (hq0 : σ 139 1 = nI q) (hq2 : q ≤ 9599) (hq : K (nI (q / 96)) (σ, sh b)) : CM G mX12_today (rl 1) [.ref 139] (σ, sh b) (QI K) := by
  refine CM.of (by decide) (Nat.le_of_ble_eq_true rfl) (cats1 rfl) ?_
  refine V_aload_n (pc := 0) d_X12_today_0 rfl ?_
  refine P_getI (pc := 1) d_X12_today_1 f_X12_184 (tt_139 b) ?_
  refine V_bipush (pc := 4) (nI 96) d_X12_today_4 (by decide) ?_
  refine V_idiv (pc := 6) d_X12_today_6 (by decide) ?_
  exact V_retI (pc := 7) d_X12_today_7 rfl ⟨Nat.le_refl _, Nat.le_refl _⟩ (by rw [hq0, pk_div (by omega) (by decide) (by decide)]; exact hq)
theorem ct_X4_isNight {q : Nat} (hq0 : σ 4 0 = nI q) (hq2 : q ≤ 9599) (hq : K (if q % 96 < 24 ∨ 72 ≤ q % 96 then 1 else 0) (σ, sh b)) : CM G mX4_isNight (rl 2) [.ref 4] (σ, sh b) (QI K) := by
  refine CM.of (by decide) (Nat.le_of_ble_eq_true rfl) (cats1 rfl) ?_
  refine V_aload_n (pc := 0) d_X4_isNight_0 rfl ?_
  refine P_getI (pc := 1) d_X4_isNight_1 f_X4_9 (tt_4 b) ?_
  refine V_bipush (pc := 4) (nI 96) d_X4_isNight_4 (by decide) ?_
  refine V_irem (pc := 6) d_X4_isNight_6 (by decide) ?_
  rw [hq0, pk_rem (by omega) (by decide) (by decide)]
  refine V_bipush (pc := 7) (nI 24) d_X4_isNight_7 (by decide) ?_
  refine V_bipush (pc := 9) (nI 71) d_X4_isNight_9 (by decide) ?_
  refine V_csI (pc := 11) (n := 1) [_, _, _] d_X4_isNight_11 c_X4_121 k_X11_isWithin rfl (by decide) ⟨Nat.le_of_ble_eq_true rfl, Nat.le_of_ble_eq_true rfl⟩ ⟨Nat.le_refl _, Nat.le_refl _⟩ (ct_X11_isWithin (lo := 24) (hi := 71) (by decide) (by decide) ?_)
  refine V_if_ne (pc := 14) 21 d_X4_isNight_14 (by decide) (fun c14 => ?_) (fun c14 => ?_)
  · replace c14 := zt c14
    rw [nI_toInt (by omega)] at c14
    refine V_iconst (pc := 21) (0) d_X4_isNight_21 (by decide) ?_
    exact V_retZ (pc := 22) d_X4_isNight_22 rfl (by first | exact Or.inl rfl | exact Or.inr rfl | exact z01) ⟨Nat.le_refl _, Nat.le_refl _⟩ (by first | (rw [if_pos (by omega)] at hq; exact hq) | (rw [if_neg (by omega)] at hq; exact hq) | exact hq)
  · replace c14 := zf c14
    rw [nI_toInt (by omega)] at c14
    refine V_iconst (pc := 17) (1) d_X4_isNight_17 (by decide) ?_
    refine V_goto (pc := 18) 22 d_X4_isNight_18 (by decide) ?_
    exact V_retZ (pc := 22) d_X4_isNight_22 rfl (by first | exact Or.inl rfl | exact Or.inr rfl | exact z01) ⟨Nat.le_refl _, Nat.le_refl _⟩ (by first | (rw [if_pos (by omega)] at hq; exact hq) | (rw [if_neg (by omega)] at hq; exact hq) | exact hq)
theorem ct_X12_isNight {q : Nat} (hq0 : σ 139 1 = nI q) (hq2 : q ≤ 9599) (hq : K (if q % 96 < 24 ∨ 72 ≤ q % 96 then 1 else 0) (σ, sh b)) : CM G mX12_isNight (rl 1) [.ref 139] (σ, sh b) (QI K) := by
  refine CM.of (by decide) (Nat.le_of_ble_eq_true rfl) (cats1 rfl) ?_
  refine V_aload_n (pc := 0) d_X12_isNight_0 rfl ?_
  refine P_getI (pc := 1) d_X12_isNight_1 f_X12_184 (tt_139 b) ?_
  refine V_bipush (pc := 4) (nI 96) d_X12_isNight_4 (by decide) ?_
  refine V_irem (pc := 6) d_X12_isNight_6 (by decide) ?_
  rw [hq0, pk_rem (by omega) (by decide) (by decide)]
  refine V_bipush (pc := 7) (nI 24) d_X12_isNight_7 (by decide) ?_
  refine B_icmp_lt (pc := 9) 24 d_X12_isNight_9 (by decide) (fun c9 => ?_) (fun c9 => ?_)
  · simp (disch := omega) only [nI_toInt, ti0, ti1, tim1, tim20, tim1000] at c9
    refine V_iconst (pc := 24) (1) d_X12_isNight_24 (by decide) ?_
    refine V_goto (pc := 25) 29 d_X12_isNight_25 (by decide) ?_
    exact V_retZ (pc := 29) d_X12_isNight_29 rfl (by first | exact Or.inl rfl | exact Or.inr rfl | exact z01) ⟨Nat.le_refl _, Nat.le_refl _⟩ (by first | (rw [if_pos (by omega)] at hq; exact hq) | (rw [if_neg (by omega)] at hq; exact hq) | exact hq)
  · simp (disch := omega) only [nI_toInt, ti0, ti1, tim1, tim20, tim1000] at c9
    refine V_aload_n (pc := 12) d_X12_isNight_12 rfl ?_
    refine P_getI (pc := 13) d_X12_isNight_13 f_X12_184 (tt_139 b) ?_
    refine V_bipush (pc := 16) (nI 96) d_X12_isNight_16 (by decide) ?_
    refine V_irem (pc := 18) d_X12_isNight_18 (by decide) ?_
    rw [hq0, pk_rem (by omega) (by decide) (by decide)]
    refine V_bipush (pc := 19) (nI 72) d_X12_isNight_19 (by decide) ?_
    refine B_icmp_lt (pc := 21) 28 d_X12_isNight_21 (by decide) (fun c21 => ?_) (fun c21 => ?_)
    · simp (disch := omega) only [nI_toInt, ti0, ti1, tim1, tim20, tim1000] at c21
      refine V_iconst (pc := 28) (0) d_X12_isNight_28 (by decide) ?_
      exact V_retZ (pc := 29) d_X12_isNight_29 rfl (by first | exact Or.inl rfl | exact Or.inr rfl | exact z01) ⟨Nat.le_refl _, Nat.le_refl _⟩ (by first | (rw [if_pos (by omega)] at hq; exact hq) | (rw [if_neg (by omega)] at hq; exact hq) | exact hq)
    · simp (disch := omega) only [nI_toInt, ti0, ti1, tim1, tim20, tim1000] at c21
      refine V_iconst (pc := 24) (1) d_X12_isNight_24 (by decide) ?_
      refine V_goto (pc := 25) 29 d_X12_isNight_25 (by decide) ?_
      exact V_retZ (pc := 29) d_X12_isNight_29 rfl (by first | exact Or.inl rfl | exact Or.inr rfl | exact z01) ⟨Nat.le_refl _, Nat.le_refl _⟩ (by first | (rw [if_pos (by omega)] at hq; exact hq) | (rw [if_neg (by omega)] at hq; exact hq) | exact hq)
end HA
section HB
variable {G : Gl} {K : Int32 → Hp → Prop} {σ : Nat → Nat → Int32} {s : (Nat → Nat → Option Nat) × (Nat → Nat) × (Nat → Nat) × Nat} {a : Nat}
theorem ct_X2_draughtWith {m : Int32} (hT : s.2.1 a = 3) (hq : K (σ a 0 + (σ a 4 + m) / nI 10) (σ, s)) : CM G mX2_draughtWith (rl 1) [.ref a, .int m] (σ, s) (QI K) := by
  refine CM.of (by decide) (Nat.le_of_ble_eq_true rfl) (cats1 rfl) ?_
  refine V_aload_n (pc := 0) d_X2_draughtWith_0 rfl ?_
  refine P_getI (pc := 1) d_X2_draughtWith_1 f_X2_9 hT ?_
  refine V_aload_n (pc := 4) d_X2_draughtWith_4 rfl ?_
  refine P_getI (pc := 5) d_X2_draughtWith_5 f_X2_24 hT ?_
  refine V_iload_n (pc := 8) d_X2_draughtWith_8 rfl ?_
  refine V_iadd (pc := 9) d_X2_draughtWith_9 ?_
  refine V_bipush (pc := 10) (nI 10) d_X2_draughtWith_10 (by decide) ?_
  refine V_idiv (pc := 12) d_X2_draughtWith_12 (by decide) ?_
  refine V_iadd (pc := 13) d_X2_draughtWith_13 ?_
  exact V_retI (pc := 14) d_X2_draughtWith_14 rfl ⟨Nat.le_refl _, Nat.le_refl _⟩ hq
theorem ct_X2_draught  (hT : s.2.1 a = 3) (hq : K (σ a 0 + (σ a 4 + 0) / nI 10) (σ, s)) : CM G mX2_draught (rl 2) [.ref a] (σ, s) (QI K) := by
  refine CM.of (by decide) (Nat.le_of_ble_eq_true rfl) (cats1 rfl) ?_
  refine V_aload_n (pc := 0) d_X2_draught_0 rfl ?_
  refine V_iconst (pc := 1) (0) d_X2_draught_1 (by decide) ?_
  refine V_cvI (pc := 2) (n := 1) (c := 2) [_] d_X2_draught_2 c_X2_53 k_X2_draughtWith ⟨rfl, rfl⟩ hT rfl (by decide) ⟨Nat.le_of_ble_eq_true rfl, Nat.le_of_ble_eq_true rfl⟩ ⟨Nat.le_refl _, Nat.le_refl _⟩ (ct_X2_draughtWith hT ?_)
  exact V_retI (pc := 5) d_X2_draught_5 rfl ⟨Nat.le_refl _, Nat.le_refl _⟩ hq
theorem ct_X2_isUnderWay  (hT : s.2.1 a = 3) (hq : K (if σ a 5 = 1 ∨ σ a 5 = nI 2 then 1 else 0) (σ, s)) : CM G mX2_isUnderWay (rl 1) [.ref a] (σ, s) (QI K) := by
  refine CM.of (by decide) (Nat.le_of_ble_eq_true rfl) (cats1 rfl) ?_
  refine V_aload_n (pc := 0) d_X2_isUnderWay_0 rfl ?_
  refine P_getI (pc := 1) d_X2_isUnderWay_1 f_X2_27 hT ?_
  refine V_iconst (pc := 4) (1) d_X2_isUnderWay_4 (by decide) ?_
  refine V_icmp_eq (pc := 5) 16 d_X2_isUnderWay_5 (by decide) (fun c5 => ?_) (fun c5 => ?_)
  · refine V_iconst (pc := 16) (1) d_X2_isUnderWay_16 (by decide) ?_
    refine V_goto (pc := 17) 21 d_X2_isUnderWay_17 (by decide) ?_
    exact V_retZ (pc := 21) d_X2_isUnderWay_21 rfl (by first | exact Or.inl rfl | exact Or.inr rfl | exact z01) ⟨Nat.le_refl _, Nat.le_refl _⟩ (by simpa [c5] using hq)
  · refine V_aload_n (pc := 8) d_X2_isUnderWay_8 rfl ?_
    refine P_getI (pc := 9) d_X2_isUnderWay_9 f_X2_27 hT ?_
    refine V_iconst (pc := 12) (nI 2) d_X2_isUnderWay_12 (by decide) ?_
    refine V_icmp_ne (pc := 13) 20 d_X2_isUnderWay_13 (by decide) (fun c13 => ?_) (fun c13 => ?_)
    · refine V_iconst (pc := 20) (0) d_X2_isUnderWay_20 (by decide) ?_
      exact V_retZ (pc := 21) d_X2_isUnderWay_21 rfl (by first | exact Or.inl rfl | exact Or.inr rfl | exact z01) ⟨Nat.le_refl _, Nat.le_refl _⟩ (by simpa [c5, c13] using hq)
    · refine V_iconst (pc := 16) (1) d_X2_isUnderWay_16 (by decide) ?_
      refine V_goto (pc := 17) 21 d_X2_isUnderWay_17 (by decide) ?_
      exact V_retZ (pc := 21) d_X2_isUnderWay_21 rfl (by first | exact Or.inl rfl | exact Or.inr rfl | exact z01) ⟨Nat.le_refl _, Nat.le_refl _⟩ (by simpa [c5, c13] using hq)
theorem ct_X2_stretchToward {d : Int32} (hT : s.2.1 a = 3) (hq : K (if d = 0 then σ a 6 - 1 else σ a 6) (σ, s)) : CM G mX2_stretchToward (rl 1) [.ref a, .int d] (σ, s) (QI K) := by
  refine CM.of (by decide) (Nat.le_of_ble_eq_true rfl) (cats1 rfl) ?_
  refine V_iload_n (pc := 0) d_X2_stretchToward_0 rfl ?_
  refine V_if_eq (pc := 1) 11 d_X2_stretchToward_1 (by decide) (fun c1 => ?_) (fun c1 => ?_)
  · refine V_aload_n (pc := 11) d_X2_stretchToward_11 rfl ?_
    refine P_getI (pc := 12) d_X2_stretchToward_12 f_X2_30 hT ?_
    refine V_iconst (pc := 15) (1) d_X2_stretchToward_15 (by decide) ?_
    refine V_isub (pc := 16) d_X2_stretchToward_16 ?_
    exact V_retI (pc := 17) d_X2_stretchToward_17 rfl ⟨Nat.le_refl _, Nat.le_refl _⟩ (by simpa [c1] using hq)
  · refine V_aload_n (pc := 4) d_X2_stretchToward_4 rfl ?_
    refine P_getI (pc := 5) d_X2_stretchToward_5 f_X2_30 hT ?_
    refine V_goto (pc := 8) 17 d_X2_stretchToward_8 (by decide) ?_
    exact V_retI (pc := 17) d_X2_stretchToward_17 rfl ⟨Nat.le_refl _, Nat.le_refl _⟩ (by simpa [c1] using hq)
theorem ct_X2_canTake {w z : Int32} (hT : s.2.1 a = 3) (hq : K (if (σ a 4 + w).toInt ≤ (σ a 1).toInt ∧ (σ a 0 + (σ a 4 + w) / nI 10).toInt ≤ z.toInt then 1 else 0) (σ, s)) : CM G mX2_canTake (rl 2) [.ref a, .int w, .int z] (σ, s) (QI K) := by
  refine CM.of (by decide) (Nat.le_of_ble_eq_true rfl) (cats1 rfl) ?_
  refine V_aload_n (pc := 0) d_X2_canTake_0 rfl ?_
  refine P_getI (pc := 1) d_X2_canTake_1 f_X2_24 hT ?_
  refine V_iload_n (pc := 4) d_X2_canTake_4 rfl ?_
  refine V_iadd (pc := 5) d_X2_canTake_5 ?_
  refine V_aload_n (pc := 6) d_X2_canTake_6 rfl ?_
  refine P_getI (pc := 7) d_X2_canTake_7 f_X2_15 hT ?_
  refine B_icmp_gt (pc := 10) 26 d_X2_canTake_10 (by decide) (fun c10 => ?_) (fun c10 => ?_)
  · refine V_iconst (pc := 26) (0) d_X2_canTake_26 (by decide) ?_
    exact V_retZ (pc := 27) d_X2_canTake_27 rfl (by first | exact Or.inl rfl | exact Or.inr rfl | exact z01) ⟨Nat.le_refl _, Nat.le_refl _⟩ (by first | (rw [if_pos (by omega)] at hq; exact hq) | (rw [if_neg (by omega)] at hq; exact hq) | exact hq)
  · refine V_aload_n (pc := 13) d_X2_canTake_13 rfl ?_
    refine V_iload_n (pc := 14) d_X2_canTake_14 rfl ?_
    refine V_cvI (pc := 15) (n := 1) (c := 2) [_] d_X2_canTake_15 c_X2_53 k_X2_draughtWith ⟨rfl, rfl⟩ hT rfl (by decide) ⟨Nat.le_of_ble_eq_true rfl, Nat.le_of_ble_eq_true rfl⟩ ⟨Nat.le_refl _, Nat.le_refl _⟩ (ct_X2_draughtWith hT ?_)
    refine V_iload_n (pc := 18) d_X2_canTake_18 rfl ?_
    refine B_icmp_gt (pc := 19) 26 d_X2_canTake_19 (by decide) (fun c19 => ?_) (fun c19 => ?_)
    · refine V_iconst (pc := 26) (0) d_X2_canTake_26 (by decide) ?_
      exact V_retZ (pc := 27) d_X2_canTake_27 rfl (by first | exact Or.inl rfl | exact Or.inr rfl | exact z01) ⟨Nat.le_refl _, Nat.le_refl _⟩ (by first | (rw [if_pos (by omega)] at hq; exact hq) | (rw [if_neg (by omega)] at hq; exact hq) | exact hq)
    · refine V_iconst (pc := 22) (1) d_X2_canTake_22 (by decide) ?_
      refine V_goto (pc := 23) 27 d_X2_canTake_23 (by decide) ?_
      exact V_retZ (pc := 27) d_X2_canTake_27 rfl (by first | exact Or.inl rfl | exact Or.inr rfl | exact z01) ⟨Nat.le_refl _, Nat.le_refl _⟩ (by first | (rw [if_pos (by omega)] at hq; exact hq) | (rw [if_neg (by omega)] at hq; exact hq) | exact hq)
end HB
