def acV (kk a k : Nat) (x L D : Int32) : Int32 :=
  match kk, a with
  | 0, 0 => (x + D)
  | 0, 1 => ((x + D) * nI 2)
  | 0, 2 => (x - nI k)
  | 0, 3 => (((x + D) * nI 2) ^^^ (x - nI k))
  | 1, 0 => ((x + D) - L)
  | 1, 1 => (((x + D) - L) * nI 2)
  | 1, 2 => (x - nI k)
  | 1, 3 => (((((x + 1) + D) - L) * nI 2) ^^^ ((x + 1) - nI k))
  | 2, 0 => (x + D)
  | 2, 1 => (((x + D) * nI 2) + (L - nI k))
  | 2, 2 => (x - nI k)
  | 2, 3 => ((((x + D) * nI 2) + (L - nI k)) ^^^ (x - nI k))
  | 3, 0 => (((x + nI k) + D) - L)
  | 3, 1 => ((((x + nI k) + D) - L) * nI 2)
  | 3, 2 => ((x - nI k) * nI 3)
  | 3, 3 => ((((((x + 1) + nI k) + D) - L) * nI 2) ^^^ (((x + 1) - nI k) * nI 3))
  | 4, 0 => (x + D)
  | 4, 1 => (((x + D) * nI 2) ^^^ D)
  | 4, 2 => ((x + L) - nI k)
  | 4, 3 => ((((x + D) * nI 2) ^^^ D) ^^^ ((x + L) - nI k))
  | 5, 0 => (x + D)
  | 5, 1 => ((x + D) * nI 2)
  | 5, 2 => (x - nI k)
  | 5, 3 => ((x - nI k) - (((x + D) * nI 2) ^^^ (x - nI k)))
  | _, _ => 0
def acE (kk a : Nat) : List Int32 :=
  match kk, a with
  | 0, 0 => [nI 10]
  | 0, 1 => [nI 11, nI 10]
  | 0, 2 => [nI 12]
  | 0, 3 => [nI 13, nI 11, nI 10, nI 12]
  | 1, 0 => [nI 20, nI 10]
  | 1, 1 => [nI 11, nI 20, nI 10]
  | 1, 2 => [nI 12]
  | 1, 3 => [nI 21, nI 13, nI 11, nI 20, nI 10, nI 12]
  | 2, 0 => [nI 10]
  | 2, 1 => [nI 30, nI 11, nI 10, nI 12]
  | 2, 2 => [nI 12]
  | 2, 3 => [nI 13, nI 30, nI 11, nI 10, nI 12, nI 12]
  | 3, 0 => [nI 41, nI 20, nI 10]
  | 3, 1 => [nI 11, nI 41, nI 20, nI 10]
  | 3, 2 => [nI 40, nI 12]
  | 3, 3 => [nI 21, nI 13, nI 11, nI 41, nI 20, nI 10, nI 40, nI 12]
  | 4, 0 => [nI 10]
  | 4, 1 => [nI 50, nI 11, nI 10]
  | 4, 2 => [nI 51, nI 12]
  | 4, 3 => [nI 13, nI 50, nI 11, nI 10, nI 51, nI 12]
  | 5, 0 => [nI 10]
  | 5, 1 => [nI 11, nI 10]
  | 5, 2 => [nI 12]
  | 5, 3 => [nI 60, nI 12, nI 13, nI 11, nI 10, nI 12]
  | _, _ => []
theorem acE_len : ∀ kk, kk < 6 → ∀ a, a < 4 → (acE kk a).length ≤ 49 := by decide
section HC
variable {G : Gl} {R : Room} {F : Fn} {K : Int32 → Hp → Prop} {KV : Hp → Prop} {σ : Nat → Nat → Int32} {b : Bool}
theorem ct_M_bear10 {k n : Nat} {x L D : Int32} (hk : k < 10) (hn : n + 1 ≤ 50) (h0 : σ 139 59 = nI n) (hL : σ 141 k = L) (hD : σ 142 k = D) (hq : K (x + D) (ntM σ n [nI 10], sh b)) : CM G mX12_bear10 (rl 2) [.ref 139, .int (nI k), .int x] (σ, sh b) (QI K) := by
  refine CM.of (by decide) (Nat.le_of_ble_eq_true rfl) (cats1 rfl) ?_
  refine V_aload_n (pc := 0) d_X12_bear10_0 rfl ?_
  refine V_bipush (pc := 1) (nI 10) d_X12_bear10_1 (by decide) ?_
  refine V_cvV (pc := 3) (n := 1) (c := 12) [_] d_X12_bear10_3 c_X12_320 k_X12_ran ⟨rfl, rfl⟩ (tt_139 b) rfl (Nat.le_of_ble_eq_true rfl) ⟨Nat.le_of_ble_eq_true rfl, Nat.le_of_ble_eq_true rfl⟩ ⟨Nat.le_refl _, Nat.le_refl _⟩ (ct_X12_ran (by omega) h0 ?_)
  refine V_iload_n (pc := 6) d_X12_bear10_6 rfl ?_
  refine V_aload_n (pc := 7) d_X12_bear10_7 rfl ?_
  refine P_getR (pc := 8) d_X12_bear10_8 f_X12_16 (tt_139 b) (rr_139_5 b) ?_
  refine V_iload_n (pc := 11) d_X12_bear10_11 rfl ?_
  refine P_iald (pc := 12) (k) d_X12_bear10_12 (tt_142 b) rfl (ln_of (ll_142 b) ⟨by omega, by decide⟩) ?_
  simp (disch := omega) only [up2_n, up2_e, ntM_o]
  rw [hD]
  refine V_iadd (pc := 13) d_X12_bear10_13 ?_
  exact V_retI (pc := 14) d_X12_bear10_14 rfl ⟨Nat.le_refl _, Nat.le_refl _⟩ (by simp only [ntM] at hq ⊢; exact hq)
theorem ct_M_bear20 {k n : Nat} {x L D : Int32} (hk : k < 10) (hn : n + 2 ≤ 50) (h0 : σ 139 59 = nI n) (hL : σ 141 k = L) (hD : σ 142 k = D) (hq : K ((x + D) - L) (ntM σ n [nI 20, nI 10], sh b)) : CM G mX12_bear20 (rl 3) [.ref 139, .int (nI k), .int x] (σ, sh b) (QI K) := by
  refine CM.of (by decide) (Nat.le_of_ble_eq_true rfl) (cats1 rfl) ?_
  refine V_aload_n (pc := 0) d_X12_bear20_0 rfl ?_
  refine V_bipush (pc := 1) (nI 20) d_X12_bear20_1 (by decide) ?_
  refine V_cvV (pc := 3) (n := 1) (c := 12) [_] d_X12_bear20_3 c_X12_320 k_X12_ran ⟨rfl, rfl⟩ (tt_139 b) rfl (Nat.le_of_ble_eq_true rfl) ⟨Nat.le_of_ble_eq_true rfl, Nat.le_of_ble_eq_true rfl⟩ ⟨Nat.le_refl _, Nat.le_refl _⟩ (ct_X12_ran (by omega) h0 ?_)
  refine V_aload_n (pc := 6) d_X12_bear20_6 rfl ?_
  refine V_iload_n (pc := 7) d_X12_bear20_7 rfl ?_
  refine V_iload_n (pc := 8) d_X12_bear20_8 rfl ?_
  refine V_cvI (pc := 9) (n := 2) (c := 12) [_, _] d_X12_bear20_9 c_X12_324 k_X12_bear10 ⟨rfl, rfl⟩ (tt_139 b) rfl (Nat.le_of_ble_eq_true rfl) ⟨Nat.le_of_ble_eq_true rfl, Nat.le_of_ble_eq_true rfl⟩ ⟨Nat.le_refl _, Nat.le_refl _⟩ (ct_M_bear10 (n := n + 1) hk (by omega) (ntM_c h0) ((ntM_o (by omega)).trans hL) ((ntM_o (by omega)).trans hD) ?_)
  refine V_aload_n (pc := 12) d_X12_bear20_12 rfl ?_
  refine P_getR (pc := 13) d_X12_bear20_13 f_X12_13 (tt_139 b) (rr_139_4 b) ?_
  refine V_iload_n (pc := 16) d_X12_bear20_16 rfl ?_
  refine P_iald (pc := 17) (k) d_X12_bear20_17 (tt_141 b) rfl (ln_of (ll_141 b) ⟨by omega, by decide⟩) ?_
  simp (disch := omega) only [up2_n, up2_e, ntM_o]
  rw [hL]
  refine V_isub (pc := 18) d_X12_bear20_18 ?_
  exact V_retI (pc := 19) d_X12_bear20_19 rfl ⟨Nat.le_refl _, Nat.le_refl _⟩ (by simp only [ntM] at hq ⊢; exact hq)
theorem ct_M_bar12 {k n : Nat} {x L D : Int32} (hk : k < 10) (hn : n + 1 ≤ 50) (h0 : σ 139 59 = nI n) (hL : σ 141 k = L) (hD : σ 142 k = D) (hq : K (x - nI k) (ntM σ n [nI 12], sh b)) : CM G mX12_bar12 (rl 2) [.ref 139, .int (nI k), .int x] (σ, sh b) (QI K) := by
  refine CM.of (by decide) (Nat.le_of_ble_eq_true rfl) (cats1 rfl) ?_
  refine V_aload_n (pc := 0) d_X12_bar12_0 rfl ?_
  refine V_bipush (pc := 1) (nI 12) d_X12_bar12_1 (by decide) ?_
  refine V_cvV (pc := 3) (n := 1) (c := 12) [_] d_X12_bar12_3 c_X12_320 k_X12_ran ⟨rfl, rfl⟩ (tt_139 b) rfl (Nat.le_of_ble_eq_true rfl) ⟨Nat.le_of_ble_eq_true rfl, Nat.le_of_ble_eq_true rfl⟩ ⟨Nat.le_refl _, Nat.le_refl _⟩ (ct_X12_ran (by omega) h0 ?_)
  refine V_iload_n (pc := 6) d_X12_bar12_6 rfl ?_
  refine V_iload_n (pc := 7) d_X12_bar12_7 rfl ?_
  refine V_isub (pc := 8) d_X12_bar12_8 ?_
  exact V_retI (pc := 9) d_X12_bar12_9 rfl ⟨Nat.le_refl _, Nat.le_refl _⟩ (by simp only [ntM] at hq ⊢; exact hq)
theorem ct_M_bearOf_0 {k n : Nat} {x L D : Int32} (hk : k < 10) (hn : n + 1 ≤ 50) (h0 : σ 139 59 = nI n) (hK : σ 140 k = 0) (hL : σ 141 k = L) (hD : σ 142 k = D) (hq : K (x + D) (ntM σ n [nI 10], sh b)) : CM G mX12_bearOf (rl 4) [.ref 139, .int (nI k), .int x] (σ, sh b) (QI K) := by
  refine CM.of (by decide) (Nat.le_of_ble_eq_true rfl) (cats1 rfl) ?_
  refine V_aload_n (pc := 0) d_X12_bearOf_0 rfl ?_
  refine P_getR (pc := 1) d_X12_bearOf_1 f_X12_7 (tt_139 b) (rr_139_3 b) ?_
  refine V_iload_n (pc := 4) d_X12_bearOf_4 rfl ?_
  refine P_iald (pc := 5) (k) d_X12_bearOf_5 (tt_140 b) rfl (ln_of (ll_140 b) ⟨by omega, by decide⟩) ?_
  rw [hK]
  refine V_iconst (pc := 6) (nI 3) d_X12_bearOf_6 (by decide) ?_
  refine V_icmp_ne (pc := 7) 25 d_X12_bearOf_7 (by decide) (fun c7 => ?_) (fun c7 => ?_)
  · refine V_aload_n (pc := 25) d_X12_bearOf_25 rfl ?_
    refine P_getR (pc := 26) d_X12_bearOf_26 f_X12_7 (tt_139 b) (rr_139_3 b) ?_
    refine V_iload_n (pc := 29) d_X12_bearOf_29 rfl ?_
    refine P_iald (pc := 30) (k) d_X12_bearOf_30 (tt_140 b) rfl (ln_of (ll_140 b) ⟨by omega, by decide⟩) ?_
    rw [hK]
    refine V_iconst (pc := 31) (1) d_X12_bearOf_31 (by decide) ?_
    refine V_icmp_ne (pc := 32) 44 d_X12_bearOf_32 (by decide) (fun c32 => ?_) (fun c32 => ?_)
    · refine V_aload_n (pc := 44) d_X12_bearOf_44 rfl ?_
      refine V_iload_n (pc := 45) d_X12_bearOf_45 rfl ?_
      refine V_iload_n (pc := 46) d_X12_bearOf_46 rfl ?_
      refine V_cvI (pc := 47) (n := 2) (c := 12) [_, _] d_X12_bearOf_47 c_X12_324 k_X12_bear10 ⟨rfl, rfl⟩ (tt_139 b) rfl (Nat.le_of_ble_eq_true rfl) ⟨Nat.le_of_ble_eq_true rfl, Nat.le_of_ble_eq_true rfl⟩ ⟨Nat.le_refl _, Nat.le_refl _⟩ (ct_M_bear10 (n := n) hk (by omega) h0 hL hD ?_)
      exact V_retI (pc := 50) d_X12_bearOf_50 rfl ⟨Nat.le_refl _, Nat.le_refl _⟩ (by simp only [ntM] at hq ⊢; exact hq)
    · exact absurd c32 (by decide)
  · exact absurd c7 (by decide)
theorem ct_M_barOf_0 {k n : Nat} {x L D : Int32} (hk : k < 10) (hn : n + 1 ≤ 50) (h0 : σ 139 59 = nI n) (hK : σ 140 k = 0) (hL : σ 141 k = L) (hD : σ 142 k = D) (hq : K (x - nI k) (ntM σ n [nI 12], sh b)) : CM G mX12_barOf (rl 3) [.ref 139, .int (nI k), .int x] (σ, sh b) (QI K) := by
  refine CM.of (by decide) (Nat.le_of_ble_eq_true rfl) (cats1 rfl) ?_
  refine V_aload_n (pc := 0) d_X12_barOf_0 rfl ?_
  refine P_getR (pc := 1) d_X12_barOf_1 f_X12_7 (tt_139 b) (rr_139_3 b) ?_
  refine V_iload_n (pc := 4) d_X12_barOf_4 rfl ?_
  refine P_iald (pc := 5) (k) d_X12_barOf_5 (tt_140 b) rfl (ln_of (ll_140 b) ⟨by omega, by decide⟩) ?_
  rw [hK]
  refine V_iconst (pc := 6) (nI 3) d_X12_barOf_6 (by decide) ?_
  refine V_icmp_ne (pc := 7) 25 d_X12_barOf_7 (by decide) (fun c7 => ?_) (fun c7 => ?_)
  · refine V_aload_n (pc := 25) d_X12_barOf_25 rfl ?_
    refine P_getR (pc := 26) d_X12_barOf_26 f_X12_7 (tt_139 b) (rr_139_3 b) ?_
    refine V_iload_n (pc := 29) d_X12_barOf_29 rfl ?_
    refine P_iald (pc := 30) (k) d_X12_barOf_30 (tt_140 b) rfl (ln_of (ll_140 b) ⟨by omega, by decide⟩) ?_
    rw [hK]
    refine V_iconst (pc := 31) (nI 4) d_X12_barOf_31 (by decide) ?_
    refine V_icmp_ne (pc := 32) 55 d_X12_barOf_32 (by decide) (fun c32 => ?_) (fun c32 => ?_)
    · refine V_aload_n (pc := 55) d_X12_barOf_55 rfl ?_
      refine V_iload_n (pc := 56) d_X12_barOf_56 rfl ?_
      refine V_iload_n (pc := 57) d_X12_barOf_57 rfl ?_
      refine V_cvI (pc := 58) (n := 2) (c := 12) [_, _] d_X12_barOf_58 c_X12_330 k_X12_bar12 ⟨rfl, rfl⟩ (tt_139 b) rfl (Nat.le_of_ble_eq_true rfl) ⟨Nat.le_of_ble_eq_true rfl, Nat.le_of_ble_eq_true rfl⟩ ⟨Nat.le_refl _, Nat.le_refl _⟩ (ct_M_bar12 (n := n) hk (by omega) h0 hL hD ?_)
      exact V_retI (pc := 61) d_X12_barOf_61 rfl ⟨Nat.le_refl _, Nat.le_refl _⟩ (by simp only [ntM] at hq ⊢; exact hq)
    · exact absurd c32 (by decide)
  · exact absurd c7 (by decide)
theorem ct_M_move11_0 {k n : Nat} {x L D : Int32} (hk : k < 10) (hn : n + 2 ≤ 50) (h0 : σ 139 59 = nI n) (hK : σ 140 k = 0) (hL : σ 141 k = L) (hD : σ 142 k = D) (hq : K ((x + D) * nI 2) (ntM σ n [nI 11, nI 10], sh b)) : CM G mX12_move11 (rl 5) [.ref 139, .int (nI k), .int x] (σ, sh b) (QI K) := by
  refine CM.of (by decide) (Nat.le_of_ble_eq_true rfl) (cats1 rfl) ?_
  refine V_aload_n (pc := 0) d_X12_move11_0 rfl ?_
  refine V_bipush (pc := 1) (nI 11) d_X12_move11_1 (by decide) ?_
  refine V_cvV (pc := 3) (n := 1) (c := 12) [_] d_X12_move11_3 c_X12_320 k_X12_ran ⟨rfl, rfl⟩ (tt_139 b) rfl (Nat.le_of_ble_eq_true rfl) ⟨Nat.le_of_ble_eq_true rfl, Nat.le_of_ble_eq_true rfl⟩ ⟨Nat.le_refl _, Nat.le_refl _⟩ (ct_X12_ran (by omega) h0 ?_)
  refine V_aload_n (pc := 6) d_X12_move11_6 rfl ?_
  refine V_iload_n (pc := 7) d_X12_move11_7 rfl ?_
  refine V_iload_n (pc := 8) d_X12_move11_8 rfl ?_
  refine V_cvI (pc := 9) (n := 4) (c := 12) [_, _] d_X12_move11_9 c_X12_333 k_X12_bearOf ⟨rfl, rfl⟩ (tt_139 b) rfl (Nat.le_of_ble_eq_true rfl) ⟨Nat.le_of_ble_eq_true rfl, Nat.le_of_ble_eq_true rfl⟩ ⟨Nat.le_refl _, Nat.le_refl _⟩ (ct_M_bearOf_0 (n := n + 1) hk (by omega) (ntM_c h0) ((ntM_o (by omega)).trans hK) ((ntM_o (by omega)).trans hL) ((ntM_o (by omega)).trans hD) ?_)
  refine V_iconst (pc := 12) (nI 2) d_X12_move11_12 (by decide) ?_
  refine V_imul (pc := 13) d_X12_move11_13 ?_
  exact V_retI (pc := 14) d_X12_move11_14 rfl ⟨Nat.le_refl _, Nat.le_refl _⟩ (by simp only [ntM] at hq ⊢; exact hq)
theorem ct_M_moveOf_0 {k n : Nat} {x L D : Int32} (hk : k < 10) (hn : n + 2 ≤ 50) (h0 : σ 139 59 = nI n) (hK : σ 140 k = 0) (hL : σ 141 k = L) (hD : σ 142 k = D) (hq : K ((x + D) * nI 2) (ntM σ n [nI 11, nI 10], sh b)) : CM G mX12_moveOf (rl 6) [.ref 139, .int (nI k), .int x] (σ, sh b) (QI K) := by
  refine CM.of (by decide) (Nat.le_of_ble_eq_true rfl) (cats1 rfl) ?_
  refine V_aload_n (pc := 0) d_X12_moveOf_0 rfl ?_
  refine P_getR (pc := 1) d_X12_moveOf_1 f_X12_7 (tt_139 b) (rr_139_3 b) ?_
  refine V_iload_n (pc := 4) d_X12_moveOf_4 rfl ?_
  refine P_iald (pc := 5) (k) d_X12_moveOf_5 (tt_140 b) rfl (ln_of (ll_140 b) ⟨by omega, by decide⟩) ?_
  rw [hK]
  refine V_iconst (pc := 6) (nI 2) d_X12_moveOf_6 (by decide) ?_
  refine V_icmp_ne (pc := 7) 37 d_X12_moveOf_7 (by decide) (fun c7 => ?_) (fun c7 => ?_)
  · refine V_aload_n (pc := 37) d_X12_moveOf_37 rfl ?_
    refine P_getR (pc := 38) d_X12_moveOf_38 f_X12_7 (tt_139 b) (rr_139_3 b) ?_
    refine V_iload_n (pc := 41) d_X12_moveOf_41 rfl ?_
    refine P_iald (pc := 42) (k) d_X12_moveOf_42 (tt_140 b) rfl (ln_of (ll_140 b) ⟨by omega, by decide⟩) ?_
    rw [hK]
    refine V_iconst (pc := 43) (nI 4) d_X12_moveOf_43 (by decide) ?_
    refine V_icmp_ne (pc := 44) 67 d_X12_moveOf_44 (by decide) (fun c44 => ?_) (fun c44 => ?_)
    · refine V_aload_n (pc := 67) d_X12_moveOf_67 rfl ?_
      refine V_iload_n (pc := 68) d_X12_moveOf_68 rfl ?_
      refine V_iload_n (pc := 69) d_X12_moveOf_69 rfl ?_
      refine V_cvI (pc := 70) (n := 5) (c := 12) [_, _] d_X12_moveOf_70 c_X12_336 k_X12_move11 ⟨rfl, rfl⟩ (tt_139 b) rfl (Nat.le_of_ble_eq_true rfl) ⟨Nat.le_of_ble_eq_true rfl, Nat.le_of_ble_eq_true rfl⟩ ⟨Nat.le_refl _, Nat.le_refl _⟩ (ct_M_move11_0 (n := n) hk (by omega) h0 hK hL hD ?_)
      exact V_retI (pc := 73) d_X12_moveOf_73 rfl ⟨Nat.le_refl _, Nat.le_refl _⟩ (by simp only [ntM] at hq ⊢; exact hq)
    · exact absurd c44 (by decide)
  · exact absurd c7 (by decide)
theorem ct_M_tell13_0 {k n : Nat} {x L D : Int32} (hk : k < 10) (hn : n + 4 ≤ 50) (h0 : σ 139 59 = nI n) (hK : σ 140 k = 0) (hL : σ 141 k = L) (hD : σ 142 k = D) (hq : K (((x + D) * nI 2) ^^^ (x - nI k)) (ntM σ n [nI 13, nI 11, nI 10, nI 12], sh b)) : CM G mX12_tell13 (rl 7) [.ref 139, .int (nI k), .int x] (σ, sh b) (QI K) := by
  refine CM.of (by decide) (Nat.le_of_ble_eq_true rfl) (cats1 rfl) ?_
  refine V_aload_n (pc := 0) d_X12_tell13_0 rfl ?_
  refine V_bipush (pc := 1) (nI 13) d_X12_tell13_1 (by decide) ?_
  refine V_cvV (pc := 3) (n := 1) (c := 12) [_] d_X12_tell13_3 c_X12_320 k_X12_ran ⟨rfl, rfl⟩ (tt_139 b) rfl (Nat.le_of_ble_eq_true rfl) ⟨Nat.le_of_ble_eq_true rfl, Nat.le_of_ble_eq_true rfl⟩ ⟨Nat.le_refl _, Nat.le_refl _⟩ (ct_X12_ran (by omega) h0 ?_)
  refine V_aload_n (pc := 6) d_X12_tell13_6 rfl ?_
  refine V_iload_n (pc := 7) d_X12_tell13_7 rfl ?_
  refine V_iload_n (pc := 8) d_X12_tell13_8 rfl ?_
  refine V_cvI (pc := 9) (n := 6) (c := 12) [_, _] d_X12_tell13_9 c_X12_342 k_X12_moveOf ⟨rfl, rfl⟩ (tt_139 b) rfl (Nat.le_of_ble_eq_true rfl) ⟨Nat.le_of_ble_eq_true rfl, Nat.le_of_ble_eq_true rfl⟩ ⟨Nat.le_refl _, Nat.le_refl _⟩ (ct_M_moveOf_0 (n := n + 1) hk (by omega) (ntM_c h0) ((ntM_o (by omega)).trans hK) ((ntM_o (by omega)).trans hL) ((ntM_o (by omega)).trans hD) ?_)
  refine V_istore_n (pc := 12) d_X12_tell13_12 (by decide) ?_
  refine V_iload_n (pc := 13) d_X12_tell13_13 rfl ?_
  refine V_aload_n (pc := 14) d_X12_tell13_14 rfl ?_
  refine V_iload_n (pc := 15) d_X12_tell13_15 rfl ?_
  refine V_iload_n (pc := 16) d_X12_tell13_16 rfl ?_
  refine V_cvI (pc := 17) (n := 3) (c := 12) [_, _] d_X12_tell13_17 c_X12_339 k_X12_barOf ⟨rfl, rfl⟩ (tt_139 b) rfl (Nat.le_of_ble_eq_true rfl) ⟨Nat.le_of_ble_eq_true rfl, Nat.le_of_ble_eq_true rfl⟩ ⟨Nat.le_refl _, Nat.le_refl _⟩ (ct_M_barOf_0 (n := n + 1 + 2) hk (by omega) (ntM_c (ntM_c h0)) ((ntM_o (by omega)).trans ((ntM_o (by omega)).trans hK)) ((ntM_o (by omega)).trans ((ntM_o (by omega)).trans hL)) ((ntM_o (by omega)).trans ((ntM_o (by omega)).trans hD)) ?_)
  refine V_ixor (pc := 20) d_X12_tell13_20 ?_
  exact V_retI (pc := 21) d_X12_tell13_21 rfl ⟨Nat.le_refl _, Nat.le_refl _⟩ (by simp only [ntM] at hq ⊢; exact hq)
theorem ct_M_tellOf_0 {k n : Nat} {x L D : Int32} (hk : k < 10) (hn : n + 4 ≤ 50) (h0 : σ 139 59 = nI n) (hK : σ 140 k = 0) (hL : σ 141 k = L) (hD : σ 142 k = D) (hq : K (((x + D) * nI 2) ^^^ (x - nI k)) (ntM σ n [nI 13, nI 11, nI 10, nI 12], sh b)) : CM G mX12_tellOf (rl 8) [.ref 139, .int (nI k), .int x] (σ, sh b) (QI K) := by
  refine CM.of (by decide) (Nat.le_of_ble_eq_true rfl) (cats1 rfl) ?_
  refine V_aload_n (pc := 0) d_X12_tellOf_0 rfl ?_
  refine V_iload_n (pc := 1) d_X12_tellOf_1 rfl ?_
  refine V_cvI (pc := 2) (n := 1) (c := 12) [_] d_X12_tellOf_2 c_X12_205 k_X12_isBar ⟨rfl, rfl⟩ (tt_139 b) rfl (Nat.le_of_ble_eq_true rfl) ⟨Nat.le_of_ble_eq_true rfl, Nat.le_of_ble_eq_true rfl⟩ ⟨Nat.le_refl _, Nat.le_refl _⟩ (ct_X12_isBar hk ?_)
  rw [hK]
  refine V_if_eq (pc := 5) 23 d_X12_tellOf_5 (by decide) (fun c5 => ?_) (fun c5 => ?_)
  · replace c5 := zf c5
    refine V_aload_n (pc := 23) d_X12_tellOf_23 rfl ?_
    refine P_getR (pc := 24) d_X12_tellOf_24 f_X12_7 (tt_139 b) (rr_139_3 b) ?_
    refine V_iload_n (pc := 27) d_X12_tellOf_27 rfl ?_
    refine P_iald (pc := 28) (k) d_X12_tellOf_28 (tt_140 b) rfl (ln_of (ll_140 b) ⟨by omega, by decide⟩) ?_
    rw [hK]
    refine V_iconst (pc := 29) (nI 5) d_X12_tellOf_29 (by decide) ?_
    refine V_icmp_ne (pc := 30) 55 d_X12_tellOf_30 (by decide) (fun c30 => ?_) (fun c30 => ?_)
    · refine V_aload_n (pc := 55) d_X12_tellOf_55 rfl ?_
      refine V_iload_n (pc := 56) d_X12_tellOf_56 rfl ?_
      refine V_iload_n (pc := 57) d_X12_tellOf_57 rfl ?_
      refine V_cvI (pc := 58) (n := 7) (c := 12) [_, _] d_X12_tellOf_58 c_X12_345 k_X12_tell13 ⟨rfl, rfl⟩ (tt_139 b) rfl (Nat.le_of_ble_eq_true rfl) ⟨Nat.le_of_ble_eq_true rfl, Nat.le_of_ble_eq_true rfl⟩ ⟨Nat.le_refl _, Nat.le_refl _⟩ (ct_M_tell13_0 (n := n) hk (by omega) h0 hK hL hD ?_)
      exact V_retI (pc := 61) d_X12_tellOf_61 rfl ⟨Nat.le_refl _, Nat.le_refl _⟩ (by simp only [ntM] at hq ⊢; exact hq)
    · exact absurd c30 (by decide)
  · replace c5 := zt c5
    exact absurd c5 (by decide)
theorem ct_M_bearOf_1 {k n : Nat} {x L D : Int32} (hk : k < 10) (hn : n + 2 ≤ 50) (h0 : σ 139 59 = nI n) (hK : σ 140 k = 1) (hL : σ 141 k = L) (hD : σ 142 k = D) (hq : K ((x + D) - L) (ntM σ n [nI 20, nI 10], sh b)) : CM G mX12_bearOf (rl 4) [.ref 139, .int (nI k), .int x] (σ, sh b) (QI K) := by
  refine CM.of (by decide) (Nat.le_of_ble_eq_true rfl) (cats1 rfl) ?_
  refine V_aload_n (pc := 0) d_X12_bearOf_0 rfl ?_
  refine P_getR (pc := 1) d_X12_bearOf_1 f_X12_7 (tt_139 b) (rr_139_3 b) ?_
  refine V_iload_n (pc := 4) d_X12_bearOf_4 rfl ?_
  refine P_iald (pc := 5) (k) d_X12_bearOf_5 (tt_140 b) rfl (ln_of (ll_140 b) ⟨by omega, by decide⟩) ?_
  rw [hK]
  refine V_iconst (pc := 6) (nI 3) d_X12_bearOf_6 (by decide) ?_
  refine V_icmp_ne (pc := 7) 25 d_X12_bearOf_7 (by decide) (fun c7 => ?_) (fun c7 => ?_)
  · refine V_aload_n (pc := 25) d_X12_bearOf_25 rfl ?_
    refine P_getR (pc := 26) d_X12_bearOf_26 f_X12_7 (tt_139 b) (rr_139_3 b) ?_
    refine V_iload_n (pc := 29) d_X12_bearOf_29 rfl ?_
    refine P_iald (pc := 30) (k) d_X12_bearOf_30 (tt_140 b) rfl (ln_of (ll_140 b) ⟨by omega, by decide⟩) ?_
    rw [hK]
    refine V_iconst (pc := 31) (1) d_X12_bearOf_31 (by decide) ?_
    refine V_icmp_ne (pc := 32) 44 d_X12_bearOf_32 (by decide) (fun c32 => ?_) (fun c32 => ?_)
    · exact absurd rfl c32
    · refine V_aload_n (pc := 35) d_X12_bearOf_35 rfl ?_
      refine V_iload_n (pc := 36) d_X12_bearOf_36 rfl ?_
      refine V_iload_n (pc := 37) d_X12_bearOf_37 rfl ?_
      refine V_cvI (pc := 38) (n := 3) (c := 12) [_, _] d_X12_bearOf_38 c_X12_327 k_X12_bear20 ⟨rfl, rfl⟩ (tt_139 b) rfl (Nat.le_of_ble_eq_true rfl) ⟨Nat.le_of_ble_eq_true rfl, Nat.le_of_ble_eq_true rfl⟩ ⟨Nat.le_refl _, Nat.le_refl _⟩ (ct_M_bear20 (n := n) hk (by omega) h0 hL hD ?_)
      refine V_goto (pc := 41) 50 d_X12_bearOf_41 (by decide) ?_
      exact V_retI (pc := 50) d_X12_bearOf_50 rfl ⟨Nat.le_refl _, Nat.le_refl _⟩ (by simp only [ntM] at hq ⊢; exact hq)
  · exact absurd c7 (by decide)
theorem ct_M_barOf_1 {k n : Nat} {x L D : Int32} (hk : k < 10) (hn : n + 1 ≤ 50) (h0 : σ 139 59 = nI n) (hK : σ 140 k = 1) (hL : σ 141 k = L) (hD : σ 142 k = D) (hq : K (x - nI k) (ntM σ n [nI 12], sh b)) : CM G mX12_barOf (rl 3) [.ref 139, .int (nI k), .int x] (σ, sh b) (QI K) := by
  refine CM.of (by decide) (Nat.le_of_ble_eq_true rfl) (cats1 rfl) ?_
  refine V_aload_n (pc := 0) d_X12_barOf_0 rfl ?_
  refine P_getR (pc := 1) d_X12_barOf_1 f_X12_7 (tt_139 b) (rr_139_3 b) ?_
  refine V_iload_n (pc := 4) d_X12_barOf_4 rfl ?_
  refine P_iald (pc := 5) (k) d_X12_barOf_5 (tt_140 b) rfl (ln_of (ll_140 b) ⟨by omega, by decide⟩) ?_
  rw [hK]
  refine V_iconst (pc := 6) (nI 3) d_X12_barOf_6 (by decide) ?_
  refine V_icmp_ne (pc := 7) 25 d_X12_barOf_7 (by decide) (fun c7 => ?_) (fun c7 => ?_)
  · refine V_aload_n (pc := 25) d_X12_barOf_25 rfl ?_
    refine P_getR (pc := 26) d_X12_barOf_26 f_X12_7 (tt_139 b) (rr_139_3 b) ?_
    refine V_iload_n (pc := 29) d_X12_barOf_29 rfl ?_
    refine P_iald (pc := 30) (k) d_X12_barOf_30 (tt_140 b) rfl (ln_of (ll_140 b) ⟨by omega, by decide⟩) ?_
    rw [hK]
    refine V_iconst (pc := 31) (nI 4) d_X12_barOf_31 (by decide) ?_
    refine V_icmp_ne (pc := 32) 55 d_X12_barOf_32 (by decide) (fun c32 => ?_) (fun c32 => ?_)
    · refine V_aload_n (pc := 55) d_X12_barOf_55 rfl ?_
      refine V_iload_n (pc := 56) d_X12_barOf_56 rfl ?_
      refine V_iload_n (pc := 57) d_X12_barOf_57 rfl ?_
      refine V_cvI (pc := 58) (n := 2) (c := 12) [_, _] d_X12_barOf_58 c_X12_330 k_X12_bar12 ⟨rfl, rfl⟩ (tt_139 b) rfl (Nat.le_of_ble_eq_true rfl) ⟨Nat.le_of_ble_eq_true rfl, Nat.le_of_ble_eq_true rfl⟩ ⟨Nat.le_refl _, Nat.le_refl _⟩ (ct_M_bar12 (n := n) hk (by omega) h0 hL hD ?_)
      exact V_retI (pc := 61) d_X12_barOf_61 rfl ⟨Nat.le_refl _, Nat.le_refl _⟩ (by simp only [ntM] at hq ⊢; exact hq)
    · exact absurd c32 (by decide)
  · exact absurd c7 (by decide)
theorem ct_M_move11_1 {k n : Nat} {x L D : Int32} (hk : k < 10) (hn : n + 3 ≤ 50) (h0 : σ 139 59 = nI n) (hK : σ 140 k = 1) (hL : σ 141 k = L) (hD : σ 142 k = D) (hq : K (((x + D) - L) * nI 2) (ntM σ n [nI 11, nI 20, nI 10], sh b)) : CM G mX12_move11 (rl 5) [.ref 139, .int (nI k), .int x] (σ, sh b) (QI K) := by
  refine CM.of (by decide) (Nat.le_of_ble_eq_true rfl) (cats1 rfl) ?_
  refine V_aload_n (pc := 0) d_X12_move11_0 rfl ?_
  refine V_bipush (pc := 1) (nI 11) d_X12_move11_1 (by decide) ?_
  refine V_cvV (pc := 3) (n := 1) (c := 12) [_] d_X12_move11_3 c_X12_320 k_X12_ran ⟨rfl, rfl⟩ (tt_139 b) rfl (Nat.le_of_ble_eq_true rfl) ⟨Nat.le_of_ble_eq_true rfl, Nat.le_of_ble_eq_true rfl⟩ ⟨Nat.le_refl _, Nat.le_refl _⟩ (ct_X12_ran (by omega) h0 ?_)
  refine V_aload_n (pc := 6) d_X12_move11_6 rfl ?_
  refine V_iload_n (pc := 7) d_X12_move11_7 rfl ?_
  refine V_iload_n (pc := 8) d_X12_move11_8 rfl ?_
  refine V_cvI (pc := 9) (n := 4) (c := 12) [_, _] d_X12_move11_9 c_X12_333 k_X12_bearOf ⟨rfl, rfl⟩ (tt_139 b) rfl (Nat.le_of_ble_eq_true rfl) ⟨Nat.le_of_ble_eq_true rfl, Nat.le_of_ble_eq_true rfl⟩ ⟨Nat.le_refl _, Nat.le_refl _⟩ (ct_M_bearOf_1 (n := n + 1) hk (by omega) (ntM_c h0) ((ntM_o (by omega)).trans hK) ((ntM_o (by omega)).trans hL) ((ntM_o (by omega)).trans hD) ?_)
  refine V_iconst (pc := 12) (nI 2) d_X12_move11_12 (by decide) ?_
  refine V_imul (pc := 13) d_X12_move11_13 ?_
  exact V_retI (pc := 14) d_X12_move11_14 rfl ⟨Nat.le_refl _, Nat.le_refl _⟩ (by simp only [ntM] at hq ⊢; exact hq)
theorem ct_M_moveOf_1 {k n : Nat} {x L D : Int32} (hk : k < 10) (hn : n + 3 ≤ 50) (h0 : σ 139 59 = nI n) (hK : σ 140 k = 1) (hL : σ 141 k = L) (hD : σ 142 k = D) (hq : K (((x + D) - L) * nI 2) (ntM σ n [nI 11, nI 20, nI 10], sh b)) : CM G mX12_moveOf (rl 6) [.ref 139, .int (nI k), .int x] (σ, sh b) (QI K) := by
  refine CM.of (by decide) (Nat.le_of_ble_eq_true rfl) (cats1 rfl) ?_
  refine V_aload_n (pc := 0) d_X12_moveOf_0 rfl ?_
  refine P_getR (pc := 1) d_X12_moveOf_1 f_X12_7 (tt_139 b) (rr_139_3 b) ?_
  refine V_iload_n (pc := 4) d_X12_moveOf_4 rfl ?_
  refine P_iald (pc := 5) (k) d_X12_moveOf_5 (tt_140 b) rfl (ln_of (ll_140 b) ⟨by omega, by decide⟩) ?_
  rw [hK]
  refine V_iconst (pc := 6) (nI 2) d_X12_moveOf_6 (by decide) ?_
  refine V_icmp_ne (pc := 7) 37 d_X12_moveOf_7 (by decide) (fun c7 => ?_) (fun c7 => ?_)
  · refine V_aload_n (pc := 37) d_X12_moveOf_37 rfl ?_
    refine P_getR (pc := 38) d_X12_moveOf_38 f_X12_7 (tt_139 b) (rr_139_3 b) ?_
    refine V_iload_n (pc := 41) d_X12_moveOf_41 rfl ?_
    refine P_iald (pc := 42) (k) d_X12_moveOf_42 (tt_140 b) rfl (ln_of (ll_140 b) ⟨by omega, by decide⟩) ?_
    rw [hK]
    refine V_iconst (pc := 43) (nI 4) d_X12_moveOf_43 (by decide) ?_
    refine V_icmp_ne (pc := 44) 67 d_X12_moveOf_44 (by decide) (fun c44 => ?_) (fun c44 => ?_)
    · refine V_aload_n (pc := 67) d_X12_moveOf_67 rfl ?_
      refine V_iload_n (pc := 68) d_X12_moveOf_68 rfl ?_
      refine V_iload_n (pc := 69) d_X12_moveOf_69 rfl ?_
      refine V_cvI (pc := 70) (n := 5) (c := 12) [_, _] d_X12_moveOf_70 c_X12_336 k_X12_move11 ⟨rfl, rfl⟩ (tt_139 b) rfl (Nat.le_of_ble_eq_true rfl) ⟨Nat.le_of_ble_eq_true rfl, Nat.le_of_ble_eq_true rfl⟩ ⟨Nat.le_refl _, Nat.le_refl _⟩ (ct_M_move11_1 (n := n) hk (by omega) h0 hK hL hD ?_)
      exact V_retI (pc := 73) d_X12_moveOf_73 rfl ⟨Nat.le_refl _, Nat.le_refl _⟩ (by simp only [ntM] at hq ⊢; exact hq)
    · exact absurd c44 (by decide)
  · exact absurd c7 (by decide)
theorem ct_M_tell13_1 {k n : Nat} {x L D : Int32} (hk : k < 10) (hn : n + 5 ≤ 50) (h0 : σ 139 59 = nI n) (hK : σ 140 k = 1) (hL : σ 141 k = L) (hD : σ 142 k = D) (hq : K ((((x + D) - L) * nI 2) ^^^ (x - nI k)) (ntM σ n [nI 13, nI 11, nI 20, nI 10, nI 12], sh b)) : CM G mX12_tell13 (rl 7) [.ref 139, .int (nI k), .int x] (σ, sh b) (QI K) := by
  refine CM.of (by decide) (Nat.le_of_ble_eq_true rfl) (cats1 rfl) ?_
  refine V_aload_n (pc := 0) d_X12_tell13_0 rfl ?_
  refine V_bipush (pc := 1) (nI 13) d_X12_tell13_1 (by decide) ?_
  refine V_cvV (pc := 3) (n := 1) (c := 12) [_] d_X12_tell13_3 c_X12_320 k_X12_ran ⟨rfl, rfl⟩ (tt_139 b) rfl (Nat.le_of_ble_eq_true rfl) ⟨Nat.le_of_ble_eq_true rfl, Nat.le_of_ble_eq_true rfl⟩ ⟨Nat.le_refl _, Nat.le_refl _⟩ (ct_X12_ran (by omega) h0 ?_)
  refine V_aload_n (pc := 6) d_X12_tell13_6 rfl ?_
  refine V_iload_n (pc := 7) d_X12_tell13_7 rfl ?_
  refine V_iload_n (pc := 8) d_X12_tell13_8 rfl ?_
  refine V_cvI (pc := 9) (n := 6) (c := 12) [_, _] d_X12_tell13_9 c_X12_342 k_X12_moveOf ⟨rfl, rfl⟩ (tt_139 b) rfl (Nat.le_of_ble_eq_true rfl) ⟨Nat.le_of_ble_eq_true rfl, Nat.le_of_ble_eq_true rfl⟩ ⟨Nat.le_refl _, Nat.le_refl _⟩ (ct_M_moveOf_1 (n := n + 1) hk (by omega) (ntM_c h0) ((ntM_o (by omega)).trans hK) ((ntM_o (by omega)).trans hL) ((ntM_o (by omega)).trans hD) ?_)
  refine V_istore_n (pc := 12) d_X12_tell13_12 (by decide) ?_
  refine V_iload_n (pc := 13) d_X12_tell13_13 rfl ?_
  refine V_aload_n (pc := 14) d_X12_tell13_14 rfl ?_
  refine V_iload_n (pc := 15) d_X12_tell13_15 rfl ?_
  refine V_iload_n (pc := 16) d_X12_tell13_16 rfl ?_
  refine V_cvI (pc := 17) (n := 3) (c := 12) [_, _] d_X12_tell13_17 c_X12_339 k_X12_barOf ⟨rfl, rfl⟩ (tt_139 b) rfl (Nat.le_of_ble_eq_true rfl) ⟨Nat.le_of_ble_eq_true rfl, Nat.le_of_ble_eq_true rfl⟩ ⟨Nat.le_refl _, Nat.le_refl _⟩ (ct_M_barOf_1 (n := n + 1 + 3) hk (by omega) (ntM_c (ntM_c h0)) ((ntM_o (by omega)).trans ((ntM_o (by omega)).trans hK)) ((ntM_o (by omega)).trans ((ntM_o (by omega)).trans hL)) ((ntM_o (by omega)).trans ((ntM_o (by omega)).trans hD)) ?_)
  refine V_ixor (pc := 20) d_X12_tell13_20 ?_
  exact V_retI (pc := 21) d_X12_tell13_21 rfl ⟨Nat.le_refl _, Nat.le_refl _⟩ (by simp only [ntM] at hq ⊢; exact hq)
theorem ct_M_tellOf_1 {k n : Nat} {x L D : Int32} (hk : k < 10) (hn : n + 6 ≤ 50) (h0 : σ 139 59 = nI n) (hK : σ 140 k = 1) (hL : σ 141 k = L) (hD : σ 142 k = D) (hq : K (((((x + 1) + D) - L) * nI 2) ^^^ ((x + 1) - nI k)) (ntM σ n [nI 21, nI 13, nI 11, nI 20, nI 10, nI 12], sh b)) : CM G mX12_tellOf (rl 8) [.ref 139, .int (nI k), .int x] (σ, sh b) (QI K) := by
  refine CM.of (by decide) (Nat.le_of_ble_eq_true rfl) (cats1 rfl) ?_
  refine V_aload_n (pc := 0) d_X12_tellOf_0 rfl ?_
  refine V_iload_n (pc := 1) d_X12_tellOf_1 rfl ?_
  refine V_cvI (pc := 2) (n := 1) (c := 12) [_] d_X12_tellOf_2 c_X12_205 k_X12_isBar ⟨rfl, rfl⟩ (tt_139 b) rfl (Nat.le_of_ble_eq_true rfl) ⟨Nat.le_of_ble_eq_true rfl, Nat.le_of_ble_eq_true rfl⟩ ⟨Nat.le_refl _, Nat.le_refl _⟩ (ct_X12_isBar hk ?_)
  rw [hK]
  refine V_if_eq (pc := 5) 23 d_X12_tellOf_5 (by decide) (fun c5 => ?_) (fun c5 => ?_)
  · replace c5 := zf c5
    exact absurd (by decide) c5
  · replace c5 := zt c5
    refine V_aload_n (pc := 8) d_X12_tellOf_8 rfl ?_
    refine V_bipush (pc := 9) (nI 21) d_X12_tellOf_9 (by decide) ?_
    refine V_cvV (pc := 11) (n := 1) (c := 12) [_] d_X12_tellOf_11 c_X12_320 k_X12_ran ⟨rfl, rfl⟩ (tt_139 b) rfl (Nat.le_of_ble_eq_true rfl) ⟨Nat.le_of_ble_eq_true rfl, Nat.le_of_ble_eq_true rfl⟩ ⟨Nat.le_refl _, Nat.le_refl _⟩ (ct_X12_ran (by omega) h0 ?_)
    refine V_aload_n (pc := 14) d_X12_tellOf_14 rfl ?_
    refine V_iload_n (pc := 15) d_X12_tellOf_15 rfl ?_
    refine V_iload_n (pc := 16) d_X12_tellOf_16 rfl ?_
    refine V_iconst (pc := 17) (1) d_X12_tellOf_17 (by decide) ?_
    refine V_iadd (pc := 18) d_X12_tellOf_18 ?_
    refine V_cvI (pc := 19) (n := 7) (c := 12) [_, _] d_X12_tellOf_19 c_X12_345 k_X12_tell13 ⟨rfl, rfl⟩ (tt_139 b) rfl (Nat.le_of_ble_eq_true rfl) ⟨Nat.le_of_ble_eq_true rfl, Nat.le_of_ble_eq_true rfl⟩ ⟨Nat.le_refl _, Nat.le_refl _⟩ (ct_M_tell13_1 (n := n + 1) hk (by omega) (ntM_c h0) ((ntM_o (by omega)).trans hK) ((ntM_o (by omega)).trans hL) ((ntM_o (by omega)).trans hD) ?_)
    exact V_retI (pc := 22) d_X12_tellOf_22 rfl ⟨Nat.le_refl _, Nat.le_refl _⟩ (by simp only [ntM] at hq ⊢; exact hq)
theorem ct_M_bearOf_2 {k n : Nat} {x L D : Int32} (hk : k < 10) (hn : n + 1 ≤ 50) (h0 : σ 139 59 = nI n) (hK : σ 140 k = (nI 2)) (hL : σ 141 k = L) (hD : σ 142 k = D) (hq : K (x + D) (ntM σ n [nI 10], sh b)) : CM G mX12_bearOf (rl 4) [.ref 139, .int (nI k), .int x] (σ, sh b) (QI K) := by
  refine CM.of (by decide) (Nat.le_of_ble_eq_true rfl) (cats1 rfl) ?_
  refine V_aload_n (pc := 0) d_X12_bearOf_0 rfl ?_
  refine P_getR (pc := 1) d_X12_bearOf_1 f_X12_7 (tt_139 b) (rr_139_3 b) ?_
  refine V_iload_n (pc := 4) d_X12_bearOf_4 rfl ?_
  refine P_iald (pc := 5) (k) d_X12_bearOf_5 (tt_140 b) rfl (ln_of (ll_140 b) ⟨by omega, by decide⟩) ?_
  rw [hK]
  refine V_iconst (pc := 6) (nI 3) d_X12_bearOf_6 (by decide) ?_
  refine V_icmp_ne (pc := 7) 25 d_X12_bearOf_7 (by decide) (fun c7 => ?_) (fun c7 => ?_)
  · refine V_aload_n (pc := 25) d_X12_bearOf_25 rfl ?_
    refine P_getR (pc := 26) d_X12_bearOf_26 f_X12_7 (tt_139 b) (rr_139_3 b) ?_
    refine V_iload_n (pc := 29) d_X12_bearOf_29 rfl ?_
    refine P_iald (pc := 30) (k) d_X12_bearOf_30 (tt_140 b) rfl (ln_of (ll_140 b) ⟨by omega, by decide⟩) ?_
    rw [hK]
    refine V_iconst (pc := 31) (1) d_X12_bearOf_31 (by decide) ?_
    refine V_icmp_ne (pc := 32) 44 d_X12_bearOf_32 (by decide) (fun c32 => ?_) (fun c32 => ?_)
    · refine V_aload_n (pc := 44) d_X12_bearOf_44 rfl ?_
      refine V_iload_n (pc := 45) d_X12_bearOf_45 rfl ?_
      refine V_iload_n (pc := 46) d_X12_bearOf_46 rfl ?_
      refine V_cvI (pc := 47) (n := 2) (c := 12) [_, _] d_X12_bearOf_47 c_X12_324 k_X12_bear10 ⟨rfl, rfl⟩ (tt_139 b) rfl (Nat.le_of_ble_eq_true rfl) ⟨Nat.le_of_ble_eq_true rfl, Nat.le_of_ble_eq_true rfl⟩ ⟨Nat.le_refl _, Nat.le_refl _⟩ (ct_M_bear10 (n := n) hk (by omega) h0 hL hD ?_)
      exact V_retI (pc := 50) d_X12_bearOf_50 rfl ⟨Nat.le_refl _, Nat.le_refl _⟩ (by simp only [ntM] at hq ⊢; exact hq)
    · exact absurd c32 (by decide)
  · exact absurd c7 (by decide)
theorem ct_M_barOf_2 {k n : Nat} {x L D : Int32} (hk : k < 10) (hn : n + 1 ≤ 50) (h0 : σ 139 59 = nI n) (hK : σ 140 k = (nI 2)) (hL : σ 141 k = L) (hD : σ 142 k = D) (hq : K (x - nI k) (ntM σ n [nI 12], sh b)) : CM G mX12_barOf (rl 3) [.ref 139, .int (nI k), .int x] (σ, sh b) (QI K) := by
  refine CM.of (by decide) (Nat.le_of_ble_eq_true rfl) (cats1 rfl) ?_
  refine V_aload_n (pc := 0) d_X12_barOf_0 rfl ?_
  refine P_getR (pc := 1) d_X12_barOf_1 f_X12_7 (tt_139 b) (rr_139_3 b) ?_
  refine V_iload_n (pc := 4) d_X12_barOf_4 rfl ?_
  refine P_iald (pc := 5) (k) d_X12_barOf_5 (tt_140 b) rfl (ln_of (ll_140 b) ⟨by omega, by decide⟩) ?_
  rw [hK]
  refine V_iconst (pc := 6) (nI 3) d_X12_barOf_6 (by decide) ?_
  refine V_icmp_ne (pc := 7) 25 d_X12_barOf_7 (by decide) (fun c7 => ?_) (fun c7 => ?_)
  · refine V_aload_n (pc := 25) d_X12_barOf_25 rfl ?_
    refine P_getR (pc := 26) d_X12_barOf_26 f_X12_7 (tt_139 b) (rr_139_3 b) ?_
    refine V_iload_n (pc := 29) d_X12_barOf_29 rfl ?_
    refine P_iald (pc := 30) (k) d_X12_barOf_30 (tt_140 b) rfl (ln_of (ll_140 b) ⟨by omega, by decide⟩) ?_
    rw [hK]
    refine V_iconst (pc := 31) (nI 4) d_X12_barOf_31 (by decide) ?_
    refine V_icmp_ne (pc := 32) 55 d_X12_barOf_32 (by decide) (fun c32 => ?_) (fun c32 => ?_)
    · refine V_aload_n (pc := 55) d_X12_barOf_55 rfl ?_
      refine V_iload_n (pc := 56) d_X12_barOf_56 rfl ?_
      refine V_iload_n (pc := 57) d_X12_barOf_57 rfl ?_
      refine V_cvI (pc := 58) (n := 2) (c := 12) [_, _] d_X12_barOf_58 c_X12_330 k_X12_bar12 ⟨rfl, rfl⟩ (tt_139 b) rfl (Nat.le_of_ble_eq_true rfl) ⟨Nat.le_of_ble_eq_true rfl, Nat.le_of_ble_eq_true rfl⟩ ⟨Nat.le_refl _, Nat.le_refl _⟩ (ct_M_bar12 (n := n) hk (by omega) h0 hL hD ?_)
      exact V_retI (pc := 61) d_X12_barOf_61 rfl ⟨Nat.le_refl _, Nat.le_refl _⟩ (by simp only [ntM] at hq ⊢; exact hq)
    · exact absurd c32 (by decide)
  · exact absurd c7 (by decide)
theorem ct_M_move11_2 {k n : Nat} {x L D : Int32} (hk : k < 10) (hn : n + 2 ≤ 50) (h0 : σ 139 59 = nI n) (hK : σ 140 k = (nI 2)) (hL : σ 141 k = L) (hD : σ 142 k = D) (hq : K ((x + D) * nI 2) (ntM σ n [nI 11, nI 10], sh b)) : CM G mX12_move11 (rl 5) [.ref 139, .int (nI k), .int x] (σ, sh b) (QI K) := by
  refine CM.of (by decide) (Nat.le_of_ble_eq_true rfl) (cats1 rfl) ?_
  refine V_aload_n (pc := 0) d_X12_move11_0 rfl ?_
  refine V_bipush (pc := 1) (nI 11) d_X12_move11_1 (by decide) ?_
  refine V_cvV (pc := 3) (n := 1) (c := 12) [_] d_X12_move11_3 c_X12_320 k_X12_ran ⟨rfl, rfl⟩ (tt_139 b) rfl (Nat.le_of_ble_eq_true rfl) ⟨Nat.le_of_ble_eq_true rfl, Nat.le_of_ble_eq_true rfl⟩ ⟨Nat.le_refl _, Nat.le_refl _⟩ (ct_X12_ran (by omega) h0 ?_)
  refine V_aload_n (pc := 6) d_X12_move11_6 rfl ?_
  refine V_iload_n (pc := 7) d_X12_move11_7 rfl ?_
  refine V_iload_n (pc := 8) d_X12_move11_8 rfl ?_
  refine V_cvI (pc := 9) (n := 4) (c := 12) [_, _] d_X12_move11_9 c_X12_333 k_X12_bearOf ⟨rfl, rfl⟩ (tt_139 b) rfl (Nat.le_of_ble_eq_true rfl) ⟨Nat.le_of_ble_eq_true rfl, Nat.le_of_ble_eq_true rfl⟩ ⟨Nat.le_refl _, Nat.le_refl _⟩ (ct_M_bearOf_2 (n := n + 1) hk (by omega) (ntM_c h0) ((ntM_o (by omega)).trans hK) ((ntM_o (by omega)).trans hL) ((ntM_o (by omega)).trans hD) ?_)
  refine V_iconst (pc := 12) (nI 2) d_X12_move11_12 (by decide) ?_
  refine V_imul (pc := 13) d_X12_move11_13 ?_
  exact V_retI (pc := 14) d_X12_move11_14 rfl ⟨Nat.le_refl _, Nat.le_refl _⟩ (by simp only [ntM] at hq ⊢; exact hq)
theorem ct_M_moveOf_2 {k n : Nat} {x L D : Int32} (hk : k < 10) (hn : n + 4 ≤ 50) (h0 : σ 139 59 = nI n) (hK : σ 140 k = (nI 2)) (hL : σ 141 k = L) (hD : σ 142 k = D) (hq : K (((x + D) * nI 2) + (L - nI k)) (ntM σ n [nI 30, nI 11, nI 10, nI 12], sh b)) : CM G mX12_moveOf (rl 6) [.ref 139, .int (nI k), .int x] (σ, sh b) (QI K) := by
  refine CM.of (by decide) (Nat.le_of_ble_eq_true rfl) (cats1 rfl) ?_
  refine V_aload_n (pc := 0) d_X12_moveOf_0 rfl ?_
  refine P_getR (pc := 1) d_X12_moveOf_1 f_X12_7 (tt_139 b) (rr_139_3 b) ?_
  refine V_iload_n (pc := 4) d_X12_moveOf_4 rfl ?_
  refine P_iald (pc := 5) (k) d_X12_moveOf_5 (tt_140 b) rfl (ln_of (ll_140 b) ⟨by omega, by decide⟩) ?_
  rw [hK]
  refine V_iconst (pc := 6) (nI 2) d_X12_moveOf_6 (by decide) ?_
  refine V_icmp_ne (pc := 7) 37 d_X12_moveOf_7 (by decide) (fun c7 => ?_) (fun c7 => ?_)
  · exact absurd rfl c7
  · refine V_aload_n (pc := 10) d_X12_moveOf_10 rfl ?_
    refine V_bipush (pc := 11) (nI 30) d_X12_moveOf_11 (by decide) ?_
    refine V_cvV (pc := 13) (n := 1) (c := 12) [_] d_X12_moveOf_13 c_X12_320 k_X12_ran ⟨rfl, rfl⟩ (tt_139 b) rfl (Nat.le_of_ble_eq_true rfl) ⟨Nat.le_of_ble_eq_true rfl, Nat.le_of_ble_eq_true rfl⟩ ⟨Nat.le_refl _, Nat.le_refl _⟩ (ct_X12_ran (by omega) h0 ?_)
    refine V_aload_n (pc := 16) d_X12_moveOf_16 rfl ?_
    refine V_iload_n (pc := 17) d_X12_moveOf_17 rfl ?_
    refine V_iload_n (pc := 18) d_X12_moveOf_18 rfl ?_
    refine V_cvI (pc := 19) (n := 5) (c := 12) [_, _] d_X12_moveOf_19 c_X12_336 k_X12_move11 ⟨rfl, rfl⟩ (tt_139 b) rfl (Nat.le_of_ble_eq_true rfl) ⟨Nat.le_of_ble_eq_true rfl, Nat.le_of_ble_eq_true rfl⟩ ⟨Nat.le_refl _, Nat.le_refl _⟩ (ct_M_move11_2 (n := n + 1) hk (by omega) (ntM_c h0) ((ntM_o (by omega)).trans hK) ((ntM_o (by omega)).trans hL) ((ntM_o (by omega)).trans hD) ?_)
    refine V_istore_n (pc := 22) d_X12_moveOf_22 (by decide) ?_
    refine V_iload_n (pc := 23) d_X12_moveOf_23 rfl ?_
    refine V_aload_n (pc := 24) d_X12_moveOf_24 rfl ?_
    refine V_iload_n (pc := 25) d_X12_moveOf_25 rfl ?_
    refine V_aload_n (pc := 26) d_X12_moveOf_26 rfl ?_
    refine P_getR (pc := 27) d_X12_moveOf_27 f_X12_13 (tt_139 b) (rr_139_4 b) ?_
    refine V_iload_n (pc := 30) d_X12_moveOf_30 rfl ?_
    refine P_iald (pc := 31) (k) d_X12_moveOf_31 (tt_141 b) rfl (ln_of (ll_141 b) ⟨by omega, by decide⟩) ?_
    simp (disch := omega) only [up2_n, up2_e, ntM_o]
    rw [hL]
    refine V_cvI (pc := 32) (n := 3) (c := 12) [_, _] d_X12_moveOf_32 c_X12_339 k_X12_barOf ⟨rfl, rfl⟩ (tt_139 b) rfl (Nat.le_of_ble_eq_true rfl) ⟨Nat.le_of_ble_eq_true rfl, Nat.le_of_ble_eq_true rfl⟩ ⟨Nat.le_refl _, Nat.le_refl _⟩ (ct_M_barOf_2 (n := n + 1 + 2) hk (by omega) (ntM_c (ntM_c h0)) ((ntM_o (by omega)).trans ((ntM_o (by omega)).trans hK)) ((ntM_o (by omega)).trans ((ntM_o (by omega)).trans hL)) ((ntM_o (by omega)).trans ((ntM_o (by omega)).trans hD)) ?_)
    refine V_iadd (pc := 35) d_X12_moveOf_35 ?_
    exact V_retI (pc := 36) d_X12_moveOf_36 rfl ⟨Nat.le_refl _, Nat.le_refl _⟩ (by simp only [ntM] at hq ⊢; exact hq)
theorem ct_M_tell13_2 {k n : Nat} {x L D : Int32} (hk : k < 10) (hn : n + 6 ≤ 50) (h0 : σ 139 59 = nI n) (hK : σ 140 k = (nI 2)) (hL : σ 141 k = L) (hD : σ 142 k = D) (hq : K ((((x + D) * nI 2) + (L - nI k)) ^^^ (x - nI k)) (ntM σ n [nI 13, nI 30, nI 11, nI 10, nI 12, nI 12], sh b)) : CM G mX12_tell13 (rl 7) [.ref 139, .int (nI k), .int x] (σ, sh b) (QI K) := by
  refine CM.of (by decide) (Nat.le_of_ble_eq_true rfl) (cats1 rfl) ?_
  refine V_aload_n (pc := 0) d_X12_tell13_0 rfl ?_
  refine V_bipush (pc := 1) (nI 13) d_X12_tell13_1 (by decide) ?_
  refine V_cvV (pc := 3) (n := 1) (c := 12) [_] d_X12_tell13_3 c_X12_320 k_X12_ran ⟨rfl, rfl⟩ (tt_139 b) rfl (Nat.le_of_ble_eq_true rfl) ⟨Nat.le_of_ble_eq_true rfl, Nat.le_of_ble_eq_true rfl⟩ ⟨Nat.le_refl _, Nat.le_refl _⟩ (ct_X12_ran (by omega) h0 ?_)
  refine V_aload_n (pc := 6) d_X12_tell13_6 rfl ?_
  refine V_iload_n (pc := 7) d_X12_tell13_7 rfl ?_
  refine V_iload_n (pc := 8) d_X12_tell13_8 rfl ?_
  refine V_cvI (pc := 9) (n := 6) (c := 12) [_, _] d_X12_tell13_9 c_X12_342 k_X12_moveOf ⟨rfl, rfl⟩ (tt_139 b) rfl (Nat.le_of_ble_eq_true rfl) ⟨Nat.le_of_ble_eq_true rfl, Nat.le_of_ble_eq_true rfl⟩ ⟨Nat.le_refl _, Nat.le_refl _⟩ (ct_M_moveOf_2 (n := n + 1) hk (by omega) (ntM_c h0) ((ntM_o (by omega)).trans hK) ((ntM_o (by omega)).trans hL) ((ntM_o (by omega)).trans hD) ?_)
  refine V_istore_n (pc := 12) d_X12_tell13_12 (by decide) ?_
  refine V_iload_n (pc := 13) d_X12_tell13_13 rfl ?_
  refine V_aload_n (pc := 14) d_X12_tell13_14 rfl ?_
  refine V_iload_n (pc := 15) d_X12_tell13_15 rfl ?_
  refine V_iload_n (pc := 16) d_X12_tell13_16 rfl ?_
  refine V_cvI (pc := 17) (n := 3) (c := 12) [_, _] d_X12_tell13_17 c_X12_339 k_X12_barOf ⟨rfl, rfl⟩ (tt_139 b) rfl (Nat.le_of_ble_eq_true rfl) ⟨Nat.le_of_ble_eq_true rfl, Nat.le_of_ble_eq_true rfl⟩ ⟨Nat.le_refl _, Nat.le_refl _⟩ (ct_M_barOf_2 (n := n + 1 + 4) hk (by omega) (ntM_c (ntM_c h0)) ((ntM_o (by omega)).trans ((ntM_o (by omega)).trans hK)) ((ntM_o (by omega)).trans ((ntM_o (by omega)).trans hL)) ((ntM_o (by omega)).trans ((ntM_o (by omega)).trans hD)) ?_)
  refine V_ixor (pc := 20) d_X12_tell13_20 ?_
  exact V_retI (pc := 21) d_X12_tell13_21 rfl ⟨Nat.le_refl _, Nat.le_refl _⟩ (by simp only [ntM] at hq ⊢; exact hq)
theorem ct_M_tellOf_2 {k n : Nat} {x L D : Int32} (hk : k < 10) (hn : n + 6 ≤ 50) (h0 : σ 139 59 = nI n) (hK : σ 140 k = (nI 2)) (hL : σ 141 k = L) (hD : σ 142 k = D) (hq : K ((((x + D) * nI 2) + (L - nI k)) ^^^ (x - nI k)) (ntM σ n [nI 13, nI 30, nI 11, nI 10, nI 12, nI 12], sh b)) : CM G mX12_tellOf (rl 8) [.ref 139, .int (nI k), .int x] (σ, sh b) (QI K) := by
  refine CM.of (by decide) (Nat.le_of_ble_eq_true rfl) (cats1 rfl) ?_
  refine V_aload_n (pc := 0) d_X12_tellOf_0 rfl ?_
  refine V_iload_n (pc := 1) d_X12_tellOf_1 rfl ?_
  refine V_cvI (pc := 2) (n := 1) (c := 12) [_] d_X12_tellOf_2 c_X12_205 k_X12_isBar ⟨rfl, rfl⟩ (tt_139 b) rfl (Nat.le_of_ble_eq_true rfl) ⟨Nat.le_of_ble_eq_true rfl, Nat.le_of_ble_eq_true rfl⟩ ⟨Nat.le_refl _, Nat.le_refl _⟩ (ct_X12_isBar hk ?_)
  rw [hK]
  refine V_if_eq (pc := 5) 23 d_X12_tellOf_5 (by decide) (fun c5 => ?_) (fun c5 => ?_)
  · replace c5 := zf c5
    refine V_aload_n (pc := 23) d_X12_tellOf_23 rfl ?_
    refine P_getR (pc := 24) d_X12_tellOf_24 f_X12_7 (tt_139 b) (rr_139_3 b) ?_
    refine V_iload_n (pc := 27) d_X12_tellOf_27 rfl ?_
    refine P_iald (pc := 28) (k) d_X12_tellOf_28 (tt_140 b) rfl (ln_of (ll_140 b) ⟨by omega, by decide⟩) ?_
    rw [hK]
    refine V_iconst (pc := 29) (nI 5) d_X12_tellOf_29 (by decide) ?_
    refine V_icmp_ne (pc := 30) 55 d_X12_tellOf_30 (by decide) (fun c30 => ?_) (fun c30 => ?_)
    · refine V_aload_n (pc := 55) d_X12_tellOf_55 rfl ?_
      refine V_iload_n (pc := 56) d_X12_tellOf_56 rfl ?_
      refine V_iload_n (pc := 57) d_X12_tellOf_57 rfl ?_
      refine V_cvI (pc := 58) (n := 7) (c := 12) [_, _] d_X12_tellOf_58 c_X12_345 k_X12_tell13 ⟨rfl, rfl⟩ (tt_139 b) rfl (Nat.le_of_ble_eq_true rfl) ⟨Nat.le_of_ble_eq_true rfl, Nat.le_of_ble_eq_true rfl⟩ ⟨Nat.le_refl _, Nat.le_refl _⟩ (ct_M_tell13_2 (n := n) hk (by omega) h0 hK hL hD ?_)
      exact V_retI (pc := 61) d_X12_tellOf_61 rfl ⟨Nat.le_refl _, Nat.le_refl _⟩ (by simp only [ntM] at hq ⊢; exact hq)
    · exact absurd c30 (by decide)
  · replace c5 := zt c5
    exact absurd c5 (by decide)
theorem ct_M_bearOf_3 {k n : Nat} {x L D : Int32} (hk : k < 10) (hn : n + 3 ≤ 50) (h0 : σ 139 59 = nI n) (hK : σ 140 k = (nI 3)) (hL : σ 141 k = L) (hD : σ 142 k = D) (hq : K (((x + nI k) + D) - L) (ntM σ n [nI 41, nI 20, nI 10], sh b)) : CM G mX12_bearOf (rl 4) [.ref 139, .int (nI k), .int x] (σ, sh b) (QI K) := by
  refine CM.of (by decide) (Nat.le_of_ble_eq_true rfl) (cats1 rfl) ?_
  refine V_aload_n (pc := 0) d_X12_bearOf_0 rfl ?_
  refine P_getR (pc := 1) d_X12_bearOf_1 f_X12_7 (tt_139 b) (rr_139_3 b) ?_
  refine V_iload_n (pc := 4) d_X12_bearOf_4 rfl ?_
  refine P_iald (pc := 5) (k) d_X12_bearOf_5 (tt_140 b) rfl (ln_of (ll_140 b) ⟨by omega, by decide⟩) ?_
  rw [hK]
  refine V_iconst (pc := 6) (nI 3) d_X12_bearOf_6 (by decide) ?_
  refine V_icmp_ne (pc := 7) 25 d_X12_bearOf_7 (by decide) (fun c7 => ?_) (fun c7 => ?_)
  · exact absurd rfl c7
  · refine V_aload_n (pc := 10) d_X12_bearOf_10 rfl ?_
    refine V_bipush (pc := 11) (nI 41) d_X12_bearOf_11 (by decide) ?_
    refine V_cvV (pc := 13) (n := 1) (c := 12) [_] d_X12_bearOf_13 c_X12_320 k_X12_ran ⟨rfl, rfl⟩ (tt_139 b) rfl (Nat.le_of_ble_eq_true rfl) ⟨Nat.le_of_ble_eq_true rfl, Nat.le_of_ble_eq_true rfl⟩ ⟨Nat.le_refl _, Nat.le_refl _⟩ (ct_X12_ran (by omega) h0 ?_)
    refine V_aload_n (pc := 16) d_X12_bearOf_16 rfl ?_
    refine V_iload_n (pc := 17) d_X12_bearOf_17 rfl ?_
    refine V_iload_n (pc := 18) d_X12_bearOf_18 rfl ?_
    refine V_iload_n (pc := 19) d_X12_bearOf_19 rfl ?_
    refine V_iadd (pc := 20) d_X12_bearOf_20 ?_
    refine V_cvI (pc := 21) (n := 3) (c := 12) [_, _] d_X12_bearOf_21 c_X12_327 k_X12_bear20 ⟨rfl, rfl⟩ (tt_139 b) rfl (Nat.le_of_ble_eq_true rfl) ⟨Nat.le_of_ble_eq_true rfl, Nat.le_of_ble_eq_true rfl⟩ ⟨Nat.le_refl _, Nat.le_refl _⟩ (ct_M_bear20 (n := n + 1) hk (by omega) (ntM_c h0) ((ntM_o (by omega)).trans hL) ((ntM_o (by omega)).trans hD) ?_)
    exact V_retI (pc := 24) d_X12_bearOf_24 rfl ⟨Nat.le_refl _, Nat.le_refl _⟩ (by simp only [ntM] at hq ⊢; exact hq)
theorem ct_M_barOf_3 {k n : Nat} {x L D : Int32} (hk : k < 10) (hn : n + 2 ≤ 50) (h0 : σ 139 59 = nI n) (hK : σ 140 k = (nI 3)) (hL : σ 141 k = L) (hD : σ 142 k = D) (hq : K ((x - nI k) * nI 3) (ntM σ n [nI 40, nI 12], sh b)) : CM G mX12_barOf (rl 3) [.ref 139, .int (nI k), .int x] (σ, sh b) (QI K) := by
  refine CM.of (by decide) (Nat.le_of_ble_eq_true rfl) (cats1 rfl) ?_
  refine V_aload_n (pc := 0) d_X12_barOf_0 rfl ?_
  refine P_getR (pc := 1) d_X12_barOf_1 f_X12_7 (tt_139 b) (rr_139_3 b) ?_
  refine V_iload_n (pc := 4) d_X12_barOf_4 rfl ?_
  refine P_iald (pc := 5) (k) d_X12_barOf_5 (tt_140 b) rfl (ln_of (ll_140 b) ⟨by omega, by decide⟩) ?_
  rw [hK]
  refine V_iconst (pc := 6) (nI 3) d_X12_barOf_6 (by decide) ?_
  refine V_icmp_ne (pc := 7) 25 d_X12_barOf_7 (by decide) (fun c7 => ?_) (fun c7 => ?_)
  · exact absurd rfl c7
  · refine V_aload_n (pc := 10) d_X12_barOf_10 rfl ?_
    refine V_bipush (pc := 11) (nI 40) d_X12_barOf_11 (by decide) ?_
    refine V_cvV (pc := 13) (n := 1) (c := 12) [_] d_X12_barOf_13 c_X12_320 k_X12_ran ⟨rfl, rfl⟩ (tt_139 b) rfl (Nat.le_of_ble_eq_true rfl) ⟨Nat.le_of_ble_eq_true rfl, Nat.le_of_ble_eq_true rfl⟩ ⟨Nat.le_refl _, Nat.le_refl _⟩ (ct_X12_ran (by omega) h0 ?_)
    refine V_aload_n (pc := 16) d_X12_barOf_16 rfl ?_
    refine V_iload_n (pc := 17) d_X12_barOf_17 rfl ?_
    refine V_iload_n (pc := 18) d_X12_barOf_18 rfl ?_
    refine V_cvI (pc := 19) (n := 2) (c := 12) [_, _] d_X12_barOf_19 c_X12_330 k_X12_bar12 ⟨rfl, rfl⟩ (tt_139 b) rfl (Nat.le_of_ble_eq_true rfl) ⟨Nat.le_of_ble_eq_true rfl, Nat.le_of_ble_eq_true rfl⟩ ⟨Nat.le_refl _, Nat.le_refl _⟩ (ct_M_bar12 (n := n + 1) hk (by omega) (ntM_c h0) ((ntM_o (by omega)).trans hL) ((ntM_o (by omega)).trans hD) ?_)
    refine V_iconst (pc := 22) (nI 3) d_X12_barOf_22 (by decide) ?_
    refine V_imul (pc := 23) d_X12_barOf_23 ?_
    exact V_retI (pc := 24) d_X12_barOf_24 rfl ⟨Nat.le_refl _, Nat.le_refl _⟩ (by simp only [ntM] at hq ⊢; exact hq)
theorem ct_M_move11_3 {k n : Nat} {x L D : Int32} (hk : k < 10) (hn : n + 4 ≤ 50) (h0 : σ 139 59 = nI n) (hK : σ 140 k = (nI 3)) (hL : σ 141 k = L) (hD : σ 142 k = D) (hq : K ((((x + nI k) + D) - L) * nI 2) (ntM σ n [nI 11, nI 41, nI 20, nI 10], sh b)) : CM G mX12_move11 (rl 5) [.ref 139, .int (nI k), .int x] (σ, sh b) (QI K) := by
  refine CM.of (by decide) (Nat.le_of_ble_eq_true rfl) (cats1 rfl) ?_
  refine V_aload_n (pc := 0) d_X12_move11_0 rfl ?_
  refine V_bipush (pc := 1) (nI 11) d_X12_move11_1 (by decide) ?_
  refine V_cvV (pc := 3) (n := 1) (c := 12) [_] d_X12_move11_3 c_X12_320 k_X12_ran ⟨rfl, rfl⟩ (tt_139 b) rfl (Nat.le_of_ble_eq_true rfl) ⟨Nat.le_of_ble_eq_true rfl, Nat.le_of_ble_eq_true rfl⟩ ⟨Nat.le_refl _, Nat.le_refl _⟩ (ct_X12_ran (by omega) h0 ?_)
  refine V_aload_n (pc := 6) d_X12_move11_6 rfl ?_
  refine V_iload_n (pc := 7) d_X12_move11_7 rfl ?_
  refine V_iload_n (pc := 8) d_X12_move11_8 rfl ?_
  refine V_cvI (pc := 9) (n := 4) (c := 12) [_, _] d_X12_move11_9 c_X12_333 k_X12_bearOf ⟨rfl, rfl⟩ (tt_139 b) rfl (Nat.le_of_ble_eq_true rfl) ⟨Nat.le_of_ble_eq_true rfl, Nat.le_of_ble_eq_true rfl⟩ ⟨Nat.le_refl _, Nat.le_refl _⟩ (ct_M_bearOf_3 (n := n + 1) hk (by omega) (ntM_c h0) ((ntM_o (by omega)).trans hK) ((ntM_o (by omega)).trans hL) ((ntM_o (by omega)).trans hD) ?_)
  refine V_iconst (pc := 12) (nI 2) d_X12_move11_12 (by decide) ?_
  refine V_imul (pc := 13) d_X12_move11_13 ?_
  exact V_retI (pc := 14) d_X12_move11_14 rfl ⟨Nat.le_refl _, Nat.le_refl _⟩ (by simp only [ntM] at hq ⊢; exact hq)
theorem ct_M_moveOf_3 {k n : Nat} {x L D : Int32} (hk : k < 10) (hn : n + 4 ≤ 50) (h0 : σ 139 59 = nI n) (hK : σ 140 k = (nI 3)) (hL : σ 141 k = L) (hD : σ 142 k = D) (hq : K ((((x + nI k) + D) - L) * nI 2) (ntM σ n [nI 11, nI 41, nI 20, nI 10], sh b)) : CM G mX12_moveOf (rl 6) [.ref 139, .int (nI k), .int x] (σ, sh b) (QI K) := by
  refine CM.of (by decide) (Nat.le_of_ble_eq_true rfl) (cats1 rfl) ?_
  refine V_aload_n (pc := 0) d_X12_moveOf_0 rfl ?_
  refine P_getR (pc := 1) d_X12_moveOf_1 f_X12_7 (tt_139 b) (rr_139_3 b) ?_
  refine V_iload_n (pc := 4) d_X12_moveOf_4 rfl ?_
  refine P_iald (pc := 5) (k) d_X12_moveOf_5 (tt_140 b) rfl (ln_of (ll_140 b) ⟨by omega, by decide⟩) ?_
  rw [hK]
  refine V_iconst (pc := 6) (nI 2) d_X12_moveOf_6 (by decide) ?_
  refine V_icmp_ne (pc := 7) 37 d_X12_moveOf_7 (by decide) (fun c7 => ?_) (fun c7 => ?_)
  · refine V_aload_n (pc := 37) d_X12_moveOf_37 rfl ?_
    refine P_getR (pc := 38) d_X12_moveOf_38 f_X12_7 (tt_139 b) (rr_139_3 b) ?_
    refine V_iload_n (pc := 41) d_X12_moveOf_41 rfl ?_
    refine P_iald (pc := 42) (k) d_X12_moveOf_42 (tt_140 b) rfl (ln_of (ll_140 b) ⟨by omega, by decide⟩) ?_
    rw [hK]
    refine V_iconst (pc := 43) (nI 4) d_X12_moveOf_43 (by decide) ?_
    refine V_icmp_ne (pc := 44) 67 d_X12_moveOf_44 (by decide) (fun c44 => ?_) (fun c44 => ?_)
    · refine V_aload_n (pc := 67) d_X12_moveOf_67 rfl ?_
      refine V_iload_n (pc := 68) d_X12_moveOf_68 rfl ?_
      refine V_iload_n (pc := 69) d_X12_moveOf_69 rfl ?_
      refine V_cvI (pc := 70) (n := 5) (c := 12) [_, _] d_X12_moveOf_70 c_X12_336 k_X12_move11 ⟨rfl, rfl⟩ (tt_139 b) rfl (Nat.le_of_ble_eq_true rfl) ⟨Nat.le_of_ble_eq_true rfl, Nat.le_of_ble_eq_true rfl⟩ ⟨Nat.le_refl _, Nat.le_refl _⟩ (ct_M_move11_3 (n := n) hk (by omega) h0 hK hL hD ?_)
      exact V_retI (pc := 73) d_X12_moveOf_73 rfl ⟨Nat.le_refl _, Nat.le_refl _⟩ (by simp only [ntM] at hq ⊢; exact hq)
    · exact absurd c44 (by decide)
  · exact absurd c7 (by decide)
theorem ct_M_tell13_3 {k n : Nat} {x L D : Int32} (hk : k < 10) (hn : n + 7 ≤ 50) (h0 : σ 139 59 = nI n) (hK : σ 140 k = (nI 3)) (hL : σ 141 k = L) (hD : σ 142 k = D) (hq : K (((((x + nI k) + D) - L) * nI 2) ^^^ ((x - nI k) * nI 3)) (ntM σ n [nI 13, nI 11, nI 41, nI 20, nI 10, nI 40, nI 12], sh b)) : CM G mX12_tell13 (rl 7) [.ref 139, .int (nI k), .int x] (σ, sh b) (QI K) := by
  refine CM.of (by decide) (Nat.le_of_ble_eq_true rfl) (cats1 rfl) ?_
  refine V_aload_n (pc := 0) d_X12_tell13_0 rfl ?_
  refine V_bipush (pc := 1) (nI 13) d_X12_tell13_1 (by decide) ?_
  refine V_cvV (pc := 3) (n := 1) (c := 12) [_] d_X12_tell13_3 c_X12_320 k_X12_ran ⟨rfl, rfl⟩ (tt_139 b) rfl (Nat.le_of_ble_eq_true rfl) ⟨Nat.le_of_ble_eq_true rfl, Nat.le_of_ble_eq_true rfl⟩ ⟨Nat.le_refl _, Nat.le_refl _⟩ (ct_X12_ran (by omega) h0 ?_)
  refine V_aload_n (pc := 6) d_X12_tell13_6 rfl ?_
  refine V_iload_n (pc := 7) d_X12_tell13_7 rfl ?_
  refine V_iload_n (pc := 8) d_X12_tell13_8 rfl ?_
  refine V_cvI (pc := 9) (n := 6) (c := 12) [_, _] d_X12_tell13_9 c_X12_342 k_X12_moveOf ⟨rfl, rfl⟩ (tt_139 b) rfl (Nat.le_of_ble_eq_true rfl) ⟨Nat.le_of_ble_eq_true rfl, Nat.le_of_ble_eq_true rfl⟩ ⟨Nat.le_refl _, Nat.le_refl _⟩ (ct_M_moveOf_3 (n := n + 1) hk (by omega) (ntM_c h0) ((ntM_o (by omega)).trans hK) ((ntM_o (by omega)).trans hL) ((ntM_o (by omega)).trans hD) ?_)
  refine V_istore_n (pc := 12) d_X12_tell13_12 (by decide) ?_
  refine V_iload_n (pc := 13) d_X12_tell13_13 rfl ?_
  refine V_aload_n (pc := 14) d_X12_tell13_14 rfl ?_
  refine V_iload_n (pc := 15) d_X12_tell13_15 rfl ?_
  refine V_iload_n (pc := 16) d_X12_tell13_16 rfl ?_
  refine V_cvI (pc := 17) (n := 3) (c := 12) [_, _] d_X12_tell13_17 c_X12_339 k_X12_barOf ⟨rfl, rfl⟩ (tt_139 b) rfl (Nat.le_of_ble_eq_true rfl) ⟨Nat.le_of_ble_eq_true rfl, Nat.le_of_ble_eq_true rfl⟩ ⟨Nat.le_refl _, Nat.le_refl _⟩ (ct_M_barOf_3 (n := n + 1 + 4) hk (by omega) (ntM_c (ntM_c h0)) ((ntM_o (by omega)).trans ((ntM_o (by omega)).trans hK)) ((ntM_o (by omega)).trans ((ntM_o (by omega)).trans hL)) ((ntM_o (by omega)).trans ((ntM_o (by omega)).trans hD)) ?_)
  refine V_ixor (pc := 20) d_X12_tell13_20 ?_
  exact V_retI (pc := 21) d_X12_tell13_21 rfl ⟨Nat.le_refl _, Nat.le_refl _⟩ (by simp only [ntM] at hq ⊢; exact hq)
theorem ct_M_tellOf_3 {k n : Nat} {x L D : Int32} (hk : k < 10) (hn : n + 8 ≤ 50) (h0 : σ 139 59 = nI n) (hK : σ 140 k = (nI 3)) (hL : σ 141 k = L) (hD : σ 142 k = D) (hq : K ((((((x + 1) + nI k) + D) - L) * nI 2) ^^^ (((x + 1) - nI k) * nI 3)) (ntM σ n [nI 21, nI 13, nI 11, nI 41, nI 20, nI 10, nI 40, nI 12], sh b)) : CM G mX12_tellOf (rl 8) [.ref 139, .int (nI k), .int x] (σ, sh b) (QI K) := by
  refine CM.of (by decide) (Nat.le_of_ble_eq_true rfl) (cats1 rfl) ?_
  refine V_aload_n (pc := 0) d_X12_tellOf_0 rfl ?_
  refine V_iload_n (pc := 1) d_X12_tellOf_1 rfl ?_
  refine V_cvI (pc := 2) (n := 1) (c := 12) [_] d_X12_tellOf_2 c_X12_205 k_X12_isBar ⟨rfl, rfl⟩ (tt_139 b) rfl (Nat.le_of_ble_eq_true rfl) ⟨Nat.le_of_ble_eq_true rfl, Nat.le_of_ble_eq_true rfl⟩ ⟨Nat.le_refl _, Nat.le_refl _⟩ (ct_X12_isBar hk ?_)
  rw [hK]
  refine V_if_eq (pc := 5) 23 d_X12_tellOf_5 (by decide) (fun c5 => ?_) (fun c5 => ?_)
  · replace c5 := zf c5
    exact absurd (by decide) c5
  · replace c5 := zt c5
    refine V_aload_n (pc := 8) d_X12_tellOf_8 rfl ?_
    refine V_bipush (pc := 9) (nI 21) d_X12_tellOf_9 (by decide) ?_
    refine V_cvV (pc := 11) (n := 1) (c := 12) [_] d_X12_tellOf_11 c_X12_320 k_X12_ran ⟨rfl, rfl⟩ (tt_139 b) rfl (Nat.le_of_ble_eq_true rfl) ⟨Nat.le_of_ble_eq_true rfl, Nat.le_of_ble_eq_true rfl⟩ ⟨Nat.le_refl _, Nat.le_refl _⟩ (ct_X12_ran (by omega) h0 ?_)
    refine V_aload_n (pc := 14) d_X12_tellOf_14 rfl ?_
    refine V_iload_n (pc := 15) d_X12_tellOf_15 rfl ?_
    refine V_iload_n (pc := 16) d_X12_tellOf_16 rfl ?_
    refine V_iconst (pc := 17) (1) d_X12_tellOf_17 (by decide) ?_
    refine V_iadd (pc := 18) d_X12_tellOf_18 ?_
    refine V_cvI (pc := 19) (n := 7) (c := 12) [_, _] d_X12_tellOf_19 c_X12_345 k_X12_tell13 ⟨rfl, rfl⟩ (tt_139 b) rfl (Nat.le_of_ble_eq_true rfl) ⟨Nat.le_of_ble_eq_true rfl, Nat.le_of_ble_eq_true rfl⟩ ⟨Nat.le_refl _, Nat.le_refl _⟩ (ct_M_tell13_3 (n := n + 1) hk (by omega) (ntM_c h0) ((ntM_o (by omega)).trans hK) ((ntM_o (by omega)).trans hL) ((ntM_o (by omega)).trans hD) ?_)
    exact V_retI (pc := 22) d_X12_tellOf_22 rfl ⟨Nat.le_refl _, Nat.le_refl _⟩ (by simp only [ntM] at hq ⊢; exact hq)
theorem ct_M_bearOf_4 {k n : Nat} {x L D : Int32} (hk : k < 10) (hn : n + 1 ≤ 50) (h0 : σ 139 59 = nI n) (hK : σ 140 k = (nI 4)) (hL : σ 141 k = L) (hD : σ 142 k = D) (hq : K (x + D) (ntM σ n [nI 10], sh b)) : CM G mX12_bearOf (rl 4) [.ref 139, .int (nI k), .int x] (σ, sh b) (QI K) := by
  refine CM.of (by decide) (Nat.le_of_ble_eq_true rfl) (cats1 rfl) ?_
  refine V_aload_n (pc := 0) d_X12_bearOf_0 rfl ?_
  refine P_getR (pc := 1) d_X12_bearOf_1 f_X12_7 (tt_139 b) (rr_139_3 b) ?_
  refine V_iload_n (pc := 4) d_X12_bearOf_4 rfl ?_
  refine P_iald (pc := 5) (k) d_X12_bearOf_5 (tt_140 b) rfl (ln_of (ll_140 b) ⟨by omega, by decide⟩) ?_
  rw [hK]
  refine V_iconst (pc := 6) (nI 3) d_X12_bearOf_6 (by decide) ?_
  refine V_icmp_ne (pc := 7) 25 d_X12_bearOf_7 (by decide) (fun c7 => ?_) (fun c7 => ?_)
  · refine V_aload_n (pc := 25) d_X12_bearOf_25 rfl ?_
    refine P_getR (pc := 26) d_X12_bearOf_26 f_X12_7 (tt_139 b) (rr_139_3 b) ?_
    refine V_iload_n (pc := 29) d_X12_bearOf_29 rfl ?_
    refine P_iald (pc := 30) (k) d_X12_bearOf_30 (tt_140 b) rfl (ln_of (ll_140 b) ⟨by omega, by decide⟩) ?_
    rw [hK]
    refine V_iconst (pc := 31) (1) d_X12_bearOf_31 (by decide) ?_
    refine V_icmp_ne (pc := 32) 44 d_X12_bearOf_32 (by decide) (fun c32 => ?_) (fun c32 => ?_)
    · refine V_aload_n (pc := 44) d_X12_bearOf_44 rfl ?_
      refine V_iload_n (pc := 45) d_X12_bearOf_45 rfl ?_
      refine V_iload_n (pc := 46) d_X12_bearOf_46 rfl ?_
      refine V_cvI (pc := 47) (n := 2) (c := 12) [_, _] d_X12_bearOf_47 c_X12_324 k_X12_bear10 ⟨rfl, rfl⟩ (tt_139 b) rfl (Nat.le_of_ble_eq_true rfl) ⟨Nat.le_of_ble_eq_true rfl, Nat.le_of_ble_eq_true rfl⟩ ⟨Nat.le_refl _, Nat.le_refl _⟩ (ct_M_bear10 (n := n) hk (by omega) h0 hL hD ?_)
      exact V_retI (pc := 50) d_X12_bearOf_50 rfl ⟨Nat.le_refl _, Nat.le_refl _⟩ (by simp only [ntM] at hq ⊢; exact hq)
    · exact absurd c32 (by decide)
  · exact absurd c7 (by decide)
theorem ct_M_barOf_4 {k n : Nat} {x L D : Int32} (hk : k < 10) (hn : n + 2 ≤ 50) (h0 : σ 139 59 = nI n) (hK : σ 140 k = (nI 4)) (hL : σ 141 k = L) (hD : σ 142 k = D) (hq : K ((x + L) - nI k) (ntM σ n [nI 51, nI 12], sh b)) : CM G mX12_barOf (rl 3) [.ref 139, .int (nI k), .int x] (σ, sh b) (QI K) := by
  refine CM.of (by decide) (Nat.le_of_ble_eq_true rfl) (cats1 rfl) ?_
  refine V_aload_n (pc := 0) d_X12_barOf_0 rfl ?_
  refine P_getR (pc := 1) d_X12_barOf_1 f_X12_7 (tt_139 b) (rr_139_3 b) ?_
  refine V_iload_n (pc := 4) d_X12_barOf_4 rfl ?_
  refine P_iald (pc := 5) (k) d_X12_barOf_5 (tt_140 b) rfl (ln_of (ll_140 b) ⟨by omega, by decide⟩) ?_
  rw [hK]
  refine V_iconst (pc := 6) (nI 3) d_X12_barOf_6 (by decide) ?_
  refine V_icmp_ne (pc := 7) 25 d_X12_barOf_7 (by decide) (fun c7 => ?_) (fun c7 => ?_)
  · refine V_aload_n (pc := 25) d_X12_barOf_25 rfl ?_
    refine P_getR (pc := 26) d_X12_barOf_26 f_X12_7 (tt_139 b) (rr_139_3 b) ?_
    refine V_iload_n (pc := 29) d_X12_barOf_29 rfl ?_
    refine P_iald (pc := 30) (k) d_X12_barOf_30 (tt_140 b) rfl (ln_of (ll_140 b) ⟨by omega, by decide⟩) ?_
    rw [hK]
    refine V_iconst (pc := 31) (nI 4) d_X12_barOf_31 (by decide) ?_
    refine V_icmp_ne (pc := 32) 55 d_X12_barOf_32 (by decide) (fun c32 => ?_) (fun c32 => ?_)
    · exact absurd rfl c32
    · refine V_aload_n (pc := 35) d_X12_barOf_35 rfl ?_
      refine V_bipush (pc := 36) (nI 51) d_X12_barOf_36 (by decide) ?_
      refine V_cvV (pc := 38) (n := 1) (c := 12) [_] d_X12_barOf_38 c_X12_320 k_X12_ran ⟨rfl, rfl⟩ (tt_139 b) rfl (Nat.le_of_ble_eq_true rfl) ⟨Nat.le_of_ble_eq_true rfl, Nat.le_of_ble_eq_true rfl⟩ ⟨Nat.le_refl _, Nat.le_refl _⟩ (ct_X12_ran (by omega) h0 ?_)
      refine V_aload_n (pc := 41) d_X12_barOf_41 rfl ?_
      refine V_iload_n (pc := 42) d_X12_barOf_42 rfl ?_
      refine V_iload_n (pc := 43) d_X12_barOf_43 rfl ?_
      refine V_aload_n (pc := 44) d_X12_barOf_44 rfl ?_
      refine P_getR (pc := 45) d_X12_barOf_45 f_X12_13 (tt_139 b) (rr_139_4 b) ?_
      refine V_iload_n (pc := 48) d_X12_barOf_48 rfl ?_
      refine P_iald (pc := 49) (k) d_X12_barOf_49 (tt_141 b) rfl (ln_of (ll_141 b) ⟨by omega, by decide⟩) ?_
      simp (disch := omega) only [up2_n, up2_e, ntM_o]
      rw [hL]
      refine V_iadd (pc := 50) d_X12_barOf_50 ?_
      refine V_cvI (pc := 51) (n := 2) (c := 12) [_, _] d_X12_barOf_51 c_X12_330 k_X12_bar12 ⟨rfl, rfl⟩ (tt_139 b) rfl (Nat.le_of_ble_eq_true rfl) ⟨Nat.le_of_ble_eq_true rfl, Nat.le_of_ble_eq_true rfl⟩ ⟨Nat.le_refl _, Nat.le_refl _⟩ (ct_M_bar12 (n := n + 1) hk (by omega) (ntM_c h0) ((ntM_o (by omega)).trans hL) ((ntM_o (by omega)).trans hD) ?_)
      exact V_retI (pc := 54) d_X12_barOf_54 rfl ⟨Nat.le_refl _, Nat.le_refl _⟩ (by simp only [ntM] at hq ⊢; exact hq)
  · exact absurd c7 (by decide)
theorem ct_M_move11_4 {k n : Nat} {x L D : Int32} (hk : k < 10) (hn : n + 2 ≤ 50) (h0 : σ 139 59 = nI n) (hK : σ 140 k = (nI 4)) (hL : σ 141 k = L) (hD : σ 142 k = D) (hq : K ((x + D) * nI 2) (ntM σ n [nI 11, nI 10], sh b)) : CM G mX12_move11 (rl 5) [.ref 139, .int (nI k), .int x] (σ, sh b) (QI K) := by
  refine CM.of (by decide) (Nat.le_of_ble_eq_true rfl) (cats1 rfl) ?_
  refine V_aload_n (pc := 0) d_X12_move11_0 rfl ?_
  refine V_bipush (pc := 1) (nI 11) d_X12_move11_1 (by decide) ?_
  refine V_cvV (pc := 3) (n := 1) (c := 12) [_] d_X12_move11_3 c_X12_320 k_X12_ran ⟨rfl, rfl⟩ (tt_139 b) rfl (Nat.le_of_ble_eq_true rfl) ⟨Nat.le_of_ble_eq_true rfl, Nat.le_of_ble_eq_true rfl⟩ ⟨Nat.le_refl _, Nat.le_refl _⟩ (ct_X12_ran (by omega) h0 ?_)
  refine V_aload_n (pc := 6) d_X12_move11_6 rfl ?_
  refine V_iload_n (pc := 7) d_X12_move11_7 rfl ?_
  refine V_iload_n (pc := 8) d_X12_move11_8 rfl ?_
  refine V_cvI (pc := 9) (n := 4) (c := 12) [_, _] d_X12_move11_9 c_X12_333 k_X12_bearOf ⟨rfl, rfl⟩ (tt_139 b) rfl (Nat.le_of_ble_eq_true rfl) ⟨Nat.le_of_ble_eq_true rfl, Nat.le_of_ble_eq_true rfl⟩ ⟨Nat.le_refl _, Nat.le_refl _⟩ (ct_M_bearOf_4 (n := n + 1) hk (by omega) (ntM_c h0) ((ntM_o (by omega)).trans hK) ((ntM_o (by omega)).trans hL) ((ntM_o (by omega)).trans hD) ?_)
  refine V_iconst (pc := 12) (nI 2) d_X12_move11_12 (by decide) ?_
  refine V_imul (pc := 13) d_X12_move11_13 ?_
  exact V_retI (pc := 14) d_X12_move11_14 rfl ⟨Nat.le_refl _, Nat.le_refl _⟩ (by simp only [ntM] at hq ⊢; exact hq)
theorem ct_M_moveOf_4 {k n : Nat} {x L D : Int32} (hk : k < 10) (hn : n + 3 ≤ 50) (h0 : σ 139 59 = nI n) (hK : σ 140 k = (nI 4)) (hL : σ 141 k = L) (hD : σ 142 k = D) (hq : K (((x + D) * nI 2) ^^^ D) (ntM σ n [nI 50, nI 11, nI 10], sh b)) : CM G mX12_moveOf (rl 6) [.ref 139, .int (nI k), .int x] (σ, sh b) (QI K) := by
  refine CM.of (by decide) (Nat.le_of_ble_eq_true rfl) (cats1 rfl) ?_
  refine V_aload_n (pc := 0) d_X12_moveOf_0 rfl ?_
  refine P_getR (pc := 1) d_X12_moveOf_1 f_X12_7 (tt_139 b) (rr_139_3 b) ?_
  refine V_iload_n (pc := 4) d_X12_moveOf_4 rfl ?_
  refine P_iald (pc := 5) (k) d_X12_moveOf_5 (tt_140 b) rfl (ln_of (ll_140 b) ⟨by omega, by decide⟩) ?_
  rw [hK]
  refine V_iconst (pc := 6) (nI 2) d_X12_moveOf_6 (by decide) ?_
  refine V_icmp_ne (pc := 7) 37 d_X12_moveOf_7 (by decide) (fun c7 => ?_) (fun c7 => ?_)
  · refine V_aload_n (pc := 37) d_X12_moveOf_37 rfl ?_
    refine P_getR (pc := 38) d_X12_moveOf_38 f_X12_7 (tt_139 b) (rr_139_3 b) ?_
    refine V_iload_n (pc := 41) d_X12_moveOf_41 rfl ?_
    refine P_iald (pc := 42) (k) d_X12_moveOf_42 (tt_140 b) rfl (ln_of (ll_140 b) ⟨by omega, by decide⟩) ?_
    rw [hK]
    refine V_iconst (pc := 43) (nI 4) d_X12_moveOf_43 (by decide) ?_
    refine V_icmp_ne (pc := 44) 67 d_X12_moveOf_44 (by decide) (fun c44 => ?_) (fun c44 => ?_)
    · exact absurd rfl c44
    · refine V_aload_n (pc := 47) d_X12_moveOf_47 rfl ?_
      refine V_bipush (pc := 48) (nI 50) d_X12_moveOf_48 (by decide) ?_
      refine V_cvV (pc := 50) (n := 1) (c := 12) [_] d_X12_moveOf_50 c_X12_320 k_X12_ran ⟨rfl, rfl⟩ (tt_139 b) rfl (Nat.le_of_ble_eq_true rfl) ⟨Nat.le_of_ble_eq_true rfl, Nat.le_of_ble_eq_true rfl⟩ ⟨Nat.le_refl _, Nat.le_refl _⟩ (ct_X12_ran (by omega) h0 ?_)
      refine V_aload_n (pc := 53) d_X12_moveOf_53 rfl ?_
      refine V_iload_n (pc := 54) d_X12_moveOf_54 rfl ?_
      refine V_iload_n (pc := 55) d_X12_moveOf_55 rfl ?_
      refine V_cvI (pc := 56) (n := 5) (c := 12) [_, _] d_X12_moveOf_56 c_X12_336 k_X12_move11 ⟨rfl, rfl⟩ (tt_139 b) rfl (Nat.le_of_ble_eq_true rfl) ⟨Nat.le_of_ble_eq_true rfl, Nat.le_of_ble_eq_true rfl⟩ ⟨Nat.le_refl _, Nat.le_refl _⟩ (ct_M_move11_4 (n := n + 1) hk (by omega) (ntM_c h0) ((ntM_o (by omega)).trans hK) ((ntM_o (by omega)).trans hL) ((ntM_o (by omega)).trans hD) ?_)
      refine V_aload_n (pc := 59) d_X12_moveOf_59 rfl ?_
      refine P_getR (pc := 60) d_X12_moveOf_60 f_X12_16 (tt_139 b) (rr_139_5 b) ?_
      refine V_iload_n (pc := 63) d_X12_moveOf_63 rfl ?_
      refine P_iald (pc := 64) (k) d_X12_moveOf_64 (tt_142 b) rfl (ln_of (ll_142 b) ⟨by omega, by decide⟩) ?_
      simp (disch := omega) only [up2_n, up2_e, ntM_o]
      rw [hD]
      refine V_ixor (pc := 65) d_X12_moveOf_65 ?_
      exact V_retI (pc := 66) d_X12_moveOf_66 rfl ⟨Nat.le_refl _, Nat.le_refl _⟩ (by simp only [ntM] at hq ⊢; exact hq)
  · exact absurd c7 (by decide)
theorem ct_M_tell13_4 {k n : Nat} {x L D : Int32} (hk : k < 10) (hn : n + 6 ≤ 50) (h0 : σ 139 59 = nI n) (hK : σ 140 k = (nI 4)) (hL : σ 141 k = L) (hD : σ 142 k = D) (hq : K ((((x + D) * nI 2) ^^^ D) ^^^ ((x + L) - nI k)) (ntM σ n [nI 13, nI 50, nI 11, nI 10, nI 51, nI 12], sh b)) : CM G mX12_tell13 (rl 7) [.ref 139, .int (nI k), .int x] (σ, sh b) (QI K) := by
  refine CM.of (by decide) (Nat.le_of_ble_eq_true rfl) (cats1 rfl) ?_
  refine V_aload_n (pc := 0) d_X12_tell13_0 rfl ?_
  refine V_bipush (pc := 1) (nI 13) d_X12_tell13_1 (by decide) ?_
  refine V_cvV (pc := 3) (n := 1) (c := 12) [_] d_X12_tell13_3 c_X12_320 k_X12_ran ⟨rfl, rfl⟩ (tt_139 b) rfl (Nat.le_of_ble_eq_true rfl) ⟨Nat.le_of_ble_eq_true rfl, Nat.le_of_ble_eq_true rfl⟩ ⟨Nat.le_refl _, Nat.le_refl _⟩ (ct_X12_ran (by omega) h0 ?_)
  refine V_aload_n (pc := 6) d_X12_tell13_6 rfl ?_
  refine V_iload_n (pc := 7) d_X12_tell13_7 rfl ?_
  refine V_iload_n (pc := 8) d_X12_tell13_8 rfl ?_
  refine V_cvI (pc := 9) (n := 6) (c := 12) [_, _] d_X12_tell13_9 c_X12_342 k_X12_moveOf ⟨rfl, rfl⟩ (tt_139 b) rfl (Nat.le_of_ble_eq_true rfl) ⟨Nat.le_of_ble_eq_true rfl, Nat.le_of_ble_eq_true rfl⟩ ⟨Nat.le_refl _, Nat.le_refl _⟩ (ct_M_moveOf_4 (n := n + 1) hk (by omega) (ntM_c h0) ((ntM_o (by omega)).trans hK) ((ntM_o (by omega)).trans hL) ((ntM_o (by omega)).trans hD) ?_)
  refine V_istore_n (pc := 12) d_X12_tell13_12 (by decide) ?_
  refine V_iload_n (pc := 13) d_X12_tell13_13 rfl ?_
  refine V_aload_n (pc := 14) d_X12_tell13_14 rfl ?_
  refine V_iload_n (pc := 15) d_X12_tell13_15 rfl ?_
  refine V_iload_n (pc := 16) d_X12_tell13_16 rfl ?_
  refine V_cvI (pc := 17) (n := 3) (c := 12) [_, _] d_X12_tell13_17 c_X12_339 k_X12_barOf ⟨rfl, rfl⟩ (tt_139 b) rfl (Nat.le_of_ble_eq_true rfl) ⟨Nat.le_of_ble_eq_true rfl, Nat.le_of_ble_eq_true rfl⟩ ⟨Nat.le_refl _, Nat.le_refl _⟩ (ct_M_barOf_4 (n := n + 1 + 3) hk (by omega) (ntM_c (ntM_c h0)) ((ntM_o (by omega)).trans ((ntM_o (by omega)).trans hK)) ((ntM_o (by omega)).trans ((ntM_o (by omega)).trans hL)) ((ntM_o (by omega)).trans ((ntM_o (by omega)).trans hD)) ?_)
  refine V_ixor (pc := 20) d_X12_tell13_20 ?_
  exact V_retI (pc := 21) d_X12_tell13_21 rfl ⟨Nat.le_refl _, Nat.le_refl _⟩ (by simp only [ntM] at hq ⊢; exact hq)
theorem ct_M_tellOf_4 {k n : Nat} {x L D : Int32} (hk : k < 10) (hn : n + 6 ≤ 50) (h0 : σ 139 59 = nI n) (hK : σ 140 k = (nI 4)) (hL : σ 141 k = L) (hD : σ 142 k = D) (hq : K ((((x + D) * nI 2) ^^^ D) ^^^ ((x + L) - nI k)) (ntM σ n [nI 13, nI 50, nI 11, nI 10, nI 51, nI 12], sh b)) : CM G mX12_tellOf (rl 8) [.ref 139, .int (nI k), .int x] (σ, sh b) (QI K) := by
  refine CM.of (by decide) (Nat.le_of_ble_eq_true rfl) (cats1 rfl) ?_
  refine V_aload_n (pc := 0) d_X12_tellOf_0 rfl ?_
  refine V_iload_n (pc := 1) d_X12_tellOf_1 rfl ?_
  refine V_cvI (pc := 2) (n := 1) (c := 12) [_] d_X12_tellOf_2 c_X12_205 k_X12_isBar ⟨rfl, rfl⟩ (tt_139 b) rfl (Nat.le_of_ble_eq_true rfl) ⟨Nat.le_of_ble_eq_true rfl, Nat.le_of_ble_eq_true rfl⟩ ⟨Nat.le_refl _, Nat.le_refl _⟩ (ct_X12_isBar hk ?_)
  rw [hK]
  refine V_if_eq (pc := 5) 23 d_X12_tellOf_5 (by decide) (fun c5 => ?_) (fun c5 => ?_)
  · replace c5 := zf c5
    refine V_aload_n (pc := 23) d_X12_tellOf_23 rfl ?_
    refine P_getR (pc := 24) d_X12_tellOf_24 f_X12_7 (tt_139 b) (rr_139_3 b) ?_
    refine V_iload_n (pc := 27) d_X12_tellOf_27 rfl ?_
    refine P_iald (pc := 28) (k) d_X12_tellOf_28 (tt_140 b) rfl (ln_of (ll_140 b) ⟨by omega, by decide⟩) ?_
    rw [hK]
    refine V_iconst (pc := 29) (nI 5) d_X12_tellOf_29 (by decide) ?_
    refine V_icmp_ne (pc := 30) 55 d_X12_tellOf_30 (by decide) (fun c30 => ?_) (fun c30 => ?_)
    · refine V_aload_n (pc := 55) d_X12_tellOf_55 rfl ?_
      refine V_iload_n (pc := 56) d_X12_tellOf_56 rfl ?_
      refine V_iload_n (pc := 57) d_X12_tellOf_57 rfl ?_
      refine V_cvI (pc := 58) (n := 7) (c := 12) [_, _] d_X12_tellOf_58 c_X12_345 k_X12_tell13 ⟨rfl, rfl⟩ (tt_139 b) rfl (Nat.le_of_ble_eq_true rfl) ⟨Nat.le_of_ble_eq_true rfl, Nat.le_of_ble_eq_true rfl⟩ ⟨Nat.le_refl _, Nat.le_refl _⟩ (ct_M_tell13_4 (n := n) hk (by omega) h0 hK hL hD ?_)
      exact V_retI (pc := 61) d_X12_tellOf_61 rfl ⟨Nat.le_refl _, Nat.le_refl _⟩ (by simp only [ntM] at hq ⊢; exact hq)
    · exact absurd c30 (by decide)
  · replace c5 := zt c5
    exact absurd c5 (by decide)
theorem ct_M_bearOf_5 {k n : Nat} {x L D : Int32} (hk : k < 10) (hn : n + 1 ≤ 50) (h0 : σ 139 59 = nI n) (hK : σ 140 k = (nI 5)) (hL : σ 141 k = L) (hD : σ 142 k = D) (hq : K (x + D) (ntM σ n [nI 10], sh b)) : CM G mX12_bearOf (rl 4) [.ref 139, .int (nI k), .int x] (σ, sh b) (QI K) := by
  refine CM.of (by decide) (Nat.le_of_ble_eq_true rfl) (cats1 rfl) ?_
  refine V_aload_n (pc := 0) d_X12_bearOf_0 rfl ?_
  refine P_getR (pc := 1) d_X12_bearOf_1 f_X12_7 (tt_139 b) (rr_139_3 b) ?_
  refine V_iload_n (pc := 4) d_X12_bearOf_4 rfl ?_
  refine P_iald (pc := 5) (k) d_X12_bearOf_5 (tt_140 b) rfl (ln_of (ll_140 b) ⟨by omega, by decide⟩) ?_
  rw [hK]
  refine V_iconst (pc := 6) (nI 3) d_X12_bearOf_6 (by decide) ?_
  refine V_icmp_ne (pc := 7) 25 d_X12_bearOf_7 (by decide) (fun c7 => ?_) (fun c7 => ?_)
  · refine V_aload_n (pc := 25) d_X12_bearOf_25 rfl ?_
    refine P_getR (pc := 26) d_X12_bearOf_26 f_X12_7 (tt_139 b) (rr_139_3 b) ?_
    refine V_iload_n (pc := 29) d_X12_bearOf_29 rfl ?_
    refine P_iald (pc := 30) (k) d_X12_bearOf_30 (tt_140 b) rfl (ln_of (ll_140 b) ⟨by omega, by decide⟩) ?_
    rw [hK]
    refine V_iconst (pc := 31) (1) d_X12_bearOf_31 (by decide) ?_
    refine V_icmp_ne (pc := 32) 44 d_X12_bearOf_32 (by decide) (fun c32 => ?_) (fun c32 => ?_)
    · refine V_aload_n (pc := 44) d_X12_bearOf_44 rfl ?_
      refine V_iload_n (pc := 45) d_X12_bearOf_45 rfl ?_
      refine V_iload_n (pc := 46) d_X12_bearOf_46 rfl ?_
      refine V_cvI (pc := 47) (n := 2) (c := 12) [_, _] d_X12_bearOf_47 c_X12_324 k_X12_bear10 ⟨rfl, rfl⟩ (tt_139 b) rfl (Nat.le_of_ble_eq_true rfl) ⟨Nat.le_of_ble_eq_true rfl, Nat.le_of_ble_eq_true rfl⟩ ⟨Nat.le_refl _, Nat.le_refl _⟩ (ct_M_bear10 (n := n) hk (by omega) h0 hL hD ?_)
      exact V_retI (pc := 50) d_X12_bearOf_50 rfl ⟨Nat.le_refl _, Nat.le_refl _⟩ (by simp only [ntM] at hq ⊢; exact hq)
    · exact absurd c32 (by decide)
  · exact absurd c7 (by decide)
theorem ct_M_barOf_5 {k n : Nat} {x L D : Int32} (hk : k < 10) (hn : n + 1 ≤ 50) (h0 : σ 139 59 = nI n) (hK : σ 140 k = (nI 5)) (hL : σ 141 k = L) (hD : σ 142 k = D) (hq : K (x - nI k) (ntM σ n [nI 12], sh b)) : CM G mX12_barOf (rl 3) [.ref 139, .int (nI k), .int x] (σ, sh b) (QI K) := by
  refine CM.of (by decide) (Nat.le_of_ble_eq_true rfl) (cats1 rfl) ?_
  refine V_aload_n (pc := 0) d_X12_barOf_0 rfl ?_
  refine P_getR (pc := 1) d_X12_barOf_1 f_X12_7 (tt_139 b) (rr_139_3 b) ?_
  refine V_iload_n (pc := 4) d_X12_barOf_4 rfl ?_
  refine P_iald (pc := 5) (k) d_X12_barOf_5 (tt_140 b) rfl (ln_of (ll_140 b) ⟨by omega, by decide⟩) ?_
  rw [hK]
  refine V_iconst (pc := 6) (nI 3) d_X12_barOf_6 (by decide) ?_
  refine V_icmp_ne (pc := 7) 25 d_X12_barOf_7 (by decide) (fun c7 => ?_) (fun c7 => ?_)
  · refine V_aload_n (pc := 25) d_X12_barOf_25 rfl ?_
    refine P_getR (pc := 26) d_X12_barOf_26 f_X12_7 (tt_139 b) (rr_139_3 b) ?_
    refine V_iload_n (pc := 29) d_X12_barOf_29 rfl ?_
    refine P_iald (pc := 30) (k) d_X12_barOf_30 (tt_140 b) rfl (ln_of (ll_140 b) ⟨by omega, by decide⟩) ?_
    rw [hK]
    refine V_iconst (pc := 31) (nI 4) d_X12_barOf_31 (by decide) ?_
    refine V_icmp_ne (pc := 32) 55 d_X12_barOf_32 (by decide) (fun c32 => ?_) (fun c32 => ?_)
    · refine V_aload_n (pc := 55) d_X12_barOf_55 rfl ?_
      refine V_iload_n (pc := 56) d_X12_barOf_56 rfl ?_
      refine V_iload_n (pc := 57) d_X12_barOf_57 rfl ?_
      refine V_cvI (pc := 58) (n := 2) (c := 12) [_, _] d_X12_barOf_58 c_X12_330 k_X12_bar12 ⟨rfl, rfl⟩ (tt_139 b) rfl (Nat.le_of_ble_eq_true rfl) ⟨Nat.le_of_ble_eq_true rfl, Nat.le_of_ble_eq_true rfl⟩ ⟨Nat.le_refl _, Nat.le_refl _⟩ (ct_M_bar12 (n := n) hk (by omega) h0 hL hD ?_)
      exact V_retI (pc := 61) d_X12_barOf_61 rfl ⟨Nat.le_refl _, Nat.le_refl _⟩ (by simp only [ntM] at hq ⊢; exact hq)
    · exact absurd c32 (by decide)
  · exact absurd c7 (by decide)
theorem ct_M_move11_5 {k n : Nat} {x L D : Int32} (hk : k < 10) (hn : n + 2 ≤ 50) (h0 : σ 139 59 = nI n) (hK : σ 140 k = (nI 5)) (hL : σ 141 k = L) (hD : σ 142 k = D) (hq : K ((x + D) * nI 2) (ntM σ n [nI 11, nI 10], sh b)) : CM G mX12_move11 (rl 5) [.ref 139, .int (nI k), .int x] (σ, sh b) (QI K) := by
  refine CM.of (by decide) (Nat.le_of_ble_eq_true rfl) (cats1 rfl) ?_
  refine V_aload_n (pc := 0) d_X12_move11_0 rfl ?_
  refine V_bipush (pc := 1) (nI 11) d_X12_move11_1 (by decide) ?_
  refine V_cvV (pc := 3) (n := 1) (c := 12) [_] d_X12_move11_3 c_X12_320 k_X12_ran ⟨rfl, rfl⟩ (tt_139 b) rfl (Nat.le_of_ble_eq_true rfl) ⟨Nat.le_of_ble_eq_true rfl, Nat.le_of_ble_eq_true rfl⟩ ⟨Nat.le_refl _, Nat.le_refl _⟩ (ct_X12_ran (by omega) h0 ?_)
  refine V_aload_n (pc := 6) d_X12_move11_6 rfl ?_
  refine V_iload_n (pc := 7) d_X12_move11_7 rfl ?_
  refine V_iload_n (pc := 8) d_X12_move11_8 rfl ?_
  refine V_cvI (pc := 9) (n := 4) (c := 12) [_, _] d_X12_move11_9 c_X12_333 k_X12_bearOf ⟨rfl, rfl⟩ (tt_139 b) rfl (Nat.le_of_ble_eq_true rfl) ⟨Nat.le_of_ble_eq_true rfl, Nat.le_of_ble_eq_true rfl⟩ ⟨Nat.le_refl _, Nat.le_refl _⟩ (ct_M_bearOf_5 (n := n + 1) hk (by omega) (ntM_c h0) ((ntM_o (by omega)).trans hK) ((ntM_o (by omega)).trans hL) ((ntM_o (by omega)).trans hD) ?_)
  refine V_iconst (pc := 12) (nI 2) d_X12_move11_12 (by decide) ?_
  refine V_imul (pc := 13) d_X12_move11_13 ?_
  exact V_retI (pc := 14) d_X12_move11_14 rfl ⟨Nat.le_refl _, Nat.le_refl _⟩ (by simp only [ntM] at hq ⊢; exact hq)
theorem ct_M_moveOf_5 {k n : Nat} {x L D : Int32} (hk : k < 10) (hn : n + 2 ≤ 50) (h0 : σ 139 59 = nI n) (hK : σ 140 k = (nI 5)) (hL : σ 141 k = L) (hD : σ 142 k = D) (hq : K ((x + D) * nI 2) (ntM σ n [nI 11, nI 10], sh b)) : CM G mX12_moveOf (rl 6) [.ref 139, .int (nI k), .int x] (σ, sh b) (QI K) := by
  refine CM.of (by decide) (Nat.le_of_ble_eq_true rfl) (cats1 rfl) ?_
  refine V_aload_n (pc := 0) d_X12_moveOf_0 rfl ?_
  refine P_getR (pc := 1) d_X12_moveOf_1 f_X12_7 (tt_139 b) (rr_139_3 b) ?_
  refine V_iload_n (pc := 4) d_X12_moveOf_4 rfl ?_
  refine P_iald (pc := 5) (k) d_X12_moveOf_5 (tt_140 b) rfl (ln_of (ll_140 b) ⟨by omega, by decide⟩) ?_
  rw [hK]
  refine V_iconst (pc := 6) (nI 2) d_X12_moveOf_6 (by decide) ?_
  refine V_icmp_ne (pc := 7) 37 d_X12_moveOf_7 (by decide) (fun c7 => ?_) (fun c7 => ?_)
  · refine V_aload_n (pc := 37) d_X12_moveOf_37 rfl ?_
    refine P_getR (pc := 38) d_X12_moveOf_38 f_X12_7 (tt_139 b) (rr_139_3 b) ?_
    refine V_iload_n (pc := 41) d_X12_moveOf_41 rfl ?_
    refine P_iald (pc := 42) (k) d_X12_moveOf_42 (tt_140 b) rfl (ln_of (ll_140 b) ⟨by omega, by decide⟩) ?_
    rw [hK]
    refine V_iconst (pc := 43) (nI 4) d_X12_moveOf_43 (by decide) ?_
    refine V_icmp_ne (pc := 44) 67 d_X12_moveOf_44 (by decide) (fun c44 => ?_) (fun c44 => ?_)
    · refine V_aload_n (pc := 67) d_X12_moveOf_67 rfl ?_
      refine V_iload_n (pc := 68) d_X12_moveOf_68 rfl ?_
      refine V_iload_n (pc := 69) d_X12_moveOf_69 rfl ?_
      refine V_cvI (pc := 70) (n := 5) (c := 12) [_, _] d_X12_moveOf_70 c_X12_336 k_X12_move11 ⟨rfl, rfl⟩ (tt_139 b) rfl (Nat.le_of_ble_eq_true rfl) ⟨Nat.le_of_ble_eq_true rfl, Nat.le_of_ble_eq_true rfl⟩ ⟨Nat.le_refl _, Nat.le_refl _⟩ (ct_M_move11_5 (n := n) hk (by omega) h0 hK hL hD ?_)
      exact V_retI (pc := 73) d_X12_moveOf_73 rfl ⟨Nat.le_refl _, Nat.le_refl _⟩ (by simp only [ntM] at hq ⊢; exact hq)
    · exact absurd c44 (by decide)
  · exact absurd c7 (by decide)
theorem ct_M_tell13_5 {k n : Nat} {x L D : Int32} (hk : k < 10) (hn : n + 4 ≤ 50) (h0 : σ 139 59 = nI n) (hK : σ 140 k = (nI 5)) (hL : σ 141 k = L) (hD : σ 142 k = D) (hq : K (((x + D) * nI 2) ^^^ (x - nI k)) (ntM σ n [nI 13, nI 11, nI 10, nI 12], sh b)) : CM G mX12_tell13 (rl 7) [.ref 139, .int (nI k), .int x] (σ, sh b) (QI K) := by
  refine CM.of (by decide) (Nat.le_of_ble_eq_true rfl) (cats1 rfl) ?_
  refine V_aload_n (pc := 0) d_X12_tell13_0 rfl ?_
  refine V_bipush (pc := 1) (nI 13) d_X12_tell13_1 (by decide) ?_
  refine V_cvV (pc := 3) (n := 1) (c := 12) [_] d_X12_tell13_3 c_X12_320 k_X12_ran ⟨rfl, rfl⟩ (tt_139 b) rfl (Nat.le_of_ble_eq_true rfl) ⟨Nat.le_of_ble_eq_true rfl, Nat.le_of_ble_eq_true rfl⟩ ⟨Nat.le_refl _, Nat.le_refl _⟩ (ct_X12_ran (by omega) h0 ?_)
  refine V_aload_n (pc := 6) d_X12_tell13_6 rfl ?_
  refine V_iload_n (pc := 7) d_X12_tell13_7 rfl ?_
  refine V_iload_n (pc := 8) d_X12_tell13_8 rfl ?_
  refine V_cvI (pc := 9) (n := 6) (c := 12) [_, _] d_X12_tell13_9 c_X12_342 k_X12_moveOf ⟨rfl, rfl⟩ (tt_139 b) rfl (Nat.le_of_ble_eq_true rfl) ⟨Nat.le_of_ble_eq_true rfl, Nat.le_of_ble_eq_true rfl⟩ ⟨Nat.le_refl _, Nat.le_refl _⟩ (ct_M_moveOf_5 (n := n + 1) hk (by omega) (ntM_c h0) ((ntM_o (by omega)).trans hK) ((ntM_o (by omega)).trans hL) ((ntM_o (by omega)).trans hD) ?_)
  refine V_istore_n (pc := 12) d_X12_tell13_12 (by decide) ?_
  refine V_iload_n (pc := 13) d_X12_tell13_13 rfl ?_
  refine V_aload_n (pc := 14) d_X12_tell13_14 rfl ?_
  refine V_iload_n (pc := 15) d_X12_tell13_15 rfl ?_
  refine V_iload_n (pc := 16) d_X12_tell13_16 rfl ?_
  refine V_cvI (pc := 17) (n := 3) (c := 12) [_, _] d_X12_tell13_17 c_X12_339 k_X12_barOf ⟨rfl, rfl⟩ (tt_139 b) rfl (Nat.le_of_ble_eq_true rfl) ⟨Nat.le_of_ble_eq_true rfl, Nat.le_of_ble_eq_true rfl⟩ ⟨Nat.le_refl _, Nat.le_refl _⟩ (ct_M_barOf_5 (n := n + 1 + 2) hk (by omega) (ntM_c (ntM_c h0)) ((ntM_o (by omega)).trans ((ntM_o (by omega)).trans hK)) ((ntM_o (by omega)).trans ((ntM_o (by omega)).trans hL)) ((ntM_o (by omega)).trans ((ntM_o (by omega)).trans hD)) ?_)
  refine V_ixor (pc := 20) d_X12_tell13_20 ?_
  exact V_retI (pc := 21) d_X12_tell13_21 rfl ⟨Nat.le_refl _, Nat.le_refl _⟩ (by simp only [ntM] at hq ⊢; exact hq)
theorem ct_M_tellOf_5 {k n : Nat} {x L D : Int32} (hk : k < 10) (hn : n + 6 ≤ 50) (h0 : σ 139 59 = nI n) (hK : σ 140 k = (nI 5)) (hL : σ 141 k = L) (hD : σ 142 k = D) (hq : K ((x - nI k) - (((x + D) * nI 2) ^^^ (x - nI k))) (ntM σ n [nI 60, nI 12, nI 13, nI 11, nI 10, nI 12], sh b)) : CM G mX12_tellOf (rl 8) [.ref 139, .int (nI k), .int x] (σ, sh b) (QI K) := by
  refine CM.of (by decide) (Nat.le_of_ble_eq_true rfl) (cats1 rfl) ?_
  refine V_aload_n (pc := 0) d_X12_tellOf_0 rfl ?_
  refine V_iload_n (pc := 1) d_X12_tellOf_1 rfl ?_
  refine V_cvI (pc := 2) (n := 1) (c := 12) [_] d_X12_tellOf_2 c_X12_205 k_X12_isBar ⟨rfl, rfl⟩ (tt_139 b) rfl (Nat.le_of_ble_eq_true rfl) ⟨Nat.le_of_ble_eq_true rfl, Nat.le_of_ble_eq_true rfl⟩ ⟨Nat.le_refl _, Nat.le_refl _⟩ (ct_X12_isBar hk ?_)
  rw [hK]
  refine V_if_eq (pc := 5) 23 d_X12_tellOf_5 (by decide) (fun c5 => ?_) (fun c5 => ?_)
  · replace c5 := zf c5
    refine V_aload_n (pc := 23) d_X12_tellOf_23 rfl ?_
    refine P_getR (pc := 24) d_X12_tellOf_24 f_X12_7 (tt_139 b) (rr_139_3 b) ?_
    refine V_iload_n (pc := 27) d_X12_tellOf_27 rfl ?_
    refine P_iald (pc := 28) (k) d_X12_tellOf_28 (tt_140 b) rfl (ln_of (ll_140 b) ⟨by omega, by decide⟩) ?_
    rw [hK]
    refine V_iconst (pc := 29) (nI 5) d_X12_tellOf_29 (by decide) ?_
    refine V_icmp_ne (pc := 30) 55 d_X12_tellOf_30 (by decide) (fun c30 => ?_) (fun c30 => ?_)
    · exact absurd rfl c30
    · refine V_aload_n (pc := 33) d_X12_tellOf_33 rfl ?_
      refine V_bipush (pc := 34) (nI 60) d_X12_tellOf_34 (by decide) ?_
      refine V_cvV (pc := 36) (n := 1) (c := 12) [_] d_X12_tellOf_36 c_X12_320 k_X12_ran ⟨rfl, rfl⟩ (tt_139 b) rfl (Nat.le_of_ble_eq_true rfl) ⟨Nat.le_of_ble_eq_true rfl, Nat.le_of_ble_eq_true rfl⟩ ⟨Nat.le_refl _, Nat.le_refl _⟩ (ct_X12_ran (by omega) h0 ?_)
      refine V_aload_n (pc := 39) d_X12_tellOf_39 rfl ?_
      refine V_iload_n (pc := 40) d_X12_tellOf_40 rfl ?_
      refine V_iload_n (pc := 41) d_X12_tellOf_41 rfl ?_
      refine V_cvI (pc := 42) (n := 3) (c := 12) [_, _] d_X12_tellOf_42 c_X12_339 k_X12_barOf ⟨rfl, rfl⟩ (tt_139 b) rfl (Nat.le_of_ble_eq_true rfl) ⟨Nat.le_of_ble_eq_true rfl, Nat.le_of_ble_eq_true rfl⟩ ⟨Nat.le_refl _, Nat.le_refl _⟩ (ct_M_barOf_5 (n := n + 1) hk (by omega) (ntM_c h0) ((ntM_o (by omega)).trans hK) ((ntM_o (by omega)).trans hL) ((ntM_o (by omega)).trans hD) ?_)
      refine V_istore_n (pc := 45) d_X12_tellOf_45 (by decide) ?_
      refine V_iload_n (pc := 46) d_X12_tellOf_46 rfl ?_
      refine V_aload_n (pc := 47) d_X12_tellOf_47 rfl ?_
      refine V_iload_n (pc := 48) d_X12_tellOf_48 rfl ?_
      refine V_iload_n (pc := 49) d_X12_tellOf_49 rfl ?_
      refine V_cvI (pc := 50) (n := 7) (c := 12) [_, _] d_X12_tellOf_50 c_X12_345 k_X12_tell13 ⟨rfl, rfl⟩ (tt_139 b) rfl (Nat.le_of_ble_eq_true rfl) ⟨Nat.le_of_ble_eq_true rfl, Nat.le_of_ble_eq_true rfl⟩ ⟨Nat.le_refl _, Nat.le_refl _⟩ (ct_M_tell13_5 (n := n + 1 + 1) hk (by omega) (ntM_c (ntM_c h0)) ((ntM_o (by omega)).trans ((ntM_o (by omega)).trans hK)) ((ntM_o (by omega)).trans ((ntM_o (by omega)).trans hL)) ((ntM_o (by omega)).trans ((ntM_o (by omega)).trans hD)) ?_)
      refine V_isub (pc := 53) d_X12_tellOf_53 ?_
      exact V_retI (pc := 54) d_X12_tellOf_54 rfl ⟨Nat.le_refl _, Nat.le_refl _⟩ (by simp only [ntM] at hq ⊢; exact hq)
  · replace c5 := zt c5
    exact absurd c5 (by decide)
theorem ct_X0_begin {k kk a : Nat} {x L D : Int32} (hk : k < 10) (hkk : kk < 6) (ha : a < 4) (hN : σ (13 + 2 * k) 0 = nI k) (hK : σ (13 + 2 * k) 1 = nI kk) (hL : σ (13 + 2 * k) 2 = L) (hD : σ (13 + 2 * k) 3 = D) (hq : K (acV kk a k x L D) (ntC (up2 σ 124 0 0) 0 (acE kk a), sh b)) : CM G mX0_begin (rl 41) [.ref 124, .ref (13 + 2 * k), .int (nI a), .int x] (σ, sh b) (QI K) := by
  refine CM.of (by decide) (Nat.le_of_ble_eq_true rfl) (cats1 rfl) ?_
  rcases (by omega : kk = 0 ∨ kk = 1 ∨ kk = 2 ∨ kk = 3 ∨ kk = 4 ∨ kk = 5) with rfl | rfl | rfl | rfl | rfl | rfl <;> rcases (by omega : a = 0 ∨ a = 1 ∨ a = 2 ∨ a = 3) with rfl | rfl | rfl | rfl
  · refine V_aload_n (pc := 0) d_X0_begin_0 rfl ?_
    refine V_iconst (pc := 1) (0) d_X0_begin_1 (by decide) ?_
    refine P_putI (pc := 2) d_X0_begin_2 f_X0_9 (tt_124 b) ?_
    refine V_aload_n (pc := 5) d_X0_begin_5 rfl ?_
    refine V_aload_n (pc := 6) d_X0_begin_6 rfl ?_
    refine V_aload_n (pc := 7) d_X0_begin_7 rfl ?_
    refine P_getI (pc := 8) d_X0_begin_8 f_X0_19 (tS b (by omega)) ?_
    simp (disch := omega) only [up2_n, up2_e]
    rw [show σ (13 + 2 * k) 1 = 0 from hK]
    refine V_iload_n (pc := 11) d_X0_begin_11 rfl ?_
    refine V_iload_n (pc := 12) d_X0_begin_12 rfl ?_
    refine V_iconst (pc := 13) (0) d_X0_begin_13 (by decide) ?_
    refine V_csI (pc := 14) (n := 2) [_, _, _, _, _, _] d_X0_begin_14 c_X0_24 k_X0_run rfl (Nat.le_of_ble_eq_true rfl) ⟨Nat.le_of_ble_eq_true rfl, Nat.le_of_ble_eq_true rfl⟩ ⟨Nat.le_refl _, Nat.le_refl _⟩ (ct_run_0_0_0 (n := 0) (d := 0) hk (by omega) (by omega) (up2_e ⟨rfl, rfl⟩) ((up2_n (by omega)).trans hN) ((up2_n (by omega)).trans hK) ((up2_n (by omega)).trans hL) ((up2_n (by omega)).trans hD) ?_)
    exact V_retI (pc := 17) d_X0_begin_17 rfl ⟨Nat.le_refl _, Nat.le_refl _⟩ hq
  · refine V_aload_n (pc := 0) d_X0_begin_0 rfl ?_
    refine V_iconst (pc := 1) (0) d_X0_begin_1 (by decide) ?_
    refine P_putI (pc := 2) d_X0_begin_2 f_X0_9 (tt_124 b) ?_
    refine V_aload_n (pc := 5) d_X0_begin_5 rfl ?_
    refine V_aload_n (pc := 6) d_X0_begin_6 rfl ?_
    refine V_aload_n (pc := 7) d_X0_begin_7 rfl ?_
    refine P_getI (pc := 8) d_X0_begin_8 f_X0_19 (tS b (by omega)) ?_
    simp (disch := omega) only [up2_n, up2_e]
    rw [show σ (13 + 2 * k) 1 = 0 from hK]
    refine V_iload_n (pc := 11) d_X0_begin_11 rfl ?_
    refine V_iload_n (pc := 12) d_X0_begin_12 rfl ?_
    refine V_iconst (pc := 13) (0) d_X0_begin_13 (by decide) ?_
    refine V_csI (pc := 14) (n := 3) [_, _, _, _, _, _] d_X0_begin_14 c_X0_24 k_X0_run rfl (Nat.le_of_ble_eq_true rfl) ⟨Nat.le_of_ble_eq_true rfl, Nat.le_of_ble_eq_true rfl⟩ ⟨Nat.le_refl _, Nat.le_refl _⟩ (ct_run_0_0_1 (n := 0) (d := 0) hk (by omega) (by omega) (up2_e ⟨rfl, rfl⟩) ((up2_n (by omega)).trans hN) ((up2_n (by omega)).trans hK) ((up2_n (by omega)).trans hL) ((up2_n (by omega)).trans hD) ?_)
    exact V_retI (pc := 17) d_X0_begin_17 rfl ⟨Nat.le_refl _, Nat.le_refl _⟩ hq
  · refine V_aload_n (pc := 0) d_X0_begin_0 rfl ?_
    refine V_iconst (pc := 1) (0) d_X0_begin_1 (by decide) ?_
    refine P_putI (pc := 2) d_X0_begin_2 f_X0_9 (tt_124 b) ?_
    refine V_aload_n (pc := 5) d_X0_begin_5 rfl ?_
    refine V_aload_n (pc := 6) d_X0_begin_6 rfl ?_
    refine V_aload_n (pc := 7) d_X0_begin_7 rfl ?_
    refine P_getI (pc := 8) d_X0_begin_8 f_X0_19 (tS b (by omega)) ?_
    simp (disch := omega) only [up2_n, up2_e]
    rw [show σ (13 + 2 * k) 1 = 0 from hK]
    refine V_iload_n (pc := 11) d_X0_begin_11 rfl ?_
    refine V_iload_n (pc := 12) d_X0_begin_12 rfl ?_
    refine V_iconst (pc := 13) (0) d_X0_begin_13 (by decide) ?_
    refine V_csI (pc := 14) (n := 2) [_, _, _, _, _, _] d_X0_begin_14 c_X0_24 k_X0_run rfl (Nat.le_of_ble_eq_true rfl) ⟨Nat.le_of_ble_eq_true rfl, Nat.le_of_ble_eq_true rfl⟩ ⟨Nat.le_refl _, Nat.le_refl _⟩ (ct_run_0_0_2 (n := 0) (d := 0) hk (by omega) (by omega) (up2_e ⟨rfl, rfl⟩) ((up2_n (by omega)).trans hN) ((up2_n (by omega)).trans hK) ((up2_n (by omega)).trans hL) ((up2_n (by omega)).trans hD) ?_)
    exact V_retI (pc := 17) d_X0_begin_17 rfl ⟨Nat.le_refl _, Nat.le_refl _⟩ hq
  · refine V_aload_n (pc := 0) d_X0_begin_0 rfl ?_
    refine V_iconst (pc := 1) (0) d_X0_begin_1 (by decide) ?_
    refine P_putI (pc := 2) d_X0_begin_2 f_X0_9 (tt_124 b) ?_
    refine V_aload_n (pc := 5) d_X0_begin_5 rfl ?_
    refine V_aload_n (pc := 6) d_X0_begin_6 rfl ?_
    refine V_aload_n (pc := 7) d_X0_begin_7 rfl ?_
    refine P_getI (pc := 8) d_X0_begin_8 f_X0_19 (tS b (by omega)) ?_
    simp (disch := omega) only [up2_n, up2_e]
    rw [show σ (13 + 2 * k) 1 = 0 from hK]
    refine V_iload_n (pc := 11) d_X0_begin_11 rfl ?_
    refine V_iload_n (pc := 12) d_X0_begin_12 rfl ?_
    refine V_iconst (pc := 13) (0) d_X0_begin_13 (by decide) ?_
    refine V_csI (pc := 14) (n := 4) [_, _, _, _, _, _] d_X0_begin_14 c_X0_24 k_X0_run rfl (Nat.le_of_ble_eq_true rfl) ⟨Nat.le_of_ble_eq_true rfl, Nat.le_of_ble_eq_true rfl⟩ ⟨Nat.le_refl _, Nat.le_refl _⟩ (ct_run_0_0_3 (n := 0) (d := 0) hk (by omega) (by omega) (up2_e ⟨rfl, rfl⟩) ((up2_n (by omega)).trans hN) ((up2_n (by omega)).trans hK) ((up2_n (by omega)).trans hL) ((up2_n (by omega)).trans hD) ?_)
    exact V_retI (pc := 17) d_X0_begin_17 rfl ⟨Nat.le_refl _, Nat.le_refl _⟩ hq
  · refine V_aload_n (pc := 0) d_X0_begin_0 rfl ?_
    refine V_iconst (pc := 1) (0) d_X0_begin_1 (by decide) ?_
    refine P_putI (pc := 2) d_X0_begin_2 f_X0_9 (tt_124 b) ?_
    refine V_aload_n (pc := 5) d_X0_begin_5 rfl ?_
    refine V_aload_n (pc := 6) d_X0_begin_6 rfl ?_
    refine V_aload_n (pc := 7) d_X0_begin_7 rfl ?_
    refine P_getI (pc := 8) d_X0_begin_8 f_X0_19 (tS b (by omega)) ?_
    simp (disch := omega) only [up2_n, up2_e]
    rw [show σ (13 + 2 * k) 1 = 1 from hK]
    refine V_iload_n (pc := 11) d_X0_begin_11 rfl ?_
    refine V_iload_n (pc := 12) d_X0_begin_12 rfl ?_
    refine V_iconst (pc := 13) (0) d_X0_begin_13 (by decide) ?_
    refine V_csI (pc := 14) (n := 3) [_, _, _, _, _, _] d_X0_begin_14 c_X0_24 k_X0_run rfl (Nat.le_of_ble_eq_true rfl) ⟨Nat.le_of_ble_eq_true rfl, Nat.le_of_ble_eq_true rfl⟩ ⟨Nat.le_refl _, Nat.le_refl _⟩ (ct_run_1_1_0 (n := 0) (d := 0) hk (by omega) (by omega) (up2_e ⟨rfl, rfl⟩) ((up2_n (by omega)).trans hN) ((up2_n (by omega)).trans hK) ((up2_n (by omega)).trans hL) ((up2_n (by omega)).trans hD) ?_)
    exact V_retI (pc := 17) d_X0_begin_17 rfl ⟨Nat.le_refl _, Nat.le_refl _⟩ hq
  · refine V_aload_n (pc := 0) d_X0_begin_0 rfl ?_
    refine V_iconst (pc := 1) (0) d_X0_begin_1 (by decide) ?_
    refine P_putI (pc := 2) d_X0_begin_2 f_X0_9 (tt_124 b) ?_
    refine V_aload_n (pc := 5) d_X0_begin_5 rfl ?_
    refine V_aload_n (pc := 6) d_X0_begin_6 rfl ?_
    refine V_aload_n (pc := 7) d_X0_begin_7 rfl ?_
    refine P_getI (pc := 8) d_X0_begin_8 f_X0_19 (tS b (by omega)) ?_
    simp (disch := omega) only [up2_n, up2_e]
    rw [show σ (13 + 2 * k) 1 = 1 from hK]
    refine V_iload_n (pc := 11) d_X0_begin_11 rfl ?_
    refine V_iload_n (pc := 12) d_X0_begin_12 rfl ?_
    refine V_iconst (pc := 13) (0) d_X0_begin_13 (by decide) ?_
    refine V_csI (pc := 14) (n := 4) [_, _, _, _, _, _] d_X0_begin_14 c_X0_24 k_X0_run rfl (Nat.le_of_ble_eq_true rfl) ⟨Nat.le_of_ble_eq_true rfl, Nat.le_of_ble_eq_true rfl⟩ ⟨Nat.le_refl _, Nat.le_refl _⟩ (ct_run_1_1_1 (n := 0) (d := 0) hk (by omega) (by omega) (up2_e ⟨rfl, rfl⟩) ((up2_n (by omega)).trans hN) ((up2_n (by omega)).trans hK) ((up2_n (by omega)).trans hL) ((up2_n (by omega)).trans hD) ?_)
    exact V_retI (pc := 17) d_X0_begin_17 rfl ⟨Nat.le_refl _, Nat.le_refl _⟩ hq
  · refine V_aload_n (pc := 0) d_X0_begin_0 rfl ?_
    refine V_iconst (pc := 1) (0) d_X0_begin_1 (by decide) ?_
    refine P_putI (pc := 2) d_X0_begin_2 f_X0_9 (tt_124 b) ?_
    refine V_aload_n (pc := 5) d_X0_begin_5 rfl ?_
    refine V_aload_n (pc := 6) d_X0_begin_6 rfl ?_
    refine V_aload_n (pc := 7) d_X0_begin_7 rfl ?_
    refine P_getI (pc := 8) d_X0_begin_8 f_X0_19 (tS b (by omega)) ?_
    simp (disch := omega) only [up2_n, up2_e]
    rw [show σ (13 + 2 * k) 1 = 1 from hK]
    refine V_iload_n (pc := 11) d_X0_begin_11 rfl ?_
    refine V_iload_n (pc := 12) d_X0_begin_12 rfl ?_
    refine V_iconst (pc := 13) (0) d_X0_begin_13 (by decide) ?_
    refine V_csI (pc := 14) (n := 2) [_, _, _, _, _, _] d_X0_begin_14 c_X0_24 k_X0_run rfl (Nat.le_of_ble_eq_true rfl) ⟨Nat.le_of_ble_eq_true rfl, Nat.le_of_ble_eq_true rfl⟩ ⟨Nat.le_refl _, Nat.le_refl _⟩ (ct_run_1_1_2 (n := 0) (d := 0) hk (by omega) (by omega) (up2_e ⟨rfl, rfl⟩) ((up2_n (by omega)).trans hN) ((up2_n (by omega)).trans hK) ((up2_n (by omega)).trans hL) ((up2_n (by omega)).trans hD) ?_)
    exact V_retI (pc := 17) d_X0_begin_17 rfl ⟨Nat.le_refl _, Nat.le_refl _⟩ hq
  · refine V_aload_n (pc := 0) d_X0_begin_0 rfl ?_
    refine V_iconst (pc := 1) (0) d_X0_begin_1 (by decide) ?_
    refine P_putI (pc := 2) d_X0_begin_2 f_X0_9 (tt_124 b) ?_
    refine V_aload_n (pc := 5) d_X0_begin_5 rfl ?_
    refine V_aload_n (pc := 6) d_X0_begin_6 rfl ?_
    refine V_aload_n (pc := 7) d_X0_begin_7 rfl ?_
    refine P_getI (pc := 8) d_X0_begin_8 f_X0_19 (tS b (by omega)) ?_
    simp (disch := omega) only [up2_n, up2_e]
    rw [show σ (13 + 2 * k) 1 = 1 from hK]
    refine V_iload_n (pc := 11) d_X0_begin_11 rfl ?_
    refine V_iload_n (pc := 12) d_X0_begin_12 rfl ?_
    refine V_iconst (pc := 13) (0) d_X0_begin_13 (by decide) ?_
    refine V_csI (pc := 14) (n := 6) [_, _, _, _, _, _] d_X0_begin_14 c_X0_24 k_X0_run rfl (Nat.le_of_ble_eq_true rfl) ⟨Nat.le_of_ble_eq_true rfl, Nat.le_of_ble_eq_true rfl⟩ ⟨Nat.le_refl _, Nat.le_refl _⟩ (ct_run_1_1_3 (n := 0) (d := 0) hk (by omega) (by omega) (up2_e ⟨rfl, rfl⟩) ((up2_n (by omega)).trans hN) ((up2_n (by omega)).trans hK) ((up2_n (by omega)).trans hL) ((up2_n (by omega)).trans hD) ?_)
    exact V_retI (pc := 17) d_X0_begin_17 rfl ⟨Nat.le_refl _, Nat.le_refl _⟩ hq
  · refine V_aload_n (pc := 0) d_X0_begin_0 rfl ?_
    refine V_iconst (pc := 1) (0) d_X0_begin_1 (by decide) ?_
    refine P_putI (pc := 2) d_X0_begin_2 f_X0_9 (tt_124 b) ?_
    refine V_aload_n (pc := 5) d_X0_begin_5 rfl ?_
    refine V_aload_n (pc := 6) d_X0_begin_6 rfl ?_
    refine V_aload_n (pc := 7) d_X0_begin_7 rfl ?_
    refine P_getI (pc := 8) d_X0_begin_8 f_X0_19 (tS b (by omega)) ?_
    simp (disch := omega) only [up2_n, up2_e]
    rw [show σ (13 + 2 * k) 1 = (nI 2) from hK]
    refine V_iload_n (pc := 11) d_X0_begin_11 rfl ?_
    refine V_iload_n (pc := 12) d_X0_begin_12 rfl ?_
    refine V_iconst (pc := 13) (0) d_X0_begin_13 (by decide) ?_
    refine V_csI (pc := 14) (n := 2) [_, _, _, _, _, _] d_X0_begin_14 c_X0_24 k_X0_run rfl (Nat.le_of_ble_eq_true rfl) ⟨Nat.le_of_ble_eq_true rfl, Nat.le_of_ble_eq_true rfl⟩ ⟨Nat.le_refl _, Nat.le_refl _⟩ (ct_run_2_2_0 (n := 0) (d := 0) hk (by omega) (by omega) (up2_e ⟨rfl, rfl⟩) ((up2_n (by omega)).trans hN) ((up2_n (by omega)).trans hK) ((up2_n (by omega)).trans hL) ((up2_n (by omega)).trans hD) ?_)
    exact V_retI (pc := 17) d_X0_begin_17 rfl ⟨Nat.le_refl _, Nat.le_refl _⟩ hq
  · refine V_aload_n (pc := 0) d_X0_begin_0 rfl ?_
    refine V_iconst (pc := 1) (0) d_X0_begin_1 (by decide) ?_
    refine P_putI (pc := 2) d_X0_begin_2 f_X0_9 (tt_124 b) ?_
    refine V_aload_n (pc := 5) d_X0_begin_5 rfl ?_
    refine V_aload_n (pc := 6) d_X0_begin_6 rfl ?_
    refine V_aload_n (pc := 7) d_X0_begin_7 rfl ?_
    refine P_getI (pc := 8) d_X0_begin_8 f_X0_19 (tS b (by omega)) ?_
    simp (disch := omega) only [up2_n, up2_e]
    rw [show σ (13 + 2 * k) 1 = (nI 2) from hK]
    refine V_iload_n (pc := 11) d_X0_begin_11 rfl ?_
    refine V_iload_n (pc := 12) d_X0_begin_12 rfl ?_
    refine V_iconst (pc := 13) (0) d_X0_begin_13 (by decide) ?_
    refine V_csI (pc := 14) (n := 4) [_, _, _, _, _, _] d_X0_begin_14 c_X0_24 k_X0_run rfl (Nat.le_of_ble_eq_true rfl) ⟨Nat.le_of_ble_eq_true rfl, Nat.le_of_ble_eq_true rfl⟩ ⟨Nat.le_refl _, Nat.le_refl _⟩ (ct_run_2_2_1 (n := 0) (d := 0) hk (by omega) (by omega) (up2_e ⟨rfl, rfl⟩) ((up2_n (by omega)).trans hN) ((up2_n (by omega)).trans hK) ((up2_n (by omega)).trans hL) ((up2_n (by omega)).trans hD) ?_)
    exact V_retI (pc := 17) d_X0_begin_17 rfl ⟨Nat.le_refl _, Nat.le_refl _⟩ hq
  · refine V_aload_n (pc := 0) d_X0_begin_0 rfl ?_
    refine V_iconst (pc := 1) (0) d_X0_begin_1 (by decide) ?_
    refine P_putI (pc := 2) d_X0_begin_2 f_X0_9 (tt_124 b) ?_
    refine V_aload_n (pc := 5) d_X0_begin_5 rfl ?_
    refine V_aload_n (pc := 6) d_X0_begin_6 rfl ?_
    refine V_aload_n (pc := 7) d_X0_begin_7 rfl ?_
    refine P_getI (pc := 8) d_X0_begin_8 f_X0_19 (tS b (by omega)) ?_
    simp (disch := omega) only [up2_n, up2_e]
    rw [show σ (13 + 2 * k) 1 = (nI 2) from hK]
    refine V_iload_n (pc := 11) d_X0_begin_11 rfl ?_
    refine V_iload_n (pc := 12) d_X0_begin_12 rfl ?_
    refine V_iconst (pc := 13) (0) d_X0_begin_13 (by decide) ?_
    refine V_csI (pc := 14) (n := 2) [_, _, _, _, _, _] d_X0_begin_14 c_X0_24 k_X0_run rfl (Nat.le_of_ble_eq_true rfl) ⟨Nat.le_of_ble_eq_true rfl, Nat.le_of_ble_eq_true rfl⟩ ⟨Nat.le_refl _, Nat.le_refl _⟩ (ct_run_2_2_2 (n := 0) (d := 0) hk (by omega) (by omega) (up2_e ⟨rfl, rfl⟩) ((up2_n (by omega)).trans hN) ((up2_n (by omega)).trans hK) ((up2_n (by omega)).trans hL) ((up2_n (by omega)).trans hD) ?_)
    exact V_retI (pc := 17) d_X0_begin_17 rfl ⟨Nat.le_refl _, Nat.le_refl _⟩ hq
  · refine V_aload_n (pc := 0) d_X0_begin_0 rfl ?_
    refine V_iconst (pc := 1) (0) d_X0_begin_1 (by decide) ?_
    refine P_putI (pc := 2) d_X0_begin_2 f_X0_9 (tt_124 b) ?_
    refine V_aload_n (pc := 5) d_X0_begin_5 rfl ?_
    refine V_aload_n (pc := 6) d_X0_begin_6 rfl ?_
    refine V_aload_n (pc := 7) d_X0_begin_7 rfl ?_
    refine P_getI (pc := 8) d_X0_begin_8 f_X0_19 (tS b (by omega)) ?_
    simp (disch := omega) only [up2_n, up2_e]
    rw [show σ (13 + 2 * k) 1 = (nI 2) from hK]
    refine V_iload_n (pc := 11) d_X0_begin_11 rfl ?_
    refine V_iload_n (pc := 12) d_X0_begin_12 rfl ?_
    refine V_iconst (pc := 13) (0) d_X0_begin_13 (by decide) ?_
    refine V_csI (pc := 14) (n := 5) [_, _, _, _, _, _] d_X0_begin_14 c_X0_24 k_X0_run rfl (Nat.le_of_ble_eq_true rfl) ⟨Nat.le_of_ble_eq_true rfl, Nat.le_of_ble_eq_true rfl⟩ ⟨Nat.le_refl _, Nat.le_refl _⟩ (ct_run_2_2_3 (n := 0) (d := 0) hk (by omega) (by omega) (up2_e ⟨rfl, rfl⟩) ((up2_n (by omega)).trans hN) ((up2_n (by omega)).trans hK) ((up2_n (by omega)).trans hL) ((up2_n (by omega)).trans hD) ?_)
    exact V_retI (pc := 17) d_X0_begin_17 rfl ⟨Nat.le_refl _, Nat.le_refl _⟩ hq
  · refine V_aload_n (pc := 0) d_X0_begin_0 rfl ?_
    refine V_iconst (pc := 1) (0) d_X0_begin_1 (by decide) ?_
    refine P_putI (pc := 2) d_X0_begin_2 f_X0_9 (tt_124 b) ?_
    refine V_aload_n (pc := 5) d_X0_begin_5 rfl ?_
    refine V_aload_n (pc := 6) d_X0_begin_6 rfl ?_
    refine V_aload_n (pc := 7) d_X0_begin_7 rfl ?_
    refine P_getI (pc := 8) d_X0_begin_8 f_X0_19 (tS b (by omega)) ?_
    simp (disch := omega) only [up2_n, up2_e]
    rw [show σ (13 + 2 * k) 1 = (nI 3) from hK]
    refine V_iload_n (pc := 11) d_X0_begin_11 rfl ?_
    refine V_iload_n (pc := 12) d_X0_begin_12 rfl ?_
    refine V_iconst (pc := 13) (0) d_X0_begin_13 (by decide) ?_
    refine V_csI (pc := 14) (n := 4) [_, _, _, _, _, _] d_X0_begin_14 c_X0_24 k_X0_run rfl (Nat.le_of_ble_eq_true rfl) ⟨Nat.le_of_ble_eq_true rfl, Nat.le_of_ble_eq_true rfl⟩ ⟨Nat.le_refl _, Nat.le_refl _⟩ (ct_run_3_3_0 (n := 0) (d := 0) hk (by omega) (by omega) (up2_e ⟨rfl, rfl⟩) ((up2_n (by omega)).trans hN) ((up2_n (by omega)).trans hK) ((up2_n (by omega)).trans hL) ((up2_n (by omega)).trans hD) ?_)
    exact V_retI (pc := 17) d_X0_begin_17 rfl ⟨Nat.le_refl _, Nat.le_refl _⟩ hq
  · refine V_aload_n (pc := 0) d_X0_begin_0 rfl ?_
    refine V_iconst (pc := 1) (0) d_X0_begin_1 (by decide) ?_
    refine P_putI (pc := 2) d_X0_begin_2 f_X0_9 (tt_124 b) ?_
    refine V_aload_n (pc := 5) d_X0_begin_5 rfl ?_
    refine V_aload_n (pc := 6) d_X0_begin_6 rfl ?_
    refine V_aload_n (pc := 7) d_X0_begin_7 rfl ?_
    refine P_getI (pc := 8) d_X0_begin_8 f_X0_19 (tS b (by omega)) ?_
    simp (disch := omega) only [up2_n, up2_e]
    rw [show σ (13 + 2 * k) 1 = (nI 3) from hK]
    refine V_iload_n (pc := 11) d_X0_begin_11 rfl ?_
    refine V_iload_n (pc := 12) d_X0_begin_12 rfl ?_
    refine V_iconst (pc := 13) (0) d_X0_begin_13 (by decide) ?_
    refine V_csI (pc := 14) (n := 5) [_, _, _, _, _, _] d_X0_begin_14 c_X0_24 k_X0_run rfl (Nat.le_of_ble_eq_true rfl) ⟨Nat.le_of_ble_eq_true rfl, Nat.le_of_ble_eq_true rfl⟩ ⟨Nat.le_refl _, Nat.le_refl _⟩ (ct_run_3_3_1 (n := 0) (d := 0) hk (by omega) (by omega) (up2_e ⟨rfl, rfl⟩) ((up2_n (by omega)).trans hN) ((up2_n (by omega)).trans hK) ((up2_n (by omega)).trans hL) ((up2_n (by omega)).trans hD) ?_)
    exact V_retI (pc := 17) d_X0_begin_17 rfl ⟨Nat.le_refl _, Nat.le_refl _⟩ hq
  · refine V_aload_n (pc := 0) d_X0_begin_0 rfl ?_
    refine V_iconst (pc := 1) (0) d_X0_begin_1 (by decide) ?_
    refine P_putI (pc := 2) d_X0_begin_2 f_X0_9 (tt_124 b) ?_
    refine V_aload_n (pc := 5) d_X0_begin_5 rfl ?_
    refine V_aload_n (pc := 6) d_X0_begin_6 rfl ?_
    refine V_aload_n (pc := 7) d_X0_begin_7 rfl ?_
    refine P_getI (pc := 8) d_X0_begin_8 f_X0_19 (tS b (by omega)) ?_
    simp (disch := omega) only [up2_n, up2_e]
    rw [show σ (13 + 2 * k) 1 = (nI 3) from hK]
    refine V_iload_n (pc := 11) d_X0_begin_11 rfl ?_
    refine V_iload_n (pc := 12) d_X0_begin_12 rfl ?_
    refine V_iconst (pc := 13) (0) d_X0_begin_13 (by decide) ?_
    refine V_csI (pc := 14) (n := 3) [_, _, _, _, _, _] d_X0_begin_14 c_X0_24 k_X0_run rfl (Nat.le_of_ble_eq_true rfl) ⟨Nat.le_of_ble_eq_true rfl, Nat.le_of_ble_eq_true rfl⟩ ⟨Nat.le_refl _, Nat.le_refl _⟩ (ct_run_3_3_2 (n := 0) (d := 0) hk (by omega) (by omega) (up2_e ⟨rfl, rfl⟩) ((up2_n (by omega)).trans hN) ((up2_n (by omega)).trans hK) ((up2_n (by omega)).trans hL) ((up2_n (by omega)).trans hD) ?_)
    exact V_retI (pc := 17) d_X0_begin_17 rfl ⟨Nat.le_refl _, Nat.le_refl _⟩ hq
  · refine V_aload_n (pc := 0) d_X0_begin_0 rfl ?_
    refine V_iconst (pc := 1) (0) d_X0_begin_1 (by decide) ?_
    refine P_putI (pc := 2) d_X0_begin_2 f_X0_9 (tt_124 b) ?_
    refine V_aload_n (pc := 5) d_X0_begin_5 rfl ?_
    refine V_aload_n (pc := 6) d_X0_begin_6 rfl ?_
    refine V_aload_n (pc := 7) d_X0_begin_7 rfl ?_
    refine P_getI (pc := 8) d_X0_begin_8 f_X0_19 (tS b (by omega)) ?_
    simp (disch := omega) only [up2_n, up2_e]
    rw [show σ (13 + 2 * k) 1 = (nI 3) from hK]
    refine V_iload_n (pc := 11) d_X0_begin_11 rfl ?_
    refine V_iload_n (pc := 12) d_X0_begin_12 rfl ?_
    refine V_iconst (pc := 13) (0) d_X0_begin_13 (by decide) ?_
    refine V_csI (pc := 14) (n := 7) [_, _, _, _, _, _] d_X0_begin_14 c_X0_24 k_X0_run rfl (Nat.le_of_ble_eq_true rfl) ⟨Nat.le_of_ble_eq_true rfl, Nat.le_of_ble_eq_true rfl⟩ ⟨Nat.le_refl _, Nat.le_refl _⟩ (ct_run_3_3_3 (n := 0) (d := 0) hk (by omega) (by omega) (up2_e ⟨rfl, rfl⟩) ((up2_n (by omega)).trans hN) ((up2_n (by omega)).trans hK) ((up2_n (by omega)).trans hL) ((up2_n (by omega)).trans hD) ?_)
    exact V_retI (pc := 17) d_X0_begin_17 rfl ⟨Nat.le_refl _, Nat.le_refl _⟩ hq
  · refine V_aload_n (pc := 0) d_X0_begin_0 rfl ?_
    refine V_iconst (pc := 1) (0) d_X0_begin_1 (by decide) ?_
    refine P_putI (pc := 2) d_X0_begin_2 f_X0_9 (tt_124 b) ?_
    refine V_aload_n (pc := 5) d_X0_begin_5 rfl ?_
    refine V_aload_n (pc := 6) d_X0_begin_6 rfl ?_
    refine V_aload_n (pc := 7) d_X0_begin_7 rfl ?_
    refine P_getI (pc := 8) d_X0_begin_8 f_X0_19 (tS b (by omega)) ?_
    simp (disch := omega) only [up2_n, up2_e]
    rw [show σ (13 + 2 * k) 1 = (nI 4) from hK]
    refine V_iload_n (pc := 11) d_X0_begin_11 rfl ?_
    refine V_iload_n (pc := 12) d_X0_begin_12 rfl ?_
    refine V_iconst (pc := 13) (0) d_X0_begin_13 (by decide) ?_
    refine V_csI (pc := 14) (n := 2) [_, _, _, _, _, _] d_X0_begin_14 c_X0_24 k_X0_run rfl (Nat.le_of_ble_eq_true rfl) ⟨Nat.le_of_ble_eq_true rfl, Nat.le_of_ble_eq_true rfl⟩ ⟨Nat.le_refl _, Nat.le_refl _⟩ (ct_run_4_4_0 (n := 0) (d := 0) hk (by omega) (by omega) (up2_e ⟨rfl, rfl⟩) ((up2_n (by omega)).trans hN) ((up2_n (by omega)).trans hK) ((up2_n (by omega)).trans hL) ((up2_n (by omega)).trans hD) ?_)
    exact V_retI (pc := 17) d_X0_begin_17 rfl ⟨Nat.le_refl _, Nat.le_refl _⟩ hq
  · refine V_aload_n (pc := 0) d_X0_begin_0 rfl ?_
    refine V_iconst (pc := 1) (0) d_X0_begin_1 (by decide) ?_
    refine P_putI (pc := 2) d_X0_begin_2 f_X0_9 (tt_124 b) ?_
    refine V_aload_n (pc := 5) d_X0_begin_5 rfl ?_
    refine V_aload_n (pc := 6) d_X0_begin_6 rfl ?_
    refine V_aload_n (pc := 7) d_X0_begin_7 rfl ?_
    refine P_getI (pc := 8) d_X0_begin_8 f_X0_19 (tS b (by omega)) ?_
    simp (disch := omega) only [up2_n, up2_e]
    rw [show σ (13 + 2 * k) 1 = (nI 4) from hK]
    refine V_iload_n (pc := 11) d_X0_begin_11 rfl ?_
    refine V_iload_n (pc := 12) d_X0_begin_12 rfl ?_
    refine V_iconst (pc := 13) (0) d_X0_begin_13 (by decide) ?_
    refine V_csI (pc := 14) (n := 4) [_, _, _, _, _, _] d_X0_begin_14 c_X0_24 k_X0_run rfl (Nat.le_of_ble_eq_true rfl) ⟨Nat.le_of_ble_eq_true rfl, Nat.le_of_ble_eq_true rfl⟩ ⟨Nat.le_refl _, Nat.le_refl _⟩ (ct_run_4_4_1 (n := 0) (d := 0) hk (by omega) (by omega) (up2_e ⟨rfl, rfl⟩) ((up2_n (by omega)).trans hN) ((up2_n (by omega)).trans hK) ((up2_n (by omega)).trans hL) ((up2_n (by omega)).trans hD) ?_)
    exact V_retI (pc := 17) d_X0_begin_17 rfl ⟨Nat.le_refl _, Nat.le_refl _⟩ hq
  · refine V_aload_n (pc := 0) d_X0_begin_0 rfl ?_
    refine V_iconst (pc := 1) (0) d_X0_begin_1 (by decide) ?_
    refine P_putI (pc := 2) d_X0_begin_2 f_X0_9 (tt_124 b) ?_
    refine V_aload_n (pc := 5) d_X0_begin_5 rfl ?_
    refine V_aload_n (pc := 6) d_X0_begin_6 rfl ?_
    refine V_aload_n (pc := 7) d_X0_begin_7 rfl ?_
    refine P_getI (pc := 8) d_X0_begin_8 f_X0_19 (tS b (by omega)) ?_
    simp (disch := omega) only [up2_n, up2_e]
    rw [show σ (13 + 2 * k) 1 = (nI 4) from hK]
    refine V_iload_n (pc := 11) d_X0_begin_11 rfl ?_
    refine V_iload_n (pc := 12) d_X0_begin_12 rfl ?_
    refine V_iconst (pc := 13) (0) d_X0_begin_13 (by decide) ?_
    refine V_csI (pc := 14) (n := 3) [_, _, _, _, _, _] d_X0_begin_14 c_X0_24 k_X0_run rfl (Nat.le_of_ble_eq_true rfl) ⟨Nat.le_of_ble_eq_true rfl, Nat.le_of_ble_eq_true rfl⟩ ⟨Nat.le_refl _, Nat.le_refl _⟩ (ct_run_4_4_2 (n := 0) (d := 0) hk (by omega) (by omega) (up2_e ⟨rfl, rfl⟩) ((up2_n (by omega)).trans hN) ((up2_n (by omega)).trans hK) ((up2_n (by omega)).trans hL) ((up2_n (by omega)).trans hD) ?_)
    exact V_retI (pc := 17) d_X0_begin_17 rfl ⟨Nat.le_refl _, Nat.le_refl _⟩ hq
  · refine V_aload_n (pc := 0) d_X0_begin_0 rfl ?_
    refine V_iconst (pc := 1) (0) d_X0_begin_1 (by decide) ?_
    refine P_putI (pc := 2) d_X0_begin_2 f_X0_9 (tt_124 b) ?_
    refine V_aload_n (pc := 5) d_X0_begin_5 rfl ?_
    refine V_aload_n (pc := 6) d_X0_begin_6 rfl ?_
    refine V_aload_n (pc := 7) d_X0_begin_7 rfl ?_
    refine P_getI (pc := 8) d_X0_begin_8 f_X0_19 (tS b (by omega)) ?_
    simp (disch := omega) only [up2_n, up2_e]
    rw [show σ (13 + 2 * k) 1 = (nI 4) from hK]
    refine V_iload_n (pc := 11) d_X0_begin_11 rfl ?_
    refine V_iload_n (pc := 12) d_X0_begin_12 rfl ?_
    refine V_iconst (pc := 13) (0) d_X0_begin_13 (by decide) ?_
    refine V_csI (pc := 14) (n := 5) [_, _, _, _, _, _] d_X0_begin_14 c_X0_24 k_X0_run rfl (Nat.le_of_ble_eq_true rfl) ⟨Nat.le_of_ble_eq_true rfl, Nat.le_of_ble_eq_true rfl⟩ ⟨Nat.le_refl _, Nat.le_refl _⟩ (ct_run_4_4_3 (n := 0) (d := 0) hk (by omega) (by omega) (up2_e ⟨rfl, rfl⟩) ((up2_n (by omega)).trans hN) ((up2_n (by omega)).trans hK) ((up2_n (by omega)).trans hL) ((up2_n (by omega)).trans hD) ?_)
    exact V_retI (pc := 17) d_X0_begin_17 rfl ⟨Nat.le_refl _, Nat.le_refl _⟩ hq
  · refine V_aload_n (pc := 0) d_X0_begin_0 rfl ?_
    refine V_iconst (pc := 1) (0) d_X0_begin_1 (by decide) ?_
    refine P_putI (pc := 2) d_X0_begin_2 f_X0_9 (tt_124 b) ?_
    refine V_aload_n (pc := 5) d_X0_begin_5 rfl ?_
    refine V_aload_n (pc := 6) d_X0_begin_6 rfl ?_
    refine V_aload_n (pc := 7) d_X0_begin_7 rfl ?_
    refine P_getI (pc := 8) d_X0_begin_8 f_X0_19 (tS b (by omega)) ?_
    simp (disch := omega) only [up2_n, up2_e]
    rw [show σ (13 + 2 * k) 1 = (nI 5) from hK]
    refine V_iload_n (pc := 11) d_X0_begin_11 rfl ?_
    refine V_iload_n (pc := 12) d_X0_begin_12 rfl ?_
    refine V_iconst (pc := 13) (0) d_X0_begin_13 (by decide) ?_
    refine V_csI (pc := 14) (n := 2) [_, _, _, _, _, _] d_X0_begin_14 c_X0_24 k_X0_run rfl (Nat.le_of_ble_eq_true rfl) ⟨Nat.le_of_ble_eq_true rfl, Nat.le_of_ble_eq_true rfl⟩ ⟨Nat.le_refl _, Nat.le_refl _⟩ (ct_run_5_5_0 (n := 0) (d := 0) hk (by omega) (by omega) (up2_e ⟨rfl, rfl⟩) ((up2_n (by omega)).trans hN) ((up2_n (by omega)).trans hK) ((up2_n (by omega)).trans hL) ((up2_n (by omega)).trans hD) ?_)
    exact V_retI (pc := 17) d_X0_begin_17 rfl ⟨Nat.le_refl _, Nat.le_refl _⟩ hq
  · refine V_aload_n (pc := 0) d_X0_begin_0 rfl ?_
    refine V_iconst (pc := 1) (0) d_X0_begin_1 (by decide) ?_
    refine P_putI (pc := 2) d_X0_begin_2 f_X0_9 (tt_124 b) ?_
    refine V_aload_n (pc := 5) d_X0_begin_5 rfl ?_
    refine V_aload_n (pc := 6) d_X0_begin_6 rfl ?_
    refine V_aload_n (pc := 7) d_X0_begin_7 rfl ?_
    refine P_getI (pc := 8) d_X0_begin_8 f_X0_19 (tS b (by omega)) ?_
    simp (disch := omega) only [up2_n, up2_e]
    rw [show σ (13 + 2 * k) 1 = (nI 5) from hK]
    refine V_iload_n (pc := 11) d_X0_begin_11 rfl ?_
    refine V_iload_n (pc := 12) d_X0_begin_12 rfl ?_
    refine V_iconst (pc := 13) (0) d_X0_begin_13 (by decide) ?_
    refine V_csI (pc := 14) (n := 3) [_, _, _, _, _, _] d_X0_begin_14 c_X0_24 k_X0_run rfl (Nat.le_of_ble_eq_true rfl) ⟨Nat.le_of_ble_eq_true rfl, Nat.le_of_ble_eq_true rfl⟩ ⟨Nat.le_refl _, Nat.le_refl _⟩ (ct_run_5_5_1 (n := 0) (d := 0) hk (by omega) (by omega) (up2_e ⟨rfl, rfl⟩) ((up2_n (by omega)).trans hN) ((up2_n (by omega)).trans hK) ((up2_n (by omega)).trans hL) ((up2_n (by omega)).trans hD) ?_)
    exact V_retI (pc := 17) d_X0_begin_17 rfl ⟨Nat.le_refl _, Nat.le_refl _⟩ hq
  · refine V_aload_n (pc := 0) d_X0_begin_0 rfl ?_
    refine V_iconst (pc := 1) (0) d_X0_begin_1 (by decide) ?_
    refine P_putI (pc := 2) d_X0_begin_2 f_X0_9 (tt_124 b) ?_
    refine V_aload_n (pc := 5) d_X0_begin_5 rfl ?_
    refine V_aload_n (pc := 6) d_X0_begin_6 rfl ?_
    refine V_aload_n (pc := 7) d_X0_begin_7 rfl ?_
    refine P_getI (pc := 8) d_X0_begin_8 f_X0_19 (tS b (by omega)) ?_
    simp (disch := omega) only [up2_n, up2_e]
    rw [show σ (13 + 2 * k) 1 = (nI 5) from hK]
    refine V_iload_n (pc := 11) d_X0_begin_11 rfl ?_
    refine V_iload_n (pc := 12) d_X0_begin_12 rfl ?_
    refine V_iconst (pc := 13) (0) d_X0_begin_13 (by decide) ?_
    refine V_csI (pc := 14) (n := 2) [_, _, _, _, _, _] d_X0_begin_14 c_X0_24 k_X0_run rfl (Nat.le_of_ble_eq_true rfl) ⟨Nat.le_of_ble_eq_true rfl, Nat.le_of_ble_eq_true rfl⟩ ⟨Nat.le_refl _, Nat.le_refl _⟩ (ct_run_5_5_2 (n := 0) (d := 0) hk (by omega) (by omega) (up2_e ⟨rfl, rfl⟩) ((up2_n (by omega)).trans hN) ((up2_n (by omega)).trans hK) ((up2_n (by omega)).trans hL) ((up2_n (by omega)).trans hD) ?_)
    exact V_retI (pc := 17) d_X0_begin_17 rfl ⟨Nat.le_refl _, Nat.le_refl _⟩ hq
  · refine V_aload_n (pc := 0) d_X0_begin_0 rfl ?_
    refine V_iconst (pc := 1) (0) d_X0_begin_1 (by decide) ?_
    refine P_putI (pc := 2) d_X0_begin_2 f_X0_9 (tt_124 b) ?_
    refine V_aload_n (pc := 5) d_X0_begin_5 rfl ?_
    refine V_aload_n (pc := 6) d_X0_begin_6 rfl ?_
    refine V_aload_n (pc := 7) d_X0_begin_7 rfl ?_
    refine P_getI (pc := 8) d_X0_begin_8 f_X0_19 (tS b (by omega)) ?_
    simp (disch := omega) only [up2_n, up2_e]
    rw [show σ (13 + 2 * k) 1 = (nI 5) from hK]
    refine V_iload_n (pc := 11) d_X0_begin_11 rfl ?_
    refine V_iload_n (pc := 12) d_X0_begin_12 rfl ?_
    refine V_iconst (pc := 13) (0) d_X0_begin_13 (by decide) ?_
    refine V_csI (pc := 14) (n := 5) [_, _, _, _, _, _] d_X0_begin_14 c_X0_24 k_X0_run rfl (Nat.le_of_ble_eq_true rfl) ⟨Nat.le_of_ble_eq_true rfl, Nat.le_of_ble_eq_true rfl⟩ ⟨Nat.le_refl _, Nat.le_refl _⟩ (ct_run_5_5_3 (n := 0) (d := 0) hk (by omega) (by omega) (up2_e ⟨rfl, rfl⟩) ((up2_n (by omega)).trans hN) ((up2_n (by omega)).trans hK) ((up2_n (by omega)).trans hL) ((up2_n (by omega)).trans hD) ?_)
    exact V_retI (pc := 17) d_X0_begin_17 rfl ⟨Nat.le_refl _, Nat.le_refl _⟩ hq
theorem ct_X11_act {x y z : Int32} {q ns nb nl nt nr : Nat} (hR : RR σ 4 σ q ns nb nl nt nr) (h1 : ¬ (∃ k a : Nat, k < ns ∧ a < 4 ∧ x = nI k ∧ y = nI a) → K (-1) (up2 σ 3 3 1, sh b)) (h2 : ∀ k a kk : Nat, k < ns → a < 4 → kk < 6 → x = nI k → y = nI a → σ 140 k = nI kk → K (acV kk a k z (σ 141 k) (σ 142 k)) (up2 (ntC (up2 σ 124 0 0) 0 (acE kk a)) 3 3 0, sh b)) : CM G mX11_act (rl 42) [.ref 3, .int x, .int y, .int z] (σ, sh b) (QI K) := by
  obtain ⟨⟨⟨hq2, hn10, hnb, hnl, hnt, hnr⟩, ⟨vq, vns, vnb, vnl, vnt, vnr⟩, ⟨rq, rns, rnb, rnl, rnt, rnr⟩, hpd⟩, hH, hC, hS, hLD, hB, hA, hT, hU⟩ := id hR
  refine CM.of (by decide) (Nat.le_of_ble_eq_true rfl) (cats1 rfl) ?_
  refine V_aload_n (pc := 0) d_X11_act_0 rfl ?_
  refine P_getR (pc := 1) d_X11_act_1 f_X11_10 (tt_3 b) (rr_3_0 b) ?_
  refine V_iload_n (pc := 4) d_X11_act_4 rfl ?_
  refine V_cvI (pc := 5) (n := 2) (c := 4) [_] d_X11_act_5 c_X11_86 k_X4_isStretch ⟨rfl, rfl⟩ (tt_4 b) rfl (Nat.le_of_ble_eq_true rfl) ⟨Nat.le_of_ble_eq_true rfl, Nat.le_of_ble_eq_true rfl⟩ ⟨Nat.le_refl _, Nat.le_refl _⟩ (ct_X4_isStretch rns (by omega) ?_)
  refine V_if_eq (pc := 8) 20 d_X11_act_8 (by decide) (fun c8 => ?_) (fun c8 => ?_)
  · replace c8 := zf c8
    refine V_aload_n (pc := 20) d_X11_act_20 rfl ?_
    refine V_iconst (pc := 21) (1) d_X11_act_21 (by decide) ?_
    refine V_cvI (pc := 22) (n := 1) (c := 11) [_] d_X11_act_22 c_X11_55 k_X11_refused ⟨rfl, rfl⟩ (tt_3 b) rfl (Nat.le_of_ble_eq_true rfl) ⟨Nat.le_of_ble_eq_true rfl, Nat.le_of_ble_eq_true rfl⟩ ⟨Nat.le_refl _, Nat.le_refl _⟩ (ct_X11_refused ?_)
    exact V_retI (pc := 25) d_X11_act_25 rfl ⟨Nat.le_refl _, Nat.le_refl _⟩ (h1 (by
            rintro ⟨k, a, g1, g2, g3, g4⟩
            try subst g3
            try subst g4
            simp (disch := omega) only [nI_toInt, nI_eq] at *
            omega))
  · replace c8 := zt c8
    refine V_iload_n (pc := 11) d_X11_act_11 rfl ?_
    refine V_iconst (pc := 12) (0) d_X11_act_12 (by decide) ?_
    refine V_iconst (pc := 13) (nI 3) d_X11_act_13 (by decide) ?_
    refine V_csI (pc := 14) (n := 1) [_, _, _] d_X11_act_14 c_X11_51 k_X11_isWithin rfl (Nat.le_of_ble_eq_true rfl) ⟨Nat.le_of_ble_eq_true rfl, Nat.le_of_ble_eq_true rfl⟩ ⟨Nat.le_refl _, Nat.le_refl _⟩ (ct_X11_isWithin (lo := 0) (hi := 3) (by decide) (by decide) ?_)
    refine V_if_ne (pc := 17) 26 d_X11_act_17 (by decide) (fun c17 => ?_) (fun c17 => ?_)
    · replace c17 := zt c17
      obtain ⟨k, hk, rfl, -⟩ := nat_of (n := ns) (x := x) (by omega) (by omega) (by omega)
      obtain ⟨a, ha, rfl, -⟩ := nat_of (n := 4) (x := y) (by omega) (by omega) (by omega)
      obtain ⟨kk, hkk, ekk⟩ : rg (σ 140 k) 6 := (hS k hk).2.1
      refine V_aload_n (pc := 26) d_X11_act_26 rfl ?_
      refine V_aload_n (pc := 27) d_X11_act_27 rfl ?_
      refine P_getR (pc := 28) d_X11_act_28 f_X11_35 (tt_3 b) (rr_3_5 b) ?_
      refine V_aload_n (pc := 31) d_X11_act_31 rfl ?_
      refine P_getR (pc := 32) d_X11_act_32 f_X11_10 (tt_3 b) (rr_3_0 b) ?_
      refine P_getR (pc := 35) d_X11_act_35 f_X11_62 (tt_4 b) (rr_4_10 b) ?_
      refine V_iload_n (pc := 38) d_X11_act_38 rfl ?_
      refine P_aald (pc := 39) (c := 7) (k) d_X11_act_39 (tt_7 b) (by decide) rfl (ln_of (ll_7 b) ⟨by omega, by decide⟩) (rS b (by omega)) ?_
      refine V_iload_n (pc := 40) d_X11_act_40 rfl ?_
      refine V_iload_n (pc := 41) d_X11_act_41 rfl ?_
      refine V_cvI (pc := 42) (n := 41) (c := 0) [_, _, _] d_X11_act_42 c_X11_319 k_X0_begin ⟨rfl, rfl⟩ (tt_124 b) rfl (Nat.le_of_ble_eq_true rfl) ⟨Nat.le_of_ble_eq_true rfl, Nat.le_of_ble_eq_true rfl⟩ ⟨Nat.le_refl _, Nat.le_refl _⟩ (ct_X0_begin (by omega) hkk ha (cS_f hS hk).1 ((cS_f hS hk).2.1.trans ekk) (cS_f hS hk).2.2.1 (cS_f hS hk).2.2.2.1 ?_)
      refine V_cvI (pc := 45) (n := 1) (c := 11) [_] d_X11_act_45 c_X11_72 k_X11_done ⟨rfl, rfl⟩ (tt_3 b) rfl (Nat.le_of_ble_eq_true rfl) ⟨Nat.le_of_ble_eq_true rfl, Nat.le_of_ble_eq_true rfl⟩ ⟨Nat.le_refl _, Nat.le_refl _⟩ (ct_X11_done ?_)
      exact V_retI (pc := 48) d_X11_act_48 rfl ⟨Nat.le_refl _, Nat.le_refl _⟩ (h2 k a kk hk ha hkk rfl rfl ekk)
    · replace c17 := zf c17
      refine V_aload_n (pc := 20) d_X11_act_20 rfl ?_
      refine V_iconst (pc := 21) (1) d_X11_act_21 (by decide) ?_
      refine V_cvI (pc := 22) (n := 1) (c := 11) [_] d_X11_act_22 c_X11_55 k_X11_refused ⟨rfl, rfl⟩ (tt_3 b) rfl (Nat.le_of_ble_eq_true rfl) ⟨Nat.le_of_ble_eq_true rfl, Nat.le_of_ble_eq_true rfl⟩ ⟨Nat.le_refl _, Nat.le_refl _⟩ (ct_X11_refused ?_)
      exact V_retI (pc := 25) d_X11_act_25 rfl ⟨Nat.le_refl _, Nat.le_refl _⟩ (h1 (by
            rintro ⟨k, a, g1, g2, g3, g4⟩
            try subst g3
            try subst g4
            simp (disch := omega) only [nI_toInt, nI_eq] at *
            omega))
theorem act_M {k kk a : Nat} {x L D : Int32} (hk : k < 10) (hkk : kk < 6) (ha : a < 4) (hK : σ 140 k = nI kk) (hL : σ 141 k = L) (hD : σ 142 k = D) (hq : K (acV kk a k x L D) (ntM (up2 (up2 σ 139 59 0) 139 0 0) 0 (acE kk a), sh b)) : V G mX12_act (rl 9) (FM G (rl 9) (QI K)) 0 0 23 [some (.ref 139), some (.int (nI k)), some (.int (nI a)), some (.int x)] [] (σ, sh b) := by
  rcases (by omega : kk = 0 ∨ kk = 1 ∨ kk = 2 ∨ kk = 3 ∨ kk = 4 ∨ kk = 5) with rfl | rfl | rfl | rfl | rfl | rfl <;> rcases (by omega : a = 0 ∨ a = 1 ∨ a = 2 ∨ a = 3) with rfl | rfl | rfl | rfl
  · refine V_aload_n (pc := 23) d_X12_act_23 rfl ?_
    refine V_iconst (pc := 24) (0) d_X12_act_24 (by decide) ?_
    refine P_putI (pc := 25) d_X12_act_25 f_X12_317 (tt_139 b) ?_
    refine V_aload_n (pc := 28) d_X12_act_28 rfl ?_
    refine V_iconst (pc := 29) (0) d_X12_act_29 (by decide) ?_
    refine P_putI (pc := 30) d_X12_act_30 f_X12_167 (tt_139 b) ?_
    refine V_iload_n (pc := 33) d_X12_act_33 rfl ?_
    refine V_if_ne (pc := 34) 46 d_X12_act_34 (by decide) (fun c34 => ?_) (fun c34 => ?_)
    · exact absurd rfl c34
    · refine V_aload_n (pc := 37) d_X12_act_37 rfl ?_
      refine V_iload_n (pc := 38) d_X12_act_38 rfl ?_
      refine V_iload_n (pc := 39) d_X12_act_39 rfl ?_
      refine V_cvI (pc := 40) (n := 4) (c := 12) [_, _] d_X12_act_40 c_X12_333 k_X12_bearOf ⟨rfl, rfl⟩ (tt_139 b) rfl (Nat.le_of_ble_eq_true rfl) ⟨Nat.le_of_ble_eq_true rfl, Nat.le_of_ble_eq_true rfl⟩ ⟨Nat.le_refl _, Nat.le_refl _⟩ (ct_M_bearOf_0 (n := 0) hk (by omega) ((up2_n (by omega)).trans (up2_e ⟨rfl, rfl⟩)) ((up2_n (by omega)).trans ((up2_n (by omega)).trans hK)) ((up2_n (by omega)).trans ((up2_n (by omega)).trans hL)) ((up2_n (by omega)).trans ((up2_n (by omega)).trans hD)) ?_)
      refine V_goto (pc := 43) 80 d_X12_act_43 (by decide) ?_
      exact V_retI (pc := 80) d_X12_act_80 rfl ⟨Nat.le_refl _, Nat.le_refl _⟩ hq
  · refine V_aload_n (pc := 23) d_X12_act_23 rfl ?_
    refine V_iconst (pc := 24) (0) d_X12_act_24 (by decide) ?_
    refine P_putI (pc := 25) d_X12_act_25 f_X12_317 (tt_139 b) ?_
    refine V_aload_n (pc := 28) d_X12_act_28 rfl ?_
    refine V_iconst (pc := 29) (0) d_X12_act_29 (by decide) ?_
    refine P_putI (pc := 30) d_X12_act_30 f_X12_167 (tt_139 b) ?_
    refine V_iload_n (pc := 33) d_X12_act_33 rfl ?_
    refine V_if_ne (pc := 34) 46 d_X12_act_34 (by decide) (fun c34 => ?_) (fun c34 => ?_)
    · refine V_iload_n (pc := 46) d_X12_act_46 rfl ?_
      refine V_iconst (pc := 47) (1) d_X12_act_47 (by decide) ?_
      refine V_icmp_ne (pc := 48) 60 d_X12_act_48 (by decide) (fun c48 => ?_) (fun c48 => ?_)
      · exact absurd rfl c48
      · refine V_aload_n (pc := 51) d_X12_act_51 rfl ?_
        refine V_iload_n (pc := 52) d_X12_act_52 rfl ?_
        refine V_iload_n (pc := 53) d_X12_act_53 rfl ?_
        refine V_cvI (pc := 54) (n := 6) (c := 12) [_, _] d_X12_act_54 c_X12_342 k_X12_moveOf ⟨rfl, rfl⟩ (tt_139 b) rfl (Nat.le_of_ble_eq_true rfl) ⟨Nat.le_of_ble_eq_true rfl, Nat.le_of_ble_eq_true rfl⟩ ⟨Nat.le_refl _, Nat.le_refl _⟩ (ct_M_moveOf_0 (n := 0) hk (by omega) ((up2_n (by omega)).trans (up2_e ⟨rfl, rfl⟩)) ((up2_n (by omega)).trans ((up2_n (by omega)).trans hK)) ((up2_n (by omega)).trans ((up2_n (by omega)).trans hL)) ((up2_n (by omega)).trans ((up2_n (by omega)).trans hD)) ?_)
        refine V_goto (pc := 57) 80 d_X12_act_57 (by decide) ?_
        exact V_retI (pc := 80) d_X12_act_80 rfl ⟨Nat.le_refl _, Nat.le_refl _⟩ hq
    · exact absurd c34 (by decide)
  · refine V_aload_n (pc := 23) d_X12_act_23 rfl ?_
    refine V_iconst (pc := 24) (0) d_X12_act_24 (by decide) ?_
    refine P_putI (pc := 25) d_X12_act_25 f_X12_317 (tt_139 b) ?_
    refine V_aload_n (pc := 28) d_X12_act_28 rfl ?_
    refine V_iconst (pc := 29) (0) d_X12_act_29 (by decide) ?_
    refine P_putI (pc := 30) d_X12_act_30 f_X12_167 (tt_139 b) ?_
    refine V_iload_n (pc := 33) d_X12_act_33 rfl ?_
    refine V_if_ne (pc := 34) 46 d_X12_act_34 (by decide) (fun c34 => ?_) (fun c34 => ?_)
    · refine V_iload_n (pc := 46) d_X12_act_46 rfl ?_
      refine V_iconst (pc := 47) (1) d_X12_act_47 (by decide) ?_
      refine V_icmp_ne (pc := 48) 60 d_X12_act_48 (by decide) (fun c48 => ?_) (fun c48 => ?_)
      · refine V_iload_n (pc := 60) d_X12_act_60 rfl ?_
        refine V_iconst (pc := 61) (nI 2) d_X12_act_61 (by decide) ?_
        refine V_icmp_ne (pc := 62) 74 d_X12_act_62 (by decide) (fun c62 => ?_) (fun c62 => ?_)
        · exact absurd rfl c62
        · refine V_aload_n (pc := 65) d_X12_act_65 rfl ?_
          refine V_iload_n (pc := 66) d_X12_act_66 rfl ?_
          refine V_iload_n (pc := 67) d_X12_act_67 rfl ?_
          refine V_cvI (pc := 68) (n := 3) (c := 12) [_, _] d_X12_act_68 c_X12_339 k_X12_barOf ⟨rfl, rfl⟩ (tt_139 b) rfl (Nat.le_of_ble_eq_true rfl) ⟨Nat.le_of_ble_eq_true rfl, Nat.le_of_ble_eq_true rfl⟩ ⟨Nat.le_refl _, Nat.le_refl _⟩ (ct_M_barOf_0 (n := 0) hk (by omega) ((up2_n (by omega)).trans (up2_e ⟨rfl, rfl⟩)) ((up2_n (by omega)).trans ((up2_n (by omega)).trans hK)) ((up2_n (by omega)).trans ((up2_n (by omega)).trans hL)) ((up2_n (by omega)).trans ((up2_n (by omega)).trans hD)) ?_)
          refine V_goto (pc := 71) 80 d_X12_act_71 (by decide) ?_
          exact V_retI (pc := 80) d_X12_act_80 rfl ⟨Nat.le_refl _, Nat.le_refl _⟩ hq
      · exact absurd c48 (by decide)
    · exact absurd c34 (by decide)
  · refine V_aload_n (pc := 23) d_X12_act_23 rfl ?_
    refine V_iconst (pc := 24) (0) d_X12_act_24 (by decide) ?_
    refine P_putI (pc := 25) d_X12_act_25 f_X12_317 (tt_139 b) ?_
    refine V_aload_n (pc := 28) d_X12_act_28 rfl ?_
    refine V_iconst (pc := 29) (0) d_X12_act_29 (by decide) ?_
    refine P_putI (pc := 30) d_X12_act_30 f_X12_167 (tt_139 b) ?_
    refine V_iload_n (pc := 33) d_X12_act_33 rfl ?_
    refine V_if_ne (pc := 34) 46 d_X12_act_34 (by decide) (fun c34 => ?_) (fun c34 => ?_)
    · refine V_iload_n (pc := 46) d_X12_act_46 rfl ?_
      refine V_iconst (pc := 47) (1) d_X12_act_47 (by decide) ?_
      refine V_icmp_ne (pc := 48) 60 d_X12_act_48 (by decide) (fun c48 => ?_) (fun c48 => ?_)
      · refine V_iload_n (pc := 60) d_X12_act_60 rfl ?_
        refine V_iconst (pc := 61) (nI 2) d_X12_act_61 (by decide) ?_
        refine V_icmp_ne (pc := 62) 74 d_X12_act_62 (by decide) (fun c62 => ?_) (fun c62 => ?_)
        · refine V_aload_n (pc := 74) d_X12_act_74 rfl ?_
          refine V_iload_n (pc := 75) d_X12_act_75 rfl ?_
          refine V_iload_n (pc := 76) d_X12_act_76 rfl ?_
          refine V_cvI (pc := 77) (n := 8) (c := 12) [_, _] d_X12_act_77 c_X12_348 k_X12_tellOf ⟨rfl, rfl⟩ (tt_139 b) rfl (Nat.le_of_ble_eq_true rfl) ⟨Nat.le_of_ble_eq_true rfl, Nat.le_of_ble_eq_true rfl⟩ ⟨Nat.le_refl _, Nat.le_refl _⟩ (ct_M_tellOf_0 (n := 0) hk (by omega) ((up2_n (by omega)).trans (up2_e ⟨rfl, rfl⟩)) ((up2_n (by omega)).trans ((up2_n (by omega)).trans hK)) ((up2_n (by omega)).trans ((up2_n (by omega)).trans hL)) ((up2_n (by omega)).trans ((up2_n (by omega)).trans hD)) ?_)
          exact V_retI (pc := 80) d_X12_act_80 rfl ⟨Nat.le_refl _, Nat.le_refl _⟩ hq
        · exact absurd c62 (by decide)
      · exact absurd c48 (by decide)
    · exact absurd c34 (by decide)
  · refine V_aload_n (pc := 23) d_X12_act_23 rfl ?_
    refine V_iconst (pc := 24) (0) d_X12_act_24 (by decide) ?_
    refine P_putI (pc := 25) d_X12_act_25 f_X12_317 (tt_139 b) ?_
    refine V_aload_n (pc := 28) d_X12_act_28 rfl ?_
    refine V_iconst (pc := 29) (0) d_X12_act_29 (by decide) ?_
    refine P_putI (pc := 30) d_X12_act_30 f_X12_167 (tt_139 b) ?_
    refine V_iload_n (pc := 33) d_X12_act_33 rfl ?_
    refine V_if_ne (pc := 34) 46 d_X12_act_34 (by decide) (fun c34 => ?_) (fun c34 => ?_)
    · exact absurd rfl c34
    · refine V_aload_n (pc := 37) d_X12_act_37 rfl ?_
      refine V_iload_n (pc := 38) d_X12_act_38 rfl ?_
      refine V_iload_n (pc := 39) d_X12_act_39 rfl ?_
      refine V_cvI (pc := 40) (n := 4) (c := 12) [_, _] d_X12_act_40 c_X12_333 k_X12_bearOf ⟨rfl, rfl⟩ (tt_139 b) rfl (Nat.le_of_ble_eq_true rfl) ⟨Nat.le_of_ble_eq_true rfl, Nat.le_of_ble_eq_true rfl⟩ ⟨Nat.le_refl _, Nat.le_refl _⟩ (ct_M_bearOf_1 (n := 0) hk (by omega) ((up2_n (by omega)).trans (up2_e ⟨rfl, rfl⟩)) ((up2_n (by omega)).trans ((up2_n (by omega)).trans hK)) ((up2_n (by omega)).trans ((up2_n (by omega)).trans hL)) ((up2_n (by omega)).trans ((up2_n (by omega)).trans hD)) ?_)
      refine V_goto (pc := 43) 80 d_X12_act_43 (by decide) ?_
      exact V_retI (pc := 80) d_X12_act_80 rfl ⟨Nat.le_refl _, Nat.le_refl _⟩ hq
  · refine V_aload_n (pc := 23) d_X12_act_23 rfl ?_
    refine V_iconst (pc := 24) (0) d_X12_act_24 (by decide) ?_
    refine P_putI (pc := 25) d_X12_act_25 f_X12_317 (tt_139 b) ?_
    refine V_aload_n (pc := 28) d_X12_act_28 rfl ?_
    refine V_iconst (pc := 29) (0) d_X12_act_29 (by decide) ?_
    refine P_putI (pc := 30) d_X12_act_30 f_X12_167 (tt_139 b) ?_
    refine V_iload_n (pc := 33) d_X12_act_33 rfl ?_
    refine V_if_ne (pc := 34) 46 d_X12_act_34 (by decide) (fun c34 => ?_) (fun c34 => ?_)
    · refine V_iload_n (pc := 46) d_X12_act_46 rfl ?_
      refine V_iconst (pc := 47) (1) d_X12_act_47 (by decide) ?_
      refine V_icmp_ne (pc := 48) 60 d_X12_act_48 (by decide) (fun c48 => ?_) (fun c48 => ?_)
      · exact absurd rfl c48
      · refine V_aload_n (pc := 51) d_X12_act_51 rfl ?_
        refine V_iload_n (pc := 52) d_X12_act_52 rfl ?_
        refine V_iload_n (pc := 53) d_X12_act_53 rfl ?_
        refine V_cvI (pc := 54) (n := 6) (c := 12) [_, _] d_X12_act_54 c_X12_342 k_X12_moveOf ⟨rfl, rfl⟩ (tt_139 b) rfl (Nat.le_of_ble_eq_true rfl) ⟨Nat.le_of_ble_eq_true rfl, Nat.le_of_ble_eq_true rfl⟩ ⟨Nat.le_refl _, Nat.le_refl _⟩ (ct_M_moveOf_1 (n := 0) hk (by omega) ((up2_n (by omega)).trans (up2_e ⟨rfl, rfl⟩)) ((up2_n (by omega)).trans ((up2_n (by omega)).trans hK)) ((up2_n (by omega)).trans ((up2_n (by omega)).trans hL)) ((up2_n (by omega)).trans ((up2_n (by omega)).trans hD)) ?_)
        refine V_goto (pc := 57) 80 d_X12_act_57 (by decide) ?_
        exact V_retI (pc := 80) d_X12_act_80 rfl ⟨Nat.le_refl _, Nat.le_refl _⟩ hq
    · exact absurd c34 (by decide)
  · refine V_aload_n (pc := 23) d_X12_act_23 rfl ?_
    refine V_iconst (pc := 24) (0) d_X12_act_24 (by decide) ?_
    refine P_putI (pc := 25) d_X12_act_25 f_X12_317 (tt_139 b) ?_
    refine V_aload_n (pc := 28) d_X12_act_28 rfl ?_
    refine V_iconst (pc := 29) (0) d_X12_act_29 (by decide) ?_
    refine P_putI (pc := 30) d_X12_act_30 f_X12_167 (tt_139 b) ?_
    refine V_iload_n (pc := 33) d_X12_act_33 rfl ?_
    refine V_if_ne (pc := 34) 46 d_X12_act_34 (by decide) (fun c34 => ?_) (fun c34 => ?_)
    · refine V_iload_n (pc := 46) d_X12_act_46 rfl ?_
      refine V_iconst (pc := 47) (1) d_X12_act_47 (by decide) ?_
      refine V_icmp_ne (pc := 48) 60 d_X12_act_48 (by decide) (fun c48 => ?_) (fun c48 => ?_)
      · refine V_iload_n (pc := 60) d_X12_act_60 rfl ?_
        refine V_iconst (pc := 61) (nI 2) d_X12_act_61 (by decide) ?_
        refine V_icmp_ne (pc := 62) 74 d_X12_act_62 (by decide) (fun c62 => ?_) (fun c62 => ?_)
        · exact absurd rfl c62
        · refine V_aload_n (pc := 65) d_X12_act_65 rfl ?_
          refine V_iload_n (pc := 66) d_X12_act_66 rfl ?_
          refine V_iload_n (pc := 67) d_X12_act_67 rfl ?_
          refine V_cvI (pc := 68) (n := 3) (c := 12) [_, _] d_X12_act_68 c_X12_339 k_X12_barOf ⟨rfl, rfl⟩ (tt_139 b) rfl (Nat.le_of_ble_eq_true rfl) ⟨Nat.le_of_ble_eq_true rfl, Nat.le_of_ble_eq_true rfl⟩ ⟨Nat.le_refl _, Nat.le_refl _⟩ (ct_M_barOf_1 (n := 0) hk (by omega) ((up2_n (by omega)).trans (up2_e ⟨rfl, rfl⟩)) ((up2_n (by omega)).trans ((up2_n (by omega)).trans hK)) ((up2_n (by omega)).trans ((up2_n (by omega)).trans hL)) ((up2_n (by omega)).trans ((up2_n (by omega)).trans hD)) ?_)
          refine V_goto (pc := 71) 80 d_X12_act_71 (by decide) ?_
          exact V_retI (pc := 80) d_X12_act_80 rfl ⟨Nat.le_refl _, Nat.le_refl _⟩ hq
      · exact absurd c48 (by decide)
    · exact absurd c34 (by decide)
  · refine V_aload_n (pc := 23) d_X12_act_23 rfl ?_
    refine V_iconst (pc := 24) (0) d_X12_act_24 (by decide) ?_
    refine P_putI (pc := 25) d_X12_act_25 f_X12_317 (tt_139 b) ?_
    refine V_aload_n (pc := 28) d_X12_act_28 rfl ?_
    refine V_iconst (pc := 29) (0) d_X12_act_29 (by decide) ?_
    refine P_putI (pc := 30) d_X12_act_30 f_X12_167 (tt_139 b) ?_
    refine V_iload_n (pc := 33) d_X12_act_33 rfl ?_
    refine V_if_ne (pc := 34) 46 d_X12_act_34 (by decide) (fun c34 => ?_) (fun c34 => ?_)
    · refine V_iload_n (pc := 46) d_X12_act_46 rfl ?_
      refine V_iconst (pc := 47) (1) d_X12_act_47 (by decide) ?_
      refine V_icmp_ne (pc := 48) 60 d_X12_act_48 (by decide) (fun c48 => ?_) (fun c48 => ?_)
      · refine V_iload_n (pc := 60) d_X12_act_60 rfl ?_
        refine V_iconst (pc := 61) (nI 2) d_X12_act_61 (by decide) ?_
        refine V_icmp_ne (pc := 62) 74 d_X12_act_62 (by decide) (fun c62 => ?_) (fun c62 => ?_)
        · refine V_aload_n (pc := 74) d_X12_act_74 rfl ?_
          refine V_iload_n (pc := 75) d_X12_act_75 rfl ?_
          refine V_iload_n (pc := 76) d_X12_act_76 rfl ?_
          refine V_cvI (pc := 77) (n := 8) (c := 12) [_, _] d_X12_act_77 c_X12_348 k_X12_tellOf ⟨rfl, rfl⟩ (tt_139 b) rfl (Nat.le_of_ble_eq_true rfl) ⟨Nat.le_of_ble_eq_true rfl, Nat.le_of_ble_eq_true rfl⟩ ⟨Nat.le_refl _, Nat.le_refl _⟩ (ct_M_tellOf_1 (n := 0) hk (by omega) ((up2_n (by omega)).trans (up2_e ⟨rfl, rfl⟩)) ((up2_n (by omega)).trans ((up2_n (by omega)).trans hK)) ((up2_n (by omega)).trans ((up2_n (by omega)).trans hL)) ((up2_n (by omega)).trans ((up2_n (by omega)).trans hD)) ?_)
          exact V_retI (pc := 80) d_X12_act_80 rfl ⟨Nat.le_refl _, Nat.le_refl _⟩ hq
        · exact absurd c62 (by decide)
      · exact absurd c48 (by decide)
    · exact absurd c34 (by decide)
  · refine V_aload_n (pc := 23) d_X12_act_23 rfl ?_
    refine V_iconst (pc := 24) (0) d_X12_act_24 (by decide) ?_
    refine P_putI (pc := 25) d_X12_act_25 f_X12_317 (tt_139 b) ?_
    refine V_aload_n (pc := 28) d_X12_act_28 rfl ?_
    refine V_iconst (pc := 29) (0) d_X12_act_29 (by decide) ?_
    refine P_putI (pc := 30) d_X12_act_30 f_X12_167 (tt_139 b) ?_
    refine V_iload_n (pc := 33) d_X12_act_33 rfl ?_
    refine V_if_ne (pc := 34) 46 d_X12_act_34 (by decide) (fun c34 => ?_) (fun c34 => ?_)
    · exact absurd rfl c34
    · refine V_aload_n (pc := 37) d_X12_act_37 rfl ?_
      refine V_iload_n (pc := 38) d_X12_act_38 rfl ?_
      refine V_iload_n (pc := 39) d_X12_act_39 rfl ?_
      refine V_cvI (pc := 40) (n := 4) (c := 12) [_, _] d_X12_act_40 c_X12_333 k_X12_bearOf ⟨rfl, rfl⟩ (tt_139 b) rfl (Nat.le_of_ble_eq_true rfl) ⟨Nat.le_of_ble_eq_true rfl, Nat.le_of_ble_eq_true rfl⟩ ⟨Nat.le_refl _, Nat.le_refl _⟩ (ct_M_bearOf_2 (n := 0) hk (by omega) ((up2_n (by omega)).trans (up2_e ⟨rfl, rfl⟩)) ((up2_n (by omega)).trans ((up2_n (by omega)).trans hK)) ((up2_n (by omega)).trans ((up2_n (by omega)).trans hL)) ((up2_n (by omega)).trans ((up2_n (by omega)).trans hD)) ?_)
      refine V_goto (pc := 43) 80 d_X12_act_43 (by decide) ?_
      exact V_retI (pc := 80) d_X12_act_80 rfl ⟨Nat.le_refl _, Nat.le_refl _⟩ hq
  · refine V_aload_n (pc := 23) d_X12_act_23 rfl ?_
    refine V_iconst (pc := 24) (0) d_X12_act_24 (by decide) ?_
    refine P_putI (pc := 25) d_X12_act_25 f_X12_317 (tt_139 b) ?_
    refine V_aload_n (pc := 28) d_X12_act_28 rfl ?_
    refine V_iconst (pc := 29) (0) d_X12_act_29 (by decide) ?_
    refine P_putI (pc := 30) d_X12_act_30 f_X12_167 (tt_139 b) ?_
    refine V_iload_n (pc := 33) d_X12_act_33 rfl ?_
    refine V_if_ne (pc := 34) 46 d_X12_act_34 (by decide) (fun c34 => ?_) (fun c34 => ?_)
    · refine V_iload_n (pc := 46) d_X12_act_46 rfl ?_
      refine V_iconst (pc := 47) (1) d_X12_act_47 (by decide) ?_
      refine V_icmp_ne (pc := 48) 60 d_X12_act_48 (by decide) (fun c48 => ?_) (fun c48 => ?_)
      · exact absurd rfl c48
      · refine V_aload_n (pc := 51) d_X12_act_51 rfl ?_
        refine V_iload_n (pc := 52) d_X12_act_52 rfl ?_
        refine V_iload_n (pc := 53) d_X12_act_53 rfl ?_
        refine V_cvI (pc := 54) (n := 6) (c := 12) [_, _] d_X12_act_54 c_X12_342 k_X12_moveOf ⟨rfl, rfl⟩ (tt_139 b) rfl (Nat.le_of_ble_eq_true rfl) ⟨Nat.le_of_ble_eq_true rfl, Nat.le_of_ble_eq_true rfl⟩ ⟨Nat.le_refl _, Nat.le_refl _⟩ (ct_M_moveOf_2 (n := 0) hk (by omega) ((up2_n (by omega)).trans (up2_e ⟨rfl, rfl⟩)) ((up2_n (by omega)).trans ((up2_n (by omega)).trans hK)) ((up2_n (by omega)).trans ((up2_n (by omega)).trans hL)) ((up2_n (by omega)).trans ((up2_n (by omega)).trans hD)) ?_)
        refine V_goto (pc := 57) 80 d_X12_act_57 (by decide) ?_
        exact V_retI (pc := 80) d_X12_act_80 rfl ⟨Nat.le_refl _, Nat.le_refl _⟩ hq
    · exact absurd c34 (by decide)
  · refine V_aload_n (pc := 23) d_X12_act_23 rfl ?_
    refine V_iconst (pc := 24) (0) d_X12_act_24 (by decide) ?_
    refine P_putI (pc := 25) d_X12_act_25 f_X12_317 (tt_139 b) ?_
    refine V_aload_n (pc := 28) d_X12_act_28 rfl ?_
    refine V_iconst (pc := 29) (0) d_X12_act_29 (by decide) ?_
    refine P_putI (pc := 30) d_X12_act_30 f_X12_167 (tt_139 b) ?_
    refine V_iload_n (pc := 33) d_X12_act_33 rfl ?_
    refine V_if_ne (pc := 34) 46 d_X12_act_34 (by decide) (fun c34 => ?_) (fun c34 => ?_)
    · refine V_iload_n (pc := 46) d_X12_act_46 rfl ?_
      refine V_iconst (pc := 47) (1) d_X12_act_47 (by decide) ?_
      refine V_icmp_ne (pc := 48) 60 d_X12_act_48 (by decide) (fun c48 => ?_) (fun c48 => ?_)
      · refine V_iload_n (pc := 60) d_X12_act_60 rfl ?_
        refine V_iconst (pc := 61) (nI 2) d_X12_act_61 (by decide) ?_
        refine V_icmp_ne (pc := 62) 74 d_X12_act_62 (by decide) (fun c62 => ?_) (fun c62 => ?_)
        · exact absurd rfl c62
        · refine V_aload_n (pc := 65) d_X12_act_65 rfl ?_
          refine V_iload_n (pc := 66) d_X12_act_66 rfl ?_
          refine V_iload_n (pc := 67) d_X12_act_67 rfl ?_
          refine V_cvI (pc := 68) (n := 3) (c := 12) [_, _] d_X12_act_68 c_X12_339 k_X12_barOf ⟨rfl, rfl⟩ (tt_139 b) rfl (Nat.le_of_ble_eq_true rfl) ⟨Nat.le_of_ble_eq_true rfl, Nat.le_of_ble_eq_true rfl⟩ ⟨Nat.le_refl _, Nat.le_refl _⟩ (ct_M_barOf_2 (n := 0) hk (by omega) ((up2_n (by omega)).trans (up2_e ⟨rfl, rfl⟩)) ((up2_n (by omega)).trans ((up2_n (by omega)).trans hK)) ((up2_n (by omega)).trans ((up2_n (by omega)).trans hL)) ((up2_n (by omega)).trans ((up2_n (by omega)).trans hD)) ?_)
          refine V_goto (pc := 71) 80 d_X12_act_71 (by decide) ?_
          exact V_retI (pc := 80) d_X12_act_80 rfl ⟨Nat.le_refl _, Nat.le_refl _⟩ hq
      · exact absurd c48 (by decide)
    · exact absurd c34 (by decide)
  · refine V_aload_n (pc := 23) d_X12_act_23 rfl ?_
    refine V_iconst (pc := 24) (0) d_X12_act_24 (by decide) ?_
    refine P_putI (pc := 25) d_X12_act_25 f_X12_317 (tt_139 b) ?_
    refine V_aload_n (pc := 28) d_X12_act_28 rfl ?_
    refine V_iconst (pc := 29) (0) d_X12_act_29 (by decide) ?_
    refine P_putI (pc := 30) d_X12_act_30 f_X12_167 (tt_139 b) ?_
    refine V_iload_n (pc := 33) d_X12_act_33 rfl ?_
    refine V_if_ne (pc := 34) 46 d_X12_act_34 (by decide) (fun c34 => ?_) (fun c34 => ?_)
    · refine V_iload_n (pc := 46) d_X12_act_46 rfl ?_
      refine V_iconst (pc := 47) (1) d_X12_act_47 (by decide) ?_
      refine V_icmp_ne (pc := 48) 60 d_X12_act_48 (by decide) (fun c48 => ?_) (fun c48 => ?_)
      · refine V_iload_n (pc := 60) d_X12_act_60 rfl ?_
        refine V_iconst (pc := 61) (nI 2) d_X12_act_61 (by decide) ?_
        refine V_icmp_ne (pc := 62) 74 d_X12_act_62 (by decide) (fun c62 => ?_) (fun c62 => ?_)
        · refine V_aload_n (pc := 74) d_X12_act_74 rfl ?_
          refine V_iload_n (pc := 75) d_X12_act_75 rfl ?_
          refine V_iload_n (pc := 76) d_X12_act_76 rfl ?_
          refine V_cvI (pc := 77) (n := 8) (c := 12) [_, _] d_X12_act_77 c_X12_348 k_X12_tellOf ⟨rfl, rfl⟩ (tt_139 b) rfl (Nat.le_of_ble_eq_true rfl) ⟨Nat.le_of_ble_eq_true rfl, Nat.le_of_ble_eq_true rfl⟩ ⟨Nat.le_refl _, Nat.le_refl _⟩ (ct_M_tellOf_2 (n := 0) hk (by omega) ((up2_n (by omega)).trans (up2_e ⟨rfl, rfl⟩)) ((up2_n (by omega)).trans ((up2_n (by omega)).trans hK)) ((up2_n (by omega)).trans ((up2_n (by omega)).trans hL)) ((up2_n (by omega)).trans ((up2_n (by omega)).trans hD)) ?_)
          exact V_retI (pc := 80) d_X12_act_80 rfl ⟨Nat.le_refl _, Nat.le_refl _⟩ hq
        · exact absurd c62 (by decide)
      · exact absurd c48 (by decide)
    · exact absurd c34 (by decide)
  · refine V_aload_n (pc := 23) d_X12_act_23 rfl ?_
    refine V_iconst (pc := 24) (0) d_X12_act_24 (by decide) ?_
    refine P_putI (pc := 25) d_X12_act_25 f_X12_317 (tt_139 b) ?_
    refine V_aload_n (pc := 28) d_X12_act_28 rfl ?_
    refine V_iconst (pc := 29) (0) d_X12_act_29 (by decide) ?_
    refine P_putI (pc := 30) d_X12_act_30 f_X12_167 (tt_139 b) ?_
    refine V_iload_n (pc := 33) d_X12_act_33 rfl ?_
    refine V_if_ne (pc := 34) 46 d_X12_act_34 (by decide) (fun c34 => ?_) (fun c34 => ?_)
    · exact absurd rfl c34
    · refine V_aload_n (pc := 37) d_X12_act_37 rfl ?_
      refine V_iload_n (pc := 38) d_X12_act_38 rfl ?_
      refine V_iload_n (pc := 39) d_X12_act_39 rfl ?_
      refine V_cvI (pc := 40) (n := 4) (c := 12) [_, _] d_X12_act_40 c_X12_333 k_X12_bearOf ⟨rfl, rfl⟩ (tt_139 b) rfl (Nat.le_of_ble_eq_true rfl) ⟨Nat.le_of_ble_eq_true rfl, Nat.le_of_ble_eq_true rfl⟩ ⟨Nat.le_refl _, Nat.le_refl _⟩ (ct_M_bearOf_3 (n := 0) hk (by omega) ((up2_n (by omega)).trans (up2_e ⟨rfl, rfl⟩)) ((up2_n (by omega)).trans ((up2_n (by omega)).trans hK)) ((up2_n (by omega)).trans ((up2_n (by omega)).trans hL)) ((up2_n (by omega)).trans ((up2_n (by omega)).trans hD)) ?_)
      refine V_goto (pc := 43) 80 d_X12_act_43 (by decide) ?_
      exact V_retI (pc := 80) d_X12_act_80 rfl ⟨Nat.le_refl _, Nat.le_refl _⟩ hq
  · refine V_aload_n (pc := 23) d_X12_act_23 rfl ?_
    refine V_iconst (pc := 24) (0) d_X12_act_24 (by decide) ?_
    refine P_putI (pc := 25) d_X12_act_25 f_X12_317 (tt_139 b) ?_
    refine V_aload_n (pc := 28) d_X12_act_28 rfl ?_
    refine V_iconst (pc := 29) (0) d_X12_act_29 (by decide) ?_
    refine P_putI (pc := 30) d_X12_act_30 f_X12_167 (tt_139 b) ?_
    refine V_iload_n (pc := 33) d_X12_act_33 rfl ?_
    refine V_if_ne (pc := 34) 46 d_X12_act_34 (by decide) (fun c34 => ?_) (fun c34 => ?_)
    · refine V_iload_n (pc := 46) d_X12_act_46 rfl ?_
      refine V_iconst (pc := 47) (1) d_X12_act_47 (by decide) ?_
      refine V_icmp_ne (pc := 48) 60 d_X12_act_48 (by decide) (fun c48 => ?_) (fun c48 => ?_)
      · exact absurd rfl c48
      · refine V_aload_n (pc := 51) d_X12_act_51 rfl ?_
        refine V_iload_n (pc := 52) d_X12_act_52 rfl ?_
        refine V_iload_n (pc := 53) d_X12_act_53 rfl ?_
        refine V_cvI (pc := 54) (n := 6) (c := 12) [_, _] d_X12_act_54 c_X12_342 k_X12_moveOf ⟨rfl, rfl⟩ (tt_139 b) rfl (Nat.le_of_ble_eq_true rfl) ⟨Nat.le_of_ble_eq_true rfl, Nat.le_of_ble_eq_true rfl⟩ ⟨Nat.le_refl _, Nat.le_refl _⟩ (ct_M_moveOf_3 (n := 0) hk (by omega) ((up2_n (by omega)).trans (up2_e ⟨rfl, rfl⟩)) ((up2_n (by omega)).trans ((up2_n (by omega)).trans hK)) ((up2_n (by omega)).trans ((up2_n (by omega)).trans hL)) ((up2_n (by omega)).trans ((up2_n (by omega)).trans hD)) ?_)
        refine V_goto (pc := 57) 80 d_X12_act_57 (by decide) ?_
        exact V_retI (pc := 80) d_X12_act_80 rfl ⟨Nat.le_refl _, Nat.le_refl _⟩ hq
    · exact absurd c34 (by decide)
  · refine V_aload_n (pc := 23) d_X12_act_23 rfl ?_
    refine V_iconst (pc := 24) (0) d_X12_act_24 (by decide) ?_
    refine P_putI (pc := 25) d_X12_act_25 f_X12_317 (tt_139 b) ?_
    refine V_aload_n (pc := 28) d_X12_act_28 rfl ?_
    refine V_iconst (pc := 29) (0) d_X12_act_29 (by decide) ?_
    refine P_putI (pc := 30) d_X12_act_30 f_X12_167 (tt_139 b) ?_
    refine V_iload_n (pc := 33) d_X12_act_33 rfl ?_
    refine V_if_ne (pc := 34) 46 d_X12_act_34 (by decide) (fun c34 => ?_) (fun c34 => ?_)
    · refine V_iload_n (pc := 46) d_X12_act_46 rfl ?_
      refine V_iconst (pc := 47) (1) d_X12_act_47 (by decide) ?_
      refine V_icmp_ne (pc := 48) 60 d_X12_act_48 (by decide) (fun c48 => ?_) (fun c48 => ?_)
      · refine V_iload_n (pc := 60) d_X12_act_60 rfl ?_
        refine V_iconst (pc := 61) (nI 2) d_X12_act_61 (by decide) ?_
        refine V_icmp_ne (pc := 62) 74 d_X12_act_62 (by decide) (fun c62 => ?_) (fun c62 => ?_)
        · exact absurd rfl c62
        · refine V_aload_n (pc := 65) d_X12_act_65 rfl ?_
          refine V_iload_n (pc := 66) d_X12_act_66 rfl ?_
          refine V_iload_n (pc := 67) d_X12_act_67 rfl ?_
          refine V_cvI (pc := 68) (n := 3) (c := 12) [_, _] d_X12_act_68 c_X12_339 k_X12_barOf ⟨rfl, rfl⟩ (tt_139 b) rfl (Nat.le_of_ble_eq_true rfl) ⟨Nat.le_of_ble_eq_true rfl, Nat.le_of_ble_eq_true rfl⟩ ⟨Nat.le_refl _, Nat.le_refl _⟩ (ct_M_barOf_3 (n := 0) hk (by omega) ((up2_n (by omega)).trans (up2_e ⟨rfl, rfl⟩)) ((up2_n (by omega)).trans ((up2_n (by omega)).trans hK)) ((up2_n (by omega)).trans ((up2_n (by omega)).trans hL)) ((up2_n (by omega)).trans ((up2_n (by omega)).trans hD)) ?_)
          refine V_goto (pc := 71) 80 d_X12_act_71 (by decide) ?_
          exact V_retI (pc := 80) d_X12_act_80 rfl ⟨Nat.le_refl _, Nat.le_refl _⟩ hq
      · exact absurd c48 (by decide)
    · exact absurd c34 (by decide)
  · refine V_aload_n (pc := 23) d_X12_act_23 rfl ?_
    refine V_iconst (pc := 24) (0) d_X12_act_24 (by decide) ?_
    refine P_putI (pc := 25) d_X12_act_25 f_X12_317 (tt_139 b) ?_
    refine V_aload_n (pc := 28) d_X12_act_28 rfl ?_
    refine V_iconst (pc := 29) (0) d_X12_act_29 (by decide) ?_
    refine P_putI (pc := 30) d_X12_act_30 f_X12_167 (tt_139 b) ?_
    refine V_iload_n (pc := 33) d_X12_act_33 rfl ?_
    refine V_if_ne (pc := 34) 46 d_X12_act_34 (by decide) (fun c34 => ?_) (fun c34 => ?_)
    · refine V_iload_n (pc := 46) d_X12_act_46 rfl ?_
      refine V_iconst (pc := 47) (1) d_X12_act_47 (by decide) ?_
      refine V_icmp_ne (pc := 48) 60 d_X12_act_48 (by decide) (fun c48 => ?_) (fun c48 => ?_)
      · refine V_iload_n (pc := 60) d_X12_act_60 rfl ?_
        refine V_iconst (pc := 61) (nI 2) d_X12_act_61 (by decide) ?_
        refine V_icmp_ne (pc := 62) 74 d_X12_act_62 (by decide) (fun c62 => ?_) (fun c62 => ?_)
        · refine V_aload_n (pc := 74) d_X12_act_74 rfl ?_
          refine V_iload_n (pc := 75) d_X12_act_75 rfl ?_
          refine V_iload_n (pc := 76) d_X12_act_76 rfl ?_
          refine V_cvI (pc := 77) (n := 8) (c := 12) [_, _] d_X12_act_77 c_X12_348 k_X12_tellOf ⟨rfl, rfl⟩ (tt_139 b) rfl (Nat.le_of_ble_eq_true rfl) ⟨Nat.le_of_ble_eq_true rfl, Nat.le_of_ble_eq_true rfl⟩ ⟨Nat.le_refl _, Nat.le_refl _⟩ (ct_M_tellOf_3 (n := 0) hk (by omega) ((up2_n (by omega)).trans (up2_e ⟨rfl, rfl⟩)) ((up2_n (by omega)).trans ((up2_n (by omega)).trans hK)) ((up2_n (by omega)).trans ((up2_n (by omega)).trans hL)) ((up2_n (by omega)).trans ((up2_n (by omega)).trans hD)) ?_)
          exact V_retI (pc := 80) d_X12_act_80 rfl ⟨Nat.le_refl _, Nat.le_refl _⟩ hq
        · exact absurd c62 (by decide)
      · exact absurd c48 (by decide)
    · exact absurd c34 (by decide)
  · refine V_aload_n (pc := 23) d_X12_act_23 rfl ?_
    refine V_iconst (pc := 24) (0) d_X12_act_24 (by decide) ?_
    refine P_putI (pc := 25) d_X12_act_25 f_X12_317 (tt_139 b) ?_
    refine V_aload_n (pc := 28) d_X12_act_28 rfl ?_
    refine V_iconst (pc := 29) (0) d_X12_act_29 (by decide) ?_
    refine P_putI (pc := 30) d_X12_act_30 f_X12_167 (tt_139 b) ?_
    refine V_iload_n (pc := 33) d_X12_act_33 rfl ?_
    refine V_if_ne (pc := 34) 46 d_X12_act_34 (by decide) (fun c34 => ?_) (fun c34 => ?_)
    · exact absurd rfl c34
    · refine V_aload_n (pc := 37) d_X12_act_37 rfl ?_
      refine V_iload_n (pc := 38) d_X12_act_38 rfl ?_
      refine V_iload_n (pc := 39) d_X12_act_39 rfl ?_
      refine V_cvI (pc := 40) (n := 4) (c := 12) [_, _] d_X12_act_40 c_X12_333 k_X12_bearOf ⟨rfl, rfl⟩ (tt_139 b) rfl (Nat.le_of_ble_eq_true rfl) ⟨Nat.le_of_ble_eq_true rfl, Nat.le_of_ble_eq_true rfl⟩ ⟨Nat.le_refl _, Nat.le_refl _⟩ (ct_M_bearOf_4 (n := 0) hk (by omega) ((up2_n (by omega)).trans (up2_e ⟨rfl, rfl⟩)) ((up2_n (by omega)).trans ((up2_n (by omega)).trans hK)) ((up2_n (by omega)).trans ((up2_n (by omega)).trans hL)) ((up2_n (by omega)).trans ((up2_n (by omega)).trans hD)) ?_)
      refine V_goto (pc := 43) 80 d_X12_act_43 (by decide) ?_
      exact V_retI (pc := 80) d_X12_act_80 rfl ⟨Nat.le_refl _, Nat.le_refl _⟩ hq
  · refine V_aload_n (pc := 23) d_X12_act_23 rfl ?_
    refine V_iconst (pc := 24) (0) d_X12_act_24 (by decide) ?_
    refine P_putI (pc := 25) d_X12_act_25 f_X12_317 (tt_139 b) ?_
    refine V_aload_n (pc := 28) d_X12_act_28 rfl ?_
    refine V_iconst (pc := 29) (0) d_X12_act_29 (by decide) ?_
    refine P_putI (pc := 30) d_X12_act_30 f_X12_167 (tt_139 b) ?_
    refine V_iload_n (pc := 33) d_X12_act_33 rfl ?_
    refine V_if_ne (pc := 34) 46 d_X12_act_34 (by decide) (fun c34 => ?_) (fun c34 => ?_)
    · refine V_iload_n (pc := 46) d_X12_act_46 rfl ?_
      refine V_iconst (pc := 47) (1) d_X12_act_47 (by decide) ?_
      refine V_icmp_ne (pc := 48) 60 d_X12_act_48 (by decide) (fun c48 => ?_) (fun c48 => ?_)
      · exact absurd rfl c48
      · refine V_aload_n (pc := 51) d_X12_act_51 rfl ?_
        refine V_iload_n (pc := 52) d_X12_act_52 rfl ?_
        refine V_iload_n (pc := 53) d_X12_act_53 rfl ?_
        refine V_cvI (pc := 54) (n := 6) (c := 12) [_, _] d_X12_act_54 c_X12_342 k_X12_moveOf ⟨rfl, rfl⟩ (tt_139 b) rfl (Nat.le_of_ble_eq_true rfl) ⟨Nat.le_of_ble_eq_true rfl, Nat.le_of_ble_eq_true rfl⟩ ⟨Nat.le_refl _, Nat.le_refl _⟩ (ct_M_moveOf_4 (n := 0) hk (by omega) ((up2_n (by omega)).trans (up2_e ⟨rfl, rfl⟩)) ((up2_n (by omega)).trans ((up2_n (by omega)).trans hK)) ((up2_n (by omega)).trans ((up2_n (by omega)).trans hL)) ((up2_n (by omega)).trans ((up2_n (by omega)).trans hD)) ?_)
        refine V_goto (pc := 57) 80 d_X12_act_57 (by decide) ?_
        exact V_retI (pc := 80) d_X12_act_80 rfl ⟨Nat.le_refl _, Nat.le_refl _⟩ hq
    · exact absurd c34 (by decide)
  · refine V_aload_n (pc := 23) d_X12_act_23 rfl ?_
    refine V_iconst (pc := 24) (0) d_X12_act_24 (by decide) ?_
    refine P_putI (pc := 25) d_X12_act_25 f_X12_317 (tt_139 b) ?_
    refine V_aload_n (pc := 28) d_X12_act_28 rfl ?_
    refine V_iconst (pc := 29) (0) d_X12_act_29 (by decide) ?_
    refine P_putI (pc := 30) d_X12_act_30 f_X12_167 (tt_139 b) ?_
    refine V_iload_n (pc := 33) d_X12_act_33 rfl ?_
    refine V_if_ne (pc := 34) 46 d_X12_act_34 (by decide) (fun c34 => ?_) (fun c34 => ?_)
    · refine V_iload_n (pc := 46) d_X12_act_46 rfl ?_
      refine V_iconst (pc := 47) (1) d_X12_act_47 (by decide) ?_
      refine V_icmp_ne (pc := 48) 60 d_X12_act_48 (by decide) (fun c48 => ?_) (fun c48 => ?_)
      · refine V_iload_n (pc := 60) d_X12_act_60 rfl ?_
        refine V_iconst (pc := 61) (nI 2) d_X12_act_61 (by decide) ?_
        refine V_icmp_ne (pc := 62) 74 d_X12_act_62 (by decide) (fun c62 => ?_) (fun c62 => ?_)
        · exact absurd rfl c62
        · refine V_aload_n (pc := 65) d_X12_act_65 rfl ?_
          refine V_iload_n (pc := 66) d_X12_act_66 rfl ?_
          refine V_iload_n (pc := 67) d_X12_act_67 rfl ?_
          refine V_cvI (pc := 68) (n := 3) (c := 12) [_, _] d_X12_act_68 c_X12_339 k_X12_barOf ⟨rfl, rfl⟩ (tt_139 b) rfl (Nat.le_of_ble_eq_true rfl) ⟨Nat.le_of_ble_eq_true rfl, Nat.le_of_ble_eq_true rfl⟩ ⟨Nat.le_refl _, Nat.le_refl _⟩ (ct_M_barOf_4 (n := 0) hk (by omega) ((up2_n (by omega)).trans (up2_e ⟨rfl, rfl⟩)) ((up2_n (by omega)).trans ((up2_n (by omega)).trans hK)) ((up2_n (by omega)).trans ((up2_n (by omega)).trans hL)) ((up2_n (by omega)).trans ((up2_n (by omega)).trans hD)) ?_)
          refine V_goto (pc := 71) 80 d_X12_act_71 (by decide) ?_
          exact V_retI (pc := 80) d_X12_act_80 rfl ⟨Nat.le_refl _, Nat.le_refl _⟩ hq
      · exact absurd c48 (by decide)
    · exact absurd c34 (by decide)
  · refine V_aload_n (pc := 23) d_X12_act_23 rfl ?_
    refine V_iconst (pc := 24) (0) d_X12_act_24 (by decide) ?_
    refine P_putI (pc := 25) d_X12_act_25 f_X12_317 (tt_139 b) ?_
    refine V_aload_n (pc := 28) d_X12_act_28 rfl ?_
    refine V_iconst (pc := 29) (0) d_X12_act_29 (by decide) ?_
    refine P_putI (pc := 30) d_X12_act_30 f_X12_167 (tt_139 b) ?_
    refine V_iload_n (pc := 33) d_X12_act_33 rfl ?_
    refine V_if_ne (pc := 34) 46 d_X12_act_34 (by decide) (fun c34 => ?_) (fun c34 => ?_)
    · refine V_iload_n (pc := 46) d_X12_act_46 rfl ?_
      refine V_iconst (pc := 47) (1) d_X12_act_47 (by decide) ?_
      refine V_icmp_ne (pc := 48) 60 d_X12_act_48 (by decide) (fun c48 => ?_) (fun c48 => ?_)
      · refine V_iload_n (pc := 60) d_X12_act_60 rfl ?_
        refine V_iconst (pc := 61) (nI 2) d_X12_act_61 (by decide) ?_
        refine V_icmp_ne (pc := 62) 74 d_X12_act_62 (by decide) (fun c62 => ?_) (fun c62 => ?_)
        · refine V_aload_n (pc := 74) d_X12_act_74 rfl ?_
          refine V_iload_n (pc := 75) d_X12_act_75 rfl ?_
          refine V_iload_n (pc := 76) d_X12_act_76 rfl ?_
          refine V_cvI (pc := 77) (n := 8) (c := 12) [_, _] d_X12_act_77 c_X12_348 k_X12_tellOf ⟨rfl, rfl⟩ (tt_139 b) rfl (Nat.le_of_ble_eq_true rfl) ⟨Nat.le_of_ble_eq_true rfl, Nat.le_of_ble_eq_true rfl⟩ ⟨Nat.le_refl _, Nat.le_refl _⟩ (ct_M_tellOf_4 (n := 0) hk (by omega) ((up2_n (by omega)).trans (up2_e ⟨rfl, rfl⟩)) ((up2_n (by omega)).trans ((up2_n (by omega)).trans hK)) ((up2_n (by omega)).trans ((up2_n (by omega)).trans hL)) ((up2_n (by omega)).trans ((up2_n (by omega)).trans hD)) ?_)
          exact V_retI (pc := 80) d_X12_act_80 rfl ⟨Nat.le_refl _, Nat.le_refl _⟩ hq
        · exact absurd c62 (by decide)
      · exact absurd c48 (by decide)
    · exact absurd c34 (by decide)
  · refine V_aload_n (pc := 23) d_X12_act_23 rfl ?_
    refine V_iconst (pc := 24) (0) d_X12_act_24 (by decide) ?_
    refine P_putI (pc := 25) d_X12_act_25 f_X12_317 (tt_139 b) ?_
    refine V_aload_n (pc := 28) d_X12_act_28 rfl ?_
    refine V_iconst (pc := 29) (0) d_X12_act_29 (by decide) ?_
    refine P_putI (pc := 30) d_X12_act_30 f_X12_167 (tt_139 b) ?_
    refine V_iload_n (pc := 33) d_X12_act_33 rfl ?_
    refine V_if_ne (pc := 34) 46 d_X12_act_34 (by decide) (fun c34 => ?_) (fun c34 => ?_)
    · exact absurd rfl c34
    · refine V_aload_n (pc := 37) d_X12_act_37 rfl ?_
      refine V_iload_n (pc := 38) d_X12_act_38 rfl ?_
      refine V_iload_n (pc := 39) d_X12_act_39 rfl ?_
      refine V_cvI (pc := 40) (n := 4) (c := 12) [_, _] d_X12_act_40 c_X12_333 k_X12_bearOf ⟨rfl, rfl⟩ (tt_139 b) rfl (Nat.le_of_ble_eq_true rfl) ⟨Nat.le_of_ble_eq_true rfl, Nat.le_of_ble_eq_true rfl⟩ ⟨Nat.le_refl _, Nat.le_refl _⟩ (ct_M_bearOf_5 (n := 0) hk (by omega) ((up2_n (by omega)).trans (up2_e ⟨rfl, rfl⟩)) ((up2_n (by omega)).trans ((up2_n (by omega)).trans hK)) ((up2_n (by omega)).trans ((up2_n (by omega)).trans hL)) ((up2_n (by omega)).trans ((up2_n (by omega)).trans hD)) ?_)
      refine V_goto (pc := 43) 80 d_X12_act_43 (by decide) ?_
      exact V_retI (pc := 80) d_X12_act_80 rfl ⟨Nat.le_refl _, Nat.le_refl _⟩ hq
  · refine V_aload_n (pc := 23) d_X12_act_23 rfl ?_
    refine V_iconst (pc := 24) (0) d_X12_act_24 (by decide) ?_
    refine P_putI (pc := 25) d_X12_act_25 f_X12_317 (tt_139 b) ?_
    refine V_aload_n (pc := 28) d_X12_act_28 rfl ?_
    refine V_iconst (pc := 29) (0) d_X12_act_29 (by decide) ?_
    refine P_putI (pc := 30) d_X12_act_30 f_X12_167 (tt_139 b) ?_
    refine V_iload_n (pc := 33) d_X12_act_33 rfl ?_
    refine V_if_ne (pc := 34) 46 d_X12_act_34 (by decide) (fun c34 => ?_) (fun c34 => ?_)
    · refine V_iload_n (pc := 46) d_X12_act_46 rfl ?_
      refine V_iconst (pc := 47) (1) d_X12_act_47 (by decide) ?_
      refine V_icmp_ne (pc := 48) 60 d_X12_act_48 (by decide) (fun c48 => ?_) (fun c48 => ?_)
      · exact absurd rfl c48
      · refine V_aload_n (pc := 51) d_X12_act_51 rfl ?_
        refine V_iload_n (pc := 52) d_X12_act_52 rfl ?_
        refine V_iload_n (pc := 53) d_X12_act_53 rfl ?_
        refine V_cvI (pc := 54) (n := 6) (c := 12) [_, _] d_X12_act_54 c_X12_342 k_X12_moveOf ⟨rfl, rfl⟩ (tt_139 b) rfl (Nat.le_of_ble_eq_true rfl) ⟨Nat.le_of_ble_eq_true rfl, Nat.le_of_ble_eq_true rfl⟩ ⟨Nat.le_refl _, Nat.le_refl _⟩ (ct_M_moveOf_5 (n := 0) hk (by omega) ((up2_n (by omega)).trans (up2_e ⟨rfl, rfl⟩)) ((up2_n (by omega)).trans ((up2_n (by omega)).trans hK)) ((up2_n (by omega)).trans ((up2_n (by omega)).trans hL)) ((up2_n (by omega)).trans ((up2_n (by omega)).trans hD)) ?_)
        refine V_goto (pc := 57) 80 d_X12_act_57 (by decide) ?_
        exact V_retI (pc := 80) d_X12_act_80 rfl ⟨Nat.le_refl _, Nat.le_refl _⟩ hq
    · exact absurd c34 (by decide)
  · refine V_aload_n (pc := 23) d_X12_act_23 rfl ?_
    refine V_iconst (pc := 24) (0) d_X12_act_24 (by decide) ?_
    refine P_putI (pc := 25) d_X12_act_25 f_X12_317 (tt_139 b) ?_
    refine V_aload_n (pc := 28) d_X12_act_28 rfl ?_
    refine V_iconst (pc := 29) (0) d_X12_act_29 (by decide) ?_
    refine P_putI (pc := 30) d_X12_act_30 f_X12_167 (tt_139 b) ?_
    refine V_iload_n (pc := 33) d_X12_act_33 rfl ?_
    refine V_if_ne (pc := 34) 46 d_X12_act_34 (by decide) (fun c34 => ?_) (fun c34 => ?_)
    · refine V_iload_n (pc := 46) d_X12_act_46 rfl ?_
      refine V_iconst (pc := 47) (1) d_X12_act_47 (by decide) ?_
      refine V_icmp_ne (pc := 48) 60 d_X12_act_48 (by decide) (fun c48 => ?_) (fun c48 => ?_)
      · refine V_iload_n (pc := 60) d_X12_act_60 rfl ?_
        refine V_iconst (pc := 61) (nI 2) d_X12_act_61 (by decide) ?_
        refine V_icmp_ne (pc := 62) 74 d_X12_act_62 (by decide) (fun c62 => ?_) (fun c62 => ?_)
        · exact absurd rfl c62
        · refine V_aload_n (pc := 65) d_X12_act_65 rfl ?_
          refine V_iload_n (pc := 66) d_X12_act_66 rfl ?_
          refine V_iload_n (pc := 67) d_X12_act_67 rfl ?_
          refine V_cvI (pc := 68) (n := 3) (c := 12) [_, _] d_X12_act_68 c_X12_339 k_X12_barOf ⟨rfl, rfl⟩ (tt_139 b) rfl (Nat.le_of_ble_eq_true rfl) ⟨Nat.le_of_ble_eq_true rfl, Nat.le_of_ble_eq_true rfl⟩ ⟨Nat.le_refl _, Nat.le_refl _⟩ (ct_M_barOf_5 (n := 0) hk (by omega) ((up2_n (by omega)).trans (up2_e ⟨rfl, rfl⟩)) ((up2_n (by omega)).trans ((up2_n (by omega)).trans hK)) ((up2_n (by omega)).trans ((up2_n (by omega)).trans hL)) ((up2_n (by omega)).trans ((up2_n (by omega)).trans hD)) ?_)
          refine V_goto (pc := 71) 80 d_X12_act_71 (by decide) ?_
          exact V_retI (pc := 80) d_X12_act_80 rfl ⟨Nat.le_refl _, Nat.le_refl _⟩ hq
      · exact absurd c48 (by decide)
    · exact absurd c34 (by decide)
  · refine V_aload_n (pc := 23) d_X12_act_23 rfl ?_
    refine V_iconst (pc := 24) (0) d_X12_act_24 (by decide) ?_
    refine P_putI (pc := 25) d_X12_act_25 f_X12_317 (tt_139 b) ?_
    refine V_aload_n (pc := 28) d_X12_act_28 rfl ?_
    refine V_iconst (pc := 29) (0) d_X12_act_29 (by decide) ?_
    refine P_putI (pc := 30) d_X12_act_30 f_X12_167 (tt_139 b) ?_
    refine V_iload_n (pc := 33) d_X12_act_33 rfl ?_
    refine V_if_ne (pc := 34) 46 d_X12_act_34 (by decide) (fun c34 => ?_) (fun c34 => ?_)
    · refine V_iload_n (pc := 46) d_X12_act_46 rfl ?_
      refine V_iconst (pc := 47) (1) d_X12_act_47 (by decide) ?_
      refine V_icmp_ne (pc := 48) 60 d_X12_act_48 (by decide) (fun c48 => ?_) (fun c48 => ?_)
      · refine V_iload_n (pc := 60) d_X12_act_60 rfl ?_
        refine V_iconst (pc := 61) (nI 2) d_X12_act_61 (by decide) ?_
        refine V_icmp_ne (pc := 62) 74 d_X12_act_62 (by decide) (fun c62 => ?_) (fun c62 => ?_)
        · refine V_aload_n (pc := 74) d_X12_act_74 rfl ?_
          refine V_iload_n (pc := 75) d_X12_act_75 rfl ?_
          refine V_iload_n (pc := 76) d_X12_act_76 rfl ?_
          refine V_cvI (pc := 77) (n := 8) (c := 12) [_, _] d_X12_act_77 c_X12_348 k_X12_tellOf ⟨rfl, rfl⟩ (tt_139 b) rfl (Nat.le_of_ble_eq_true rfl) ⟨Nat.le_of_ble_eq_true rfl, Nat.le_of_ble_eq_true rfl⟩ ⟨Nat.le_refl _, Nat.le_refl _⟩ (ct_M_tellOf_5 (n := 0) hk (by omega) ((up2_n (by omega)).trans (up2_e ⟨rfl, rfl⟩)) ((up2_n (by omega)).trans ((up2_n (by omega)).trans hK)) ((up2_n (by omega)).trans ((up2_n (by omega)).trans hL)) ((up2_n (by omega)).trans ((up2_n (by omega)).trans hD)) ?_)
          exact V_retI (pc := 80) d_X12_act_80 rfl ⟨Nat.le_refl _, Nat.le_refl _⟩ hq
        · exact absurd c62 (by decide)
      · exact absurd c48 (by decide)
    · exact absurd c34 (by decide)
theorem ct_X12_act {x y z : Int32} {ρ : Sg} {q ns nb nl nt nr : Nat} (hR : RR ρ 4 σ q ns nb nl nt nr) (h1 : ¬ (∃ k a : Nat, k < ns ∧ a < 4 ∧ x = nI k ∧ y = nI a) → K (-1) (up2 σ 139 0 1, sh b)) (h2 : ∀ k a kk : Nat, k < ns → a < 4 → kk < 6 → x = nI k → y = nI a → σ 140 k = nI kk → K (acV kk a k z (σ 141 k) (σ 142 k)) (ntM (up2 (up2 σ 139 59 0) 139 0 0) 0 (acE kk a), sh b)) : CM G mX12_act (rl 9) [.ref 139, .int x, .int y, .int z] (σ, sh b) (QI K) := by
  obtain ⟨⟨⟨hq2, hn10, hnb, hnl, hnt, hnr⟩, ⟨vq, vns, vnb, vnl, vnt, vnr⟩, ⟨rq, rns, rnb, rnl, rnt, rnr⟩, hpd⟩, hH, hC, hS, hLD, hB, hA, hT, hU⟩ := id hR
  refine CM.of (by decide) (Nat.le_of_ble_eq_true rfl) (cats1 rfl) ?_
  refine V_aload_n (pc := 0) d_X12_act_0 rfl ?_
  refine V_iload_n (pc := 1) d_X12_act_1 rfl ?_
  refine V_cvI (pc := 2) (n := 2) (c := 12) [_] d_X12_act_2 c_X12_202 k_X12_isStretch ⟨rfl, rfl⟩ (tt_139 b) rfl (Nat.le_of_ble_eq_true rfl) ⟨Nat.le_of_ble_eq_true rfl, Nat.le_of_ble_eq_true rfl⟩ ⟨Nat.le_refl _, Nat.le_refl _⟩ (ct_X12_isStretch vns (by omega) ?_)
  refine V_if_eq (pc := 5) 17 d_X12_act_5 (by decide) (fun c5 => ?_) (fun c5 => ?_)
  · replace c5 := zf c5
    refine V_aload_n (pc := 17) d_X12_act_17 rfl ?_
    refine V_iconst (pc := 18) (1) d_X12_act_18 (by decide) ?_
    refine V_cvI (pc := 19) (n := 1) (c := 12) [_] d_X12_act_19 c_X12_187 k_X12_refused ⟨rfl, rfl⟩ (tt_139 b) rfl (Nat.le_of_ble_eq_true rfl) ⟨Nat.le_of_ble_eq_true rfl, Nat.le_of_ble_eq_true rfl⟩ ⟨Nat.le_refl _, Nat.le_refl _⟩ (ct_X12_refused ?_)
    exact V_retI (pc := 22) d_X12_act_22 rfl ⟨Nat.le_refl _, Nat.le_refl _⟩ (h1 (by
            rintro ⟨k, a, g1, g2, g3, g4⟩
            try subst g3
            try subst g4
            simp (disch := omega) only [nI_toInt, nI_eq] at *
            omega))
  · replace c5 := zt c5
    refine V_iload_n (pc := 8) d_X12_act_8 rfl ?_
    refine V_iconst (pc := 9) (0) d_X12_act_9 (by decide) ?_
    refine V_iconst (pc := 10) (nI 3) d_X12_act_10 (by decide) ?_
    refine V_csI (pc := 11) (n := 1) [_, _, _] d_X12_act_11 c_X12_174 k_X12_in rfl (Nat.le_of_ble_eq_true rfl) ⟨Nat.le_of_ble_eq_true rfl, Nat.le_of_ble_eq_true rfl⟩ ⟨Nat.le_refl _, Nat.le_refl _⟩ (ct_X12_in (lo := 0) (hi := 3) (by decide) (by decide) ?_)
    refine V_if_ne (pc := 14) 23 d_X12_act_14 (by decide) (fun c14 => ?_) (fun c14 => ?_)
    · replace c14 := zt c14
      obtain ⟨k, hk, rfl, -⟩ := nat_of (n := ns) (x := x) (by omega) (by omega) (by omega)
      obtain ⟨a, ha, rfl, -⟩ := nat_of (n := 4) (x := y) (by omega) (by omega) (by omega)
      obtain ⟨kk, hkk, ekk⟩ : rg (σ 140 k) 6 := (hS k hk).2.1
      have h3 := h2 k a kk hk ha hkk rfl rfl ekk
      obtain ⟨L, hL⟩ : ∃ L, σ 141 k = L := ⟨_, rfl⟩
      obtain ⟨D, hD⟩ : ∃ D, σ 142 k = D := ⟨_, rfl⟩
      rw [hL, hD] at h3
      exact act_M (by omega) hkk ha ekk hL hD h3
    · replace c14 := zf c14
      refine V_aload_n (pc := 17) d_X12_act_17 rfl ?_
      refine V_iconst (pc := 18) (1) d_X12_act_18 (by decide) ?_
      refine V_cvI (pc := 19) (n := 1) (c := 12) [_] d_X12_act_19 c_X12_187 k_X12_refused ⟨rfl, rfl⟩ (tt_139 b) rfl (Nat.le_of_ble_eq_true rfl) ⟨Nat.le_of_ble_eq_true rfl, Nat.le_of_ble_eq_true rfl⟩ ⟨Nat.le_refl _, Nat.le_refl _⟩ (ct_X12_refused ?_)
      exact V_retI (pc := 22) d_X12_act_22 rfl ⟨Nat.le_refl _, Nat.le_refl _⟩ (h1 (by
            rintro ⟨k, a, g1, g2, g3, g4⟩
            try subst g3
            try subst g4
            simp (disch := omega) only [nI_toInt, nI_eq] at *
            omega))
theorem pr_act {x y z : Int32} (h : Rel σ b) : PR G mX11_act mX12_act 42 9 [.int x, .int y, .int z] σ b := by
  have h0 := h
  obtain ⟨q, ns, nb, nl, nt, nr, hR, hX, hP, hQ, hK⟩ := h
  have hbd := hR.1.1
  have ag : ∀ v, ∀ a i, 139 ≤ a → a < 192 → up2 σ 3 3 v a i = σ a i := fun v a i h1 h2 => by rw [up2_n (by omega)]
  refine ct_X11_act hR (fun hv => ?_) (fun k a kk hk ha hkk ek ea ekk => ?_)
  · exact ⟨rfl, ct_X12_act (RR_lo hR (ag _)) (fun _ => ⟨rfl, _, rfl, rel_ref h0⟩) (fun k a kk hk ha hkk ek ea ekk => absurd ⟨k, a, hk, ha, ek, ea⟩ hv)⟩
  · have lo : ∀ c i, 139 ≤ c → c < 192 → up2 (ntC (up2 σ 124 0 0) 0 (acE kk a)) 3 3 0 c i = σ c i := fun c i h1 h2 => by rw [up2_n (by omega), ntC_o (by omega), up2_n (by omega)]
    refine ⟨rfl, ct_X12_act (RR_lo hR lo) (fun hv => absurd ⟨k, a, hk, ha, ek, ea⟩ hv) (fun k' a' kk' hk' ha' hkk' ek' ea' ekk' => ?_)⟩
    obtain rfl : k' = k := (nI_eq (by omega) (by omega)).mp (ek'.symm.trans ek)
    obtain rfl : a' = a := (nI_eq (by omega) (by omega)).mp (ea'.symm.trans ea)
    rw [lo _ _ (by omega) (by omega)] at ekk'
    obtain rfl : kk' = kk := (nI_eq (by omega) (by omega)).mp (ekk'.symm.trans ekk)
    rw [lo _ _ (by omega) (by omega), lo _ _ (by omega) (by omega)]
    obtain ⟨hcn, hH, hC, hS, hLD, hB, hA, hT, hU⟩ := id hR
    have hbd := hcn.1
    have al := acE_len kk' hkk a' ha
    refine ⟨rfl, _, rfl, q, ns, nb, nl, nt, nr, ⟨cCnt_cg hcn (fun i _ _ => (by rw [ntM_o (by omega), up2_n (by omega), up2_n (by omega), up2_n (by omega), ntC_o (by omega), up2_n (by omega)])) (fun i _ => (by rw [ntM_o (by omega), up2_n (by omega), up2_n (by omega), up2_n (by omega), ntC_o (by omega), up2_n (by omega)])), cH_cg hH (by rw [ntM_o (by omega), up2_n (by omega), up2_n (by omega), up2_n (by omega), ntC_o (by omega), up2_n (by omega)]) (fun e _ => (by rw [ntM_o (by omega), up2_n (by omega), up2_n (by omega), up2_n (by omega), ntC_o (by omega), up2_n (by omega)])) (fun e _ => ⟨(by rw [ntM_o (by omega), up2_n (by omega), up2_n (by omega), up2_n (by omega), ntC_o (by omega), up2_n (by omega)]), (by rw [ntM_o (by omega), up2_n (by omega), up2_n (by omega), up2_n (by omega), ntC_o (by omega), up2_n (by omega)])⟩), cC_cg hC (fun d _ => (by rw [ntM_o (by omega), up2_n (by omega), up2_n (by omega), up2_n (by omega), ntC_o (by omega), up2_n (by omega)])) (fun d _ => (by rw [ntM_o (by omega), up2_n (by omega), up2_n (by omega), up2_n (by omega), ntC_o (by omega), up2_n (by omega)])),
      cS_cg hS (fun k _ => ⟨fun j => (by rw [ntM_o (by omega), up2_n (by omega), up2_n (by omega), up2_n (by omega), ntC_o (by omega), up2_n (by omega)]), fun d _ => (by rw [ntM_o (by omega), up2_n (by omega), up2_n (by omega), up2_n (by omega), ntC_o (by omega), up2_n (by omega)])⟩) (fun k _ => ⟨(by rw [ntM_o (by omega), up2_n (by omega), up2_n (by omega), up2_n (by omega), ntC_o (by omega), up2_n (by omega)]), (by rw [ntM_o (by omega), up2_n (by omega), up2_n (by omega), up2_n (by omega), ntC_o (by omega), up2_n (by omega)]), (by rw [ntM_o (by omega), up2_n (by omega), up2_n (by omega), up2_n (by omega), ntC_o (by omega), up2_n (by omega)]), (by rw [ntM_o (by omega), up2_n (by omega), up2_n (by omega), up2_n (by omega), ntC_o (by omega), up2_n (by omega)])⟩) (fun i _ => ⟨(by rw [ntM_o (by omega), up2_n (by omega), up2_n (by omega), up2_n (by omega), ntC_o (by omega), up2_n (by omega)]), (by rw [ntM_o (by omega), up2_n (by omega), up2_n (by omega), up2_n (by omega), ntC_o (by omega), up2_n (by omega)])⟩), cL_cg hLD (fun l _ => ⟨(by rw [ntM_o (by omega), up2_n (by omega), up2_n (by omega), up2_n (by omega), ntC_o (by omega), up2_n (by omega)]), fun k _ => ⟨(by rw [ntM_o (by omega), up2_n (by omega), up2_n (by omega), up2_n (by omega), ntC_o (by omega), up2_n (by omega)]), (by rw [ntM_o (by omega), up2_n (by omega), up2_n (by omega), up2_n (by omega), ntC_o (by omega), up2_n (by omega)])⟩⟩) (fun l _ => (by rw [ntM_o (by omega), up2_n (by omega), up2_n (by omega), up2_n (by omega), ntC_o (by omega), up2_n (by omega)])) (fun m _ _ => ⟨(by rw [ntM_o (by omega), up2_n (by omega), up2_n (by omega), up2_n (by omega), ntC_o (by omega), up2_n (by omega)]), (by rw [ntM_o (by omega), up2_n (by omega), up2_n (by omega), up2_n (by omega), ntC_o (by omega), up2_n (by omega)])⟩), cB_cg hB (fun i _ => ⟨fun j => (by rw [ntM_o (by omega), up2_n (by omega), up2_n (by omega), up2_n (by omega), ntC_o (by omega), up2_n (by omega)]), fun k _ => ⟨(by rw [ntM_o (by omega), up2_n (by omega), up2_n (by omega), up2_n (by omega), ntC_o (by omega), up2_n (by omega)]), (by rw [ntM_o (by omega), up2_n (by omega), up2_n (by omega), up2_n (by omega), ntC_o (by omega), up2_n (by omega)])⟩⟩) (fun i _ a _ _ => (by rw [ntM_o (by omega), up2_n (by omega), up2_n (by omega), up2_n (by omega), ntC_o (by omega), up2_n (by omega)])) (fun m _ => ⟨(by rw [ntM_o (by omega), up2_n (by omega), up2_n (by omega), up2_n (by omega), ntC_o (by omega), up2_n (by omega)]), (by rw [ntM_o (by omega), up2_n (by omega), up2_n (by omega), up2_n (by omega), ntC_o (by omega), up2_n (by omega)])⟩) (fun j _ => ⟨(by rw [ntM_o (by omega), up2_n (by omega), up2_n (by omega), up2_n (by omega), ntC_o (by omega), up2_n (by omega)]), (by rw [ntM_o (by omega), up2_n (by omega), up2_n (by omega), up2_n (by omega), ntC_o (by omega), up2_n (by omega)]), (by rw [ntM_o (by omega), up2_n (by omega), up2_n (by omega), up2_n (by omega), ntC_o (by omega), up2_n (by omega)])⟩), cA_cg hA (fun j _ i => (by rw [ntM_o (by omega), up2_n (by omega), up2_n (by omega), up2_n (by omega), ntC_o (by omega), up2_n (by omega)])) (fun j _ a _ _ => (by rw [ntM_o (by omega), up2_n (by omega), up2_n (by omega), up2_n (by omega), ntC_o (by omega), up2_n (by omega)])), cT_cg hT (fun j _ i => (by rw [ntM_o (by omega), up2_n (by omega), up2_n (by omega), up2_n (by omega), ntC_o (by omega), up2_n (by omega)])) (fun j _ a _ _ => (by rw [ntM_o (by omega), up2_n (by omega), up2_n (by omega), up2_n (by omega), ntC_o (by omega), up2_n (by omega)])), cU_cg hU (fun j _ i => (by rw [ntM_o (by omega), up2_n (by omega), up2_n (by omega), up2_n (by omega), ntC_o (by omega), up2_n (by omega)])) (fun j _ a _ _ => (by rw [ntM_o (by omega), up2_n (by omega), up2_n (by omega), up2_n (by omega), ntC_o (by omega), up2_n (by omega)]))⟩,
      cX_cg hX (by rw [ntM_o (by omega), up2_n (by omega), up2_n (by omega), up2_e (by omega), ntM_o (by omega), up2_e (by omega)]) ⟨(by rw [ntM_o (by omega), up2_n (by omega), up2_n (by omega), up2_n (by omega), ntC_o (by omega), up2_n (by omega)]), (by rw [ntM_o (by omega), up2_n (by omega), up2_n (by omega), up2_n (by omega), ntC_o (by omega), up2_n (by omega)])⟩, ⟨(acE kk' a').length, by omega, ?_, ?_, fun j hj => ?_⟩, cQ_cg hQ (fun a i _ => (by rw [ntM_o (by omega), up2_n (by omega), up2_n (by omega), up2_n (by omega), ntC_o (by omega), up2_n (by omega)])), cK_cg hK (by rw [ntM_o (by omega), up2_n (by omega), up2_n (by omega), up2_n (by omega), ntC_o (by omega), up2_n (by omega)]) (fun a i _ => (by rw [ntM_o (by omega), up2_n (by omega), up2_n (by omega), up2_n (by omega), ntC_o (by omega), up2_n (by omega)])) (fun a i _ => (by rw [ntM_o (by omega), up2_n (by omega), up2_n (by omega), up2_n (by omega), ntC_o (by omega), up2_n (by omega)])) (by omega) (by omega) (by omega) (by omega) (by omega)⟩
    · rw [ntM_o (by omega), up2_n (by omega), up2_n (by omega), up2_n (by omega)]
      exact (ntC_c (n := 0) up2_y).trans (by rw [Nat.zero_add])
    · exact (ntM_c (n := 0) ((up2_n (by omega)).trans up2_y)).trans (by rw [Nat.zero_add])
    · rw [ntM_o (by omega), up2_n (by omega), up2_n (by omega), up2_n (by omega)]
      have k := nt_eq (σ := up2 σ 124 0 0) (τ := up2 (up2 (up2 (ntC (up2 σ 124 0 0) 0 (acE kk' a')) 3 3 0) 139 59 0) 139 0 0) (n := 0) hj
      rw [Nat.zero_add] at k
      exact k
end HC
