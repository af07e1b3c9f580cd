theorem cW_q {σ V : Sg} {w q m ns k : Nat} (h : cW σ w q V m ns) (hk : k < 10) : σ q k = V 158 (m + k) := (h k hk).1
theorem cW_w {σ V : Sg} {w q m ns k : Nat} (h : cW σ w q V m ns) (hk : k < 10) (hq : ¬ V 158 (m + k) = -1) : σ w k = V 157 (m + k) := ((h k hk).2.resolve_left hq).2.2
def nxS (V : Sg) (i : Nat) (dw : Int32) : Int32 := if dw = 0 then V 153 i - 1 else V 153 i
def whyS (V : Sg) (i ns nl d : Nat) (dw ni : Int32) : Int32 :=
  if ¬ V 152 i = 0 then 1
  else if ¬ (0 ≤ (nxS V i dw).toInt ∧ (nxS V i dw).toInt ≤ (ns : Int) - 1) then nI 2
  else if ¬ V 158 (10 * i + (nxS V i dw).toNatClampNeg) = -1 ∧ ¬ (draS V i nl).toInt ≤ (V 157 (10 * i + (nxS V i dw).toNatClampNeg)).toInt then nI 3
  else if ¬ (longS V (nxS V i dw).toNatClampNeg d ni).toInt ≤ (V 156 i).toInt then nI 4 else 0
theorem nI_nm1 {n : Nat} (h : n < 2 ^ 31) : ¬ nI n = -1 := fun q => by
  have := nI_toInt h
  rw [q, tim1] at this
  omega
theorem nat_of {x : Int32} {n : Nat} (h0 : 0 ≤ x.toInt) (h1 : x.toInt ≤ (n : Int) - 1) (hn : n ≤ 10000) : ∃ k : Nat, k < n ∧ x = nI k ∧ x.toNatClampNeg = k := by
  obtain ⟨j, hj, rfl⟩ := nI_of (x := x) (by rw [Int32.lt_iff_toInt_lt, ti0]; omega)
  rw [nI_toInt hj] at h1
  exact ⟨j, by omega, rfl, nI_clamp hj⟩
section HC
variable {G : Gl} {R : Room} {F : Fn} {K : Int32 → Hp → Prop} {KV : Hp → Prop} {σ : Nat → Nat → Int32} {b : Bool}
theorem lp_ab {i nl : Nat} (hn : σ 139 24 = nI nl) (hn12 : nl ≤ 12) (hi5 : i < 5) (hq : K (aboS σ i nl) (σ, sh b)) : ∀ n, n ≤ nl → ∀ j, j + n = nl → V G mX12_aboard (rl 1) (FM G (rl 1) (QI K)) 0 0 4 [some (.ref 139), some (.int (nI i)), some (.int (aboS σ i j)), some (.int (nI j))] [] (σ, sh b) := by
  intro n
  induction n with
  | zero =>
    intro hx j hj
    obtain rfl : j = nl := by omega
    refine V_iload_n (pc := 4) d_X12_aboard_4 rfl ?_
    refine V_aload_n (pc := 5) d_X12_aboard_5 rfl ?_
    refine P_getI (pc := 6) d_X12_aboard_6 f_X12_181 (tt_139 b) ?_
    rw [hn]
    refine B_icmp_ge (pc := 9) 51 d_X12_aboard_9 (by decide) (fun c9 => ?_) (fun c9 => ?_)
    · simp (disch := omega) only [nI_toInt, ti0, ti1, tim1, tim20, tim1000] at c9
      refine V_iload_n (pc := 51) d_X12_aboard_51 rfl ?_
      exact V_retI (pc := 52) d_X12_aboard_52 rfl ⟨Nat.le_refl _, Nat.le_refl _⟩ hq
    · simp (disch := omega) only [nI_toInt, ti0, ti1, tim1, tim20, tim1000] at c9
      omega
  | succ n ih =>
    intro hx j hj
    refine V_iload_n (pc := 4) d_X12_aboard_4 rfl ?_
    refine V_aload_n (pc := 5) d_X12_aboard_5 rfl ?_
    refine P_getI (pc := 6) d_X12_aboard_6 f_X12_181 (tt_139 b) ?_
    rw [hn]
    refine B_icmp_ge (pc := 9) 51 d_X12_aboard_9 (by decide) (fun c9 => ?_) (fun c9 => ?_)
    · simp (disch := omega) only [nI_toInt, ti0, ti1, tim1, tim20, tim1000] at c9
      omega
    · simp (disch := omega) only [nI_toInt, ti0, ti1, tim1, tim20, tim1000] at c9
      refine V_iload_n (pc := 12) d_X12_aboard_12 rfl ?_
      refine V_aload_n (pc := 13) d_X12_aboard_13 rfl ?_
      refine P_getR (pc := 14) d_X12_aboard_14 f_X12_80 (tt_139 b) (rr_139_28 b) ?_
      refine V_iload_n (pc := 17) d_X12_aboard_17 rfl ?_
      refine P_iald (pc := 18) (j) d_X12_aboard_18 (tt_163 b) rfl (ln_of (ll_163 b) ⟨by omega, by decide⟩) ?_
      refine V_iconst (pc := 19) (1) d_X12_aboard_19 (by decide) ?_
      refine V_icmp_ne (pc := 20) 42 d_X12_aboard_20 (by decide) (fun c20 => ?_) (fun c20 => ?_)
      · refine V_iconst (pc := 42) (0) d_X12_aboard_42 (by decide) ?_
        refine V_iadd (pc := 43) d_X12_aboard_43 ?_
        refine V_istore_n (pc := 44) d_X12_aboard_44 (by decide) ?_
        refine V_iinc (pc := 45) d_X12_aboard_45 rfl (by decide) ?_
        refine V_goto (pc := 48) 4 d_X12_aboard_48 (by decide) ?_
        rw [p1_s]
        have e : aboS σ i (j + 1) = aboS σ i j + (if σ 163 j = 1 ∧ σ 164 j = nI i then σ 161 j else 0) := rfl
        simp only [*, and_self, if_true, if_false, not_false_eq_true, and_false, false_and, and_true] at e
        exact e ▸ ih (by omega) (j + 1) (by omega)
      · refine V_aload_n (pc := 23) d_X12_aboard_23 rfl ?_
        refine P_getR (pc := 24) d_X12_aboard_24 f_X12_83 (tt_139 b) (rr_139_29 b) ?_
        refine V_iload_n (pc := 27) d_X12_aboard_27 rfl ?_
        refine P_iald (pc := 28) (j) d_X12_aboard_28 (tt_164 b) rfl (ln_of (ll_164 b) ⟨by omega, by decide⟩) ?_
        refine V_iload_n (pc := 29) d_X12_aboard_29 rfl ?_
        refine V_icmp_ne (pc := 30) 42 d_X12_aboard_30 (by decide) (fun c30 => ?_) (fun c30 => ?_)
        · refine V_iconst (pc := 42) (0) d_X12_aboard_42 (by decide) ?_
          refine V_iadd (pc := 43) d_X12_aboard_43 ?_
          refine V_istore_n (pc := 44) d_X12_aboard_44 (by decide) ?_
          refine V_iinc (pc := 45) d_X12_aboard_45 rfl (by decide) ?_
          refine V_goto (pc := 48) 4 d_X12_aboard_48 (by decide) ?_
          rw [p1_s]
          have e : aboS σ i (j + 1) = aboS σ i j + (if σ 163 j = 1 ∧ σ 164 j = nI i then σ 161 j else 0) := rfl
          simp only [*, and_self, if_true, if_false, not_false_eq_true, and_false, false_and, and_true] at e
          exact e ▸ ih (by omega) (j + 1) (by omega)
        · refine V_aload_n (pc := 33) d_X12_aboard_33 rfl ?_
          refine P_getR (pc := 34) d_X12_aboard_34 f_X12_74 (tt_139 b) (rr_139_26 b) ?_
          refine V_iload_n (pc := 37) d_X12_aboard_37 rfl ?_
          refine P_iald (pc := 38) (j) d_X12_aboard_38 (tt_161 b) rfl (ln_of (ll_161 b) ⟨by omega, by decide⟩) ?_
          refine V_goto (pc := 39) 43 d_X12_aboard_39 (by decide) ?_
          refine V_iadd (pc := 43) d_X12_aboard_43 ?_
          refine V_istore_n (pc := 44) d_X12_aboard_44 (by decide) ?_
          refine V_iinc (pc := 45) d_X12_aboard_45 rfl (by decide) ?_
          refine V_goto (pc := 48) 4 d_X12_aboard_48 (by decide) ?_
          rw [p1_s]
          have e : aboS σ i (j + 1) = aboS σ i j + (if σ 163 j = 1 ∧ σ 164 j = nI i then σ 161 j else 0) := rfl
          simp only [*, and_self, if_true, if_false, not_false_eq_true, and_false, false_and, and_true] at e
          exact e ▸ ih (by omega) (j + 1) (by omega)
theorem ct_X12_aboard {i nl : Nat} (hn : σ 139 24 = nI nl) (hn12 : nl ≤ 12) (hi5 : i < 5) (hq : K (aboS σ i nl) (σ, sh b)) : CM G mX12_aboard (rl 1) [.ref 139, .int (nI i)] (σ, sh b) (QI K) := by
  refine CM.of (by decide) (Nat.le_of_ble_eq_true rfl) (cats1 rfl) ?_
  refine V_iconst (pc := 0) (0) d_X12_aboard_0 (by decide) ?_
  refine V_istore_n (pc := 1) d_X12_aboard_1 (by decide) ?_
  refine V_iconst (pc := 2) (0) d_X12_aboard_2 (by decide) ?_
  refine V_istore_n (pc := 3) d_X12_aboard_3 (by decide) ?_
  exact lp_ab hn hn12 hi5 hq nl (Nat.le_refl _) 0 (by omega)
theorem ct_X12_draught {i nl : Nat} (hn : σ 139 24 = nI nl) (hn12 : nl ≤ 12) (hi5 : i < 5) (hq : K (draS σ i nl) (σ, sh b)) : CM G mX12_draught (rl 2) [.ref 139, .int (nI i)] (σ, sh b) (QI K) := by
  refine CM.of (by decide) (Nat.le_of_ble_eq_true rfl) (cats1 rfl) ?_
  refine V_aload_n (pc := 0) d_X12_draught_0 rfl ?_
  refine P_getR (pc := 1) d_X12_draught_1 f_X12_38 (tt_139 b) (rr_139_13 b) ?_
  refine V_iload_n (pc := 4) d_X12_draught_4 rfl ?_
  refine P_iald (pc := 5) (i) d_X12_draught_5 (tt_149 b) rfl (ln_of (ll_149 b) ⟨by omega, by decide⟩) ?_
  refine V_aload_n (pc := 6) d_X12_draught_6 rfl ?_
  refine V_iload_n (pc := 7) d_X12_draught_7 rfl ?_
  refine V_cvI (pc := 8) (n := 1) (c := 12) [_] d_X12_draught_8 c_X12_232 k_X12_aboard ⟨rfl, rfl⟩ (tt_139 b) rfl (Nat.le_of_ble_eq_true rfl) ⟨Nat.le_of_ble_eq_true rfl, Nat.le_of_ble_eq_true rfl⟩ ⟨Nat.le_refl _, Nat.le_refl _⟩ (ct_X12_aboard hn hn12 hi5 ?_)
  refine V_bipush (pc := 11) (nI 10) d_X12_draught_11 (by decide) ?_
  refine V_idiv (pc := 13) d_X12_draught_13 (by decide) ?_
  refine V_iadd (pc := 14) d_X12_draught_14 ?_
  exact V_retI (pc := 15) d_X12_draught_15 rfl ⟨Nat.le_refl _, Nat.le_refl _⟩ hq
theorem ct_X12_ahead {dw : Int32} {i ns : Nat} (hi5 : i < 5) (hns : σ 139 2 = nI ns) (hn10 : ns ≤ 10) (hq : K (if 0 ≤ (nxS σ i dw).toInt ∧ (nxS σ i dw).toInt ≤ (ns : Int) - 1 then nxS σ i dw else -1) (σ, sh b)) : CM G mX12_ahead (rl 3) [.ref 139, .int (nI i), .int dw] (σ, sh b) (QI K) := by
  refine CM.of (by decide) (Nat.le_of_ble_eq_true rfl) (cats1 rfl) ?_
  refine V_iload_n (pc := 0) d_X12_ahead_0 rfl ?_
  refine V_if_eq (pc := 1) 13 d_X12_ahead_1 (by decide) (fun c1 => ?_) (fun c1 => ?_)
  · refine V_aload_n (pc := 13) d_X12_ahead_13 rfl ?_
    refine P_getR (pc := 14) d_X12_ahead_14 f_X12_50 (tt_139 b) (rr_139_17 b) ?_
    refine V_iload_n (pc := 17) d_X12_ahead_17 rfl ?_
    refine P_iald (pc := 18) (i) d_X12_ahead_18 (tt_153 b) rfl (ln_of (ll_153 b) ⟨by omega, by decide⟩) ?_
    refine V_iconst (pc := 19) (1) d_X12_ahead_19 (by decide) ?_
    refine V_isub (pc := 20) d_X12_ahead_20 ?_
    refine V_istore_n (pc := 21) d_X12_ahead_21 (by decide) ?_
    refine V_aload_n (pc := 22) d_X12_ahead_22 rfl ?_
    refine V_iload_n (pc := 23) d_X12_ahead_23 rfl ?_
    refine V_cvI (pc := 24) (n := 2) (c := 12) [_] d_X12_ahead_24 c_X12_202 k_X12_isStretch ⟨rfl, rfl⟩ (tt_139 b) rfl (Nat.le_of_ble_eq_true rfl) ⟨Nat.le_of_ble_eq_true rfl, Nat.le_of_ble_eq_true rfl⟩ ⟨Nat.le_refl _, Nat.le_refl _⟩ (ct_X12_isStretch hns (by omega) ?_)
    refine V_if_eq (pc := 27) 34 d_X12_ahead_27 (by decide) (fun c27 => ?_) (fun c27 => ?_)
    · replace c27 := zf c27
      refine V_iconst (pc := 34) (-1) d_X12_ahead_34 (by decide) ?_
      exact V_retI (pc := 35) d_X12_ahead_35 rfl ⟨Nat.le_refl _, Nat.le_refl _⟩ (by first | (simp only [nxS, c1, c27, if_true, if_false, not_false_eq_true, and_self] at hq; exact hq) | (simp only [nxS, c1, if_true, if_false] at hq; rw [if_neg (by assumption)] at hq; exact hq) | (simp only [nxS, c1, if_true, if_false] at hq; rw [if_pos (by assumption)] at hq; exact hq))
    · replace c27 := zt c27
      refine V_iload_n (pc := 30) d_X12_ahead_30 rfl ?_
      refine V_goto (pc := 31) 35 d_X12_ahead_31 (by decide) ?_
      exact V_retI (pc := 35) d_X12_ahead_35 rfl ⟨Nat.le_refl _, Nat.le_refl _⟩ (by first | (simp only [nxS, c1, c27, if_true, if_false, not_false_eq_true, and_self] at hq; exact hq) | (simp only [nxS, c1, if_true, if_false] at hq; rw [if_neg (by assumption)] at hq; exact hq) | (simp only [nxS, c1, if_true, if_false] at hq; rw [if_pos (by assumption)] at hq; exact hq))
  · refine V_aload_n (pc := 4) d_X12_ahead_4 rfl ?_
    refine P_getR (pc := 5) d_X12_ahead_5 f_X12_50 (tt_139 b) (rr_139_17 b) ?_
    refine V_iload_n (pc := 8) d_X12_ahead_8 rfl ?_
    refine P_iald (pc := 9) (i) d_X12_ahead_9 (tt_153 b) rfl (ln_of (ll_153 b) ⟨by omega, by decide⟩) ?_
    refine V_goto (pc := 10) 21 d_X12_ahead_10 (by decide) ?_
    refine V_istore_n (pc := 21) d_X12_ahead_21 (by decide) ?_
    refine V_aload_n (pc := 22) d_X12_ahead_22 rfl ?_
    refine V_iload_n (pc := 23) d_X12_ahead_23 rfl ?_
    refine V_cvI (pc := 24) (n := 2) (c := 12) [_] d_X12_ahead_24 c_X12_202 k_X12_isStretch ⟨rfl, rfl⟩ (tt_139 b) rfl (Nat.le_of_ble_eq_true rfl) ⟨Nat.le_of_ble_eq_true rfl, Nat.le_of_ble_eq_true rfl⟩ ⟨Nat.le_refl _, Nat.le_refl _⟩ (ct_X12_isStretch hns (by omega) ?_)
    refine V_if_eq (pc := 27) 34 d_X12_ahead_27 (by decide) (fun c27 => ?_) (fun c27 => ?_)
    · replace c27 := zf c27
      refine V_iconst (pc := 34) (-1) d_X12_ahead_34 (by decide) ?_
      exact V_retI (pc := 35) d_X12_ahead_35 rfl ⟨Nat.le_refl _, Nat.le_refl _⟩ (by first | (simp only [nxS, c1, c27, if_true, if_false, not_false_eq_true, and_self] at hq; exact hq) | (simp only [nxS, c1, if_true, if_false] at hq; rw [if_neg (by assumption)] at hq; exact hq) | (simp only [nxS, c1, if_true, if_false] at hq; rw [if_pos (by assumption)] at hq; exact hq))
    · replace c27 := zt c27
      refine V_iload_n (pc := 30) d_X12_ahead_30 rfl ?_
      refine V_goto (pc := 31) 35 d_X12_ahead_31 (by decide) ?_
      exact V_retI (pc := 35) d_X12_ahead_35 rfl ⟨Nat.le_refl _, Nat.le_refl _⟩ (by first | (simp only [nxS, c1, c27, if_true, if_false, not_false_eq_true, and_self] at hq; exact hq) | (simp only [nxS, c1, if_true, if_false] at hq; rw [if_neg (by assumption)] at hq; exact hq) | (simp only [nxS, c1, if_true, if_false] at hq; rw [if_pos (by assumption)] at hq; exact hq))
theorem ct_X12_whyNot {ρ : Sg} {dw : Int32} {i q ns nl : Nat} (hH : cH ρ 4 σ) (hC : cC ρ 4 σ) (hS : cS ρ 4 σ ns) (hn10 : ns ≤ 10) (hns : σ 139 2 = nI ns) (hq0 : σ 139 1 = nI q) (hq2 : q ≤ 9599) (hn : σ 139 24 = nI nl) (hn12 : nl ≤ 12) (hi5 : i < 5) (hq : K (whyS σ i ns nl (q / 96) dw (if q % 96 < 24 ∨ 72 ≤ q % 96 then 1 else 0)) (σ, sh b)) : CM G mX12_whyNot (rl 4) [.ref 139, .int (nI i), .int dw] (σ, sh b) (QI K) := by
  refine CM.of (by decide) (Nat.le_of_ble_eq_true rfl) (cats1 rfl) ?_
  refine V_aload_n (pc := 0) d_X12_whyNot_0 rfl ?_
  refine P_getR (pc := 1) d_X12_whyNot_1 f_X12_47 (tt_139 b) (rr_139_16 b) ?_
  refine V_iload_n (pc := 4) d_X12_whyNot_4 rfl ?_
  refine P_iald (pc := 5) (i) d_X12_whyNot_5 (tt_152 b) rfl (ln_of (ll_152 b) ⟨by omega, by decide⟩) ?_
  refine V_if_eq (pc := 6) 11 d_X12_whyNot_6 (by decide) (fun c6 => ?_) (fun c6 => ?_)
  · refine V_aload_n (pc := 11) d_X12_whyNot_11 rfl ?_
    refine V_iload_n (pc := 12) d_X12_whyNot_12 rfl ?_
    refine V_iload_n (pc := 13) d_X12_whyNot_13 rfl ?_
    refine V_cvI (pc := 14) (n := 3) (c := 12) [_, _] d_X12_whyNot_14 c_X12_251 k_X12_ahead ⟨rfl, rfl⟩ (tt_139 b) rfl (Nat.le_of_ble_eq_true rfl) ⟨Nat.le_of_ble_eq_true rfl, Nat.le_of_ble_eq_true rfl⟩ ⟨Nat.le_refl _, Nat.le_refl _⟩ (ct_X12_ahead hi5 hns hn10 ?_)
    by_cases hr : 0 ≤ (nxS σ i dw).toInt ∧ (nxS σ i dw).toInt ≤ (ns : Int) - 1
    · rw [if_pos hr]
      obtain ⟨k, hk, e, e2⟩ := nat_of hr.1 hr.2 (by omega)
      rw [e]
      refine V_istore_n (pc := 17) d_X12_whyNot_17 (by decide) ?_
      refine V_iload_n (pc := 18) d_X12_whyNot_18 rfl ?_
      refine V_iconst (pc := 19) (-1) d_X12_whyNot_19 (by decide) ?_
      refine V_icmp_ne (pc := 20) 25 d_X12_whyNot_20 (by decide) (fun c20 => ?_) (fun c20 => ?_)
      · refine V_bipush (pc := 25) (nI 10) d_X12_whyNot_25 (by decide) ?_
        refine V_iload_n (pc := 27) d_X12_whyNot_27 rfl ?_
        refine V_imul (pc := 28) d_X12_whyNot_28 ?_
        refine V_iload_n (pc := 29) d_X12_whyNot_29 rfl ?_
        refine V_iadd (pc := 30) d_X12_whyNot_30 ?_
        refine V_istore (pc := 31) d_X12_whyNot_31 (by decide) ?_
        refine V_aload_n (pc := 33) d_X12_whyNot_33 rfl ?_
        refine P_getR (pc := 34) d_X12_whyNot_34 f_X12_65 (tt_139 b) (rr_139_22 b) ?_
        refine V_iload (pc := 37) d_X12_whyNot_37 rfl ?_
        refine P_iald (pc := 39) (((10 * i) + k)) d_X12_whyNot_39 (tt_158 b) (by simp only [nI_add, pk_mul, nI_1]) (ln_of (ll_158 b) ⟨by omega, by decide⟩) ?_
        refine V_iconst (pc := 40) (-1) d_X12_whyNot_40 (by decide) ?_
        refine V_icmp_eq (pc := 41) 61 d_X12_whyNot_41 (by decide) (fun c41 => ?_) (fun c41 => ?_)
        · refine V_aload_n (pc := 61) d_X12_whyNot_61 rfl ?_
          refine P_getR (pc := 62) d_X12_whyNot_62 f_X12_59 (tt_139 b) (rr_139_20 b) ?_
          refine V_iload_n (pc := 65) d_X12_whyNot_65 rfl ?_
          refine P_iald (pc := 66) (i) d_X12_whyNot_66 (tt_156 b) rfl (ln_of (ll_156 b) ⟨by omega, by decide⟩) ?_
          refine V_aload_n (pc := 67) d_X12_whyNot_67 rfl ?_
          refine V_iload_n (pc := 68) d_X12_whyNot_68 rfl ?_
          refine V_aload_n (pc := 69) d_X12_whyNot_69 rfl ?_
          refine V_cvI (pc := 70) (n := 1) (c := 12) [] d_X12_whyNot_70 c_X12_221 k_X12_isNight ⟨rfl, rfl⟩ (tt_139 b) rfl (Nat.le_of_ble_eq_true rfl) ⟨Nat.le_of_ble_eq_true rfl, Nat.le_of_ble_eq_true rfl⟩ ⟨Nat.le_refl _, Nat.le_refl _⟩ (ct_X12_isNight hq0 hq2 ?_)
          refine V_cvI (pc := 73) (n := 2) (c := 12) [_, _] d_X12_whyNot_73 c_X12_225 k_X12_longOf ⟨rfl, rfl⟩ (tt_139 b) rfl (Nat.le_of_ble_eq_true rfl) ⟨Nat.le_of_ble_eq_true rfl, Nat.le_of_ble_eq_true rfl⟩ ⟨Nat.le_refl _, Nat.le_refl _⟩ (ct_X12_longOf hH hC hS hk hn10 hq0 hq2 ?_)
          refine B_icmp_ge (pc := 76) 83 d_X12_whyNot_76 (by decide) (fun c76 => ?_) (fun c76 => ?_)
          · refine V_iconst (pc := 83) (0) d_X12_whyNot_83 (by decide) ?_
            exact V_retI (pc := 84) d_X12_whyNot_84 rfl ⟨Nat.le_refl _, Nat.le_refl _⟩ (by first | simpa (disch := omega) [-Int.not_lt, -Int.not_le, nI_eq, nI_eq0, nI_eq1, nI_e0n, nI_e1n, whyS, e2, hr.1, hr.2, c6, c20, c41, c76] using hq | (exfalso; simp_all [show nI 2 = (2 : Int32) from rfl, show nI 3 = (3 : Int32) from rfl, show nI 4 = (4 : Int32) from rfl, show nI 5 = (5 : Int32) from rfl, show nI 6 = (6 : Int32) from rfl, show nI 7 = (7 : Int32) from rfl, show nI 8 = (8 : Int32) from rfl, show nI 9 = (9 : Int32) from rfl]; done))
          · refine V_iconst (pc := 79) (nI 4) d_X12_whyNot_79 (by decide) ?_
            refine V_goto (pc := 80) 84 d_X12_whyNot_80 (by decide) ?_
            exact V_retI (pc := 84) d_X12_whyNot_84 rfl ⟨Nat.le_refl _, Nat.le_refl _⟩ (by first | simpa (disch := omega) [-Int.not_lt, -Int.not_le, nI_eq, nI_eq0, nI_eq1, nI_e0n, nI_e1n, whyS, e2, hr.1, hr.2, c6, c20, c41, c76] using hq | (exfalso; simp_all [show nI 2 = (2 : Int32) from rfl, show nI 3 = (3 : Int32) from rfl, show nI 4 = (4 : Int32) from rfl, show nI 5 = (5 : Int32) from rfl, show nI 6 = (6 : Int32) from rfl, show nI 7 = (7 : Int32) from rfl, show nI 8 = (8 : Int32) from rfl, show nI 9 = (9 : Int32) from rfl]; done))
        · refine V_aload_n (pc := 44) d_X12_whyNot_44 rfl ?_
          refine P_getR (pc := 45) d_X12_whyNot_45 f_X12_62 (tt_139 b) (rr_139_21 b) ?_
          refine V_iload (pc := 48) d_X12_whyNot_48 rfl ?_
          refine P_iald (pc := 50) (((10 * i) + k)) d_X12_whyNot_50 (tt_157 b) (by simp only [nI_add, pk_mul, nI_1]) (ln_of (ll_157 b) ⟨by omega, by decide⟩) ?_
          refine V_aload_n (pc := 51) d_X12_whyNot_51 rfl ?_
          refine V_iload_n (pc := 52) d_X12_whyNot_52 rfl ?_
          refine V_cvI (pc := 53) (n := 2) (c := 12) [_] d_X12_whyNot_53 c_X12_241 k_X12_draught ⟨rfl, rfl⟩ (tt_139 b) rfl (Nat.le_of_ble_eq_true rfl) ⟨Nat.le_of_ble_eq_true rfl, Nat.le_of_ble_eq_true rfl⟩ ⟨Nat.le_refl _, Nat.le_refl _⟩ (ct_X12_draught hn hn12 hi5 ?_)
          refine B_icmp_ge (pc := 56) 61 d_X12_whyNot_56 (by decide) (fun c56 => ?_) (fun c56 => ?_)
          · refine V_aload_n (pc := 61) d_X12_whyNot_61 rfl ?_
            refine P_getR (pc := 62) d_X12_whyNot_62 f_X12_59 (tt_139 b) (rr_139_20 b) ?_
            refine V_iload_n (pc := 65) d_X12_whyNot_65 rfl ?_
            refine P_iald (pc := 66) (i) d_X12_whyNot_66 (tt_156 b) rfl (ln_of (ll_156 b) ⟨by omega, by decide⟩) ?_
            refine V_aload_n (pc := 67) d_X12_whyNot_67 rfl ?_
            refine V_iload_n (pc := 68) d_X12_whyNot_68 rfl ?_
            refine V_aload_n (pc := 69) d_X12_whyNot_69 rfl ?_
            refine V_cvI (pc := 70) (n := 1) (c := 12) [] d_X12_whyNot_70 c_X12_221 k_X12_isNight ⟨rfl, rfl⟩ (tt_139 b) rfl (Nat.le_of_ble_eq_true rfl) ⟨Nat.le_of_ble_eq_true rfl, Nat.le_of_ble_eq_true rfl⟩ ⟨Nat.le_refl _, Nat.le_refl _⟩ (ct_X12_isNight hq0 hq2 ?_)
            refine V_cvI (pc := 73) (n := 2) (c := 12) [_, _] d_X12_whyNot_73 c_X12_225 k_X12_longOf ⟨rfl, rfl⟩ (tt_139 b) rfl (Nat.le_of_ble_eq_true rfl) ⟨Nat.le_of_ble_eq_true rfl, Nat.le_of_ble_eq_true rfl⟩ ⟨Nat.le_refl _, Nat.le_refl _⟩ (ct_X12_longOf hH hC hS hk hn10 hq0 hq2 ?_)
            refine B_icmp_ge (pc := 76) 83 d_X12_whyNot_76 (by decide) (fun c76 => ?_) (fun c76 => ?_)
            · refine V_iconst (pc := 83) (0) d_X12_whyNot_83 (by decide) ?_
              exact V_retI (pc := 84) d_X12_whyNot_84 rfl ⟨Nat.le_refl _, Nat.le_refl _⟩ (by first | simpa (disch := omega) [-Int.not_lt, -Int.not_le, nI_eq, nI_eq0, nI_eq1, nI_e0n, nI_e1n, whyS, e2, hr.1, hr.2, c6, c20, c41, c56, c76] using hq | (exfalso; simp_all [show nI 2 = (2 : Int32) from rfl, show nI 3 = (3 : Int32) from rfl, show nI 4 = (4 : Int32) from rfl, show nI 5 = (5 : Int32) from rfl, show nI 6 = (6 : Int32) from rfl, show nI 7 = (7 : Int32) from rfl, show nI 8 = (8 : Int32) from rfl, show nI 9 = (9 : Int32) from rfl]; done))
            · refine V_iconst (pc := 79) (nI 4) d_X12_whyNot_79 (by decide) ?_
              refine V_goto (pc := 80) 84 d_X12_whyNot_80 (by decide) ?_
              exact V_retI (pc := 84) d_X12_whyNot_84 rfl ⟨Nat.le_refl _, Nat.le_refl _⟩ (by first | simpa (disch := omega) [-Int.not_lt, -Int.not_le, nI_eq, nI_eq0, nI_eq1, nI_e0n, nI_e1n, whyS, e2, hr.1, hr.2, c6, c20, c41, c56, c76] using hq | (exfalso; simp_all [show nI 2 = (2 : Int32) from rfl, show nI 3 = (3 : Int32) from rfl, show nI 4 = (4 : Int32) from rfl, show nI 5 = (5 : Int32) from rfl, show nI 6 = (6 : Int32) from rfl, show nI 7 = (7 : Int32) from rfl, show nI 8 = (8 : Int32) from rfl, show nI 9 = (9 : Int32) from rfl]; done))
          · refine V_iconst (pc := 59) (nI 3) d_X12_whyNot_59 (by decide) ?_
            exact V_retI (pc := 60) d_X12_whyNot_60 rfl ⟨Nat.le_refl _, Nat.le_refl _⟩ (by first | simpa (disch := omega) [-Int.not_lt, -Int.not_le, nI_eq, nI_eq0, nI_eq1, nI_e0n, nI_e1n, whyS, e2, hr.1, hr.2, c6, c20, c41, c56] using hq | (exfalso; simp_all [show nI 2 = (2 : Int32) from rfl, show nI 3 = (3 : Int32) from rfl, show nI 4 = (4 : Int32) from rfl, show nI 5 = (5 : Int32) from rfl, show nI 6 = (6 : Int32) from rfl, show nI 7 = (7 : Int32) from rfl, show nI 8 = (8 : Int32) from rfl, show nI 9 = (9 : Int32) from rfl]; done))
      · refine V_iconst (pc := 23) (nI 2) d_X12_whyNot_23 (by decide) ?_
        exact V_retI (pc := 24) d_X12_whyNot_24 rfl ⟨Nat.le_refl _, Nat.le_refl _⟩ (by first | simpa (disch := omega) [-Int.not_lt, -Int.not_le, nI_eq, nI_eq0, nI_eq1, nI_e0n, nI_e1n, whyS, e2, hr.1, hr.2, c6, c20] using hq | (exfalso; simp_all [show nI 2 = (2 : Int32) from rfl, show nI 3 = (3 : Int32) from rfl, show nI 4 = (4 : Int32) from rfl, show nI 5 = (5 : Int32) from rfl, show nI 6 = (6 : Int32) from rfl, show nI 7 = (7 : Int32) from rfl, show nI 8 = (8 : Int32) from rfl, show nI 9 = (9 : Int32) from rfl]; done))
    · rw [if_neg hr]
      refine V_istore_n (pc := 17) d_X12_whyNot_17 (by decide) ?_
      refine V_iload_n (pc := 18) d_X12_whyNot_18 rfl ?_
      refine V_iconst (pc := 19) (-1) d_X12_whyNot_19 (by decide) ?_
      refine V_icmp_ne (pc := 20) 25 d_X12_whyNot_20 (by decide) (fun c20 => ?_) (fun c20 => ?_)
      · exact absurd rfl c20
      · refine V_iconst (pc := 23) (nI 2) d_X12_whyNot_23 (by decide) ?_
        exact V_retI (pc := 24) d_X12_whyNot_24 rfl ⟨Nat.le_refl _, Nat.le_refl _⟩ (by first | simpa (disch := omega) [-Int.not_lt, -Int.not_le, nI_eq, nI_eq0, nI_eq1, nI_e0n, nI_e1n, whyS, hr, c6, c20] using hq | (exfalso; simp_all [show nI 2 = (2 : Int32) from rfl, show nI 3 = (3 : Int32) from rfl, show nI 4 = (4 : Int32) from rfl, show nI 5 = (5 : Int32) from rfl, show nI 6 = (6 : Int32) from rfl, show nI 7 = (7 : Int32) from rfl, show nI 8 = (8 : Int32) from rfl, show nI 9 = (9 : Int32) from rfl]; done))
  · refine V_iconst (pc := 9) (1) d_X12_whyNot_9 (by decide) ?_
    exact V_retI (pc := 10) d_X12_whyNot_10 rfl ⟨Nat.le_refl _, Nat.le_refl _⟩ (by first | simpa (disch := omega) [-Int.not_lt, -Int.not_le, nI_eq, nI_eq0, nI_eq1, nI_e0n, nI_e1n, whyS, c6] using hq | (exfalso; simp_all [show nI 2 = (2 : Int32) from rfl, show nI 3 = (3 : Int32) from rfl, show nI 4 = (4 : Int32) from rfl, show nI 5 = (5 : Int32) from rfl, show nI 6 = (6 : Int32) from rfl, show nI 7 = (7 : Int32) from rfl, show nI 8 = (8 : Int32) from rfl, show nI 9 = (9 : Int32) from rfl]; done))
end HC
