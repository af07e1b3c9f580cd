theorem cW_q {σ V : Sg} {w m ns k : Nat} (h : cW σ w V m ns) (hk : k < 10) : σ (w + 1) k = V 158 (m + k) := (h k hk).1
theorem cW_w {σ V : Sg} {w m ns k : Nat} (h : cW σ w V m ns) (hk : k < 10) (hq : ¬ V 158 (m + k) = -1) : σ w k = V 157 (m + k) := ((h k hk).2.resolve_left hq).2.2
def whyS (V : Sg) (i ns nl d : Nat) (dw : Int32) (ni : Int32) : Int32 :=
  if ¬ V 152 i = 0 then 1
  else if ¬ (0 ≤ (if dw = 0 then V 153 i - 1 else V 153 i).toInt ∧ (if dw = 0 then V 153 i - 1 else V 153 i).toInt ≤ (ns : Int) - 1) then nI 2
  else if ¬ V 158 (10 * i + (if dw = 0 then V 153 i - 1 else V 153 i).toNatClampNeg) = -1 ∧ (V 157 (10 * i + (if dw = 0 then V 153 i - 1 else V 153 i).toNatClampNeg)).toInt < (draS V i nl).toInt then nI 3
  else if (V 156 i).toInt < (longS V (if dw = 0 then V 153 i - 1 else V 153 i).toNatClampNeg d ni).toInt then nI 4 else 0
theorem nat_of {x : Int32} {n : Nat} (h0 : 0 ≤ x.toInt) (h1 : x.toInt ≤ (n : Int) - 1) (hn : n ≤ 10000) : ∃ k : Nat, k < n ∧ x = nI k ∧ x.toNatClampNeg = k := by
  obtain ⟨j, hj, rfl⟩ := nI_of (x := x) (by rw [Int32.lt_iff_toInt_lt, ti0]; omega)
  rw [nI_toInt hj] at h1
  exact ⟨j, by omega, rfl, nI_clamp hj⟩
section HC
variable {G : Gl} {R : Room} {F : Fn} {K : Int32 → Hp → Prop} {KV : Hp → Prop} {σ : Nat → Nat → Int32} {b : Bool}
theorem lp_ab {i nl : Nat} (hn : σ 139 24 = nI nl) (hn12 : nl ≤ 12) (hi5 : i < 5) (hq : K (aboS σ i nl) (σ, sh b)) : ∀ n, n ≤ nl → ∀ j, j + n = nl → V G mX12_aboard (rl 1) (FM G (rl 1) (QI K)) 0 0 4 [some (.ref 139), some (.int (nI i)), some (.int (aboS σ i j)), some (.int (nI j))] [] (σ, sh b) := by
  intro n
  induction n with
  | zero =>
    intro hx j hj
    obtain rfl : j = nl := by omega
    refine V_iload_n (pc := 4) d_X12_aboard_4 rfl ?_
    refine V_aload_n (pc := 5) d_X12_aboard_5 rfl ?_
    refine P_getI (pc := 6) d_X12_aboard_6 f_X12_181 (tt_139 b) ?_
    rw [hn]
    refine B_icmp_ge (pc := 9) 51 d_X12_aboard_9 (by decide) (fun c9 => ?_) (fun c9 => ?_)
    · simp (disch := omega) only [nI_toInt, ti0, ti1, tim1, tim20, tim1000] at c9
      refine V_iload_n (pc := 51) d_X12_aboard_51 rfl ?_
      exact V_retI (pc := 52) d_X12_aboard_52 rfl ⟨Nat.le_refl _, Nat.le_refl _⟩ hq
    · simp (disch := omega) only [nI_toInt, ti0, ti1, tim1, tim20, tim1000] at c9
      omega
  | succ n ih =>
    intro hx j hj
    refine V_iload_n (pc := 4) d_X12_aboard_4 rfl ?_
    refine V_aload_n (pc := 5) d_X12_aboard_5 rfl ?_
    refine P_getI (pc := 6) d_X12_aboard_6 f_X12_181 (tt_139 b) ?_
    rw [hn]
    refine B_icmp_ge (pc := 9) 51 d_X12_aboard_9 (by decide) (fun c9 => ?_) (fun c9 => ?_)
    · simp (disch := omega) only [nI_toInt, ti0, ti1, tim1, tim20, tim1000] at c9
      omega
    · simp (disch := omega) only [nI_toInt, ti0, ti1, tim1, tim20, tim1000] at c9
      refine V_iload_n (pc := 12) d_X12_aboard_12 rfl ?_
      refine V_aload_n (pc := 13) d_X12_aboard_13 rfl ?_
      refine P_getR (pc := 14) d_X12_aboard_14 f_X12_80 (tt_139 b) (rr_139_28 b) ?_
      refine V_iload_n (pc := 17) d_X12_aboard_17 rfl ?_
      refine P_iald (pc := 18) (j) d_X12_aboard_18 (tt_163 b) rfl (ln_of (ll_163 b) ⟨by omega, by decide⟩) ?_
      refine V_iconst (pc := 19) (1) d_X12_aboard_19 (by decide) ?_
      refine V_icmp_ne (pc := 20) 42 d_X12_aboard_20 (by decide) (fun c20 => ?_) (fun c20 => ?_)
      · refine V_iconst (pc := 42) (0) d_X12_aboard_42 (by decide) ?_
        refine V_iadd (pc := 43) d_X12_aboard_43 ?_
        refine V_istore_n (pc := 44) d_X12_aboard_44 (by decide) ?_
        refine V_iinc (pc := 45) d_X12_aboard_45 rfl (by decide) ?_
        refine V_goto (pc := 48) 4 d_X12_aboard_48 (by decide) ?_
        rw [p1_s]
        have e : aboS σ i (j + 1) = aboS σ i j + (if σ 163 j = 1 ∧ σ 164 j = nI i then σ 161 j else 0) := rfl
        simp only [*, and_self, if_true, if_false, not_false_eq_true, and_false, false_and, and_true] at e
        exact e ▸ ih (by omega) (j + 1) (by omega)
      · refine V_aload_n (pc := 23) d_X12_aboard_23 rfl ?_
        refine P_getR (pc := 24) d_X12_aboard_24 f_X12_83 (tt_139 b) (rr_139_29 b) ?_
        refine V_iload_n (pc := 27) d_X12_aboard_27 rfl ?_
        refine P_iald (pc := 28) (j) d_X12_aboard_28 (tt_164 b) rfl (ln_of (ll_164 b) ⟨by omega, by decide⟩) ?_
        refine V_iload_n (pc := 29) d_X12_aboard_29 rfl ?_
        refine V_icmp_ne (pc := 30) 42 d_X12_aboard_30 (by decide) (fun c30 => ?_) (fun c30 => ?_)
        · refine V_iconst (pc := 42) (0) d_X12_aboard_42 (by decide) ?_
          refine V_iadd (pc := 43) d_X12_aboard_43 ?_
          refine V_istore_n (pc := 44) d_X12_aboard_44 (by decide) ?_
          refine V_iinc (pc := 45) d_X12_aboard_45 rfl (by decide) ?_
          refine V_goto (pc := 48) 4 d_X12_aboard_48 (by decide) ?_
          rw [p1_s]
          have e : aboS σ i (j + 1) = aboS σ i j + (if σ 163 j = 1 ∧ σ 164 j = nI i then σ 161 j else 0) := rfl
          simp only [*, and_self, if_true, if_false, not_false_eq_true, and_false, false_and, and_true] at e
          exact e ▸ ih (by omega) (j + 1) (by omega)
        · refine V_aload_n (pc := 33) d_X12_aboard_33 rfl ?_
          refine P_getR (pc := 34) d_X12_aboard_34 f_X12_74 (tt_139 b) (rr_139_26 b) ?_
          refine V_iload_n (pc := 37) d_X12_aboard_37 rfl ?_
          refine P_iald (pc := 38) (j) d_X12_aboard_38 (tt_161 b) rfl (ln_of (ll_161 b) ⟨by omega, by decide⟩) ?_
          refine V_goto (pc := 39) 43 d_X12_aboard_39 (by decide) ?_
          refine V_iadd (pc := 43) d_X12_aboard_43 ?_
          refine V_istore_n (pc := 44) d_X12_aboard_44 (by decide) ?_
          refine V_iinc (pc := 45) d_X12_aboard_45 rfl (by decide) ?_
          refine V_goto (pc := 48) 4 d_X12_aboard_48 (by decide) ?_
          rw [p1_s]
          have e : aboS σ i (j + 1) = aboS σ i j + (if σ 163 j = 1 ∧ σ 164 j = nI i then σ 161 j else 0) := rfl
          simp only [*, and_self, if_true, if_false, not_false_eq_true, and_false, false_and, and_true] at e
          exact e ▸ ih (by omega) (j + 1) (by omega)
theorem ct_X12_aboard {i nl : Nat} (hn : σ 139 24 = nI nl) (hn12 : nl ≤ 12) (hi5 : i < 5) (hq : K (aboS σ i nl) (σ, sh b)) : CM G mX12_aboard (rl 1) [.ref 139, .int (nI i)] (σ, sh b) (QI K) := by
  refine CM.of (by decide) (Nat.le_of_ble_eq_true rfl) (cats1 rfl) ?_
  refine V_iconst (pc := 0) (0) d_X12_aboard_0 (by decide) ?_
  refine V_istore_n (pc := 1) d_X12_aboard_1 (by decide) ?_
  refine V_iconst (pc := 2) (0) d_X12_aboard_2 (by decide) ?_
  refine V_istore_n (pc := 3) d_X12_aboard_3 (by decide) ?_
  exact lp_ab hn hn12 hi5 hq nl (Nat.le_refl _) 0 (by omega)
theorem ct_X12_draught {i nl : Nat} (hn : σ 139 24 = nI nl) (hn12 : nl ≤ 12) (hi5 : i < 5) (hq : K (draS σ i nl) (σ, sh b)) : CM G mX12_draught (rl 2) [.ref 139, .int (nI i)] (σ, sh b) (QI K) := by
  refine CM.of (by decide) (Nat.le_of_ble_eq_true rfl) (cats1 rfl) ?_
  refine V_aload_n (pc := 0) d_X12_draught_0 rfl ?_
  refine P_getR (pc := 1) d_X12_draught_1 f_X12_38 (tt_139 b) (rr_139_13 b) ?_
  refine V_iload_n (pc := 4) d_X12_draught_4 rfl ?_
  refine P_iald (pc := 5) (i) d_X12_draught_5 (tt_149 b) rfl (ln_of (ll_149 b) ⟨by omega, by decide⟩) ?_
  refine V_aload_n (pc := 6) d_X12_draught_6 rfl ?_
  refine V_iload_n (pc := 7) d_X12_draught_7 rfl ?_
  refine V_cvI (pc := 8) (n := 1) (c := 12) [_] d_X12_draught_8 c_X12_232 k_X12_aboard ⟨rfl, rfl⟩ (tt_139 b) rfl (Nat.le_of_ble_eq_true rfl) ⟨Nat.le_of_ble_eq_true rfl, Nat.le_of_ble_eq_true rfl⟩ ⟨Nat.le_refl _, Nat.le_refl _⟩ (ct_X12_aboard hn hn12 hi5 ?_)
  refine V_bipush (pc := 11) (nI 10) d_X12_draught_11 (by decide) ?_
  refine V_idiv (pc := 13) d_X12_draught_13 (by decide) ?_
  refine V_iadd (pc := 14) d_X12_draught_14 ?_
  exact V_retI (pc := 15) d_X12_draught_15 rfl ⟨Nat.le_refl _, Nat.le_refl _⟩ hq
theorem ct_X12_ahead {dw : Int32} {i ns : Nat} (hi5 : i < 5) (hns : σ 139 2 = nI ns) (hn10 : ns ≤ 10) (hq : K (if 0 ≤ (if dw = 0 then σ 153 i - 1 else σ 153 i).toInt ∧ (if dw = 0 then σ 153 i - 1 else σ 153 i).toInt ≤ (ns : Int) - 1 then (if dw = 0 then σ 153 i - 1 else σ 153 i) else -1) (σ, sh b)) : CM G mX12_ahead (rl 3) [.ref 139, .int (nI i), .int dw] (σ, sh b) (QI K) := by
  refine CM.of (by decide) (Nat.le_of_ble_eq_true rfl) (cats1 rfl) ?_
  refine V_iload_n (pc := 0) d_X12_ahead_0 rfl ?_
  refine V_if_eq (pc := 1) 13 d_X12_ahead_1 (by decide) (fun c1 => ?_) (fun c1 => ?_)
  · refine V_aload_n (pc := 13) d_X12_ahead_13 rfl ?_
    refine P_getR (pc := 14) d_X12_ahead_14 f_X12_50 (tt_139 b) (rr_139_17 b) ?_
    refine V_iload_n (pc := 17) d_X12_ahead_17 rfl ?_
    refine P_iald (pc := 18) (i) d_X12_ahead_18 (tt_153 b) rfl (ln_of (ll_153 b) ⟨by omega, by decide⟩) ?_
    refine V_iconst (pc := 19) (1) d_X12_ahead_19 (by decide) ?_
    refine V_isub (pc := 20) d_X12_ahead_20 ?_
    refine V_istore_n (pc := 21) d_X12_ahead_21 (by decide) ?_
    refine V_aload_n (pc := 22) d_X12_ahead_22 rfl ?_
    refine V_iload_n (pc := 23) d_X12_ahead_23 rfl ?_
    refine V_cvI (pc := 24) (n := 2) (c := 12) [_] d_X12_ahead_24 c_X12_202 k_X12_isStretch ⟨rfl, rfl⟩ (tt_139 b) rfl (Nat.le_of_ble_eq_true rfl) ⟨Nat.le_of_ble_eq_true rfl, Nat.le_of_ble_eq_true rfl⟩ ⟨Nat.le_refl _, Nat.le_refl _⟩ (ct_X12_isStretch hns (by omega) ?_)
    refine V_if_eq (pc := 27) 34 d_X12_ahead_27 (by decide) (fun c27 => ?_) (fun c27 => ?_)
    · replace c27 := zf c27
      refine V_iconst (pc := 34) (-1) d_X12_ahead_34 (by decide) ?_
      exact V_retI (pc := 35) d_X12_ahead_35 rfl ⟨Nat.le_refl _, Nat.le_refl _⟩ (by first | (simp only [c1, c27, if_true, if_false, not_false_eq_true, and_self] at hq; exact hq) | (simp only [c1, if_true, if_false] at hq; rw [if_neg (by assumption)] at hq; exact hq) | (simp only [c1, if_true, if_false] at hq; rw [if_pos (by assumption)] at hq; exact hq))
    · replace c27 := zt c27
      refine V_iload_n (pc := 30) d_X12_ahead_30 rfl ?_
      refine V_goto (pc := 31) 35 d_X12_ahead_31 (by decide) ?_
      exact V_retI (pc := 35) d_X12_ahead_35 rfl ⟨Nat.le_refl _, Nat.le_refl _⟩ (by first | (simp only [c1, c27, if_true, if_false, not_false_eq_true, and_self] at hq; exact hq) | (simp only [c1, if_true, if_false] at hq; rw [if_neg (by assumption)] at hq; exact hq) | (simp only [c1, if_true, if_false] at hq; rw [if_pos (by assumption)] at hq; exact hq))
  · refine V_aload_n (pc := 4) d_X12_ahead_4 rfl ?_
    refine P_getR (pc := 5) d_X12_ahead_5 f_X12_50 (tt_139 b) (rr_139_17 b) ?_
    refine V_iload_n (pc := 8) d_X12_ahead_8 rfl ?_
    refine P_iald (pc := 9) (i) d_X12_ahead_9 (tt_153 b) rfl (ln_of (ll_153 b) ⟨by omega, by decide⟩) ?_
    refine V_goto (pc := 10) 21 d_X12_ahead_10 (by decide) ?_
    refine V_istore_n (pc := 21) d_X12_ahead_21 (by decide) ?_
    refine V_aload_n (pc := 22) d_X12_ahead_22 rfl ?_
    refine V_iload_n (pc := 23) d_X12_ahead_23 rfl ?_
    refine V_cvI (pc := 24) (n := 2) (c := 12) [_] d_X12_ahead_24 c_X12_202 k_X12_isStretch ⟨rfl, rfl⟩ (tt_139 b) rfl (Nat.le_of_ble_eq_true rfl) ⟨Nat.le_of_ble_eq_true rfl, Nat.le_of_ble_eq_true rfl⟩ ⟨Nat.le_refl _, Nat.le_refl _⟩ (ct_X12_isStretch hns (by omega) ?_)
    refine V_if_eq (pc := 27) 34 d_X12_ahead_27 (by decide) (fun c27 => ?_) (fun c27 => ?_)
    · replace c27 := zf c27
      refine V_iconst (pc := 34) (-1) d_X12_ahead_34 (by decide) ?_
      exact V_retI (pc := 35) d_X12_ahead_35 rfl ⟨Nat.le_refl _, Nat.le_refl _⟩ (by first | (simp only [c1, c27, if_true, if_false, not_false_eq_true, and_self] at hq; exact hq) | (simp only [c1, if_true, if_false] at hq; rw [if_neg (by assumption)] at hq; exact hq) | (simp only [c1, if_true, if_false] at hq; rw [if_pos (by assumption)] at hq; exact hq))
    · replace c27 := zt c27
      refine V_iload_n (pc := 30) d_X12_ahead_30 rfl ?_
      refine V_goto (pc := 31) 35 d_X12_ahead_31 (by decide) ?_
      exact V_retI (pc := 35) d_X12_ahead_35 rfl ⟨Nat.le_refl _, Nat.le_refl _⟩ (by first | (simp only [c1, c27, if_true, if_false, not_false_eq_true, and_self] at hq; exact hq) | (simp only [c1, if_true, if_false] at hq; rw [if_neg (by assumption)] at hq; exact hq) | (simp only [c1, if_true, if_false] at hq; rw [if_pos (by assumption)] at hq; exact hq))
end HC
