/-- bodies noted from place n on, of the class; of the reference -/
def ntC (σ : Sg) (n : Nat) : List Int32 → Sg
  | [] => σ
  | e :: l => ntC (up2 (up2 σ 125 n e) 124 0 (nI (n + 1))) (n + 1) l
def ntM (σ : Sg) (n : Nat) : List Int32 → Sg
  | [] => σ
  | e :: l => ntM (up2 (up2 σ 187 n e) 139 59 (nI (n + 1))) (n + 1) l
theorem ntC_o {a i : Nat} (h : ¬ (a = 125 ∨ (a = 124 ∧ i = 0))) : ∀ {l : List Int32} {σ : Sg} {n : Nat}, ntC σ n l a i = σ a i
  | [], _, _ => rfl
  | e :: l, σ, n => by
    rw [ntC, ntC_o h, up2_n (by omega), up2_n (by omega)]
theorem ntM_o {a i : Nat} (h : ¬ (a = 187 ∨ (a = 139 ∧ i = 59))) : ∀ {l : List Int32} {σ : Sg} {n : Nat}, ntM σ n l a i = σ a i
  | [], _, _ => rfl
  | e :: l, σ, n => by
    rw [ntM, ntM_o h, up2_n (by omega), up2_n (by omega)]
theorem ntC_c : ∀ {l : List Int32} {σ : Sg} {n : Nat}, σ 124 0 = nI n → ntC σ n l 124 0 = nI (n + l.length)
  | [], _, _, h => h
  | e :: l, σ, n, _ => by
    rw [ntC, ntC_c (n := n + 1) (up2_e ⟨rfl, rfl⟩), List.length_cons]
    exact congrArg nI (by omega)
theorem ntM_c : ∀ {l : List Int32} {σ : Sg} {n : Nat}, σ 139 59 = nI n → ntM σ n l 139 59 = nI (n + l.length)
  | [], _, _, h => h
  | e :: l, σ, n, _ => by
    rw [ntM, ntM_c (n := n + 1) (up2_e ⟨rfl, rfl⟩), List.length_cons]
    exact congrArg nI (by omega)
theorem ntC_lo : ∀ {l : List Int32} {σ : Sg} {n i : Nat}, i < n → ntC σ n l 125 i = σ 125 i
  | [], _, _, _, _ => rfl
  | e :: l, σ, n, i, h => by rw [ntC, ntC_lo (by omega), up2_n (by omega), up2_n (by omega)]
theorem ntM_lo : ∀ {l : List Int32} {σ : Sg} {n i : Nat}, i < n → ntM σ n l 187 i = σ 187 i
  | [], _, _, _, _ => rfl
  | e :: l, σ, n, i, h => by rw [ntM, ntM_lo (by omega), up2_n (by omega), up2_n (by omega)]
theorem nt_eq : ∀ {l : List Int32} {σ τ : Sg} {n j : Nat}, j < l.length → ntC σ n l 125 (n + j) = ntM τ n l 187 (n + j)
  | [], _, _, _, _, h => absurd h (by simp)
  | e :: l, σ, τ, n, j, h => by
    rw [ntC, ntM]
    rw [List.length_cons] at h
    match j, h with
    | 0, _ =>
      show ntC _ (n + 1) l 125 n = ntM _ (n + 1) l 187 n
      rw [ntC_lo (by omega), ntM_lo (by omega), up2_n (by omega), up2_y, up2_n (by omega), up2_y]
    | j + 1, h =>
      rw [show n + (j + 1) = n + 1 + j by omega]
      exact nt_eq (by omega)
theorem ntC_app : ∀ {l1 l2 : List Int32} {σ : Sg} {n : Nat}, ntC (ntC σ n l1) (n + l1.length) l2 = ntC σ n (l1 ++ l2)
  | [], _, _, _ => rfl
  | e :: l1, l2, σ, n => by
    rw [List.cons_append, ntC, ntC, List.length_cons, show n + (l1.length + 1) = n + 1 + l1.length by omega]
    exact ntC_app
theorem ntM_app : ∀ {l1 l2 : List Int32} {σ : Sg} {n : Nat}, ntM (ntM σ n l1) (n + l1.length) l2 = ntM σ n (l1 ++ l2)
  | [], _, _, _ => rfl
  | e :: l1, l2, σ, n => by
    rw [List.cons_append, ntM, ntM, List.length_cons, show n + (l1.length + 1) = n + 1 + l1.length by omega]
    exact ntM_app
section HC
variable {G : Gl} {R : Room} {F : Fn} {K : Int32 → Hp → Prop} {KV : Hp → Prop} {σ : Nat → Nat → Int32} {b : Bool}
theorem ct_X0_note {n : Nat} {e : Int32} (hn : n < 50) (h0 : σ 124 0 = nI n) (hq : KV (ntC σ n [e], sh b)) : CM G mX0_note (rl 1) [.ref 124, .int e] (σ, sh b) (QV KV) := by
  refine CM.of (by decide) (Nat.le_of_ble_eq_true rfl) (cats1 rfl) ?_
  refine V_aload_n (pc := 0) d_X0_note_0 rfl ?_
  refine P_getI (pc := 1) d_X0_note_1 f_X0_9 (tt_124 b) ?_
  rw [h0]
  refine V_bipush (pc := 4) (nI 50) d_X0_note_4 (by decide) ?_
  refine B_icmp_ge (pc := 6) 29 d_X0_note_6 (by decide) (fun c6 => ?_) (fun c6 => ?_)
  · simp (disch := omega) only [show (nI 50).toInt = 50 from by decide, nI_toInt, ti0, ti1, tim1, tim20, tim1000] at c6
    exfalso
    omega
  · simp (disch := omega) only [show (nI 50).toInt = 50 from by decide, nI_toInt, ti0, ti1, tim1, tim20, tim1000] at c6
    refine V_aload_n (pc := 9) d_X0_note_9 rfl ?_
    refine P_getR (pc := 10) d_X0_note_10 f_X0_15 (tt_124 b) (rr_124_1 b) ?_
    refine V_aload_n (pc := 13) d_X0_note_13 rfl ?_
    refine P_getI (pc := 14) d_X0_note_14 f_X0_9 (tt_124 b) ?_
    rw [h0]
    refine V_iload_n (pc := 17) d_X0_note_17 rfl ?_
    refine P_iast (pc := 18) (n) d_X0_note_18 (tt_125 b) rfl (ln_of (ll_125 b) ⟨by omega, by decide⟩) ?_
    refine V_aload_n (pc := 19) d_X0_note_19 rfl ?_
    refine V_dup (pc := 20) d_X0_note_20 rfl ?_
    refine P_getI (pc := 21) d_X0_note_21 f_X0_9 (tt_124 b) ?_
    simp (disch := omega) only [up2_n, up2_e]
    rw [h0]
    refine V_iconst (pc := 24) (1) d_X0_note_24 (by decide) ?_
    refine V_iadd (pc := 25) d_X0_note_25 ?_
    rw [nI_1]
    refine P_putI (pc := 26) d_X0_note_26 f_X0_9 (tt_124 b) ?_
    exact V_retV (pc := 29) d_X0_note_29 rfl ⟨Nat.le_refl _, Nat.le_refl _⟩ hq
theorem ct_X12_ran {n : Nat} {e : Int32} (hn : n < 50) (h0 : σ 139 59 = nI n) (hq : KV (ntM σ n [e], sh b)) : CM G mX12_ran (rl 1) [.ref 139, .int e] (σ, sh b) (QV KV) := by
  refine CM.of (by decide) (Nat.le_of_ble_eq_true rfl) (cats1 rfl) ?_
  refine V_aload_n (pc := 0) d_X12_ran_0 rfl ?_
  refine P_getI (pc := 1) d_X12_ran_1 f_X12_317 (tt_139 b) ?_
  rw [h0]
  refine V_bipush (pc := 4) (nI 50) d_X12_ran_4 (by decide) ?_
  refine B_icmp_ge (pc := 6) 19 d_X12_ran_6 (by decide) (fun c6 => ?_) (fun c6 => ?_)
  · simp (disch := omega) only [show (nI 50).toInt = 50 from by decide, nI_toInt, ti0, ti1, tim1, tim20, tim1000] at c6
    exfalso
    omega
  · simp (disch := omega) only [show (nI 50).toInt = 50 from by decide, nI_toInt, ti0, ti1, tim1, tim20, tim1000] at c6
    refine V_aload_n (pc := 9) d_X12_ran_9 rfl ?_
    refine P_getR (pc := 10) d_X12_ran_10 f_X12_152 (tt_139 b) (rr_139_58 b) ?_
    refine V_aload_n (pc := 13) d_X12_ran_13 rfl ?_
    refine P_getI (pc := 14) d_X12_ran_14 f_X12_317 (tt_139 b) ?_
    rw [h0]
    refine V_iload_n (pc := 17) d_X12_ran_17 rfl ?_
    refine P_iast (pc := 18) (n) d_X12_ran_18 (tt_187 b) rfl (ln_of (ll_187 b) ⟨by omega, by decide⟩) ?_
    refine V_aload_n (pc := 19) d_X12_ran_19 rfl ?_
    refine V_dup (pc := 20) d_X12_ran_20 rfl ?_
    refine P_getI (pc := 21) d_X12_ran_21 f_X12_317 (tt_139 b) ?_
    simp (disch := omega) only [up2_n, up2_e]
    rw [h0]
    refine V_iconst (pc := 24) (1) d_X12_ran_24 (by decide) ?_
    refine V_iadd (pc := 25) d_X12_ran_25 ?_
    rw [nI_1]
    refine P_putI (pc := 26) d_X12_ran_26 f_X12_317 (tt_139 b) ?_
    exact V_retV (pc := 29) d_X12_ran_29 rfl ⟨Nat.le_refl _, Nat.le_refl _⟩ hq
theorem ct_kwb_0_0 (hq : K 0 (σ, sh b)) : CM G mX0_kindWithBody (rl 1) [.int 0, .int 0] (σ, sh b) (QI K) := by
  refine CM.of (by decide) (Nat.le_of_ble_eq_true rfl) (cats1 rfl) ?_
  refine V_iload_n (pc := 0) d_X0_kindWithBody_0 rfl ?_
  refine V_istore_n (pc := 1) d_X0_kindWithBody_1 (by decide) ?_
  refine V_iconst (pc := 2) (0) d_X0_kindWithBody_2 (by decide) ?_
  refine V_istore_n (pc := 3) d_X0_kindWithBody_3 (by decide) ?_
  refine V_iload_n (pc := 4) d_X0_kindWithBody_4 rfl ?_
  refine V_bipush (pc := 5) (nI 6) d_X0_kindWithBody_5 (by decide) ?_
  refine B_icmp_ge (pc := 7) 39 d_X0_kindWithBody_7 (by decide) (fun c7 => ?_) (fun c7 => ?_)
  · exact absurd c7 (by decide)
  · simp (disch := omega) only [show (nI 6).toInt = 6 from by decide, nI_toInt, ti0, ti1, tim1, tim20, tim1000] at c7
    refine V_iload_n (pc := 10) d_X0_kindWithBody_10 rfl ?_
    refine V_iconst (pc := 11) (-1) d_X0_kindWithBody_11 (by decide) ?_
    refine V_icmp_eq (pc := 12) 39 d_X0_kindWithBody_12 (by decide) (fun c12 => ?_) (fun c12 => ?_)
    · exact absurd c12 (by decide)
    · refine V_getsB (pc := 15) d_X0_kindWithBody_15 f_X0_28 ?_
      refine V_iload_n (pc := 18) d_X0_kindWithBody_18 rfl ?_
      refine V_iconst (pc := 19) (nI 4) d_X0_kindWithBody_19 (by decide) ?_
      refine V_imul (pc := 20) d_X0_kindWithBody_20 ?_
      refine V_iload_n (pc := 21) d_X0_kindWithBody_21 rfl ?_
      refine V_iadd (pc := 22) d_X0_kindWithBody_22 ?_
      refine V_bald (pc := 23) (0) d_X0_kindWithBody_23 (by decide) (by decide) ?_
      rw [show boT.getD 0 0 = (nI 10) from rfl]
      refine V_if_ne (pc := 24) 39 d_X0_kindWithBody_24 (by decide) (fun c24 => ?_) (fun c24 => ?_)
      · refine V_iload_n (pc := 39) d_X0_kindWithBody_39 rfl ?_
        exact V_retI (pc := 40) d_X0_kindWithBody_40 rfl ⟨Nat.le_refl _, Nat.le_refl _⟩ hq
      · exact absurd c24 (by decide)
theorem ct_kwb_0_1 (hq : K 0 (σ, sh b)) : CM G mX0_kindWithBody (rl 1) [.int 0, .int 1] (σ, sh b) (QI K) := by
  refine CM.of (by decide) (Nat.le_of_ble_eq_true rfl) (cats1 rfl) ?_
  refine V_iload_n (pc := 0) d_X0_kindWithBody_0 rfl ?_
  refine V_istore_n (pc := 1) d_X0_kindWithBody_1 (by decide) ?_
  refine V_iconst (pc := 2) (0) d_X0_kindWithBody_2 (by decide) ?_
  refine V_istore_n (pc := 3) d_X0_kindWithBody_3 (by decide) ?_
  refine V_iload_n (pc := 4) d_X0_kindWithBody_4 rfl ?_
  refine V_bipush (pc := 5) (nI 6) d_X0_kindWithBody_5 (by decide) ?_
  refine B_icmp_ge (pc := 7) 39 d_X0_kindWithBody_7 (by decide) (fun c7 => ?_) (fun c7 => ?_)
  · exact absurd c7 (by decide)
  · simp (disch := omega) only [show (nI 6).toInt = 6 from by decide, nI_toInt, ti0, ti1, tim1, tim20, tim1000] at c7
    refine V_iload_n (pc := 10) d_X0_kindWithBody_10 rfl ?_
    refine V_iconst (pc := 11) (-1) d_X0_kindWithBody_11 (by decide) ?_
    refine V_icmp_eq (pc := 12) 39 d_X0_kindWithBody_12 (by decide) (fun c12 => ?_) (fun c12 => ?_)
    · exact absurd c12 (by decide)
    · refine V_getsB (pc := 15) d_X0_kindWithBody_15 f_X0_28 ?_
      refine V_iload_n (pc := 18) d_X0_kindWithBody_18 rfl ?_
      refine V_iconst (pc := 19) (nI 4) d_X0_kindWithBody_19 (by decide) ?_
      refine V_imul (pc := 20) d_X0_kindWithBody_20 ?_
      refine V_iload_n (pc := 21) d_X0_kindWithBody_21 rfl ?_
      refine V_iadd (pc := 22) d_X0_kindWithBody_22 ?_
      refine V_bald (pc := 23) (1) d_X0_kindWithBody_23 (by decide) (by decide) ?_
      rw [show boT.getD 1 0 = (nI 11) from rfl]
      refine V_if_ne (pc := 24) 39 d_X0_kindWithBody_24 (by decide) (fun c24 => ?_) (fun c24 => ?_)
      · refine V_iload_n (pc := 39) d_X0_kindWithBody_39 rfl ?_
        exact V_retI (pc := 40) d_X0_kindWithBody_40 rfl ⟨Nat.le_refl _, Nat.le_refl _⟩ hq
      · exact absurd c24 (by decide)
theorem ct_kwb_0_2 (hq : K 0 (σ, sh b)) : CM G mX0_kindWithBody (rl 1) [.int 0, .int (nI 2)] (σ, sh b) (QI K) := by
  refine CM.of (by decide) (Nat.le_of_ble_eq_true rfl) (cats1 rfl) ?_
  refine V_iload_n (pc := 0) d_X0_kindWithBody_0 rfl ?_
  refine V_istore_n (pc := 1) d_X0_kindWithBody_1 (by decide) ?_
  refine V_iconst (pc := 2) (0) d_X0_kindWithBody_2 (by decide) ?_
  refine V_istore_n (pc := 3) d_X0_kindWithBody_3 (by decide) ?_
  refine V_iload_n (pc := 4) d_X0_kindWithBody_4 rfl ?_
  refine V_bipush (pc := 5) (nI 6) d_X0_kindWithBody_5 (by decide) ?_
  refine B_icmp_ge (pc := 7) 39 d_X0_kindWithBody_7 (by decide) (fun c7 => ?_) (fun c7 => ?_)
  · exact absurd c7 (by decide)
  · simp (disch := omega) only [show (nI 6).toInt = 6 from by decide, nI_toInt, ti0, ti1, tim1, tim20, tim1000] at c7
    refine V_iload_n (pc := 10) d_X0_kindWithBody_10 rfl ?_
    refine V_iconst (pc := 11) (-1) d_X0_kindWithBody_11 (by decide) ?_
    refine V_icmp_eq (pc := 12) 39 d_X0_kindWithBody_12 (by decide) (fun c12 => ?_) (fun c12 => ?_)
    · exact absurd c12 (by decide)
    · refine V_getsB (pc := 15) d_X0_kindWithBody_15 f_X0_28 ?_
      refine V_iload_n (pc := 18) d_X0_kindWithBody_18 rfl ?_
      refine V_iconst (pc := 19) (nI 4) d_X0_kindWithBody_19 (by decide) ?_
      refine V_imul (pc := 20) d_X0_kindWithBody_20 ?_
      refine V_iload_n (pc := 21) d_X0_kindWithBody_21 rfl ?_
      refine V_iadd (pc := 22) d_X0_kindWithBody_22 ?_
      refine V_bald (pc := 23) (2) d_X0_kindWithBody_23 (by decide) (by decide) ?_
      rw [show boT.getD 2 0 = (nI 12) from rfl]
      refine V_if_ne (pc := 24) 39 d_X0_kindWithBody_24 (by decide) (fun c24 => ?_) (fun c24 => ?_)
      · refine V_iload_n (pc := 39) d_X0_kindWithBody_39 rfl ?_
        exact V_retI (pc := 40) d_X0_kindWithBody_40 rfl ⟨Nat.le_refl _, Nat.le_refl _⟩ hq
      · exact absurd c24 (by decide)
theorem ct_kwb_0_3 (hq : K 0 (σ, sh b)) : CM G mX0_kindWithBody (rl 1) [.int 0, .int (nI 3)] (σ, sh b) (QI K) := by
  refine CM.of (by decide) (Nat.le_of_ble_eq_true rfl) (cats1 rfl) ?_
  refine V_iload_n (pc := 0) d_X0_kindWithBody_0 rfl ?_
  refine V_istore_n (pc := 1) d_X0_kindWithBody_1 (by decide) ?_
  refine V_iconst (pc := 2) (0) d_X0_kindWithBody_2 (by decide) ?_
  refine V_istore_n (pc := 3) d_X0_kindWithBody_3 (by decide) ?_
  refine V_iload_n (pc := 4) d_X0_kindWithBody_4 rfl ?_
  refine V_bipush (pc := 5) (nI 6) d_X0_kindWithBody_5 (by decide) ?_
  refine B_icmp_ge (pc := 7) 39 d_X0_kindWithBody_7 (by decide) (fun c7 => ?_) (fun c7 => ?_)
  · exact absurd c7 (by decide)
  · simp (disch := omega) only [show (nI 6).toInt = 6 from by decide, nI_toInt, ti0, ti1, tim1, tim20, tim1000] at c7
    refine V_iload_n (pc := 10) d_X0_kindWithBody_10 rfl ?_
    refine V_iconst (pc := 11) (-1) d_X0_kindWithBody_11 (by decide) ?_
    refine V_icmp_eq (pc := 12) 39 d_X0_kindWithBody_12 (by decide) (fun c12 => ?_) (fun c12 => ?_)
    · exact absurd c12 (by decide)
    · refine V_getsB (pc := 15) d_X0_kindWithBody_15 f_X0_28 ?_
      refine V_iload_n (pc := 18) d_X0_kindWithBody_18 rfl ?_
      refine V_iconst (pc := 19) (nI 4) d_X0_kindWithBody_19 (by decide) ?_
      refine V_imul (pc := 20) d_X0_kindWithBody_20 ?_
      refine V_iload_n (pc := 21) d_X0_kindWithBody_21 rfl ?_
      refine V_iadd (pc := 22) d_X0_kindWithBody_22 ?_
      refine V_bald (pc := 23) (3) d_X0_kindWithBody_23 (by decide) (by decide) ?_
      rw [show boT.getD 3 0 = (nI 13) from rfl]
      refine V_if_ne (pc := 24) 39 d_X0_kindWithBody_24 (by decide) (fun c24 => ?_) (fun c24 => ?_)
      · refine V_iload_n (pc := 39) d_X0_kindWithBody_39 rfl ?_
        exact V_retI (pc := 40) d_X0_kindWithBody_40 rfl ⟨Nat.le_refl _, Nat.le_refl _⟩ hq
      · exact absurd c24 (by decide)
theorem ct_kwb_1_0 (hq : K 1 (σ, sh b)) : CM G mX0_kindWithBody (rl 1) [.int 1, .int 0] (σ, sh b) (QI K) := by
  refine CM.of (by decide) (Nat.le_of_ble_eq_true rfl) (cats1 rfl) ?_
  refine V_iload_n (pc := 0) d_X0_kindWithBody_0 rfl ?_
  refine V_istore_n (pc := 1) d_X0_kindWithBody_1 (by decide) ?_
  refine V_iconst (pc := 2) (0) d_X0_kindWithBody_2 (by decide) ?_
  refine V_istore_n (pc := 3) d_X0_kindWithBody_3 (by decide) ?_
  refine V_iload_n (pc := 4) d_X0_kindWithBody_4 rfl ?_
  refine V_bipush (pc := 5) (nI 6) d_X0_kindWithBody_5 (by decide) ?_
  refine B_icmp_ge (pc := 7) 39 d_X0_kindWithBody_7 (by decide) (fun c7 => ?_) (fun c7 => ?_)
  · exact absurd c7 (by decide)
  · simp (disch := omega) only [show (nI 6).toInt = 6 from by decide, nI_toInt, ti0, ti1, tim1, tim20, tim1000] at c7
    refine V_iload_n (pc := 10) d_X0_kindWithBody_10 rfl ?_
    refine V_iconst (pc := 11) (-1) d_X0_kindWithBody_11 (by decide) ?_
    refine V_icmp_eq (pc := 12) 39 d_X0_kindWithBody_12 (by decide) (fun c12 => ?_) (fun c12 => ?_)
    · exact absurd c12 (by decide)
    · refine V_getsB (pc := 15) d_X0_kindWithBody_15 f_X0_28 ?_
      refine V_iload_n (pc := 18) d_X0_kindWithBody_18 rfl ?_
      refine V_iconst (pc := 19) (nI 4) d_X0_kindWithBody_19 (by decide) ?_
      refine V_imul (pc := 20) d_X0_kindWithBody_20 ?_
      refine V_iload_n (pc := 21) d_X0_kindWithBody_21 rfl ?_
      refine V_iadd (pc := 22) d_X0_kindWithBody_22 ?_
      refine V_bald (pc := 23) (4) d_X0_kindWithBody_23 (by decide) (by decide) ?_
      rw [show boT.getD 4 0 = (nI 20) from rfl]
      refine V_if_ne (pc := 24) 39 d_X0_kindWithBody_24 (by decide) (fun c24 => ?_) (fun c24 => ?_)
      · refine V_iload_n (pc := 39) d_X0_kindWithBody_39 rfl ?_
        exact V_retI (pc := 40) d_X0_kindWithBody_40 rfl ⟨Nat.le_refl _, Nat.le_refl _⟩ hq
      · exact absurd c24 (by decide)
theorem ct_kwb_1_1 (hq : K 0 (σ, sh b)) : CM G mX0_kindWithBody (rl 1) [.int 1, .int 1] (σ, sh b) (QI K) := by
  refine CM.of (by decide) (Nat.le_of_ble_eq_true rfl) (cats1 rfl) ?_
  refine V_iload_n (pc := 0) d_X0_kindWithBody_0 rfl ?_
  refine V_istore_n (pc := 1) d_X0_kindWithBody_1 (by decide) ?_
  refine V_iconst (pc := 2) (0) d_X0_kindWithBody_2 (by decide) ?_
  refine V_istore_n (pc := 3) d_X0_kindWithBody_3 (by decide) ?_
  refine V_iload_n (pc := 4) d_X0_kindWithBody_4 rfl ?_
  refine V_bipush (pc := 5) (nI 6) d_X0_kindWithBody_5 (by decide) ?_
  refine B_icmp_ge (pc := 7) 39 d_X0_kindWithBody_7 (by decide) (fun c7 => ?_) (fun c7 => ?_)
  · exact absurd c7 (by decide)
  · simp (disch := omega) only [show (nI 6).toInt = 6 from by decide, nI_toInt, ti0, ti1, tim1, tim20, tim1000] at c7
    refine V_iload_n (pc := 10) d_X0_kindWithBody_10 rfl ?_
    refine V_iconst (pc := 11) (-1) d_X0_kindWithBody_11 (by decide) ?_
    refine V_icmp_eq (pc := 12) 39 d_X0_kindWithBody_12 (by decide) (fun c12 => ?_) (fun c12 => ?_)
    · exact absurd c12 (by decide)
    · refine V_getsB (pc := 15) d_X0_kindWithBody_15 f_X0_28 ?_
      refine V_iload_n (pc := 18) d_X0_kindWithBody_18 rfl ?_
      refine V_iconst (pc := 19) (nI 4) d_X0_kindWithBody_19 (by decide) ?_
      refine V_imul (pc := 20) d_X0_kindWithBody_20 ?_
      refine V_iload_n (pc := 21) d_X0_kindWithBody_21 rfl ?_
      refine V_iadd (pc := 22) d_X0_kindWithBody_22 ?_
      refine V_bald (pc := 23) (5) d_X0_kindWithBody_23 (by decide) (by decide) ?_
      rw [show boT.getD 5 0 = 0 from rfl]
      refine V_if_ne (pc := 24) 39 d_X0_kindWithBody_24 (by decide) (fun c24 => ?_) (fun c24 => ?_)
      · exact absurd rfl c24
      · refine V_getsKN (pc := 27) d_X0_kindWithBody_27 f_X0_31 ?_
        refine V_iload_n (pc := 30) d_X0_kindWithBody_30 rfl ?_
        refine V_kald (pc := 31) (1) d_X0_kindWithBody_31 (by decide) (by decide) ?_
        rw [show kaT.getD 1 0 = 0 from rfl]
        refine V_istore_n (pc := 32) d_X0_kindWithBody_32 (by decide) ?_
        refine V_iinc (pc := 33) d_X0_kindWithBody_33 rfl (by decide) ?_
        refine V_goto (pc := 36) 4 d_X0_kindWithBody_36 (by decide) ?_
        refine V_iload_n (pc := 4) d_X0_kindWithBody_4 rfl ?_
        refine V_bipush (pc := 5) (nI 6) d_X0_kindWithBody_5 (by decide) ?_
        refine B_icmp_ge (pc := 7) 39 d_X0_kindWithBody_7 (by decide) (fun c7 => ?_) (fun c7 => ?_)
        · exact absurd c7 (by decide)
        · simp (disch := omega) only [show (nI 6).toInt = 6 from by decide, nI_toInt, ti0, ti1, tim1, tim20, tim1000] at c7
          refine V_iload_n (pc := 10) d_X0_kindWithBody_10 rfl ?_
          refine V_iconst (pc := 11) (-1) d_X0_kindWithBody_11 (by decide) ?_
          refine V_icmp_eq (pc := 12) 39 d_X0_kindWithBody_12 (by decide) (fun c12 => ?_) (fun c12 => ?_)
          · exact absurd c12 (by decide)
          · refine V_getsB (pc := 15) d_X0_kindWithBody_15 f_X0_28 ?_
            refine V_iload_n (pc := 18) d_X0_kindWithBody_18 rfl ?_
            refine V_iconst (pc := 19) (nI 4) d_X0_kindWithBody_19 (by decide) ?_
            refine V_imul (pc := 20) d_X0_kindWithBody_20 ?_
            refine V_iload_n (pc := 21) d_X0_kindWithBody_21 rfl ?_
            refine V_iadd (pc := 22) d_X0_kindWithBody_22 ?_
            refine V_bald (pc := 23) (1) d_X0_kindWithBody_23 (by decide) (by decide) ?_
            rw [show boT.getD 1 0 = (nI 11) from rfl]
            refine V_if_ne (pc := 24) 39 d_X0_kindWithBody_24 (by decide) (fun c24 => ?_) (fun c24 => ?_)
            · refine V_iload_n (pc := 39) d_X0_kindWithBody_39 rfl ?_
              exact V_retI (pc := 40) d_X0_kindWithBody_40 rfl ⟨Nat.le_refl _, Nat.le_refl _⟩ hq
            · exact absurd c24 (by decide)
theorem ct_kwb_1_2 (hq : K 0 (σ, sh b)) : CM G mX0_kindWithBody (rl 1) [.int 1, .int (nI 2)] (σ, sh b) (QI K) := by
  refine CM.of (by decide) (Nat.le_of_ble_eq_true rfl) (cats1 rfl) ?_
  refine V_iload_n (pc := 0) d_X0_kindWithBody_0 rfl ?_
  refine V_istore_n (pc := 1) d_X0_kindWithBody_1 (by decide) ?_
  refine V_iconst (pc := 2) (0) d_X0_kindWithBody_2 (by decide) ?_
  refine V_istore_n (pc := 3) d_X0_kindWithBody_3 (by decide) ?_
  refine V_iload_n (pc := 4) d_X0_kindWithBody_4 rfl ?_
  refine V_bipush (pc := 5) (nI 6) d_X0_kindWithBody_5 (by decide) ?_
  refine B_icmp_ge (pc := 7) 39 d_X0_kindWithBody_7 (by decide) (fun c7 => ?_) (fun c7 => ?_)
  · exact absurd c7 (by decide)
  · simp (disch := omega) only [show (nI 6).toInt = 6 from by decide, nI_toInt, ti0, ti1, tim1, tim20, tim1000] at c7
    refine V_iload_n (pc := 10) d_X0_kindWithBody_10 rfl ?_
    refine V_iconst (pc := 11) (-1) d_X0_kindWithBody_11 (by decide) ?_
    refine V_icmp_eq (pc := 12) 39 d_X0_kindWithBody_12 (by decide) (fun c12 => ?_) (fun c12 => ?_)
    · exact absurd c12 (by decide)
    · refine V_getsB (pc := 15) d_X0_kindWithBody_15 f_X0_28 ?_
      refine V_iload_n (pc := 18) d_X0_kindWithBody_18 rfl ?_
      refine V_iconst (pc := 19) (nI 4) d_X0_kindWithBody_19 (by decide) ?_
      refine V_imul (pc := 20) d_X0_kindWithBody_20 ?_
      refine V_iload_n (pc := 21) d_X0_kindWithBody_21 rfl ?_
      refine V_iadd (pc := 22) d_X0_kindWithBody_22 ?_
      refine V_bald (pc := 23) (6) d_X0_kindWithBody_23 (by decide) (by decide) ?_
      rw [show boT.getD 6 0 = 0 from rfl]
      refine V_if_ne (pc := 24) 39 d_X0_kindWithBody_24 (by decide) (fun c24 => ?_) (fun c24 => ?_)
      · exact absurd rfl c24
      · refine V_getsKN (pc := 27) d_X0_kindWithBody_27 f_X0_31 ?_
        refine V_iload_n (pc := 30) d_X0_kindWithBody_30 rfl ?_
        refine V_kald (pc := 31) (1) d_X0_kindWithBody_31 (by decide) (by decide) ?_
        rw [show kaT.getD 1 0 = 0 from rfl]
        refine V_istore_n (pc := 32) d_X0_kindWithBody_32 (by decide) ?_
        refine V_iinc (pc := 33) d_X0_kindWithBody_33 rfl (by decide) ?_
        refine V_goto (pc := 36) 4 d_X0_kindWithBody_36 (by decide) ?_
        refine V_iload_n (pc := 4) d_X0_kindWithBody_4 rfl ?_
        refine V_bipush (pc := 5) (nI 6) d_X0_kindWithBody_5 (by decide) ?_
        refine B_icmp_ge (pc := 7) 39 d_X0_kindWithBody_7 (by decide) (fun c7 => ?_) (fun c7 => ?_)
        · exact absurd c7 (by decide)
        · simp (disch := omega) only [show (nI 6).toInt = 6 from by decide, nI_toInt, ti0, ti1, tim1, tim20, tim1000] at c7
          refine V_iload_n (pc := 10) d_X0_kindWithBody_10 rfl ?_
          refine V_iconst (pc := 11) (-1) d_X0_kindWithBody_11 (by decide) ?_
          refine V_icmp_eq (pc := 12) 39 d_X0_kindWithBody_12 (by decide) (fun c12 => ?_) (fun c12 => ?_)
          · exact absurd c12 (by decide)
          · refine V_getsB (pc := 15) d_X0_kindWithBody_15 f_X0_28 ?_
            refine V_iload_n (pc := 18) d_X0_kindWithBody_18 rfl ?_
            refine V_iconst (pc := 19) (nI 4) d_X0_kindWithBody_19 (by decide) ?_
            refine V_imul (pc := 20) d_X0_kindWithBody_20 ?_
            refine V_iload_n (pc := 21) d_X0_kindWithBody_21 rfl ?_
            refine V_iadd (pc := 22) d_X0_kindWithBody_22 ?_
            refine V_bald (pc := 23) (2) d_X0_kindWithBody_23 (by decide) (by decide) ?_
            rw [show boT.getD 2 0 = (nI 12) from rfl]
            refine V_if_ne (pc := 24) 39 d_X0_kindWithBody_24 (by decide) (fun c24 => ?_) (fun c24 => ?_)
            · refine V_iload_n (pc := 39) d_X0_kindWithBody_39 rfl ?_
              exact V_retI (pc := 40) d_X0_kindWithBody_40 rfl ⟨Nat.le_refl _, Nat.le_refl _⟩ hq
            · exact absurd c24 (by decide)
theorem ct_kwb_1_3 (hq : K 1 (σ, sh b)) : CM G mX0_kindWithBody (rl 1) [.int 1, .int (nI 3)] (σ, sh b) (QI K) := by
  refine CM.of (by decide) (Nat.le_of_ble_eq_true rfl) (cats1 rfl) ?_
  refine V_iload_n (pc := 0) d_X0_kindWithBody_0 rfl ?_
  refine V_istore_n (pc := 1) d_X0_kindWithBody_1 (by decide) ?_
  refine V_iconst (pc := 2) (0) d_X0_kindWithBody_2 (by decide) ?_
  refine V_istore_n (pc := 3) d_X0_kindWithBody_3 (by decide) ?_
  refine V_iload_n (pc := 4) d_X0_kindWithBody_4 rfl ?_
  refine V_bipush (pc := 5) (nI 6) d_X0_kindWithBody_5 (by decide) ?_
  refine B_icmp_ge (pc := 7) 39 d_X0_kindWithBody_7 (by decide) (fun c7 => ?_) (fun c7 => ?_)
  · exact absurd c7 (by decide)
  · simp (disch := omega) only [show (nI 6).toInt = 6 from by decide, nI_toInt, ti0, ti1, tim1, tim20, tim1000] at c7
    refine V_iload_n (pc := 10) d_X0_kindWithBody_10 rfl ?_
    refine V_iconst (pc := 11) (-1) d_X0_kindWithBody_11 (by decide) ?_
    refine V_icmp_eq (pc := 12) 39 d_X0_kindWithBody_12 (by decide) (fun c12 => ?_) (fun c12 => ?_)
    · exact absurd c12 (by decide)
    · refine V_getsB (pc := 15) d_X0_kindWithBody_15 f_X0_28 ?_
      refine V_iload_n (pc := 18) d_X0_kindWithBody_18 rfl ?_
      refine V_iconst (pc := 19) (nI 4) d_X0_kindWithBody_19 (by decide) ?_
      refine V_imul (pc := 20) d_X0_kindWithBody_20 ?_
      refine V_iload_n (pc := 21) d_X0_kindWithBody_21 rfl ?_
      refine V_iadd (pc := 22) d_X0_kindWithBody_22 ?_
      refine V_bald (pc := 23) (7) d_X0_kindWithBody_23 (by decide) (by decide) ?_
      rw [show boT.getD 7 0 = (nI 21) from rfl]
      refine V_if_ne (pc := 24) 39 d_X0_kindWithBody_24 (by decide) (fun c24 => ?_) (fun c24 => ?_)
      · refine V_iload_n (pc := 39) d_X0_kindWithBody_39 rfl ?_
        exact V_retI (pc := 40) d_X0_kindWithBody_40 rfl ⟨Nat.le_refl _, Nat.le_refl _⟩ hq
      · exact absurd c24 (by decide)
theorem ct_kwb_2_0 (hq : K 0 (σ, sh b)) : CM G mX0_kindWithBody (rl 1) [.int (nI 2), .int 0] (σ, sh b) (QI K) := by
  refine CM.of (by decide) (Nat.le_of_ble_eq_true rfl) (cats1 rfl) ?_
  refine V_iload_n (pc := 0) d_X0_kindWithBody_0 rfl ?_
  refine V_istore_n (pc := 1) d_X0_kindWithBody_1 (by decide) ?_
  refine V_iconst (pc := 2) (0) d_X0_kindWithBody_2 (by decide) ?_
  refine V_istore_n (pc := 3) d_X0_kindWithBody_3 (by decide) ?_
  refine V_iload_n (pc := 4) d_X0_kindWithBody_4 rfl ?_
  refine V_bipush (pc := 5) (nI 6) d_X0_kindWithBody_5 (by decide) ?_
  refine B_icmp_ge (pc := 7) 39 d_X0_kindWithBody_7 (by decide) (fun c7 => ?_) (fun c7 => ?_)
  · exact absurd c7 (by decide)
  · simp (disch := omega) only [show (nI 6).toInt = 6 from by decide, nI_toInt, ti0, ti1, tim1, tim20, tim1000] at c7
    refine V_iload_n (pc := 10) d_X0_kindWithBody_10 rfl ?_
    refine V_iconst (pc := 11) (-1) d_X0_kindWithBody_11 (by decide) ?_
    refine V_icmp_eq (pc := 12) 39 d_X0_kindWithBody_12 (by decide) (fun c12 => ?_) (fun c12 => ?_)
    · exact absurd c12 (by decide)
    · refine V_getsB (pc := 15) d_X0_kindWithBody_15 f_X0_28 ?_
      refine V_iload_n (pc := 18) d_X0_kindWithBody_18 rfl ?_
      refine V_iconst (pc := 19) (nI 4) d_X0_kindWithBody_19 (by decide) ?_
      refine V_imul (pc := 20) d_X0_kindWithBody_20 ?_
      refine V_iload_n (pc := 21) d_X0_kindWithBody_21 rfl ?_
      refine V_iadd (pc := 22) d_X0_kindWithBody_22 ?_
      refine V_bald (pc := 23) (8) d_X0_kindWithBody_23 (by decide) (by decide) ?_
      rw [show boT.getD 8 0 = 0 from rfl]
      refine V_if_ne (pc := 24) 39 d_X0_kindWithBody_24 (by decide) (fun c24 => ?_) (fun c24 => ?_)
      · exact absurd rfl c24
      · refine V_getsKN (pc := 27) d_X0_kindWithBody_27 f_X0_31 ?_
        refine V_iload_n (pc := 30) d_X0_kindWithBody_30 rfl ?_
        refine V_kald (pc := 31) (2) d_X0_kindWithBody_31 (by decide) (by decide) ?_
        rw [show kaT.getD 2 0 = 0 from rfl]
        refine V_istore_n (pc := 32) d_X0_kindWithBody_32 (by decide) ?_
        refine V_iinc (pc := 33) d_X0_kindWithBody_33 rfl (by decide) ?_
        refine V_goto (pc := 36) 4 d_X0_kindWithBody_36 (by decide) ?_
        refine V_iload_n (pc := 4) d_X0_kindWithBody_4 rfl ?_
        refine V_bipush (pc := 5) (nI 6) d_X0_kindWithBody_5 (by decide) ?_
        refine B_icmp_ge (pc := 7) 39 d_X0_kindWithBody_7 (by decide) (fun c7 => ?_) (fun c7 => ?_)
        · exact absurd c7 (by decide)
        · simp (disch := omega) only [show (nI 6).toInt = 6 from by decide, nI_toInt, ti0, ti1, tim1, tim20, tim1000] at c7
          refine V_iload_n (pc := 10) d_X0_kindWithBody_10 rfl ?_
          refine V_iconst (pc := 11) (-1) d_X0_kindWithBody_11 (by decide) ?_
          refine V_icmp_eq (pc := 12) 39 d_X0_kindWithBody_12 (by decide) (fun c12 => ?_) (fun c12 => ?_)
          · exact absurd c12 (by decide)
          · refine V_getsB (pc := 15) d_X0_kindWithBody_15 f_X0_28 ?_
            refine V_iload_n (pc := 18) d_X0_kindWithBody_18 rfl ?_
            refine V_iconst (pc := 19) (nI 4) d_X0_kindWithBody_19 (by decide) ?_
            refine V_imul (pc := 20) d_X0_kindWithBody_20 ?_
            refine V_iload_n (pc := 21) d_X0_kindWithBody_21 rfl ?_
            refine V_iadd (pc := 22) d_X0_kindWithBody_22 ?_
            refine V_bald (pc := 23) (0) d_X0_kindWithBody_23 (by decide) (by decide) ?_
            rw [show boT.getD 0 0 = (nI 10) from rfl]
            refine V_if_ne (pc := 24) 39 d_X0_kindWithBody_24 (by decide) (fun c24 => ?_) (fun c24 => ?_)
            · refine V_iload_n (pc := 39) d_X0_kindWithBody_39 rfl ?_
              exact V_retI (pc := 40) d_X0_kindWithBody_40 rfl ⟨Nat.le_refl _, Nat.le_refl _⟩ hq
            · exact absurd c24 (by decide)
theorem ct_kwb_2_1 (hq : K (nI 2) (σ, sh b)) : CM G mX0_kindWithBody (rl 1) [.int (nI 2), .int 1] (σ, sh b) (QI K) := by
  refine CM.of (by decide) (Nat.le_of_ble_eq_true rfl) (cats1 rfl) ?_
  refine V_iload_n (pc := 0) d_X0_kindWithBody_0 rfl ?_
  refine V_istore_n (pc := 1) d_X0_kindWithBody_1 (by decide) ?_
  refine V_iconst (pc := 2) (0) d_X0_kindWithBody_2 (by decide) ?_
  refine V_istore_n (pc := 3) d_X0_kindWithBody_3 (by decide) ?_
  refine V_iload_n (pc := 4) d_X0_kindWithBody_4 rfl ?_
  refine V_bipush (pc := 5) (nI 6) d_X0_kindWithBody_5 (by decide) ?_
  refine B_icmp_ge (pc := 7) 39 d_X0_kindWithBody_7 (by decide) (fun c7 => ?_) (fun c7 => ?_)
  · exact absurd c7 (by decide)
  · simp (disch := omega) only [show (nI 6).toInt = 6 from by decide, nI_toInt, ti0, ti1, tim1, tim20, tim1000] at c7
    refine V_iload_n (pc := 10) d_X0_kindWithBody_10 rfl ?_
    refine V_iconst (pc := 11) (-1) d_X0_kindWithBody_11 (by decide) ?_
    refine V_icmp_eq (pc := 12) 39 d_X0_kindWithBody_12 (by decide) (fun c12 => ?_) (fun c12 => ?_)
    · exact absurd c12 (by decide)
    · refine V_getsB (pc := 15) d_X0_kindWithBody_15 f_X0_28 ?_
      refine V_iload_n (pc := 18) d_X0_kindWithBody_18 rfl ?_
      refine V_iconst (pc := 19) (nI 4) d_X0_kindWithBody_19 (by decide) ?_
      refine V_imul (pc := 20) d_X0_kindWithBody_20 ?_
      refine V_iload_n (pc := 21) d_X0_kindWithBody_21 rfl ?_
      refine V_iadd (pc := 22) d_X0_kindWithBody_22 ?_
      refine V_bald (pc := 23) (9) d_X0_kindWithBody_23 (by decide) (by decide) ?_
      rw [show boT.getD 9 0 = (nI 30) from rfl]
      refine V_if_ne (pc := 24) 39 d_X0_kindWithBody_24 (by decide) (fun c24 => ?_) (fun c24 => ?_)
      · refine V_iload_n (pc := 39) d_X0_kindWithBody_39 rfl ?_
        exact V_retI (pc := 40) d_X0_kindWithBody_40 rfl ⟨Nat.le_refl _, Nat.le_refl _⟩ hq
      · exact absurd c24 (by decide)
theorem ct_kwb_2_2 (hq : K 0 (σ, sh b)) : CM G mX0_kindWithBody (rl 1) [.int (nI 2), .int (nI 2)] (σ, sh b) (QI K) := by
  refine CM.of (by decide) (Nat.le_of_ble_eq_true rfl) (cats1 rfl) ?_
  refine V_iload_n (pc := 0) d_X0_kindWithBody_0 rfl ?_
  refine V_istore_n (pc := 1) d_X0_kindWithBody_1 (by decide) ?_
  refine V_iconst (pc := 2) (0) d_X0_kindWithBody_2 (by decide) ?_
  refine V_istore_n (pc := 3) d_X0_kindWithBody_3 (by decide) ?_
  refine V_iload_n (pc := 4) d_X0_kindWithBody_4 rfl ?_
  refine V_bipush (pc := 5) (nI 6) d_X0_kindWithBody_5 (by decide) ?_
  refine B_icmp_ge (pc := 7) 39 d_X0_kindWithBody_7 (by decide) (fun c7 => ?_) (fun c7 => ?_)
  · exact absurd c7 (by decide)
  · simp (disch := omega) only [show (nI 6).toInt = 6 from by decide, nI_toInt, ti0, ti1, tim1, tim20, tim1000] at c7
    refine V_iload_n (pc := 10) d_X0_kindWithBody_10 rfl ?_
    refine V_iconst (pc := 11) (-1) d_X0_kindWithBody_11 (by decide) ?_
    refine V_icmp_eq (pc := 12) 39 d_X0_kindWithBody_12 (by decide) (fun c12 => ?_) (fun c12 => ?_)
    · exact absurd c12 (by decide)
    · refine V_getsB (pc := 15) d_X0_kindWithBody_15 f_X0_28 ?_
      refine V_iload_n (pc := 18) d_X0_kindWithBody_18 rfl ?_
      refine V_iconst (pc := 19) (nI 4) d_X0_kindWithBody_19 (by decide) ?_
      refine V_imul (pc := 20) d_X0_kindWithBody_20 ?_
      refine V_iload_n (pc := 21) d_X0_kindWithBody_21 rfl ?_
      refine V_iadd (pc := 22) d_X0_kindWithBody_22 ?_
      refine V_bald (pc := 23) (10) d_X0_kindWithBody_23 (by decide) (by decide) ?_
      rw [show boT.getD 10 0 = 0 from rfl]
      refine V_if_ne (pc := 24) 39 d_X0_kindWithBody_24 (by decide) (fun c24 => ?_) (fun c24 => ?_)
      · exact absurd rfl c24
      · refine V_getsKN (pc := 27) d_X0_kindWithBody_27 f_X0_31 ?_
        refine V_iload_n (pc := 30) d_X0_kindWithBody_30 rfl ?_
        refine V_kald (pc := 31) (2) d_X0_kindWithBody_31 (by decide) (by decide) ?_
        rw [show kaT.getD 2 0 = 0 from rfl]
        refine V_istore_n (pc := 32) d_X0_kindWithBody_32 (by decide) ?_
        refine V_iinc (pc := 33) d_X0_kindWithBody_33 rfl (by decide) ?_
        refine V_goto (pc := 36) 4 d_X0_kindWithBody_36 (by decide) ?_
        refine V_iload_n (pc := 4) d_X0_kindWithBody_4 rfl ?_
        refine V_bipush (pc := 5) (nI 6) d_X0_kindWithBody_5 (by decide) ?_
        refine B_icmp_ge (pc := 7) 39 d_X0_kindWithBody_7 (by decide) (fun c7 => ?_) (fun c7 => ?_)
        · exact absurd c7 (by decide)
        · simp (disch := omega) only [show (nI 6).toInt = 6 from by decide, nI_toInt, ti0, ti1, tim1, tim20, tim1000] at c7
          refine V_iload_n (pc := 10) d_X0_kindWithBody_10 rfl ?_
          refine V_iconst (pc := 11) (-1) d_X0_kindWithBody_11 (by decide) ?_
          refine V_icmp_eq (pc := 12) 39 d_X0_kindWithBody_12 (by decide) (fun c12 => ?_) (fun c12 => ?_)
          · exact absurd c12 (by decide)
          · refine V_getsB (pc := 15) d_X0_kindWithBody_15 f_X0_28 ?_
            refine V_iload_n (pc := 18) d_X0_kindWithBody_18 rfl ?_
            refine V_iconst (pc := 19) (nI 4) d_X0_kindWithBody_19 (by decide) ?_
            refine V_imul (pc := 20) d_X0_kindWithBody_20 ?_
            refine V_iload_n (pc := 21) d_X0_kindWithBody_21 rfl ?_
            refine V_iadd (pc := 22) d_X0_kindWithBody_22 ?_
            refine V_bald (pc := 23) (2) d_X0_kindWithBody_23 (by decide) (by decide) ?_
            rw [show boT.getD 2 0 = (nI 12) from rfl]
            refine V_if_ne (pc := 24) 39 d_X0_kindWithBody_24 (by decide) (fun c24 => ?_) (fun c24 => ?_)
            · refine V_iload_n (pc := 39) d_X0_kindWithBody_39 rfl ?_
              exact V_retI (pc := 40) d_X0_kindWithBody_40 rfl ⟨Nat.le_refl _, Nat.le_refl _⟩ hq
            · exact absurd c24 (by decide)
theorem ct_kwb_2_3 (hq : K 0 (σ, sh b)) : CM G mX0_kindWithBody (rl 1) [.int (nI 2), .int (nI 3)] (σ, sh b) (QI K) := by
  refine CM.of (by decide) (Nat.le_of_ble_eq_true rfl) (cats1 rfl) ?_
  refine V_iload_n (pc := 0) d_X0_kindWithBody_0 rfl ?_
  refine V_istore_n (pc := 1) d_X0_kindWithBody_1 (by decide) ?_
  refine V_iconst (pc := 2) (0) d_X0_kindWithBody_2 (by decide) ?_
  refine V_istore_n (pc := 3) d_X0_kindWithBody_3 (by decide) ?_
  refine V_iload_n (pc := 4) d_X0_kindWithBody_4 rfl ?_
  refine V_bipush (pc := 5) (nI 6) d_X0_kindWithBody_5 (by decide) ?_
  refine B_icmp_ge (pc := 7) 39 d_X0_kindWithBody_7 (by decide) (fun c7 => ?_) (fun c7 => ?_)
  · exact absurd c7 (by decide)
  · simp (disch := omega) only [show (nI 6).toInt = 6 from by decide, nI_toInt, ti0, ti1, tim1, tim20, tim1000] at c7
    refine V_iload_n (pc := 10) d_X0_kindWithBody_10 rfl ?_
    refine V_iconst (pc := 11) (-1) d_X0_kindWithBody_11 (by decide) ?_
    refine V_icmp_eq (pc := 12) 39 d_X0_kindWithBody_12 (by decide) (fun c12 => ?_) (fun c12 => ?_)
    · exact absurd c12 (by decide)
    · refine V_getsB (pc := 15) d_X0_kindWithBody_15 f_X0_28 ?_
      refine V_iload_n (pc := 18) d_X0_kindWithBody_18 rfl ?_
      refine V_iconst (pc := 19) (nI 4) d_X0_kindWithBody_19 (by decide) ?_
      refine V_imul (pc := 20) d_X0_kindWithBody_20 ?_
      refine V_iload_n (pc := 21) d_X0_kindWithBody_21 rfl ?_
      refine V_iadd (pc := 22) d_X0_kindWithBody_22 ?_
      refine V_bald (pc := 23) (11) d_X0_kindWithBody_23 (by decide) (by decide) ?_
      rw [show boT.getD 11 0 = 0 from rfl]
      refine V_if_ne (pc := 24) 39 d_X0_kindWithBody_24 (by decide) (fun c24 => ?_) (fun c24 => ?_)
      · exact absurd rfl c24
      · refine V_getsKN (pc := 27) d_X0_kindWithBody_27 f_X0_31 ?_
        refine V_iload_n (pc := 30) d_X0_kindWithBody_30 rfl ?_
        refine V_kald (pc := 31) (2) d_X0_kindWithBody_31 (by decide) (by decide) ?_
        rw [show kaT.getD 2 0 = 0 from rfl]
        refine V_istore_n (pc := 32) d_X0_kindWithBody_32 (by decide) ?_
        refine V_iinc (pc := 33) d_X0_kindWithBody_33 rfl (by decide) ?_
        refine V_goto (pc := 36) 4 d_X0_kindWithBody_36 (by decide) ?_
        refine V_iload_n (pc := 4) d_X0_kindWithBody_4 rfl ?_
        refine V_bipush (pc := 5) (nI 6) d_X0_kindWithBody_5 (by decide) ?_
        refine B_icmp_ge (pc := 7) 39 d_X0_kindWithBody_7 (by decide) (fun c7 => ?_) (fun c7 => ?_)
        · exact absurd c7 (by decide)
        · simp (disch := omega) only [show (nI 6).toInt = 6 from by decide, nI_toInt, ti0, ti1, tim1, tim20, tim1000] at c7
          refine V_iload_n (pc := 10) d_X0_kindWithBody_10 rfl ?_
          refine V_iconst (pc := 11) (-1) d_X0_kindWithBody_11 (by decide) ?_
          refine V_icmp_eq (pc := 12) 39 d_X0_kindWithBody_12 (by decide) (fun c12 => ?_) (fun c12 => ?_)
          · exact absurd c12 (by decide)
          · refine V_getsB (pc := 15) d_X0_kindWithBody_15 f_X0_28 ?_
            refine V_iload_n (pc := 18) d_X0_kindWithBody_18 rfl ?_
            refine V_iconst (pc := 19) (nI 4) d_X0_kindWithBody_19 (by decide) ?_
            refine V_imul (pc := 20) d_X0_kindWithBody_20 ?_
            refine V_iload_n (pc := 21) d_X0_kindWithBody_21 rfl ?_
            refine V_iadd (pc := 22) d_X0_kindWithBody_22 ?_
            refine V_bald (pc := 23) (3) d_X0_kindWithBody_23 (by decide) (by decide) ?_
            rw [show boT.getD 3 0 = (nI 13) from rfl]
            refine V_if_ne (pc := 24) 39 d_X0_kindWithBody_24 (by decide) (fun c24 => ?_) (fun c24 => ?_)
            · refine V_iload_n (pc := 39) d_X0_kindWithBody_39 rfl ?_
              exact V_retI (pc := 40) d_X0_kindWithBody_40 rfl ⟨Nat.le_refl _, Nat.le_refl _⟩ hq
            · exact absurd c24 (by decide)
theorem ct_kwb_3_0 (hq : K (nI 3) (σ, sh b)) : CM G mX0_kindWithBody (rl 1) [.int (nI 3), .int 0] (σ, sh b) (QI K) := by
  refine CM.of (by decide) (Nat.le_of_ble_eq_true rfl) (cats1 rfl) ?_
  refine V_iload_n (pc := 0) d_X0_kindWithBody_0 rfl ?_
  refine V_istore_n (pc := 1) d_X0_kindWithBody_1 (by decide) ?_
  refine V_iconst (pc := 2) (0) d_X0_kindWithBody_2 (by decide) ?_
  refine V_istore_n (pc := 3) d_X0_kindWithBody_3 (by decide) ?_
  refine V_iload_n (pc := 4) d_X0_kindWithBody_4 rfl ?_
  refine V_bipush (pc := 5) (nI 6) d_X0_kindWithBody_5 (by decide) ?_
  refine B_icmp_ge (pc := 7) 39 d_X0_kindWithBody_7 (by decide) (fun c7 => ?_) (fun c7 => ?_)
  · exact absurd c7 (by decide)
  · simp (disch := omega) only [show (nI 6).toInt = 6 from by decide, nI_toInt, ti0, ti1, tim1, tim20, tim1000] at c7
    refine V_iload_n (pc := 10) d_X0_kindWithBody_10 rfl ?_
    refine V_iconst (pc := 11) (-1) d_X0_kindWithBody_11 (by decide) ?_
    refine V_icmp_eq (pc := 12) 39 d_X0_kindWithBody_12 (by decide) (fun c12 => ?_) (fun c12 => ?_)
    · exact absurd c12 (by decide)
    · refine V_getsB (pc := 15) d_X0_kindWithBody_15 f_X0_28 ?_
      refine V_iload_n (pc := 18) d_X0_kindWithBody_18 rfl ?_
      refine V_iconst (pc := 19) (nI 4) d_X0_kindWithBody_19 (by decide) ?_
      refine V_imul (pc := 20) d_X0_kindWithBody_20 ?_
      refine V_iload_n (pc := 21) d_X0_kindWithBody_21 rfl ?_
      refine V_iadd (pc := 22) d_X0_kindWithBody_22 ?_
      refine V_bald (pc := 23) (12) d_X0_kindWithBody_23 (by decide) (by decide) ?_
      rw [show boT.getD 12 0 = (nI 41) from rfl]
      refine V_if_ne (pc := 24) 39 d_X0_kindWithBody_24 (by decide) (fun c24 => ?_) (fun c24 => ?_)
      · refine V_iload_n (pc := 39) d_X0_kindWithBody_39 rfl ?_
        exact V_retI (pc := 40) d_X0_kindWithBody_40 rfl ⟨Nat.le_refl _, Nat.le_refl _⟩ hq
      · exact absurd c24 (by decide)
theorem ct_kwb_3_1 (hq : K 0 (σ, sh b)) : CM G mX0_kindWithBody (rl 1) [.int (nI 3), .int 1] (σ, sh b) (QI K) := by
  refine CM.of (by decide) (Nat.le_of_ble_eq_true rfl) (cats1 rfl) ?_
  refine V_iload_n (pc := 0) d_X0_kindWithBody_0 rfl ?_
  refine V_istore_n (pc := 1) d_X0_kindWithBody_1 (by decide) ?_
  refine V_iconst (pc := 2) (0) d_X0_kindWithBody_2 (by decide) ?_
  refine V_istore_n (pc := 3) d_X0_kindWithBody_3 (by decide) ?_
  refine V_iload_n (pc := 4) d_X0_kindWithBody_4 rfl ?_
  refine V_bipush (pc := 5) (nI 6) d_X0_kindWithBody_5 (by decide) ?_
  refine B_icmp_ge (pc := 7) 39 d_X0_kindWithBody_7 (by decide) (fun c7 => ?_) (fun c7 => ?_)
  · exact absurd c7 (by decide)
  · simp (disch := omega) only [show (nI 6).toInt = 6 from by decide, nI_toInt, ti0, ti1, tim1, tim20, tim1000] at c7
    refine V_iload_n (pc := 10) d_X0_kindWithBody_10 rfl ?_
    refine V_iconst (pc := 11) (-1) d_X0_kindWithBody_11 (by decide) ?_
    refine V_icmp_eq (pc := 12) 39 d_X0_kindWithBody_12 (by decide) (fun c12 => ?_) (fun c12 => ?_)
    · exact absurd c12 (by decide)
    · refine V_getsB (pc := 15) d_X0_kindWithBody_15 f_X0_28 ?_
      refine V_iload_n (pc := 18) d_X0_kindWithBody_18 rfl ?_
      refine V_iconst (pc := 19) (nI 4) d_X0_kindWithBody_19 (by decide) ?_
      refine V_imul (pc := 20) d_X0_kindWithBody_20 ?_
      refine V_iload_n (pc := 21) d_X0_kindWithBody_21 rfl ?_
      refine V_iadd (pc := 22) d_X0_kindWithBody_22 ?_
      refine V_bald (pc := 23) (13) d_X0_kindWithBody_23 (by decide) (by decide) ?_
      rw [show boT.getD 13 0 = 0 from rfl]
      refine V_if_ne (pc := 24) 39 d_X0_kindWithBody_24 (by decide) (fun c24 => ?_) (fun c24 => ?_)
      · exact absurd rfl c24
      · refine V_getsKN (pc := 27) d_X0_kindWithBody_27 f_X0_31 ?_
        refine V_iload_n (pc := 30) d_X0_kindWithBody_30 rfl ?_
        refine V_kald (pc := 31) (3) d_X0_kindWithBody_31 (by decide) (by decide) ?_
        rw [show kaT.getD 3 0 = 1 from rfl]
        refine V_istore_n (pc := 32) d_X0_kindWithBody_32 (by decide) ?_
        refine V_iinc (pc := 33) d_X0_kindWithBody_33 rfl (by decide) ?_
        refine V_goto (pc := 36) 4 d_X0_kindWithBody_36 (by decide) ?_
        refine V_iload_n (pc := 4) d_X0_kindWithBody_4 rfl ?_
        refine V_bipush (pc := 5) (nI 6) d_X0_kindWithBody_5 (by decide) ?_
        refine B_icmp_ge (pc := 7) 39 d_X0_kindWithBody_7 (by decide) (fun c7 => ?_) (fun c7 => ?_)
        · exact absurd c7 (by decide)
        · simp (disch := omega) only [show (nI 6).toInt = 6 from by decide, nI_toInt, ti0, ti1, tim1, tim20, tim1000] at c7
          refine V_iload_n (pc := 10) d_X0_kindWithBody_10 rfl ?_
          refine V_iconst (pc := 11) (-1) d_X0_kindWithBody_11 (by decide) ?_
          refine V_icmp_eq (pc := 12) 39 d_X0_kindWithBody_12 (by decide) (fun c12 => ?_) (fun c12 => ?_)
          · exact absurd c12 (by decide)
          · refine V_getsB (pc := 15) d_X0_kindWithBody_15 f_X0_28 ?_
            refine V_iload_n (pc := 18) d_X0_kindWithBody_18 rfl ?_
            refine V_iconst (pc := 19) (nI 4) d_X0_kindWithBody_19 (by decide) ?_
            refine V_imul (pc := 20) d_X0_kindWithBody_20 ?_
            refine V_iload_n (pc := 21) d_X0_kindWithBody_21 rfl ?_
            refine V_iadd (pc := 22) d_X0_kindWithBody_22 ?_
            refine V_bald (pc := 23) (5) d_X0_kindWithBody_23 (by decide) (by decide) ?_
            rw [show boT.getD 5 0 = 0 from rfl]
            refine V_if_ne (pc := 24) 39 d_X0_kindWithBody_24 (by decide) (fun c24 => ?_) (fun c24 => ?_)
            · exact absurd rfl c24
            · refine V_getsKN (pc := 27) d_X0_kindWithBody_27 f_X0_31 ?_
              refine V_iload_n (pc := 30) d_X0_kindWithBody_30 rfl ?_
              refine V_kald (pc := 31) (1) d_X0_kindWithBody_31 (by decide) (by decide) ?_
              rw [show kaT.getD 1 0 = 0 from rfl]
              refine V_istore_n (pc := 32) d_X0_kindWithBody_32 (by decide) ?_
              refine V_iinc (pc := 33) d_X0_kindWithBody_33 rfl (by decide) ?_
              refine V_goto (pc := 36) 4 d_X0_kindWithBody_36 (by decide) ?_
              refine V_iload_n (pc := 4) d_X0_kindWithBody_4 rfl ?_
              refine V_bipush (pc := 5) (nI 6) d_X0_kindWithBody_5 (by decide) ?_
              refine B_icmp_ge (pc := 7) 39 d_X0_kindWithBody_7 (by decide) (fun c7 => ?_) (fun c7 => ?_)
              · exact absurd c7 (by decide)
              · simp (disch := omega) only [show (nI 6).toInt = 6 from by decide, show (nI 2).toInt = 2 from by decide, nI_toInt, ti0, ti1, tim1, tim20, tim1000] at c7
                refine V_iload_n (pc := 10) d_X0_kindWithBody_10 rfl ?_
                refine V_iconst (pc := 11) (-1) d_X0_kindWithBody_11 (by decide) ?_
                refine V_icmp_eq (pc := 12) 39 d_X0_kindWithBody_12 (by decide) (fun c12 => ?_) (fun c12 => ?_)
                · exact absurd c12 (by decide)
                · refine V_getsB (pc := 15) d_X0_kindWithBody_15 f_X0_28 ?_
                  refine V_iload_n (pc := 18) d_X0_kindWithBody_18 rfl ?_
                  refine V_iconst (pc := 19) (nI 4) d_X0_kindWithBody_19 (by decide) ?_
                  refine V_imul (pc := 20) d_X0_kindWithBody_20 ?_
                  refine V_iload_n (pc := 21) d_X0_kindWithBody_21 rfl ?_
                  refine V_iadd (pc := 22) d_X0_kindWithBody_22 ?_
                  refine V_bald (pc := 23) (1) d_X0_kindWithBody_23 (by decide) (by decide) ?_
                  rw [show boT.getD 1 0 = (nI 11) from rfl]
                  refine V_if_ne (pc := 24) 39 d_X0_kindWithBody_24 (by decide) (fun c24 => ?_) (fun c24 => ?_)
                  · refine V_iload_n (pc := 39) d_X0_kindWithBody_39 rfl ?_
                    exact V_retI (pc := 40) d_X0_kindWithBody_40 rfl ⟨Nat.le_refl _, Nat.le_refl _⟩ hq
                  · exact absurd c24 (by decide)
theorem ct_kwb_3_2 (hq : K (nI 3) (σ, sh b)) : CM G mX0_kindWithBody (rl 1) [.int (nI 3), .int (nI 2)] (σ, sh b) (QI K) := by
  refine CM.of (by decide) (Nat.le_of_ble_eq_true rfl) (cats1 rfl) ?_
  refine V_iload_n (pc := 0) d_X0_kindWithBody_0 rfl ?_
  refine V_istore_n (pc := 1) d_X0_kindWithBody_1 (by decide) ?_
  refine V_iconst (pc := 2) (0) d_X0_kindWithBody_2 (by decide) ?_
  refine V_istore_n (pc := 3) d_X0_kindWithBody_3 (by decide) ?_
  refine V_iload_n (pc := 4) d_X0_kindWithBody_4 rfl ?_
  refine V_bipush (pc := 5) (nI 6) d_X0_kindWithBody_5 (by decide) ?_
  refine B_icmp_ge (pc := 7) 39 d_X0_kindWithBody_7 (by decide) (fun c7 => ?_) (fun c7 => ?_)
  · exact absurd c7 (by decide)
  · simp (disch := omega) only [show (nI 6).toInt = 6 from by decide, nI_toInt, ti0, ti1, tim1, tim20, tim1000] at c7
    refine V_iload_n (pc := 10) d_X0_kindWithBody_10 rfl ?_
    refine V_iconst (pc := 11) (-1) d_X0_kindWithBody_11 (by decide) ?_
    refine V_icmp_eq (pc := 12) 39 d_X0_kindWithBody_12 (by decide) (fun c12 => ?_) (fun c12 => ?_)
    · exact absurd c12 (by decide)
    · refine V_getsB (pc := 15) d_X0_kindWithBody_15 f_X0_28 ?_
      refine V_iload_n (pc := 18) d_X0_kindWithBody_18 rfl ?_
      refine V_iconst (pc := 19) (nI 4) d_X0_kindWithBody_19 (by decide) ?_
      refine V_imul (pc := 20) d_X0_kindWithBody_20 ?_
      refine V_iload_n (pc := 21) d_X0_kindWithBody_21 rfl ?_
      refine V_iadd (pc := 22) d_X0_kindWithBody_22 ?_
      refine V_bald (pc := 23) (14) d_X0_kindWithBody_23 (by decide) (by decide) ?_
      rw [show boT.getD 14 0 = (nI 40) from rfl]
      refine V_if_ne (pc := 24) 39 d_X0_kindWithBody_24 (by decide) (fun c24 => ?_) (fun c24 => ?_)
      · refine V_iload_n (pc := 39) d_X0_kindWithBody_39 rfl ?_
        exact V_retI (pc := 40) d_X0_kindWithBody_40 rfl ⟨Nat.le_refl _, Nat.le_refl _⟩ hq
      · exact absurd c24 (by decide)
theorem ct_kwb_3_3 (hq : K 1 (σ, sh b)) : CM G mX0_kindWithBody (rl 1) [.int (nI 3), .int (nI 3)] (σ, sh b) (QI K) := by
  refine CM.of (by decide) (Nat.le_of_ble_eq_true rfl) (cats1 rfl) ?_
  refine V_iload_n (pc := 0) d_X0_kindWithBody_0 rfl ?_
  refine V_istore_n (pc := 1) d_X0_kindWithBody_1 (by decide) ?_
  refine V_iconst (pc := 2) (0) d_X0_kindWithBody_2 (by decide) ?_
  refine V_istore_n (pc := 3) d_X0_kindWithBody_3 (by decide) ?_
  refine V_iload_n (pc := 4) d_X0_kindWithBody_4 rfl ?_
  refine V_bipush (pc := 5) (nI 6) d_X0_kindWithBody_5 (by decide) ?_
  refine B_icmp_ge (pc := 7) 39 d_X0_kindWithBody_7 (by decide) (fun c7 => ?_) (fun c7 => ?_)
  · exact absurd c7 (by decide)
  · simp (disch := omega) only [show (nI 6).toInt = 6 from by decide, nI_toInt, ti0, ti1, tim1, tim20, tim1000] at c7
    refine V_iload_n (pc := 10) d_X0_kindWithBody_10 rfl ?_
    refine V_iconst (pc := 11) (-1) d_X0_kindWithBody_11 (by decide) ?_
    refine V_icmp_eq (pc := 12) 39 d_X0_kindWithBody_12 (by decide) (fun c12 => ?_) (fun c12 => ?_)
    · exact absurd c12 (by decide)
    · refine V_getsB (pc := 15) d_X0_kindWithBody_15 f_X0_28 ?_
      refine V_iload_n (pc := 18) d_X0_kindWithBody_18 rfl ?_
      refine V_iconst (pc := 19) (nI 4) d_X0_kindWithBody_19 (by decide) ?_
      refine V_imul (pc := 20) d_X0_kindWithBody_20 ?_
      refine V_iload_n (pc := 21) d_X0_kindWithBody_21 rfl ?_
      refine V_iadd (pc := 22) d_X0_kindWithBody_22 ?_
      refine V_bald (pc := 23) (15) d_X0_kindWithBody_23 (by decide) (by decide) ?_
      rw [show boT.getD 15 0 = 0 from rfl]
      refine V_if_ne (pc := 24) 39 d_X0_kindWithBody_24 (by decide) (fun c24 => ?_) (fun c24 => ?_)
      · exact absurd rfl c24
      · refine V_getsKN (pc := 27) d_X0_kindWithBody_27 f_X0_31 ?_
        refine V_iload_n (pc := 30) d_X0_kindWithBody_30 rfl ?_
        refine V_kald (pc := 31) (3) d_X0_kindWithBody_31 (by decide) (by decide) ?_
        rw [show kaT.getD 3 0 = 1 from rfl]
        refine V_istore_n (pc := 32) d_X0_kindWithBody_32 (by decide) ?_
        refine V_iinc (pc := 33) d_X0_kindWithBody_33 rfl (by decide) ?_
        refine V_goto (pc := 36) 4 d_X0_kindWithBody_36 (by decide) ?_
        refine V_iload_n (pc := 4) d_X0_kindWithBody_4 rfl ?_
        refine V_bipush (pc := 5) (nI 6) d_X0_kindWithBody_5 (by decide) ?_
        refine B_icmp_ge (pc := 7) 39 d_X0_kindWithBody_7 (by decide) (fun c7 => ?_) (fun c7 => ?_)
        · exact absurd c7 (by decide)
        · simp (disch := omega) only [show (nI 6).toInt = 6 from by decide, nI_toInt, ti0, ti1, tim1, tim20, tim1000] at c7
          refine V_iload_n (pc := 10) d_X0_kindWithBody_10 rfl ?_
          refine V_iconst (pc := 11) (-1) d_X0_kindWithBody_11 (by decide) ?_
          refine V_icmp_eq (pc := 12) 39 d_X0_kindWithBody_12 (by decide) (fun c12 => ?_) (fun c12 => ?_)
          · exact absurd c12 (by decide)
          · refine V_getsB (pc := 15) d_X0_kindWithBody_15 f_X0_28 ?_
            refine V_iload_n (pc := 18) d_X0_kindWithBody_18 rfl ?_
            refine V_iconst (pc := 19) (nI 4) d_X0_kindWithBody_19 (by decide) ?_
            refine V_imul (pc := 20) d_X0_kindWithBody_20 ?_
            refine V_iload_n (pc := 21) d_X0_kindWithBody_21 rfl ?_
            refine V_iadd (pc := 22) d_X0_kindWithBody_22 ?_
            refine V_bald (pc := 23) (7) d_X0_kindWithBody_23 (by decide) (by decide) ?_
            rw [show boT.getD 7 0 = (nI 21) from rfl]
            refine V_if_ne (pc := 24) 39 d_X0_kindWithBody_24 (by decide) (fun c24 => ?_) (fun c24 => ?_)
            · refine V_iload_n (pc := 39) d_X0_kindWithBody_39 rfl ?_
              exact V_retI (pc := 40) d_X0_kindWithBody_40 rfl ⟨Nat.le_refl _, Nat.le_refl _⟩ hq
            · exact absurd c24 (by decide)
theorem ct_kwb_4_0 (hq : K 0 (σ, sh b)) : CM G mX0_kindWithBody (rl 1) [.int (nI 4), .int 0] (σ, sh b) (QI K) := by
  refine CM.of (by decide) (Nat.le_of_ble_eq_true rfl) (cats1 rfl) ?_
  refine V_iload_n (pc := 0) d_X0_kindWithBody_0 rfl ?_
  refine V_istore_n (pc := 1) d_X0_kindWithBody_1 (by decide) ?_
  refine V_iconst (pc := 2) (0) d_X0_kindWithBody_2 (by decide) ?_
  refine V_istore_n (pc := 3) d_X0_kindWithBody_3 (by decide) ?_
  refine V_iload_n (pc := 4) d_X0_kindWithBody_4 rfl ?_
  refine V_bipush (pc := 5) (nI 6) d_X0_kindWithBody_5 (by decide) ?_
  refine B_icmp_ge (pc := 7) 39 d_X0_kindWithBody_7 (by decide) (fun c7 => ?_) (fun c7 => ?_)
  · exact absurd c7 (by decide)
  · simp (disch := omega) only [show (nI 6).toInt = 6 from by decide, nI_toInt, ti0, ti1, tim1, tim20, tim1000] at c7
    refine V_iload_n (pc := 10) d_X0_kindWithBody_10 rfl ?_
    refine V_iconst (pc := 11) (-1) d_X0_kindWithBody_11 (by decide) ?_
    refine V_icmp_eq (pc := 12) 39 d_X0_kindWithBody_12 (by decide) (fun c12 => ?_) (fun c12 => ?_)
    · exact absurd c12 (by decide)
    · refine V_getsB (pc := 15) d_X0_kindWithBody_15 f_X0_28 ?_
      refine V_iload_n (pc := 18) d_X0_kindWithBody_18 rfl ?_
      refine V_iconst (pc := 19) (nI 4) d_X0_kindWithBody_19 (by decide) ?_
      refine V_imul (pc := 20) d_X0_kindWithBody_20 ?_
      refine V_iload_n (pc := 21) d_X0_kindWithBody_21 rfl ?_
      refine V_iadd (pc := 22) d_X0_kindWithBody_22 ?_
      refine V_bald (pc := 23) (16) d_X0_kindWithBody_23 (by decide) (by decide) ?_
      rw [show boT.getD 16 0 = 0 from rfl]
      refine V_if_ne (pc := 24) 39 d_X0_kindWithBody_24 (by decide) (fun c24 => ?_) (fun c24 => ?_)
      · exact absurd rfl c24
      · refine V_getsKN (pc := 27) d_X0_kindWithBody_27 f_X0_31 ?_
        refine V_iload_n (pc := 30) d_X0_kindWithBody_30 rfl ?_
        refine V_kald (pc := 31) (4) d_X0_kindWithBody_31 (by decide) (by decide) ?_
        rw [show kaT.getD 4 0 = 0 from rfl]
        refine V_istore_n (pc := 32) d_X0_kindWithBody_32 (by decide) ?_
        refine V_iinc (pc := 33) d_X0_kindWithBody_33 rfl (by decide) ?_
        refine V_goto (pc := 36) 4 d_X0_kindWithBody_36 (by decide) ?_
        refine V_iload_n (pc := 4) d_X0_kindWithBody_4 rfl ?_
        refine V_bipush (pc := 5) (nI 6) d_X0_kindWithBody_5 (by decide) ?_
        refine B_icmp_ge (pc := 7) 39 d_X0_kindWithBody_7 (by decide) (fun c7 => ?_) (fun c7 => ?_)
        · exact absurd c7 (by decide)
        · simp (disch := omega) only [show (nI 6).toInt = 6 from by decide, nI_toInt, ti0, ti1, tim1, tim20, tim1000] at c7
          refine V_iload_n (pc := 10) d_X0_kindWithBody_10 rfl ?_
          refine V_iconst (pc := 11) (-1) d_X0_kindWithBody_11 (by decide) ?_
          refine V_icmp_eq (pc := 12) 39 d_X0_kindWithBody_12 (by decide) (fun c12 => ?_) (fun c12 => ?_)
          · exact absurd c12 (by decide)
          · refine V_getsB (pc := 15) d_X0_kindWithBody_15 f_X0_28 ?_
            refine V_iload_n (pc := 18) d_X0_kindWithBody_18 rfl ?_
            refine V_iconst (pc := 19) (nI 4) d_X0_kindWithBody_19 (by decide) ?_
            refine V_imul (pc := 20) d_X0_kindWithBody_20 ?_
            refine V_iload_n (pc := 21) d_X0_kindWithBody_21 rfl ?_
            refine V_iadd (pc := 22) d_X0_kindWithBody_22 ?_
            refine V_bald (pc := 23) (0) d_X0_kindWithBody_23 (by decide) (by decide) ?_
            rw [show boT.getD 0 0 = (nI 10) from rfl]
            refine V_if_ne (pc := 24) 39 d_X0_kindWithBody_24 (by decide) (fun c24 => ?_) (fun c24 => ?_)
            · refine V_iload_n (pc := 39) d_X0_kindWithBody_39 rfl ?_
              exact V_retI (pc := 40) d_X0_kindWithBody_40 rfl ⟨Nat.le_refl _, Nat.le_refl _⟩ hq
            · exact absurd c24 (by decide)
theorem ct_kwb_4_1 (hq : K (nI 4) (σ, sh b)) : CM G mX0_kindWithBody (rl 1) [.int (nI 4), .int 1] (σ, sh b) (QI K) := by
  refine CM.of (by decide) (Nat.le_of_ble_eq_true rfl) (cats1 rfl) ?_
  refine V_iload_n (pc := 0) d_X0_kindWithBody_0 rfl ?_
  refine V_istore_n (pc := 1) d_X0_kindWithBody_1 (by decide) ?_
  refine V_iconst (pc := 2) (0) d_X0_kindWithBody_2 (by decide) ?_
  refine V_istore_n (pc := 3) d_X0_kindWithBody_3 (by decide) ?_
  refine V_iload_n (pc := 4) d_X0_kindWithBody_4 rfl ?_
  refine V_bipush (pc := 5) (nI 6) d_X0_kindWithBody_5 (by decide) ?_
  refine B_icmp_ge (pc := 7) 39 d_X0_kindWithBody_7 (by decide) (fun c7 => ?_) (fun c7 => ?_)
  · exact absurd c7 (by decide)
  · simp (disch := omega) only [show (nI 6).toInt = 6 from by decide, nI_toInt, ti0, ti1, tim1, tim20, tim1000] at c7
    refine V_iload_n (pc := 10) d_X0_kindWithBody_10 rfl ?_
    refine V_iconst (pc := 11) (-1) d_X0_kindWithBody_11 (by decide) ?_
    refine V_icmp_eq (pc := 12) 39 d_X0_kindWithBody_12 (by decide) (fun c12 => ?_) (fun c12 => ?_)
    · exact absurd c12 (by decide)
    · refine V_getsB (pc := 15) d_X0_kindWithBody_15 f_X0_28 ?_
      refine V_iload_n (pc := 18) d_X0_kindWithBody_18 rfl ?_
      refine V_iconst (pc := 19) (nI 4) d_X0_kindWithBody_19 (by decide) ?_
      refine V_imul (pc := 20) d_X0_kindWithBody_20 ?_
      refine V_iload_n (pc := 21) d_X0_kindWithBody_21 rfl ?_
      refine V_iadd (pc := 22) d_X0_kindWithBody_22 ?_
      refine V_bald (pc := 23) (17) d_X0_kindWithBody_23 (by decide) (by decide) ?_
      rw [show boT.getD 17 0 = (nI 50) from rfl]
      refine V_if_ne (pc := 24) 39 d_X0_kindWithBody_24 (by decide) (fun c24 => ?_) (fun c24 => ?_)
      · refine V_iload_n (pc := 39) d_X0_kindWithBody_39 rfl ?_
        exact V_retI (pc := 40) d_X0_kindWithBody_40 rfl ⟨Nat.le_refl _, Nat.le_refl _⟩ hq
      · exact absurd c24 (by decide)
theorem ct_kwb_4_2 (hq : K (nI 4) (σ, sh b)) : CM G mX0_kindWithBody (rl 1) [.int (nI 4), .int (nI 2)] (σ, sh b) (QI K) := by
  refine CM.of (by decide) (Nat.le_of_ble_eq_true rfl) (cats1 rfl) ?_
  refine V_iload_n (pc := 0) d_X0_kindWithBody_0 rfl ?_
  refine V_istore_n (pc := 1) d_X0_kindWithBody_1 (by decide) ?_
  refine V_iconst (pc := 2) (0) d_X0_kindWithBody_2 (by decide) ?_
  refine V_istore_n (pc := 3) d_X0_kindWithBody_3 (by decide) ?_
  refine V_iload_n (pc := 4) d_X0_kindWithBody_4 rfl ?_
  refine V_bipush (pc := 5) (nI 6) d_X0_kindWithBody_5 (by decide) ?_
  refine B_icmp_ge (pc := 7) 39 d_X0_kindWithBody_7 (by decide) (fun c7 => ?_) (fun c7 => ?_)
  · exact absurd c7 (by decide)
  · simp (disch := omega) only [show (nI 6).toInt = 6 from by decide, nI_toInt, ti0, ti1, tim1, tim20, tim1000] at c7
    refine V_iload_n (pc := 10) d_X0_kindWithBody_10 rfl ?_
    refine V_iconst (pc := 11) (-1) d_X0_kindWithBody_11 (by decide) ?_
    refine V_icmp_eq (pc := 12) 39 d_X0_kindWithBody_12 (by decide) (fun c12 => ?_) (fun c12 => ?_)
    · exact absurd c12 (by decide)
    · refine V_getsB (pc := 15) d_X0_kindWithBody_15 f_X0_28 ?_
      refine V_iload_n (pc := 18) d_X0_kindWithBody_18 rfl ?_
      refine V_iconst (pc := 19) (nI 4) d_X0_kindWithBody_19 (by decide) ?_
      refine V_imul (pc := 20) d_X0_kindWithBody_20 ?_
      refine V_iload_n (pc := 21) d_X0_kindWithBody_21 rfl ?_
      refine V_iadd (pc := 22) d_X0_kindWithBody_22 ?_
      refine V_bald (pc := 23) (18) d_X0_kindWithBody_23 (by decide) (by decide) ?_
      rw [show boT.getD 18 0 = (nI 51) from rfl]
      refine V_if_ne (pc := 24) 39 d_X0_kindWithBody_24 (by decide) (fun c24 => ?_) (fun c24 => ?_)
      · refine V_iload_n (pc := 39) d_X0_kindWithBody_39 rfl ?_
        exact V_retI (pc := 40) d_X0_kindWithBody_40 rfl ⟨Nat.le_refl _, Nat.le_refl _⟩ hq
      · exact absurd c24 (by decide)
theorem ct_kwb_4_3 (hq : K 0 (σ, sh b)) : CM G mX0_kindWithBody (rl 1) [.int (nI 4), .int (nI 3)] (σ, sh b) (QI K) := by
  refine CM.of (by decide) (Nat.le_of_ble_eq_true rfl) (cats1 rfl) ?_
  refine V_iload_n (pc := 0) d_X0_kindWithBody_0 rfl ?_
  refine V_istore_n (pc := 1) d_X0_kindWithBody_1 (by decide) ?_
  refine V_iconst (pc := 2) (0) d_X0_kindWithBody_2 (by decide) ?_
  refine V_istore_n (pc := 3) d_X0_kindWithBody_3 (by decide) ?_
  refine V_iload_n (pc := 4) d_X0_kindWithBody_4 rfl ?_
  refine V_bipush (pc := 5) (nI 6) d_X0_kindWithBody_5 (by decide) ?_
  refine B_icmp_ge (pc := 7) 39 d_X0_kindWithBody_7 (by decide) (fun c7 => ?_) (fun c7 => ?_)
  · exact absurd c7 (by decide)
  · simp (disch := omega) only [show (nI 6).toInt = 6 from by decide, nI_toInt, ti0, ti1, tim1, tim20, tim1000] at c7
    refine V_iload_n (pc := 10) d_X0_kindWithBody_10 rfl ?_
    refine V_iconst (pc := 11) (-1) d_X0_kindWithBody_11 (by decide) ?_
    refine V_icmp_eq (pc := 12) 39 d_X0_kindWithBody_12 (by decide) (fun c12 => ?_) (fun c12 => ?_)
    · exact absurd c12 (by decide)
    · refine V_getsB (pc := 15) d_X0_kindWithBody_15 f_X0_28 ?_
      refine V_iload_n (pc := 18) d_X0_kindWithBody_18 rfl ?_
      refine V_iconst (pc := 19) (nI 4) d_X0_kindWithBody_19 (by decide) ?_
      refine V_imul (pc := 20) d_X0_kindWithBody_20 ?_
      refine V_iload_n (pc := 21) d_X0_kindWithBody_21 rfl ?_
      refine V_iadd (pc := 22) d_X0_kindWithBody_22 ?_
      refine V_bald (pc := 23) (19) d_X0_kindWithBody_23 (by decide) (by decide) ?_
      rw [show boT.getD 19 0 = 0 from rfl]
      refine V_if_ne (pc := 24) 39 d_X0_kindWithBody_24 (by decide) (fun c24 => ?_) (fun c24 => ?_)
      · exact absurd rfl c24
      · refine V_getsKN (pc := 27) d_X0_kindWithBody_27 f_X0_31 ?_
        refine V_iload_n (pc := 30) d_X0_kindWithBody_30 rfl ?_
        refine V_kald (pc := 31) (4) d_X0_kindWithBody_31 (by decide) (by decide) ?_
        rw [show kaT.getD 4 0 = 0 from rfl]
        refine V_istore_n (pc := 32) d_X0_kindWithBody_32 (by decide) ?_
        refine V_iinc (pc := 33) d_X0_kindWithBody_33 rfl (by decide) ?_
        refine V_goto (pc := 36) 4 d_X0_kindWithBody_36 (by decide) ?_
        refine V_iload_n (pc := 4) d_X0_kindWithBody_4 rfl ?_
        refine V_bipush (pc := 5) (nI 6) d_X0_kindWithBody_5 (by decide) ?_
        refine B_icmp_ge (pc := 7) 39 d_X0_kindWithBody_7 (by decide) (fun c7 => ?_) (fun c7 => ?_)
        · exact absurd c7 (by decide)
        · simp (disch := omega) only [show (nI 6).toInt = 6 from by decide, nI_toInt, ti0, ti1, tim1, tim20, tim1000] at c7
          refine V_iload_n (pc := 10) d_X0_kindWithBody_10 rfl ?_
          refine V_iconst (pc := 11) (-1) d_X0_kindWithBody_11 (by decide) ?_
          refine V_icmp_eq (pc := 12) 39 d_X0_kindWithBody_12 (by decide) (fun c12 => ?_) (fun c12 => ?_)
          · exact absurd c12 (by decide)
          · refine V_getsB (pc := 15) d_X0_kindWithBody_15 f_X0_28 ?_
            refine V_iload_n (pc := 18) d_X0_kindWithBody_18 rfl ?_
            refine V_iconst (pc := 19) (nI 4) d_X0_kindWithBody_19 (by decide) ?_
            refine V_imul (pc := 20) d_X0_kindWithBody_20 ?_
            refine V_iload_n (pc := 21) d_X0_kindWithBody_21 rfl ?_
            refine V_iadd (pc := 22) d_X0_kindWithBody_22 ?_
            refine V_bald (pc := 23) (3) d_X0_kindWithBody_23 (by decide) (by decide) ?_
            rw [show boT.getD 3 0 = (nI 13) from rfl]
            refine V_if_ne (pc := 24) 39 d_X0_kindWithBody_24 (by decide) (fun c24 => ?_) (fun c24 => ?_)
            · refine V_iload_n (pc := 39) d_X0_kindWithBody_39 rfl ?_
              exact V_retI (pc := 40) d_X0_kindWithBody_40 rfl ⟨Nat.le_refl _, Nat.le_refl _⟩ hq
            · exact absurd c24 (by decide)
theorem ct_kwb_5_0 (hq : K 0 (σ, sh b)) : CM G mX0_kindWithBody (rl 1) [.int (nI 5), .int 0] (σ, sh b) (QI K) := by
  refine CM.of (by decide) (Nat.le_of_ble_eq_true rfl) (cats1 rfl) ?_
  refine V_iload_n (pc := 0) d_X0_kindWithBody_0 rfl ?_
  refine V_istore_n (pc := 1) d_X0_kindWithBody_1 (by decide) ?_
  refine V_iconst (pc := 2) (0) d_X0_kindWithBody_2 (by decide) ?_
  refine V_istore_n (pc := 3) d_X0_kindWithBody_3 (by decide) ?_
  refine V_iload_n (pc := 4) d_X0_kindWithBody_4 rfl ?_
  refine V_bipush (pc := 5) (nI 6) d_X0_kindWithBody_5 (by decide) ?_
  refine B_icmp_ge (pc := 7) 39 d_X0_kindWithBody_7 (by decide) (fun c7 => ?_) (fun c7 => ?_)
  · exact absurd c7 (by decide)
  · simp (disch := omega) only [show (nI 6).toInt = 6 from by decide, nI_toInt, ti0, ti1, tim1, tim20, tim1000] at c7
    refine V_iload_n (pc := 10) d_X0_kindWithBody_10 rfl ?_
    refine V_iconst (pc := 11) (-1) d_X0_kindWithBody_11 (by decide) ?_
    refine V_icmp_eq (pc := 12) 39 d_X0_kindWithBody_12 (by decide) (fun c12 => ?_) (fun c12 => ?_)
    · exact absurd c12 (by decide)
    · refine V_getsB (pc := 15) d_X0_kindWithBody_15 f_X0_28 ?_
      refine V_iload_n (pc := 18) d_X0_kindWithBody_18 rfl ?_
      refine V_iconst (pc := 19) (nI 4) d_X0_kindWithBody_19 (by decide) ?_
      refine V_imul (pc := 20) d_X0_kindWithBody_20 ?_
      refine V_iload_n (pc := 21) d_X0_kindWithBody_21 rfl ?_
      refine V_iadd (pc := 22) d_X0_kindWithBody_22 ?_
      refine V_bald (pc := 23) (20) d_X0_kindWithBody_23 (by decide) (by decide) ?_
      rw [show boT.getD 20 0 = 0 from rfl]
      refine V_if_ne (pc := 24) 39 d_X0_kindWithBody_24 (by decide) (fun c24 => ?_) (fun c24 => ?_)
      · exact absurd rfl c24
      · refine V_getsKN (pc := 27) d_X0_kindWithBody_27 f_X0_31 ?_
        refine V_iload_n (pc := 30) d_X0_kindWithBody_30 rfl ?_
        refine V_kald (pc := 31) (5) d_X0_kindWithBody_31 (by decide) (by decide) ?_
        rw [show kaT.getD 5 0 = 0 from rfl]
        refine V_istore_n (pc := 32) d_X0_kindWithBody_32 (by decide) ?_
        refine V_iinc (pc := 33) d_X0_kindWithBody_33 rfl (by decide) ?_
        refine V_goto (pc := 36) 4 d_X0_kindWithBody_36 (by decide) ?_
        refine V_iload_n (pc := 4) d_X0_kindWithBody_4 rfl ?_
        refine V_bipush (pc := 5) (nI 6) d_X0_kindWithBody_5 (by decide) ?_
        refine B_icmp_ge (pc := 7) 39 d_X0_kindWithBody_7 (by decide) (fun c7 => ?_) (fun c7 => ?_)
        · exact absurd c7 (by decide)
        · simp (disch := omega) only [show (nI 6).toInt = 6 from by decide, nI_toInt, ti0, ti1, tim1, tim20, tim1000] at c7
          refine V_iload_n (pc := 10) d_X0_kindWithBody_10 rfl ?_
          refine V_iconst (pc := 11) (-1) d_X0_kindWithBody_11 (by decide) ?_
          refine V_icmp_eq (pc := 12) 39 d_X0_kindWithBody_12 (by decide) (fun c12 => ?_) (fun c12 => ?_)
          · exact absurd c12 (by decide)
          · refine V_getsB (pc := 15) d_X0_kindWithBody_15 f_X0_28 ?_
            refine V_iload_n (pc := 18) d_X0_kindWithBody_18 rfl ?_
            refine V_iconst (pc := 19) (nI 4) d_X0_kindWithBody_19 (by decide) ?_
            refine V_imul (pc := 20) d_X0_kindWithBody_20 ?_
            refine V_iload_n (pc := 21) d_X0_kindWithBody_21 rfl ?_
            refine V_iadd (pc := 22) d_X0_kindWithBody_22 ?_
            refine V_bald (pc := 23) (0) d_X0_kindWithBody_23 (by decide) (by decide) ?_
            rw [show boT.getD 0 0 = (nI 10) from rfl]
            refine V_if_ne (pc := 24) 39 d_X0_kindWithBody_24 (by decide) (fun c24 => ?_) (fun c24 => ?_)
            · refine V_iload_n (pc := 39) d_X0_kindWithBody_39 rfl ?_
              exact V_retI (pc := 40) d_X0_kindWithBody_40 rfl ⟨Nat.le_refl _, Nat.le_refl _⟩ hq
            · exact absurd c24 (by decide)
theorem ct_kwb_5_1 (hq : K 0 (σ, sh b)) : CM G mX0_kindWithBody (rl 1) [.int (nI 5), .int 1] (σ, sh b) (QI K) := by
  refine CM.of (by decide) (Nat.le_of_ble_eq_true rfl) (cats1 rfl) ?_
  refine V_iload_n (pc := 0) d_X0_kindWithBody_0 rfl ?_
  refine V_istore_n (pc := 1) d_X0_kindWithBody_1 (by decide) ?_
  refine V_iconst (pc := 2) (0) d_X0_kindWithBody_2 (by decide) ?_
  refine V_istore_n (pc := 3) d_X0_kindWithBody_3 (by decide) ?_
  refine V_iload_n (pc := 4) d_X0_kindWithBody_4 rfl ?_
  refine V_bipush (pc := 5) (nI 6) d_X0_kindWithBody_5 (by decide) ?_
  refine B_icmp_ge (pc := 7) 39 d_X0_kindWithBody_7 (by decide) (fun c7 => ?_) (fun c7 => ?_)
  · exact absurd c7 (by decide)
  · simp (disch := omega) only [show (nI 6).toInt = 6 from by decide, nI_toInt, ti0, ti1, tim1, tim20, tim1000] at c7
    refine V_iload_n (pc := 10) d_X0_kindWithBody_10 rfl ?_
    refine V_iconst (pc := 11) (-1) d_X0_kindWithBody_11 (by decide) ?_
    refine V_icmp_eq (pc := 12) 39 d_X0_kindWithBody_12 (by decide) (fun c12 => ?_) (fun c12 => ?_)
    · exact absurd c12 (by decide)
    · refine V_getsB (pc := 15) d_X0_kindWithBody_15 f_X0_28 ?_
      refine V_iload_n (pc := 18) d_X0_kindWithBody_18 rfl ?_
      refine V_iconst (pc := 19) (nI 4) d_X0_kindWithBody_19 (by decide) ?_
      refine V_imul (pc := 20) d_X0_kindWithBody_20 ?_
      refine V_iload_n (pc := 21) d_X0_kindWithBody_21 rfl ?_
      refine V_iadd (pc := 22) d_X0_kindWithBody_22 ?_
      refine V_bald (pc := 23) (21) d_X0_kindWithBody_23 (by decide) (by decide) ?_
      rw [show boT.getD 21 0 = 0 from rfl]
      refine V_if_ne (pc := 24) 39 d_X0_kindWithBody_24 (by decide) (fun c24 => ?_) (fun c24 => ?_)
      · exact absurd rfl c24
      · refine V_getsKN (pc := 27) d_X0_kindWithBody_27 f_X0_31 ?_
        refine V_iload_n (pc := 30) d_X0_kindWithBody_30 rfl ?_
        refine V_kald (pc := 31) (5) d_X0_kindWithBody_31 (by decide) (by decide) ?_
        rw [show kaT.getD 5 0 = 0 from rfl]
        refine V_istore_n (pc := 32) d_X0_kindWithBody_32 (by decide) ?_
        refine V_iinc (pc := 33) d_X0_kindWithBody_33 rfl (by decide) ?_
        refine V_goto (pc := 36) 4 d_X0_kindWithBody_36 (by decide) ?_
        refine V_iload_n (pc := 4) d_X0_kindWithBody_4 rfl ?_
        refine V_bipush (pc := 5) (nI 6) d_X0_kindWithBody_5 (by decide) ?_
        refine B_icmp_ge (pc := 7) 39 d_X0_kindWithBody_7 (by decide) (fun c7 => ?_) (fun c7 => ?_)
        · exact absurd c7 (by decide)
        · simp (disch := omega) only [show (nI 6).toInt = 6 from by decide, nI_toInt, ti0, ti1, tim1, tim20, tim1000] at c7
          refine V_iload_n (pc := 10) d_X0_kindWithBody_10 rfl ?_
          refine V_iconst (pc := 11) (-1) d_X0_kindWithBody_11 (by decide) ?_
          refine V_icmp_eq (pc := 12) 39 d_X0_kindWithBody_12 (by decide) (fun c12 => ?_) (fun c12 => ?_)
          · exact absurd c12 (by decide)
          · refine V_getsB (pc := 15) d_X0_kindWithBody_15 f_X0_28 ?_
            refine V_iload_n (pc := 18) d_X0_kindWithBody_18 rfl ?_
            refine V_iconst (pc := 19) (nI 4) d_X0_kindWithBody_19 (by decide) ?_
            refine V_imul (pc := 20) d_X0_kindWithBody_20 ?_
            refine V_iload_n (pc := 21) d_X0_kindWithBody_21 rfl ?_
            refine V_iadd (pc := 22) d_X0_kindWithBody_22 ?_
            refine V_bald (pc := 23) (1) d_X0_kindWithBody_23 (by decide) (by decide) ?_
            rw [show boT.getD 1 0 = (nI 11) from rfl]
            refine V_if_ne (pc := 24) 39 d_X0_kindWithBody_24 (by decide) (fun c24 => ?_) (fun c24 => ?_)
            · refine V_iload_n (pc := 39) d_X0_kindWithBody_39 rfl ?_
              exact V_retI (pc := 40) d_X0_kindWithBody_40 rfl ⟨Nat.le_refl _, Nat.le_refl _⟩ hq
            · exact absurd c24 (by decide)
theorem ct_kwb_5_2 (hq : K 0 (σ, sh b)) : CM G mX0_kindWithBody (rl 1) [.int (nI 5), .int (nI 2)] (σ, sh b) (QI K) := by
  refine CM.of (by decide) (Nat.le_of_ble_eq_true rfl) (cats1 rfl) ?_
  refine V_iload_n (pc := 0) d_X0_kindWithBody_0 rfl ?_
  refine V_istore_n (pc := 1) d_X0_kindWithBody_1 (by decide) ?_
  refine V_iconst (pc := 2) (0) d_X0_kindWithBody_2 (by decide) ?_
  refine V_istore_n (pc := 3) d_X0_kindWithBody_3 (by decide) ?_
  refine V_iload_n (pc := 4) d_X0_kindWithBody_4 rfl ?_
  refine V_bipush (pc := 5) (nI 6) d_X0_kindWithBody_5 (by decide) ?_
  refine B_icmp_ge (pc := 7) 39 d_X0_kindWithBody_7 (by decide) (fun c7 => ?_) (fun c7 => ?_)
  · exact absurd c7 (by decide)
  · simp (disch := omega) only [show (nI 6).toInt = 6 from by decide, nI_toInt, ti0, ti1, tim1, tim20, tim1000] at c7
    refine V_iload_n (pc := 10) d_X0_kindWithBody_10 rfl ?_
    refine V_iconst (pc := 11) (-1) d_X0_kindWithBody_11 (by decide) ?_
    refine V_icmp_eq (pc := 12) 39 d_X0_kindWithBody_12 (by decide) (fun c12 => ?_) (fun c12 => ?_)
    · exact absurd c12 (by decide)
    · refine V_getsB (pc := 15) d_X0_kindWithBody_15 f_X0_28 ?_
      refine V_iload_n (pc := 18) d_X0_kindWithBody_18 rfl ?_
      refine V_iconst (pc := 19) (nI 4) d_X0_kindWithBody_19 (by decide) ?_
      refine V_imul (pc := 20) d_X0_kindWithBody_20 ?_
      refine V_iload_n (pc := 21) d_X0_kindWithBody_21 rfl ?_
      refine V_iadd (pc := 22) d_X0_kindWithBody_22 ?_
      refine V_bald (pc := 23) (22) d_X0_kindWithBody_23 (by decide) (by decide) ?_
      rw [show boT.getD 22 0 = 0 from rfl]
      refine V_if_ne (pc := 24) 39 d_X0_kindWithBody_24 (by decide) (fun c24 => ?_) (fun c24 => ?_)
      · exact absurd rfl c24
      · refine V_getsKN (pc := 27) d_X0_kindWithBody_27 f_X0_31 ?_
        refine V_iload_n (pc := 30) d_X0_kindWithBody_30 rfl ?_
        refine V_kald (pc := 31) (5) d_X0_kindWithBody_31 (by decide) (by decide) ?_
        rw [show kaT.getD 5 0 = 0 from rfl]
        refine V_istore_n (pc := 32) d_X0_kindWithBody_32 (by decide) ?_
        refine V_iinc (pc := 33) d_X0_kindWithBody_33 rfl (by decide) ?_
        refine V_goto (pc := 36) 4 d_X0_kindWithBody_36 (by decide) ?_
        refine V_iload_n (pc := 4) d_X0_kindWithBody_4 rfl ?_
        refine V_bipush (pc := 5) (nI 6) d_X0_kindWithBody_5 (by decide) ?_
        refine B_icmp_ge (pc := 7) 39 d_X0_kindWithBody_7 (by decide) (fun c7 => ?_) (fun c7 => ?_)
        · exact absurd c7 (by decide)
        · simp (disch := omega) only [show (nI 6).toInt = 6 from by decide, nI_toInt, ti0, ti1, tim1, tim20, tim1000] at c7
          refine V_iload_n (pc := 10) d_X0_kindWithBody_10 rfl ?_
          refine V_iconst (pc := 11) (-1) d_X0_kindWithBody_11 (by decide) ?_
          refine V_icmp_eq (pc := 12) 39 d_X0_kindWithBody_12 (by decide) (fun c12 => ?_) (fun c12 => ?_)
          · exact absurd c12 (by decide)
          · refine V_getsB (pc := 15) d_X0_kindWithBody_15 f_X0_28 ?_
            refine V_iload_n (pc := 18) d_X0_kindWithBody_18 rfl ?_
            refine V_iconst (pc := 19) (nI 4) d_X0_kindWithBody_19 (by decide) ?_
            refine V_imul (pc := 20) d_X0_kindWithBody_20 ?_
            refine V_iload_n (pc := 21) d_X0_kindWithBody_21 rfl ?_
            refine V_iadd (pc := 22) d_X0_kindWithBody_22 ?_
            refine V_bald (pc := 23) (2) d_X0_kindWithBody_23 (by decide) (by decide) ?_
            rw [show boT.getD 2 0 = (nI 12) from rfl]
            refine V_if_ne (pc := 24) 39 d_X0_kindWithBody_24 (by decide) (fun c24 => ?_) (fun c24 => ?_)
            · refine V_iload_n (pc := 39) d_X0_kindWithBody_39 rfl ?_
              exact V_retI (pc := 40) d_X0_kindWithBody_40 rfl ⟨Nat.le_refl _, Nat.le_refl _⟩ hq
            · exact absurd c24 (by decide)
theorem ct_kwb_5_3 (hq : K (nI 5) (σ, sh b)) : CM G mX0_kindWithBody (rl 1) [.int (nI 5), .int (nI 3)] (σ, sh b) (QI K) := by
  refine CM.of (by decide) (Nat.le_of_ble_eq_true rfl) (cats1 rfl) ?_
  refine V_iload_n (pc := 0) d_X0_kindWithBody_0 rfl ?_
  refine V_istore_n (pc := 1) d_X0_kindWithBody_1 (by decide) ?_
  refine V_iconst (pc := 2) (0) d_X0_kindWithBody_2 (by decide) ?_
  refine V_istore_n (pc := 3) d_X0_kindWithBody_3 (by decide) ?_
  refine V_iload_n (pc := 4) d_X0_kindWithBody_4 rfl ?_
  refine V_bipush (pc := 5) (nI 6) d_X0_kindWithBody_5 (by decide) ?_
  refine B_icmp_ge (pc := 7) 39 d_X0_kindWithBody_7 (by decide) (fun c7 => ?_) (fun c7 => ?_)
  · exact absurd c7 (by decide)
  · simp (disch := omega) only [show (nI 6).toInt = 6 from by decide, nI_toInt, ti0, ti1, tim1, tim20, tim1000] at c7
    refine V_iload_n (pc := 10) d_X0_kindWithBody_10 rfl ?_
    refine V_iconst (pc := 11) (-1) d_X0_kindWithBody_11 (by decide) ?_
    refine V_icmp_eq (pc := 12) 39 d_X0_kindWithBody_12 (by decide) (fun c12 => ?_) (fun c12 => ?_)
    · exact absurd c12 (by decide)
    · refine V_getsB (pc := 15) d_X0_kindWithBody_15 f_X0_28 ?_
      refine V_iload_n (pc := 18) d_X0_kindWithBody_18 rfl ?_
      refine V_iconst (pc := 19) (nI 4) d_X0_kindWithBody_19 (by decide) ?_
      refine V_imul (pc := 20) d_X0_kindWithBody_20 ?_
      refine V_iload_n (pc := 21) d_X0_kindWithBody_21 rfl ?_
      refine V_iadd (pc := 22) d_X0_kindWithBody_22 ?_
      refine V_bald (pc := 23) (23) d_X0_kindWithBody_23 (by decide) (by decide) ?_
      rw [show boT.getD 23 0 = (nI 60) from rfl]
      refine V_if_ne (pc := 24) 39 d_X0_kindWithBody_24 (by decide) (fun c24 => ?_) (fun c24 => ?_)
      · refine V_iload_n (pc := 39) d_X0_kindWithBody_39 rfl ?_
        exact V_retI (pc := 40) d_X0_kindWithBody_40 rfl ⟨Nat.le_refl _, Nat.le_refl _⟩ hq
      · exact absurd c24 (by decide)
theorem ct_run_0_0_0 {k n d : Nat} {x L D : Int32} (hk : k < 10) (hd : d + 0 ≤ 24) (hn : n + 1 ≤ 50) (h0 : σ 124 0 = nI n) (hN : σ (13 + 2 * k) 0 = nI k) (hK : σ (13 + 2 * k) 1 = 0) (hL : σ (13 + 2 * k) 2 = L) (hD : σ (13 + 2 * k) 3 = D) (hq : K (x + D) (ntC σ n [nI 10], sh b)) : CM G mX0_run (rl 2) [.ref 124, .ref (13 + 2 * k), .int 0, .int 0, .int x, .int (nI d)] (σ, sh b) (QI K) := by
  refine CM.of (by decide) (Nat.le_of_ble_eq_true rfl) (cats1 rfl) ?_
  refine V_iload_n (pc := 0) d_X0_run_0 rfl ?_
  refine V_iload_n (pc := 1) d_X0_run_1 rfl ?_
  refine V_csI (pc := 2) (n := 1) [_, _] d_X0_run_2 c_X0_34 k_X0_kindWithBody rfl (Nat.le_of_ble_eq_true rfl) ⟨Nat.le_of_ble_eq_true rfl, Nat.le_of_ble_eq_true rfl⟩ ⟨Nat.le_refl _, Nat.le_refl _⟩ (ct_kwb_0_0 ?_)
  refine V_istore (pc := 5) d_X0_run_5 (by decide) ?_
  refine V_iload (pc := 7) d_X0_run_7 rfl ?_
  refine V_iconst (pc := 9) (-1) d_X0_run_9 (by decide) ?_
  refine V_icmp_eq (pc := 10) 20 d_X0_run_10 (by decide) (fun c10 => ?_) (fun c10 => ?_)
  · exact absurd c10 (by decide)
  · refine V_iload (pc := 13) d_X0_run_13 rfl ?_
    refine V_bipush (pc := 15) (nI 24) d_X0_run_15 (by decide) ?_
    refine B_icmp_le (pc := 17) 22 d_X0_run_17 (by decide) (fun c17 => ?_) (fun c17 => ?_)
    · simp (disch := omega) only [show (nI 24).toInt = 24 from by decide, nI_toInt, ti0, ti1, tim1, tim20, tim1000] at c17
      refine V_getsB (pc := 22) d_X0_run_22 f_X0_28 ?_
      refine V_iload (pc := 25) d_X0_run_25 rfl ?_
      refine V_iconst (pc := 27) (nI 4) d_X0_run_27 (by decide) ?_
      refine V_imul (pc := 28) d_X0_run_28 ?_
      refine V_iload_n (pc := 29) d_X0_run_29 rfl ?_
      refine V_iadd (pc := 30) d_X0_run_30 ?_
      refine V_bald (pc := 31) (0) d_X0_run_31 (by decide) (by decide) ?_
      rw [show boT.getD 0 0 = nI 10 from rfl]
      refine V_istore (pc := 32) d_X0_run_32 (by decide) ?_
      refine V_getsKN (pc := 34) d_X0_run_34 f_X0_31 ?_
      refine V_iload (pc := 37) d_X0_run_37 rfl ?_
      refine V_kald (pc := 39) (0) d_X0_run_39 (by decide) (by decide) ?_
      rw [show kaT.getD 0 0 = (-1) from rfl]
      refine V_istore (pc := 40) d_X0_run_40 (by decide) ?_
      refine V_iload (pc := 42) d_X0_run_42 rfl ?_
      refine V_iconst (pc := 44) (1) d_X0_run_44 (by decide) ?_
      refine V_iadd (pc := 45) d_X0_run_45 ?_
      rw [nI_1]
      refine V_istore (pc := 46) d_X0_run_46 (by decide) ?_
      refine V_aload_n (pc := 48) d_X0_run_48 rfl ?_
      refine V_iload (pc := 49) d_X0_run_49 rfl ?_
      refine V_cvV (pc := 51) (n := 1) (c := 0) [_] d_X0_run_51 c_X0_38 k_X0_note ⟨rfl, rfl⟩ (tt_124 b) rfl (Nat.le_of_ble_eq_true rfl) ⟨Nat.le_of_ble_eq_true rfl, Nat.le_of_ble_eq_true rfl⟩ ⟨Nat.le_refl _, Nat.le_refl _⟩ (ct_X0_note (by omega) h0 ?_)
      refine V_iload (pc := 54) d_X0_run_54 rfl ?_
      refine V_lookup (pc := 56) (off := 108) 164 d_X0_run_56 (by decide) (by decide) (by decide) ?_
      refine V_iload (pc := 164) d_X0_run_164 rfl ?_
      refine V_aload_n (pc := 166) d_X0_run_166 rfl ?_
      refine P_getI (pc := 167) d_X0_run_167 f_X0_42 (tS b (by omega)) ?_
      simp (disch := omega) only [up2_n, up2_e, ntC_o]
      rw [hD]
      refine V_iadd (pc := 170) d_X0_run_170 ?_
      exact V_retI (pc := 171) d_X0_run_171 rfl ⟨Nat.le_refl _, Nat.le_refl _⟩ (by simp only [ntC] at hq ⊢; exact hq)
    · simp (disch := omega) only [show (nI 24).toInt = 24 from by decide, nI_toInt, ti0, ti1, tim1, tim20, tim1000] at c17
      exfalso
      omega
theorem ct_run_0_0_1 {k n d : Nat} {x L D : Int32} (hk : k < 10) (hd : d + 1 ≤ 24) (hn : n + 2 ≤ 50) (h0 : σ 124 0 = nI n) (hN : σ (13 + 2 * k) 0 = nI k) (hK : σ (13 + 2 * k) 1 = 0) (hL : σ (13 + 2 * k) 2 = L) (hD : σ (13 + 2 * k) 3 = D) (hq : K ((x + D) * nI 2) (ntC σ n [nI 11, nI 10], sh b)) : CM G mX0_run (rl 3) [.ref 124, .ref (13 + 2 * k), .int 0, .int 1, .int x, .int (nI d)] (σ, sh b) (QI K) := by
  refine CM.of (by decide) (Nat.le_of_ble_eq_true rfl) (cats1 rfl) ?_
  refine V_iload_n (pc := 0) d_X0_run_0 rfl ?_
  refine V_iload_n (pc := 1) d_X0_run_1 rfl ?_
  refine V_csI (pc := 2) (n := 1) [_, _] d_X0_run_2 c_X0_34 k_X0_kindWithBody rfl (Nat.le_of_ble_eq_true rfl) ⟨Nat.le_of_ble_eq_true rfl, Nat.le_of_ble_eq_true rfl⟩ ⟨Nat.le_refl _, Nat.le_refl _⟩ (ct_kwb_0_1 ?_)
  refine V_istore (pc := 5) d_X0_run_5 (by decide) ?_
  refine V_iload (pc := 7) d_X0_run_7 rfl ?_
  refine V_iconst (pc := 9) (-1) d_X0_run_9 (by decide) ?_
  refine V_icmp_eq (pc := 10) 20 d_X0_run_10 (by decide) (fun c10 => ?_) (fun c10 => ?_)
  · exact absurd c10 (by decide)
  · refine V_iload (pc := 13) d_X0_run_13 rfl ?_
    refine V_bipush (pc := 15) (nI 24) d_X0_run_15 (by decide) ?_
    refine B_icmp_le (pc := 17) 22 d_X0_run_17 (by decide) (fun c17 => ?_) (fun c17 => ?_)
    · simp (disch := omega) only [show (nI 24).toInt = 24 from by decide, nI_toInt, ti0, ti1, tim1, tim20, tim1000] at c17
      refine V_getsB (pc := 22) d_X0_run_22 f_X0_28 ?_
      refine V_iload (pc := 25) d_X0_run_25 rfl ?_
      refine V_iconst (pc := 27) (nI 4) d_X0_run_27 (by decide) ?_
      refine V_imul (pc := 28) d_X0_run_28 ?_
      refine V_iload_n (pc := 29) d_X0_run_29 rfl ?_
      refine V_iadd (pc := 30) d_X0_run_30 ?_
      refine V_bald (pc := 31) (1) d_X0_run_31 (by decide) (by decide) ?_
      rw [show boT.getD 1 0 = nI 11 from rfl]
      refine V_istore (pc := 32) d_X0_run_32 (by decide) ?_
      refine V_getsKN (pc := 34) d_X0_run_34 f_X0_31 ?_
      refine V_iload (pc := 37) d_X0_run_37 rfl ?_
      refine V_kald (pc := 39) (0) d_X0_run_39 (by decide) (by decide) ?_
      rw [show kaT.getD 0 0 = (-1) from rfl]
      refine V_istore (pc := 40) d_X0_run_40 (by decide) ?_
      refine V_iload (pc := 42) d_X0_run_42 rfl ?_
      refine V_iconst (pc := 44) (1) d_X0_run_44 (by decide) ?_
      refine V_iadd (pc := 45) d_X0_run_45 ?_
      rw [nI_1]
      refine V_istore (pc := 46) d_X0_run_46 (by decide) ?_
      refine V_aload_n (pc := 48) d_X0_run_48 rfl ?_
      refine V_iload (pc := 49) d_X0_run_49 rfl ?_
      refine V_cvV (pc := 51) (n := 1) (c := 0) [_] d_X0_run_51 c_X0_38 k_X0_note ⟨rfl, rfl⟩ (tt_124 b) rfl (Nat.le_of_ble_eq_true rfl) ⟨Nat.le_of_ble_eq_true rfl, Nat.le_of_ble_eq_true rfl⟩ ⟨Nat.le_refl _, Nat.le_refl _⟩ (ct_X0_note (by omega) h0 ?_)
      refine V_iload (pc := 54) d_X0_run_54 rfl ?_
      refine V_lookup (pc := 56) (off := 116) 172 d_X0_run_56 (by decide) (by decide) (by decide) ?_
      refine V_aload_n (pc := 172) d_X0_run_172 rfl ?_
      refine V_aload_n (pc := 173) d_X0_run_173 rfl ?_
      refine V_aload_n (pc := 174) d_X0_run_174 rfl ?_
      refine P_getI (pc := 175) d_X0_run_175 f_X0_19 (tS b (by omega)) ?_
      simp (disch := omega) only [up2_n, up2_e, ntC_o]
      rw [hK]
      refine V_iconst (pc := 178) (0) d_X0_run_178 (by decide) ?_
      refine V_iload (pc := 179) d_X0_run_179 rfl ?_
      refine V_iload (pc := 181) d_X0_run_181 rfl ?_
      refine V_csI (pc := 183) (n := 2) [_, _, _, _, _, _] d_X0_run_183 c_X0_24 k_X0_run rfl (Nat.le_of_ble_eq_true rfl) ⟨Nat.le_of_ble_eq_true rfl, Nat.le_of_ble_eq_true rfl⟩ ⟨Nat.le_refl _, Nat.le_refl _⟩ (ct_run_0_0_0 (n := n + 1) (d := d + 1) hk (by omega) (by omega) (ntC_c h0) ((ntC_o (by omega)).trans hN) ((ntC_o (by omega)).trans hK) ((ntC_o (by omega)).trans hL) ((ntC_o (by omega)).trans hD) ?_)
      refine V_iconst (pc := 186) (nI 2) d_X0_run_186 (by decide) ?_
      refine V_imul (pc := 187) d_X0_run_187 ?_
      exact V_retI (pc := 188) d_X0_run_188 rfl ⟨Nat.le_refl _, Nat.le_refl _⟩ (by simp only [ntC] at hq ⊢; exact hq)
    · simp (disch := omega) only [show (nI 24).toInt = 24 from by decide, nI_toInt, ti0, ti1, tim1, tim20, tim1000] at c17
      exfalso
      omega
theorem ct_run_0_0_2 {k n d : Nat} {x L D : Int32} (hk : k < 10) (hd : d + 0 ≤ 24) (hn : n + 1 ≤ 50) (h0 : σ 124 0 = nI n) (hN : σ (13 + 2 * k) 0 = nI k) (hK : σ (13 + 2 * k) 1 = 0) (hL : σ (13 + 2 * k) 2 = L) (hD : σ (13 + 2 * k) 3 = D) (hq : K (x - nI k) (ntC σ n [nI 12], sh b)) : CM G mX0_run (rl 2) [.ref 124, .ref (13 + 2 * k), .int 0, .int (nI 2), .int x, .int (nI d)] (σ, sh b) (QI K) := by
  refine CM.of (by decide) (Nat.le_of_ble_eq_true rfl) (cats1 rfl) ?_
  refine V_iload_n (pc := 0) d_X0_run_0 rfl ?_
  refine V_iload_n (pc := 1) d_X0_run_1 rfl ?_
  refine V_csI (pc := 2) (n := 1) [_, _] d_X0_run_2 c_X0_34 k_X0_kindWithBody rfl (Nat.le_of_ble_eq_true rfl) ⟨Nat.le_of_ble_eq_true rfl, Nat.le_of_ble_eq_true rfl⟩ ⟨Nat.le_refl _, Nat.le_refl _⟩ (ct_kwb_0_2 ?_)
  refine V_istore (pc := 5) d_X0_run_5 (by decide) ?_
  refine V_iload (pc := 7) d_X0_run_7 rfl ?_
  refine V_iconst (pc := 9) (-1) d_X0_run_9 (by decide) ?_
  refine V_icmp_eq (pc := 10) 20 d_X0_run_10 (by decide) (fun c10 => ?_) (fun c10 => ?_)
  · exact absurd c10 (by decide)
  · refine V_iload (pc := 13) d_X0_run_13 rfl ?_
    refine V_bipush (pc := 15) (nI 24) d_X0_run_15 (by decide) ?_
    refine B_icmp_le (pc := 17) 22 d_X0_run_17 (by decide) (fun c17 => ?_) (fun c17 => ?_)
    · simp (disch := omega) only [show (nI 24).toInt = 24 from by decide, nI_toInt, ti0, ti1, tim1, tim20, tim1000] at c17
      refine V_getsB (pc := 22) d_X0_run_22 f_X0_28 ?_
      refine V_iload (pc := 25) d_X0_run_25 rfl ?_
      refine V_iconst (pc := 27) (nI 4) d_X0_run_27 (by decide) ?_
      refine V_imul (pc := 28) d_X0_run_28 ?_
      refine V_iload_n (pc := 29) d_X0_run_29 rfl ?_
      refine V_iadd (pc := 30) d_X0_run_30 ?_
      refine V_bald (pc := 31) (2) d_X0_run_31 (by decide) (by decide) ?_
      rw [show boT.getD 2 0 = nI 12 from rfl]
      refine V_istore (pc := 32) d_X0_run_32 (by decide) ?_
      refine V_getsKN (pc := 34) d_X0_run_34 f_X0_31 ?_
      refine V_iload (pc := 37) d_X0_run_37 rfl ?_
      refine V_kald (pc := 39) (0) d_X0_run_39 (by decide) (by decide) ?_
      rw [show kaT.getD 0 0 = (-1) from rfl]
      refine V_istore (pc := 40) d_X0_run_40 (by decide) ?_
      refine V_iload (pc := 42) d_X0_run_42 rfl ?_
      refine V_iconst (pc := 44) (1) d_X0_run_44 (by decide) ?_
      refine V_iadd (pc := 45) d_X0_run_45 ?_
      rw [nI_1]
      refine V_istore (pc := 46) d_X0_run_46 (by decide) ?_
      refine V_aload_n (pc := 48) d_X0_run_48 rfl ?_
      refine V_iload (pc := 49) d_X0_run_49 rfl ?_
      refine V_cvV (pc := 51) (n := 1) (c := 0) [_] d_X0_run_51 c_X0_38 k_X0_note ⟨rfl, rfl⟩ (tt_124 b) rfl (Nat.le_of_ble_eq_true rfl) ⟨Nat.le_of_ble_eq_true rfl, Nat.le_of_ble_eq_true rfl⟩ ⟨Nat.le_refl _, Nat.le_refl _⟩ (ct_X0_note (by omega) h0 ?_)
      refine V_iload (pc := 54) d_X0_run_54 rfl ?_
      refine V_lookup (pc := 56) (off := 133) 189 d_X0_run_56 (by decide) (by decide) (by decide) ?_
      refine V_iload (pc := 189) d_X0_run_189 rfl ?_
      refine V_aload_n (pc := 191) d_X0_run_191 rfl ?_
      refine P_getI (pc := 192) d_X0_run_192 f_X0_45 (tS b (by omega)) ?_
      simp (disch := omega) only [up2_n, up2_e, ntC_o]
      rw [hN]
      refine V_isub (pc := 195) d_X0_run_195 ?_
      exact V_retI (pc := 196) d_X0_run_196 rfl ⟨Nat.le_refl _, Nat.le_refl _⟩ (by simp only [ntC] at hq ⊢; exact hq)
    · simp (disch := omega) only [show (nI 24).toInt = 24 from by decide, nI_toInt, ti0, ti1, tim1, tim20, tim1000] at c17
      exfalso
      omega
theorem ct_run_0_0_3 {k n d : Nat} {x L D : Int32} (hk : k < 10) (hd : d + 2 ≤ 24) (hn : n + 4 ≤ 50) (h0 : σ 124 0 = nI n) (hN : σ (13 + 2 * k) 0 = nI k) (hK : σ (13 + 2 * k) 1 = 0) (hL : σ (13 + 2 * k) 2 = L) (hD : σ (13 + 2 * k) 3 = D) (hq : K (((x + D) * nI 2) ^^^ (x - nI k)) (ntC σ n [nI 13, nI 11, nI 10, nI 12], sh b)) : CM G mX0_run (rl 4) [.ref 124, .ref (13 + 2 * k), .int 0, .int (nI 3), .int x, .int (nI d)] (σ, sh b) (QI K) := by
  refine CM.of (by decide) (Nat.le_of_ble_eq_true rfl) (cats1 rfl) ?_
  refine V_iload_n (pc := 0) d_X0_run_0 rfl ?_
  refine V_iload_n (pc := 1) d_X0_run_1 rfl ?_
  refine V_csI (pc := 2) (n := 1) [_, _] d_X0_run_2 c_X0_34 k_X0_kindWithBody rfl (Nat.le_of_ble_eq_true rfl) ⟨Nat.le_of_ble_eq_true rfl, Nat.le_of_ble_eq_true rfl⟩ ⟨Nat.le_refl _, Nat.le_refl _⟩ (ct_kwb_0_3 ?_)
  refine V_istore (pc := 5) d_X0_run_5 (by decide) ?_
  refine V_iload (pc := 7) d_X0_run_7 rfl ?_
  refine V_iconst (pc := 9) (-1) d_X0_run_9 (by decide) ?_
  refine V_icmp_eq (pc := 10) 20 d_X0_run_10 (by decide) (fun c10 => ?_) (fun c10 => ?_)
  · exact absurd c10 (by decide)
  · refine V_iload (pc := 13) d_X0_run_13 rfl ?_
    refine V_bipush (pc := 15) (nI 24) d_X0_run_15 (by decide) ?_
    refine B_icmp_le (pc := 17) 22 d_X0_run_17 (by decide) (fun c17 => ?_) (fun c17 => ?_)
    · simp (disch := omega) only [show (nI 24).toInt = 24 from by decide, nI_toInt, ti0, ti1, tim1, tim20, tim1000] at c17
      refine V_getsB (pc := 22) d_X0_run_22 f_X0_28 ?_
      refine V_iload (pc := 25) d_X0_run_25 rfl ?_
      refine V_iconst (pc := 27) (nI 4) d_X0_run_27 (by decide) ?_
      refine V_imul (pc := 28) d_X0_run_28 ?_
      refine V_iload_n (pc := 29) d_X0_run_29 rfl ?_
      refine V_iadd (pc := 30) d_X0_run_30 ?_
      refine V_bald (pc := 31) (3) d_X0_run_31 (by decide) (by decide) ?_
      rw [show boT.getD 3 0 = nI 13 from rfl]
      refine V_istore (pc := 32) d_X0_run_32 (by decide) ?_
      refine V_getsKN (pc := 34) d_X0_run_34 f_X0_31 ?_
      refine V_iload (pc := 37) d_X0_run_37 rfl ?_
      refine V_kald (pc := 39) (0) d_X0_run_39 (by decide) (by decide) ?_
      rw [show kaT.getD 0 0 = (-1) from rfl]
      refine V_istore (pc := 40) d_X0_run_40 (by decide) ?_
      refine V_iload (pc := 42) d_X0_run_42 rfl ?_
      refine V_iconst (pc := 44) (1) d_X0_run_44 (by decide) ?_
      refine V_iadd (pc := 45) d_X0_run_45 ?_
      rw [nI_1]
      refine V_istore (pc := 46) d_X0_run_46 (by decide) ?_
      refine V_aload_n (pc := 48) d_X0_run_48 rfl ?_
      refine V_iload (pc := 49) d_X0_run_49 rfl ?_
      refine V_cvV (pc := 51) (n := 1) (c := 0) [_] d_X0_run_51 c_X0_38 k_X0_note ⟨rfl, rfl⟩ (tt_124 b) rfl (Nat.le_of_ble_eq_true rfl) ⟨Nat.le_of_ble_eq_true rfl, Nat.le_of_ble_eq_true rfl⟩ ⟨Nat.le_refl _, Nat.le_refl _⟩ (ct_X0_note (by omega) h0 ?_)
      refine V_iload (pc := 54) d_X0_run_54 rfl ?_
      refine V_lookup (pc := 56) (off := 141) 197 d_X0_run_56 (by decide) (by decide) (by decide) ?_
      refine V_aload_n (pc := 197) d_X0_run_197 rfl ?_
      refine V_aload_n (pc := 198) d_X0_run_198 rfl ?_
      refine V_aload_n (pc := 199) d_X0_run_199 rfl ?_
      refine P_getI (pc := 200) d_X0_run_200 f_X0_19 (tS b (by omega)) ?_
      simp (disch := omega) only [up2_n, up2_e, ntC_o]
      rw [hK]
      refine V_iconst (pc := 203) (1) d_X0_run_203 (by decide) ?_
      refine V_iload (pc := 204) d_X0_run_204 rfl ?_
      refine V_iload (pc := 206) d_X0_run_206 rfl ?_
      refine V_csI (pc := 208) (n := 3) [_, _, _, _, _, _] d_X0_run_208 c_X0_24 k_X0_run rfl (Nat.le_of_ble_eq_true rfl) ⟨Nat.le_of_ble_eq_true rfl, Nat.le_of_ble_eq_true rfl⟩ ⟨Nat.le_refl _, Nat.le_refl _⟩ (ct_run_0_0_1 (n := n + 1) (d := d + 1) hk (by omega) (by omega) (ntC_c h0) ((ntC_o (by omega)).trans hN) ((ntC_o (by omega)).trans hK) ((ntC_o (by omega)).trans hL) ((ntC_o (by omega)).trans hD) ?_)
      refine V_aload_n (pc := 211) d_X0_run_211 rfl ?_
      refine V_aload_n (pc := 212) d_X0_run_212 rfl ?_
      refine V_aload_n (pc := 213) d_X0_run_213 rfl ?_
      refine P_getI (pc := 214) d_X0_run_214 f_X0_19 (tS b (by omega)) ?_
      simp (disch := omega) only [up2_n, up2_e, ntC_o]
      rw [hK]
      refine V_iconst (pc := 217) (nI 2) d_X0_run_217 (by decide) ?_
      refine V_iload (pc := 218) d_X0_run_218 rfl ?_
      refine V_iload (pc := 220) d_X0_run_220 rfl ?_
      refine V_csI (pc := 222) (n := 2) [_, _, _, _, _, _] d_X0_run_222 c_X0_24 k_X0_run rfl (Nat.le_of_ble_eq_true rfl) ⟨Nat.le_of_ble_eq_true rfl, Nat.le_of_ble_eq_true rfl⟩ ⟨Nat.le_refl _, Nat.le_refl _⟩ (ct_run_0_0_2 (n := n + 1 + 2) (d := d + 1) hk (by omega) (by omega) (ntC_c (ntC_c h0)) ((ntC_o (by omega)).trans ((ntC_o (by omega)).trans hN)) ((ntC_o (by omega)).trans ((ntC_o (by omega)).trans hK)) ((ntC_o (by omega)).trans ((ntC_o (by omega)).trans hL)) ((ntC_o (by omega)).trans ((ntC_o (by omega)).trans hD)) ?_)
      refine V_ixor (pc := 225) d_X0_run_225 ?_
      exact V_retI (pc := 226) d_X0_run_226 rfl ⟨Nat.le_refl _, Nat.le_refl _⟩ (by simp only [ntC] at hq ⊢; exact hq)
    · simp (disch := omega) only [show (nI 24).toInt = 24 from by decide, nI_toInt, ti0, ti1, tim1, tim20, tim1000] at c17
      exfalso
      omega
theorem ct_run_1_0_0 {k n d : Nat} {x L D : Int32} (hk : k < 10) (hd : d + 0 ≤ 24) (hn : n + 1 ≤ 50) (h0 : σ 124 0 = nI n) (hN : σ (13 + 2 * k) 0 = nI k) (hK : σ (13 + 2 * k) 1 = 1) (hL : σ (13 + 2 * k) 2 = L) (hD : σ (13 + 2 * k) 3 = D) (hq : K (x + D) (ntC σ n [nI 10], sh b)) : CM G mX0_run (rl 2) [.ref 124, .ref (13 + 2 * k), .int 0, .int 0, .int x, .int (nI d)] (σ, sh b) (QI K) := by
  refine CM.of (by decide) (Nat.le_of_ble_eq_true rfl) (cats1 rfl) ?_
  refine V_iload_n (pc := 0) d_X0_run_0 rfl ?_
  refine V_iload_n (pc := 1) d_X0_run_1 rfl ?_
  refine V_csI (pc := 2) (n := 1) [_, _] d_X0_run_2 c_X0_34 k_X0_kindWithBody rfl (Nat.le_of_ble_eq_true rfl) ⟨Nat.le_of_ble_eq_true rfl, Nat.le_of_ble_eq_true rfl⟩ ⟨Nat.le_refl _, Nat.le_refl _⟩ (ct_kwb_0_0 ?_)
  refine V_istore (pc := 5) d_X0_run_5 (by decide) ?_
  refine V_iload (pc := 7) d_X0_run_7 rfl ?_
  refine V_iconst (pc := 9) (-1) d_X0_run_9 (by decide) ?_
  refine V_icmp_eq (pc := 10) 20 d_X0_run_10 (by decide) (fun c10 => ?_) (fun c10 => ?_)
  · exact absurd c10 (by decide)
  · refine V_iload (pc := 13) d_X0_run_13 rfl ?_
    refine V_bipush (pc := 15) (nI 24) d_X0_run_15 (by decide) ?_
    refine B_icmp_le (pc := 17) 22 d_X0_run_17 (by decide) (fun c17 => ?_) (fun c17 => ?_)
    · simp (disch := omega) only [show (nI 24).toInt = 24 from by decide, nI_toInt, ti0, ti1, tim1, tim20, tim1000] at c17
      refine V_getsB (pc := 22) d_X0_run_22 f_X0_28 ?_
      refine V_iload (pc := 25) d_X0_run_25 rfl ?_
      refine V_iconst (pc := 27) (nI 4) d_X0_run_27 (by decide) ?_
      refine V_imul (pc := 28) d_X0_run_28 ?_
      refine V_iload_n (pc := 29) d_X0_run_29 rfl ?_
      refine V_iadd (pc := 30) d_X0_run_30 ?_
      refine V_bald (pc := 31) (0) d_X0_run_31 (by decide) (by decide) ?_
      rw [show boT.getD 0 0 = nI 10 from rfl]
      refine V_istore (pc := 32) d_X0_run_32 (by decide) ?_
      refine V_getsKN (pc := 34) d_X0_run_34 f_X0_31 ?_
      refine V_iload (pc := 37) d_X0_run_37 rfl ?_
      refine V_kald (pc := 39) (0) d_X0_run_39 (by decide) (by decide) ?_
      rw [show kaT.getD 0 0 = (-1) from rfl]
      refine V_istore (pc := 40) d_X0_run_40 (by decide) ?_
      refine V_iload (pc := 42) d_X0_run_42 rfl ?_
      refine V_iconst (pc := 44) (1) d_X0_run_44 (by decide) ?_
      refine V_iadd (pc := 45) d_X0_run_45 ?_
      rw [nI_1]
      refine V_istore (pc := 46) d_X0_run_46 (by decide) ?_
      refine V_aload_n (pc := 48) d_X0_run_48 rfl ?_
      refine V_iload (pc := 49) d_X0_run_49 rfl ?_
      refine V_cvV (pc := 51) (n := 1) (c := 0) [_] d_X0_run_51 c_X0_38 k_X0_note ⟨rfl, rfl⟩ (tt_124 b) rfl (Nat.le_of_ble_eq_true rfl) ⟨Nat.le_of_ble_eq_true rfl, Nat.le_of_ble_eq_true rfl⟩ ⟨Nat.le_refl _, Nat.le_refl _⟩ (ct_X0_note (by omega) h0 ?_)
      refine V_iload (pc := 54) d_X0_run_54 rfl ?_
      refine V_lookup (pc := 56) (off := 108) 164 d_X0_run_56 (by decide) (by decide) (by decide) ?_
      refine V_iload (pc := 164) d_X0_run_164 rfl ?_
      refine V_aload_n (pc := 166) d_X0_run_166 rfl ?_
      refine P_getI (pc := 167) d_X0_run_167 f_X0_42 (tS b (by omega)) ?_
      simp (disch := omega) only [up2_n, up2_e, ntC_o]
      rw [hD]
      refine V_iadd (pc := 170) d_X0_run_170 ?_
      exact V_retI (pc := 171) d_X0_run_171 rfl ⟨Nat.le_refl _, Nat.le_refl _⟩ (by simp only [ntC] at hq ⊢; exact hq)
    · simp (disch := omega) only [show (nI 24).toInt = 24 from by decide, nI_toInt, ti0, ti1, tim1, tim20, tim1000] at c17
      exfalso
      omega
theorem ct_run_1_1_0 {k n d : Nat} {x L D : Int32} (hk : k < 10) (hd : d + 1 ≤ 24) (hn : n + 2 ≤ 50) (h0 : σ 124 0 = nI n) (hN : σ (13 + 2 * k) 0 = nI k) (hK : σ (13 + 2 * k) 1 = 1) (hL : σ (13 + 2 * k) 2 = L) (hD : σ (13 + 2 * k) 3 = D) (hq : K ((x + D) - L) (ntC σ n [nI 20, nI 10], sh b)) : CM G mX0_run (rl 3) [.ref 124, .ref (13 + 2 * k), .int 1, .int 0, .int x, .int (nI d)] (σ, sh b) (QI K) := by
  refine CM.of (by decide) (Nat.le_of_ble_eq_true rfl) (cats1 rfl) ?_
  refine V_iload_n (pc := 0) d_X0_run_0 rfl ?_
  refine V_iload_n (pc := 1) d_X0_run_1 rfl ?_
  refine V_csI (pc := 2) (n := 1) [_, _] d_X0_run_2 c_X0_34 k_X0_kindWithBody rfl (Nat.le_of_ble_eq_true rfl) ⟨Nat.le_of_ble_eq_true rfl, Nat.le_of_ble_eq_true rfl⟩ ⟨Nat.le_refl _, Nat.le_refl _⟩ (ct_kwb_1_0 ?_)
  refine V_istore (pc := 5) d_X0_run_5 (by decide) ?_
  refine V_iload (pc := 7) d_X0_run_7 rfl ?_
  refine V_iconst (pc := 9) (-1) d_X0_run_9 (by decide) ?_
  refine V_icmp_eq (pc := 10) 20 d_X0_run_10 (by decide) (fun c10 => ?_) (fun c10 => ?_)
  · exact absurd c10 (by decide)
  · refine V_iload (pc := 13) d_X0_run_13 rfl ?_
    refine V_bipush (pc := 15) (nI 24) d_X0_run_15 (by decide) ?_
    refine B_icmp_le (pc := 17) 22 d_X0_run_17 (by decide) (fun c17 => ?_) (fun c17 => ?_)
    · simp (disch := omega) only [show (nI 24).toInt = 24 from by decide, nI_toInt, ti0, ti1, tim1, tim20, tim1000] at c17
      refine V_getsB (pc := 22) d_X0_run_22 f_X0_28 ?_
      refine V_iload (pc := 25) d_X0_run_25 rfl ?_
      refine V_iconst (pc := 27) (nI 4) d_X0_run_27 (by decide) ?_
      refine V_imul (pc := 28) d_X0_run_28 ?_
      refine V_iload_n (pc := 29) d_X0_run_29 rfl ?_
      refine V_iadd (pc := 30) d_X0_run_30 ?_
      refine V_bald (pc := 31) (4) d_X0_run_31 (by decide) (by decide) ?_
      rw [show boT.getD 4 0 = nI 20 from rfl]
      refine V_istore (pc := 32) d_X0_run_32 (by decide) ?_
      refine V_getsKN (pc := 34) d_X0_run_34 f_X0_31 ?_
      refine V_iload (pc := 37) d_X0_run_37 rfl ?_
      refine V_kald (pc := 39) (1) d_X0_run_39 (by decide) (by decide) ?_
      rw [show kaT.getD 1 0 = 0 from rfl]
      refine V_istore (pc := 40) d_X0_run_40 (by decide) ?_
      refine V_iload (pc := 42) d_X0_run_42 rfl ?_
      refine V_iconst (pc := 44) (1) d_X0_run_44 (by decide) ?_
      refine V_iadd (pc := 45) d_X0_run_45 ?_
      rw [nI_1]
      refine V_istore (pc := 46) d_X0_run_46 (by decide) ?_
      refine V_aload_n (pc := 48) d_X0_run_48 rfl ?_
      refine V_iload (pc := 49) d_X0_run_49 rfl ?_
      refine V_cvV (pc := 51) (n := 1) (c := 0) [_] d_X0_run_51 c_X0_38 k_X0_note ⟨rfl, rfl⟩ (tt_124 b) rfl (Nat.le_of_ble_eq_true rfl) ⟨Nat.le_of_ble_eq_true rfl, Nat.le_of_ble_eq_true rfl⟩ ⟨Nat.le_refl _, Nat.le_refl _⟩ (ct_X0_note (by omega) h0 ?_)
      refine V_iload (pc := 54) d_X0_run_54 rfl ?_
      refine V_lookup (pc := 56) (off := 171) 227 d_X0_run_56 (by decide) (by decide) (by decide) ?_
      refine V_aload_n (pc := 227) d_X0_run_227 rfl ?_
      refine V_aload_n (pc := 228) d_X0_run_228 rfl ?_
      refine V_iload (pc := 229) d_X0_run_229 rfl ?_
      refine V_iconst (pc := 231) (0) d_X0_run_231 (by decide) ?_
      refine V_iload (pc := 232) d_X0_run_232 rfl ?_
      refine V_iload (pc := 234) d_X0_run_234 rfl ?_
      refine V_csI (pc := 236) (n := 2) [_, _, _, _, _, _] d_X0_run_236 c_X0_24 k_X0_run rfl (Nat.le_of_ble_eq_true rfl) ⟨Nat.le_of_ble_eq_true rfl, Nat.le_of_ble_eq_true rfl⟩ ⟨Nat.le_refl _, Nat.le_refl _⟩ (ct_run_1_0_0 (n := n + 1) (d := d + 1) hk (by omega) (by omega) (ntC_c h0) ((ntC_o (by omega)).trans hN) ((ntC_o (by omega)).trans hK) ((ntC_o (by omega)).trans hL) ((ntC_o (by omega)).trans hD) ?_)
      refine V_aload_n (pc := 239) d_X0_run_239 rfl ?_
      refine P_getI (pc := 240) d_X0_run_240 f_X0_48 (tS b (by omega)) ?_
      simp (disch := omega) only [up2_n, up2_e, ntC_o]
      rw [hL]
      refine V_isub (pc := 243) d_X0_run_243 ?_
      exact V_retI (pc := 244) d_X0_run_244 rfl ⟨Nat.le_refl _, Nat.le_refl _⟩ (by simp only [ntC] at hq ⊢; exact hq)
    · simp (disch := omega) only [show (nI 24).toInt = 24 from by decide, nI_toInt, ti0, ti1, tim1, tim20, tim1000] at c17
      exfalso
      omega
theorem ct_run_1_1_1 {k n d : Nat} {x L D : Int32} (hk : k < 10) (hd : d + 2 ≤ 24) (hn : n + 3 ≤ 50) (h0 : σ 124 0 = nI n) (hN : σ (13 + 2 * k) 0 = nI k) (hK : σ (13 + 2 * k) 1 = 1) (hL : σ (13 + 2 * k) 2 = L) (hD : σ (13 + 2 * k) 3 = D) (hq : K (((x + D) - L) * nI 2) (ntC σ n [nI 11, nI 20, nI 10], sh b)) : CM G mX0_run (rl 4) [.ref 124, .ref (13 + 2 * k), .int 1, .int 1, .int x, .int (nI d)] (σ, sh b) (QI K) := by
  refine CM.of (by decide) (Nat.le_of_ble_eq_true rfl) (cats1 rfl) ?_
  refine V_iload_n (pc := 0) d_X0_run_0 rfl ?_
  refine V_iload_n (pc := 1) d_X0_run_1 rfl ?_
  refine V_csI (pc := 2) (n := 1) [_, _] d_X0_run_2 c_X0_34 k_X0_kindWithBody rfl (Nat.le_of_ble_eq_true rfl) ⟨Nat.le_of_ble_eq_true rfl, Nat.le_of_ble_eq_true rfl⟩ ⟨Nat.le_refl _, Nat.le_refl _⟩ (ct_kwb_1_1 ?_)
  refine V_istore (pc := 5) d_X0_run_5 (by decide) ?_
  refine V_iload (pc := 7) d_X0_run_7 rfl ?_
  refine V_iconst (pc := 9) (-1) d_X0_run_9 (by decide) ?_
  refine V_icmp_eq (pc := 10) 20 d_X0_run_10 (by decide) (fun c10 => ?_) (fun c10 => ?_)
  · exact absurd c10 (by decide)
  · refine V_iload (pc := 13) d_X0_run_13 rfl ?_
    refine V_bipush (pc := 15) (nI 24) d_X0_run_15 (by decide) ?_
    refine B_icmp_le (pc := 17) 22 d_X0_run_17 (by decide) (fun c17 => ?_) (fun c17 => ?_)
    · simp (disch := omega) only [show (nI 24).toInt = 24 from by decide, nI_toInt, ti0, ti1, tim1, tim20, tim1000] at c17
      refine V_getsB (pc := 22) d_X0_run_22 f_X0_28 ?_
      refine V_iload (pc := 25) d_X0_run_25 rfl ?_
      refine V_iconst (pc := 27) (nI 4) d_X0_run_27 (by decide) ?_
      refine V_imul (pc := 28) d_X0_run_28 ?_
      refine V_iload_n (pc := 29) d_X0_run_29 rfl ?_
      refine V_iadd (pc := 30) d_X0_run_30 ?_
      refine V_bald (pc := 31) (1) d_X0_run_31 (by decide) (by decide) ?_
      rw [show boT.getD 1 0 = nI 11 from rfl]
      refine V_istore (pc := 32) d_X0_run_32 (by decide) ?_
      refine V_getsKN (pc := 34) d_X0_run_34 f_X0_31 ?_
      refine V_iload (pc := 37) d_X0_run_37 rfl ?_
      refine V_kald (pc := 39) (0) d_X0_run_39 (by decide) (by decide) ?_
      rw [show kaT.getD 0 0 = (-1) from rfl]
      refine V_istore (pc := 40) d_X0_run_40 (by decide) ?_
      refine V_iload (pc := 42) d_X0_run_42 rfl ?_
      refine V_iconst (pc := 44) (1) d_X0_run_44 (by decide) ?_
      refine V_iadd (pc := 45) d_X0_run_45 ?_
      rw [nI_1]
      refine V_istore (pc := 46) d_X0_run_46 (by decide) ?_
      refine V_aload_n (pc := 48) d_X0_run_48 rfl ?_
      refine V_iload (pc := 49) d_X0_run_49 rfl ?_
      refine V_cvV (pc := 51) (n := 1) (c := 0) [_] d_X0_run_51 c_X0_38 k_X0_note ⟨rfl, rfl⟩ (tt_124 b) rfl (Nat.le_of_ble_eq_true rfl) ⟨Nat.le_of_ble_eq_true rfl, Nat.le_of_ble_eq_true rfl⟩ ⟨Nat.le_refl _, Nat.le_refl _⟩ (ct_X0_note (by omega) h0 ?_)
      refine V_iload (pc := 54) d_X0_run_54 rfl ?_
      refine V_lookup (pc := 56) (off := 116) 172 d_X0_run_56 (by decide) (by decide) (by decide) ?_
      refine V_aload_n (pc := 172) d_X0_run_172 rfl ?_
      refine V_aload_n (pc := 173) d_X0_run_173 rfl ?_
      refine V_aload_n (pc := 174) d_X0_run_174 rfl ?_
      refine P_getI (pc := 175) d_X0_run_175 f_X0_19 (tS b (by omega)) ?_
      simp (disch := omega) only [up2_n, up2_e, ntC_o]
      rw [hK]
      refine V_iconst (pc := 178) (0) d_X0_run_178 (by decide) ?_
      refine V_iload (pc := 179) d_X0_run_179 rfl ?_
      refine V_iload (pc := 181) d_X0_run_181 rfl ?_
      refine V_csI (pc := 183) (n := 3) [_, _, _, _, _, _] d_X0_run_183 c_X0_24 k_X0_run rfl (Nat.le_of_ble_eq_true rfl) ⟨Nat.le_of_ble_eq_true rfl, Nat.le_of_ble_eq_true rfl⟩ ⟨Nat.le_refl _, Nat.le_refl _⟩ (ct_run_1_1_0 (n := n + 1) (d := d + 1) hk (by omega) (by omega) (ntC_c h0) ((ntC_o (by omega)).trans hN) ((ntC_o (by omega)).trans hK) ((ntC_o (by omega)).trans hL) ((ntC_o (by omega)).trans hD) ?_)
      refine V_iconst (pc := 186) (nI 2) d_X0_run_186 (by decide) ?_
      refine V_imul (pc := 187) d_X0_run_187 ?_
      exact V_retI (pc := 188) d_X0_run_188 rfl ⟨Nat.le_refl _, Nat.le_refl _⟩ (by simp only [ntC] at hq ⊢; exact hq)
    · simp (disch := omega) only [show (nI 24).toInt = 24 from by decide, nI_toInt, ti0, ti1, tim1, tim20, tim1000] at c17
      exfalso
      omega
theorem ct_run_1_1_2 {k n d : Nat} {x L D : Int32} (hk : k < 10) (hd : d + 0 ≤ 24) (hn : n + 1 ≤ 50) (h0 : σ 124 0 = nI n) (hN : σ (13 + 2 * k) 0 = nI k) (hK : σ (13 + 2 * k) 1 = 1) (hL : σ (13 + 2 * k) 2 = L) (hD : σ (13 + 2 * k) 3 = D) (hq : K (x - nI k) (ntC σ n [nI 12], sh b)) : CM G mX0_run (rl 2) [.ref 124, .ref (13 + 2 * k), .int 1, .int (nI 2), .int x, .int (nI d)] (σ, sh b) (QI K) := by
  refine CM.of (by decide) (Nat.le_of_ble_eq_true rfl) (cats1 rfl) ?_
  refine V_iload_n (pc := 0) d_X0_run_0 rfl ?_
  refine V_iload_n (pc := 1) d_X0_run_1 rfl ?_
  refine V_csI (pc := 2) (n := 1) [_, _] d_X0_run_2 c_X0_34 k_X0_kindWithBody rfl (Nat.le_of_ble_eq_true rfl) ⟨Nat.le_of_ble_eq_true rfl, Nat.le_of_ble_eq_true rfl⟩ ⟨Nat.le_refl _, Nat.le_refl _⟩ (ct_kwb_1_2 ?_)
  refine V_istore (pc := 5) d_X0_run_5 (by decide) ?_
  refine V_iload (pc := 7) d_X0_run_7 rfl ?_
  refine V_iconst (pc := 9) (-1) d_X0_run_9 (by decide) ?_
  refine V_icmp_eq (pc := 10) 20 d_X0_run_10 (by decide) (fun c10 => ?_) (fun c10 => ?_)
  · exact absurd c10 (by decide)
  · refine V_iload (pc := 13) d_X0_run_13 rfl ?_
    refine V_bipush (pc := 15) (nI 24) d_X0_run_15 (by decide) ?_
    refine B_icmp_le (pc := 17) 22 d_X0_run_17 (by decide) (fun c17 => ?_) (fun c17 => ?_)
    · simp (disch := omega) only [show (nI 24).toInt = 24 from by decide, nI_toInt, ti0, ti1, tim1, tim20, tim1000] at c17
      refine V_getsB (pc := 22) d_X0_run_22 f_X0_28 ?_
      refine V_iload (pc := 25) d_X0_run_25 rfl ?_
      refine V_iconst (pc := 27) (nI 4) d_X0_run_27 (by decide) ?_
      refine V_imul (pc := 28) d_X0_run_28 ?_
      refine V_iload_n (pc := 29) d_X0_run_29 rfl ?_
      refine V_iadd (pc := 30) d_X0_run_30 ?_
      refine V_bald (pc := 31) (2) d_X0_run_31 (by decide) (by decide) ?_
      rw [show boT.getD 2 0 = nI 12 from rfl]
      refine V_istore (pc := 32) d_X0_run_32 (by decide) ?_
      refine V_getsKN (pc := 34) d_X0_run_34 f_X0_31 ?_
      refine V_iload (pc := 37) d_X0_run_37 rfl ?_
      refine V_kald (pc := 39) (0) d_X0_run_39 (by decide) (by decide) ?_
      rw [show kaT.getD 0 0 = (-1) from rfl]
      refine V_istore (pc := 40) d_X0_run_40 (by decide) ?_
      refine V_iload (pc := 42) d_X0_run_42 rfl ?_
      refine V_iconst (pc := 44) (1) d_X0_run_44 (by decide) ?_
      refine V_iadd (pc := 45) d_X0_run_45 ?_
      rw [nI_1]
      refine V_istore (pc := 46) d_X0_run_46 (by decide) ?_
      refine V_aload_n (pc := 48) d_X0_run_48 rfl ?_
      refine V_iload (pc := 49) d_X0_run_49 rfl ?_
      refine V_cvV (pc := 51) (n := 1) (c := 0) [_] d_X0_run_51 c_X0_38 k_X0_note ⟨rfl, rfl⟩ (tt_124 b) rfl (Nat.le_of_ble_eq_true rfl) ⟨Nat.le_of_ble_eq_true rfl, Nat.le_of_ble_eq_true rfl⟩ ⟨Nat.le_refl _, Nat.le_refl _⟩ (ct_X0_note (by omega) h0 ?_)
      refine V_iload (pc := 54) d_X0_run_54 rfl ?_
      refine V_lookup (pc := 56) (off := 133) 189 d_X0_run_56 (by decide) (by decide) (by decide) ?_
      refine V_iload (pc := 189) d_X0_run_189 rfl ?_
      refine V_aload_n (pc := 191) d_X0_run_191 rfl ?_
      refine P_getI (pc := 192) d_X0_run_192 f_X0_45 (tS b (by omega)) ?_
      simp (disch := omega) only [up2_n, up2_e, ntC_o]
      rw [hN]
      refine V_isub (pc := 195) d_X0_run_195 ?_
      exact V_retI (pc := 196) d_X0_run_196 rfl ⟨Nat.le_refl _, Nat.le_refl _⟩ (by simp only [ntC] at hq ⊢; exact hq)
    · simp (disch := omega) only [show (nI 24).toInt = 24 from by decide, nI_toInt, ti0, ti1, tim1, tim20, tim1000] at c17
      exfalso
      omega
theorem ct_run_1_0_3 {k n d : Nat} {x L D : Int32} (hk : k < 10) (hd : d + 3 ≤ 24) (hn : n + 5 ≤ 50) (h0 : σ 124 0 = nI n) (hN : σ (13 + 2 * k) 0 = nI k) (hK : σ (13 + 2 * k) 1 = 1) (hL : σ (13 + 2 * k) 2 = L) (hD : σ (13 + 2 * k) 3 = D) (hq : K ((((x + D) - L) * nI 2) ^^^ (x - nI k)) (ntC σ n [nI 13, nI 11, nI 20, nI 10, nI 12], sh b)) : CM G mX0_run (rl 5) [.ref 124, .ref (13 + 2 * k), .int 0, .int (nI 3), .int x, .int (nI d)] (σ, sh b) (QI K) := by
  refine CM.of (by decide) (Nat.le_of_ble_eq_true rfl) (cats1 rfl) ?_
  refine V_iload_n (pc := 0) d_X0_run_0 rfl ?_
  refine V_iload_n (pc := 1) d_X0_run_1 rfl ?_
  refine V_csI (pc := 2) (n := 1) [_, _] d_X0_run_2 c_X0_34 k_X0_kindWithBody rfl (Nat.le_of_ble_eq_true rfl) ⟨Nat.le_of_ble_eq_true rfl, Nat.le_of_ble_eq_true rfl⟩ ⟨Nat.le_refl _, Nat.le_refl _⟩ (ct_kwb_0_3 ?_)
  refine V_istore (pc := 5) d_X0_run_5 (by decide) ?_
  refine V_iload (pc := 7) d_X0_run_7 rfl ?_
  refine V_iconst (pc := 9) (-1) d_X0_run_9 (by decide) ?_
  refine V_icmp_eq (pc := 10) 20 d_X0_run_10 (by decide) (fun c10 => ?_) (fun c10 => ?_)
  · exact absurd c10 (by decide)
  · refine V_iload (pc := 13) d_X0_run_13 rfl ?_
    refine V_bipush (pc := 15) (nI 24) d_X0_run_15 (by decide) ?_
    refine B_icmp_le (pc := 17) 22 d_X0_run_17 (by decide) (fun c17 => ?_) (fun c17 => ?_)
    · simp (disch := omega) only [show (nI 24).toInt = 24 from by decide, nI_toInt, ti0, ti1, tim1, tim20, tim1000] at c17
      refine V_getsB (pc := 22) d_X0_run_22 f_X0_28 ?_
      refine V_iload (pc := 25) d_X0_run_25 rfl ?_
      refine V_iconst (pc := 27) (nI 4) d_X0_run_27 (by decide) ?_
      refine V_imul (pc := 28) d_X0_run_28 ?_
      refine V_iload_n (pc := 29) d_X0_run_29 rfl ?_
      refine V_iadd (pc := 30) d_X0_run_30 ?_
      refine V_bald (pc := 31) (3) d_X0_run_31 (by decide) (by decide) ?_
      rw [show boT.getD 3 0 = nI 13 from rfl]
      refine V_istore (pc := 32) d_X0_run_32 (by decide) ?_
      refine V_getsKN (pc := 34) d_X0_run_34 f_X0_31 ?_
      refine V_iload (pc := 37) d_X0_run_37 rfl ?_
      refine V_kald (pc := 39) (0) d_X0_run_39 (by decide) (by decide) ?_
      rw [show kaT.getD 0 0 = (-1) from rfl]
      refine V_istore (pc := 40) d_X0_run_40 (by decide) ?_
      refine V_iload (pc := 42) d_X0_run_42 rfl ?_
      refine V_iconst (pc := 44) (1) d_X0_run_44 (by decide) ?_
      refine V_iadd (pc := 45) d_X0_run_45 ?_
      rw [nI_1]
      refine V_istore (pc := 46) d_X0_run_46 (by decide) ?_
      refine V_aload_n (pc := 48) d_X0_run_48 rfl ?_
      refine V_iload (pc := 49) d_X0_run_49 rfl ?_
      refine V_cvV (pc := 51) (n := 1) (c := 0) [_] d_X0_run_51 c_X0_38 k_X0_note ⟨rfl, rfl⟩ (tt_124 b) rfl (Nat.le_of_ble_eq_true rfl) ⟨Nat.le_of_ble_eq_true rfl, Nat.le_of_ble_eq_true rfl⟩ ⟨Nat.le_refl _, Nat.le_refl _⟩ (ct_X0_note (by omega) h0 ?_)
      refine V_iload (pc := 54) d_X0_run_54 rfl ?_
      refine V_lookup (pc := 56) (off := 141) 197 d_X0_run_56 (by decide) (by decide) (by decide) ?_
      refine V_aload_n (pc := 197) d_X0_run_197 rfl ?_
      refine V_aload_n (pc := 198) d_X0_run_198 rfl ?_
      refine V_aload_n (pc := 199) d_X0_run_199 rfl ?_
      refine P_getI (pc := 200) d_X0_run_200 f_X0_19 (tS b (by omega)) ?_
      simp (disch := omega) only [up2_n, up2_e, ntC_o]
      rw [hK]
      refine V_iconst (pc := 203) (1) d_X0_run_203 (by decide) ?_
      refine V_iload (pc := 204) d_X0_run_204 rfl ?_
      refine V_iload (pc := 206) d_X0_run_206 rfl ?_
      refine V_csI (pc := 208) (n := 4) [_, _, _, _, _, _] d_X0_run_208 c_X0_24 k_X0_run rfl (Nat.le_of_ble_eq_true rfl) ⟨Nat.le_of_ble_eq_true rfl, Nat.le_of_ble_eq_true rfl⟩ ⟨Nat.le_refl _, Nat.le_refl _⟩ (ct_run_1_1_1 (n := n + 1) (d := d + 1) hk (by omega) (by omega) (ntC_c h0) ((ntC_o (by omega)).trans hN) ((ntC_o (by omega)).trans hK) ((ntC_o (by omega)).trans hL) ((ntC_o (by omega)).trans hD) ?_)
      refine V_aload_n (pc := 211) d_X0_run_211 rfl ?_
      refine V_aload_n (pc := 212) d_X0_run_212 rfl ?_
      refine V_aload_n (pc := 213) d_X0_run_213 rfl ?_
      refine P_getI (pc := 214) d_X0_run_214 f_X0_19 (tS b (by omega)) ?_
      simp (disch := omega) only [up2_n, up2_e, ntC_o]
      rw [hK]
      refine V_iconst (pc := 217) (nI 2) d_X0_run_217 (by decide) ?_
      refine V_iload (pc := 218) d_X0_run_218 rfl ?_
      refine V_iload (pc := 220) d_X0_run_220 rfl ?_
      refine V_csI (pc := 222) (n := 2) [_, _, _, _, _, _] d_X0_run_222 c_X0_24 k_X0_run rfl (Nat.le_of_ble_eq_true rfl) ⟨Nat.le_of_ble_eq_true rfl, Nat.le_of_ble_eq_true rfl⟩ ⟨Nat.le_refl _, Nat.le_refl _⟩ (ct_run_1_1_2 (n := n + 1 + 3) (d := d + 1) hk (by omega) (by omega) (ntC_c (ntC_c h0)) ((ntC_o (by omega)).trans ((ntC_o (by omega)).trans hN)) ((ntC_o (by omega)).trans ((ntC_o (by omega)).trans hK)) ((ntC_o (by omega)).trans ((ntC_o (by omega)).trans hL)) ((ntC_o (by omega)).trans ((ntC_o (by omega)).trans hD)) ?_)
      refine V_ixor (pc := 225) d_X0_run_225 ?_
      exact V_retI (pc := 226) d_X0_run_226 rfl ⟨Nat.le_refl _, Nat.le_refl _⟩ (by simp only [ntC] at hq ⊢; exact hq)
    · simp (disch := omega) only [show (nI 24).toInt = 24 from by decide, nI_toInt, ti0, ti1, tim1, tim20, tim1000] at c17
      exfalso
      omega
theorem ct_run_1_1_3 {k n d : Nat} {x L D : Int32} (hk : k < 10) (hd : d + 4 ≤ 24) (hn : n + 6 ≤ 50) (h0 : σ 124 0 = nI n) (hN : σ (13 + 2 * k) 0 = nI k) (hK : σ (13 + 2 * k) 1 = 1) (hL : σ (13 + 2 * k) 2 = L) (hD : σ (13 + 2 * k) 3 = D) (hq : K (((((x + 1) + D) - L) * nI 2) ^^^ ((x + 1) - nI k)) (ntC σ n [nI 21, nI 13, nI 11, nI 20, nI 10, nI 12], sh b)) : CM G mX0_run (rl 6) [.ref 124, .ref (13 + 2 * k), .int 1, .int (nI 3), .int x, .int (nI d)] (σ, sh b) (QI K) := by
  refine CM.of (by decide) (Nat.le_of_ble_eq_true rfl) (cats1 rfl) ?_
  refine V_iload_n (pc := 0) d_X0_run_0 rfl ?_
  refine V_iload_n (pc := 1) d_X0_run_1 rfl ?_
  refine V_csI (pc := 2) (n := 1) [_, _] d_X0_run_2 c_X0_34 k_X0_kindWithBody rfl (Nat.le_of_ble_eq_true rfl) ⟨Nat.le_of_ble_eq_true rfl, Nat.le_of_ble_eq_true rfl⟩ ⟨Nat.le_refl _, Nat.le_refl _⟩ (ct_kwb_1_3 ?_)
  refine V_istore (pc := 5) d_X0_run_5 (by decide) ?_
  refine V_iload (pc := 7) d_X0_run_7 rfl ?_
  refine V_iconst (pc := 9) (-1) d_X0_run_9 (by decide) ?_
  refine V_icmp_eq (pc := 10) 20 d_X0_run_10 (by decide) (fun c10 => ?_) (fun c10 => ?_)
  · exact absurd c10 (by decide)
  · refine V_iload (pc := 13) d_X0_run_13 rfl ?_
    refine V_bipush (pc := 15) (nI 24) d_X0_run_15 (by decide) ?_
    refine B_icmp_le (pc := 17) 22 d_X0_run_17 (by decide) (fun c17 => ?_) (fun c17 => ?_)
    · simp (disch := omega) only [show (nI 24).toInt = 24 from by decide, nI_toInt, ti0, ti1, tim1, tim20, tim1000] at c17
      refine V_getsB (pc := 22) d_X0_run_22 f_X0_28 ?_
      refine V_iload (pc := 25) d_X0_run_25 rfl ?_
      refine V_iconst (pc := 27) (nI 4) d_X0_run_27 (by decide) ?_
      refine V_imul (pc := 28) d_X0_run_28 ?_
      refine V_iload_n (pc := 29) d_X0_run_29 rfl ?_
      refine V_iadd (pc := 30) d_X0_run_30 ?_
      refine V_bald (pc := 31) (7) d_X0_run_31 (by decide) (by decide) ?_
      rw [show boT.getD 7 0 = nI 21 from rfl]
      refine V_istore (pc := 32) d_X0_run_32 (by decide) ?_
      refine V_getsKN (pc := 34) d_X0_run_34 f_X0_31 ?_
      refine V_iload (pc := 37) d_X0_run_37 rfl ?_
      refine V_kald (pc := 39) (1) d_X0_run_39 (by decide) (by decide) ?_
      rw [show kaT.getD 1 0 = 0 from rfl]
      refine V_istore (pc := 40) d_X0_run_40 (by decide) ?_
      refine V_iload (pc := 42) d_X0_run_42 rfl ?_
      refine V_iconst (pc := 44) (1) d_X0_run_44 (by decide) ?_
      refine V_iadd (pc := 45) d_X0_run_45 ?_
      rw [nI_1]
      refine V_istore (pc := 46) d_X0_run_46 (by decide) ?_
      refine V_aload_n (pc := 48) d_X0_run_48 rfl ?_
      refine V_iload (pc := 49) d_X0_run_49 rfl ?_
      refine V_cvV (pc := 51) (n := 1) (c := 0) [_] d_X0_run_51 c_X0_38 k_X0_note ⟨rfl, rfl⟩ (tt_124 b) rfl (Nat.le_of_ble_eq_true rfl) ⟨Nat.le_of_ble_eq_true rfl, Nat.le_of_ble_eq_true rfl⟩ ⟨Nat.le_refl _, Nat.le_refl _⟩ (ct_X0_note (by omega) h0 ?_)
      refine V_iload (pc := 54) d_X0_run_54 rfl ?_
      refine V_lookup (pc := 56) (off := 189) 245 d_X0_run_56 (by decide) (by decide) (by decide) ?_
      refine V_aload_n (pc := 245) d_X0_run_245 rfl ?_
      refine V_aload_n (pc := 246) d_X0_run_246 rfl ?_
      refine V_iload (pc := 247) d_X0_run_247 rfl ?_
      refine V_iconst (pc := 249) (nI 3) d_X0_run_249 (by decide) ?_
      refine V_iload (pc := 250) d_X0_run_250 rfl ?_
      refine V_iconst (pc := 252) (1) d_X0_run_252 (by decide) ?_
      refine V_iadd (pc := 253) d_X0_run_253 ?_
      refine V_iload (pc := 254) d_X0_run_254 rfl ?_
      refine V_csI (pc := 256) (n := 5) [_, _, _, _, _, _] d_X0_run_256 c_X0_24 k_X0_run rfl (Nat.le_of_ble_eq_true rfl) ⟨Nat.le_of_ble_eq_true rfl, Nat.le_of_ble_eq_true rfl⟩ ⟨Nat.le_refl _, Nat.le_refl _⟩ (ct_run_1_0_3 (n := n + 1) (d := d + 1) hk (by omega) (by omega) (ntC_c h0) ((ntC_o (by omega)).trans hN) ((ntC_o (by omega)).trans hK) ((ntC_o (by omega)).trans hL) ((ntC_o (by omega)).trans hD) ?_)
      exact V_retI (pc := 259) d_X0_run_259 rfl ⟨Nat.le_refl _, Nat.le_refl _⟩ (by simp only [ntC] at hq ⊢; exact hq)
    · simp (disch := omega) only [show (nI 24).toInt = 24 from by decide, nI_toInt, ti0, ti1, tim1, tim20, tim1000] at c17
      exfalso
      omega
theorem ct_run_2_2_0 {k n d : Nat} {x L D : Int32} (hk : k < 10) (hd : d + 0 ≤ 24) (hn : n + 1 ≤ 50) (h0 : σ 124 0 = nI n) (hN : σ (13 + 2 * k) 0 = nI k) (hK : σ (13 + 2 * k) 1 = (nI 2)) (hL : σ (13 + 2 * k) 2 = L) (hD : σ (13 + 2 * k) 3 = D) (hq : K (x + D) (ntC σ n [nI 10], sh b)) : CM G mX0_run (rl 2) [.ref 124, .ref (13 + 2 * k), .int (nI 2), .int 0, .int x, .int (nI d)] (σ, sh b) (QI K) := by
  refine CM.of (by decide) (Nat.le_of_ble_eq_true rfl) (cats1 rfl) ?_
  refine V_iload_n (pc := 0) d_X0_run_0 rfl ?_
  refine V_iload_n (pc := 1) d_X0_run_1 rfl ?_
  refine V_csI (pc := 2) (n := 1) [_, _] d_X0_run_2 c_X0_34 k_X0_kindWithBody rfl (Nat.le_of_ble_eq_true rfl) ⟨Nat.le_of_ble_eq_true rfl, Nat.le_of_ble_eq_true rfl⟩ ⟨Nat.le_refl _, Nat.le_refl _⟩ (ct_kwb_2_0 ?_)
  refine V_istore (pc := 5) d_X0_run_5 (by decide) ?_
  refine V_iload (pc := 7) d_X0_run_7 rfl ?_
  refine V_iconst (pc := 9) (-1) d_X0_run_9 (by decide) ?_
  refine V_icmp_eq (pc := 10) 20 d_X0_run_10 (by decide) (fun c10 => ?_) (fun c10 => ?_)
  · exact absurd c10 (by decide)
  · refine V_iload (pc := 13) d_X0_run_13 rfl ?_
    refine V_bipush (pc := 15) (nI 24) d_X0_run_15 (by decide) ?_
    refine B_icmp_le (pc := 17) 22 d_X0_run_17 (by decide) (fun c17 => ?_) (fun c17 => ?_)
    · simp (disch := omega) only [show (nI 24).toInt = 24 from by decide, nI_toInt, ti0, ti1, tim1, tim20, tim1000] at c17
      refine V_getsB (pc := 22) d_X0_run_22 f_X0_28 ?_
      refine V_iload (pc := 25) d_X0_run_25 rfl ?_
      refine V_iconst (pc := 27) (nI 4) d_X0_run_27 (by decide) ?_
      refine V_imul (pc := 28) d_X0_run_28 ?_
      refine V_iload_n (pc := 29) d_X0_run_29 rfl ?_
      refine V_iadd (pc := 30) d_X0_run_30 ?_
      refine V_bald (pc := 31) (0) d_X0_run_31 (by decide) (by decide) ?_
      rw [show boT.getD 0 0 = nI 10 from rfl]
      refine V_istore (pc := 32) d_X0_run_32 (by decide) ?_
      refine V_getsKN (pc := 34) d_X0_run_34 f_X0_31 ?_
      refine V_iload (pc := 37) d_X0_run_37 rfl ?_
      refine V_kald (pc := 39) (0) d_X0_run_39 (by decide) (by decide) ?_
      rw [show kaT.getD 0 0 = (-1) from rfl]
      refine V_istore (pc := 40) d_X0_run_40 (by decide) ?_
      refine V_iload (pc := 42) d_X0_run_42 rfl ?_
      refine V_iconst (pc := 44) (1) d_X0_run_44 (by decide) ?_
      refine V_iadd (pc := 45) d_X0_run_45 ?_
      rw [nI_1]
      refine V_istore (pc := 46) d_X0_run_46 (by decide) ?_
      refine V_aload_n (pc := 48) d_X0_run_48 rfl ?_
      refine V_iload (pc := 49) d_X0_run_49 rfl ?_
      refine V_cvV (pc := 51) (n := 1) (c := 0) [_] d_X0_run_51 c_X0_38 k_X0_note ⟨rfl, rfl⟩ (tt_124 b) rfl (Nat.le_of_ble_eq_true rfl) ⟨Nat.le_of_ble_eq_true rfl, Nat.le_of_ble_eq_true rfl⟩ ⟨Nat.le_refl _, Nat.le_refl _⟩ (ct_X0_note (by omega) h0 ?_)
      refine V_iload (pc := 54) d_X0_run_54 rfl ?_
      refine V_lookup (pc := 56) (off := 108) 164 d_X0_run_56 (by decide) (by decide) (by decide) ?_
      refine V_iload (pc := 164) d_X0_run_164 rfl ?_
      refine V_aload_n (pc := 166) d_X0_run_166 rfl ?_
      refine P_getI (pc := 167) d_X0_run_167 f_X0_42 (tS b (by omega)) ?_
      simp (disch := omega) only [up2_n, up2_e, ntC_o]
      rw [hD]
      refine V_iadd (pc := 170) d_X0_run_170 ?_
      exact V_retI (pc := 171) d_X0_run_171 rfl ⟨Nat.le_refl _, Nat.le_refl _⟩ (by simp only [ntC] at hq ⊢; exact hq)
    · simp (disch := omega) only [show (nI 24).toInt = 24 from by decide, nI_toInt, ti0, ti1, tim1, tim20, tim1000] at c17
      exfalso
      omega
theorem ct_run_2_0_1 {k n d : Nat} {x L D : Int32} (hk : k < 10) (hd : d + 1 ≤ 24) (hn : n + 2 ≤ 50) (h0 : σ 124 0 = nI n) (hN : σ (13 + 2 * k) 0 = nI k) (hK : σ (13 + 2 * k) 1 = (nI 2)) (hL : σ (13 + 2 * k) 2 = L) (hD : σ (13 + 2 * k) 3 = D) (hq : K ((x + D) * nI 2) (ntC σ n [nI 11, nI 10], sh b)) : CM G mX0_run (rl 3) [.ref 124, .ref (13 + 2 * k), .int 0, .int 1, .int x, .int (nI d)] (σ, sh b) (QI K) := by
  refine CM.of (by decide) (Nat.le_of_ble_eq_true rfl) (cats1 rfl) ?_
  refine V_iload_n (pc := 0) d_X0_run_0 rfl ?_
  refine V_iload_n (pc := 1) d_X0_run_1 rfl ?_
  refine V_csI (pc := 2) (n := 1) [_, _] d_X0_run_2 c_X0_34 k_X0_kindWithBody rfl (Nat.le_of_ble_eq_true rfl) ⟨Nat.le_of_ble_eq_true rfl, Nat.le_of_ble_eq_true rfl⟩ ⟨Nat.le_refl _, Nat.le_refl _⟩ (ct_kwb_0_1 ?_)
  refine V_istore (pc := 5) d_X0_run_5 (by decide) ?_
  refine V_iload (pc := 7) d_X0_run_7 rfl ?_
  refine V_iconst (pc := 9) (-1) d_X0_run_9 (by decide) ?_
  refine V_icmp_eq (pc := 10) 20 d_X0_run_10 (by decide) (fun c10 => ?_) (fun c10 => ?_)
  · exact absurd c10 (by decide)
  · refine V_iload (pc := 13) d_X0_run_13 rfl ?_
    refine V_bipush (pc := 15) (nI 24) d_X0_run_15 (by decide) ?_
    refine B_icmp_le (pc := 17) 22 d_X0_run_17 (by decide) (fun c17 => ?_) (fun c17 => ?_)
    · simp (disch := omega) only [show (nI 24).toInt = 24 from by decide, nI_toInt, ti0, ti1, tim1, tim20, tim1000] at c17
      refine V_getsB (pc := 22) d_X0_run_22 f_X0_28 ?_
      refine V_iload (pc := 25) d_X0_run_25 rfl ?_
      refine V_iconst (pc := 27) (nI 4) d_X0_run_27 (by decide) ?_
      refine V_imul (pc := 28) d_X0_run_28 ?_
      refine V_iload_n (pc := 29) d_X0_run_29 rfl ?_
      refine V_iadd (pc := 30) d_X0_run_30 ?_
      refine V_bald (pc := 31) (1) d_X0_run_31 (by decide) (by decide) ?_
      rw [show boT.getD 1 0 = nI 11 from rfl]
      refine V_istore (pc := 32) d_X0_run_32 (by decide) ?_
      refine V_getsKN (pc := 34) d_X0_run_34 f_X0_31 ?_
      refine V_iload (pc := 37) d_X0_run_37 rfl ?_
      refine V_kald (pc := 39) (0) d_X0_run_39 (by decide) (by decide) ?_
      rw [show kaT.getD 0 0 = (-1) from rfl]
      refine V_istore (pc := 40) d_X0_run_40 (by decide) ?_
      refine V_iload (pc := 42) d_X0_run_42 rfl ?_
      refine V_iconst (pc := 44) (1) d_X0_run_44 (by decide) ?_
      refine V_iadd (pc := 45) d_X0_run_45 ?_
      rw [nI_1]
      refine V_istore (pc := 46) d_X0_run_46 (by decide) ?_
      refine V_aload_n (pc := 48) d_X0_run_48 rfl ?_
      refine V_iload (pc := 49) d_X0_run_49 rfl ?_
      refine V_cvV (pc := 51) (n := 1) (c := 0) [_] d_X0_run_51 c_X0_38 k_X0_note ⟨rfl, rfl⟩ (tt_124 b) rfl (Nat.le_of_ble_eq_true rfl) ⟨Nat.le_of_ble_eq_true rfl, Nat.le_of_ble_eq_true rfl⟩ ⟨Nat.le_refl _, Nat.le_refl _⟩ (ct_X0_note (by omega) h0 ?_)
      refine V_iload (pc := 54) d_X0_run_54 rfl ?_
      refine V_lookup (pc := 56) (off := 116) 172 d_X0_run_56 (by decide) (by decide) (by decide) ?_
      refine V_aload_n (pc := 172) d_X0_run_172 rfl ?_
      refine V_aload_n (pc := 173) d_X0_run_173 rfl ?_
      refine V_aload_n (pc := 174) d_X0_run_174 rfl ?_
      refine P_getI (pc := 175) d_X0_run_175 f_X0_19 (tS b (by omega)) ?_
      simp (disch := omega) only [up2_n, up2_e, ntC_o]
      rw [hK]
      refine V_iconst (pc := 178) (0) d_X0_run_178 (by decide) ?_
      refine V_iload (pc := 179) d_X0_run_179 rfl ?_
      refine V_iload (pc := 181) d_X0_run_181 rfl ?_
      refine V_csI (pc := 183) (n := 2) [_, _, _, _, _, _] d_X0_run_183 c_X0_24 k_X0_run rfl (Nat.le_of_ble_eq_true rfl) ⟨Nat.le_of_ble_eq_true rfl, Nat.le_of_ble_eq_true rfl⟩ ⟨Nat.le_refl _, Nat.le_refl _⟩ (ct_run_2_2_0 (n := n + 1) (d := d + 1) hk (by omega) (by omega) (ntC_c h0) ((ntC_o (by omega)).trans hN) ((ntC_o (by omega)).trans hK) ((ntC_o (by omega)).trans hL) ((ntC_o (by omega)).trans hD) ?_)
      refine V_iconst (pc := 186) (nI 2) d_X0_run_186 (by decide) ?_
      refine V_imul (pc := 187) d_X0_run_187 ?_
      exact V_retI (pc := 188) d_X0_run_188 rfl ⟨Nat.le_refl _, Nat.le_refl _⟩ (by simp only [ntC] at hq ⊢; exact hq)
    · simp (disch := omega) only [show (nI 24).toInt = 24 from by decide, nI_toInt, ti0, ti1, tim1, tim20, tim1000] at c17
      exfalso
      omega
theorem ct_run_2_2_2 {k n d : Nat} {x L D : Int32} (hk : k < 10) (hd : d + 0 ≤ 24) (hn : n + 1 ≤ 50) (h0 : σ 124 0 = nI n) (hN : σ (13 + 2 * k) 0 = nI k) (hK : σ (13 + 2 * k) 1 = (nI 2)) (hL : σ (13 + 2 * k) 2 = L) (hD : σ (13 + 2 * k) 3 = D) (hq : K (x - nI k) (ntC σ n [nI 12], sh b)) : CM G mX0_run (rl 2) [.ref 124, .ref (13 + 2 * k), .int (nI 2), .int (nI 2), .int x, .int (nI d)] (σ, sh b) (QI K) := by
  refine CM.of (by decide) (Nat.le_of_ble_eq_true rfl) (cats1 rfl) ?_
  refine V_iload_n (pc := 0) d_X0_run_0 rfl ?_
  refine V_iload_n (pc := 1) d_X0_run_1 rfl ?_
  refine V_csI (pc := 2) (n := 1) [_, _] d_X0_run_2 c_X0_34 k_X0_kindWithBody rfl (Nat.le_of_ble_eq_true rfl) ⟨Nat.le_of_ble_eq_true rfl, Nat.le_of_ble_eq_true rfl⟩ ⟨Nat.le_refl _, Nat.le_refl _⟩ (ct_kwb_2_2 ?_)
  refine V_istore (pc := 5) d_X0_run_5 (by decide) ?_
  refine V_iload (pc := 7) d_X0_run_7 rfl ?_
  refine V_iconst (pc := 9) (-1) d_X0_run_9 (by decide) ?_
  refine V_icmp_eq (pc := 10) 20 d_X0_run_10 (by decide) (fun c10 => ?_) (fun c10 => ?_)
  · exact absurd c10 (by decide)
  · refine V_iload (pc := 13) d_X0_run_13 rfl ?_
    refine V_bipush (pc := 15) (nI 24) d_X0_run_15 (by decide) ?_
    refine B_icmp_le (pc := 17) 22 d_X0_run_17 (by decide) (fun c17 => ?_) (fun c17 => ?_)
    · simp (disch := omega) only [show (nI 24).toInt = 24 from by decide, nI_toInt, ti0, ti1, tim1, tim20, tim1000] at c17
      refine V_getsB (pc := 22) d_X0_run_22 f_X0_28 ?_
      refine V_iload (pc := 25) d_X0_run_25 rfl ?_
      refine V_iconst (pc := 27) (nI 4) d_X0_run_27 (by decide) ?_
      refine V_imul (pc := 28) d_X0_run_28 ?_
      refine V_iload_n (pc := 29) d_X0_run_29 rfl ?_
      refine V_iadd (pc := 30) d_X0_run_30 ?_
      refine V_bald (pc := 31) (2) d_X0_run_31 (by decide) (by decide) ?_
      rw [show boT.getD 2 0 = nI 12 from rfl]
      refine V_istore (pc := 32) d_X0_run_32 (by decide) ?_
      refine V_getsKN (pc := 34) d_X0_run_34 f_X0_31 ?_
      refine V_iload (pc := 37) d_X0_run_37 rfl ?_
      refine V_kald (pc := 39) (0) d_X0_run_39 (by decide) (by decide) ?_
      rw [show kaT.getD 0 0 = (-1) from rfl]
      refine V_istore (pc := 40) d_X0_run_40 (by decide) ?_
      refine V_iload (pc := 42) d_X0_run_42 rfl ?_
      refine V_iconst (pc := 44) (1) d_X0_run_44 (by decide) ?_
      refine V_iadd (pc := 45) d_X0_run_45 ?_
      rw [nI_1]
      refine V_istore (pc := 46) d_X0_run_46 (by decide) ?_
      refine V_aload_n (pc := 48) d_X0_run_48 rfl ?_
      refine V_iload (pc := 49) d_X0_run_49 rfl ?_
      refine V_cvV (pc := 51) (n := 1) (c := 0) [_] d_X0_run_51 c_X0_38 k_X0_note ⟨rfl, rfl⟩ (tt_124 b) rfl (Nat.le_of_ble_eq_true rfl) ⟨Nat.le_of_ble_eq_true rfl, Nat.le_of_ble_eq_true rfl⟩ ⟨Nat.le_refl _, Nat.le_refl _⟩ (ct_X0_note (by omega) h0 ?_)
      refine V_iload (pc := 54) d_X0_run_54 rfl ?_
      refine V_lookup (pc := 56) (off := 133) 189 d_X0_run_56 (by decide) (by decide) (by decide) ?_
      refine V_iload (pc := 189) d_X0_run_189 rfl ?_
      refine V_aload_n (pc := 191) d_X0_run_191 rfl ?_
      refine P_getI (pc := 192) d_X0_run_192 f_X0_45 (tS b (by omega)) ?_
      simp (disch := omega) only [up2_n, up2_e, ntC_o]
      rw [hN]
      refine V_isub (pc := 195) d_X0_run_195 ?_
      exact V_retI (pc := 196) d_X0_run_196 rfl ⟨Nat.le_refl _, Nat.le_refl _⟩ (by simp only [ntC] at hq ⊢; exact hq)
    · simp (disch := omega) only [show (nI 24).toInt = 24 from by decide, nI_toInt, ti0, ti1, tim1, tim20, tim1000] at c17
      exfalso
      omega
theorem ct_run_2_2_1 {k n d : Nat} {x L D : Int32} (hk : k < 10) (hd : d + 2 ≤ 24) (hn : n + 4 ≤ 50) (h0 : σ 124 0 = nI n) (hN : σ (13 + 2 * k) 0 = nI k) (hK : σ (13 + 2 * k) 1 = (nI 2)) (hL : σ (13 + 2 * k) 2 = L) (hD : σ (13 + 2 * k) 3 = D) (hq : K (((x + D) * nI 2) + (L - nI k)) (ntC σ n [nI 30, nI 11, nI 10, nI 12], sh b)) : CM G mX0_run (rl 4) [.ref 124, .ref (13 + 2 * k), .int (nI 2), .int 1, .int x, .int (nI d)] (σ, sh b) (QI K) := by
  refine CM.of (by decide) (Nat.le_of_ble_eq_true rfl) (cats1 rfl) ?_
  refine V_iload_n (pc := 0) d_X0_run_0 rfl ?_
  refine V_iload_n (pc := 1) d_X0_run_1 rfl ?_
  refine V_csI (pc := 2) (n := 1) [_, _] d_X0_run_2 c_X0_34 k_X0_kindWithBody rfl (Nat.le_of_ble_eq_true rfl) ⟨Nat.le_of_ble_eq_true rfl, Nat.le_of_ble_eq_true rfl⟩ ⟨Nat.le_refl _, Nat.le_refl _⟩ (ct_kwb_2_1 ?_)
  refine V_istore (pc := 5) d_X0_run_5 (by decide) ?_
  refine V_iload (pc := 7) d_X0_run_7 rfl ?_
  refine V_iconst (pc := 9) (-1) d_X0_run_9 (by decide) ?_
  refine V_icmp_eq (pc := 10) 20 d_X0_run_10 (by decide) (fun c10 => ?_) (fun c10 => ?_)
  · exact absurd c10 (by decide)
  · refine V_iload (pc := 13) d_X0_run_13 rfl ?_
    refine V_bipush (pc := 15) (nI 24) d_X0_run_15 (by decide) ?_
    refine B_icmp_le (pc := 17) 22 d_X0_run_17 (by decide) (fun c17 => ?_) (fun c17 => ?_)
    · simp (disch := omega) only [show (nI 24).toInt = 24 from by decide, nI_toInt, ti0, ti1, tim1, tim20, tim1000] at c17
      refine V_getsB (pc := 22) d_X0_run_22 f_X0_28 ?_
      refine V_iload (pc := 25) d_X0_run_25 rfl ?_
      refine V_iconst (pc := 27) (nI 4) d_X0_run_27 (by decide) ?_
      refine V_imul (pc := 28) d_X0_run_28 ?_
      refine V_iload_n (pc := 29) d_X0_run_29 rfl ?_
      refine V_iadd (pc := 30) d_X0_run_30 ?_
      refine V_bald (pc := 31) (9) d_X0_run_31 (by decide) (by decide) ?_
      rw [show boT.getD 9 0 = nI 30 from rfl]
      refine V_istore (pc := 32) d_X0_run_32 (by decide) ?_
      refine V_getsKN (pc := 34) d_X0_run_34 f_X0_31 ?_
      refine V_iload (pc := 37) d_X0_run_37 rfl ?_
      refine V_kald (pc := 39) (2) d_X0_run_39 (by decide) (by decide) ?_
      rw [show kaT.getD 2 0 = 0 from rfl]
      refine V_istore (pc := 40) d_X0_run_40 (by decide) ?_
      refine V_iload (pc := 42) d_X0_run_42 rfl ?_
      refine V_iconst (pc := 44) (1) d_X0_run_44 (by decide) ?_
      refine V_iadd (pc := 45) d_X0_run_45 ?_
      rw [nI_1]
      refine V_istore (pc := 46) d_X0_run_46 (by decide) ?_
      refine V_aload_n (pc := 48) d_X0_run_48 rfl ?_
      refine V_iload (pc := 49) d_X0_run_49 rfl ?_
      refine V_cvV (pc := 51) (n := 1) (c := 0) [_] d_X0_run_51 c_X0_38 k_X0_note ⟨rfl, rfl⟩ (tt_124 b) rfl (Nat.le_of_ble_eq_true rfl) ⟨Nat.le_of_ble_eq_true rfl, Nat.le_of_ble_eq_true rfl⟩ ⟨Nat.le_refl _, Nat.le_refl _⟩ (ct_X0_note (by omega) h0 ?_)
      refine V_iload (pc := 54) d_X0_run_54 rfl ?_
      refine V_lookup (pc := 56) (off := 204) 260 d_X0_run_56 (by decide) (by decide) (by decide) ?_
      refine V_aload_n (pc := 260) d_X0_run_260 rfl ?_
      refine V_aload_n (pc := 261) d_X0_run_261 rfl ?_
      refine V_iload (pc := 262) d_X0_run_262 rfl ?_
      refine V_iconst (pc := 264) (1) d_X0_run_264 (by decide) ?_
      refine V_iload (pc := 265) d_X0_run_265 rfl ?_
      refine V_iload (pc := 267) d_X0_run_267 rfl ?_
      refine V_csI (pc := 269) (n := 3) [_, _, _, _, _, _] d_X0_run_269 c_X0_24 k_X0_run rfl (Nat.le_of_ble_eq_true rfl) ⟨Nat.le_of_ble_eq_true rfl, Nat.le_of_ble_eq_true rfl⟩ ⟨Nat.le_refl _, Nat.le_refl _⟩ (ct_run_2_0_1 (n := n + 1) (d := d + 1) hk (by omega) (by omega) (ntC_c h0) ((ntC_o (by omega)).trans hN) ((ntC_o (by omega)).trans hK) ((ntC_o (by omega)).trans hL) ((ntC_o (by omega)).trans hD) ?_)
      refine V_aload_n (pc := 272) d_X0_run_272 rfl ?_
      refine V_aload_n (pc := 273) d_X0_run_273 rfl ?_
      refine V_aload_n (pc := 274) d_X0_run_274 rfl ?_
      refine P_getI (pc := 275) d_X0_run_275 f_X0_19 (tS b (by omega)) ?_
      simp (disch := omega) only [up2_n, up2_e, ntC_o]
      rw [hK]
      refine V_iconst (pc := 278) (nI 2) d_X0_run_278 (by decide) ?_
      refine V_aload_n (pc := 279) d_X0_run_279 rfl ?_
      refine P_getI (pc := 280) d_X0_run_280 f_X0_48 (tS b (by omega)) ?_
      simp (disch := omega) only [up2_n, up2_e, ntC_o]
      rw [hL]
      refine V_iload (pc := 283) d_X0_run_283 rfl ?_
      refine V_csI (pc := 285) (n := 2) [_, _, _, _, _, _] d_X0_run_285 c_X0_24 k_X0_run rfl (Nat.le_of_ble_eq_true rfl) ⟨Nat.le_of_ble_eq_true rfl, Nat.le_of_ble_eq_true rfl⟩ ⟨Nat.le_refl _, Nat.le_refl _⟩ (ct_run_2_2_2 (n := n + 1 + 2) (d := d + 1) hk (by omega) (by omega) (ntC_c (ntC_c h0)) ((ntC_o (by omega)).trans ((ntC_o (by omega)).trans hN)) ((ntC_o (by omega)).trans ((ntC_o (by omega)).trans hK)) ((ntC_o (by omega)).trans ((ntC_o (by omega)).trans hL)) ((ntC_o (by omega)).trans ((ntC_o (by omega)).trans hD)) ?_)
      refine V_iadd (pc := 288) d_X0_run_288 ?_
      exact V_retI (pc := 289) d_X0_run_289 rfl ⟨Nat.le_refl _, Nat.le_refl _⟩ (by simp only [ntC] at hq ⊢; exact hq)
    · simp (disch := omega) only [show (nI 24).toInt = 24 from by decide, nI_toInt, ti0, ti1, tim1, tim20, tim1000] at c17
      exfalso
      omega
theorem ct_run_2_2_3 {k n d : Nat} {x L D : Int32} (hk : k < 10) (hd : d + 3 ≤ 24) (hn : n + 6 ≤ 50) (h0 : σ 124 0 = nI n) (hN : σ (13 + 2 * k) 0 = nI k) (hK : σ (13 + 2 * k) 1 = (nI 2)) (hL : σ (13 + 2 * k) 2 = L) (hD : σ (13 + 2 * k) 3 = D) (hq : K ((((x + D) * nI 2) + (L - nI k)) ^^^ (x - nI k)) (ntC σ n [nI 13, nI 30, nI 11, nI 10, nI 12, nI 12], sh b)) : CM G mX0_run (rl 5) [.ref 124, .ref (13 + 2 * k), .int (nI 2), .int (nI 3), .int x, .int (nI d)] (σ, sh b) (QI K) := by
  refine CM.of (by decide) (Nat.le_of_ble_eq_true rfl) (cats1 rfl) ?_
  refine V_iload_n (pc := 0) d_X0_run_0 rfl ?_
  refine V_iload_n (pc := 1) d_X0_run_1 rfl ?_
  refine V_csI (pc := 2) (n := 1) [_, _] d_X0_run_2 c_X0_34 k_X0_kindWithBody rfl (Nat.le_of_ble_eq_true rfl) ⟨Nat.le_of_ble_eq_true rfl, Nat.le_of_ble_eq_true rfl⟩ ⟨Nat.le_refl _, Nat.le_refl _⟩ (ct_kwb_2_3 ?_)
  refine V_istore (pc := 5) d_X0_run_5 (by decide) ?_
  refine V_iload (pc := 7) d_X0_run_7 rfl ?_
  refine V_iconst (pc := 9) (-1) d_X0_run_9 (by decide) ?_
  refine V_icmp_eq (pc := 10) 20 d_X0_run_10 (by decide) (fun c10 => ?_) (fun c10 => ?_)
  · exact absurd c10 (by decide)
  · refine V_iload (pc := 13) d_X0_run_13 rfl ?_
    refine V_bipush (pc := 15) (nI 24) d_X0_run_15 (by decide) ?_
    refine B_icmp_le (pc := 17) 22 d_X0_run_17 (by decide) (fun c17 => ?_) (fun c17 => ?_)
    · simp (disch := omega) only [show (nI 24).toInt = 24 from by decide, nI_toInt, ti0, ti1, tim1, tim20, tim1000] at c17
      refine V_getsB (pc := 22) d_X0_run_22 f_X0_28 ?_
      refine V_iload (pc := 25) d_X0_run_25 rfl ?_
      refine V_iconst (pc := 27) (nI 4) d_X0_run_27 (by decide) ?_
      refine V_imul (pc := 28) d_X0_run_28 ?_
      refine V_iload_n (pc := 29) d_X0_run_29 rfl ?_
      refine V_iadd (pc := 30) d_X0_run_30 ?_
      refine V_bald (pc := 31) (3) d_X0_run_31 (by decide) (by decide) ?_
      rw [show boT.getD 3 0 = nI 13 from rfl]
      refine V_istore (pc := 32) d_X0_run_32 (by decide) ?_
      refine V_getsKN (pc := 34) d_X0_run_34 f_X0_31 ?_
      refine V_iload (pc := 37) d_X0_run_37 rfl ?_
      refine V_kald (pc := 39) (0) d_X0_run_39 (by decide) (by decide) ?_
      rw [show kaT.getD 0 0 = (-1) from rfl]
      refine V_istore (pc := 40) d_X0_run_40 (by decide) ?_
      refine V_iload (pc := 42) d_X0_run_42 rfl ?_
      refine V_iconst (pc := 44) (1) d_X0_run_44 (by decide) ?_
      refine V_iadd (pc := 45) d_X0_run_45 ?_
      rw [nI_1]
      refine V_istore (pc := 46) d_X0_run_46 (by decide) ?_
      refine V_aload_n (pc := 48) d_X0_run_48 rfl ?_
      refine V_iload (pc := 49) d_X0_run_49 rfl ?_
      refine V_cvV (pc := 51) (n := 1) (c := 0) [_] d_X0_run_51 c_X0_38 k_X0_note ⟨rfl, rfl⟩ (tt_124 b) rfl (Nat.le_of_ble_eq_true rfl) ⟨Nat.le_of_ble_eq_true rfl, Nat.le_of_ble_eq_true rfl⟩ ⟨Nat.le_refl _, Nat.le_refl _⟩ (ct_X0_note (by omega) h0 ?_)
      refine V_iload (pc := 54) d_X0_run_54 rfl ?_
      refine V_lookup (pc := 56) (off := 141) 197 d_X0_run_56 (by decide) (by decide) (by decide) ?_
      refine V_aload_n (pc := 197) d_X0_run_197 rfl ?_
      refine V_aload_n (pc := 198) d_X0_run_198 rfl ?_
      refine V_aload_n (pc := 199) d_X0_run_199 rfl ?_
      refine P_getI (pc := 200) d_X0_run_200 f_X0_19 (tS b (by omega)) ?_
      simp (disch := omega) only [up2_n, up2_e, ntC_o]
      rw [hK]
      refine V_iconst (pc := 203) (1) d_X0_run_203 (by decide) ?_
      refine V_iload (pc := 204) d_X0_run_204 rfl ?_
      refine V_iload (pc := 206) d_X0_run_206 rfl ?_
      refine V_csI (pc := 208) (n := 4) [_, _, _, _, _, _] d_X0_run_208 c_X0_24 k_X0_run rfl (Nat.le_of_ble_eq_true rfl) ⟨Nat.le_of_ble_eq_true rfl, Nat.le_of_ble_eq_true rfl⟩ ⟨Nat.le_refl _, Nat.le_refl _⟩ (ct_run_2_2_1 (n := n + 1) (d := d + 1) hk (by omega) (by omega) (ntC_c h0) ((ntC_o (by omega)).trans hN) ((ntC_o (by omega)).trans hK) ((ntC_o (by omega)).trans hL) ((ntC_o (by omega)).trans hD) ?_)
      refine V_aload_n (pc := 211) d_X0_run_211 rfl ?_
      refine V_aload_n (pc := 212) d_X0_run_212 rfl ?_
      refine V_aload_n (pc := 213) d_X0_run_213 rfl ?_
      refine P_getI (pc := 214) d_X0_run_214 f_X0_19 (tS b (by omega)) ?_
      simp (disch := omega) only [up2_n, up2_e, ntC_o]
      rw [hK]
      refine V_iconst (pc := 217) (nI 2) d_X0_run_217 (by decide) ?_
      refine V_iload (pc := 218) d_X0_run_218 rfl ?_
      refine V_iload (pc := 220) d_X0_run_220 rfl ?_
      refine V_csI (pc := 222) (n := 2) [_, _, _, _, _, _] d_X0_run_222 c_X0_24 k_X0_run rfl (Nat.le_of_ble_eq_true rfl) ⟨Nat.le_of_ble_eq_true rfl, Nat.le_of_ble_eq_true rfl⟩ ⟨Nat.le_refl _, Nat.le_refl _⟩ (ct_run_2_2_2 (n := n + 1 + 4) (d := d + 1) hk (by omega) (by omega) (ntC_c (ntC_c h0)) ((ntC_o (by omega)).trans ((ntC_o (by omega)).trans hN)) ((ntC_o (by omega)).trans ((ntC_o (by omega)).trans hK)) ((ntC_o (by omega)).trans ((ntC_o (by omega)).trans hL)) ((ntC_o (by omega)).trans ((ntC_o (by omega)).trans hD)) ?_)
      refine V_ixor (pc := 225) d_X0_run_225 ?_
      exact V_retI (pc := 226) d_X0_run_226 rfl ⟨Nat.le_refl _, Nat.le_refl _⟩ (by simp only [ntC] at hq ⊢; exact hq)
    · simp (disch := omega) only [show (nI 24).toInt = 24 from by decide, nI_toInt, ti0, ti1, tim1, tim20, tim1000] at c17
      exfalso
      omega
theorem ct_run_3_0_0 {k n d : Nat} {x L D : Int32} (hk : k < 10) (hd : d + 0 ≤ 24) (hn : n + 1 ≤ 50) (h0 : σ 124 0 = nI n) (hN : σ (13 + 2 * k) 0 = nI k) (hK : σ (13 + 2 * k) 1 = (nI 3)) (hL : σ (13 + 2 * k) 2 = L) (hD : σ (13 + 2 * k) 3 = D) (hq : K (x + D) (ntC σ n [nI 10], sh b)) : CM G mX0_run (rl 2) [.ref 124, .ref (13 + 2 * k), .int 0, .int 0, .int x, .int (nI d)] (σ, sh b) (QI K) := by
  refine CM.of (by decide) (Nat.le_of_ble_eq_true rfl) (cats1 rfl) ?_
  refine V_iload_n (pc := 0) d_X0_run_0 rfl ?_
  refine V_iload_n (pc := 1) d_X0_run_1 rfl ?_
  refine V_csI (pc := 2) (n := 1) [_, _] d_X0_run_2 c_X0_34 k_X0_kindWithBody rfl (Nat.le_of_ble_eq_true rfl) ⟨Nat.le_of_ble_eq_true rfl, Nat.le_of_ble_eq_true rfl⟩ ⟨Nat.le_refl _, Nat.le_refl _⟩ (ct_kwb_0_0 ?_)
  refine V_istore (pc := 5) d_X0_run_5 (by decide) ?_
  refine V_iload (pc := 7) d_X0_run_7 rfl ?_
  refine V_iconst (pc := 9) (-1) d_X0_run_9 (by decide) ?_
  refine V_icmp_eq (pc := 10) 20 d_X0_run_10 (by decide) (fun c10 => ?_) (fun c10 => ?_)
  · exact absurd c10 (by decide)
  · refine V_iload (pc := 13) d_X0_run_13 rfl ?_
    refine V_bipush (pc := 15) (nI 24) d_X0_run_15 (by decide) ?_
    refine B_icmp_le (pc := 17) 22 d_X0_run_17 (by decide) (fun c17 => ?_) (fun c17 => ?_)
    · simp (disch := omega) only [show (nI 24).toInt = 24 from by decide, nI_toInt, ti0, ti1, tim1, tim20, tim1000] at c17
      refine V_getsB (pc := 22) d_X0_run_22 f_X0_28 ?_
      refine V_iload (pc := 25) d_X0_run_25 rfl ?_
      refine V_iconst (pc := 27) (nI 4) d_X0_run_27 (by decide) ?_
      refine V_imul (pc := 28) d_X0_run_28 ?_
      refine V_iload_n (pc := 29) d_X0_run_29 rfl ?_
      refine V_iadd (pc := 30) d_X0_run_30 ?_
      refine V_bald (pc := 31) (0) d_X0_run_31 (by decide) (by decide) ?_
      rw [show boT.getD 0 0 = nI 10 from rfl]
      refine V_istore (pc := 32) d_X0_run_32 (by decide) ?_
      refine V_getsKN (pc := 34) d_X0_run_34 f_X0_31 ?_
      refine V_iload (pc := 37) d_X0_run_37 rfl ?_
      refine V_kald (pc := 39) (0) d_X0_run_39 (by decide) (by decide) ?_
      rw [show kaT.getD 0 0 = (-1) from rfl]
      refine V_istore (pc := 40) d_X0_run_40 (by decide) ?_
      refine V_iload (pc := 42) d_X0_run_42 rfl ?_
      refine V_iconst (pc := 44) (1) d_X0_run_44 (by decide) ?_
      refine V_iadd (pc := 45) d_X0_run_45 ?_
      rw [nI_1]
      refine V_istore (pc := 46) d_X0_run_46 (by decide) ?_
      refine V_aload_n (pc := 48) d_X0_run_48 rfl ?_
      refine V_iload (pc := 49) d_X0_run_49 rfl ?_
      refine V_cvV (pc := 51) (n := 1) (c := 0) [_] d_X0_run_51 c_X0_38 k_X0_note ⟨rfl, rfl⟩ (tt_124 b) rfl (Nat.le_of_ble_eq_true rfl) ⟨Nat.le_of_ble_eq_true rfl, Nat.le_of_ble_eq_true rfl⟩ ⟨Nat.le_refl _, Nat.le_refl _⟩ (ct_X0_note (by omega) h0 ?_)
      refine V_iload (pc := 54) d_X0_run_54 rfl ?_
      refine V_lookup (pc := 56) (off := 108) 164 d_X0_run_56 (by decide) (by decide) (by decide) ?_
      refine V_iload (pc := 164) d_X0_run_164 rfl ?_
      refine V_aload_n (pc := 166) d_X0_run_166 rfl ?_
      refine P_getI (pc := 167) d_X0_run_167 f_X0_42 (tS b (by omega)) ?_
      simp (disch := omega) only [up2_n, up2_e, ntC_o]
      rw [hD]
      refine V_iadd (pc := 170) d_X0_run_170 ?_
      exact V_retI (pc := 171) d_X0_run_171 rfl ⟨Nat.le_refl _, Nat.le_refl _⟩ (by simp only [ntC] at hq ⊢; exact hq)
    · simp (disch := omega) only [show (nI 24).toInt = 24 from by decide, nI_toInt, ti0, ti1, tim1, tim20, tim1000] at c17
      exfalso
      omega
theorem ct_run_3_1_0 {k n d : Nat} {x L D : Int32} (hk : k < 10) (hd : d + 1 ≤ 24) (hn : n + 2 ≤ 50) (h0 : σ 124 0 = nI n) (hN : σ (13 + 2 * k) 0 = nI k) (hK : σ (13 + 2 * k) 1 = (nI 3)) (hL : σ (13 + 2 * k) 2 = L) (hD : σ (13 + 2 * k) 3 = D) (hq : K ((x + D) - L) (ntC σ n [nI 20, nI 10], sh b)) : CM G mX0_run (rl 3) [.ref 124, .ref (13 + 2 * k), .int 1, .int 0, .int x, .int (nI d)] (σ, sh b) (QI K) := by
  refine CM.of (by decide) (Nat.le_of_ble_eq_true rfl) (cats1 rfl) ?_
  refine V_iload_n (pc := 0) d_X0_run_0 rfl ?_
  refine V_iload_n (pc := 1) d_X0_run_1 rfl ?_
  refine V_csI (pc := 2) (n := 1) [_, _] d_X0_run_2 c_X0_34 k_X0_kindWithBody rfl (Nat.le_of_ble_eq_true rfl) ⟨Nat.le_of_ble_eq_true rfl, Nat.le_of_ble_eq_true rfl⟩ ⟨Nat.le_refl _, Nat.le_refl _⟩ (ct_kwb_1_0 ?_)
  refine V_istore (pc := 5) d_X0_run_5 (by decide) ?_
  refine V_iload (pc := 7) d_X0_run_7 rfl ?_
  refine V_iconst (pc := 9) (-1) d_X0_run_9 (by decide) ?_
  refine V_icmp_eq (pc := 10) 20 d_X0_run_10 (by decide) (fun c10 => ?_) (fun c10 => ?_)
  · exact absurd c10 (by decide)
  · refine V_iload (pc := 13) d_X0_run_13 rfl ?_
    refine V_bipush (pc := 15) (nI 24) d_X0_run_15 (by decide) ?_
    refine B_icmp_le (pc := 17) 22 d_X0_run_17 (by decide) (fun c17 => ?_) (fun c17 => ?_)
    · simp (disch := omega) only [show (nI 24).toInt = 24 from by decide, nI_toInt, ti0, ti1, tim1, tim20, tim1000] at c17
      refine V_getsB (pc := 22) d_X0_run_22 f_X0_28 ?_
      refine V_iload (pc := 25) d_X0_run_25 rfl ?_
      refine V_iconst (pc := 27) (nI 4) d_X0_run_27 (by decide) ?_
      refine V_imul (pc := 28) d_X0_run_28 ?_
      refine V_iload_n (pc := 29) d_X0_run_29 rfl ?_
      refine V_iadd (pc := 30) d_X0_run_30 ?_
      refine V_bald (pc := 31) (4) d_X0_run_31 (by decide) (by decide) ?_
      rw [show boT.getD 4 0 = nI 20 from rfl]
      refine V_istore (pc := 32) d_X0_run_32 (by decide) ?_
      refine V_getsKN (pc := 34) d_X0_run_34 f_X0_31 ?_
      refine V_iload (pc := 37) d_X0_run_37 rfl ?_
      refine V_kald (pc := 39) (1) d_X0_run_39 (by decide) (by decide) ?_
      rw [show kaT.getD 1 0 = 0 from rfl]
      refine V_istore (pc := 40) d_X0_run_40 (by decide) ?_
      refine V_iload (pc := 42) d_X0_run_42 rfl ?_
      refine V_iconst (pc := 44) (1) d_X0_run_44 (by decide) ?_
      refine V_iadd (pc := 45) d_X0_run_45 ?_
      rw [nI_1]
      refine V_istore (pc := 46) d_X0_run_46 (by decide) ?_
      refine V_aload_n (pc := 48) d_X0_run_48 rfl ?_
      refine V_iload (pc := 49) d_X0_run_49 rfl ?_
      refine V_cvV (pc := 51) (n := 1) (c := 0) [_] d_X0_run_51 c_X0_38 k_X0_note ⟨rfl, rfl⟩ (tt_124 b) rfl (Nat.le_of_ble_eq_true rfl) ⟨Nat.le_of_ble_eq_true rfl, Nat.le_of_ble_eq_true rfl⟩ ⟨Nat.le_refl _, Nat.le_refl _⟩ (ct_X0_note (by omega) h0 ?_)
      refine V_iload (pc := 54) d_X0_run_54 rfl ?_
      refine V_lookup (pc := 56) (off := 171) 227 d_X0_run_56 (by decide) (by decide) (by decide) ?_
      refine V_aload_n (pc := 227) d_X0_run_227 rfl ?_
      refine V_aload_n (pc := 228) d_X0_run_228 rfl ?_
      refine V_iload (pc := 229) d_X0_run_229 rfl ?_
      refine V_iconst (pc := 231) (0) d_X0_run_231 (by decide) ?_
      refine V_iload (pc := 232) d_X0_run_232 rfl ?_
      refine V_iload (pc := 234) d_X0_run_234 rfl ?_
      refine V_csI (pc := 236) (n := 2) [_, _, _, _, _, _] d_X0_run_236 c_X0_24 k_X0_run rfl (Nat.le_of_ble_eq_true rfl) ⟨Nat.le_of_ble_eq_true rfl, Nat.le_of_ble_eq_true rfl⟩ ⟨Nat.le_refl _, Nat.le_refl _⟩ (ct_run_3_0_0 (n := n + 1) (d := d + 1) hk (by omega) (by omega) (ntC_c h0) ((ntC_o (by omega)).trans hN) ((ntC_o (by omega)).trans hK) ((ntC_o (by omega)).trans hL) ((ntC_o (by omega)).trans hD) ?_)
      refine V_aload_n (pc := 239) d_X0_run_239 rfl ?_
      refine P_getI (pc := 240) d_X0_run_240 f_X0_48 (tS b (by omega)) ?_
      simp (disch := omega) only [up2_n, up2_e, ntC_o]
      rw [hL]
      refine V_isub (pc := 243) d_X0_run_243 ?_
      exact V_retI (pc := 244) d_X0_run_244 rfl ⟨Nat.le_refl _, Nat.le_refl _⟩ (by simp only [ntC] at hq ⊢; exact hq)
    · simp (disch := omega) only [show (nI 24).toInt = 24 from by decide, nI_toInt, ti0, ti1, tim1, tim20, tim1000] at c17
      exfalso
      omega
theorem ct_run_3_3_0 {k n d : Nat} {x L D : Int32} (hk : k < 10) (hd : d + 2 ≤ 24) (hn : n + 3 ≤ 50) (h0 : σ 124 0 = nI n) (hN : σ (13 + 2 * k) 0 = nI k) (hK : σ (13 + 2 * k) 1 = (nI 3)) (hL : σ (13 + 2 * k) 2 = L) (hD : σ (13 + 2 * k) 3 = D) (hq : K (((x + nI k) + D) - L) (ntC σ n [nI 41, nI 20, nI 10], sh b)) : CM G mX0_run (rl 4) [.ref 124, .ref (13 + 2 * k), .int (nI 3), .int 0, .int x, .int (nI d)] (σ, sh b) (QI K) := by
  refine CM.of (by decide) (Nat.le_of_ble_eq_true rfl) (cats1 rfl) ?_
  refine V_iload_n (pc := 0) d_X0_run_0 rfl ?_
  refine V_iload_n (pc := 1) d_X0_run_1 rfl ?_
  refine V_csI (pc := 2) (n := 1) [_, _] d_X0_run_2 c_X0_34 k_X0_kindWithBody rfl (Nat.le_of_ble_eq_true rfl) ⟨Nat.le_of_ble_eq_true rfl, Nat.le_of_ble_eq_true rfl⟩ ⟨Nat.le_refl _, Nat.le_refl _⟩ (ct_kwb_3_0 ?_)
  refine V_istore (pc := 5) d_X0_run_5 (by decide) ?_
  refine V_iload (pc := 7) d_X0_run_7 rfl ?_
  refine V_iconst (pc := 9) (-1) d_X0_run_9 (by decide) ?_
  refine V_icmp_eq (pc := 10) 20 d_X0_run_10 (by decide) (fun c10 => ?_) (fun c10 => ?_)
  · exact absurd c10 (by decide)
  · refine V_iload (pc := 13) d_X0_run_13 rfl ?_
    refine V_bipush (pc := 15) (nI 24) d_X0_run_15 (by decide) ?_
    refine B_icmp_le (pc := 17) 22 d_X0_run_17 (by decide) (fun c17 => ?_) (fun c17 => ?_)
    · simp (disch := omega) only [show (nI 24).toInt = 24 from by decide, nI_toInt, ti0, ti1, tim1, tim20, tim1000] at c17
      refine V_getsB (pc := 22) d_X0_run_22 f_X0_28 ?_
      refine V_iload (pc := 25) d_X0_run_25 rfl ?_
      refine V_iconst (pc := 27) (nI 4) d_X0_run_27 (by decide) ?_
      refine V_imul (pc := 28) d_X0_run_28 ?_
      refine V_iload_n (pc := 29) d_X0_run_29 rfl ?_
      refine V_iadd (pc := 30) d_X0_run_30 ?_
      refine V_bald (pc := 31) (12) d_X0_run_31 (by decide) (by decide) ?_
      rw [show boT.getD 12 0 = nI 41 from rfl]
      refine V_istore (pc := 32) d_X0_run_32 (by decide) ?_
      refine V_getsKN (pc := 34) d_X0_run_34 f_X0_31 ?_
      refine V_iload (pc := 37) d_X0_run_37 rfl ?_
      refine V_kald (pc := 39) (3) d_X0_run_39 (by decide) (by decide) ?_
      rw [show kaT.getD 3 0 = 1 from rfl]
      refine V_istore (pc := 40) d_X0_run_40 (by decide) ?_
      refine V_iload (pc := 42) d_X0_run_42 rfl ?_
      refine V_iconst (pc := 44) (1) d_X0_run_44 (by decide) ?_
      refine V_iadd (pc := 45) d_X0_run_45 ?_
      rw [nI_1]
      refine V_istore (pc := 46) d_X0_run_46 (by decide) ?_
      refine V_aload_n (pc := 48) d_X0_run_48 rfl ?_
      refine V_iload (pc := 49) d_X0_run_49 rfl ?_
      refine V_cvV (pc := 51) (n := 1) (c := 0) [_] d_X0_run_51 c_X0_38 k_X0_note ⟨rfl, rfl⟩ (tt_124 b) rfl (Nat.le_of_ble_eq_true rfl) ⟨Nat.le_of_ble_eq_true rfl, Nat.le_of_ble_eq_true rfl⟩ ⟨Nat.le_refl _, Nat.le_refl _⟩ (ct_X0_note (by omega) h0 ?_)
      refine V_iload (pc := 54) d_X0_run_54 rfl ?_
      refine V_lookup (pc := 56) (off := 249) 305 d_X0_run_56 (by decide) (by decide) (by decide) ?_
      refine V_aload_n (pc := 305) d_X0_run_305 rfl ?_
      refine V_aload_n (pc := 306) d_X0_run_306 rfl ?_
      refine V_iload (pc := 307) d_X0_run_307 rfl ?_
      refine V_iconst (pc := 309) (0) d_X0_run_309 (by decide) ?_
      refine V_iload (pc := 310) d_X0_run_310 rfl ?_
      refine V_aload_n (pc := 312) d_X0_run_312 rfl ?_
      refine P_getI (pc := 313) d_X0_run_313 f_X0_45 (tS b (by omega)) ?_
      simp (disch := omega) only [up2_n, up2_e, ntC_o]
      rw [hN]
      refine V_iadd (pc := 316) d_X0_run_316 ?_
      refine V_iload (pc := 317) d_X0_run_317 rfl ?_
      refine V_csI (pc := 319) (n := 3) [_, _, _, _, _, _] d_X0_run_319 c_X0_24 k_X0_run rfl (Nat.le_of_ble_eq_true rfl) ⟨Nat.le_of_ble_eq_true rfl, Nat.le_of_ble_eq_true rfl⟩ ⟨Nat.le_refl _, Nat.le_refl _⟩ (ct_run_3_1_0 (n := n + 1) (d := d + 1) hk (by omega) (by omega) (ntC_c h0) ((ntC_o (by omega)).trans hN) ((ntC_o (by omega)).trans hK) ((ntC_o (by omega)).trans hL) ((ntC_o (by omega)).trans hD) ?_)
      exact V_retI (pc := 322) d_X0_run_322 rfl ⟨Nat.le_refl _, Nat.le_refl _⟩ (by simp only [ntC] at hq ⊢; exact hq)
    · simp (disch := omega) only [show (nI 24).toInt = 24 from by decide, nI_toInt, ti0, ti1, tim1, tim20, tim1000] at c17
      exfalso
      omega
theorem ct_run_3_3_1 {k n d : Nat} {x L D : Int32} (hk : k < 10) (hd : d + 3 ≤ 24) (hn : n + 4 ≤ 50) (h0 : σ 124 0 = nI n) (hN : σ (13 + 2 * k) 0 = nI k) (hK : σ (13 + 2 * k) 1 = (nI 3)) (hL : σ (13 + 2 * k) 2 = L) (hD : σ (13 + 2 * k) 3 = D) (hq : K ((((x + nI k) + D) - L) * nI 2) (ntC σ n [nI 11, nI 41, nI 20, nI 10], sh b)) : CM G mX0_run (rl 5) [.ref 124, .ref (13 + 2 * k), .int (nI 3), .int 1, .int x, .int (nI d)] (σ, sh b) (QI K) := by
  refine CM.of (by decide) (Nat.le_of_ble_eq_true rfl) (cats1 rfl) ?_
  refine V_iload_n (pc := 0) d_X0_run_0 rfl ?_
  refine V_iload_n (pc := 1) d_X0_run_1 rfl ?_
  refine V_csI (pc := 2) (n := 1) [_, _] d_X0_run_2 c_X0_34 k_X0_kindWithBody rfl (Nat.le_of_ble_eq_true rfl) ⟨Nat.le_of_ble_eq_true rfl, Nat.le_of_ble_eq_true rfl⟩ ⟨Nat.le_refl _, Nat.le_refl _⟩ (ct_kwb_3_1 ?_)
  refine V_istore (pc := 5) d_X0_run_5 (by decide) ?_
  refine V_iload (pc := 7) d_X0_run_7 rfl ?_
  refine V_iconst (pc := 9) (-1) d_X0_run_9 (by decide) ?_
  refine V_icmp_eq (pc := 10) 20 d_X0_run_10 (by decide) (fun c10 => ?_) (fun c10 => ?_)
  · exact absurd c10 (by decide)
  · refine V_iload (pc := 13) d_X0_run_13 rfl ?_
    refine V_bipush (pc := 15) (nI 24) d_X0_run_15 (by decide) ?_
    refine B_icmp_le (pc := 17) 22 d_X0_run_17 (by decide) (fun c17 => ?_) (fun c17 => ?_)
    · simp (disch := omega) only [show (nI 24).toInt = 24 from by decide, nI_toInt, ti0, ti1, tim1, tim20, tim1000] at c17
      refine V_getsB (pc := 22) d_X0_run_22 f_X0_28 ?_
      refine V_iload (pc := 25) d_X0_run_25 rfl ?_
      refine V_iconst (pc := 27) (nI 4) d_X0_run_27 (by decide) ?_
      refine V_imul (pc := 28) d_X0_run_28 ?_
      refine V_iload_n (pc := 29) d_X0_run_29 rfl ?_
      refine V_iadd (pc := 30) d_X0_run_30 ?_
      refine V_bald (pc := 31) (1) d_X0_run_31 (by decide) (by decide) ?_
      rw [show boT.getD 1 0 = nI 11 from rfl]
      refine V_istore (pc := 32) d_X0_run_32 (by decide) ?_
      refine V_getsKN (pc := 34) d_X0_run_34 f_X0_31 ?_
      refine V_iload (pc := 37) d_X0_run_37 rfl ?_
      refine V_kald (pc := 39) (0) d_X0_run_39 (by decide) (by decide) ?_
      rw [show kaT.getD 0 0 = (-1) from rfl]
      refine V_istore (pc := 40) d_X0_run_40 (by decide) ?_
      refine V_iload (pc := 42) d_X0_run_42 rfl ?_
      refine V_iconst (pc := 44) (1) d_X0_run_44 (by decide) ?_
      refine V_iadd (pc := 45) d_X0_run_45 ?_
      rw [nI_1]
      refine V_istore (pc := 46) d_X0_run_46 (by decide) ?_
      refine V_aload_n (pc := 48) d_X0_run_48 rfl ?_
      refine V_iload (pc := 49) d_X0_run_49 rfl ?_
      refine V_cvV (pc := 51) (n := 1) (c := 0) [_] d_X0_run_51 c_X0_38 k_X0_note ⟨rfl, rfl⟩ (tt_124 b) rfl (Nat.le_of_ble_eq_true rfl) ⟨Nat.le_of_ble_eq_true rfl, Nat.le_of_ble_eq_true rfl⟩ ⟨Nat.le_refl _, Nat.le_refl _⟩ (ct_X0_note (by omega) h0 ?_)
      refine V_iload (pc := 54) d_X0_run_54 rfl ?_
      refine V_lookup (pc := 56) (off := 116) 172 d_X0_run_56 (by decide) (by decide) (by decide) ?_
      refine V_aload_n (pc := 172) d_X0_run_172 rfl ?_
      refine V_aload_n (pc := 173) d_X0_run_173 rfl ?_
      refine V_aload_n (pc := 174) d_X0_run_174 rfl ?_
      refine P_getI (pc := 175) d_X0_run_175 f_X0_19 (tS b (by omega)) ?_
      simp (disch := omega) only [up2_n, up2_e, ntC_o]
      rw [hK]
      refine V_iconst (pc := 178) (0) d_X0_run_178 (by decide) ?_
      refine V_iload (pc := 179) d_X0_run_179 rfl ?_
      refine V_iload (pc := 181) d_X0_run_181 rfl ?_
      refine V_csI (pc := 183) (n := 4) [_, _, _, _, _, _] d_X0_run_183 c_X0_24 k_X0_run rfl (Nat.le_of_ble_eq_true rfl) ⟨Nat.le_of_ble_eq_true rfl, Nat.le_of_ble_eq_true rfl⟩ ⟨Nat.le_refl _, Nat.le_refl _⟩ (ct_run_3_3_0 (n := n + 1) (d := d + 1) hk (by omega) (by omega) (ntC_c h0) ((ntC_o (by omega)).trans hN) ((ntC_o (by omega)).trans hK) ((ntC_o (by omega)).trans hL) ((ntC_o (by omega)).trans hD) ?_)
      refine V_iconst (pc := 186) (nI 2) d_X0_run_186 (by decide) ?_
      refine V_imul (pc := 187) d_X0_run_187 ?_
      exact V_retI (pc := 188) d_X0_run_188 rfl ⟨Nat.le_refl _, Nat.le_refl _⟩ (by simp only [ntC] at hq ⊢; exact hq)
    · simp (disch := omega) only [show (nI 24).toInt = 24 from by decide, nI_toInt, ti0, ti1, tim1, tim20, tim1000] at c17
      exfalso
      omega
theorem ct_run_3_1_2 {k n d : Nat} {x L D : Int32} (hk : k < 10) (hd : d + 0 ≤ 24) (hn : n + 1 ≤ 50) (h0 : σ 124 0 = nI n) (hN : σ (13 + 2 * k) 0 = nI k) (hK : σ (13 + 2 * k) 1 = (nI 3)) (hL : σ (13 + 2 * k) 2 = L) (hD : σ (13 + 2 * k) 3 = D) (hq : K (x - nI k) (ntC σ n [nI 12], sh b)) : CM G mX0_run (rl 2) [.ref 124, .ref (13 + 2 * k), .int 1, .int (nI 2), .int x, .int (nI d)] (σ, sh b) (QI K) := by
  refine CM.of (by decide) (Nat.le_of_ble_eq_true rfl) (cats1 rfl) ?_
  refine V_iload_n (pc := 0) d_X0_run_0 rfl ?_
  refine V_iload_n (pc := 1) d_X0_run_1 rfl ?_
  refine V_csI (pc := 2) (n := 1) [_, _] d_X0_run_2 c_X0_34 k_X0_kindWithBody rfl (Nat.le_of_ble_eq_true rfl) ⟨Nat.le_of_ble_eq_true rfl, Nat.le_of_ble_eq_true rfl⟩ ⟨Nat.le_refl _, Nat.le_refl _⟩ (ct_kwb_1_2 ?_)
  refine V_istore (pc := 5) d_X0_run_5 (by decide) ?_
  refine V_iload (pc := 7) d_X0_run_7 rfl ?_
  refine V_iconst (pc := 9) (-1) d_X0_run_9 (by decide) ?_
  refine V_icmp_eq (pc := 10) 20 d_X0_run_10 (by decide) (fun c10 => ?_) (fun c10 => ?_)
  · exact absurd c10 (by decide)
  · refine V_iload (pc := 13) d_X0_run_13 rfl ?_
    refine V_bipush (pc := 15) (nI 24) d_X0_run_15 (by decide) ?_
    refine B_icmp_le (pc := 17) 22 d_X0_run_17 (by decide) (fun c17 => ?_) (fun c17 => ?_)
    · simp (disch := omega) only [show (nI 24).toInt = 24 from by decide, nI_toInt, ti0, ti1, tim1, tim20, tim1000] at c17
      refine V_getsB (pc := 22) d_X0_run_22 f_X0_28 ?_
      refine V_iload (pc := 25) d_X0_run_25 rfl ?_
      refine V_iconst (pc := 27) (nI 4) d_X0_run_27 (by decide) ?_
      refine V_imul (pc := 28) d_X0_run_28 ?_
      refine V_iload_n (pc := 29) d_X0_run_29 rfl ?_
      refine V_iadd (pc := 30) d_X0_run_30 ?_
      refine V_bald (pc := 31) (2) d_X0_run_31 (by decide) (by decide) ?_
      rw [show boT.getD 2 0 = nI 12 from rfl]
      refine V_istore (pc := 32) d_X0_run_32 (by decide) ?_
      refine V_getsKN (pc := 34) d_X0_run_34 f_X0_31 ?_
      refine V_iload (pc := 37) d_X0_run_37 rfl ?_
      refine V_kald (pc := 39) (0) d_X0_run_39 (by decide) (by decide) ?_
      rw [show kaT.getD 0 0 = (-1) from rfl]
      refine V_istore (pc := 40) d_X0_run_40 (by decide) ?_
      refine V_iload (pc := 42) d_X0_run_42 rfl ?_
      refine V_iconst (pc := 44) (1) d_X0_run_44 (by decide) ?_
      refine V_iadd (pc := 45) d_X0_run_45 ?_
      rw [nI_1]
      refine V_istore (pc := 46) d_X0_run_46 (by decide) ?_
      refine V_aload_n (pc := 48) d_X0_run_48 rfl ?_
      refine V_iload (pc := 49) d_X0_run_49 rfl ?_
      refine V_cvV (pc := 51) (n := 1) (c := 0) [_] d_X0_run_51 c_X0_38 k_X0_note ⟨rfl, rfl⟩ (tt_124 b) rfl (Nat.le_of_ble_eq_true rfl) ⟨Nat.le_of_ble_eq_true rfl, Nat.le_of_ble_eq_true rfl⟩ ⟨Nat.le_refl _, Nat.le_refl _⟩ (ct_X0_note (by omega) h0 ?_)
      refine V_iload (pc := 54) d_X0_run_54 rfl ?_
      refine V_lookup (pc := 56) (off := 133) 189 d_X0_run_56 (by decide) (by decide) (by decide) ?_
      refine V_iload (pc := 189) d_X0_run_189 rfl ?_
      refine V_aload_n (pc := 191) d_X0_run_191 rfl ?_
      refine P_getI (pc := 192) d_X0_run_192 f_X0_45 (tS b (by omega)) ?_
      simp (disch := omega) only [up2_n, up2_e, ntC_o]
      rw [hN]
      refine V_isub (pc := 195) d_X0_run_195 ?_
      exact V_retI (pc := 196) d_X0_run_196 rfl ⟨Nat.le_refl _, Nat.le_refl _⟩ (by simp only [ntC] at hq ⊢; exact hq)
    · simp (disch := omega) only [show (nI 24).toInt = 24 from by decide, nI_toInt, ti0, ti1, tim1, tim20, tim1000] at c17
      exfalso
      omega
theorem ct_run_3_3_2 {k n d : Nat} {x L D : Int32} (hk : k < 10) (hd : d + 1 ≤ 24) (hn : n + 2 ≤ 50) (h0 : σ 124 0 = nI n) (hN : σ (13 + 2 * k) 0 = nI k) (hK : σ (13 + 2 * k) 1 = (nI 3)) (hL : σ (13 + 2 * k) 2 = L) (hD : σ (13 + 2 * k) 3 = D) (hq : K ((x - nI k) * nI 3) (ntC σ n [nI 40, nI 12], sh b)) : CM G mX0_run (rl 3) [.ref 124, .ref (13 + 2 * k), .int (nI 3), .int (nI 2), .int x, .int (nI d)] (σ, sh b) (QI K) := by
  refine CM.of (by decide) (Nat.le_of_ble_eq_true rfl) (cats1 rfl) ?_
  refine V_iload_n (pc := 0) d_X0_run_0 rfl ?_
  refine V_iload_n (pc := 1) d_X0_run_1 rfl ?_
  refine V_csI (pc := 2) (n := 1) [_, _] d_X0_run_2 c_X0_34 k_X0_kindWithBody rfl (Nat.le_of_ble_eq_true rfl) ⟨Nat.le_of_ble_eq_true rfl, Nat.le_of_ble_eq_true rfl⟩ ⟨Nat.le_refl _, Nat.le_refl _⟩ (ct_kwb_3_2 ?_)
  refine V_istore (pc := 5) d_X0_run_5 (by decide) ?_
  refine V_iload (pc := 7) d_X0_run_7 rfl ?_
  refine V_iconst (pc := 9) (-1) d_X0_run_9 (by decide) ?_
  refine V_icmp_eq (pc := 10) 20 d_X0_run_10 (by decide) (fun c10 => ?_) (fun c10 => ?_)
  · exact absurd c10 (by decide)
  · refine V_iload (pc := 13) d_X0_run_13 rfl ?_
    refine V_bipush (pc := 15) (nI 24) d_X0_run_15 (by decide) ?_
    refine B_icmp_le (pc := 17) 22 d_X0_run_17 (by decide) (fun c17 => ?_) (fun c17 => ?_)
    · simp (disch := omega) only [show (nI 24).toInt = 24 from by decide, nI_toInt, ti0, ti1, tim1, tim20, tim1000] at c17
      refine V_getsB (pc := 22) d_X0_run_22 f_X0_28 ?_
      refine V_iload (pc := 25) d_X0_run_25 rfl ?_
      refine V_iconst (pc := 27) (nI 4) d_X0_run_27 (by decide) ?_
      refine V_imul (pc := 28) d_X0_run_28 ?_
      refine V_iload_n (pc := 29) d_X0_run_29 rfl ?_
      refine V_iadd (pc := 30) d_X0_run_30 ?_
      refine V_bald (pc := 31) (14) d_X0_run_31 (by decide) (by decide) ?_
      rw [show boT.getD 14 0 = nI 40 from rfl]
      refine V_istore (pc := 32) d_X0_run_32 (by decide) ?_
      refine V_getsKN (pc := 34) d_X0_run_34 f_X0_31 ?_
      refine V_iload (pc := 37) d_X0_run_37 rfl ?_
      refine V_kald (pc := 39) (3) d_X0_run_39 (by decide) (by decide) ?_
      rw [show kaT.getD 3 0 = 1 from rfl]
      refine V_istore (pc := 40) d_X0_run_40 (by decide) ?_
      refine V_iload (pc := 42) d_X0_run_42 rfl ?_
      refine V_iconst (pc := 44) (1) d_X0_run_44 (by decide) ?_
      refine V_iadd (pc := 45) d_X0_run_45 ?_
      rw [nI_1]
      refine V_istore (pc := 46) d_X0_run_46 (by decide) ?_
      refine V_aload_n (pc := 48) d_X0_run_48 rfl ?_
      refine V_iload (pc := 49) d_X0_run_49 rfl ?_
      refine V_cvV (pc := 51) (n := 1) (c := 0) [_] d_X0_run_51 c_X0_38 k_X0_note ⟨rfl, rfl⟩ (tt_124 b) rfl (Nat.le_of_ble_eq_true rfl) ⟨Nat.le_of_ble_eq_true rfl, Nat.le_of_ble_eq_true rfl⟩ ⟨Nat.le_refl _, Nat.le_refl _⟩ (ct_X0_note (by omega) h0 ?_)
      refine V_iload (pc := 54) d_X0_run_54 rfl ?_
      refine V_lookup (pc := 56) (off := 234) 290 d_X0_run_56 (by decide) (by decide) (by decide) ?_
      refine V_aload_n (pc := 290) d_X0_run_290 rfl ?_
      refine V_aload_n (pc := 291) d_X0_run_291 rfl ?_
      refine V_iload (pc := 292) d_X0_run_292 rfl ?_
      refine V_iconst (pc := 294) (nI 2) d_X0_run_294 (by decide) ?_
      refine V_iload (pc := 295) d_X0_run_295 rfl ?_
      refine V_iload (pc := 297) d_X0_run_297 rfl ?_
      refine V_csI (pc := 299) (n := 2) [_, _, _, _, _, _] d_X0_run_299 c_X0_24 k_X0_run rfl (Nat.le_of_ble_eq_true rfl) ⟨Nat.le_of_ble_eq_true rfl, Nat.le_of_ble_eq_true rfl⟩ ⟨Nat.le_refl _, Nat.le_refl _⟩ (ct_run_3_1_2 (n := n + 1) (d := d + 1) hk (by omega) (by omega) (ntC_c h0) ((ntC_o (by omega)).trans hN) ((ntC_o (by omega)).trans hK) ((ntC_o (by omega)).trans hL) ((ntC_o (by omega)).trans hD) ?_)
      refine V_iconst (pc := 302) (nI 3) d_X0_run_302 (by decide) ?_
      refine V_imul (pc := 303) d_X0_run_303 ?_
      exact V_retI (pc := 304) d_X0_run_304 rfl ⟨Nat.le_refl _, Nat.le_refl _⟩ (by simp only [ntC] at hq ⊢; exact hq)
    · simp (disch := omega) only [show (nI 24).toInt = 24 from by decide, nI_toInt, ti0, ti1, tim1, tim20, tim1000] at c17
      exfalso
      omega
theorem ct_run_3_0_3 {k n d : Nat} {x L D : Int32} (hk : k < 10) (hd : d + 4 ≤ 24) (hn : n + 7 ≤ 50) (h0 : σ 124 0 = nI n) (hN : σ (13 + 2 * k) 0 = nI k) (hK : σ (13 + 2 * k) 1 = (nI 3)) (hL : σ (13 + 2 * k) 2 = L) (hD : σ (13 + 2 * k) 3 = D) (hq : K (((((x + nI k) + D) - L) * nI 2) ^^^ ((x - nI k) * nI 3)) (ntC σ n [nI 13, nI 11, nI 41, nI 20, nI 10, nI 40, nI 12], sh b)) : CM G mX0_run (rl 6) [.ref 124, .ref (13 + 2 * k), .int 0, .int (nI 3), .int x, .int (nI d)] (σ, sh b) (QI K) := by
  refine CM.of (by decide) (Nat.le_of_ble_eq_true rfl) (cats1 rfl) ?_
  refine V_iload_n (pc := 0) d_X0_run_0 rfl ?_
  refine V_iload_n (pc := 1) d_X0_run_1 rfl ?_
  refine V_csI (pc := 2) (n := 1) [_, _] d_X0_run_2 c_X0_34 k_X0_kindWithBody rfl (Nat.le_of_ble_eq_true rfl) ⟨Nat.le_of_ble_eq_true rfl, Nat.le_of_ble_eq_true rfl⟩ ⟨Nat.le_refl _, Nat.le_refl _⟩ (ct_kwb_0_3 ?_)
  refine V_istore (pc := 5) d_X0_run_5 (by decide) ?_
  refine V_iload (pc := 7) d_X0_run_7 rfl ?_
  refine V_iconst (pc := 9) (-1) d_X0_run_9 (by decide) ?_
  refine V_icmp_eq (pc := 10) 20 d_X0_run_10 (by decide) (fun c10 => ?_) (fun c10 => ?_)
  · exact absurd c10 (by decide)
  · refine V_iload (pc := 13) d_X0_run_13 rfl ?_
    refine V_bipush (pc := 15) (nI 24) d_X0_run_15 (by decide) ?_
    refine B_icmp_le (pc := 17) 22 d_X0_run_17 (by decide) (fun c17 => ?_) (fun c17 => ?_)
    · simp (disch := omega) only [show (nI 24).toInt = 24 from by decide, nI_toInt, ti0, ti1, tim1, tim20, tim1000] at c17
      refine V_getsB (pc := 22) d_X0_run_22 f_X0_28 ?_
      refine V_iload (pc := 25) d_X0_run_25 rfl ?_
      refine V_iconst (pc := 27) (nI 4) d_X0_run_27 (by decide) ?_
      refine V_imul (pc := 28) d_X0_run_28 ?_
      refine V_iload_n (pc := 29) d_X0_run_29 rfl ?_
      refine V_iadd (pc := 30) d_X0_run_30 ?_
      refine V_bald (pc := 31) (3) d_X0_run_31 (by decide) (by decide) ?_
      rw [show boT.getD 3 0 = nI 13 from rfl]
      refine V_istore (pc := 32) d_X0_run_32 (by decide) ?_
      refine V_getsKN (pc := 34) d_X0_run_34 f_X0_31 ?_
      refine V_iload (pc := 37) d_X0_run_37 rfl ?_
      refine V_kald (pc := 39) (0) d_X0_run_39 (by decide) (by decide) ?_
      rw [show kaT.getD 0 0 = (-1) from rfl]
      refine V_istore (pc := 40) d_X0_run_40 (by decide) ?_
      refine V_iload (pc := 42) d_X0_run_42 rfl ?_
      refine V_iconst (pc := 44) (1) d_X0_run_44 (by decide) ?_
      refine V_iadd (pc := 45) d_X0_run_45 ?_
      rw [nI_1]
      refine V_istore (pc := 46) d_X0_run_46 (by decide) ?_
      refine V_aload_n (pc := 48) d_X0_run_48 rfl ?_
      refine V_iload (pc := 49) d_X0_run_49 rfl ?_
      refine V_cvV (pc := 51) (n := 1) (c := 0) [_] d_X0_run_51 c_X0_38 k_X0_note ⟨rfl, rfl⟩ (tt_124 b) rfl (Nat.le_of_ble_eq_true rfl) ⟨Nat.le_of_ble_eq_true rfl, Nat.le_of_ble_eq_true rfl⟩ ⟨Nat.le_refl _, Nat.le_refl _⟩ (ct_X0_note (by omega) h0 ?_)
      refine V_iload (pc := 54) d_X0_run_54 rfl ?_
      refine V_lookup (pc := 56) (off := 141) 197 d_X0_run_56 (by decide) (by decide) (by decide) ?_
      refine V_aload_n (pc := 197) d_X0_run_197 rfl ?_
      refine V_aload_n (pc := 198) d_X0_run_198 rfl ?_
      refine V_aload_n (pc := 199) d_X0_run_199 rfl ?_
      refine P_getI (pc := 200) d_X0_run_200 f_X0_19 (tS b (by omega)) ?_
      simp (disch := omega) only [up2_n, up2_e, ntC_o]
      rw [hK]
      refine V_iconst (pc := 203) (1) d_X0_run_203 (by decide) ?_
      refine V_iload (pc := 204) d_X0_run_204 rfl ?_
      refine V_iload (pc := 206) d_X0_run_206 rfl ?_
      refine V_csI (pc := 208) (n := 5) [_, _, _, _, _, _] d_X0_run_208 c_X0_24 k_X0_run rfl (Nat.le_of_ble_eq_true rfl) ⟨Nat.le_of_ble_eq_true rfl, Nat.le_of_ble_eq_true rfl⟩ ⟨Nat.le_refl _, Nat.le_refl _⟩ (ct_run_3_3_1 (n := n + 1) (d := d + 1) hk (by omega) (by omega) (ntC_c h0) ((ntC_o (by omega)).trans hN) ((ntC_o (by omega)).trans hK) ((ntC_o (by omega)).trans hL) ((ntC_o (by omega)).trans hD) ?_)
      refine V_aload_n (pc := 211) d_X0_run_211 rfl ?_
      refine V_aload_n (pc := 212) d_X0_run_212 rfl ?_
      refine V_aload_n (pc := 213) d_X0_run_213 rfl ?_
      refine P_getI (pc := 214) d_X0_run_214 f_X0_19 (tS b (by omega)) ?_
      simp (disch := omega) only [up2_n, up2_e, ntC_o]
      rw [hK]
      refine V_iconst (pc := 217) (nI 2) d_X0_run_217 (by decide) ?_
      refine V_iload (pc := 218) d_X0_run_218 rfl ?_
      refine V_iload (pc := 220) d_X0_run_220 rfl ?_
      refine V_csI (pc := 222) (n := 3) [_, _, _, _, _, _] d_X0_run_222 c_X0_24 k_X0_run rfl (Nat.le_of_ble_eq_true rfl) ⟨Nat.le_of_ble_eq_true rfl, Nat.le_of_ble_eq_true rfl⟩ ⟨Nat.le_refl _, Nat.le_refl _⟩ (ct_run_3_3_2 (n := n + 1 + 4) (d := d + 1) hk (by omega) (by omega) (ntC_c (ntC_c h0)) ((ntC_o (by omega)).trans ((ntC_o (by omega)).trans hN)) ((ntC_o (by omega)).trans ((ntC_o (by omega)).trans hK)) ((ntC_o (by omega)).trans ((ntC_o (by omega)).trans hL)) ((ntC_o (by omega)).trans ((ntC_o (by omega)).trans hD)) ?_)
      refine V_ixor (pc := 225) d_X0_run_225 ?_
      exact V_retI (pc := 226) d_X0_run_226 rfl ⟨Nat.le_refl _, Nat.le_refl _⟩ (by simp only [ntC] at hq ⊢; exact hq)
    · simp (disch := omega) only [show (nI 24).toInt = 24 from by decide, nI_toInt, ti0, ti1, tim1, tim20, tim1000] at c17
      exfalso
      omega
theorem ct_run_3_3_3 {k n d : Nat} {x L D : Int32} (hk : k < 10) (hd : d + 5 ≤ 24) (hn : n + 8 ≤ 50) (h0 : σ 124 0 = nI n) (hN : σ (13 + 2 * k) 0 = nI k) (hK : σ (13 + 2 * k) 1 = (nI 3)) (hL : σ (13 + 2 * k) 2 = L) (hD : σ (13 + 2 * k) 3 = D) (hq : K ((((((x + 1) + nI k) + D) - L) * nI 2) ^^^ (((x + 1) - nI k) * nI 3)) (ntC σ n [nI 21, nI 13, nI 11, nI 41, nI 20, nI 10, nI 40, nI 12], sh b)) : CM G mX0_run (rl 7) [.ref 124, .ref (13 + 2 * k), .int (nI 3), .int (nI 3), .int x, .int (nI d)] (σ, sh b) (QI K) := by
  refine CM.of (by decide) (Nat.le_of_ble_eq_true rfl) (cats1 rfl) ?_
  refine V_iload_n (pc := 0) d_X0_run_0 rfl ?_
  refine V_iload_n (pc := 1) d_X0_run_1 rfl ?_
  refine V_csI (pc := 2) (n := 1) [_, _] d_X0_run_2 c_X0_34 k_X0_kindWithBody rfl (Nat.le_of_ble_eq_true rfl) ⟨Nat.le_of_ble_eq_true rfl, Nat.le_of_ble_eq_true rfl⟩ ⟨Nat.le_refl _, Nat.le_refl _⟩ (ct_kwb_3_3 ?_)
  refine V_istore (pc := 5) d_X0_run_5 (by decide) ?_
  refine V_iload (pc := 7) d_X0_run_7 rfl ?_
  refine V_iconst (pc := 9) (-1) d_X0_run_9 (by decide) ?_
  refine V_icmp_eq (pc := 10) 20 d_X0_run_10 (by decide) (fun c10 => ?_) (fun c10 => ?_)
  · exact absurd c10 (by decide)
  · refine V_iload (pc := 13) d_X0_run_13 rfl ?_
    refine V_bipush (pc := 15) (nI 24) d_X0_run_15 (by decide) ?_
    refine B_icmp_le (pc := 17) 22 d_X0_run_17 (by decide) (fun c17 => ?_) (fun c17 => ?_)
    · simp (disch := omega) only [show (nI 24).toInt = 24 from by decide, nI_toInt, ti0, ti1, tim1, tim20, tim1000] at c17
      refine V_getsB (pc := 22) d_X0_run_22 f_X0_28 ?_
      refine V_iload (pc := 25) d_X0_run_25 rfl ?_
      refine V_iconst (pc := 27) (nI 4) d_X0_run_27 (by decide) ?_
      refine V_imul (pc := 28) d_X0_run_28 ?_
      refine V_iload_n (pc := 29) d_X0_run_29 rfl ?_
      refine V_iadd (pc := 30) d_X0_run_30 ?_
      refine V_bald (pc := 31) (7) d_X0_run_31 (by decide) (by decide) ?_
      rw [show boT.getD 7 0 = nI 21 from rfl]
      refine V_istore (pc := 32) d_X0_run_32 (by decide) ?_
      refine V_getsKN (pc := 34) d_X0_run_34 f_X0_31 ?_
      refine V_iload (pc := 37) d_X0_run_37 rfl ?_
      refine V_kald (pc := 39) (1) d_X0_run_39 (by decide) (by decide) ?_
      rw [show kaT.getD 1 0 = 0 from rfl]
      refine V_istore (pc := 40) d_X0_run_40 (by decide) ?_
      refine V_iload (pc := 42) d_X0_run_42 rfl ?_
      refine V_iconst (pc := 44) (1) d_X0_run_44 (by decide) ?_
      refine V_iadd (pc := 45) d_X0_run_45 ?_
      rw [nI_1]
      refine V_istore (pc := 46) d_X0_run_46 (by decide) ?_
      refine V_aload_n (pc := 48) d_X0_run_48 rfl ?_
      refine V_iload (pc := 49) d_X0_run_49 rfl ?_
      refine V_cvV (pc := 51) (n := 1) (c := 0) [_] d_X0_run_51 c_X0_38 k_X0_note ⟨rfl, rfl⟩ (tt_124 b) rfl (Nat.le_of_ble_eq_true rfl) ⟨Nat.le_of_ble_eq_true rfl, Nat.le_of_ble_eq_true rfl⟩ ⟨Nat.le_refl _, Nat.le_refl _⟩ (ct_X0_note (by omega) h0 ?_)
      refine V_iload (pc := 54) d_X0_run_54 rfl ?_
      refine V_lookup (pc := 56) (off := 189) 245 d_X0_run_56 (by decide) (by decide) (by decide) ?_
      refine V_aload_n (pc := 245) d_X0_run_245 rfl ?_
      refine V_aload_n (pc := 246) d_X0_run_246 rfl ?_
      refine V_iload (pc := 247) d_X0_run_247 rfl ?_
      refine V_iconst (pc := 249) (nI 3) d_X0_run_249 (by decide) ?_
      refine V_iload (pc := 250) d_X0_run_250 rfl ?_
      refine V_iconst (pc := 252) (1) d_X0_run_252 (by decide) ?_
      refine V_iadd (pc := 253) d_X0_run_253 ?_
      refine V_iload (pc := 254) d_X0_run_254 rfl ?_
      refine V_csI (pc := 256) (n := 6) [_, _, _, _, _, _] d_X0_run_256 c_X0_24 k_X0_run rfl (Nat.le_of_ble_eq_true rfl) ⟨Nat.le_of_ble_eq_true rfl, Nat.le_of_ble_eq_true rfl⟩ ⟨Nat.le_refl _, Nat.le_refl _⟩ (ct_run_3_0_3 (n := n + 1) (d := d + 1) hk (by omega) (by omega) (ntC_c h0) ((ntC_o (by omega)).trans hN) ((ntC_o (by omega)).trans hK) ((ntC_o (by omega)).trans hL) ((ntC_o (by omega)).trans hD) ?_)
      exact V_retI (pc := 259) d_X0_run_259 rfl ⟨Nat.le_refl _, Nat.le_refl _⟩ (by simp only [ntC] at hq ⊢; exact hq)
    · simp (disch := omega) only [show (nI 24).toInt = 24 from by decide, nI_toInt, ti0, ti1, tim1, tim20, tim1000] at c17
      exfalso
      omega
theorem ct_run_4_4_0 {k n d : Nat} {x L D : Int32} (hk : k < 10) (hd : d + 0 ≤ 24) (hn : n + 1 ≤ 50) (h0 : σ 124 0 = nI n) (hN : σ (13 + 2 * k) 0 = nI k) (hK : σ (13 + 2 * k) 1 = (nI 4)) (hL : σ (13 + 2 * k) 2 = L) (hD : σ (13 + 2 * k) 3 = D) (hq : K (x + D) (ntC σ n [nI 10], sh b)) : CM G mX0_run (rl 2) [.ref 124, .ref (13 + 2 * k), .int (nI 4), .int 0, .int x, .int (nI d)] (σ, sh b) (QI K) := by
  refine CM.of (by decide) (Nat.le_of_ble_eq_true rfl) (cats1 rfl) ?_
  refine V_iload_n (pc := 0) d_X0_run_0 rfl ?_
  refine V_iload_n (pc := 1) d_X0_run_1 rfl ?_
  refine V_csI (pc := 2) (n := 1) [_, _] d_X0_run_2 c_X0_34 k_X0_kindWithBody rfl (Nat.le_of_ble_eq_true rfl) ⟨Nat.le_of_ble_eq_true rfl, Nat.le_of_ble_eq_true rfl⟩ ⟨Nat.le_refl _, Nat.le_refl _⟩ (ct_kwb_4_0 ?_)
  refine V_istore (pc := 5) d_X0_run_5 (by decide) ?_
  refine V_iload (pc := 7) d_X0_run_7 rfl ?_
  refine V_iconst (pc := 9) (-1) d_X0_run_9 (by decide) ?_
  refine V_icmp_eq (pc := 10) 20 d_X0_run_10 (by decide) (fun c10 => ?_) (fun c10 => ?_)
  · exact absurd c10 (by decide)
  · refine V_iload (pc := 13) d_X0_run_13 rfl ?_
    refine V_bipush (pc := 15) (nI 24) d_X0_run_15 (by decide) ?_
    refine B_icmp_le (pc := 17) 22 d_X0_run_17 (by decide) (fun c17 => ?_) (fun c17 => ?_)
    · simp (disch := omega) only [show (nI 24).toInt = 24 from by decide, nI_toInt, ti0, ti1, tim1, tim20, tim1000] at c17
      refine V_getsB (pc := 22) d_X0_run_22 f_X0_28 ?_
      refine V_iload (pc := 25) d_X0_run_25 rfl ?_
      refine V_iconst (pc := 27) (nI 4) d_X0_run_27 (by decide) ?_
      refine V_imul (pc := 28) d_X0_run_28 ?_
      refine V_iload_n (pc := 29) d_X0_run_29 rfl ?_
      refine V_iadd (pc := 30) d_X0_run_30 ?_
      refine V_bald (pc := 31) (0) d_X0_run_31 (by decide) (by decide) ?_
      rw [show boT.getD 0 0 = nI 10 from rfl]
      refine V_istore (pc := 32) d_X0_run_32 (by decide) ?_
      refine V_getsKN (pc := 34) d_X0_run_34 f_X0_31 ?_
      refine V_iload (pc := 37) d_X0_run_37 rfl ?_
      refine V_kald (pc := 39) (0) d_X0_run_39 (by decide) (by decide) ?_
      rw [show kaT.getD 0 0 = (-1) from rfl]
      refine V_istore (pc := 40) d_X0_run_40 (by decide) ?_
      refine V_iload (pc := 42) d_X0_run_42 rfl ?_
      refine V_iconst (pc := 44) (1) d_X0_run_44 (by decide) ?_
      refine V_iadd (pc := 45) d_X0_run_45 ?_
      rw [nI_1]
      refine V_istore (pc := 46) d_X0_run_46 (by decide) ?_
      refine V_aload_n (pc := 48) d_X0_run_48 rfl ?_
      refine V_iload (pc := 49) d_X0_run_49 rfl ?_
      refine V_cvV (pc := 51) (n := 1) (c := 0) [_] d_X0_run_51 c_X0_38 k_X0_note ⟨rfl, rfl⟩ (tt_124 b) rfl (Nat.le_of_ble_eq_true rfl) ⟨Nat.le_of_ble_eq_true rfl, Nat.le_of_ble_eq_true rfl⟩ ⟨Nat.le_refl _, Nat.le_refl _⟩ (ct_X0_note (by omega) h0 ?_)
      refine V_iload (pc := 54) d_X0_run_54 rfl ?_
      refine V_lookup (pc := 56) (off := 108) 164 d_X0_run_56 (by decide) (by decide) (by decide) ?_
      refine V_iload (pc := 164) d_X0_run_164 rfl ?_
      refine V_aload_n (pc := 166) d_X0_run_166 rfl ?_
      refine P_getI (pc := 167) d_X0_run_167 f_X0_42 (tS b (by omega)) ?_
      simp (disch := omega) only [up2_n, up2_e, ntC_o]
      rw [hD]
      refine V_iadd (pc := 170) d_X0_run_170 ?_
      exact V_retI (pc := 171) d_X0_run_171 rfl ⟨Nat.le_refl _, Nat.le_refl _⟩ (by simp only [ntC] at hq ⊢; exact hq)
    · simp (disch := omega) only [show (nI 24).toInt = 24 from by decide, nI_toInt, ti0, ti1, tim1, tim20, tim1000] at c17
      exfalso
      omega
theorem ct_run_4_0_1 {k n d : Nat} {x L D : Int32} (hk : k < 10) (hd : d + 1 ≤ 24) (hn : n + 2 ≤ 50) (h0 : σ 124 0 = nI n) (hN : σ (13 + 2 * k) 0 = nI k) (hK : σ (13 + 2 * k) 1 = (nI 4)) (hL : σ (13 + 2 * k) 2 = L) (hD : σ (13 + 2 * k) 3 = D) (hq : K ((x + D) * nI 2) (ntC σ n [nI 11, nI 10], sh b)) : CM G mX0_run (rl 3) [.ref 124, .ref (13 + 2 * k), .int 0, .int 1, .int x, .int (nI d)] (σ, sh b) (QI K) := by
  refine CM.of (by decide) (Nat.le_of_ble_eq_true rfl) (cats1 rfl) ?_
  refine V_iload_n (pc := 0) d_X0_run_0 rfl ?_
  refine V_iload_n (pc := 1) d_X0_run_1 rfl ?_
  refine V_csI (pc := 2) (n := 1) [_, _] d_X0_run_2 c_X0_34 k_X0_kindWithBody rfl (Nat.le_of_ble_eq_true rfl) ⟨Nat.le_of_ble_eq_true rfl, Nat.le_of_ble_eq_true rfl⟩ ⟨Nat.le_refl _, Nat.le_refl _⟩ (ct_kwb_0_1 ?_)
  refine V_istore (pc := 5) d_X0_run_5 (by decide) ?_
  refine V_iload (pc := 7) d_X0_run_7 rfl ?_
  refine V_iconst (pc := 9) (-1) d_X0_run_9 (by decide) ?_
  refine V_icmp_eq (pc := 10) 20 d_X0_run_10 (by decide) (fun c10 => ?_) (fun c10 => ?_)
  · exact absurd c10 (by decide)
  · refine V_iload (pc := 13) d_X0_run_13 rfl ?_
    refine V_bipush (pc := 15) (nI 24) d_X0_run_15 (by decide) ?_
    refine B_icmp_le (pc := 17) 22 d_X0_run_17 (by decide) (fun c17 => ?_) (fun c17 => ?_)
    · simp (disch := omega) only [show (nI 24).toInt = 24 from by decide, nI_toInt, ti0, ti1, tim1, tim20, tim1000] at c17
      refine V_getsB (pc := 22) d_X0_run_22 f_X0_28 ?_
      refine V_iload (pc := 25) d_X0_run_25 rfl ?_
      refine V_iconst (pc := 27) (nI 4) d_X0_run_27 (by decide) ?_
      refine V_imul (pc := 28) d_X0_run_28 ?_
      refine V_iload_n (pc := 29) d_X0_run_29 rfl ?_
      refine V_iadd (pc := 30) d_X0_run_30 ?_
      refine V_bald (pc := 31) (1) d_X0_run_31 (by decide) (by decide) ?_
      rw [show boT.getD 1 0 = nI 11 from rfl]
      refine V_istore (pc := 32) d_X0_run_32 (by decide) ?_
      refine V_getsKN (pc := 34) d_X0_run_34 f_X0_31 ?_
      refine V_iload (pc := 37) d_X0_run_37 rfl ?_
      refine V_kald (pc := 39) (0) d_X0_run_39 (by decide) (by decide) ?_
      rw [show kaT.getD 0 0 = (-1) from rfl]
      refine V_istore (pc := 40) d_X0_run_40 (by decide) ?_
      refine V_iload (pc := 42) d_X0_run_42 rfl ?_
      refine V_iconst (pc := 44) (1) d_X0_run_44 (by decide) ?_
      refine V_iadd (pc := 45) d_X0_run_45 ?_
      rw [nI_1]
      refine V_istore (pc := 46) d_X0_run_46 (by decide) ?_
      refine V_aload_n (pc := 48) d_X0_run_48 rfl ?_
      refine V_iload (pc := 49) d_X0_run_49 rfl ?_
      refine V_cvV (pc := 51) (n := 1) (c := 0) [_] d_X0_run_51 c_X0_38 k_X0_note ⟨rfl, rfl⟩ (tt_124 b) rfl (Nat.le_of_ble_eq_true rfl) ⟨Nat.le_of_ble_eq_true rfl, Nat.le_of_ble_eq_true rfl⟩ ⟨Nat.le_refl _, Nat.le_refl _⟩ (ct_X0_note (by omega) h0 ?_)
      refine V_iload (pc := 54) d_X0_run_54 rfl ?_
      refine V_lookup (pc := 56) (off := 116) 172 d_X0_run_56 (by decide) (by decide) (by decide) ?_
      refine V_aload_n (pc := 172) d_X0_run_172 rfl ?_
      refine V_aload_n (pc := 173) d_X0_run_173 rfl ?_
      refine V_aload_n (pc := 174) d_X0_run_174 rfl ?_
      refine P_getI (pc := 175) d_X0_run_175 f_X0_19 (tS b (by omega)) ?_
      simp (disch := omega) only [up2_n, up2_e, ntC_o]
      rw [hK]
      refine V_iconst (pc := 178) (0) d_X0_run_178 (by decide) ?_
      refine V_iload (pc := 179) d_X0_run_179 rfl ?_
      refine V_iload (pc := 181) d_X0_run_181 rfl ?_
      refine V_csI (pc := 183) (n := 2) [_, _, _, _, _, _] d_X0_run_183 c_X0_24 k_X0_run rfl (Nat.le_of_ble_eq_true rfl) ⟨Nat.le_of_ble_eq_true rfl, Nat.le_of_ble_eq_true rfl⟩ ⟨Nat.le_refl _, Nat.le_refl _⟩ (ct_run_4_4_0 (n := n + 1) (d := d + 1) hk (by omega) (by omega) (ntC_c h0) ((ntC_o (by omega)).trans hN) ((ntC_o (by omega)).trans hK) ((ntC_o (by omega)).trans hL) ((ntC_o (by omega)).trans hD) ?_)
      refine V_iconst (pc := 186) (nI 2) d_X0_run_186 (by decide) ?_
      refine V_imul (pc := 187) d_X0_run_187 ?_
      exact V_retI (pc := 188) d_X0_run_188 rfl ⟨Nat.le_refl _, Nat.le_refl _⟩ (by simp only [ntC] at hq ⊢; exact hq)
    · simp (disch := omega) only [show (nI 24).toInt = 24 from by decide, nI_toInt, ti0, ti1, tim1, tim20, tim1000] at c17
      exfalso
      omega
theorem ct_run_4_4_1 {k n d : Nat} {x L D : Int32} (hk : k < 10) (hd : d + 2 ≤ 24) (hn : n + 3 ≤ 50) (h0 : σ 124 0 = nI n) (hN : σ (13 + 2 * k) 0 = nI k) (hK : σ (13 + 2 * k) 1 = (nI 4)) (hL : σ (13 + 2 * k) 2 = L) (hD : σ (13 + 2 * k) 3 = D) (hq : K (((x + D) * nI 2) ^^^ D) (ntC σ n [nI 50, nI 11, nI 10], sh b)) : CM G mX0_run (rl 4) [.ref 124, .ref (13 + 2 * k), .int (nI 4), .int 1, .int x, .int (nI d)] (σ, sh b) (QI K) := by
  refine CM.of (by decide) (Nat.le_of_ble_eq_true rfl) (cats1 rfl) ?_
  refine V_iload_n (pc := 0) d_X0_run_0 rfl ?_
  refine V_iload_n (pc := 1) d_X0_run_1 rfl ?_
  refine V_csI (pc := 2) (n := 1) [_, _] d_X0_run_2 c_X0_34 k_X0_kindWithBody rfl (Nat.le_of_ble_eq_true rfl) ⟨Nat.le_of_ble_eq_true rfl, Nat.le_of_ble_eq_true rfl⟩ ⟨Nat.le_refl _, Nat.le_refl _⟩ (ct_kwb_4_1 ?_)
  refine V_istore (pc := 5) d_X0_run_5 (by decide) ?_
  refine V_iload (pc := 7) d_X0_run_7 rfl ?_
  refine V_iconst (pc := 9) (-1) d_X0_run_9 (by decide) ?_
  refine V_icmp_eq (pc := 10) 20 d_X0_run_10 (by decide) (fun c10 => ?_) (fun c10 => ?_)
  · exact absurd c10 (by decide)
  · refine V_iload (pc := 13) d_X0_run_13 rfl ?_
    refine V_bipush (pc := 15) (nI 24) d_X0_run_15 (by decide) ?_
    refine B_icmp_le (pc := 17) 22 d_X0_run_17 (by decide) (fun c17 => ?_) (fun c17 => ?_)
    · simp (disch := omega) only [show (nI 24).toInt = 24 from by decide, nI_toInt, ti0, ti1, tim1, tim20, tim1000] at c17
      refine V_getsB (pc := 22) d_X0_run_22 f_X0_28 ?_
      refine V_iload (pc := 25) d_X0_run_25 rfl ?_
      refine V_iconst (pc := 27) (nI 4) d_X0_run_27 (by decide) ?_
      refine V_imul (pc := 28) d_X0_run_28 ?_
      refine V_iload_n (pc := 29) d_X0_run_29 rfl ?_
      refine V_iadd (pc := 30) d_X0_run_30 ?_
      refine V_bald (pc := 31) (17) d_X0_run_31 (by decide) (by decide) ?_
      rw [show boT.getD 17 0 = nI 50 from rfl]
      refine V_istore (pc := 32) d_X0_run_32 (by decide) ?_
      refine V_getsKN (pc := 34) d_X0_run_34 f_X0_31 ?_
      refine V_iload (pc := 37) d_X0_run_37 rfl ?_
      refine V_kald (pc := 39) (4) d_X0_run_39 (by decide) (by decide) ?_
      rw [show kaT.getD 4 0 = 0 from rfl]
      refine V_istore (pc := 40) d_X0_run_40 (by decide) ?_
      refine V_iload (pc := 42) d_X0_run_42 rfl ?_
      refine V_iconst (pc := 44) (1) d_X0_run_44 (by decide) ?_
      refine V_iadd (pc := 45) d_X0_run_45 ?_
      rw [nI_1]
      refine V_istore (pc := 46) d_X0_run_46 (by decide) ?_
      refine V_aload_n (pc := 48) d_X0_run_48 rfl ?_
      refine V_iload (pc := 49) d_X0_run_49 rfl ?_
      refine V_cvV (pc := 51) (n := 1) (c := 0) [_] d_X0_run_51 c_X0_38 k_X0_note ⟨rfl, rfl⟩ (tt_124 b) rfl (Nat.le_of_ble_eq_true rfl) ⟨Nat.le_of_ble_eq_true rfl, Nat.le_of_ble_eq_true rfl⟩ ⟨Nat.le_refl _, Nat.le_refl _⟩ (ct_X0_note (by omega) h0 ?_)
      refine V_iload (pc := 54) d_X0_run_54 rfl ?_
      refine V_lookup (pc := 56) (off := 267) 323 d_X0_run_56 (by decide) (by decide) (by decide) ?_
      refine V_aload_n (pc := 323) d_X0_run_323 rfl ?_
      refine V_aload_n (pc := 324) d_X0_run_324 rfl ?_
      refine V_iload (pc := 325) d_X0_run_325 rfl ?_
      refine V_iconst (pc := 327) (1) d_X0_run_327 (by decide) ?_
      refine V_iload (pc := 328) d_X0_run_328 rfl ?_
      refine V_iload (pc := 330) d_X0_run_330 rfl ?_
      refine V_csI (pc := 332) (n := 3) [_, _, _, _, _, _] d_X0_run_332 c_X0_24 k_X0_run rfl (Nat.le_of_ble_eq_true rfl) ⟨Nat.le_of_ble_eq_true rfl, Nat.le_of_ble_eq_true rfl⟩ ⟨Nat.le_refl _, Nat.le_refl _⟩ (ct_run_4_0_1 (n := n + 1) (d := d + 1) hk (by omega) (by omega) (ntC_c h0) ((ntC_o (by omega)).trans hN) ((ntC_o (by omega)).trans hK) ((ntC_o (by omega)).trans hL) ((ntC_o (by omega)).trans hD) ?_)
      refine V_aload_n (pc := 335) d_X0_run_335 rfl ?_
      refine P_getI (pc := 336) d_X0_run_336 f_X0_42 (tS b (by omega)) ?_
      simp (disch := omega) only [up2_n, up2_e, ntC_o]
      rw [hD]
      refine V_ixor (pc := 339) d_X0_run_339 ?_
      exact V_retI (pc := 340) d_X0_run_340 rfl ⟨Nat.le_refl _, Nat.le_refl _⟩ (by simp only [ntC] at hq ⊢; exact hq)
    · simp (disch := omega) only [show (nI 24).toInt = 24 from by decide, nI_toInt, ti0, ti1, tim1, tim20, tim1000] at c17
      exfalso
      omega
theorem ct_run_4_0_2 {k n d : Nat} {x L D : Int32} (hk : k < 10) (hd : d + 0 ≤ 24) (hn : n + 1 ≤ 50) (h0 : σ 124 0 = nI n) (hN : σ (13 + 2 * k) 0 = nI k) (hK : σ (13 + 2 * k) 1 = (nI 4)) (hL : σ (13 + 2 * k) 2 = L) (hD : σ (13 + 2 * k) 3 = D) (hq : K (x - nI k) (ntC σ n [nI 12], sh b)) : CM G mX0_run (rl 2) [.ref 124, .ref (13 + 2 * k), .int 0, .int (nI 2), .int x, .int (nI d)] (σ, sh b) (QI K) := by
  refine CM.of (by decide) (Nat.le_of_ble_eq_true rfl) (cats1 rfl) ?_
  refine V_iload_n (pc := 0) d_X0_run_0 rfl ?_
  refine V_iload_n (pc := 1) d_X0_run_1 rfl ?_
  refine V_csI (pc := 2) (n := 1) [_, _] d_X0_run_2 c_X0_34 k_X0_kindWithBody rfl (Nat.le_of_ble_eq_true rfl) ⟨Nat.le_of_ble_eq_true rfl, Nat.le_of_ble_eq_true rfl⟩ ⟨Nat.le_refl _, Nat.le_refl _⟩ (ct_kwb_0_2 ?_)
  refine V_istore (pc := 5) d_X0_run_5 (by decide) ?_
  refine V_iload (pc := 7) d_X0_run_7 rfl ?_
  refine V_iconst (pc := 9) (-1) d_X0_run_9 (by decide) ?_
  refine V_icmp_eq (pc := 10) 20 d_X0_run_10 (by decide) (fun c10 => ?_) (fun c10 => ?_)
  · exact absurd c10 (by decide)
  · refine V_iload (pc := 13) d_X0_run_13 rfl ?_
    refine V_bipush (pc := 15) (nI 24) d_X0_run_15 (by decide) ?_
    refine B_icmp_le (pc := 17) 22 d_X0_run_17 (by decide) (fun c17 => ?_) (fun c17 => ?_)
    · simp (disch := omega) only [show (nI 24).toInt = 24 from by decide, nI_toInt, ti0, ti1, tim1, tim20, tim1000] at c17
      refine V_getsB (pc := 22) d_X0_run_22 f_X0_28 ?_
      refine V_iload (pc := 25) d_X0_run_25 rfl ?_
      refine V_iconst (pc := 27) (nI 4) d_X0_run_27 (by decide) ?_
      refine V_imul (pc := 28) d_X0_run_28 ?_
      refine V_iload_n (pc := 29) d_X0_run_29 rfl ?_
      refine V_iadd (pc := 30) d_X0_run_30 ?_
      refine V_bald (pc := 31) (2) d_X0_run_31 (by decide) (by decide) ?_
      rw [show boT.getD 2 0 = nI 12 from rfl]
      refine V_istore (pc := 32) d_X0_run_32 (by decide) ?_
      refine V_getsKN (pc := 34) d_X0_run_34 f_X0_31 ?_
      refine V_iload (pc := 37) d_X0_run_37 rfl ?_
      refine V_kald (pc := 39) (0) d_X0_run_39 (by decide) (by decide) ?_
      rw [show kaT.getD 0 0 = (-1) from rfl]
      refine V_istore (pc := 40) d_X0_run_40 (by decide) ?_
      refine V_iload (pc := 42) d_X0_run_42 rfl ?_
      refine V_iconst (pc := 44) (1) d_X0_run_44 (by decide) ?_
      refine V_iadd (pc := 45) d_X0_run_45 ?_
      rw [nI_1]
      refine V_istore (pc := 46) d_X0_run_46 (by decide) ?_
      refine V_aload_n (pc := 48) d_X0_run_48 rfl ?_
      refine V_iload (pc := 49) d_X0_run_49 rfl ?_
      refine V_cvV (pc := 51) (n := 1) (c := 0) [_] d_X0_run_51 c_X0_38 k_X0_note ⟨rfl, rfl⟩ (tt_124 b) rfl (Nat.le_of_ble_eq_true rfl) ⟨Nat.le_of_ble_eq_true rfl, Nat.le_of_ble_eq_true rfl⟩ ⟨Nat.le_refl _, Nat.le_refl _⟩ (ct_X0_note (by omega) h0 ?_)
      refine V_iload (pc := 54) d_X0_run_54 rfl ?_
      refine V_lookup (pc := 56) (off := 133) 189 d_X0_run_56 (by decide) (by decide) (by decide) ?_
      refine V_iload (pc := 189) d_X0_run_189 rfl ?_
      refine V_aload_n (pc := 191) d_X0_run_191 rfl ?_
      refine P_getI (pc := 192) d_X0_run_192 f_X0_45 (tS b (by omega)) ?_
      simp (disch := omega) only [up2_n, up2_e, ntC_o]
      rw [hN]
      refine V_isub (pc := 195) d_X0_run_195 ?_
      exact V_retI (pc := 196) d_X0_run_196 rfl ⟨Nat.le_refl _, Nat.le_refl _⟩ (by simp only [ntC] at hq ⊢; exact hq)
    · simp (disch := omega) only [show (nI 24).toInt = 24 from by decide, nI_toInt, ti0, ti1, tim1, tim20, tim1000] at c17
      exfalso
      omega
theorem ct_run_4_4_2 {k n d : Nat} {x L D : Int32} (hk : k < 10) (hd : d + 1 ≤ 24) (hn : n + 2 ≤ 50) (h0 : σ 124 0 = nI n) (hN : σ (13 + 2 * k) 0 = nI k) (hK : σ (13 + 2 * k) 1 = (nI 4)) (hL : σ (13 + 2 * k) 2 = L) (hD : σ (13 + 2 * k) 3 = D) (hq : K ((x + L) - nI k) (ntC σ n [nI 51, nI 12], sh b)) : CM G mX0_run (rl 3) [.ref 124, .ref (13 + 2 * k), .int (nI 4), .int (nI 2), .int x, .int (nI d)] (σ, sh b) (QI K) := by
  refine CM.of (by decide) (Nat.le_of_ble_eq_true rfl) (cats1 rfl) ?_
  refine V_iload_n (pc := 0) d_X0_run_0 rfl ?_
  refine V_iload_n (pc := 1) d_X0_run_1 rfl ?_
  refine V_csI (pc := 2) (n := 1) [_, _] d_X0_run_2 c_X0_34 k_X0_kindWithBody rfl (Nat.le_of_ble_eq_true rfl) ⟨Nat.le_of_ble_eq_true rfl, Nat.le_of_ble_eq_true rfl⟩ ⟨Nat.le_refl _, Nat.le_refl _⟩ (ct_kwb_4_2 ?_)
  refine V_istore (pc := 5) d_X0_run_5 (by decide) ?_
  refine V_iload (pc := 7) d_X0_run_7 rfl ?_
  refine V_iconst (pc := 9) (-1) d_X0_run_9 (by decide) ?_
  refine V_icmp_eq (pc := 10) 20 d_X0_run_10 (by decide) (fun c10 => ?_) (fun c10 => ?_)
  · exact absurd c10 (by decide)
  · refine V_iload (pc := 13) d_X0_run_13 rfl ?_
    refine V_bipush (pc := 15) (nI 24) d_X0_run_15 (by decide) ?_
    refine B_icmp_le (pc := 17) 22 d_X0_run_17 (by decide) (fun c17 => ?_) (fun c17 => ?_)
    · simp (disch := omega) only [show (nI 24).toInt = 24 from by decide, nI_toInt, ti0, ti1, tim1, tim20, tim1000] at c17
      refine V_getsB (pc := 22) d_X0_run_22 f_X0_28 ?_
      refine V_iload (pc := 25) d_X0_run_25 rfl ?_
      refine V_iconst (pc := 27) (nI 4) d_X0_run_27 (by decide) ?_
      refine V_imul (pc := 28) d_X0_run_28 ?_
      refine V_iload_n (pc := 29) d_X0_run_29 rfl ?_
      refine V_iadd (pc := 30) d_X0_run_30 ?_
      refine V_bald (pc := 31) (18) d_X0_run_31 (by decide) (by decide) ?_
      rw [show boT.getD 18 0 = nI 51 from rfl]
      refine V_istore (pc := 32) d_X0_run_32 (by decide) ?_
      refine V_getsKN (pc := 34) d_X0_run_34 f_X0_31 ?_
      refine V_iload (pc := 37) d_X0_run_37 rfl ?_
      refine V_kald (pc := 39) (4) d_X0_run_39 (by decide) (by decide) ?_
      rw [show kaT.getD 4 0 = 0 from rfl]
      refine V_istore (pc := 40) d_X0_run_40 (by decide) ?_
      refine V_iload (pc := 42) d_X0_run_42 rfl ?_
      refine V_iconst (pc := 44) (1) d_X0_run_44 (by decide) ?_
      refine V_iadd (pc := 45) d_X0_run_45 ?_
      rw [nI_1]
      refine V_istore (pc := 46) d_X0_run_46 (by decide) ?_
      refine V_aload_n (pc := 48) d_X0_run_48 rfl ?_
      refine V_iload (pc := 49) d_X0_run_49 rfl ?_
      refine V_cvV (pc := 51) (n := 1) (c := 0) [_] d_X0_run_51 c_X0_38 k_X0_note ⟨rfl, rfl⟩ (tt_124 b) rfl (Nat.le_of_ble_eq_true rfl) ⟨Nat.le_of_ble_eq_true rfl, Nat.le_of_ble_eq_true rfl⟩ ⟨Nat.le_refl _, Nat.le_refl _⟩ (ct_X0_note (by omega) h0 ?_)
      refine V_iload (pc := 54) d_X0_run_54 rfl ?_
      refine V_lookup (pc := 56) (off := 285) 341 d_X0_run_56 (by decide) (by decide) (by decide) ?_
      refine V_aload_n (pc := 341) d_X0_run_341 rfl ?_
      refine V_aload_n (pc := 342) d_X0_run_342 rfl ?_
      refine V_iload (pc := 343) d_X0_run_343 rfl ?_
      refine V_iconst (pc := 345) (nI 2) d_X0_run_345 (by decide) ?_
      refine V_iload (pc := 346) d_X0_run_346 rfl ?_
      refine V_aload_n (pc := 348) d_X0_run_348 rfl ?_
      refine P_getI (pc := 349) d_X0_run_349 f_X0_48 (tS b (by omega)) ?_
      simp (disch := omega) only [up2_n, up2_e, ntC_o]
      rw [hL]
      refine V_iadd (pc := 352) d_X0_run_352 ?_
      refine V_iload (pc := 353) d_X0_run_353 rfl ?_
      refine V_csI (pc := 355) (n := 2) [_, _, _, _, _, _] d_X0_run_355 c_X0_24 k_X0_run rfl (Nat.le_of_ble_eq_true rfl) ⟨Nat.le_of_ble_eq_true rfl, Nat.le_of_ble_eq_true rfl⟩ ⟨Nat.le_refl _, Nat.le_refl _⟩ (ct_run_4_0_2 (n := n + 1) (d := d + 1) hk (by omega) (by omega) (ntC_c h0) ((ntC_o (by omega)).trans hN) ((ntC_o (by omega)).trans hK) ((ntC_o (by omega)).trans hL) ((ntC_o (by omega)).trans hD) ?_)
      exact V_retI (pc := 358) d_X0_run_358 rfl ⟨Nat.le_refl _, Nat.le_refl _⟩ (by simp only [ntC] at hq ⊢; exact hq)
    · simp (disch := omega) only [show (nI 24).toInt = 24 from by decide, nI_toInt, ti0, ti1, tim1, tim20, tim1000] at c17
      exfalso
      omega
theorem ct_run_4_4_3 {k n d : Nat} {x L D : Int32} (hk : k < 10) (hd : d + 3 ≤ 24) (hn : n + 6 ≤ 50) (h0 : σ 124 0 = nI n) (hN : σ (13 + 2 * k) 0 = nI k) (hK : σ (13 + 2 * k) 1 = (nI 4)) (hL : σ (13 + 2 * k) 2 = L) (hD : σ (13 + 2 * k) 3 = D) (hq : K ((((x + D) * nI 2) ^^^ D) ^^^ ((x + L) - nI k)) (ntC σ n [nI 13, nI 50, nI 11, nI 10, nI 51, nI 12], sh b)) : CM G mX0_run (rl 5) [.ref 124, .ref (13 + 2 * k), .int (nI 4), .int (nI 3), .int x, .int (nI d)] (σ, sh b) (QI K) := by
  refine CM.of (by decide) (Nat.le_of_ble_eq_true rfl) (cats1 rfl) ?_
  refine V_iload_n (pc := 0) d_X0_run_0 rfl ?_
  refine V_iload_n (pc := 1) d_X0_run_1 rfl ?_
  refine V_csI (pc := 2) (n := 1) [_, _] d_X0_run_2 c_X0_34 k_X0_kindWithBody rfl (Nat.le_of_ble_eq_true rfl) ⟨Nat.le_of_ble_eq_true rfl, Nat.le_of_ble_eq_true rfl⟩ ⟨Nat.le_refl _, Nat.le_refl _⟩ (ct_kwb_4_3 ?_)
  refine V_istore (pc := 5) d_X0_run_5 (by decide) ?_
  refine V_iload (pc := 7) d_X0_run_7 rfl ?_
  refine V_iconst (pc := 9) (-1) d_X0_run_9 (by decide) ?_
  refine V_icmp_eq (pc := 10) 20 d_X0_run_10 (by decide) (fun c10 => ?_) (fun c10 => ?_)
  · exact absurd c10 (by decide)
  · refine V_iload (pc := 13) d_X0_run_13 rfl ?_
    refine V_bipush (pc := 15) (nI 24) d_X0_run_15 (by decide) ?_
    refine B_icmp_le (pc := 17) 22 d_X0_run_17 (by decide) (fun c17 => ?_) (fun c17 => ?_)
    · simp (disch := omega) only [show (nI 24).toInt = 24 from by decide, nI_toInt, ti0, ti1, tim1, tim20, tim1000] at c17
      refine V_getsB (pc := 22) d_X0_run_22 f_X0_28 ?_
      refine V_iload (pc := 25) d_X0_run_25 rfl ?_
      refine V_iconst (pc := 27) (nI 4) d_X0_run_27 (by decide) ?_
      refine V_imul (pc := 28) d_X0_run_28 ?_
      refine V_iload_n (pc := 29) d_X0_run_29 rfl ?_
      refine V_iadd (pc := 30) d_X0_run_30 ?_
      refine V_bald (pc := 31) (3) d_X0_run_31 (by decide) (by decide) ?_
      rw [show boT.getD 3 0 = nI 13 from rfl]
      refine V_istore (pc := 32) d_X0_run_32 (by decide) ?_
      refine V_getsKN (pc := 34) d_X0_run_34 f_X0_31 ?_
      refine V_iload (pc := 37) d_X0_run_37 rfl ?_
      refine V_kald (pc := 39) (0) d_X0_run_39 (by decide) (by decide) ?_
      rw [show kaT.getD 0 0 = (-1) from rfl]
      refine V_istore (pc := 40) d_X0_run_40 (by decide) ?_
      refine V_iload (pc := 42) d_X0_run_42 rfl ?_
      refine V_iconst (pc := 44) (1) d_X0_run_44 (by decide) ?_
      refine V_iadd (pc := 45) d_X0_run_45 ?_
      rw [nI_1]
      refine V_istore (pc := 46) d_X0_run_46 (by decide) ?_
      refine V_aload_n (pc := 48) d_X0_run_48 rfl ?_
      refine V_iload (pc := 49) d_X0_run_49 rfl ?_
      refine V_cvV (pc := 51) (n := 1) (c := 0) [_] d_X0_run_51 c_X0_38 k_X0_note ⟨rfl, rfl⟩ (tt_124 b) rfl (Nat.le_of_ble_eq_true rfl) ⟨Nat.le_of_ble_eq_true rfl, Nat.le_of_ble_eq_true rfl⟩ ⟨Nat.le_refl _, Nat.le_refl _⟩ (ct_X0_note (by omega) h0 ?_)
      refine V_iload (pc := 54) d_X0_run_54 rfl ?_
      refine V_lookup (pc := 56) (off := 141) 197 d_X0_run_56 (by decide) (by decide) (by decide) ?_
      refine V_aload_n (pc := 197) d_X0_run_197 rfl ?_
      refine V_aload_n (pc := 198) d_X0_run_198 rfl ?_
      refine V_aload_n (pc := 199) d_X0_run_199 rfl ?_
      refine P_getI (pc := 200) d_X0_run_200 f_X0_19 (tS b (by omega)) ?_
      simp (disch := omega) only [up2_n, up2_e, ntC_o]
      rw [hK]
      refine V_iconst (pc := 203) (1) d_X0_run_203 (by decide) ?_
      refine V_iload (pc := 204) d_X0_run_204 rfl ?_
      refine V_iload (pc := 206) d_X0_run_206 rfl ?_
      refine V_csI (pc := 208) (n := 4) [_, _, _, _, _, _] d_X0_run_208 c_X0_24 k_X0_run rfl (Nat.le_of_ble_eq_true rfl) ⟨Nat.le_of_ble_eq_true rfl, Nat.le_of_ble_eq_true rfl⟩ ⟨Nat.le_refl _, Nat.le_refl _⟩ (ct_run_4_4_1 (n := n + 1) (d := d + 1) hk (by omega) (by omega) (ntC_c h0) ((ntC_o (by omega)).trans hN) ((ntC_o (by omega)).trans hK) ((ntC_o (by omega)).trans hL) ((ntC_o (by omega)).trans hD) ?_)
      refine V_aload_n (pc := 211) d_X0_run_211 rfl ?_
      refine V_aload_n (pc := 212) d_X0_run_212 rfl ?_
      refine V_aload_n (pc := 213) d_X0_run_213 rfl ?_
      refine P_getI (pc := 214) d_X0_run_214 f_X0_19 (tS b (by omega)) ?_
      simp (disch := omega) only [up2_n, up2_e, ntC_o]
      rw [hK]
      refine V_iconst (pc := 217) (nI 2) d_X0_run_217 (by decide) ?_
      refine V_iload (pc := 218) d_X0_run_218 rfl ?_
      refine V_iload (pc := 220) d_X0_run_220 rfl ?_
      refine V_csI (pc := 222) (n := 3) [_, _, _, _, _, _] d_X0_run_222 c_X0_24 k_X0_run rfl (Nat.le_of_ble_eq_true rfl) ⟨Nat.le_of_ble_eq_true rfl, Nat.le_of_ble_eq_true rfl⟩ ⟨Nat.le_refl _, Nat.le_refl _⟩ (ct_run_4_4_2 (n := n + 1 + 3) (d := d + 1) hk (by omega) (by omega) (ntC_c (ntC_c h0)) ((ntC_o (by omega)).trans ((ntC_o (by omega)).trans hN)) ((ntC_o (by omega)).trans ((ntC_o (by omega)).trans hK)) ((ntC_o (by omega)).trans ((ntC_o (by omega)).trans hL)) ((ntC_o (by omega)).trans ((ntC_o (by omega)).trans hD)) ?_)
      refine V_ixor (pc := 225) d_X0_run_225 ?_
      exact V_retI (pc := 226) d_X0_run_226 rfl ⟨Nat.le_refl _, Nat.le_refl _⟩ (by simp only [ntC] at hq ⊢; exact hq)
    · simp (disch := omega) only [show (nI 24).toInt = 24 from by decide, nI_toInt, ti0, ti1, tim1, tim20, tim1000] at c17
      exfalso
      omega
theorem ct_run_5_5_0 {k n d : Nat} {x L D : Int32} (hk : k < 10) (hd : d + 0 ≤ 24) (hn : n + 1 ≤ 50) (h0 : σ 124 0 = nI n) (hN : σ (13 + 2 * k) 0 = nI k) (hK : σ (13 + 2 * k) 1 = (nI 5)) (hL : σ (13 + 2 * k) 2 = L) (hD : σ (13 + 2 * k) 3 = D) (hq : K (x + D) (ntC σ n [nI 10], sh b)) : CM G mX0_run (rl 2) [.ref 124, .ref (13 + 2 * k), .int (nI 5), .int 0, .int x, .int (nI d)] (σ, sh b) (QI K) := by
  refine CM.of (by decide) (Nat.le_of_ble_eq_true rfl) (cats1 rfl) ?_
  refine V_iload_n (pc := 0) d_X0_run_0 rfl ?_
  refine V_iload_n (pc := 1) d_X0_run_1 rfl ?_
  refine V_csI (pc := 2) (n := 1) [_, _] d_X0_run_2 c_X0_34 k_X0_kindWithBody rfl (Nat.le_of_ble_eq_true rfl) ⟨Nat.le_of_ble_eq_true rfl, Nat.le_of_ble_eq_true rfl⟩ ⟨Nat.le_refl _, Nat.le_refl _⟩ (ct_kwb_5_0 ?_)
  refine V_istore (pc := 5) d_X0_run_5 (by decide) ?_
  refine V_iload (pc := 7) d_X0_run_7 rfl ?_
  refine V_iconst (pc := 9) (-1) d_X0_run_9 (by decide) ?_
  refine V_icmp_eq (pc := 10) 20 d_X0_run_10 (by decide) (fun c10 => ?_) (fun c10 => ?_)
  · exact absurd c10 (by decide)
  · refine V_iload (pc := 13) d_X0_run_13 rfl ?_
    refine V_bipush (pc := 15) (nI 24) d_X0_run_15 (by decide) ?_
    refine B_icmp_le (pc := 17) 22 d_X0_run_17 (by decide) (fun c17 => ?_) (fun c17 => ?_)
    · simp (disch := omega) only [show (nI 24).toInt = 24 from by decide, nI_toInt, ti0, ti1, tim1, tim20, tim1000] at c17
      refine V_getsB (pc := 22) d_X0_run_22 f_X0_28 ?_
      refine V_iload (pc := 25) d_X0_run_25 rfl ?_
      refine V_iconst (pc := 27) (nI 4) d_X0_run_27 (by decide) ?_
      refine V_imul (pc := 28) d_X0_run_28 ?_
      refine V_iload_n (pc := 29) d_X0_run_29 rfl ?_
      refine V_iadd (pc := 30) d_X0_run_30 ?_
      refine V_bald (pc := 31) (0) d_X0_run_31 (by decide) (by decide) ?_
      rw [show boT.getD 0 0 = nI 10 from rfl]
      refine V_istore (pc := 32) d_X0_run_32 (by decide) ?_
      refine V_getsKN (pc := 34) d_X0_run_34 f_X0_31 ?_
      refine V_iload (pc := 37) d_X0_run_37 rfl ?_
      refine V_kald (pc := 39) (0) d_X0_run_39 (by decide) (by decide) ?_
      rw [show kaT.getD 0 0 = (-1) from rfl]
      refine V_istore (pc := 40) d_X0_run_40 (by decide) ?_
      refine V_iload (pc := 42) d_X0_run_42 rfl ?_
      refine V_iconst (pc := 44) (1) d_X0_run_44 (by decide) ?_
      refine V_iadd (pc := 45) d_X0_run_45 ?_
      rw [nI_1]
      refine V_istore (pc := 46) d_X0_run_46 (by decide) ?_
      refine V_aload_n (pc := 48) d_X0_run_48 rfl ?_
      refine V_iload (pc := 49) d_X0_run_49 rfl ?_
      refine V_cvV (pc := 51) (n := 1) (c := 0) [_] d_X0_run_51 c_X0_38 k_X0_note ⟨rfl, rfl⟩ (tt_124 b) rfl (Nat.le_of_ble_eq_true rfl) ⟨Nat.le_of_ble_eq_true rfl, Nat.le_of_ble_eq_true rfl⟩ ⟨Nat.le_refl _, Nat.le_refl _⟩ (ct_X0_note (by omega) h0 ?_)
      refine V_iload (pc := 54) d_X0_run_54 rfl ?_
      refine V_lookup (pc := 56) (off := 108) 164 d_X0_run_56 (by decide) (by decide) (by decide) ?_
      refine V_iload (pc := 164) d_X0_run_164 rfl ?_
      refine V_aload_n (pc := 166) d_X0_run_166 rfl ?_
      refine P_getI (pc := 167) d_X0_run_167 f_X0_42 (tS b (by omega)) ?_
      simp (disch := omega) only [up2_n, up2_e, ntC_o]
      rw [hD]
      refine V_iadd (pc := 170) d_X0_run_170 ?_
      exact V_retI (pc := 171) d_X0_run_171 rfl ⟨Nat.le_refl _, Nat.le_refl _⟩ (by simp only [ntC] at hq ⊢; exact hq)
    · simp (disch := omega) only [show (nI 24).toInt = 24 from by decide, nI_toInt, ti0, ti1, tim1, tim20, tim1000] at c17
      exfalso
      omega
theorem ct_run_5_5_1 {k n d : Nat} {x L D : Int32} (hk : k < 10) (hd : d + 1 ≤ 24) (hn : n + 2 ≤ 50) (h0 : σ 124 0 = nI n) (hN : σ (13 + 2 * k) 0 = nI k) (hK : σ (13 + 2 * k) 1 = (nI 5)) (hL : σ (13 + 2 * k) 2 = L) (hD : σ (13 + 2 * k) 3 = D) (hq : K ((x + D) * nI 2) (ntC σ n [nI 11, nI 10], sh b)) : CM G mX0_run (rl 3) [.ref 124, .ref (13 + 2 * k), .int (nI 5), .int 1, .int x, .int (nI d)] (σ, sh b) (QI K) := by
  refine CM.of (by decide) (Nat.le_of_ble_eq_true rfl) (cats1 rfl) ?_
  refine V_iload_n (pc := 0) d_X0_run_0 rfl ?_
  refine V_iload_n (pc := 1) d_X0_run_1 rfl ?_
  refine V_csI (pc := 2) (n := 1) [_, _] d_X0_run_2 c_X0_34 k_X0_kindWithBody rfl (Nat.le_of_ble_eq_true rfl) ⟨Nat.le_of_ble_eq_true rfl, Nat.le_of_ble_eq_true rfl⟩ ⟨Nat.le_refl _, Nat.le_refl _⟩ (ct_kwb_5_1 ?_)
  refine V_istore (pc := 5) d_X0_run_5 (by decide) ?_
  refine V_iload (pc := 7) d_X0_run_7 rfl ?_
  refine V_iconst (pc := 9) (-1) d_X0_run_9 (by decide) ?_
  refine V_icmp_eq (pc := 10) 20 d_X0_run_10 (by decide) (fun c10 => ?_) (fun c10 => ?_)
  · exact absurd c10 (by decide)
  · refine V_iload (pc := 13) d_X0_run_13 rfl ?_
    refine V_bipush (pc := 15) (nI 24) d_X0_run_15 (by decide) ?_
    refine B_icmp_le (pc := 17) 22 d_X0_run_17 (by decide) (fun c17 => ?_) (fun c17 => ?_)
    · simp (disch := omega) only [show (nI 24).toInt = 24 from by decide, nI_toInt, ti0, ti1, tim1, tim20, tim1000] at c17
      refine V_getsB (pc := 22) d_X0_run_22 f_X0_28 ?_
      refine V_iload (pc := 25) d_X0_run_25 rfl ?_
      refine V_iconst (pc := 27) (nI 4) d_X0_run_27 (by decide) ?_
      refine V_imul (pc := 28) d_X0_run_28 ?_
      refine V_iload_n (pc := 29) d_X0_run_29 rfl ?_
      refine V_iadd (pc := 30) d_X0_run_30 ?_
      refine V_bald (pc := 31) (1) d_X0_run_31 (by decide) (by decide) ?_
      rw [show boT.getD 1 0 = nI 11 from rfl]
      refine V_istore (pc := 32) d_X0_run_32 (by decide) ?_
      refine V_getsKN (pc := 34) d_X0_run_34 f_X0_31 ?_
      refine V_iload (pc := 37) d_X0_run_37 rfl ?_
      refine V_kald (pc := 39) (0) d_X0_run_39 (by decide) (by decide) ?_
      rw [show kaT.getD 0 0 = (-1) from rfl]
      refine V_istore (pc := 40) d_X0_run_40 (by decide) ?_
      refine V_iload (pc := 42) d_X0_run_42 rfl ?_
      refine V_iconst (pc := 44) (1) d_X0_run_44 (by decide) ?_
      refine V_iadd (pc := 45) d_X0_run_45 ?_
      rw [nI_1]
      refine V_istore (pc := 46) d_X0_run_46 (by decide) ?_
      refine V_aload_n (pc := 48) d_X0_run_48 rfl ?_
      refine V_iload (pc := 49) d_X0_run_49 rfl ?_
      refine V_cvV (pc := 51) (n := 1) (c := 0) [_] d_X0_run_51 c_X0_38 k_X0_note ⟨rfl, rfl⟩ (tt_124 b) rfl (Nat.le_of_ble_eq_true rfl) ⟨Nat.le_of_ble_eq_true rfl, Nat.le_of_ble_eq_true rfl⟩ ⟨Nat.le_refl _, Nat.le_refl _⟩ (ct_X0_note (by omega) h0 ?_)
      refine V_iload (pc := 54) d_X0_run_54 rfl ?_
      refine V_lookup (pc := 56) (off := 116) 172 d_X0_run_56 (by decide) (by decide) (by decide) ?_
      refine V_aload_n (pc := 172) d_X0_run_172 rfl ?_
      refine V_aload_n (pc := 173) d_X0_run_173 rfl ?_
      refine V_aload_n (pc := 174) d_X0_run_174 rfl ?_
      refine P_getI (pc := 175) d_X0_run_175 f_X0_19 (tS b (by omega)) ?_
      simp (disch := omega) only [up2_n, up2_e, ntC_o]
      rw [hK]
      refine V_iconst (pc := 178) (0) d_X0_run_178 (by decide) ?_
      refine V_iload (pc := 179) d_X0_run_179 rfl ?_
      refine V_iload (pc := 181) d_X0_run_181 rfl ?_
      refine V_csI (pc := 183) (n := 2) [_, _, _, _, _, _] d_X0_run_183 c_X0_24 k_X0_run rfl (Nat.le_of_ble_eq_true rfl) ⟨Nat.le_of_ble_eq_true rfl, Nat.le_of_ble_eq_true rfl⟩ ⟨Nat.le_refl _, Nat.le_refl _⟩ (ct_run_5_5_0 (n := n + 1) (d := d + 1) hk (by omega) (by omega) (ntC_c h0) ((ntC_o (by omega)).trans hN) ((ntC_o (by omega)).trans hK) ((ntC_o (by omega)).trans hL) ((ntC_o (by omega)).trans hD) ?_)
      refine V_iconst (pc := 186) (nI 2) d_X0_run_186 (by decide) ?_
      refine V_imul (pc := 187) d_X0_run_187 ?_
      exact V_retI (pc := 188) d_X0_run_188 rfl ⟨Nat.le_refl _, Nat.le_refl _⟩ (by simp only [ntC] at hq ⊢; exact hq)
    · simp (disch := omega) only [show (nI 24).toInt = 24 from by decide, nI_toInt, ti0, ti1, tim1, tim20, tim1000] at c17
      exfalso
      omega
theorem ct_run_5_5_2 {k n d : Nat} {x L D : Int32} (hk : k < 10) (hd : d + 0 ≤ 24) (hn : n + 1 ≤ 50) (h0 : σ 124 0 = nI n) (hN : σ (13 + 2 * k) 0 = nI k) (hK : σ (13 + 2 * k) 1 = (nI 5)) (hL : σ (13 + 2 * k) 2 = L) (hD : σ (13 + 2 * k) 3 = D) (hq : K (x - nI k) (ntC σ n [nI 12], sh b)) : CM G mX0_run (rl 2) [.ref 124, .ref (13 + 2 * k), .int (nI 5), .int (nI 2), .int x, .int (nI d)] (σ, sh b) (QI K) := by
  refine CM.of (by decide) (Nat.le_of_ble_eq_true rfl) (cats1 rfl) ?_
  refine V_iload_n (pc := 0) d_X0_run_0 rfl ?_
  refine V_iload_n (pc := 1) d_X0_run_1 rfl ?_
  refine V_csI (pc := 2) (n := 1) [_, _] d_X0_run_2 c_X0_34 k_X0_kindWithBody rfl (Nat.le_of_ble_eq_true rfl) ⟨Nat.le_of_ble_eq_true rfl, Nat.le_of_ble_eq_true rfl⟩ ⟨Nat.le_refl _, Nat.le_refl _⟩ (ct_kwb_5_2 ?_)
  refine V_istore (pc := 5) d_X0_run_5 (by decide) ?_
  refine V_iload (pc := 7) d_X0_run_7 rfl ?_
  refine V_iconst (pc := 9) (-1) d_X0_run_9 (by decide) ?_
  refine V_icmp_eq (pc := 10) 20 d_X0_run_10 (by decide) (fun c10 => ?_) (fun c10 => ?_)
  · exact absurd c10 (by decide)
  · refine V_iload (pc := 13) d_X0_run_13 rfl ?_
    refine V_bipush (pc := 15) (nI 24) d_X0_run_15 (by decide) ?_
    refine B_icmp_le (pc := 17) 22 d_X0_run_17 (by decide) (fun c17 => ?_) (fun c17 => ?_)
    · simp (disch := omega) only [show (nI 24).toInt = 24 from by decide, nI_toInt, ti0, ti1, tim1, tim20, tim1000] at c17
      refine V_getsB (pc := 22) d_X0_run_22 f_X0_28 ?_
      refine V_iload (pc := 25) d_X0_run_25 rfl ?_
      refine V_iconst (pc := 27) (nI 4) d_X0_run_27 (by decide) ?_
      refine V_imul (pc := 28) d_X0_run_28 ?_
      refine V_iload_n (pc := 29) d_X0_run_29 rfl ?_
      refine V_iadd (pc := 30) d_X0_run_30 ?_
      refine V_bald (pc := 31) (2) d_X0_run_31 (by decide) (by decide) ?_
      rw [show boT.getD 2 0 = nI 12 from rfl]
      refine V_istore (pc := 32) d_X0_run_32 (by decide) ?_
      refine V_getsKN (pc := 34) d_X0_run_34 f_X0_31 ?_
      refine V_iload (pc := 37) d_X0_run_37 rfl ?_
      refine V_kald (pc := 39) (0) d_X0_run_39 (by decide) (by decide) ?_
      rw [show kaT.getD 0 0 = (-1) from rfl]
      refine V_istore (pc := 40) d_X0_run_40 (by decide) ?_
      refine V_iload (pc := 42) d_X0_run_42 rfl ?_
      refine V_iconst (pc := 44) (1) d_X0_run_44 (by decide) ?_
      refine V_iadd (pc := 45) d_X0_run_45 ?_
      rw [nI_1]
      refine V_istore (pc := 46) d_X0_run_46 (by decide) ?_
      refine V_aload_n (pc := 48) d_X0_run_48 rfl ?_
      refine V_iload (pc := 49) d_X0_run_49 rfl ?_
      refine V_cvV (pc := 51) (n := 1) (c := 0) [_] d_X0_run_51 c_X0_38 k_X0_note ⟨rfl, rfl⟩ (tt_124 b) rfl (Nat.le_of_ble_eq_true rfl) ⟨Nat.le_of_ble_eq_true rfl, Nat.le_of_ble_eq_true rfl⟩ ⟨Nat.le_refl _, Nat.le_refl _⟩ (ct_X0_note (by omega) h0 ?_)
      refine V_iload (pc := 54) d_X0_run_54 rfl ?_
      refine V_lookup (pc := 56) (off := 133) 189 d_X0_run_56 (by decide) (by decide) (by decide) ?_
      refine V_iload (pc := 189) d_X0_run_189 rfl ?_
      refine V_aload_n (pc := 191) d_X0_run_191 rfl ?_
      refine P_getI (pc := 192) d_X0_run_192 f_X0_45 (tS b (by omega)) ?_
      simp (disch := omega) only [up2_n, up2_e, ntC_o]
      rw [hN]
      refine V_isub (pc := 195) d_X0_run_195 ?_
      exact V_retI (pc := 196) d_X0_run_196 rfl ⟨Nat.le_refl _, Nat.le_refl _⟩ (by simp only [ntC] at hq ⊢; exact hq)
    · simp (disch := omega) only [show (nI 24).toInt = 24 from by decide, nI_toInt, ti0, ti1, tim1, tim20, tim1000] at c17
      exfalso
      omega
theorem ct_run_5_0_3 {k n d : Nat} {x L D : Int32} (hk : k < 10) (hd : d + 2 ≤ 24) (hn : n + 4 ≤ 50) (h0 : σ 124 0 = nI n) (hN : σ (13 + 2 * k) 0 = nI k) (hK : σ (13 + 2 * k) 1 = (nI 5)) (hL : σ (13 + 2 * k) 2 = L) (hD : σ (13 + 2 * k) 3 = D) (hq : K (((x + D) * nI 2) ^^^ (x - nI k)) (ntC σ n [nI 13, nI 11, nI 10, nI 12], sh b)) : CM G mX0_run (rl 4) [.ref 124, .ref (13 + 2 * k), .int 0, .int (nI 3), .int x, .int (nI d)] (σ, sh b) (QI K) := by
  refine CM.of (by decide) (Nat.le_of_ble_eq_true rfl) (cats1 rfl) ?_
  refine V_iload_n (pc := 0) d_X0_run_0 rfl ?_
  refine V_iload_n (pc := 1) d_X0_run_1 rfl ?_
  refine V_csI (pc := 2) (n := 1) [_, _] d_X0_run_2 c_X0_34 k_X0_kindWithBody rfl (Nat.le_of_ble_eq_true rfl) ⟨Nat.le_of_ble_eq_true rfl, Nat.le_of_ble_eq_true rfl⟩ ⟨Nat.le_refl _, Nat.le_refl _⟩ (ct_kwb_0_3 ?_)
  refine V_istore (pc := 5) d_X0_run_5 (by decide) ?_
  refine V_iload (pc := 7) d_X0_run_7 rfl ?_
  refine V_iconst (pc := 9) (-1) d_X0_run_9 (by decide) ?_
  refine V_icmp_eq (pc := 10) 20 d_X0_run_10 (by decide) (fun c10 => ?_) (fun c10 => ?_)
  · exact absurd c10 (by decide)
  · refine V_iload (pc := 13) d_X0_run_13 rfl ?_
    refine V_bipush (pc := 15) (nI 24) d_X0_run_15 (by decide) ?_
    refine B_icmp_le (pc := 17) 22 d_X0_run_17 (by decide) (fun c17 => ?_) (fun c17 => ?_)
    · simp (disch := omega) only [show (nI 24).toInt = 24 from by decide, nI_toInt, ti0, ti1, tim1, tim20, tim1000] at c17
      refine V_getsB (pc := 22) d_X0_run_22 f_X0_28 ?_
      refine V_iload (pc := 25) d_X0_run_25 rfl ?_
      refine V_iconst (pc := 27) (nI 4) d_X0_run_27 (by decide) ?_
      refine V_imul (pc := 28) d_X0_run_28 ?_
      refine V_iload_n (pc := 29) d_X0_run_29 rfl ?_
      refine V_iadd (pc := 30) d_X0_run_30 ?_
      refine V_bald (pc := 31) (3) d_X0_run_31 (by decide) (by decide) ?_
      rw [show boT.getD 3 0 = nI 13 from rfl]
      refine V_istore (pc := 32) d_X0_run_32 (by decide) ?_
      refine V_getsKN (pc := 34) d_X0_run_34 f_X0_31 ?_
      refine V_iload (pc := 37) d_X0_run_37 rfl ?_
      refine V_kald (pc := 39) (0) d_X0_run_39 (by decide) (by decide) ?_
      rw [show kaT.getD 0 0 = (-1) from rfl]
      refine V_istore (pc := 40) d_X0_run_40 (by decide) ?_
      refine V_iload (pc := 42) d_X0_run_42 rfl ?_
      refine V_iconst (pc := 44) (1) d_X0_run_44 (by decide) ?_
      refine V_iadd (pc := 45) d_X0_run_45 ?_
      rw [nI_1]
      refine V_istore (pc := 46) d_X0_run_46 (by decide) ?_
      refine V_aload_n (pc := 48) d_X0_run_48 rfl ?_
      refine V_iload (pc := 49) d_X0_run_49 rfl ?_
      refine V_cvV (pc := 51) (n := 1) (c := 0) [_] d_X0_run_51 c_X0_38 k_X0_note ⟨rfl, rfl⟩ (tt_124 b) rfl (Nat.le_of_ble_eq_true rfl) ⟨Nat.le_of_ble_eq_true rfl, Nat.le_of_ble_eq_true rfl⟩ ⟨Nat.le_refl _, Nat.le_refl _⟩ (ct_X0_note (by omega) h0 ?_)
      refine V_iload (pc := 54) d_X0_run_54 rfl ?_
      refine V_lookup (pc := 56) (off := 141) 197 d_X0_run_56 (by decide) (by decide) (by decide) ?_
      refine V_aload_n (pc := 197) d_X0_run_197 rfl ?_
      refine V_aload_n (pc := 198) d_X0_run_198 rfl ?_
      refine V_aload_n (pc := 199) d_X0_run_199 rfl ?_
      refine P_getI (pc := 200) d_X0_run_200 f_X0_19 (tS b (by omega)) ?_
      simp (disch := omega) only [up2_n, up2_e, ntC_o]
      rw [hK]
      refine V_iconst (pc := 203) (1) d_X0_run_203 (by decide) ?_
      refine V_iload (pc := 204) d_X0_run_204 rfl ?_
      refine V_iload (pc := 206) d_X0_run_206 rfl ?_
      refine V_csI (pc := 208) (n := 3) [_, _, _, _, _, _] d_X0_run_208 c_X0_24 k_X0_run rfl (Nat.le_of_ble_eq_true rfl) ⟨Nat.le_of_ble_eq_true rfl, Nat.le_of_ble_eq_true rfl⟩ ⟨Nat.le_refl _, Nat.le_refl _⟩ (ct_run_5_5_1 (n := n + 1) (d := d + 1) hk (by omega) (by omega) (ntC_c h0) ((ntC_o (by omega)).trans hN) ((ntC_o (by omega)).trans hK) ((ntC_o (by omega)).trans hL) ((ntC_o (by omega)).trans hD) ?_)
      refine V_aload_n (pc := 211) d_X0_run_211 rfl ?_
      refine V_aload_n (pc := 212) d_X0_run_212 rfl ?_
      refine V_aload_n (pc := 213) d_X0_run_213 rfl ?_
      refine P_getI (pc := 214) d_X0_run_214 f_X0_19 (tS b (by omega)) ?_
      simp (disch := omega) only [up2_n, up2_e, ntC_o]
      rw [hK]
      refine V_iconst (pc := 217) (nI 2) d_X0_run_217 (by decide) ?_
      refine V_iload (pc := 218) d_X0_run_218 rfl ?_
      refine V_iload (pc := 220) d_X0_run_220 rfl ?_
      refine V_csI (pc := 222) (n := 2) [_, _, _, _, _, _] d_X0_run_222 c_X0_24 k_X0_run rfl (Nat.le_of_ble_eq_true rfl) ⟨Nat.le_of_ble_eq_true rfl, Nat.le_of_ble_eq_true rfl⟩ ⟨Nat.le_refl _, Nat.le_refl _⟩ (ct_run_5_5_2 (n := n + 1 + 2) (d := d + 1) hk (by omega) (by omega) (ntC_c (ntC_c h0)) ((ntC_o (by omega)).trans ((ntC_o (by omega)).trans hN)) ((ntC_o (by omega)).trans ((ntC_o (by omega)).trans hK)) ((ntC_o (by omega)).trans ((ntC_o (by omega)).trans hL)) ((ntC_o (by omega)).trans ((ntC_o (by omega)).trans hD)) ?_)
      refine V_ixor (pc := 225) d_X0_run_225 ?_
      exact V_retI (pc := 226) d_X0_run_226 rfl ⟨Nat.le_refl _, Nat.le_refl _⟩ (by simp only [ntC] at hq ⊢; exact hq)
    · simp (disch := omega) only [show (nI 24).toInt = 24 from by decide, nI_toInt, ti0, ti1, tim1, tim20, tim1000] at c17
      exfalso
      omega
theorem ct_run_5_5_3 {k n d : Nat} {x L D : Int32} (hk : k < 10) (hd : d + 3 ≤ 24) (hn : n + 6 ≤ 50) (h0 : σ 124 0 = nI n) (hN : σ (13 + 2 * k) 0 = nI k) (hK : σ (13 + 2 * k) 1 = (nI 5)) (hL : σ (13 + 2 * k) 2 = L) (hD : σ (13 + 2 * k) 3 = D) (hq : K ((x - nI k) - (((x + D) * nI 2) ^^^ (x - nI k))) (ntC σ n [nI 60, nI 12, nI 13, nI 11, nI 10, nI 12], sh b)) : CM G mX0_run (rl 5) [.ref 124, .ref (13 + 2 * k), .int (nI 5), .int (nI 3), .int x, .int (nI d)] (σ, sh b) (QI K) := by
  refine CM.of (by decide) (Nat.le_of_ble_eq_true rfl) (cats1 rfl) ?_
  refine V_iload_n (pc := 0) d_X0_run_0 rfl ?_
  refine V_iload_n (pc := 1) d_X0_run_1 rfl ?_
  refine V_csI (pc := 2) (n := 1) [_, _] d_X0_run_2 c_X0_34 k_X0_kindWithBody rfl (Nat.le_of_ble_eq_true rfl) ⟨Nat.le_of_ble_eq_true rfl, Nat.le_of_ble_eq_true rfl⟩ ⟨Nat.le_refl _, Nat.le_refl _⟩ (ct_kwb_5_3 ?_)
  refine V_istore (pc := 5) d_X0_run_5 (by decide) ?_
  refine V_iload (pc := 7) d_X0_run_7 rfl ?_
  refine V_iconst (pc := 9) (-1) d_X0_run_9 (by decide) ?_
  refine V_icmp_eq (pc := 10) 20 d_X0_run_10 (by decide) (fun c10 => ?_) (fun c10 => ?_)
  · exact absurd c10 (by decide)
  · refine V_iload (pc := 13) d_X0_run_13 rfl ?_
    refine V_bipush (pc := 15) (nI 24) d_X0_run_15 (by decide) ?_
    refine B_icmp_le (pc := 17) 22 d_X0_run_17 (by decide) (fun c17 => ?_) (fun c17 => ?_)
    · simp (disch := omega) only [show (nI 24).toInt = 24 from by decide, nI_toInt, ti0, ti1, tim1, tim20, tim1000] at c17
      refine V_getsB (pc := 22) d_X0_run_22 f_X0_28 ?_
      refine V_iload (pc := 25) d_X0_run_25 rfl ?_
      refine V_iconst (pc := 27) (nI 4) d_X0_run_27 (by decide) ?_
      refine V_imul (pc := 28) d_X0_run_28 ?_
      refine V_iload_n (pc := 29) d_X0_run_29 rfl ?_
      refine V_iadd (pc := 30) d_X0_run_30 ?_
      refine V_bald (pc := 31) (23) d_X0_run_31 (by decide) (by decide) ?_
      rw [show boT.getD 23 0 = nI 60 from rfl]
      refine V_istore (pc := 32) d_X0_run_32 (by decide) ?_
      refine V_getsKN (pc := 34) d_X0_run_34 f_X0_31 ?_
      refine V_iload (pc := 37) d_X0_run_37 rfl ?_
      refine V_kald (pc := 39) (5) d_X0_run_39 (by decide) (by decide) ?_
      rw [show kaT.getD 5 0 = 0 from rfl]
      refine V_istore (pc := 40) d_X0_run_40 (by decide) ?_
      refine V_iload (pc := 42) d_X0_run_42 rfl ?_
      refine V_iconst (pc := 44) (1) d_X0_run_44 (by decide) ?_
      refine V_iadd (pc := 45) d_X0_run_45 ?_
      rw [nI_1]
      refine V_istore (pc := 46) d_X0_run_46 (by decide) ?_
      refine V_aload_n (pc := 48) d_X0_run_48 rfl ?_
      refine V_iload (pc := 49) d_X0_run_49 rfl ?_
      refine V_cvV (pc := 51) (n := 1) (c := 0) [_] d_X0_run_51 c_X0_38 k_X0_note ⟨rfl, rfl⟩ (tt_124 b) rfl (Nat.le_of_ble_eq_true rfl) ⟨Nat.le_of_ble_eq_true rfl, Nat.le_of_ble_eq_true rfl⟩ ⟨Nat.le_refl _, Nat.le_refl _⟩ (ct_X0_note (by omega) h0 ?_)
      refine V_iload (pc := 54) d_X0_run_54 rfl ?_
      refine V_lookup (pc := 56) (off := 303) 359 d_X0_run_56 (by decide) (by decide) (by decide) ?_
      refine V_aload_n (pc := 359) d_X0_run_359 rfl ?_
      refine V_aload_n (pc := 360) d_X0_run_360 rfl ?_
      refine V_aload_n (pc := 361) d_X0_run_361 rfl ?_
      refine P_getI (pc := 362) d_X0_run_362 f_X0_19 (tS b (by omega)) ?_
      simp (disch := omega) only [up2_n, up2_e, ntC_o]
      rw [hK]
      refine V_iconst (pc := 365) (nI 2) d_X0_run_365 (by decide) ?_
      refine V_iload (pc := 366) d_X0_run_366 rfl ?_
      refine V_iload (pc := 368) d_X0_run_368 rfl ?_
      refine V_csI (pc := 370) (n := 2) [_, _, _, _, _, _] d_X0_run_370 c_X0_24 k_X0_run rfl (Nat.le_of_ble_eq_true rfl) ⟨Nat.le_of_ble_eq_true rfl, Nat.le_of_ble_eq_true rfl⟩ ⟨Nat.le_refl _, Nat.le_refl _⟩ (ct_run_5_5_2 (n := n + 1) (d := d + 1) hk (by omega) (by omega) (ntC_c h0) ((ntC_o (by omega)).trans hN) ((ntC_o (by omega)).trans hK) ((ntC_o (by omega)).trans hL) ((ntC_o (by omega)).trans hD) ?_)
      refine V_aload_n (pc := 373) d_X0_run_373 rfl ?_
      refine V_aload_n (pc := 374) d_X0_run_374 rfl ?_
      refine V_iload (pc := 375) d_X0_run_375 rfl ?_
      refine V_iconst (pc := 377) (nI 3) d_X0_run_377 (by decide) ?_
      refine V_iload (pc := 378) d_X0_run_378 rfl ?_
      refine V_iload (pc := 380) d_X0_run_380 rfl ?_
      refine V_csI (pc := 382) (n := 4) [_, _, _, _, _, _] d_X0_run_382 c_X0_24 k_X0_run rfl (Nat.le_of_ble_eq_true rfl) ⟨Nat.le_of_ble_eq_true rfl, Nat.le_of_ble_eq_true rfl⟩ ⟨Nat.le_refl _, Nat.le_refl _⟩ (ct_run_5_0_3 (n := n + 1 + 1) (d := d + 1) hk (by omega) (by omega) (ntC_c (ntC_c h0)) ((ntC_o (by omega)).trans ((ntC_o (by omega)).trans hN)) ((ntC_o (by omega)).trans ((ntC_o (by omega)).trans hK)) ((ntC_o (by omega)).trans ((ntC_o (by omega)).trans hL)) ((ntC_o (by omega)).trans ((ntC_o (by omega)).trans hD)) ?_)
      refine V_isub (pc := 385) d_X0_run_385 ?_
      exact V_retI (pc := 386) d_X0_run_386 rfl ⟨Nat.le_refl _, Nat.le_refl _⟩ (by simp only [ntC] at hq ⊢; exact hq)
    · simp (disch := omega) only [show (nI 24).toInt = 24 from by decide, nI_toInt, ti0, ti1, tim1, tim20, tim1000] at c17
      exfalso
      omega
end HC
