theorem nin_1 {a v : Nat} {U : List Nat} (hU : ∀ u ∈ U, u < a) (hv : a < v) : v ∉ a :: U := fun w => by
  rcases List.mem_cons.mp w with w | w
  · omega
  · have := hU _ w; omega
theorem nin_0 {v : Nat} {U : List Nat} (hU : ∀ u ∈ U, u < v) : v ∉ U := fun w => by have := hU _ w; omega
theorem lt_cons {a b : Nat} {U : List Nat} (hU : ∀ u ∈ U, u < a) (h : a < b) : ∀ u ∈ a :: U, u < b := fun u hu => by
  rcases List.mem_cons.mp hu with w | w
  · omega
  · have := hU _ w; omega
theorem fil_zr {σ : Sg} {m n : Nat} {v : Int32} (h : ∀ j, σ m j = if j < n then v else 0) : filr (zr σ m) m 0 n v = σ := by
  funext a j
  by_cases c : a = m ∧ 0 ≤ j ∧ j < 0 + n
  · rw [filr_e c, c.1, h, if_pos (by omega)]
  · rw [filr_n c]
    unfold zr
    by_cases d : a = m
    · rw [if_pos d, d, h, if_neg (fun w => c ⟨d, by omega, by omega⟩)]
    · rw [if_neg d]
section HN
variable {G : Gl} {KV : Hp → Prop} {σ : Sg} {a : Nat} {U : List Nat}
theorem ct_X10_init (tA : TF a = 11) (f1 : TF (a + 1) = 20 ∧ LF (a + 1) = 10 ∧ RF a 0 = some (a + 1)) (f2 : TF (a + 2) = 20 ∧ LF (a + 2) = 10 ∧ RF a 1 = some (a + 2)) (z1 : ∀ j, σ (a + 1) j = 0) (z2 : ∀ j, σ (a + 2) j = if j < 10 then -1 else 0) (hU : ∀ u ∈ U, u < a) (hq : KV (σ, stg (a + 3) (a :: U))) : CM G mX10_init (rm 2 2 20) [.ref a] (σ, stg (a + 1) (a :: U)) (QV KV) := by
  refine CM.of (by decide) (Nat.le_of_ble_eq_true rfl) (cats1 rfl) ?_
  refine V_aload_n (pc := 0) d_X10_init_0 rfl ?_
  refine V_obj (pc := 1) d_X10_init_1 c_X10_3 (by decide) (by decide) ?_
  refine V_aload_n (pc := 4) d_X10_init_4 rfl ?_
  refine V_bipush (pc := 5) (nI 10) d_X10_init_5 (by decide) ?_
  refine S_newI0 (pc := 7) (a + 2) d_X10_init_7 rfl (by decide) (by constructor <;> simp only [rm] <;> omega) f1.1 f1.2.1 rfl z1 ?_
  refine S_put (pc := 9) d_X10_init_9 f_X10_9 (fun _ => ⟨rfl, _, rfl, rfl⟩) tA (by omega) ⟨tyX10 0, tyX10_ok 0 (by decide), Or.inr ⟨_, rfl⟩⟩ f1.2.2 (by omega) (nin_1 hU (by omega)) ?_
  refine V_aload_n (pc := 12) d_X10_init_12 rfl ?_
  refine V_bipush (pc := 13) (nI 10) d_X10_init_13 (by decide) ?_
  refine S_newI (pc := 15) (a + 3) d_X10_init_15 rfl (by decide) (by constructor <;> simp only [rm] <;> omega) f2.1 f2.2.1 rfl ?_
  refine S_put (pc := 17) d_X10_init_17 f_X10_15 (fun _ => ⟨rfl, _, rfl, rfl⟩) tA (by omega) ⟨tyX10 1, tyX10_ok 1 (by decide), Or.inr ⟨_, rfl⟩⟩ f2.2.2 (by omega) (nin_1 hU (by omega)) ?_
  refine V_aload_n (pc := 20) d_X10_init_20 rfl ?_
  refine S_get (pc := 21) d_X10_init_21 f_X10_15 tA (by omega) f2.2.2 (by omega) (nin_1 hU (by omega)) ?_
  refine V_iconst (pc := 24) (-1) d_X10_init_24 (by decide) ?_
  refine V_csV (pc := 25) (n := 1) [_, _] d_X10_init_25 c_X10_18 k_J_fill rfl (Nat.le_of_ble_eq_true rfl) ⟨Nat.le_of_ble_eq_true rfl, Nat.le_of_ble_eq_true rfl⟩ (by constructor <;> simp only [rm] <;> omega) (ct_J_fill (n := 10) (stg_T (by omega) f2.1) (stg_L (by omega) f2.2.1) (by decide) ?_)
  rw [fil_zr z2]
  exact V_retV (pc := 28) d_X10_init_28 rfl ⟨by decide, by decide⟩ hq
theorem ct_X1_init (tA : TF a = 2) (z0 : ∀ j, σ a j = 0) (hU : ∀ u ∈ U, u < a) (hq : KV (σ, stg (a + 1) (a :: U))) : CM G mX1_init (rm 1 0 0) [.ref a] (σ, stg (a + 1) (a :: U)) (QV KV) := by
  refine CM.of (by decide) (Nat.le_of_ble_eq_true rfl) (cats1 rfl) ?_
  refine V_aload_n (pc := 0) d_X1_init_0 rfl ?_
  refine V_obj (pc := 1) d_X1_init_1 c_X1_3 (by decide) (by decide) ?_
  refine V_aload_n (pc := 4) d_X1_init_4 rfl ?_
  refine V_iconst (pc := 5) (0) d_X1_init_5 (by decide) ?_
  refine S_putI (pc := 6) d_X1_init_6 f_X1_9 tA (by omega) (z0 _) ?_
  refine V_aload_n (pc := 9) d_X1_init_9 rfl ?_
  refine V_iconst (pc := 10) (0) d_X1_init_10 (by decide) ?_
  refine S_putI (pc := 11) d_X1_init_11 f_X1_15 tA (by omega) (z0 _) ?_
  refine V_aload_n (pc := 14) d_X1_init_14 rfl ?_
  refine V_iconst (pc := 15) (0) d_X1_init_15 (by decide) ?_
  refine S_putI (pc := 16) d_X1_init_16 f_X1_18 tA (by omega) (z0 _) ?_
  refine V_aload_n (pc := 19) d_X1_init_19 rfl ?_
  refine V_iconst (pc := 20) (0) d_X1_init_20 (by decide) ?_
  refine S_putI (pc := 21) d_X1_init_21 f_X1_21 tA (by omega) (z0 _) ?_
  refine V_aload_n (pc := 24) d_X1_init_24 rfl ?_
  refine V_iconst (pc := 25) (0) d_X1_init_25 (by decide) ?_
  refine S_putI (pc := 26) d_X1_init_26 f_X1_24 tA (by omega) (z0 _) ?_
  exact V_retV (pc := 29) d_X1_init_29 rfl ⟨by decide, by decide⟩ hq
theorem ct_X8_init (tA : TF a = 9) (z0 : ∀ j, σ a j = 0) (hU : ∀ u ∈ U, u < a) (hq : KV (σ, stg (a + 1) (a :: U))) : CM G mX8_init (rm 1 0 0) [.ref a] (σ, stg (a + 1) (a :: U)) (QV KV) := by
  refine CM.of (by decide) (Nat.le_of_ble_eq_true rfl) (cats1 rfl) ?_
  refine V_aload_n (pc := 0) d_X8_init_0 rfl ?_
  refine V_obj (pc := 1) d_X8_init_1 c_X8_1 (by decide) (by decide) ?_
  refine V_aload_n (pc := 4) d_X8_init_4 rfl ?_
  refine V_iconst (pc := 5) (0) d_X8_init_5 (by decide) ?_
  refine S_putI (pc := 6) d_X8_init_6 f_X8_7 tA (by omega) (z0 _) ?_
  refine V_aload_n (pc := 9) d_X8_init_9 rfl ?_
  refine V_iconst (pc := 10) (0) d_X8_init_10 (by decide) ?_
  refine S_putI (pc := 11) d_X8_init_11 f_X8_13 tA (by omega) (z0 _) ?_
  refine V_aload_n (pc := 14) d_X8_init_14 rfl ?_
  refine V_iconst (pc := 15) (0) d_X8_init_15 (by decide) ?_
  refine S_putI (pc := 16) d_X8_init_16 f_X8_16 tA (by omega) (z0 _) ?_
  exact V_retV (pc := 19) d_X8_init_19 rfl ⟨by decide, by decide⟩ hq
theorem ct_X5_init (tA : TF a = 6) (z0 : ∀ j, σ a j = 0) (hU : ∀ u ∈ U, u < a) (hq : KV (σ, stg (a + 1) (a :: U))) : CM G mX5_init (rm 1 0 0) [.ref a] (σ, stg (a + 1) (a :: U)) (QV KV) := by
  refine CM.of (by decide) (Nat.le_of_ble_eq_true rfl) (cats1 rfl) ?_
  refine V_aload_n (pc := 0) d_X5_init_0 rfl ?_
  refine V_obj (pc := 1) d_X5_init_1 c_X5_1 (by decide) (by decide) ?_
  refine V_aload_n (pc := 4) d_X5_init_4 rfl ?_
  refine V_iconst (pc := 5) (0) d_X5_init_5 (by decide) ?_
  refine S_putI (pc := 6) d_X5_init_6 f_X5_7 tA (by omega) (z0 _) ?_
  refine V_aload_n (pc := 9) d_X5_init_9 rfl ?_
  refine V_iconst (pc := 10) (0) d_X5_init_10 (by decide) ?_
  refine S_putI (pc := 11) d_X5_init_11 f_X5_13 tA (by omega) (z0 _) ?_
  refine V_aload_n (pc := 14) d_X5_init_14 rfl ?_
  refine V_iconst (pc := 15) (0) d_X5_init_15 (by decide) ?_
  refine S_putI (pc := 16) d_X5_init_16 f_X5_16 tA (by omega) (z0 _) ?_
  refine V_aload_n (pc := 19) d_X5_init_19 rfl ?_
  refine V_iconst (pc := 20) (0) d_X5_init_20 (by decide) ?_
  refine S_putI (pc := 21) d_X5_init_21 f_X5_19 tA (by omega) (z0 _) ?_
  exact V_retV (pc := 24) d_X5_init_24 rfl ⟨by decide, by decide⟩ hq
theorem ct_X7_init (tA : TF a = 8) (f1 : TF (a + 1) = 20 ∧ LF (a + 1) = 100 ∧ RF a 5 = some (a + 1)) (z0 : ∀ j, σ a j = 0) (z1 : ∀ j, σ (a + 1) j = 0) (hU : ∀ u ∈ U, u < a) (hq : KV (σ, stg (a + 2) (a :: U))) : CM G mX7_init (rm 1 1 100) [.ref a] (σ, stg (a + 1) (a :: U)) (QV KV) := by
  refine CM.of (by decide) (Nat.le_of_ble_eq_true rfl) (cats1 rfl) ?_
  refine V_aload_n (pc := 0) d_X7_init_0 rfl ?_
  refine V_obj (pc := 1) d_X7_init_1 c_X7_3 (by decide) (by decide) ?_
  refine V_aload_n (pc := 4) d_X7_init_4 rfl ?_
  refine V_iconst (pc := 5) (0) d_X7_init_5 (by decide) ?_
  refine S_putI (pc := 6) d_X7_init_6 f_X7_9 tA (by omega) (z0 _) ?_
  refine V_aload_n (pc := 9) d_X7_init_9 rfl ?_
  refine V_iconst (pc := 10) (0) d_X7_init_10 (by decide) ?_
  refine S_putI (pc := 11) d_X7_init_11 f_X7_15 tA (by omega) (z0 _) ?_
  refine V_aload_n (pc := 14) d_X7_init_14 rfl ?_
  refine V_iconst (pc := 15) (0) d_X7_init_15 (by decide) ?_
  refine S_putI (pc := 16) d_X7_init_16 f_X7_18 tA (by omega) (z0 _) ?_
  refine V_aload_n (pc := 19) d_X7_init_19 rfl ?_
  refine V_iconst (pc := 20) (0) d_X7_init_20 (by decide) ?_
  refine S_putI (pc := 21) d_X7_init_21 f_X7_21 tA (by omega) (z0 _) ?_
  refine V_aload_n (pc := 24) d_X7_init_24 rfl ?_
  refine V_iconst (pc := 25) (0) d_X7_init_25 (by decide) ?_
  refine S_putZ (pc := 26) d_X7_init_26 f_X7_24 tA (by omega) (Or.inl rfl) (z0 _) ?_
  refine V_aload_n (pc := 29) d_X7_init_29 rfl ?_
  refine V_bipush (pc := 30) (nI 100) d_X7_init_30 (by decide) ?_
  refine S_newI0 (pc := 32) (a + 2) d_X7_init_32 rfl (by decide) (by constructor <;> simp only [rm] <;> omega) f1.1 f1.2.1 rfl z1 ?_
  refine S_put (pc := 34) d_X7_init_34 f_X7_28 (fun _ => ⟨rfl, _, rfl, rfl⟩) tA (by omega) ⟨tyX7 5, tyX7_ok 5 (by decide), Or.inr ⟨_, rfl⟩⟩ f1.2.2 (by omega) (nin_1 hU (by omega)) ?_
  exact V_retV (pc := 37) d_X7_init_37 rfl ⟨by decide, by decide⟩ hq
theorem ct_X3_init (tA : TF a = 4) (fw : TF (a + 1) = 11 ∧ LF (a + 1) = 0 ∧ RF a 1 = some (a + 1)) (fx : TF (a + 1 + 1) = 20 ∧ LF (a + 1 + 1) = 10 ∧ RF (a + 1) 0 = some (a + 1 + 1)) (fy : TF (a + 1 + 2) = 20 ∧ LF (a + 1 + 2) = 10 ∧ RF (a + 1) 1 = some (a + 1 + 2)) (z0 : ∀ j, σ a j = 0) (z1 : ∀ j, σ (a + 1) j = 0) (z2 : ∀ j, σ (a + 1 + 1) j = 0) (z3 : ∀ j, σ (a + 1 + 2) j = if j < 10 then -1 else 0) (hU : ∀ u ∈ U, u < a) (hq : KV (σ, stg (a + 4) (a :: U))) : CM G mX3_init (rm 3 3 22) [.ref a] (σ, stg (a + 1) (a :: U)) (QV KV) := by
  refine CM.of (by decide) (Nat.le_of_ble_eq_true rfl) (cats1 rfl) ?_
  refine V_aload_n (pc := 0) d_X3_init_0 rfl ?_
  refine V_obj (pc := 1) d_X3_init_1 c_X3_1 (by decide) (by decide) ?_
  refine V_aload_n (pc := 4) d_X3_init_4 rfl ?_
  refine V_iconst (pc := 5) (0) d_X3_init_5 (by decide) ?_
  refine S_putI (pc := 6) d_X3_init_6 f_X3_7 tA (by omega) (z0 _) ?_
  refine V_aload_n (pc := 9) d_X3_init_9 rfl ?_
  refine S_newC0 (pc := 10) (c := 10) (a + 1 + 1) d_X3_init_10 rfl g_X3_13 n_X10 z_X10 (by constructor <;> simp only [rm] <;> omega) fw.1 fw.2.1 rfl z1 ?_
  refine V_dup (pc := 13) d_X3_init_13 rfl ?_
  refine V_ciV (pc := 14) d_X3_init_14 c_X3_15 k_X10_init ⟨rfl, rfl⟩ (Nat.le_of_ble_eq_true rfl) ⟨Nat.le_of_ble_eq_true rfl, Nat.le_of_ble_eq_true rfl⟩ (by constructor <;> simp only [rm] <;> omega) (ct_X10_init (a := a + 1) (U := a :: U) fw.1 fx fy z2 z3 (lt_cons hU (by omega)) ?_)
  refine S_put (pc := 17) d_X3_init_17 f_X3_16 (fun _ => ⟨rfl, _, rfl, rfl⟩) tA (by omega) ⟨tyX3 1, tyX3_ok 1 (by decide), Or.inl ⟨_, rfl⟩⟩ fw.2.2 (by omega) (nin_1 hU (by omega)) ?_
  exact V_retV (pc := 20) d_X3_init_20 rfl ⟨by decide, by decide⟩ hq
theorem ct_X2_init (tA : TF a = 3) (fw : TF (a + 1) = 11 ∧ LF (a + 1) = 0 ∧ RF a 9 = some (a + 1)) (fx : TF (a + 1 + 1) = 20 ∧ LF (a + 1 + 1) = 10 ∧ RF (a + 1) 0 = some (a + 1 + 1)) (fy : TF (a + 1 + 2) = 20 ∧ LF (a + 1 + 2) = 10 ∧ RF (a + 1) 1 = some (a + 1 + 2)) (z0 : ∀ j, σ a j = 0) (z1 : ∀ j, σ (a + 1) j = 0) (z2 : ∀ j, σ (a + 1 + 1) j = 0) (z3 : ∀ j, σ (a + 1 + 2) j = if j < 10 then -1 else 0) (hU : ∀ u ∈ U, u < a) (hq : KV (σ, stg (a + 4) (a :: U))) : CM G mX2_init (rm 3 3 22) [.ref a] (σ, stg (a + 1) (a :: U)) (QV KV) := by
  refine CM.of (by decide) (Nat.le_of_ble_eq_true rfl) (cats1 rfl) ?_
  refine V_aload_n (pc := 0) d_X2_init_0 rfl ?_
  refine V_obj (pc := 1) d_X2_init_1 c_X2_3 (by decide) (by decide) ?_
  refine V_aload_n (pc := 4) d_X2_init_4 rfl ?_
  refine V_iconst (pc := 5) (0) d_X2_init_5 (by decide) ?_
  refine S_putI (pc := 6) d_X2_init_6 f_X2_9 tA (by omega) (z0 _) ?_
  refine V_aload_n (pc := 9) d_X2_init_9 rfl ?_
  refine V_iconst (pc := 10) (0) d_X2_init_10 (by decide) ?_
  refine S_putI (pc := 11) d_X2_init_11 f_X2_15 tA (by omega) (z0 _) ?_
  refine V_aload_n (pc := 14) d_X2_init_14 rfl ?_
  refine V_iconst (pc := 15) (0) d_X2_init_15 (by decide) ?_
  refine S_putI (pc := 16) d_X2_init_16 f_X2_18 tA (by omega) (z0 _) ?_
  refine V_aload_n (pc := 19) d_X2_init_19 rfl ?_
  refine V_iconst (pc := 20) (0) d_X2_init_20 (by decide) ?_
  refine S_putI (pc := 21) d_X2_init_21 f_X2_21 tA (by omega) (z0 _) ?_
  refine V_aload_n (pc := 24) d_X2_init_24 rfl ?_
  refine V_iconst (pc := 25) (0) d_X2_init_25 (by decide) ?_
  refine S_putI (pc := 26) d_X2_init_26 f_X2_24 tA (by omega) (z0 _) ?_
  refine V_aload_n (pc := 29) d_X2_init_29 rfl ?_
  refine V_iconst (pc := 30) (0) d_X2_init_30 (by decide) ?_
  refine S_putI (pc := 31) d_X2_init_31 f_X2_27 tA (by omega) (z0 _) ?_
  refine V_aload_n (pc := 34) d_X2_init_34 rfl ?_
  refine V_iconst (pc := 35) (0) d_X2_init_35 (by decide) ?_
  refine S_putI (pc := 36) d_X2_init_36 f_X2_30 tA (by omega) (z0 _) ?_
  refine V_aload_n (pc := 39) d_X2_init_39 rfl ?_
  refine V_iconst (pc := 40) (0) d_X2_init_40 (by decide) ?_
  refine S_putI (pc := 41) d_X2_init_41 f_X2_33 tA (by omega) (z0 _) ?_
  refine V_aload_n (pc := 44) d_X2_init_44 rfl ?_
  refine V_iconst (pc := 45) (0) d_X2_init_45 (by decide) ?_
  refine S_putI (pc := 46) d_X2_init_46 f_X2_36 tA (by omega) (z0 _) ?_
  refine V_aload_n (pc := 49) d_X2_init_49 rfl ?_
  refine S_newC0 (pc := 50) (c := 10) (a + 1 + 1) d_X2_init_50 rfl g_X2_39 n_X10 z_X10 (by constructor <;> simp only [rm] <;> omega) fw.1 fw.2.1 rfl z1 ?_
  refine V_dup (pc := 53) d_X2_init_53 rfl ?_
  refine V_ciV (pc := 54) d_X2_init_54 c_X2_41 k_X10_init ⟨rfl, rfl⟩ (Nat.le_of_ble_eq_true rfl) ⟨Nat.le_of_ble_eq_true rfl, Nat.le_of_ble_eq_true rfl⟩ (by constructor <;> simp only [rm] <;> omega) (ct_X10_init (a := a + 1) (U := a :: U) fw.1 fx fy z2 z3 (lt_cons hU (by omega)) ?_)
  refine S_put (pc := 57) d_X2_init_57 f_X2_42 (fun _ => ⟨rfl, _, rfl, rfl⟩) tA (by omega) ⟨tyX2 9, tyX2_ok 9 (by decide), Or.inl ⟨_, rfl⟩⟩ fw.2.2 (by omega) (nin_1 hU (by omega)) ?_
  exact V_retV (pc := 60) d_X2_init_60 rfl ⟨by decide, by decide⟩ hq
theorem ct_X0_init (tA : TF a = 1) (f1 : TF (a + 1) = 20 ∧ LF (a + 1) = 50 ∧ RF a 1 = some (a + 1)) (z0 : ∀ j, σ a j = 0) (z1 : ∀ j, σ (a + 1) j = 0) (hU : ∀ u ∈ U, u < a) (hq : KV (σ, stg (a + 2) (a :: U))) : CM G mX0_init (rm 1 1 50) [.ref a] (σ, stg (a + 1) (a :: U)) (QV KV) := by
  refine CM.of (by decide) (Nat.le_of_ble_eq_true rfl) (cats1 rfl) ?_
  refine V_aload_n (pc := 0) d_X0_init_0 rfl ?_
  refine V_obj (pc := 1) d_X0_init_1 c_X0_3 (by decide) (by decide) ?_
  refine V_aload_n (pc := 4) d_X0_init_4 rfl ?_
  refine V_iconst (pc := 5) (0) d_X0_init_5 (by decide) ?_
  refine S_putI (pc := 6) d_X0_init_6 f_X0_9 tA (by omega) (z0 _) ?_
  refine V_aload_n (pc := 9) d_X0_init_9 rfl ?_
  refine V_bipush (pc := 10) (nI 50) d_X0_init_10 (by decide) ?_
  refine S_newI0 (pc := 12) (a + 2) d_X0_init_12 rfl (by decide) (by constructor <;> simp only [rm] <;> omega) f1.1 f1.2.1 rfl z1 ?_
  refine S_put (pc := 14) d_X0_init_14 f_X0_15 (fun _ => ⟨rfl, _, rfl, rfl⟩) tA (by omega) ⟨tyX0 1, tyX0_ok 1 (by decide), Or.inr ⟨_, rfl⟩⟩ f1.2.2 (by omega) (nin_1 hU (by omega)) ?_
  exact V_retV (pc := 17) d_X0_init_17 rfl ⟨by decide, by decide⟩ hq
theorem ct_X9_init (tA : TF a = 10) (f1 : TF (a + 1) = 20 ∧ LF (a + 1) = 10 ∧ RF a 2 = some (a + 1)) (f2 : TF (a + 2) = 20 ∧ LF (a + 2) = 10 ∧ RF a 3 = some (a + 2)) (f3 : TF (a + 3) = 20 ∧ LF (a + 3) = 1100 ∧ RF a 4 = some (a + 3)) (z0 : ∀ j, σ a j = 0) (z1 : ∀ j, σ (a + 1) j = 0) (z2 : ∀ j, σ (a + 2) j = 0) (z3 : ∀ j, σ (a + 3) j = 0) (hU : ∀ u ∈ U, u < a) (hq : KV (σ, stg (a + 4) (a :: U))) : CM G mX9_init (rm 1 3 1120) [.ref a] (σ, stg (a + 1) (a :: U)) (QV KV) := by
  refine CM.of (by decide) (Nat.le_of_ble_eq_true rfl) (cats1 rfl) ?_
  refine V_aload_n (pc := 0) d_X9_init_0 rfl ?_
  refine V_obj (pc := 1) d_X9_init_1 c_X9_3 (by decide) (by decide) ?_
  refine V_aload_n (pc := 4) d_X9_init_4 rfl ?_
  refine V_iconst (pc := 5) (0) d_X9_init_5 (by decide) ?_
  refine S_putI (pc := 6) d_X9_init_6 f_X9_9 tA (by omega) (z0 _) ?_
  refine V_aload_n (pc := 9) d_X9_init_9 rfl ?_
  refine V_iconst (pc := 10) (0) d_X9_init_10 (by decide) ?_
  refine S_putI (pc := 11) d_X9_init_11 f_X9_15 tA (by omega) (z0 _) ?_
  refine V_aload_n (pc := 14) d_X9_init_14 rfl ?_
  refine V_bipush (pc := 15) (nI 10) d_X9_init_15 (by decide) ?_
  refine S_newI0 (pc := 17) (a + 2) d_X9_init_17 rfl (by decide) (by constructor <;> simp only [rm] <;> omega) f1.1 f1.2.1 rfl z1 ?_
  refine S_put (pc := 19) d_X9_init_19 f_X9_18 (fun _ => ⟨rfl, _, rfl, rfl⟩) tA (by omega) ⟨tyX9 2, tyX9_ok 2 (by decide), Or.inr ⟨_, rfl⟩⟩ f1.2.2 (by omega) (nin_1 hU (by omega)) ?_
  refine V_aload_n (pc := 22) d_X9_init_22 rfl ?_
  refine V_bipush (pc := 23) (nI 10) d_X9_init_23 (by decide) ?_
  refine S_newI0 (pc := 25) (a + 3) d_X9_init_25 rfl (by decide) (by constructor <;> simp only [rm] <;> omega) f2.1 f2.2.1 rfl z2 ?_
  refine S_put (pc := 27) d_X9_init_27 f_X9_22 (fun _ => ⟨rfl, _, rfl, rfl⟩) tA (by omega) ⟨tyX9 3, tyX9_ok 3 (by decide), Or.inr ⟨_, rfl⟩⟩ f2.2.2 (by omega) (nin_1 hU (by omega)) ?_
  refine V_aload_n (pc := 30) d_X9_init_30 rfl ?_
  refine V_sipush (pc := 31) (nI 1100) d_X9_init_31 (by decide) ?_
  refine S_newI0 (pc := 34) (a + 4) d_X9_init_34 rfl (by decide) (by constructor <;> simp only [rm] <;> omega) f3.1 f3.2.1 rfl z3 ?_
  refine S_put (pc := 36) d_X9_init_36 f_X9_25 (fun _ => ⟨rfl, _, rfl, rfl⟩) tA (by omega) ⟨tyX9 4, tyX9_ok 4 (by decide), Or.inr ⟨_, rfl⟩⟩ f3.2.2 (by omega) (nin_1 hU (by omega)) ?_
  exact V_retV (pc := 39) d_X9_init_39 rfl ⟨by decide, by decide⟩ hq
theorem ct_X6_init (tA : TF a = 7) (f1 : TF (a + 1) = 20 ∧ LF (a + 1) = 40 ∧ RF a 2 = some (a + 1)) (z0 : ∀ j, σ a j = if j = 0 then -1 else 0) (z1 : ∀ j, σ (a + 1) j = 0) (hU : ∀ u ∈ U, u < a) (hq : KV (σ, stg (a + 2) (a :: U))) : CM G mX6_init (rm 1 1 40) [.ref a] (zr σ a, stg (a + 1) (a :: U)) (QV KV) := by
  refine CM.of (by decide) (Nat.le_of_ble_eq_true rfl) (cats1 rfl) ?_
  refine V_aload_n (pc := 0) d_X6_init_0 rfl ?_
  refine V_obj (pc := 1) d_X6_init_1 c_X6_3 (by decide) (by decide) ?_
  refine V_aload_n (pc := 4) d_X6_init_4 rfl ?_
  refine V_iconst (pc := 5) (-1) d_X6_init_5 (by decide) ?_
  refine P_putI (pc := 6) d_X6_init_6 f_X6_9 (stg_T (by omega) tA) ?_
  have es : up2 (zr σ a) a 0 (-1) = σ := by
    funext c j
    by_cases w : c = a ∧ j = 0
    · rw [up2_e w, w.1, w.2, z0, if_pos rfl]
    · rw [up2_n w]
      unfold zr
      by_cases v : c = a
      · rw [if_pos v, v, z0, if_neg (fun q => w ⟨v, q⟩)]
      · rw [if_neg v]
  rw [es]
  refine V_aload_n (pc := 9) d_X6_init_9 rfl ?_
  refine V_iconst (pc := 10) (0) d_X6_init_10 (by decide) ?_
  refine S_putI (pc := 11) d_X6_init_11 f_X6_15 tA (by omega) ((z0 1).trans (if_neg (by decide))) ?_
  refine V_aload_n (pc := 14) d_X6_init_14 rfl ?_
  refine V_bipush (pc := 15) (nI 40) d_X6_init_15 (by decide) ?_
  refine S_newI0 (pc := 17) (a + 2) d_X6_init_17 rfl (by decide) (by constructor <;> simp only [rm] <;> omega) f1.1 f1.2.1 rfl z1 ?_
  refine S_put (pc := 19) d_X6_init_19 f_X6_18 (fun _ => ⟨rfl, _, rfl, rfl⟩) tA (by omega) ⟨tyX6 2, tyX6_ok 2 (by decide), Or.inr ⟨_, rfl⟩⟩ f1.2.2 (by omega) (nin_1 hU (by omega)) ?_
  exact V_retV (pc := 22) d_X6_init_22 rfl ⟨by decide, by decide⟩ hq
end HN
/-- the ints of a new river -/
def rI (o j : Nat) : Int32 := if o = 1 then (if j < 100 then -1000 else 0) else if 32 ≤ o ∧ o ≤ 92 ∧ o % 4 = 0 then (if j < 10 then -1 else 0) else 0
theorem rI_z {o j : Nat} (h1 : o ≠ 1) (h2 : ¬ (32 ≤ o ∧ o ≤ 92 ∧ o % 4 = 0)) : rI o j = 0 := by rw [rI, if_neg h1, if_neg h2]
theorem rI_1 {j : Nat} : rI 1 j = if j < 100 then -1000 else 0 := if_pos rfl
theorem rI_q {o j : Nat} (h2 : 32 ≤ o ∧ o ≤ 92 ∧ o % 4 = 0) : rI o j = if j < 10 then -1 else 0 := by rw [rI, if_neg (by omega), if_pos h2]
def RI (σ : Sg) (r : Nat) : Prop := ∀ o, o < 119 → ∀ j, σ (r + o) j = rI o j
theorem RI_z {σ : Sg} {r a : Nat} (h : RI σ r) (o : Nat) (ha : a = r + o) (ho : o < 119) (h1 : o ≠ 1) (h2 : ¬ (32 ≤ o ∧ o ≤ 92 ∧ o % 4 = 0)) : ∀ j, σ a j = 0 := fun j => by rw [ha, h o ho, rI_z h1 h2]
theorem RI_q {σ : Sg} {r a : Nat} (h : RI σ r) (o : Nat) (ha : a = r + o) (h2 : 32 ≤ o ∧ o ≤ 92 ∧ o % 4 = 0) : ∀ j, σ a j = if j < 10 then -1 else 0 := fun j => by rw [ha, h o (by omega), rI_q h2]
section HM
variable {G : Gl} {KV : Hp → Prop} {F : Fn} {σ : Sg} {r : Nat} {U : List Nat}
theorem lp_nS (hr : RTb r) (hI : RI σ r) (hU : ∀ u ∈ U, u < r) (hX : V G mX4_init (rm 4 118 1846) F (8 + 2 * 10) (252 + 106 * 10) 150 [some (.ref r), some (.int (nI 10))] [] (σ, stg (r + 9 + 2 * 10) (r :: U))) : ∀ n, n ≤ 10 → ∀ j, j + n = 10 → V G mX4_init (rm 4 118 1846) F (8 + 2 * j) (252 + 106 * j) 125 [some (.ref r), some (.int (nI j))] [] (σ, stg (r + 9 + 2 * j) (r :: U)) := by
  intro n
  induction n with
  | zero =>
    intro _ j hj
    obtain rfl : j = 10 := by omega
    refine V_iload_n (pc := 125) d_X4_init_125 rfl ?_
    refine V_bipush (pc := 126) (nI 10) d_X4_init_126 (by decide) ?_
    refine B_icmp_ge (pc := 128) 150 d_X4_init_128 (by decide) (fun c0 => ?_) (fun c0 => ?_)
    · exact hX
    · exact absurd (by decide) c0
  | succ n ih =>
    intro _ j hj
    have hj1 : j < 10 := by omega
    refine V_iload_n (pc := 125) d_X4_init_125 rfl ?_
    refine V_bipush (pc := 126) (nI 10) d_X4_init_126 (by decide) ?_
    refine B_icmp_ge (pc := 128) 150 d_X4_init_128 (by decide) (fun c0 => ?_) (fun c0 => ?_)
    · simp (disch := omega) only [nI_toInt, show (nI 10).toInt = 10 from by decide] at c0
      omega
    · clear c0
      refine V_aload_n (pc := 131) d_X4_init_131 rfl ?_
      refine S_get (pc := 132) d_X4_init_132 f_X4_46 (jc0 hr (i := 0) (by decide)).1 (by omega) (jc3 hr (i := 0) (by decide)).2.2 (by omega) (nin_1 hU (by omega)) ?_
      refine V_iload_n (pc := 135) d_X4_init_135 rfl ?_
      refine S_newC0 (pc := 136) (c := 7) (r + 9 + 2 * j + 1) d_X4_init_136 rfl g_X4_44 n_X7 z_X7 (by constructor <;> simp only [rm] <;> omega) (jeS hr hj1).1 (jeS hr hj1).2.1 rfl (RI_z hI (9 + 2 * j) (by omega) (by omega) (by omega) (by omega)) ?_
      refine V_dup (pc := 139) d_X4_init_139 rfl ?_
      refine V_ciV (pc := 140) d_X4_init_140 c_X4_86 k_X7_init ⟨rfl, rfl⟩ (Nat.le_of_ble_eq_true rfl) ⟨Nat.le_of_ble_eq_true rfl, Nat.le_of_ble_eq_true rfl⟩ (by constructor <;> simp only [rm] <;> omega) (ct_X7_init (a := r + 9 + 2 * j) (U := r :: U) (jeS hr hj1).1 (jsS hr hj1) (RI_z hI (9 + 2 * j) (by omega) (by omega) (by omega) (by omega)) (RI_z hI (9 + 2 * j + 1) (by omega) (by omega) (by omega) (by omega)) (lt_cons hU (by omega)) ?_)
      refine S_ast (pc := 143) (c := 7) (j := j) (n := 10) d_X4_init_143 (jc3 hr (i := 0) (by decide)).1 (by omega) (by decide) rfl (jc3 hr (i := 0) (by decide)).2.1 (by omega) (by decide) (jeS hr hj1).1 (jeS hr hj1).2.2 (by omega) (nin_1 hU (by omega)) ?_
      refine V_iinc (pc := 144) d_X4_init_144 rfl (by decide) ?_
      refine V_goto (pc := 147) 125 d_X4_init_147 (by decide) ?_
      rw [p1_s]
      refine V_wd (gc2 := (8 + 2 * (j + 1))) (gs2 := (252 + 106 * (j + 1))) (by simp only [rm]; omega) (by simp only [rm]; omega) ?_
      exact ih (by omega) (j + 1) (by omega)
theorem lp_nL (hr : RTb r) (hI : RI σ r) (hU : ∀ u ∈ U, u < r) (hX : V G mX4_init (rm 4 118 1846) F (28 + 4 * 11) (1312 + 24 * 11) 177 [some (.ref r), some (.int (nI 11))] [] (σ, stg (r + 29 + 4 * 11) (r :: U))) : ∀ n, n ≤ 11 → ∀ j, j + n = 11 → V G mX4_init (rm 4 118 1846) F (28 + 4 * j) (1312 + 24 * j) 152 [some (.ref r), some (.int (nI j))] [] (σ, stg (r + 29 + 4 * j) (r :: U)) := by
  intro n
  induction n with
  | zero =>
    intro _ j hj
    obtain rfl : j = 11 := by omega
    refine V_iload_n (pc := 152) d_X4_init_152 rfl ?_
    refine V_bipush (pc := 153) (nI 11) d_X4_init_153 (by decide) ?_
    refine B_icmp_ge (pc := 155) 177 d_X4_init_155 (by decide) (fun c0 => ?_) (fun c0 => ?_)
    · exact hX
    · exact absurd (by decide) c0
  | succ n ih =>
    intro _ j hj
    have hj1 : j < 11 := by omega
    refine V_iload_n (pc := 152) d_X4_init_152 rfl ?_
    refine V_bipush (pc := 153) (nI 11) d_X4_init_153 (by decide) ?_
    refine B_icmp_ge (pc := 155) 177 d_X4_init_155 (by decide) (fun c0 => ?_) (fun c0 => ?_)
    · simp (disch := omega) only [nI_toInt, show (nI 11).toInt = 11 from by decide] at c0
      omega
    · clear c0
      refine V_aload_n (pc := 158) d_X4_init_158 rfl ?_
      refine S_get (pc := 159) d_X4_init_159 f_X4_52 (jc0 hr (i := 0) (by decide)).1 (by omega) (jc4 hr (i := 0) (by decide)).2.2 (by omega) (nin_1 hU (by omega)) ?_
      refine V_iload_n (pc := 162) d_X4_init_162 rfl ?_
      refine S_newC0 (pc := 163) (c := 3) (r + 29 + 4 * j + 1) d_X4_init_163 rfl g_X4_50 n_X3 z_X3 (by constructor <;> simp only [rm] <;> omega) (jeL hr hj1).1 (jeL hr hj1).2.1 rfl (RI_z hI (29 + 4 * j) (by omega) (by omega) (by omega) (by omega)) ?_
      refine V_dup (pc := 166) d_X4_init_166 rfl ?_
      refine V_ciV (pc := 167) d_X4_init_167 c_X4_87 k_X3_init ⟨rfl, rfl⟩ (Nat.le_of_ble_eq_true rfl) ⟨Nat.le_of_ble_eq_true rfl, Nat.le_of_ble_eq_true rfl⟩ (by constructor <;> simp only [rm] <;> omega) (ct_X3_init (a := r + 29 + 4 * j) (U := r :: U) (jeL hr hj1).1 (jwL hr hj1) (jxL hr hj1) (jyL hr hj1) (RI_z hI (29 + 4 * j) (by omega) (by omega) (by omega) (by omega)) (RI_z hI (29 + 4 * j + 1) (by omega) (by omega) (by omega) (by omega)) (RI_z hI (29 + 4 * j + 1 + 1) (by omega) (by omega) (by omega) (by omega)) (RI_q hI (29 + 4 * j + 1 + 2) (by omega) (by omega)) (lt_cons hU (by omega)) ?_)
      refine S_ast (pc := 170) (c := 3) (j := j) (n := 11) d_X4_init_170 (jc4 hr (i := 0) (by decide)).1 (by omega) (by decide) rfl (jc4 hr (i := 0) (by decide)).2.1 (by omega) (by decide) (jeL hr hj1).1 (jeL hr hj1).2.2 (by omega) (nin_1 hU (by omega)) ?_
      refine V_iinc (pc := 171) d_X4_init_171 rfl (by decide) ?_
      refine V_goto (pc := 174) 152 d_X4_init_174 (by decide) ?_
      rw [p1_s]
      refine V_wd (gc2 := (28 + 4 * (j + 1))) (gs2 := (1312 + 24 * (j + 1))) (by simp only [rm]; omega) (by simp only [rm]; omega) ?_
      exact ih (by omega) (j + 1) (by omega)
theorem lp_nB (hr : RTb r) (hI : RI σ r) (hU : ∀ u ∈ U, u < r) (hX : V G mX4_init (rm 4 118 1846) F (72 + 4 * 5) (1576 + 32 * 5) 203 [some (.ref r), some (.int (nI 5))] [] (σ, stg (r + 73 + 4 * 5) (r :: U))) : ∀ n, n ≤ 5 → ∀ j, j + n = 5 → V G mX4_init (rm 4 118 1846) F (72 + 4 * j) (1576 + 32 * j) 179 [some (.ref r), some (.int (nI j))] [] (σ, stg (r + 73 + 4 * j) (r :: U)) := by
  intro n
  induction n with
  | zero =>
    intro _ j hj
    obtain rfl : j = 5 := by omega
    refine V_iload_n (pc := 179) d_X4_init_179 rfl ?_
    refine V_iconst (pc := 180) (nI 5) d_X4_init_180 (by decide) ?_
    refine B_icmp_ge (pc := 181) 203 d_X4_init_181 (by decide) (fun c0 => ?_) (fun c0 => ?_)
    · exact hX
    · exact absurd (by decide) c0
  | succ n ih =>
    intro _ j hj
    have hj1 : j < 5 := by omega
    refine V_iload_n (pc := 179) d_X4_init_179 rfl ?_
    refine V_iconst (pc := 180) (nI 5) d_X4_init_180 (by decide) ?_
    refine B_icmp_ge (pc := 181) 203 d_X4_init_181 (by decide) (fun c0 => ?_) (fun c0 => ?_)
    · simp (disch := omega) only [nI_toInt, show (nI 5).toInt = 5 from by decide] at c0
      omega
    · clear c0
      refine V_aload_n (pc := 184) d_X4_init_184 rfl ?_
      refine S_get (pc := 185) d_X4_init_185 f_X4_58 (jc0 hr (i := 0) (by decide)).1 (by omega) (jc5 hr (i := 0) (by decide)).2.2 (by omega) (nin_1 hU (by omega)) ?_
      refine V_iload_n (pc := 188) d_X4_init_188 rfl ?_
      refine S_newC0 (pc := 189) (c := 2) (r + 73 + 4 * j + 1) d_X4_init_189 rfl g_X4_56 n_X2 z_X2 (by constructor <;> simp only [rm] <;> omega) (jeB hr hj1).1 (jeB hr hj1).2.1 rfl (RI_z hI (73 + 4 * j) (by omega) (by omega) (by omega) (by omega)) ?_
      refine V_dup (pc := 192) d_X4_init_192 rfl ?_
      refine V_ciV (pc := 193) d_X4_init_193 c_X4_88 k_X2_init ⟨rfl, rfl⟩ (Nat.le_of_ble_eq_true rfl) ⟨Nat.le_of_ble_eq_true rfl, Nat.le_of_ble_eq_true rfl⟩ (by constructor <;> simp only [rm] <;> omega) (ct_X2_init (a := r + 73 + 4 * j) (U := r :: U) (jeB hr hj1).1 (jwB hr hj1) (jxB hr hj1) (jyB hr hj1) (RI_z hI (73 + 4 * j) (by omega) (by omega) (by omega) (by omega)) (RI_z hI (73 + 4 * j + 1) (by omega) (by omega) (by omega) (by omega)) (RI_z hI (73 + 4 * j + 1 + 1) (by omega) (by omega) (by omega) (by omega)) (RI_q hI (73 + 4 * j + 1 + 2) (by omega) (by omega)) (lt_cons hU (by omega)) ?_)
      refine S_ast (pc := 196) (c := 2) (j := j) (n := 5) d_X4_init_196 (jc5 hr (i := 0) (by decide)).1 (by omega) (by decide) rfl (jc5 hr (i := 0) (by decide)).2.1 (by omega) (by decide) (jeB hr hj1).1 (jeB hr hj1).2.2 (by omega) (nin_1 hU (by omega)) ?_
      refine V_iinc (pc := 197) d_X4_init_197 rfl (by decide) ?_
      refine V_goto (pc := 200) 179 d_X4_init_200 (by decide) ?_
      rw [p1_s]
      refine V_wd (gc2 := (72 + 4 * (j + 1))) (gs2 := (1576 + 32 * (j + 1))) (by simp only [rm]; omega) (by simp only [rm]; omega) ?_
      exact ih (by omega) (j + 1) (by omega)
theorem lp_nA (hr : RTb r) (hI : RI σ r) (hU : ∀ u ∈ U, u < r) (hX : V G mX4_init (rm 4 118 1846) F (92 + 1 * 12) (1736 + 5 * 12) 230 [some (.ref r), some (.int (nI 12))] [] (σ, stg (r + 93 + 12) (r :: U))) : ∀ n, n ≤ 12 → ∀ j, j + n = 12 → V G mX4_init (rm 4 118 1846) F (92 + 1 * j) (1736 + 5 * j) 205 [some (.ref r), some (.int (nI j))] [] (σ, stg (r + 93 + j) (r :: U)) := by
  intro n
  induction n with
  | zero =>
    intro _ j hj
    obtain rfl : j = 12 := by omega
    refine V_iload_n (pc := 205) d_X4_init_205 rfl ?_
    refine V_bipush (pc := 206) (nI 12) d_X4_init_206 (by decide) ?_
    refine B_icmp_ge (pc := 208) 230 d_X4_init_208 (by decide) (fun c0 => ?_) (fun c0 => ?_)
    · exact hX
    · exact absurd (by decide) c0
  | succ n ih =>
    intro _ j hj
    have hj1 : j < 12 := by omega
    refine V_iload_n (pc := 205) d_X4_init_205 rfl ?_
    refine V_bipush (pc := 206) (nI 12) d_X4_init_206 (by decide) ?_
    refine B_icmp_ge (pc := 208) 230 d_X4_init_208 (by decide) (fun c0 => ?_) (fun c0 => ?_)
    · simp (disch := omega) only [nI_toInt, show (nI 12).toInt = 12 from by decide] at c0
      omega
    · clear c0
      refine V_aload_n (pc := 211) d_X4_init_211 rfl ?_
      refine S_get (pc := 212) d_X4_init_212 f_X4_64 (jc0 hr (i := 0) (by decide)).1 (by omega) (jc6 hr (i := 0) (by decide)).2.2 (by omega) (nin_1 hU (by omega)) ?_
      refine V_iload_n (pc := 215) d_X4_init_215 rfl ?_
      refine S_newC0 (pc := 216) (c := 1) (r + 93 + j + 1) d_X4_init_216 rfl g_X4_62 n_X1 z_X1 (by constructor <;> simp only [rm] <;> omega) (jeA hr hj1).1 (jeA hr hj1).2.1 rfl (RI_z hI (93 + j) (by omega) (by omega) (by omega) (by omega)) ?_
      refine V_dup (pc := 219) d_X4_init_219 rfl ?_
      refine V_ciV (pc := 220) d_X4_init_220 c_X4_89 k_X1_init ⟨rfl, rfl⟩ (Nat.le_of_ble_eq_true rfl) ⟨Nat.le_of_ble_eq_true rfl, Nat.le_of_ble_eq_true rfl⟩ (by constructor <;> simp only [rm] <;> omega) (ct_X1_init (a := r + 93 + j) (U := r :: U) (jeA hr hj1).1 (RI_z hI (93 + j) (by omega) (by omega) (by omega) (by omega)) (lt_cons hU (by omega)) ?_)
      refine S_ast (pc := 223) (c := 1) (j := j) (n := 12) d_X4_init_223 (jc6 hr (i := 0) (by decide)).1 (by omega) (by decide) rfl (jc6 hr (i := 0) (by decide)).2.1 (by omega) (by decide) (jeA hr hj1).1 (jeA hr hj1).2.2 (by omega) (nin_1 hU (by omega)) ?_
      refine V_iinc (pc := 224) d_X4_init_224 rfl (by decide) ?_
      refine V_goto (pc := 227) 205 d_X4_init_227 (by decide) ?_
      rw [p1_s]
      refine V_wd (gc2 := (92 + 1 * (j + 1))) (gs2 := (1736 + 5 * (j + 1))) (by simp only [rm]; omega) (by simp only [rm]; omega) ?_
      exact ih (by omega) (j + 1) (by omega)
theorem lp_nP (hr : RTb r) (hI : RI σ r) (hU : ∀ u ∈ U, u < r) (hX : V G mX4_init (rm 4 118 1846) F (104 + 1 * 6) (1796 + 3 * 6) 257 [some (.ref r), some (.int (nI 6))] [] (σ, stg (r + 105 + 6) (r :: U))) : ∀ n, n ≤ 6 → ∀ j, j + n = 6 → V G mX4_init (rm 4 118 1846) F (104 + 1 * j) (1796 + 3 * j) 232 [some (.ref r), some (.int (nI j))] [] (σ, stg (r + 105 + j) (r :: U)) := by
  intro n
  induction n with
  | zero =>
    intro _ j hj
    obtain rfl : j = 6 := by omega
    refine V_iload_n (pc := 232) d_X4_init_232 rfl ?_
    refine V_bipush (pc := 233) (nI 6) d_X4_init_233 (by decide) ?_
    refine B_icmp_ge (pc := 235) 257 d_X4_init_235 (by decide) (fun c0 => ?_) (fun c0 => ?_)
    · exact hX
    · exact absurd (by decide) c0
  | succ n ih =>
    intro _ j hj
    have hj1 : j < 6 := by omega
    refine V_iload_n (pc := 232) d_X4_init_232 rfl ?_
    refine V_bipush (pc := 233) (nI 6) d_X4_init_233 (by decide) ?_
    refine B_icmp_ge (pc := 235) 257 d_X4_init_235 (by decide) (fun c0 => ?_) (fun c0 => ?_)
    · simp (disch := omega) only [nI_toInt, show (nI 6).toInt = 6 from by decide] at c0
      omega
    · clear c0
      refine V_aload_n (pc := 238) d_X4_init_238 rfl ?_
      refine S_get (pc := 239) d_X4_init_239 f_X4_70 (jc0 hr (i := 0) (by decide)).1 (by omega) (jc7 hr (i := 0) (by decide)).2.2 (by omega) (nin_1 hU (by omega)) ?_
      refine V_iload_n (pc := 242) d_X4_init_242 rfl ?_
      refine S_newC0 (pc := 243) (c := 8) (r + 105 + j + 1) d_X4_init_243 rfl g_X4_68 n_X8 z_X8 (by constructor <;> simp only [rm] <;> omega) (jeP hr hj1).1 (jeP hr hj1).2.1 rfl (RI_z hI (105 + j) (by omega) (by omega) (by omega) (by omega)) ?_
      refine V_dup (pc := 246) d_X4_init_246 rfl ?_
      refine V_ciV (pc := 247) d_X4_init_247 c_X4_90 k_X8_init ⟨rfl, rfl⟩ (Nat.le_of_ble_eq_true rfl) ⟨Nat.le_of_ble_eq_true rfl, Nat.le_of_ble_eq_true rfl⟩ (by constructor <;> simp only [rm] <;> omega) (ct_X8_init (a := r + 105 + j) (U := r :: U) (jeP hr hj1).1 (RI_z hI (105 + j) (by omega) (by omega) (by omega) (by omega)) (lt_cons hU (by omega)) ?_)
      refine S_ast (pc := 250) (c := 8) (j := j) (n := 6) d_X4_init_250 (jc7 hr (i := 0) (by decide)).1 (by omega) (by decide) rfl (jc7 hr (i := 0) (by decide)).2.1 (by omega) (by decide) (jeP hr hj1).1 (jeP hr hj1).2.2 (by omega) (nin_1 hU (by omega)) ?_
      refine V_iinc (pc := 251) d_X4_init_251 rfl (by decide) ?_
      refine V_goto (pc := 254) 232 d_X4_init_254 (by decide) ?_
      rw [p1_s]
      refine V_wd (gc2 := (104 + 1 * (j + 1))) (gs2 := (1796 + 3 * (j + 1))) (by simp only [rm]; omega) (by simp only [rm]; omega) ?_
      exact ih (by omega) (j + 1) (by omega)
theorem lp_nU (hr : RTb r) (hI : RI σ r) (hU : ∀ u ∈ U, u < r) (hX : V G mX4_init (rm 4 118 1846) F (110 + 1 * 8) (1814 + 4 * 8) 284 [some (.ref r), some (.int (nI 8))] [] (σ, stg (r + 111 + 8) (r :: U))) : ∀ n, n ≤ 8 → ∀ j, j + n = 8 → V G mX4_init (rm 4 118 1846) F (110 + 1 * j) (1814 + 4 * j) 259 [some (.ref r), some (.int (nI j))] [] (σ, stg (r + 111 + j) (r :: U)) := by
  intro n
  induction n with
  | zero =>
    intro _ j hj
    obtain rfl : j = 8 := by omega
    refine V_iload_n (pc := 259) d_X4_init_259 rfl ?_
    refine V_bipush (pc := 260) (nI 8) d_X4_init_260 (by decide) ?_
    refine B_icmp_ge (pc := 262) 284 d_X4_init_262 (by decide) (fun c0 => ?_) (fun c0 => ?_)
    · exact hX
    · exact absurd (by decide) c0
  | succ n ih =>
    intro _ j hj
    have hj1 : j < 8 := by omega
    refine V_iload_n (pc := 259) d_X4_init_259 rfl ?_
    refine V_bipush (pc := 260) (nI 8) d_X4_init_260 (by decide) ?_
    refine B_icmp_ge (pc := 262) 284 d_X4_init_262 (by decide) (fun c0 => ?_) (fun c0 => ?_)
    · simp (disch := omega) only [nI_toInt, show (nI 8).toInt = 8 from by decide] at c0
      omega
    · clear c0
      refine V_aload_n (pc := 265) d_X4_init_265 rfl ?_
      refine S_get (pc := 266) d_X4_init_266 f_X4_76 (jc0 hr (i := 0) (by decide)).1 (by omega) (jc8 hr (i := 0) (by decide)).2.2 (by omega) (nin_1 hU (by omega)) ?_
      refine V_iload_n (pc := 269) d_X4_init_269 rfl ?_
      refine S_newC0 (pc := 270) (c := 5) (r + 111 + j + 1) d_X4_init_270 rfl g_X4_74 n_X5 z_X5 (by constructor <;> simp only [rm] <;> omega) (jeU hr hj1).1 (jeU hr hj1).2.1 rfl (RI_z hI (111 + j) (by omega) (by omega) (by omega) (by omega)) ?_
      refine V_dup (pc := 273) d_X4_init_273 rfl ?_
      refine V_ciV (pc := 274) d_X4_init_274 c_X4_91 k_X5_init ⟨rfl, rfl⟩ (Nat.le_of_ble_eq_true rfl) ⟨Nat.le_of_ble_eq_true rfl, Nat.le_of_ble_eq_true rfl⟩ (by constructor <;> simp only [rm] <;> omega) (ct_X5_init (a := r + 111 + j) (U := r :: U) (jeU hr hj1).1 (RI_z hI (111 + j) (by omega) (by omega) (by omega) (by omega)) (lt_cons hU (by omega)) ?_)
      refine S_ast (pc := 277) (c := 5) (j := j) (n := 8) d_X4_init_277 (jc8 hr (i := 0) (by decide)).1 (by omega) (by decide) rfl (jc8 hr (i := 0) (by decide)).2.1 (by omega) (by decide) (jeU hr hj1).1 (jeU hr hj1).2.2 (by omega) (nin_1 hU (by omega)) ?_
      refine V_iinc (pc := 278) d_X4_init_278 rfl (by decide) ?_
      refine V_goto (pc := 281) 259 d_X4_init_281 (by decide) ?_
      rw [p1_s]
      refine V_wd (gc2 := (110 + 1 * (j + 1))) (gs2 := (1814 + 4 * (j + 1))) (by simp only [rm]; omega) (by simp only [rm]; omega) ?_
      exact ih (by omega) (j + 1) (by omega)
theorem ct_X4_init (hr : RTb r) (hI : RI σ r) (hU : ∀ u ∈ U, u < r) (hq : KV (σ, stg (r + 119) (r :: U))) : CM G mX4_init (rm 4 118 1846) [.ref r] (σ, stg (r + 1) (r :: U)) (QV KV) := by
  refine CM.of (by decide) (Nat.le_of_ble_eq_true rfl) (cats1 rfl) ?_
  refine V_aload_n (pc := 0) d_X4_init_0 rfl ?_
  refine V_obj (pc := 1) d_X4_init_1 c_X4_3 (by decide) (by decide) ?_
  refine V_aload_n (pc := 4) d_X4_init_4 rfl ?_
  refine V_iconst (pc := 5) (0) d_X4_init_5 (by decide) ?_
  refine S_putI (pc := 6) d_X4_init_6 f_X4_9 (jc0 hr (i := 0) (by decide)).1 (by omega) (RI_z hI 0 rfl (by decide) (by decide) (by decide) _) ?_
  refine V_aload_n (pc := 9) d_X4_init_9 rfl ?_
  refine V_iconst (pc := 10) (0) d_X4_init_10 (by decide) ?_
  refine S_putI (pc := 11) d_X4_init_11 f_X4_15 (jc0 hr (i := 0) (by decide)).1 (by omega) (RI_z hI 0 rfl (by decide) (by decide) (by decide) _) ?_
  refine V_aload_n (pc := 14) d_X4_init_14 rfl ?_
  refine V_iconst (pc := 15) (0) d_X4_init_15 (by decide) ?_
  refine S_putI (pc := 16) d_X4_init_16 f_X4_18 (jc0 hr (i := 0) (by decide)).1 (by omega) (RI_z hI 0 rfl (by decide) (by decide) (by decide) _) ?_
  refine V_aload_n (pc := 19) d_X4_init_19 rfl ?_
  refine V_iconst (pc := 20) (0) d_X4_init_20 (by decide) ?_
  refine S_putI (pc := 21) d_X4_init_21 f_X4_21 (jc0 hr (i := 0) (by decide)).1 (by omega) (RI_z hI 0 rfl (by decide) (by decide) (by decide) _) ?_
  refine V_aload_n (pc := 24) d_X4_init_24 rfl ?_
  refine V_iconst (pc := 25) (0) d_X4_init_25 (by decide) ?_
  refine S_putI (pc := 26) d_X4_init_26 f_X4_24 (jc0 hr (i := 0) (by decide)).1 (by omega) (RI_z hI 0 rfl (by decide) (by decide) (by decide) _) ?_
  refine V_aload_n (pc := 29) d_X4_init_29 rfl ?_
  refine V_iconst (pc := 30) (0) d_X4_init_30 (by decide) ?_
  refine S_putI (pc := 31) d_X4_init_31 f_X4_27 (jc0 hr (i := 0) (by decide)).1 (by omega) (RI_z hI 0 rfl (by decide) (by decide) (by decide) _) ?_
  refine V_aload_n (pc := 34) d_X4_init_34 rfl ?_
  refine V_iconst (pc := 35) (0) d_X4_init_35 (by decide) ?_
  refine S_putI (pc := 36) d_X4_init_36 f_X4_30 (jc0 hr (i := 0) (by decide)).1 (by omega) (RI_z hI 0 rfl (by decide) (by decide) (by decide) _) ?_
  refine V_aload_n (pc := 39) d_X4_init_39 rfl ?_
  refine V_iconst (pc := 40) (0) d_X4_init_40 (by decide) ?_
  refine S_putI (pc := 41) d_X4_init_41 f_X4_33 (jc0 hr (i := 0) (by decide)).1 (by omega) (RI_z hI 0 rfl (by decide) (by decide) (by decide) _) ?_
  refine V_aload_n (pc := 44) d_X4_init_44 rfl ?_
  refine V_bipush (pc := 45) (nI 100) d_X4_init_45 (by decide) ?_
  refine S_newI (pc := 47) (r + 2) d_X4_init_47 rfl (by decide) (by constructor <;> simp only [rm] <;> omega) (jc1 hr (i := 0) (by decide)).1 (jc1 hr (i := 0) (by decide)).2.1 rfl ?_
  refine S_put (pc := 49) d_X4_init_49 f_X4_36 (fun _ => ⟨rfl, _, rfl, rfl⟩) (jc0 hr (i := 0) (by decide)).1 (by omega) ⟨tyX4 8, tyX4_ok 8 (by decide), Or.inr ⟨_, rfl⟩⟩ (jc1 hr (i := 0) (by decide)).2.2 (by omega) (nin_1 hU (by omega)) ?_
  refine V_aload_n (pc := 52) d_X4_init_52 rfl ?_
  refine V_bipush (pc := 53) (nI 100) d_X4_init_53 (by decide) ?_
  refine S_newZ0 (pc := 55) (r + 3) d_X4_init_55 rfl (by decide) (by constructor <;> simp only [rm] <;> omega) (jc2 hr (i := 0) (by decide)).1 (jc2 hr (i := 0) (by decide)).2.1 rfl (fun j => (zr_n (by omega)).trans (RI_z hI 2 rfl (by decide) (by decide) (by decide) j)) ?_
  refine S_put (pc := 57) d_X4_init_57 f_X4_40 (fun _ => ⟨rfl, _, rfl, rfl⟩) (jc0 hr (i := 0) (by decide)).1 (by omega) ⟨tyX4 9, tyX4_ok 9 (by decide), Or.inr ⟨_, rfl⟩⟩ (jc2 hr (i := 0) (by decide)).2.2 (by omega) (nin_1 hU (by omega)) ?_
  refine V_aload_n (pc := 60) d_X4_init_60 rfl ?_
  refine V_bipush (pc := 61) (nI 10) d_X4_init_61 (by decide) ?_
  refine S_newQ0 (pc := 63) (c := 7) (r + 4) d_X4_init_63 (by decide) rfl g_X4_44 rfl (by decide) (by constructor <;> simp only [rm] <;> omega) (jc3 hr (i := 0) (by decide)).1 (jc3 hr (i := 0) (by decide)).2.1 rfl (fun j => (zr_n (by omega)).trans (RI_z hI 3 rfl (by decide) (by decide) (by decide) j)) ?_
  refine S_put (pc := 66) d_X4_init_66 f_X4_46 (fun _ => ⟨rfl, _, rfl, rfl⟩) (jc0 hr (i := 0) (by decide)).1 (by omega) ⟨tyX4 10, tyX4_ok 10 (by decide), Or.inr ⟨_, rfl⟩⟩ (jc3 hr (i := 0) (by decide)).2.2 (by omega) (nin_1 hU (by omega)) ?_
  refine V_aload_n (pc := 69) d_X4_init_69 rfl ?_
  refine V_bipush (pc := 70) (nI 11) d_X4_init_70 (by decide) ?_
  refine S_newQ0 (pc := 72) (c := 3) (r + 5) d_X4_init_72 (by decide) rfl g_X4_50 rfl (by decide) (by constructor <;> simp only [rm] <;> omega) (jc4 hr (i := 0) (by decide)).1 (jc4 hr (i := 0) (by decide)).2.1 rfl (fun j => (zr_n (by omega)).trans (RI_z hI 4 rfl (by decide) (by decide) (by decide) j)) ?_
  refine S_put (pc := 75) d_X4_init_75 f_X4_52 (fun _ => ⟨rfl, _, rfl, rfl⟩) (jc0 hr (i := 0) (by decide)).1 (by omega) ⟨tyX4 11, tyX4_ok 11 (by decide), Or.inr ⟨_, rfl⟩⟩ (jc4 hr (i := 0) (by decide)).2.2 (by omega) (nin_1 hU (by omega)) ?_
  refine V_aload_n (pc := 78) d_X4_init_78 rfl ?_
  refine V_iconst (pc := 79) (nI 5) d_X4_init_79 (by decide) ?_
  refine S_newQ0 (pc := 80) (c := 2) (r + 6) d_X4_init_80 (by decide) rfl g_X4_56 rfl (by decide) (by constructor <;> simp only [rm] <;> omega) (jc5 hr (i := 0) (by decide)).1 (jc5 hr (i := 0) (by decide)).2.1 rfl (fun j => (zr_n (by omega)).trans (RI_z hI 5 rfl (by decide) (by decide) (by decide) j)) ?_
  refine S_put (pc := 83) d_X4_init_83 f_X4_58 (fun _ => ⟨rfl, _, rfl, rfl⟩) (jc0 hr (i := 0) (by decide)).1 (by omega) ⟨tyX4 12, tyX4_ok 12 (by decide), Or.inr ⟨_, rfl⟩⟩ (jc5 hr (i := 0) (by decide)).2.2 (by omega) (nin_1 hU (by omega)) ?_
  refine V_aload_n (pc := 86) d_X4_init_86 rfl ?_
  refine V_bipush (pc := 87) (nI 12) d_X4_init_87 (by decide) ?_
  refine S_newQ0 (pc := 89) (c := 1) (r + 7) d_X4_init_89 (by decide) rfl g_X4_62 rfl (by decide) (by constructor <;> simp only [rm] <;> omega) (jc6 hr (i := 0) (by decide)).1 (jc6 hr (i := 0) (by decide)).2.1 rfl (fun j => (zr_n (by omega)).trans (RI_z hI 6 rfl (by decide) (by decide) (by decide) j)) ?_
  refine S_put (pc := 92) d_X4_init_92 f_X4_64 (fun _ => ⟨rfl, _, rfl, rfl⟩) (jc0 hr (i := 0) (by decide)).1 (by omega) ⟨tyX4 13, tyX4_ok 13 (by decide), Or.inr ⟨_, rfl⟩⟩ (jc6 hr (i := 0) (by decide)).2.2 (by omega) (nin_1 hU (by omega)) ?_
  refine V_aload_n (pc := 95) d_X4_init_95 rfl ?_
  refine V_bipush (pc := 96) (nI 6) d_X4_init_96 (by decide) ?_
  refine S_newQ0 (pc := 98) (c := 8) (r + 8) d_X4_init_98 (by decide) rfl g_X4_68 rfl (by decide) (by constructor <;> simp only [rm] <;> omega) (jc7 hr (i := 0) (by decide)).1 (jc7 hr (i := 0) (by decide)).2.1 rfl (fun j => (zr_n (by omega)).trans (RI_z hI 7 rfl (by decide) (by decide) (by decide) j)) ?_
  refine S_put (pc := 101) d_X4_init_101 f_X4_70 (fun _ => ⟨rfl, _, rfl, rfl⟩) (jc0 hr (i := 0) (by decide)).1 (by omega) ⟨tyX4 14, tyX4_ok 14 (by decide), Or.inr ⟨_, rfl⟩⟩ (jc7 hr (i := 0) (by decide)).2.2 (by omega) (nin_1 hU (by omega)) ?_
  refine V_aload_n (pc := 104) d_X4_init_104 rfl ?_
  refine V_bipush (pc := 105) (nI 8) d_X4_init_105 (by decide) ?_
  refine S_newQ0 (pc := 107) (c := 5) (r + 9) d_X4_init_107 (by decide) rfl g_X4_74 rfl (by decide) (by constructor <;> simp only [rm] <;> omega) (jc8 hr (i := 0) (by decide)).1 (jc8 hr (i := 0) (by decide)).2.1 rfl (fun j => (zr_n (by omega)).trans (RI_z hI 8 rfl (by decide) (by decide) (by decide) j)) ?_
  refine S_put (pc := 110) d_X4_init_110 f_X4_76 (fun _ => ⟨rfl, _, rfl, rfl⟩) (jc0 hr (i := 0) (by decide)).1 (by omega) ⟨tyX4 15, tyX4_ok 15 (by decide), Or.inr ⟨_, rfl⟩⟩ (jc8 hr (i := 0) (by decide)).2.2 (by omega) (nin_1 hU (by omega)) ?_
  refine V_aload_n (pc := 113) d_X4_init_113 rfl ?_
  refine S_get (pc := 114) d_X4_init_114 f_X4_36 (jc0 hr (i := 0) (by decide)).1 (by omega) (jc1 hr (i := 0) (by decide)).2.2 (by omega) (nin_1 hU (by omega)) ?_
  refine V_sipush (pc := 117) (-1000) d_X4_init_117 (by decide) ?_
  refine V_csV (pc := 120) (n := 1) [_, _] d_X4_init_120 c_X4_80 k_J_fill rfl (Nat.le_of_ble_eq_true rfl) ⟨Nat.le_of_ble_eq_true rfl, Nat.le_of_ble_eq_true rfl⟩ (by constructor <;> simp only [rm] <;> omega) (ct_J_fill (n := 100) (stg_T (by omega) (jc1 hr (i := 0) (by decide)).1) (stg_L (by omega) (jc1 hr (i := 0) (by decide)).2.1) (by decide) ?_)
  rw [fil_zr (fun j => (hI 1 (by decide) j).trans rI_1)]
  refine V_iconst (pc := 123) (0) d_X4_init_123 (by decide) ?_
  refine V_istore_n (pc := 124) d_X4_init_124 (by decide) ?_
  refine V_wd (gc2 := (8 + 2 * 0)) (gs2 := (252 + 106 * 0)) (by decide) (by decide) ?_
  refine lp_nS (F := FM G (rm 4 118 1846) (QV KV)) hr hI hU ?_ 10 (Nat.le_refl _) 0 (by omega)
  refine V_iconst (pc := 150) (0) d_X4_init_150 (by decide) ?_
  refine V_istore_n (pc := 151) d_X4_init_151 (by decide) ?_
  refine V_wd (gc2 := (28 + 4 * 0)) (gs2 := (1312 + 24 * 0)) (by decide) (by decide) ?_
  refine lp_nL (F := FM G (rm 4 118 1846) (QV KV)) hr hI hU ?_ 11 (Nat.le_refl _) 0 (by omega)
  refine V_iconst (pc := 177) (0) d_X4_init_177 (by decide) ?_
  refine V_istore_n (pc := 178) d_X4_init_178 (by decide) ?_
  refine V_wd (gc2 := (72 + 4 * 0)) (gs2 := (1576 + 32 * 0)) (by decide) (by decide) ?_
  refine lp_nB (F := FM G (rm 4 118 1846) (QV KV)) hr hI hU ?_ 5 (Nat.le_refl _) 0 (by omega)
  refine V_iconst (pc := 203) (0) d_X4_init_203 (by decide) ?_
  refine V_istore_n (pc := 204) d_X4_init_204 (by decide) ?_
  refine V_wd (gc2 := (92 + 1 * 0)) (gs2 := (1736 + 5 * 0)) (by decide) (by decide) ?_
  refine lp_nA (F := FM G (rm 4 118 1846) (QV KV)) hr hI hU ?_ 12 (Nat.le_refl _) 0 (by omega)
  refine V_iconst (pc := 230) (0) d_X4_init_230 (by decide) ?_
  refine V_istore_n (pc := 231) d_X4_init_231 (by decide) ?_
  refine V_wd (gc2 := (104 + 1 * 0)) (gs2 := (1796 + 3 * 0)) (by decide) (by decide) ?_
  refine lp_nP (F := FM G (rm 4 118 1846) (QV KV)) hr hI hU ?_ 6 (Nat.le_refl _) 0 (by omega)
  refine V_iconst (pc := 257) (0) d_X4_init_257 (by decide) ?_
  refine V_istore_n (pc := 258) d_X4_init_258 (by decide) ?_
  refine V_wd (gc2 := (110 + 1 * 0)) (gs2 := (1814 + 4 * 0)) (by decide) (by decide) ?_
  refine lp_nU (F := FM G (rm 4 118 1846) (QV KV)) hr hI hU ?_ 8 (Nat.le_refl _) 0 (by omega)
  exact V_retV (pc := 284) d_X4_init_284 rfl ⟨by decide, by decide⟩ hq
end HM
