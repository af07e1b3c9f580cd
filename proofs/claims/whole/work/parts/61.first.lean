/-! ===== the two objects as they are made ===== -/
def s0 : Sg := fun a j => if 4 ≤ a ∧ a < 123 then rI (a - 4) j else if 131 ≤ a ∧ a < 139 ∧ a % 2 = 1 then (if j = 0 then -1 else 0) else if a = 158 then (if j < 160 then -1 else 0) else if a = 188 then (if j < 4 then -1 else 0) else 0
theorem s0_z {a : Nat} (h1 : ¬ (4 ≤ a ∧ a < 123)) (h2 : ¬ (131 ≤ a ∧ a < 139 ∧ a % 2 = 1)) (h3 : a ≠ 158) (h4 : a ≠ 188) : ∀ j, s0 a j = 0 := fun j => by
  unfold s0
  rw [if_neg h1, if_neg h2, if_neg h3, if_neg h4]
theorem s0_h {a : Nat} (h2 : 131 ≤ a ∧ a < 139 ∧ a % 2 = 1) : ∀ j, s0 a j = if j = 0 then -1 else 0 := fun j => by
  unfold s0
  rw [if_neg (by omega), if_pos h2]
theorem s0_w (j : Nat) : s0 158 j = if j < 160 then -1 else 0 := by
  unfold s0
  rw [if_neg (by omega), if_neg (by omega), if_pos rfl]
theorem s0_q (j : Nat) : s0 188 j = if j < 4 then -1 else 0 := by
  unfold s0
  rw [if_neg (by omega), if_neg (by omega), if_neg (by omega), if_pos rfl]
theorem s0_I : RI s0 4 := fun o ho j => by
  unfold s0
  rw [if_pos (by omega), Nat.add_sub_cancel_left]
theorem jeH {i : Nat} (hi : i < 4) : TF (131 + 2 * i) = 7 ∧ LF (131 + 2 * i) = 0 ∧ RF 123 i = some (131 + 2 * i) := (by decide +kernel : ∀ i, i < 4 → TF (131 + 2 * i) = 7 ∧ LF (131 + 2 * i) = 0 ∧ RF 123 i = some (131 + 2 * i)) i hi
theorem jsH {i : Nat} (hi : i < 4) : TF (131 + 2 * i + 1) = 20 ∧ LF (131 + 2 * i + 1) = 40 ∧ RF (131 + 2 * i) 2 = some (131 + 2 * i + 1) := (by decide +kernel : ∀ i, i < 4 → TF (131 + 2 * i + 1) = 20 ∧ LF (131 + 2 * i + 1) = 40 ∧ RF (131 + 2 * i) 2 = some (131 + 2 * i + 1)) i hi
theorem u3 {b : Nat} (h : 3 < b) : ∀ u ∈ [3], u < b := fun u hu => by
  rcases List.mem_cons.mp hu with w | w
  · omega
  · exact absurd w List.not_mem_nil
theorem n3 {v : Nat} (h : 3 < v) : v ∉ [3] := nin_0 (u3 h)
section HO
variable {G : Gl} {KV : Hp → Prop} {F : Fn}
theorem lp_nH (hX : V G mX11_init (rm 5 135 3227) F (127 + 2 * 4) (3055 + 43 * 4) 94 [some (.ref 3), some (.int (nI 4))] [] (s0, stg (131 + 2 * 4) [3])) : ∀ n, n ≤ 4 → ∀ j, j + n = 4 → V G mX11_init (rm 5 135 3227) F (127 + 2 * j) (3055 + 43 * j) 70 [some (.ref 3), some (.int (nI j))] [] (s0, stg (131 + 2 * j) [3]) := by
  intro n
  induction n with
  | zero =>
    intro _ j hj
    obtain rfl : j = 4 := by omega
    refine V_iload_n (pc := 70) d_X11_init_70 rfl ?_
    refine V_iconst (pc := 71) (nI 4) d_X11_init_71 (by decide) ?_
    refine B_icmp_ge (pc := 72) 94 d_X11_init_72 (by decide) (fun c0 => ?_) (fun c0 => ?_)
    · exact hX
    · exact absurd (by decide) c0
  | succ n ih =>
    intro _ j hj
    have hj1 : j < 4 := by omega
    refine V_iload_n (pc := 70) d_X11_init_70 rfl ?_
    refine V_iconst (pc := 71) (nI 4) d_X11_init_71 (by decide) ?_
    refine B_icmp_ge (pc := 72) 94 d_X11_init_72 (by decide) (fun c0 => ?_) (fun c0 => ?_)
    · simp (disch := omega) only [nI_toInt, show (nI 4).toInt = 4 from by decide] at c0
      omega
    · clear c0
      refine V_aload_n (pc := 75) d_X11_init_75 rfl ?_
      refine S_get (pc := 76) d_X11_init_76 f_X11_28 (by decide +kernel : TF 3 = 12) (by omega) (by decide +kernel : RF 3 4 = some 123) (by omega) (n3 (by omega)) ?_
      refine V_iload_n (pc := 79) d_X11_init_79 rfl ?_
      refine S_newC (pc := 80) (c := 6) (131 + 2 * j + 1) d_X11_init_80 rfl g_X11_26 n_X6 z_X6 (by constructor <;> simp only [rm] <;> omega) (jeH hj1).1 (jeH hj1).2.1 rfl ?_
      refine V_dup (pc := 83) d_X11_init_83 rfl ?_
      refine V_ciV (pc := 84) d_X11_init_84 c_X11_50 k_X6_init ⟨rfl, rfl⟩ (Nat.le_of_ble_eq_true rfl) ⟨Nat.le_of_ble_eq_true rfl, Nat.le_of_ble_eq_true rfl⟩ (by constructor <;> simp only [rm] <;> omega) (ct_X6_init (a := 131 + 2 * j) (U := [3]) (jeH hj1).1 (jsH hj1) (s0_h (by omega)) (s0_z (by omega) (by omega) (by omega) (by omega)) (u3 (by omega)) ?_)
      refine S_ast (pc := 87) (c := 6) (j := j) (n := 4) d_X11_init_87 (by decide +kernel : TF 123 = 46) (by omega) (by decide) rfl (by decide +kernel : LF 123 = 4) (by omega) (by decide) (jeH hj1).1 (jeH hj1).2.2 (by omega) (n3 (by omega)) ?_
      refine V_iinc (pc := 88) d_X11_init_88 rfl (by decide) ?_
      refine V_goto (pc := 91) 70 d_X11_init_91 (by decide) ?_
      rw [p1_s]
      refine V_wd (gc2 := (127 + 2 * (j + 1))) (gs2 := (3055 + 43 * (j + 1))) (by simp only [rm]; omega) (by simp only [rm]; omega) ?_
      exact ih (by omega) (j + 1) (by omega)
theorem ct_X11_init (hq : KV (s0, stg 139 [3])) : CM G mX11_init (rm 5 135 3227) [.ref 3] (s0, stg 4 [3]) (QV KV) := by
  refine CM.of (by decide) (Nat.le_of_ble_eq_true rfl) (cats1 rfl) ?_
  refine V_aload_n (pc := 0) d_X11_init_0 rfl ?_
  refine V_obj (pc := 1) d_X11_init_1 c_X11_1 (by decide) (by decide) ?_
  refine V_aload_n (pc := 4) d_X11_init_4 rfl ?_
  refine S_newC0 (pc := 5) (c := 4) (5) d_X11_init_5 rfl g_X11_7 n_X4 z_X4 (by constructor <;> simp only [rm] <;> omega) (jc0 (r := 4) (Or.inl rfl) (i := 0) (by decide)).1 (jc0 (r := 4) (Or.inl rfl) (i := 0) (by decide)).2 rfl (RI_z s0_I 0 rfl (by decide) (by decide) (by decide)) ?_
  refine V_dup (pc := 8) d_X11_init_8 rfl ?_
  refine V_ciV (pc := 9) d_X11_init_9 c_X11_9 k_X4_init ⟨rfl, rfl⟩ (Nat.le_of_ble_eq_true rfl) ⟨Nat.le_of_ble_eq_true rfl, Nat.le_of_ble_eq_true rfl⟩ (by constructor <;> simp only [rm] <;> omega) (ct_X4_init (r := 4) (U := [3]) (Or.inl rfl) s0_I (u3 (by omega)) ?_)
  rw [show stg (4 + 119) [4, 3] = stg 123 [4, 3] from rfl]
  refine S_put (pc := 12) d_X11_init_12 f_X11_10 (fun _ => ⟨rfl, _, rfl, rfl⟩) (by decide +kernel : TF 3 = 12) (by omega) ⟨tyX11 0, tyX11_ok 0 (by decide), Or.inl ⟨_, rfl⟩⟩ (by decide +kernel : RF 3 0 = some 4) (by omega) (n3 (by omega)) ?_
  refine V_aload_n (pc := 15) d_X11_init_15 rfl ?_
  refine V_null (pc := 16) d_X11_init_16 ?_
  refine V_putN (pc := 17) d_X11_init_17 f_X11_16 (fun h => by cases h) (stg_T (by decide) (by decide +kernel : TF 3 = 12)) ⟨tyX11 1, tyX11_ok 1 (by decide), Or.inl ⟨_, rfl⟩⟩ ?_
  rw [show sR (s0, stg 123 [3]) 3 1 none = (s0, stg 123 [3]) from by
      show (s0, up2 (stg 123 [3]).1 3 1 none, (stg 123 [3]).2) = _
      rw [up2_id ((stg_r (by decide +kernel : RF 3 1 = some 192)).trans (if_neg (by omega)))]]
  refine V_aload_n (pc := 20) d_X11_init_20 rfl ?_
  refine V_iconst (pc := 21) (0) d_X11_init_21 (by decide) ?_
  refine S_putI (pc := 22) d_X11_init_22 f_X11_19 (by decide +kernel : TF 3 = 12) (by omega) ((s0_z (by omega) (by omega) (by omega) (by omega)) _) ?_
  refine V_aload_n (pc := 25) d_X11_init_25 rfl ?_
  refine V_iconst (pc := 26) (0) d_X11_init_26 (by decide) ?_
  refine S_putI (pc := 27) d_X11_init_27 f_X11_23 (by decide +kernel : TF 3 = 12) (by omega) ((s0_z (by omega) (by omega) (by omega) (by omega)) _) ?_
  refine V_aload_n (pc := 30) d_X11_init_30 rfl ?_
  refine V_iconst (pc := 31) (nI 4) d_X11_init_31 (by decide) ?_
  refine S_newQ0 (pc := 32) (c := 6) (124) d_X11_init_32 (by decide) rfl g_X11_26 rfl (by decide) (by constructor <;> simp only [rm] <;> omega) (by decide +kernel : TF 123 = 46) (by decide +kernel : LF 123 = 4) rfl (s0_z (by omega) (by omega) (by omega) (by omega)) ?_
  refine S_put (pc := 35) d_X11_init_35 f_X11_28 (fun _ => ⟨rfl, _, rfl, rfl⟩) (by decide +kernel : TF 3 = 12) (by omega) ⟨tyX11 4, tyX11_ok 4 (by decide), Or.inr ⟨_, rfl⟩⟩ (by decide +kernel : RF 3 4 = some 123) (by omega) (n3 (by omega)) ?_
  refine V_aload_n (pc := 38) d_X11_init_38 rfl ?_
  refine S_newC0 (pc := 39) (c := 0) (125) d_X11_init_39 rfl g_X11_32 n_X0 z_X0 (by constructor <;> simp only [rm] <;> omega) (by decide +kernel : TF 124 = 1) (by decide +kernel : LF 124 = 0) rfl (s0_z (by omega) (by omega) (by omega) (by omega)) ?_
  refine V_dup (pc := 42) d_X11_init_42 rfl ?_
  refine V_ciV (pc := 43) d_X11_init_43 c_X11_34 k_X0_init ⟨rfl, rfl⟩ (Nat.le_of_ble_eq_true rfl) ⟨Nat.le_of_ble_eq_true rfl, Nat.le_of_ble_eq_true rfl⟩ (by constructor <;> simp only [rm] <;> omega) (ct_X0_init (a := 124) (U := [3]) (by decide +kernel : TF 124 = 1) ⟨(by decide +kernel : TF 125 = 20), (by decide +kernel : LF 125 = 50), (by decide +kernel : RF 124 1 = some 125)⟩ (s0_z (by omega) (by omega) (by omega) (by omega)) (s0_z (by omega) (by omega) (by omega) (by omega)) (u3 (by omega)) ?_)
  rw [show stg (124 + 2) [124, 3] = stg 126 [124, 3] from rfl]
  refine S_put (pc := 46) d_X11_init_46 f_X11_35 (fun _ => ⟨rfl, _, rfl, rfl⟩) (by decide +kernel : TF 3 = 12) (by omega) ⟨tyX11 5, tyX11_ok 5 (by decide), Or.inl ⟨_, rfl⟩⟩ (by decide +kernel : RF 3 5 = some 124) (by omega) (n3 (by omega)) ?_
  refine V_aload_n (pc := 49) d_X11_init_49 rfl ?_
  refine S_newC0 (pc := 50) (c := 9) (127) d_X11_init_50 rfl g_X11_39 n_X9 z_X9 (by constructor <;> simp only [rm] <;> omega) (by decide +kernel : TF 126 = 10) (by decide +kernel : LF 126 = 0) rfl (s0_z (by omega) (by omega) (by omega) (by omega)) ?_
  refine V_dup (pc := 53) d_X11_init_53 rfl ?_
  refine V_ciV (pc := 54) d_X11_init_54 c_X11_41 k_X9_init ⟨rfl, rfl⟩ (Nat.le_of_ble_eq_true rfl) ⟨Nat.le_of_ble_eq_true rfl, Nat.le_of_ble_eq_true rfl⟩ (by constructor <;> simp only [rm] <;> omega) (ct_X9_init (a := 126) (U := [3]) (by decide +kernel : TF 126 = 10) ⟨(by decide +kernel : TF 127 = 20), (by decide +kernel : LF 127 = 10), (by decide +kernel : RF 126 2 = some 127)⟩ ⟨(by decide +kernel : TF 128 = 20), (by decide +kernel : LF 128 = 10), (by decide +kernel : RF 126 3 = some 128)⟩ ⟨(by decide +kernel : TF 129 = 20), (by decide +kernel : LF 129 = 1100), (by decide +kernel : RF 126 4 = some 129)⟩ (s0_z (by omega) (by omega) (by omega) (by omega)) (s0_z (by omega) (by omega) (by omega) (by omega)) (s0_z (by omega) (by omega) (by omega) (by omega)) (s0_z (by omega) (by omega) (by omega) (by omega)) (u3 (by omega)) ?_)
  rw [show stg (126 + 4) [126, 3] = stg 130 [126, 3] from rfl]
  refine S_put (pc := 57) d_X11_init_57 f_X11_42 (fun _ => ⟨rfl, _, rfl, rfl⟩) (by decide +kernel : TF 3 = 12) (by omega) ⟨tyX11 6, tyX11_ok 6 (by decide), Or.inl ⟨_, rfl⟩⟩ (by decide +kernel : RF 3 6 = some 126) (by omega) (n3 (by omega)) ?_
  refine V_aload_n (pc := 60) d_X11_init_60 rfl ?_
  refine V_bipush (pc := 61) (nI 12) d_X11_init_61 (by decide) ?_
  refine S_newI0 (pc := 63) (131) d_X11_init_63 rfl (by decide) (by constructor <;> simp only [rm] <;> omega) (by decide +kernel : TF 130 = 20) (by decide +kernel : LF 130 = 12) rfl (s0_z (by omega) (by omega) (by omega) (by omega)) ?_
  refine S_put (pc := 65) d_X11_init_65 f_X11_46 (fun _ => ⟨rfl, _, rfl, rfl⟩) (by decide +kernel : TF 3 = 12) (by omega) ⟨tyX11 7, tyX11_ok 7 (by decide), Or.inr ⟨_, rfl⟩⟩ (by decide +kernel : RF 3 7 = some 130) (by omega) (n3 (by omega)) ?_
  refine V_iconst (pc := 68) (0) d_X11_init_68 (by decide) ?_
  refine V_istore_n (pc := 69) d_X11_init_69 (by decide) ?_
  refine V_wd (gc2 := (127 + 2 * 0)) (gs2 := (3055 + 43 * 0)) (by decide) (by decide) ?_
  refine lp_nH (F := FM G (rm 5 135 3227) (QV KV)) ?_ 4 (Nat.le_refl _) 0 (by omega)
  exact V_retV (pc := 94) d_X11_init_94 rfl ⟨by decide, by decide⟩ hq
theorem u9 {b : Nat} (h : 139 < b) : ∀ u ∈ [139, 3], u < b := lt_cons (u3 (by omega)) h
theorem n9 {v : Nat} (h : 139 < v) : v ∉ [139, 3] := nin_0 (u9 h)
theorem lp_nW {gc gs : Nat} (hX : V G mX12_init (rm 1 52 8107) F gc gs 460 [some (.ref 139), some (.int (nI 160))] [] (filr (zr s0 158) 158 0 160 (-1), stg 192 [139, 3])) : ∀ n, n ≤ 160 → ∀ j, j + n = 160 → V G mX12_init (rm 1 52 8107) F gc gs 440 [some (.ref 139), some (.int (nI j))] [] (filr (zr s0 158) 158 0 j (-1), stg 192 [139, 3]) := by
  intro n
  induction n with
  | zero =>
    intro _ j hj
    obtain rfl : j = 160 := by omega
    refine V_iload_n (pc := 440) d_X12_init_440 rfl ?_
    refine V_sipush (pc := 441) (nI 160) d_X12_init_441 (by decide) ?_
    refine B_icmp_ge (pc := 444) 460 d_X12_init_444 (by decide) (fun c0 => ?_) (fun c0 => ?_)
    · exact hX
    · exact absurd (by decide) c0
  | succ n ih =>
    intro _ j hj
    refine V_iload_n (pc := 440) d_X12_init_440 rfl ?_
    refine V_sipush (pc := 441) (nI 160) d_X12_init_441 (by decide) ?_
    refine B_icmp_ge (pc := 444) 460 d_X12_init_444 (by decide) (fun c0 => ?_) (fun c0 => ?_)
    · simp (disch := omega) only [nI_toInt, show (nI 160).toInt = 160 from by decide] at c0
      omega
    · clear c0
      refine V_aload_n (pc := 447) d_X12_init_447 rfl ?_
      refine S_get (pc := 448) d_X12_init_448 f_X12_65 (by decide +kernel : TF 139 = 13) (by omega) (by decide +kernel : RF 139 22 = some 158) (by omega) (n9 (by omega)) ?_
      refine V_iload_n (pc := 451) d_X12_init_451 rfl ?_
      refine V_iconst (pc := 452) (-1) d_X12_init_452 (by decide) ?_
      refine P_iast (pc := 453) (j) d_X12_init_453 (stg_T (by decide) (by decide +kernel : TF 158 = 20)) rfl (ln_of (stg_L (by decide) (by decide +kernel : LF 158 = 160)) ⟨by omega, by decide⟩) ?_
      refine V_iinc (pc := 454) d_X12_init_454 rfl (by decide) ?_
      refine V_goto (pc := 457) 440 d_X12_init_457 (by decide) ?_
      rw [p1_s, filr_s (by omega)]
      exact ih (by omega) (j + 1) (by omega)
theorem ct_X12_init (hq : KV (s0, stg 192 [139, 3])) : CM G mX12_init (rm 1 52 8107) [.ref 139] (s0, stg 140 [139, 3]) (QV KV) := by
  refine CM.of (by decide) (Nat.le_of_ble_eq_true rfl) (cats1 rfl) ?_
  refine V_aload_n (pc := 0) d_X12_init_0 rfl ?_
  refine V_obj (pc := 1) d_X12_init_1 c_X12_1 (by decide) (by decide) ?_
  refine V_aload_n (pc := 4) d_X12_init_4 rfl ?_
  refine V_bipush (pc := 5) (nI 10) d_X12_init_5 (by decide) ?_
  refine S_newI0 (pc := 7) (141) d_X12_init_7 rfl (by decide) (by constructor <;> simp only [rm] <;> omega) (by decide +kernel : TF 140 = 20) (by decide +kernel : LF 140 = 10) rfl (s0_z (by omega) (by omega) (by omega) (by omega)) ?_
  refine S_put (pc := 9) d_X12_init_9 f_X12_7 (fun _ => ⟨rfl, _, rfl, rfl⟩) (by decide +kernel : TF 139 = 13) (by omega) ⟨tyX12 3, tyX12_ok 3 (by decide), Or.inr ⟨_, rfl⟩⟩ (by decide +kernel : RF 139 3 = some 140) (by omega) (n9 (by omega)) ?_
  refine V_aload_n (pc := 12) d_X12_init_12 rfl ?_
  refine V_bipush (pc := 13) (nI 10) d_X12_init_13 (by decide) ?_
  refine S_newI0 (pc := 15) (142) d_X12_init_15 rfl (by decide) (by constructor <;> simp only [rm] <;> omega) (by decide +kernel : TF 141 = 20) (by decide +kernel : LF 141 = 10) rfl (s0_z (by omega) (by omega) (by omega) (by omega)) ?_
  refine S_put (pc := 17) d_X12_init_17 f_X12_13 (fun _ => ⟨rfl, _, rfl, rfl⟩) (by decide +kernel : TF 139 = 13) (by omega) ⟨tyX12 4, tyX12_ok 4 (by decide), Or.inr ⟨_, rfl⟩⟩ (by decide +kernel : RF 139 4 = some 141) (by omega) (n9 (by omega)) ?_
  refine V_aload_n (pc := 20) d_X12_init_20 rfl ?_
  refine V_bipush (pc := 21) (nI 10) d_X12_init_21 (by decide) ?_
  refine S_newI0 (pc := 23) (143) d_X12_init_23 rfl (by decide) (by constructor <;> simp only [rm] <;> omega) (by decide +kernel : TF 142 = 20) (by decide +kernel : LF 142 = 10) rfl (s0_z (by omega) (by omega) (by omega) (by omega)) ?_
  refine S_put (pc := 25) d_X12_init_25 f_X12_16 (fun _ => ⟨rfl, _, rfl, rfl⟩) (by decide +kernel : TF 139 = 13) (by omega) ⟨tyX12 5, tyX12_ok 5 (by decide), Or.inr ⟨_, rfl⟩⟩ (by decide +kernel : RF 139 5 = some 142) (by omega) (n9 (by omega)) ?_
  refine V_aload_n (pc := 28) d_X12_init_28 rfl ?_
  refine V_bipush (pc := 29) (nI 10) d_X12_init_29 (by decide) ?_
  refine S_newZ0 (pc := 31) (144) d_X12_init_31 rfl (by decide) (by constructor <;> simp only [rm] <;> omega) (by decide +kernel : TF 143 = 21) (by decide +kernel : LF 143 = 10) rfl (s0_z (by omega) (by omega) (by omega) (by omega)) ?_
  refine S_put (pc := 33) d_X12_init_33 f_X12_19 (fun _ => ⟨rfl, _, rfl, rfl⟩) (by decide +kernel : TF 139 = 13) (by omega) ⟨tyX12 6, tyX12_ok 6 (by decide), Or.inr ⟨_, rfl⟩⟩ (by decide +kernel : RF 139 6 = some 143) (by omega) (n9 (by omega)) ?_
  refine V_aload_n (pc := 36) d_X12_init_36 rfl ?_
  refine V_sipush (pc := 37) (nI 1000) d_X12_init_37 (by decide) ?_
  refine S_newI0 (pc := 40) (145) d_X12_init_40 rfl (by decide) (by constructor <;> simp only [rm] <;> omega) (by decide +kernel : TF 144 = 20) (by decide +kernel : LF 144 = 1000) rfl (s0_z (by omega) (by omega) (by omega) (by omega)) ?_
  refine S_put (pc := 42) d_X12_init_42 f_X12_23 (fun _ => ⟨rfl, _, rfl, rfl⟩) (by decide +kernel : TF 139 = 13) (by omega) ⟨tyX12 7, tyX12_ok 7 (by decide), Or.inr ⟨_, rfl⟩⟩ (by decide +kernel : RF 139 7 = some 144) (by omega) (n9 (by omega)) ?_
  refine V_aload_n (pc := 45) d_X12_init_45 rfl ?_
  refine V_sipush (pc := 46) (nI 1000) d_X12_init_46 (by decide) ?_
  refine S_newZ0 (pc := 49) (146) d_X12_init_49 rfl (by decide) (by constructor <;> simp only [rm] <;> omega) (by decide +kernel : TF 145 = 21) (by decide +kernel : LF 145 = 1000) rfl (s0_z (by omega) (by omega) (by omega) (by omega)) ?_
  refine S_put (pc := 51) d_X12_init_51 f_X12_26 (fun _ => ⟨rfl, _, rfl, rfl⟩) (by decide +kernel : TF 139 = 13) (by omega) ⟨tyX12 8, tyX12_ok 8 (by decide), Or.inr ⟨_, rfl⟩⟩ (by decide +kernel : RF 139 8 = some 145) (by omega) (n9 (by omega)) ?_
  refine V_aload_n (pc := 54) d_X12_init_54 rfl ?_
  refine V_bipush (pc := 55) (nI 100) d_X12_init_55 (by decide) ?_
  refine S_newI0 (pc := 57) (147) d_X12_init_57 rfl (by decide) (by constructor <;> simp only [rm] <;> omega) (by decide +kernel : TF 146 = 20) (by decide +kernel : LF 146 = 100) rfl (s0_z (by omega) (by omega) (by omega) (by omega)) ?_
  refine S_put (pc := 59) d_X12_init_59 f_X12_29 (fun _ => ⟨rfl, _, rfl, rfl⟩) (by decide +kernel : TF 139 = 13) (by omega) ⟨tyX12 9, tyX12_ok 9 (by decide), Or.inr ⟨_, rfl⟩⟩ (by decide +kernel : RF 139 9 = some 146) (by omega) (n9 (by omega)) ?_
  refine V_aload_n (pc := 62) d_X12_init_62 rfl ?_
  refine V_bipush (pc := 63) (nI 100) d_X12_init_63 (by decide) ?_
  refine S_newZ0 (pc := 65) (148) d_X12_init_65 rfl (by decide) (by constructor <;> simp only [rm] <;> omega) (by decide +kernel : TF 147 = 21) (by decide +kernel : LF 147 = 100) rfl (s0_z (by omega) (by omega) (by omega) (by omega)) ?_
  refine S_put (pc := 67) d_X12_init_67 f_X12_32 (fun _ => ⟨rfl, _, rfl, rfl⟩) (by decide +kernel : TF 139 = 13) (by omega) ⟨tyX12 10, tyX12_ok 10 (by decide), Or.inr ⟨_, rfl⟩⟩ (by decide +kernel : RF 139 10 = some 147) (by omega) (n9 (by omega)) ?_
  refine V_aload_n (pc := 70) d_X12_init_70 rfl ?_
  refine V_bipush (pc := 71) (nI 100) d_X12_init_71 (by decide) ?_
  refine S_newZ0 (pc := 73) (149) d_X12_init_73 rfl (by decide) (by constructor <;> simp only [rm] <;> omega) (by decide +kernel : TF 148 = 21) (by decide +kernel : LF 148 = 100) rfl (s0_z (by omega) (by omega) (by omega) (by omega)) ?_
  refine S_put (pc := 75) d_X12_init_75 f_X12_35 (fun _ => ⟨rfl, _, rfl, rfl⟩) (by decide +kernel : TF 139 = 13) (by omega) ⟨tyX12 11, tyX12_ok 11 (by decide), Or.inr ⟨_, rfl⟩⟩ (by decide +kernel : RF 139 11 = some 148) (by omega) (n9 (by omega)) ?_
  refine V_aload_n (pc := 78) d_X12_init_78 rfl ?_
  refine V_iconst (pc := 79) (nI 5) d_X12_init_79 (by decide) ?_
  refine S_newI0 (pc := 80) (150) d_X12_init_80 rfl (by decide) (by constructor <;> simp only [rm] <;> omega) (by decide +kernel : TF 149 = 20) (by decide +kernel : LF 149 = 5) rfl (s0_z (by omega) (by omega) (by omega) (by omega)) ?_
  refine S_put (pc := 82) d_X12_init_82 f_X12_38 (fun _ => ⟨rfl, _, rfl, rfl⟩) (by decide +kernel : TF 139 = 13) (by omega) ⟨tyX12 13, tyX12_ok 13 (by decide), Or.inr ⟨_, rfl⟩⟩ (by decide +kernel : RF 139 13 = some 149) (by omega) (n9 (by omega)) ?_
  refine V_aload_n (pc := 85) d_X12_init_85 rfl ?_
  refine V_iconst (pc := 86) (nI 5) d_X12_init_86 (by decide) ?_
  refine S_newI0 (pc := 87) (151) d_X12_init_87 rfl (by decide) (by constructor <;> simp only [rm] <;> omega) (by decide +kernel : TF 150 = 20) (by decide +kernel : LF 150 = 5) rfl (s0_z (by omega) (by omega) (by omega) (by omega)) ?_
  refine S_put (pc := 89) d_X12_init_89 f_X12_41 (fun _ => ⟨rfl, _, rfl, rfl⟩) (by decide +kernel : TF 139 = 13) (by omega) ⟨tyX12 14, tyX12_ok 14 (by decide), Or.inr ⟨_, rfl⟩⟩ (by decide +kernel : RF 139 14 = some 150) (by omega) (n9 (by omega)) ?_
  refine V_aload_n (pc := 92) d_X12_init_92 rfl ?_
  refine V_iconst (pc := 93) (nI 5) d_X12_init_93 (by decide) ?_
  refine S_newI0 (pc := 94) (152) d_X12_init_94 rfl (by decide) (by constructor <;> simp only [rm] <;> omega) (by decide +kernel : TF 151 = 20) (by decide +kernel : LF 151 = 5) rfl (s0_z (by omega) (by omega) (by omega) (by omega)) ?_
  refine S_put (pc := 96) d_X12_init_96 f_X12_44 (fun _ => ⟨rfl, _, rfl, rfl⟩) (by decide +kernel : TF 139 = 13) (by omega) ⟨tyX12 15, tyX12_ok 15 (by decide), Or.inr ⟨_, rfl⟩⟩ (by decide +kernel : RF 139 15 = some 151) (by omega) (n9 (by omega)) ?_
  refine V_aload_n (pc := 99) d_X12_init_99 rfl ?_
  refine V_iconst (pc := 100) (nI 5) d_X12_init_100 (by decide) ?_
  refine S_newI0 (pc := 101) (153) d_X12_init_101 rfl (by decide) (by constructor <;> simp only [rm] <;> omega) (by decide +kernel : TF 152 = 20) (by decide +kernel : LF 152 = 5) rfl (s0_z (by omega) (by omega) (by omega) (by omega)) ?_
  refine S_put (pc := 103) d_X12_init_103 f_X12_47 (fun _ => ⟨rfl, _, rfl, rfl⟩) (by decide +kernel : TF 139 = 13) (by omega) ⟨tyX12 16, tyX12_ok 16 (by decide), Or.inr ⟨_, rfl⟩⟩ (by decide +kernel : RF 139 16 = some 152) (by omega) (n9 (by omega)) ?_
  refine V_aload_n (pc := 106) d_X12_init_106 rfl ?_
  refine V_iconst (pc := 107) (nI 5) d_X12_init_107 (by decide) ?_
  refine S_newI0 (pc := 108) (154) d_X12_init_108 rfl (by decide) (by constructor <;> simp only [rm] <;> omega) (by decide +kernel : TF 153 = 20) (by decide +kernel : LF 153 = 5) rfl (s0_z (by omega) (by omega) (by omega) (by omega)) ?_
  refine S_put (pc := 110) d_X12_init_110 f_X12_50 (fun _ => ⟨rfl, _, rfl, rfl⟩) (by decide +kernel : TF 139 = 13) (by omega) ⟨tyX12 17, tyX12_ok 17 (by decide), Or.inr ⟨_, rfl⟩⟩ (by decide +kernel : RF 139 17 = some 153) (by omega) (n9 (by omega)) ?_
  refine V_aload_n (pc := 113) d_X12_init_113 rfl ?_
  refine V_iconst (pc := 114) (nI 5) d_X12_init_114 (by decide) ?_
  refine S_newI0 (pc := 115) (155) d_X12_init_115 rfl (by decide) (by constructor <;> simp only [rm] <;> omega) (by decide +kernel : TF 154 = 20) (by decide +kernel : LF 154 = 5) rfl (s0_z (by omega) (by omega) (by omega) (by omega)) ?_
  refine S_put (pc := 117) d_X12_init_117 f_X12_53 (fun _ => ⟨rfl, _, rfl, rfl⟩) (by decide +kernel : TF 139 = 13) (by omega) ⟨tyX12 18, tyX12_ok 18 (by decide), Or.inr ⟨_, rfl⟩⟩ (by decide +kernel : RF 139 18 = some 154) (by omega) (n9 (by omega)) ?_
  refine V_aload_n (pc := 120) d_X12_init_120 rfl ?_
  refine V_iconst (pc := 121) (nI 5) d_X12_init_121 (by decide) ?_
  refine S_newI0 (pc := 122) (156) d_X12_init_122 rfl (by decide) (by constructor <;> simp only [rm] <;> omega) (by decide +kernel : TF 155 = 20) (by decide +kernel : LF 155 = 5) rfl (s0_z (by omega) (by omega) (by omega) (by omega)) ?_
  refine S_put (pc := 124) d_X12_init_124 f_X12_56 (fun _ => ⟨rfl, _, rfl, rfl⟩) (by decide +kernel : TF 139 = 13) (by omega) ⟨tyX12 19, tyX12_ok 19 (by decide), Or.inr ⟨_, rfl⟩⟩ (by decide +kernel : RF 139 19 = some 155) (by omega) (n9 (by omega)) ?_
  refine V_aload_n (pc := 127) d_X12_init_127 rfl ?_
  refine V_iconst (pc := 128) (nI 5) d_X12_init_128 (by decide) ?_
  refine S_newI0 (pc := 129) (157) d_X12_init_129 rfl (by decide) (by constructor <;> simp only [rm] <;> omega) (by decide +kernel : TF 156 = 20) (by decide +kernel : LF 156 = 5) rfl (s0_z (by omega) (by omega) (by omega) (by omega)) ?_
  refine S_put (pc := 131) d_X12_init_131 f_X12_59 (fun _ => ⟨rfl, _, rfl, rfl⟩) (by decide +kernel : TF 139 = 13) (by omega) ⟨tyX12 20, tyX12_ok 20 (by decide), Or.inr ⟨_, rfl⟩⟩ (by decide +kernel : RF 139 20 = some 156) (by omega) (n9 (by omega)) ?_
  refine V_aload_n (pc := 134) d_X12_init_134 rfl ?_
  refine V_sipush (pc := 135) (nI 160) d_X12_init_135 (by decide) ?_
  refine S_newI0 (pc := 138) (158) d_X12_init_138 rfl (by decide) (by constructor <;> simp only [rm] <;> omega) (by decide +kernel : TF 157 = 20) (by decide +kernel : LF 157 = 160) rfl (s0_z (by omega) (by omega) (by omega) (by omega)) ?_
  refine S_put (pc := 140) d_X12_init_140 f_X12_62 (fun _ => ⟨rfl, _, rfl, rfl⟩) (by decide +kernel : TF 139 = 13) (by omega) ⟨tyX12 21, tyX12_ok 21 (by decide), Or.inr ⟨_, rfl⟩⟩ (by decide +kernel : RF 139 21 = some 157) (by omega) (n9 (by omega)) ?_
  refine V_aload_n (pc := 143) d_X12_init_143 rfl ?_
  refine V_sipush (pc := 144) (nI 160) d_X12_init_144 (by decide) ?_
  refine S_newI (pc := 147) (159) d_X12_init_147 rfl (by decide) (by constructor <;> simp only [rm] <;> omega) (by decide +kernel : TF 158 = 20) (by decide +kernel : LF 158 = 160) rfl ?_
  refine S_put (pc := 149) d_X12_init_149 f_X12_65 (fun _ => ⟨rfl, _, rfl, rfl⟩) (by decide +kernel : TF 139 = 13) (by omega) ⟨tyX12 22, tyX12_ok 22 (by decide), Or.inr ⟨_, rfl⟩⟩ (by decide +kernel : RF 139 22 = some 158) (by omega) (n9 (by omega)) ?_
  refine V_aload_n (pc := 152) d_X12_init_152 rfl ?_
  refine V_bipush (pc := 153) (nI 11) d_X12_init_153 (by decide) ?_
  refine S_newI0 (pc := 155) (160) d_X12_init_155 rfl (by decide) (by constructor <;> simp only [rm] <;> omega) (by decide +kernel : TF 159 = 20) (by decide +kernel : LF 159 = 11) rfl (fun j => (zr_n (by omega)).trans ((s0_z (by omega) (by omega) (by omega) (by omega)) j)) ?_
  refine S_put (pc := 157) d_X12_init_157 f_X12_68 (fun _ => ⟨rfl, _, rfl, rfl⟩) (by decide +kernel : TF 139 = 13) (by omega) ⟨tyX12 23, tyX12_ok 23 (by decide), Or.inr ⟨_, rfl⟩⟩ (by decide +kernel : RF 139 23 = some 159) (by omega) (n9 (by omega)) ?_
  refine V_aload_n (pc := 160) d_X12_init_160 rfl ?_
  refine V_bipush (pc := 161) (nI 12) d_X12_init_161 (by decide) ?_
  refine S_newI0 (pc := 163) (161) d_X12_init_163 rfl (by decide) (by constructor <;> simp only [rm] <;> omega) (by decide +kernel : TF 160 = 20) (by decide +kernel : LF 160 = 12) rfl (fun j => (zr_n (by omega)).trans ((s0_z (by omega) (by omega) (by omega) (by omega)) j)) ?_
  refine S_put (pc := 165) d_X12_init_165 f_X12_71 (fun _ => ⟨rfl, _, rfl, rfl⟩) (by decide +kernel : TF 139 = 13) (by omega) ⟨tyX12 25, tyX12_ok 25 (by decide), Or.inr ⟨_, rfl⟩⟩ (by decide +kernel : RF 139 25 = some 160) (by omega) (n9 (by omega)) ?_
  refine V_aload_n (pc := 168) d_X12_init_168 rfl ?_
  refine V_bipush (pc := 169) (nI 12) d_X12_init_169 (by decide) ?_
  refine S_newI0 (pc := 171) (162) d_X12_init_171 rfl (by decide) (by constructor <;> simp only [rm] <;> omega) (by decide +kernel : TF 161 = 20) (by decide +kernel : LF 161 = 12) rfl (fun j => (zr_n (by omega)).trans ((s0_z (by omega) (by omega) (by omega) (by omega)) j)) ?_
  refine S_put (pc := 173) d_X12_init_173 f_X12_74 (fun _ => ⟨rfl, _, rfl, rfl⟩) (by decide +kernel : TF 139 = 13) (by omega) ⟨tyX12 26, tyX12_ok 26 (by decide), Or.inr ⟨_, rfl⟩⟩ (by decide +kernel : RF 139 26 = some 161) (by omega) (n9 (by omega)) ?_
  refine V_aload_n (pc := 176) d_X12_init_176 rfl ?_
  refine V_bipush (pc := 177) (nI 12) d_X12_init_177 (by decide) ?_
  refine S_newI0 (pc := 179) (163) d_X12_init_179 rfl (by decide) (by constructor <;> simp only [rm] <;> omega) (by decide +kernel : TF 162 = 20) (by decide +kernel : LF 162 = 12) rfl (fun j => (zr_n (by omega)).trans ((s0_z (by omega) (by omega) (by omega) (by omega)) j)) ?_
  refine S_put (pc := 181) d_X12_init_181 f_X12_77 (fun _ => ⟨rfl, _, rfl, rfl⟩) (by decide +kernel : TF 139 = 13) (by omega) ⟨tyX12 27, tyX12_ok 27 (by decide), Or.inr ⟨_, rfl⟩⟩ (by decide +kernel : RF 139 27 = some 162) (by omega) (n9 (by omega)) ?_
  refine V_aload_n (pc := 184) d_X12_init_184 rfl ?_
  refine V_bipush (pc := 185) (nI 12) d_X12_init_185 (by decide) ?_
  refine S_newI0 (pc := 187) (164) d_X12_init_187 rfl (by decide) (by constructor <;> simp only [rm] <;> omega) (by decide +kernel : TF 163 = 20) (by decide +kernel : LF 163 = 12) rfl (fun j => (zr_n (by omega)).trans ((s0_z (by omega) (by omega) (by omega) (by omega)) j)) ?_
  refine S_put (pc := 189) d_X12_init_189 f_X12_80 (fun _ => ⟨rfl, _, rfl, rfl⟩) (by decide +kernel : TF 139 = 13) (by omega) ⟨tyX12 28, tyX12_ok 28 (by decide), Or.inr ⟨_, rfl⟩⟩ (by decide +kernel : RF 139 28 = some 163) (by omega) (n9 (by omega)) ?_
  refine V_aload_n (pc := 192) d_X12_init_192 rfl ?_
  refine V_bipush (pc := 193) (nI 12) d_X12_init_193 (by decide) ?_
  refine S_newI0 (pc := 195) (165) d_X12_init_195 rfl (by decide) (by constructor <;> simp only [rm] <;> omega) (by decide +kernel : TF 164 = 20) (by decide +kernel : LF 164 = 12) rfl (fun j => (zr_n (by omega)).trans ((s0_z (by omega) (by omega) (by omega) (by omega)) j)) ?_
  refine S_put (pc := 197) d_X12_init_197 f_X12_83 (fun _ => ⟨rfl, _, rfl, rfl⟩) (by decide +kernel : TF 139 = 13) (by omega) ⟨tyX12 29, tyX12_ok 29 (by decide), Or.inr ⟨_, rfl⟩⟩ (by decide +kernel : RF 139 29 = some 164) (by omega) (n9 (by omega)) ?_
  refine V_aload_n (pc := 200) d_X12_init_200 rfl ?_
  refine V_bipush (pc := 201) (nI 6) d_X12_init_201 (by decide) ?_
  refine S_newI0 (pc := 203) (166) d_X12_init_203 rfl (by decide) (by constructor <;> simp only [rm] <;> omega) (by decide +kernel : TF 165 = 20) (by decide +kernel : LF 165 = 6) rfl (fun j => (zr_n (by omega)).trans ((s0_z (by omega) (by omega) (by omega) (by omega)) j)) ?_
  refine S_put (pc := 205) d_X12_init_205 f_X12_86 (fun _ => ⟨rfl, _, rfl, rfl⟩) (by decide +kernel : TF 139 = 13) (by omega) ⟨tyX12 32, tyX12_ok 32 (by decide), Or.inr ⟨_, rfl⟩⟩ (by decide +kernel : RF 139 32 = some 165) (by omega) (n9 (by omega)) ?_
  refine V_aload_n (pc := 208) d_X12_init_208 rfl ?_
  refine V_bipush (pc := 209) (nI 6) d_X12_init_209 (by decide) ?_
  refine S_newI0 (pc := 211) (167) d_X12_init_211 rfl (by decide) (by constructor <;> simp only [rm] <;> omega) (by decide +kernel : TF 166 = 20) (by decide +kernel : LF 166 = 6) rfl (fun j => (zr_n (by omega)).trans ((s0_z (by omega) (by omega) (by omega) (by omega)) j)) ?_
  refine S_put (pc := 213) d_X12_init_213 f_X12_89 (fun _ => ⟨rfl, _, rfl, rfl⟩) (by decide +kernel : TF 139 = 13) (by omega) ⟨tyX12 33, tyX12_ok 33 (by decide), Or.inr ⟨_, rfl⟩⟩ (by decide +kernel : RF 139 33 = some 166) (by omega) (n9 (by omega)) ?_
  refine V_aload_n (pc := 216) d_X12_init_216 rfl ?_
  refine V_bipush (pc := 217) (nI 6) d_X12_init_217 (by decide) ?_
  refine S_newI0 (pc := 219) (168) d_X12_init_219 rfl (by decide) (by constructor <;> simp only [rm] <;> omega) (by decide +kernel : TF 167 = 20) (by decide +kernel : LF 167 = 6) rfl (fun j => (zr_n (by omega)).trans ((s0_z (by omega) (by omega) (by omega) (by omega)) j)) ?_
  refine S_put (pc := 221) d_X12_init_221 f_X12_92 (fun _ => ⟨rfl, _, rfl, rfl⟩) (by decide +kernel : TF 139 = 13) (by omega) ⟨tyX12 34, tyX12_ok 34 (by decide), Or.inr ⟨_, rfl⟩⟩ (by decide +kernel : RF 139 34 = some 167) (by omega) (n9 (by omega)) ?_
  refine V_aload_n (pc := 224) d_X12_init_224 rfl ?_
  refine V_bipush (pc := 225) (nI 8) d_X12_init_225 (by decide) ?_
  refine S_newI0 (pc := 227) (169) d_X12_init_227 rfl (by decide) (by constructor <;> simp only [rm] <;> omega) (by decide +kernel : TF 168 = 20) (by decide +kernel : LF 168 = 8) rfl (fun j => (zr_n (by omega)).trans ((s0_z (by omega) (by omega) (by omega) (by omega)) j)) ?_
  refine S_put (pc := 229) d_X12_init_229 f_X12_95 (fun _ => ⟨rfl, _, rfl, rfl⟩) (by decide +kernel : TF 139 = 13) (by omega) ⟨tyX12 36, tyX12_ok 36 (by decide), Or.inr ⟨_, rfl⟩⟩ (by decide +kernel : RF 139 36 = some 168) (by omega) (n9 (by omega)) ?_
  refine V_aload_n (pc := 232) d_X12_init_232 rfl ?_
  refine V_bipush (pc := 233) (nI 8) d_X12_init_233 (by decide) ?_
  refine S_newI0 (pc := 235) (170) d_X12_init_235 rfl (by decide) (by constructor <;> simp only [rm] <;> omega) (by decide +kernel : TF 169 = 20) (by decide +kernel : LF 169 = 8) rfl (fun j => (zr_n (by omega)).trans ((s0_z (by omega) (by omega) (by omega) (by omega)) j)) ?_
  refine S_put (pc := 237) d_X12_init_237 f_X12_98 (fun _ => ⟨rfl, _, rfl, rfl⟩) (by decide +kernel : TF 139 = 13) (by omega) ⟨tyX12 37, tyX12_ok 37 (by decide), Or.inr ⟨_, rfl⟩⟩ (by decide +kernel : RF 139 37 = some 169) (by omega) (n9 (by omega)) ?_
  refine V_aload_n (pc := 240) d_X12_init_240 rfl ?_
  refine V_bipush (pc := 241) (nI 8) d_X12_init_241 (by decide) ?_
  refine S_newI0 (pc := 243) (171) d_X12_init_243 rfl (by decide) (by constructor <;> simp only [rm] <;> omega) (by decide +kernel : TF 170 = 20) (by decide +kernel : LF 170 = 8) rfl (fun j => (zr_n (by omega)).trans ((s0_z (by omega) (by omega) (by omega) (by omega)) j)) ?_
  refine S_put (pc := 245) d_X12_init_245 f_X12_101 (fun _ => ⟨rfl, _, rfl, rfl⟩) (by decide +kernel : TF 139 = 13) (by omega) ⟨tyX12 38, tyX12_ok 38 (by decide), Or.inr ⟨_, rfl⟩⟩ (by decide +kernel : RF 139 38 = some 170) (by omega) (n9 (by omega)) ?_
  refine V_aload_n (pc := 248) d_X12_init_248 rfl ?_
  refine V_bipush (pc := 249) (nI 8) d_X12_init_249 (by decide) ?_
  refine S_newI0 (pc := 251) (172) d_X12_init_251 rfl (by decide) (by constructor <;> simp only [rm] <;> omega) (by decide +kernel : TF 171 = 20) (by decide +kernel : LF 171 = 8) rfl (fun j => (zr_n (by omega)).trans ((s0_z (by omega) (by omega) (by omega) (by omega)) j)) ?_
  refine S_put (pc := 253) d_X12_init_253 f_X12_104 (fun _ => ⟨rfl, _, rfl, rfl⟩) (by decide +kernel : TF 139 = 13) (by omega) ⟨tyX12 39, tyX12_ok 39 (by decide), Or.inr ⟨_, rfl⟩⟩ (by decide +kernel : RF 139 39 = some 171) (by omega) (n9 (by omega)) ?_
  refine V_aload_n (pc := 256) d_X12_init_256 rfl ?_
  refine V_sipush (pc := 257) (nI 1100) d_X12_init_257 (by decide) ?_
  refine S_newI0 (pc := 260) (173) d_X12_init_260 rfl (by decide) (by constructor <;> simp only [rm] <;> omega) (by decide +kernel : TF 172 = 20) (by decide +kernel : LF 172 = 1100) rfl (fun j => (zr_n (by omega)).trans ((s0_z (by omega) (by omega) (by omega) (by omega)) j)) ?_
  refine S_put (pc := 262) d_X12_init_262 f_X12_107 (fun _ => ⟨rfl, _, rfl, rfl⟩) (by decide +kernel : TF 139 = 13) (by omega) ⟨tyX12 40, tyX12_ok 40 (by decide), Or.inr ⟨_, rfl⟩⟩ (by decide +kernel : RF 139 40 = some 172) (by omega) (n9 (by omega)) ?_
  refine V_aload_n (pc := 265) d_X12_init_265 rfl ?_
  refine V_sipush (pc := 266) (nI 1100) d_X12_init_266 (by decide) ?_
  refine S_newI0 (pc := 269) (174) d_X12_init_269 rfl (by decide) (by constructor <;> simp only [rm] <;> omega) (by decide +kernel : TF 173 = 20) (by decide +kernel : LF 173 = 1100) rfl (fun j => (zr_n (by omega)).trans ((s0_z (by omega) (by omega) (by omega) (by omega)) j)) ?_
  refine S_put (pc := 271) d_X12_init_271 f_X12_110 (fun _ => ⟨rfl, _, rfl, rfl⟩) (by decide +kernel : TF 139 = 13) (by omega) ⟨tyX12 41, tyX12_ok 41 (by decide), Or.inr ⟨_, rfl⟩⟩ (by decide +kernel : RF 139 41 = some 173) (by omega) (n9 (by omega)) ?_
  refine V_aload_n (pc := 274) d_X12_init_274 rfl ?_
  refine V_bipush (pc := 275) (nI 11) d_X12_init_275 (by decide) ?_
  refine S_newI0 (pc := 277) (175) d_X12_init_277 rfl (by decide) (by constructor <;> simp only [rm] <;> omega) (by decide +kernel : TF 174 = 20) (by decide +kernel : LF 174 = 11) rfl (fun j => (zr_n (by omega)).trans ((s0_z (by omega) (by omega) (by omega) (by omega)) j)) ?_
  refine S_put (pc := 279) d_X12_init_279 f_X12_113 (fun _ => ⟨rfl, _, rfl, rfl⟩) (by decide +kernel : TF 139 = 13) (by omega) ⟨tyX12 42, tyX12_ok 42 (by decide), Or.inr ⟨_, rfl⟩⟩ (by decide +kernel : RF 139 42 = some 174) (by omega) (n9 (by omega)) ?_
  refine V_aload_n (pc := 282) d_X12_init_282 rfl ?_
  refine V_bipush (pc := 283) (nI 7) d_X12_init_283 (by decide) ?_
  refine S_newI0 (pc := 285) (176) d_X12_init_285 rfl (by decide) (by constructor <;> simp only [rm] <;> omega) (by decide +kernel : TF 175 = 20) (by decide +kernel : LF 175 = 7) rfl (fun j => (zr_n (by omega)).trans ((s0_z (by omega) (by omega) (by omega) (by omega)) j)) ?_
  refine S_put (pc := 287) d_X12_init_287 f_X12_116 (fun _ => ⟨rfl, _, rfl, rfl⟩) (by decide +kernel : TF 139 = 13) (by omega) ⟨tyX12 46, tyX12_ok 46 (by decide), Or.inr ⟨_, rfl⟩⟩ (by decide +kernel : RF 139 46 = some 175) (by omega) (n9 (by omega)) ?_
  refine V_aload_n (pc := 290) d_X12_init_290 rfl ?_
  refine V_bipush (pc := 291) (nI 10) d_X12_init_291 (by decide) ?_
  refine S_newZ0 (pc := 293) (177) d_X12_init_293 rfl (by decide) (by constructor <;> simp only [rm] <;> omega) (by decide +kernel : TF 176 = 21) (by decide +kernel : LF 176 = 10) rfl (fun j => (zr_n (by omega)).trans ((s0_z (by omega) (by omega) (by omega) (by omega)) j)) ?_
  refine S_put (pc := 295) d_X12_init_295 f_X12_119 (fun _ => ⟨rfl, _, rfl, rfl⟩) (by decide +kernel : TF 139 = 13) (by omega) ⟨tyX12 47, tyX12_ok 47 (by decide), Or.inr ⟨_, rfl⟩⟩ (by decide +kernel : RF 139 47 = some 176) (by omega) (n9 (by omega)) ?_
  refine V_aload_n (pc := 298) d_X12_init_298 rfl ?_
  refine V_sipush (pc := 299) (nI 1000) d_X12_init_299 (by decide) ?_
  refine S_newI0 (pc := 302) (178) d_X12_init_302 rfl (by decide) (by constructor <;> simp only [rm] <;> omega) (by decide +kernel : TF 177 = 20) (by decide +kernel : LF 177 = 1000) rfl (fun j => (zr_n (by omega)).trans ((s0_z (by omega) (by omega) (by omega) (by omega)) j)) ?_
  refine S_put (pc := 304) d_X12_init_304 f_X12_122 (fun _ => ⟨rfl, _, rfl, rfl⟩) (by decide +kernel : TF 139 = 13) (by omega) ⟨tyX12 48, tyX12_ok 48 (by decide), Or.inr ⟨_, rfl⟩⟩ (by decide +kernel : RF 139 48 = some 177) (by omega) (n9 (by omega)) ?_
  refine V_aload_n (pc := 307) d_X12_init_307 rfl ?_
  refine V_sipush (pc := 308) (nI 1000) d_X12_init_308 (by decide) ?_
  refine S_newZ0 (pc := 311) (179) d_X12_init_311 rfl (by decide) (by constructor <;> simp only [rm] <;> omega) (by decide +kernel : TF 178 = 21) (by decide +kernel : LF 178 = 1000) rfl (fun j => (zr_n (by omega)).trans ((s0_z (by omega) (by omega) (by omega) (by omega)) j)) ?_
  refine S_put (pc := 313) d_X12_init_313 f_X12_125 (fun _ => ⟨rfl, _, rfl, rfl⟩) (by decide +kernel : TF 139 = 13) (by omega) ⟨tyX12 49, tyX12_ok 49 (by decide), Or.inr ⟨_, rfl⟩⟩ (by decide +kernel : RF 139 49 = some 178) (by omega) (n9 (by omega)) ?_
  refine V_aload_n (pc := 316) d_X12_init_316 rfl ?_
  refine V_bipush (pc := 317) (nI 100) d_X12_init_317 (by decide) ?_
  refine S_newI0 (pc := 319) (180) d_X12_init_319 rfl (by decide) (by constructor <;> simp only [rm] <;> omega) (by decide +kernel : TF 179 = 20) (by decide +kernel : LF 179 = 100) rfl (fun j => (zr_n (by omega)).trans ((s0_z (by omega) (by omega) (by omega) (by omega)) j)) ?_
  refine S_put (pc := 321) d_X12_init_321 f_X12_128 (fun _ => ⟨rfl, _, rfl, rfl⟩) (by decide +kernel : TF 139 = 13) (by omega) ⟨tyX12 50, tyX12_ok 50 (by decide), Or.inr ⟨_, rfl⟩⟩ (by decide +kernel : RF 139 50 = some 179) (by omega) (n9 (by omega)) ?_
  refine V_aload_n (pc := 324) d_X12_init_324 rfl ?_
  refine V_bipush (pc := 325) (nI 100) d_X12_init_325 (by decide) ?_
  refine S_newZ0 (pc := 327) (181) d_X12_init_327 rfl (by decide) (by constructor <;> simp only [rm] <;> omega) (by decide +kernel : TF 180 = 21) (by decide +kernel : LF 180 = 100) rfl (fun j => (zr_n (by omega)).trans ((s0_z (by omega) (by omega) (by omega) (by omega)) j)) ?_
  refine S_put (pc := 329) d_X12_init_329 f_X12_131 (fun _ => ⟨rfl, _, rfl, rfl⟩) (by decide +kernel : TF 139 = 13) (by omega) ⟨tyX12 51, tyX12_ok 51 (by decide), Or.inr ⟨_, rfl⟩⟩ (by decide +kernel : RF 139 51 = some 180) (by omega) (n9 (by omega)) ?_
  refine V_aload_n (pc := 332) d_X12_init_332 rfl ?_
  refine V_bipush (pc := 333) (nI 100) d_X12_init_333 (by decide) ?_
  refine S_newZ0 (pc := 335) (182) d_X12_init_335 rfl (by decide) (by constructor <;> simp only [rm] <;> omega) (by decide +kernel : TF 181 = 21) (by decide +kernel : LF 181 = 100) rfl (fun j => (zr_n (by omega)).trans ((s0_z (by omega) (by omega) (by omega) (by omega)) j)) ?_
  refine S_put (pc := 337) d_X12_init_337 f_X12_134 (fun _ => ⟨rfl, _, rfl, rfl⟩) (by decide +kernel : TF 139 = 13) (by omega) ⟨tyX12 52, tyX12_ok 52 (by decide), Or.inr ⟨_, rfl⟩⟩ (by decide +kernel : RF 139 52 = some 181) (by omega) (n9 (by omega)) ?_
  refine V_aload_n (pc := 340) d_X12_init_340 rfl ?_
  refine V_bipush (pc := 341) (nI 25) d_X12_init_341 (by decide) ?_
  refine S_newI0 (pc := 343) (183) d_X12_init_343 rfl (by decide) (by constructor <;> simp only [rm] <;> omega) (by decide +kernel : TF 182 = 20) (by decide +kernel : LF 182 = 25) rfl (fun j => (zr_n (by omega)).trans ((s0_z (by omega) (by omega) (by omega) (by omega)) j)) ?_
  refine S_put (pc := 345) d_X12_init_345 f_X12_137 (fun _ => ⟨rfl, _, rfl, rfl⟩) (by decide +kernel : TF 139 = 13) (by omega) ⟨tyX12 53, tyX12_ok 53 (by decide), Or.inr ⟨_, rfl⟩⟩ (by decide +kernel : RF 139 53 = some 182) (by omega) (n9 (by omega)) ?_
  refine V_aload_n (pc := 348) d_X12_init_348 rfl ?_
  refine V_sipush (pc := 349) (nI 160) d_X12_init_349 (by decide) ?_
  refine S_newI0 (pc := 352) (184) d_X12_init_352 rfl (by decide) (by constructor <;> simp only [rm] <;> omega) (by decide +kernel : TF 183 = 20) (by decide +kernel : LF 183 = 160) rfl (fun j => (zr_n (by omega)).trans ((s0_z (by omega) (by omega) (by omega) (by omega)) j)) ?_
  refine S_put (pc := 354) d_X12_init_354 f_X12_140 (fun _ => ⟨rfl, _, rfl, rfl⟩) (by decide +kernel : TF 139 = 13) (by omega) ⟨tyX12 54, tyX12_ok 54 (by decide), Or.inr ⟨_, rfl⟩⟩ (by decide +kernel : RF 139 54 = some 183) (by omega) (n9 (by omega)) ?_
  refine V_aload_n (pc := 357) d_X12_init_357 rfl ?_
  refine V_sipush (pc := 358) (nI 160) d_X12_init_358 (by decide) ?_
  refine S_newI0 (pc := 361) (185) d_X12_init_361 rfl (by decide) (by constructor <;> simp only [rm] <;> omega) (by decide +kernel : TF 184 = 20) (by decide +kernel : LF 184 = 160) rfl (fun j => (zr_n (by omega)).trans ((s0_z (by omega) (by omega) (by omega) (by omega)) j)) ?_
  refine S_put (pc := 363) d_X12_init_363 f_X12_143 (fun _ => ⟨rfl, _, rfl, rfl⟩) (by decide +kernel : TF 139 = 13) (by omega) ⟨tyX12 55, tyX12_ok 55 (by decide), Or.inr ⟨_, rfl⟩⟩ (by decide +kernel : RF 139 55 = some 184) (by omega) (n9 (by omega)) ?_
  refine V_aload_n (pc := 366) d_X12_init_366 rfl ?_
  refine V_bipush (pc := 367) (nI 11) d_X12_init_367 (by decide) ?_
  refine S_newI0 (pc := 369) (186) d_X12_init_369 rfl (by decide) (by constructor <;> simp only [rm] <;> omega) (by decide +kernel : TF 185 = 20) (by decide +kernel : LF 185 = 11) rfl (fun j => (zr_n (by omega)).trans ((s0_z (by omega) (by omega) (by omega) (by omega)) j)) ?_
  refine S_put (pc := 371) d_X12_init_371 f_X12_146 (fun _ => ⟨rfl, _, rfl, rfl⟩) (by decide +kernel : TF 139 = 13) (by omega) ⟨tyX12 56, tyX12_ok 56 (by decide), Or.inr ⟨_, rfl⟩⟩ (by decide +kernel : RF 139 56 = some 185) (by omega) (n9 (by omega)) ?_
  refine V_aload_n (pc := 374) d_X12_init_374 rfl ?_
  refine V_bipush (pc := 375) (nI 24) d_X12_init_375 (by decide) ?_
  refine S_newI0 (pc := 377) (187) d_X12_init_377 rfl (by decide) (by constructor <;> simp only [rm] <;> omega) (by decide +kernel : TF 186 = 20) (by decide +kernel : LF 186 = 24) rfl (fun j => (zr_n (by omega)).trans ((s0_z (by omega) (by omega) (by omega) (by omega)) j)) ?_
  refine S_put (pc := 379) d_X12_init_379 f_X12_149 (fun _ => ⟨rfl, _, rfl, rfl⟩) (by decide +kernel : TF 139 = 13) (by omega) ⟨tyX12 57, tyX12_ok 57 (by decide), Or.inr ⟨_, rfl⟩⟩ (by decide +kernel : RF 139 57 = some 186) (by omega) (n9 (by omega)) ?_
  refine V_aload_n (pc := 382) d_X12_init_382 rfl ?_
  refine V_bipush (pc := 383) (nI 50) d_X12_init_383 (by decide) ?_
  refine S_newI0 (pc := 385) (188) d_X12_init_385 rfl (by decide) (by constructor <;> simp only [rm] <;> omega) (by decide +kernel : TF 187 = 20) (by decide +kernel : LF 187 = 50) rfl (fun j => (zr_n (by omega)).trans ((s0_z (by omega) (by omega) (by omega) (by omega)) j)) ?_
  refine S_put (pc := 387) d_X12_init_387 f_X12_152 (fun _ => ⟨rfl, _, rfl, rfl⟩) (by decide +kernel : TF 139 = 13) (by omega) ⟨tyX12 58, tyX12_ok 58 (by decide), Or.inr ⟨_, rfl⟩⟩ (by decide +kernel : RF 139 58 = some 187) (by omega) (n9 (by omega)) ?_
  refine V_aload_n (pc := 390) d_X12_init_390 rfl ?_
  refine V_iconst (pc := 391) (nI 4) d_X12_init_391 (by decide) ?_
  refine S_newI (pc := 392) (189) d_X12_init_392 rfl (by decide) (by constructor <;> simp only [rm] <;> omega) (by decide +kernel : TF 188 = 20) (by decide +kernel : LF 188 = 4) rfl ?_
  refine V_dup (pc := 394) d_X12_init_394 rfl ?_
  refine V_iconst (pc := 395) (0) d_X12_init_395 (by decide) ?_
  refine V_iconst (pc := 396) (-1) d_X12_init_396 (by decide) ?_
  refine P_iast (pc := 397) (0) d_X12_init_397 (stg_T (by decide) (by decide +kernel : TF 188 = 20)) (by decide) (ln_of (stg_L (by decide) (by decide +kernel : LF 188 = 4)) ⟨by omega, by decide⟩) ?_
  refine V_dup (pc := 398) d_X12_init_398 rfl ?_
  refine V_iconst (pc := 399) (1) d_X12_init_399 (by decide) ?_
  refine V_iconst (pc := 400) (-1) d_X12_init_400 (by decide) ?_
  refine P_iast (pc := 401) (1) d_X12_init_401 (stg_T (by decide) (by decide +kernel : TF 188 = 20)) (by decide) (ln_of (stg_L (by decide) (by decide +kernel : LF 188 = 4)) ⟨by omega, by decide⟩) ?_
  refine V_dup (pc := 402) d_X12_init_402 rfl ?_
  refine V_iconst (pc := 403) (nI 2) d_X12_init_403 (by decide) ?_
  refine V_iconst (pc := 404) (-1) d_X12_init_404 (by decide) ?_
  refine P_iast (pc := 405) (2) d_X12_init_405 (stg_T (by decide) (by decide +kernel : TF 188 = 20)) rfl (ln_of (stg_L (by decide) (by decide +kernel : LF 188 = 4)) ⟨by omega, by decide⟩) ?_
  refine V_dup (pc := 406) d_X12_init_406 rfl ?_
  refine V_iconst (pc := 407) (nI 3) d_X12_init_407 (by decide) ?_
  refine V_iconst (pc := 408) (-1) d_X12_init_408 (by decide) ?_
  refine P_iast (pc := 409) (3) d_X12_init_409 (stg_T (by decide) (by decide +kernel : TF 188 = 20)) rfl (ln_of (stg_L (by decide) (by decide +kernel : LF 188 = 4)) ⟨by omega, by decide⟩) ?_
  rw [show (up2 (up2 (up2 (up2 (zr (zr s0 158) 188) 188 0 (-1)) 188 1 (-1)) 188 2 (-1)) 188 3 (-1)) = (zr s0 158) from by
    funext c j
    by_cases w : c = 188
    · subst w
      have hn : zr s0 158 188 j = if j < 4 then -1 else 0 := (zr_n (by decide)).trans (s0_q j)
      rw [hn]
      rcases Nat.lt_or_ge j 4 with g | g
      · rw [if_pos g]
        rcases (by omega : j = 0 ∨ j = 1 ∨ j = 2 ∨ j = 3) with rfl | rfl | rfl | rfl <;> simp (disch := omega) only [up2_n, up2_e]
      · rw [if_neg (by omega), up2_n (by omega), up2_n (by omega), up2_n (by omega), up2_n (by omega)]
        exact if_pos rfl
    · rw [up2_n (by omega), up2_n (by omega), up2_n (by omega), up2_n (by omega), zr_n w]]
  refine S_put (pc := 410) d_X12_init_410 f_X12_155 (fun _ => ⟨rfl, _, rfl, rfl⟩) (by decide +kernel : TF 139 = 13) (by omega) ⟨tyX12 60, tyX12_ok 60 (by decide), Or.inr ⟨_, rfl⟩⟩ (by decide +kernel : RF 139 60 = some 188) (by omega) (n9 (by omega)) ?_
  refine V_aload_n (pc := 413) d_X12_init_413 rfl ?_
  refine V_iconst (pc := 414) (nI 4) d_X12_init_414 (by decide) ?_
  refine S_newI0 (pc := 415) (190) d_X12_init_415 rfl (by decide) (by constructor <;> simp only [rm] <;> omega) (by decide +kernel : TF 189 = 20) (by decide +kernel : LF 189 = 4) rfl (fun j => (zr_n (by omega)).trans ((s0_z (by omega) (by omega) (by omega) (by omega)) j)) ?_
  refine S_put (pc := 417) d_X12_init_417 f_X12_158 (fun _ => ⟨rfl, _, rfl, rfl⟩) (by decide +kernel : TF 139 = 13) (by omega) ⟨tyX12 61, tyX12_ok 61 (by decide), Or.inr ⟨_, rfl⟩⟩ (by decide +kernel : RF 139 61 = some 189) (by omega) (n9 (by omega)) ?_
  refine V_aload_n (pc := 420) d_X12_init_420 rfl ?_
  refine V_sipush (pc := 421) (nI 160) d_X12_init_421 (by decide) ?_
  refine S_newI0 (pc := 424) (191) d_X12_init_424 rfl (by decide) (by constructor <;> simp only [rm] <;> omega) (by decide +kernel : TF 190 = 20) (by decide +kernel : LF 190 = 160) rfl (fun j => (zr_n (by omega)).trans ((s0_z (by omega) (by omega) (by omega) (by omega)) j)) ?_
  refine S_put (pc := 426) d_X12_init_426 f_X12_161 (fun _ => ⟨rfl, _, rfl, rfl⟩) (by decide +kernel : TF 139 = 13) (by omega) ⟨tyX12 62, tyX12_ok 62 (by decide), Or.inr ⟨_, rfl⟩⟩ (by decide +kernel : RF 139 62 = some 190) (by omega) (n9 (by omega)) ?_
  refine V_aload_n (pc := 429) d_X12_init_429 rfl ?_
  refine V_sipush (pc := 430) (nI 160) d_X12_init_430 (by decide) ?_
  refine S_newZ0 (pc := 433) (192) d_X12_init_433 rfl (by decide) (by constructor <;> simp only [rm] <;> omega) (by decide +kernel : TF 191 = 21) (by decide +kernel : LF 191 = 160) rfl (fun j => (zr_n (by omega)).trans ((s0_z (by omega) (by omega) (by omega) (by omega)) j)) ?_
  refine S_put (pc := 435) d_X12_init_435 f_X12_164 (fun _ => ⟨rfl, _, rfl, rfl⟩) (by decide +kernel : TF 139 = 13) (by omega) ⟨tyX12 63, tyX12_ok 63 (by decide), Or.inr ⟨_, rfl⟩⟩ (by decide +kernel : RF 139 63 = some 191) (by omega) (n9 (by omega)) ?_
  refine V_iconst (pc := 438) (0) d_X12_init_438 (by decide) ?_
  refine V_istore_n (pc := 439) d_X12_init_439 (by decide) ?_
  rw [show (zr s0 158) = filr (zr s0 158) 158 0 0 (-1) from filr_0.symm]
  refine lp_nW (F := FM G (rm 1 52 8107) (QV KV)) ?_ 160 (Nat.le_refl _) 0 (by omega)
  rw [fil_zr s0_w]
  exact V_retV (pc := 460) d_X12_init_460 rfl ⟨by decide, by decide⟩ hq
end HO
theorem stg_first : stg 192 [139, 3] = sh false := by rw [stg_drop (by decide +kernel), stg_drop (by decide +kernel), sh_stg_f]
theorem cnt_false : ∀ n, cnt (fun _ => false) n = 0
  | 0 => rfl
  | n + 1 => by rw [cnt, cnt_false n]; rfl
/-- what is made first is in the relation -/
theorem rel_0 : Rel s0 false := by
  have Z : ∀ {a j : Nat}, ¬ (4 ≤ a ∧ a < 123) → ¬ (131 ≤ a ∧ a < 139 ∧ a % 2 = 1) → a ≠ 158 → a ≠ 188 → s0 a j = 0 := fun {a j} h1 h2 h3 h4 => s0_z h1 h2 h3 h4 j
  have I0 : ∀ {a j : Nat} (o : Nat), a = 4 + o → o < 119 → o ≠ 1 → ¬ (32 ≤ o ∧ o ≤ 92 ∧ o % 4 = 0) → s0 a j = 0 := fun {a j} o h1 h2 h3 h4 => RI_z s0_I o h1 h2 h3 h4 j
  have WW : ∀ {w p m : Nat} (o : Nat), p = 4 + o → (32 ≤ o ∧ o ≤ 92 ∧ o % 4 = 0) → m + 10 ≤ 160 → cW s0 w p s0 m 0 := fun {w p m} o h1 h2 h3 k hk => by
    have e1 : s0 p k = -1 := (RI_q s0_I o h1 h2 k).trans (if_pos hk)
    have e2 : s0 158 (m + k) = -1 := (s0_w (m + k)).trans (if_pos (by omega))
    exact ⟨e1.trans e2.symm, Or.inl e2⟩
  refine ⟨0, 0, 0, 0, 0, 0, ⟨⟨⟨by decide, by decide, by decide, by decide, by decide, by decide⟩, ⟨Z (by omega) (by omega) (by omega) (by omega), Z (by omega) (by omega) (by omega) (by omega), Z (by omega) (by omega) (by omega) (by omega), Z (by omega) (by omega) (by omega) (by omega), Z (by omega) (by omega) (by omega) (by omega), Z (by omega) (by omega) (by omega) (by omega)⟩,
      ⟨I0 0 rfl (by decide) (by decide) (by decide), I0 0 rfl (by decide) (by decide) (by decide), I0 0 rfl (by decide) (by decide) (by decide), I0 0 rfl (by decide) (by decide) (by decide), I0 0 rfl (by decide) (by decide) (by decide), I0 0 rfl (by decide) (by decide) (by decide)⟩, (I0 0 rfl (by decide) (by decide) (by decide)).trans (Z (by omega) (by omega) (by omega) (by omega)).symm⟩,
    ⟨fun d hd => Or.inl ⟨Z (by omega) (by omega) (by omega) (by omega), ((s0_I 1 (by decide) d).trans rI_1).trans (if_pos hd)⟩, ?_⟩, fun d hd => ?_, fun k hk => absurd hk (by omega), fun l hl => ?_, fun i hi => absurd hi (by omega), fun j hj => absurd hj (by omega), fun t ht => absurd ht (by omega), fun t ht => absurd ht (by omega)⟩,
    ⟨?_, ?_, 0, by decide, ?_⟩, ⟨0, by decide, ?_, ?_, fun j hj => absurd hj (by omega)⟩, fun s hs => ?_, ⟨fun _ => Z (by omega) (by omega) (by omega) (by omega), fun e => by cases e⟩⟩
  · rw [show s0 4 6 = 0 from I0 0 rfl (by decide) (by decide) (by decide), cnt_cg (p := fun _ => false) (fun i hi => by rw [Z (a := 147) (by omega) (by omega) (by omega) (by omega)]; rfl), cnt_false]
    rfl
  · have e2 : s0 148 d = 0 := Z (by omega) (by omega) (by omega) (by omega)
    exact ⟨(I0 2 rfl (by decide) (by decide) (by decide)).trans e2.symm, Or.inl e2⟩
  · have e2 : s0 159 l = 0 := Z (by omega) (by omega) (by omega) (by omega)
    refine ⟨(I0 (29 + 4 * l) (by omega) (by omega) (by omega) (by omega)).trans e2.symm, ⟨0, by decide, e2⟩, WW (32 + 4 * l - 4 + 4) (by omega) (by omega) (by omega), fun _ => ⟨e2, fun k hk => (s0_w _).trans (if_pos (by omega))⟩⟩
  · exact (Z (by omega) (by omega) (by omega) (by omega)).trans (Z (by omega) (by omega) (by omega) (by omega)).symm
  · exact (Z (by omega) (by omega) (by omega) (by omega)).trans (Z (by omega) (by omega) (by omega) (by omega)).symm
  · exact Z (by omega) (by omega) (by omega) (by omega)
  · exact Z (by omega) (by omega) (by omega) (by omega)
  · exact Z (by omega) (by omega) (by omega) (by omega)
  · have e1 : s0 188 s = -1 := (s0_q s).trans (if_pos hs)
    have e2 : s0 189 s = 0 := Z (by omega) (by omega) (by omega) (by omega)
    refine ⟨((s0_h (a := 131 + 2 * s) (by omega) 0).trans (if_pos rfl)).trans e1.symm, ((s0_h (a := 131 + 2 * s) (by omega) 1).trans (if_neg (by decide))).trans e2.symm, Or.inl e1, ⟨0, by decide, e2⟩, fun j hj => ?_⟩
    have e3 : s0 190 (40 * s + j) = 0 := Z (by omega) (by omega) (by omega) (by omega)
    have e4 : s0 191 (40 * s + j) = 0 := Z (by omega) (by omega) (by omega) (by omega)
    have e5 : s0 (132 + 2 * s) j = 0 := Z (by omega) (by omega) (by omega) (by omega)
    rw [e3]
    exact ⟨by decide, by decide, Or.inl ⟨e4, e5⟩⟩
