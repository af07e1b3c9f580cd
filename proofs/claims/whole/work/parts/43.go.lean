def stepM (V : Sg) (ns q i : Nat) : Sg := if (V 152 i = 1 ∨ V 152 i = nI 2) ∧ V 155 i = nI q then comeM V i (if V 152 i = 1 then (V 153 i).toNatClampNeg + 1 else (V 153 i).toNatClampNeg) ns else V
def boatsM (V : Sg) (ns q : Nat) : Nat → Sg
  | 0 => V
  | n + 1 => stepM (boatsM V ns q n) ns q n
def quartM (V : Sg) (ns nb q : Nat) : Sg := boatsM (up2 V 139 1 (nI (q + 1))) ns (q + 1) nb
def goM (V : Sg) (ns nb q : Nat) : Nat → Sg
  | 0 => V
  | n + 1 => quartM (goM V ns nb q n) ns nb (q + n)
def FR (σ σ' : Sg) : Prop := ∀ a j, ¬ (a = 4 ∨ (33 ≤ a ∧ a < 97)) → σ' a j = σ a j
theorem boatsM_s (V : Sg) (ns q n : Nat) : boatsM V ns q (n + 1) = stepM (boatsM V ns q n) ns q n := rfl
theorem goM_s (V : Sg) (ns nb q n : Nat) : goM V ns nb q (n + 1) = quartM (goM V ns nb q n) ns nb (q + n) := rfl
theorem step_no {V : Sg} {ns q i : Nat} (h : ¬ ((V 152 i = 1 ∨ V 152 i = nI 2) ∧ V 155 i = nI q)) : stepM V ns q i = V := if_neg h
theorem step_dn {V : Sg} {ns q i k : Nat} (h1 : V 152 i = 1) (h : V 155 i = nI q) (hk : V 153 i = nI k) (h2 : k < 100) : stepM V ns q i = comeM V i (k + 1) ns := by
  rw [stepM, if_pos ⟨Or.inl h1, h⟩, if_pos h1, hk, nI_clamp (by omega)]
theorem step_up {V : Sg} {ns q i k : Nat} (h1 : V 152 i = nI 2) (h : V 155 i = nI q) (hk : V 153 i = nI k) (h2 : k < 100) : stepM V ns q i = comeM V i k ns := by
  rw [stepM, if_pos ⟨Or.inr h1, h⟩, if_neg (by rw [h1]; decide), hk, nI_clamp (by omega)]
theorem RR_step {σ V : Sg} {q ns nb nl nt nr i : Nat} (h : RR σ 4 V q ns nb nl nt nr) (hi : i < nb) : ∃ σ', RR σ' 4 (stepM V ns q i) q ns nb nl nt nr := by
  have hbd := h.1.1
  by_cases c : (V 152 i = 1 ∨ V 152 i = nI 2) ∧ V 155 i = nI q
  · obtain ⟨k, hk, ek⟩ : rg (V 153 i) ns := by
      rcases (h.2.2.2.2.2.1 i hi).2.2.2.2.1 with z | z | z
      · rw [z.1] at c; rcases c.1 with z | z <;> exact absurd z (by decide)
      · exact z.2.1
      · rw [z.1] at c; rcases c.1 with z | z <;> exact absurd z (by decide)
    rcases c.1 with z | z
    · exact ⟨_, by rw [step_dn z c.2 ek (by omega)]; exact RR_come h hi (by omega)⟩
    · exact ⟨_, by rw [step_up z c.2 ek (by omega)]; exact RR_come h hi (by omega)⟩
  · exact ⟨σ, by rw [step_no c]; exact h⟩
theorem RR_boats {σ V : Sg} {q ns nb nl nt nr : Nat} (h : RR σ 4 V q ns nb nl nt nr) : ∀ n, n ≤ nb → ∃ σ', RR σ' 4 (boatsM V ns q n) q ns nb nl nt nr
  | 0, _ => ⟨σ, h⟩
  | n + 1, hn => by
    obtain ⟨σ1, h1⟩ := RR_boats h n (by omega)
    exact RR_step h1 (by omega)
theorem RR_q {σ V : Sg} {q ns nb nl nt nr : Nat} (h : RR σ 4 V q ns nb nl nt nr) (hq : q + 1 ≤ 9599) : RR (up2 σ 4 0 (nI (q + 1))) 4 (up2 V 139 1 (nI (q + 1))) (q + 1) ns nb nl nt nr := by
  obtain ⟨hcn, hH, hC, hS, hLD, hB, hA, hT, hU⟩ := h
  obtain ⟨⟨c1, c2, c3, c4, c5, c6⟩, ⟨v1, v2, v3, v4, v5, v6⟩, ⟨r1, r2, r3, r4, r5, r6⟩, hp⟩ := hcn
  refine ⟨⟨⟨by omega, c2, c3, c4, c5, c6⟩, ⟨?_, ?_, ?_, ?_, ?_, ?_⟩, ⟨?_, ?_, ?_, ?_, ?_, ?_⟩, ?_⟩, cH_cg hH (by simp (disch := omega) only [up2_n, filr_n, film_n]) (fun d _ => (by simp (disch := omega) only [up2_n, filr_n, film_n])) (fun d _ => ⟨(by simp (disch := omega) only [up2_n, filr_n, film_n]), (by simp (disch := omega) only [up2_n, filr_n, film_n])⟩), cC_cg hC (fun d _ => (by simp (disch := omega) only [up2_n, filr_n, film_n])) (fun d _ => (by simp (disch := omega) only [up2_n, filr_n, film_n])), cS_cg hS (fun k _ => ⟨fun j => (by simp (disch := omega) only [up2_n, filr_n, film_n]), fun d _ => (by simp (disch := omega) only [up2_n, filr_n, film_n])⟩) (fun k _ => ⟨(by simp (disch := omega) only [up2_n, filr_n, film_n]), (by simp (disch := omega) only [up2_n, filr_n, film_n]), (by simp (disch := omega) only [up2_n, filr_n, film_n]), (by simp (disch := omega) only [up2_n, filr_n, film_n])⟩) (fun i _ => ⟨(by simp (disch := omega) only [up2_n, filr_n, film_n]), (by simp (disch := omega) only [up2_n, filr_n, film_n])⟩),
    cL_cg hLD (fun l _ => ⟨(by simp (disch := omega) only [up2_n, filr_n, film_n]), fun k _ => ⟨(by simp (disch := omega) only [up2_n, filr_n, film_n]), (by simp (disch := omega) only [up2_n, filr_n, film_n])⟩⟩) (fun l _ => (by simp (disch := omega) only [up2_n, filr_n, film_n])) (fun m _ _ => ⟨(by simp (disch := omega) only [up2_n, filr_n, film_n]), (by simp (disch := omega) only [up2_n, filr_n, film_n])⟩), cB_cg hB (fun i _ => ⟨fun j => (by simp (disch := omega) only [up2_n, filr_n, film_n]), fun k _ => ⟨(by simp (disch := omega) only [up2_n, filr_n, film_n]), (by simp (disch := omega) only [up2_n, filr_n, film_n])⟩⟩) (fun i _ a _ _ => (by simp (disch := omega) only [up2_n, filr_n, film_n])) (fun m _ => ⟨(by simp (disch := omega) only [up2_n, filr_n, film_n]), (by simp (disch := omega) only [up2_n, filr_n, film_n])⟩) (fun j _ => ⟨(by simp (disch := omega) only [up2_n, filr_n, film_n]), (by simp (disch := omega) only [up2_n, filr_n, film_n]), (by simp (disch := omega) only [up2_n, filr_n, film_n])⟩), cA_cg hA (fun j _ i => (by simp (disch := omega) only [up2_n, filr_n, film_n])) (fun j _ a _ _ => (by simp (disch := omega) only [up2_n, filr_n, film_n])), cT_cg hT (fun j _ i => (by simp (disch := omega) only [up2_n, filr_n, film_n])) (fun j _ a _ _ => (by simp (disch := omega) only [up2_n, filr_n, film_n])), cU_cg hU (fun j _ i => (by simp (disch := omega) only [up2_n, filr_n, film_n])) (fun j _ a _ _ => (by simp (disch := omega) only [up2_n, filr_n, film_n]))⟩
  all_goals simp (disch := omega) only [up2_n, up2_e]
  all_goals assumption
theorem RR_go {σ V : Sg} {q ns nb nl nt nr : Nat} (h : RR σ 4 V q ns nb nl nt nr) : ∀ n, q + n ≤ 9599 → ∃ σ', RR σ' 4 (goM V ns nb q n) (q + n) ns nb nl nt nr
  | 0, _ => ⟨σ, h⟩
  | n + 1, hn => by
    obtain ⟨σ1, h1⟩ := RR_go h n (by omega)
    exact RR_boats (RR_q h1 (by omega)) nb (Nat.le_refl _)
theorem RR_get {σ V : Sg} {q ns nb nl nt nr : Nat} (h : RR σ 4 V q ns nb nl nt nr) : (q ≤ 9599 ∧ ns ≤ 10 ∧ nb ≤ 5) ∧ (V 139 1 = nI q ∧ V 139 2 = nI ns ∧ V 139 12 = nI nb) ∧ σ 4 0 = nI q ∧ σ 4 2 = nI nb ∧ cB σ 4 V ns nb nl :=
  ⟨⟨h.1.1.1, h.1.1.2.1, h.1.1.2.2.1⟩, ⟨h.1.2.1.1, h.1.2.1.2.1, h.1.2.1.2.2.1⟩, h.1.2.2.1.1, h.1.2.2.1.2.2.1, h.2.2.2.2.2.1⟩
theorem FR_come {σ τ : Sg} {i l : Nat} (h : FR σ τ) (hi : i < 5) (hl : l < 11) : FR σ (comeC τ i l) := fun a j ha => by rw [comeC_o (by omega)]; exact h a j ha
theorem way_at {σ V : Sg} {ns nb nl i : Nat} (h : cB σ 4 V ns nb nl) (hi : i < nb) (hu : V 152 i = 1 ∨ V 152 i = nI 2) : rg (V 153 i) ns ∧ σ (77 + 4 * i) 8 = V 155 i := by
  rcases (h i hi).2.2.2.2.1 with z | z | z
  · rw [z.1] at hu; rcases hu with z | z <;> exact absurd z (by decide)
  · exact z.2
  · rw [z.1] at hu; rcases hu with z | z <;> exact absurd z (by decide)
section HC
variable {G : Gl} {R : Room} {F : Fn} {K : Int32 → Hp → Prop} {KV : Hp → Prop} {σ : Nat → Nat → Int32} {b : Bool}
theorem lp_goC {W : Sg} {q ns nb nl nt nr : Nat} (hE : ∀ (z : Option Value) (τ : Sg), RR τ 4 (boatsM W ns q nb) q ns nb nl nt nr → FR σ τ → V G mX4_goOneQuarter (rl 4) F 0 0 77 [some (.ref 4), some (.int (nI nb)), z] [] (τ, sh b)) : ∀ n, n ≤ nb → ∀ j, j + n = nb → ∀ (z : Option Value) (τ : Sg), RR τ 4 (boatsM W ns q j) q ns nb nl nt nr → FR σ τ → V G mX4_goOneQuarter (rl 4) F 0 0 12 [some (.ref 4), some (.int (nI j)), z] [] (τ, sh b) := by
  intro n
  induction n with
  | zero =>
    intro hx j hj z τ hR hF
    obtain rfl : j = nb := by omega
    obtain ⟨⟨gq, gs, gb⟩, ⟨v1, v2, v12⟩, r0, r2, hB⟩ := RR_get hR
    refine V_iload_n (pc := 12) d_X4_goOneQuarter_12 rfl ?_
    refine V_aload_n (pc := 13) d_X4_goOneQuarter_13 rfl ?_
    refine P_getI (pc := 14) d_X4_goOneQuarter_14 f_X4_18 (tt_4 b) ?_
    rw [r2]
    refine B_icmp_ge (pc := 17) 77 d_X4_goOneQuarter_17 (by decide) (fun c17 => ?_) (fun c17 => ?_)
    · simp (disch := omega) only [nI_toInt, ti0, ti1, tim1, tim20, tim1000] at c17
      exact hE _ _ hR hF
    · simp (disch := omega) only [nI_toInt, ti0, ti1, tim1, tim20, tim1000] at c17
      all_goals omega
  | succ n ih =>
    intro hx j hj z τ hR hF
    obtain ⟨⟨gq, gs, gb⟩, ⟨v1, v2, v12⟩, r0, r2, hB⟩ := RR_get hR
    refine V_iload_n (pc := 12) d_X4_goOneQuarter_12 rfl ?_
    refine V_aload_n (pc := 13) d_X4_goOneQuarter_13 rfl ?_
    refine P_getI (pc := 14) d_X4_goOneQuarter_14 f_X4_18 (tt_4 b) ?_
    rw [r2]
    refine B_icmp_ge (pc := 17) 77 d_X4_goOneQuarter_17 (by decide) (fun c17 => ?_) (fun c17 => ?_)
    · simp (disch := omega) only [nI_toInt, ti0, ti1, tim1, tim20, tim1000] at c17
      all_goals omega
    · simp (disch := omega) only [nI_toInt, ti0, ti1, tim1, tim20, tim1000] at c17
      refine V_aload_n (pc := 20) d_X4_goOneQuarter_20 rfl ?_
      refine P_getR (pc := 21) d_X4_goOneQuarter_21 f_X4_58 (tt_4 b) (rr_4_12 b) ?_
      refine V_iload_n (pc := 24) d_X4_goOneQuarter_24 rfl ?_
      refine P_aald (pc := 25) (c := 2) (j) d_X4_goOneQuarter_25 (tt_9 b) (by decide) rfl (ln_of (ll_9 b) ⟨by omega, by decide⟩) (rB b (by omega)) ?_
      refine V_astore_n (pc := 26) d_X4_goOneQuarter_26 (by decide) ?_
      refine V_aload_n (pc := 27) d_X4_goOneQuarter_27 rfl ?_
      refine V_cvI (pc := 28) (n := 1) (c := 2) [] d_X4_goOneQuarter_28 c_X4_208 k_X2_isUnderWay ⟨rfl, rfl⟩ (tB b (by omega)) rfl (Nat.le_of_ble_eq_true rfl) ⟨Nat.le_of_ble_eq_true rfl, Nat.le_of_ble_eq_true rfl⟩ ⟨Nat.le_refl _, Nat.le_refl _⟩ (ct_X2_isUnderWay (tB b (by omega)) ?_)
      rw [(cB_f hB (by omega : j < nb)).2.2.2.2.2.1]
      refine V_if_eq (pc := 31) 71 d_X4_goOneQuarter_31 (by decide) (fun c31 => ?_) (fun c31 => ?_)
      · replace c31 := zf c31
        refine V_iinc (pc := 71) d_X4_goOneQuarter_71 rfl (by decide) ?_
        refine V_goto (pc := 74) 12 d_X4_goOneQuarter_74 (by decide) ?_
        rw [p1_s]
        first | exact ih (by omega) (j + 1) (by omega) _ _ (by rw [boatsM_s, step_no (fun w => c31 w.1)]; exact hR) hF | exact ih (by omega) (j + 1) (by omega) _ _ (by rw [boatsM_s, step_no (fun w => c42 w.2)]; exact hR) hF | exact ih (by omega) (j + 1) (by omega) _ _ (by rw [boatsM_s, step_dn c52 c42 ek (by omega)]; exact RR_come hR (by omega) (by omega)) (FR_come hF (by omega) (by omega)) | exact ih (by omega) (j + 1) (by omega) _ _ (by rw [boatsM_s, step_up (c31.resolve_left c52) c42 ek (by omega)]; exact RR_come hR (by omega) (by omega)) (FR_come hF (by omega) (by omega))
      · replace c31 := zt c31
        obtain ⟨⟨k, hk, ek⟩, e8⟩ := way_at hB (by omega : j < nb) c31
        refine V_aload_n (pc := 34) d_X4_goOneQuarter_34 rfl ?_
        refine P_getI (pc := 35) d_X4_goOneQuarter_35 f_X4_205 (tB b (by omega)) ?_
        rw [e8]
        refine V_aload_n (pc := 38) d_X4_goOneQuarter_38 rfl ?_
        refine P_getI (pc := 39) d_X4_goOneQuarter_39 f_X4_9 (tt_4 b) ?_
        rw [r0]
        refine V_icmp_ne (pc := 42) 71 d_X4_goOneQuarter_42 (by decide) (fun c42 => ?_) (fun c42 => ?_)
        · refine V_iinc (pc := 71) d_X4_goOneQuarter_71 rfl (by decide) ?_
          refine V_goto (pc := 74) 12 d_X4_goOneQuarter_74 (by decide) ?_
          rw [p1_s]
          first | exact ih (by omega) (j + 1) (by omega) _ _ (by rw [boatsM_s, step_no (fun w => c31 w.1)]; exact hR) hF | exact ih (by omega) (j + 1) (by omega) _ _ (by rw [boatsM_s, step_no (fun w => c42 w.2)]; exact hR) hF | exact ih (by omega) (j + 1) (by omega) _ _ (by rw [boatsM_s, step_dn c52 c42 ek (by omega)]; exact RR_come hR (by omega) (by omega)) (FR_come hF (by omega) (by omega)) | exact ih (by omega) (j + 1) (by omega) _ _ (by rw [boatsM_s, step_up (c31.resolve_left c52) c42 ek (by omega)]; exact RR_come hR (by omega) (by omega)) (FR_come hF (by omega) (by omega))
        · refine V_aload_n (pc := 45) d_X4_goOneQuarter_45 rfl ?_
          refine V_aload_n (pc := 46) d_X4_goOneQuarter_46 rfl ?_
          refine V_aload_n (pc := 47) d_X4_goOneQuarter_47 rfl ?_
          refine P_getI (pc := 48) d_X4_goOneQuarter_48 f_X4_160 (tB b (by omega)) ?_
          rw [(cB_f hB (by omega : j < nb)).2.2.2.2.2.1]
          refine V_iconst (pc := 51) (1) d_X4_goOneQuarter_51 (by decide) ?_
          refine V_icmp_ne (pc := 52) 64 d_X4_goOneQuarter_52 (by decide) (fun c52 => ?_) (fun c52 => ?_)
          · refine V_aload_n (pc := 64) d_X4_goOneQuarter_64 rfl ?_
            refine P_getI (pc := 65) d_X4_goOneQuarter_65 f_X4_199 (tB b (by omega)) ?_
            rw [(cB_f hB (by omega : j < nb)).2.2.2.2.2.2]
            rw [ek]
            refine V_cvV (pc := 68) (n := 3) (c := 4) [_, _] d_X4_goOneQuarter_68 c_X4_211 k_X4_comeTo ⟨rfl, rfl⟩ (tt_4 b) rfl (Nat.le_of_ble_eq_true rfl) ⟨Nat.le_of_ble_eq_true rfl, Nat.le_of_ble_eq_true rfl⟩ ⟨Nat.le_refl _, Nat.le_refl _⟩ (ct_X4_comeTo (by omega) (by omega) ?_)
            refine V_iinc (pc := 71) d_X4_goOneQuarter_71 rfl (by decide) ?_
            refine V_goto (pc := 74) 12 d_X4_goOneQuarter_74 (by decide) ?_
            rw [p1_s]
            first | exact ih (by omega) (j + 1) (by omega) _ _ (by rw [boatsM_s, step_no (fun w => c31 w.1)]; exact hR) hF | exact ih (by omega) (j + 1) (by omega) _ _ (by rw [boatsM_s, step_no (fun w => c42 w.2)]; exact hR) hF | exact ih (by omega) (j + 1) (by omega) _ _ (by rw [boatsM_s, step_dn c52 c42 ek (by omega)]; exact RR_come hR (by omega) (by omega)) (FR_come hF (by omega) (by omega)) | exact ih (by omega) (j + 1) (by omega) _ _ (by rw [boatsM_s, step_up (c31.resolve_left c52) c42 ek (by omega)]; exact RR_come hR (by omega) (by omega)) (FR_come hF (by omega) (by omega))
          · refine V_aload_n (pc := 55) d_X4_goOneQuarter_55 rfl ?_
            refine P_getI (pc := 56) d_X4_goOneQuarter_56 f_X4_199 (tB b (by omega)) ?_
            rw [(cB_f hB (by omega : j < nb)).2.2.2.2.2.2]
            rw [ek]
            refine V_iconst (pc := 59) (1) d_X4_goOneQuarter_59 (by decide) ?_
            refine V_iadd (pc := 60) d_X4_goOneQuarter_60 ?_
            rw [nI_1]
            refine V_goto (pc := 61) 68 d_X4_goOneQuarter_61 (by decide) ?_
            refine V_cvV (pc := 68) (n := 3) (c := 4) [_, _] d_X4_goOneQuarter_68 c_X4_211 k_X4_comeTo ⟨rfl, rfl⟩ (tt_4 b) rfl (Nat.le_of_ble_eq_true rfl) ⟨Nat.le_of_ble_eq_true rfl, Nat.le_of_ble_eq_true rfl⟩ ⟨Nat.le_refl _, Nat.le_refl _⟩ (ct_X4_comeTo (by omega) (by omega) ?_)
            refine V_iinc (pc := 71) d_X4_goOneQuarter_71 rfl (by decide) ?_
            refine V_goto (pc := 74) 12 d_X4_goOneQuarter_74 (by decide) ?_
            rw [p1_s]
            first | exact ih (by omega) (j + 1) (by omega) _ _ (by rw [boatsM_s, step_no (fun w => c31 w.1)]; exact hR) hF | exact ih (by omega) (j + 1) (by omega) _ _ (by rw [boatsM_s, step_no (fun w => c42 w.2)]; exact hR) hF | exact ih (by omega) (j + 1) (by omega) _ _ (by rw [boatsM_s, step_dn c52 c42 ek (by omega)]; exact RR_come hR (by omega) (by omega)) (FR_come hF (by omega) (by omega)) | exact ih (by omega) (j + 1) (by omega) _ _ (by rw [boatsM_s, step_up (c31.resolve_left c52) c42 ek (by omega)]; exact RR_come hR (by omega) (by omega)) (FR_come hF (by omega) (by omega))
theorem ct_X4_goOneQuarter {V : Sg} {q ns nb nl nt nr : Nat} (hR : RR σ 4 V q ns nb nl nt nr) (hq : q + 1 ≤ 9599) (hk : ∀ τ, RR τ 4 (quartM V ns nb q) (q + 1) ns nb nl nt nr → FR σ τ → KV (τ, sh b)) : CM G mX4_goOneQuarter (rl 4) [.ref 4] (σ, sh b) (QV KV) := by
  obtain ⟨⟨gq, gs, gb⟩, ⟨v1, v2, v12⟩, r0, r2, hB⟩ := RR_get hR
  refine CM.of (by decide) (Nat.le_of_ble_eq_true rfl) (cats1 rfl) ?_
  refine V_aload_n (pc := 0) d_X4_goOneQuarter_0 rfl ?_
  refine V_dup (pc := 1) d_X4_goOneQuarter_1 rfl ?_
  refine P_getI (pc := 2) d_X4_goOneQuarter_2 f_X4_9 (tt_4 b) ?_
  rw [r0]
  refine V_iconst (pc := 5) (1) d_X4_goOneQuarter_5 (by decide) ?_
  refine V_iadd (pc := 6) d_X4_goOneQuarter_6 ?_
  rw [nI_1]
  refine P_putI (pc := 7) d_X4_goOneQuarter_7 f_X4_9 (tt_4 b) ?_
  refine V_iconst (pc := 10) (0) d_X4_goOneQuarter_10 (by decide) ?_
  refine V_istore_n (pc := 11) d_X4_goOneQuarter_11 (by decide) ?_
  refine lp_goC (F := FM G (rl 4) (QV KV)) (W := up2 V 139 1 (nI (q + 1))) (fun z τ h1 h2 => ?_) nb (Nat.le_refl _) 0 (by omega) _ _ (RR_q hR hq) (fun a j ha => by rw [up2_n (by omega)])
  exact V_retV (pc := 77) d_X4_goOneQuarter_77 rfl ⟨Nat.le_refl _, Nat.le_refl _⟩ (hk τ h1 h2)
theorem lp_go {U : Sg} {q ns nb nl nt nr m : Nat} (hm : q + m ≤ 9599) (hE : ∀ τ : Sg, RR τ 4 (goM U ns nb q m) (q + m) ns nb nl nt nr → FR σ τ → V G mX11_go (rl 5) F 0 0 58 [some (.ref 3), some (.int (nI m)), some (.int (nI m))] [] (τ, sh b)) : ∀ n, n ≤ m → ∀ j, j + n = m → ∀ τ : Sg, RR τ 4 (goM U ns nb q j) (q + j) ns nb nl nt nr → FR σ τ → V G mX11_go (rl 5) F 0 0 40 [some (.ref 3), some (.int (nI m)), some (.int (nI j))] [] (τ, sh b) := by
  intro n
  induction n with
  | zero =>
    intro hx j hj τ hR hF
    obtain rfl : j = m := by omega
    refine V_iload_n (pc := 40) d_X11_go_40 rfl ?_
    refine V_iload_n (pc := 41) d_X11_go_41 rfl ?_
    refine B_icmp_ge (pc := 42) 58 d_X11_go_42 (by decide) (fun c42 => ?_) (fun c42 => ?_)
    · simp (disch := omega) only [nI_toInt, ti0, ti1, tim1, tim20, tim1000] at c42
      exact hE _ hR hF
    · simp (disch := omega) only [nI_toInt, ti0, ti1, tim1, tim20, tim1000] at c42
      all_goals omega
  | succ n ih =>
    intro hx j hj τ hR hF
    refine V_iload_n (pc := 40) d_X11_go_40 rfl ?_
    refine V_iload_n (pc := 41) d_X11_go_41 rfl ?_
    refine B_icmp_ge (pc := 42) 58 d_X11_go_42 (by decide) (fun c42 => ?_) (fun c42 => ?_)
    · simp (disch := omega) only [nI_toInt, ti0, ti1, tim1, tim20, tim1000] at c42
      all_goals omega
    · simp (disch := omega) only [nI_toInt, ti0, ti1, tim1, tim20, tim1000] at c42
      refine V_aload_n (pc := 45) d_X11_go_45 rfl ?_
      refine P_getR (pc := 46) d_X11_go_46 f_X11_10 (tt_3 b) (rr_3_0 b) ?_
      refine V_cvV (pc := 49) (n := 4) (c := 4) [] d_X11_go_49 c_X11_197 k_X4_goOneQuarter ⟨rfl, rfl⟩ (tt_4 b) rfl (Nat.le_of_ble_eq_true rfl) ⟨Nat.le_of_ble_eq_true rfl, Nat.le_of_ble_eq_true rfl⟩ ⟨Nat.le_refl _, Nat.le_refl _⟩ (ct_X4_goOneQuarter hR (by omega) (fun τ1 h1 h2 => ?_))
      refine V_iinc (pc := 52) d_X11_go_52 rfl (by decide) ?_
      refine V_goto (pc := 55) 40 d_X11_go_55 (by decide) ?_
      rw [p1_s]
      exact ih (by omega) (j + 1) (by omega) τ1 h1 (fun a k ha => (h2 a k ha).trans (hF a k ha))
theorem ct_X11_go {x : Int32} {q ns nb nl nt nr : Nat} (hR : RR σ 4 σ q ns nb nl nt nr) (h1 : ¬ (∃ m, m < 201 ∧ x = nI m ∧ 1 ≤ m) → K (-1) (up2 σ 3 3 1, sh b)) (h4 : ∀ m : Nat, m < 201 → x = nI m → 1 ≤ m → 9599 < q + m → K (-1) (up2 σ 3 3 (nI 2), sh b)) (h2 : ∀ m : Nat, m < 201 → x = nI m → 1 ≤ m → q + m ≤ 9599 → ∀ τ, RR τ 4 (goM σ ns nb q m) (q + m) ns nb nl nt nr → FR σ τ → K (nI (q + m)) (up2 τ 3 3 0, sh b)) : CM G mX11_go (rl 5) [.ref 3, .int x] (σ, sh b) (QI K) := by
  obtain ⟨⟨⟨hq2, hn10, hnb, hnl, hnt, hnr⟩, ⟨vq, vns, vnb, vnl, vnt, vnr⟩, ⟨rq, rns, rnb, rnl, rnt, rnr⟩, hpd⟩, hH, hC, hS, hLD, hB, hA, hT, hU⟩ := id hR
  refine CM.of (by decide) (Nat.le_of_ble_eq_true rfl) (cats1 rfl) ?_
  refine V_iload_n (pc := 0) d_X11_go_0 rfl ?_
  refine V_iconst (pc := 1) (1) d_X11_go_1 (by decide) ?_
  refine V_sipush (pc := 2) (nI 200) d_X11_go_2 (by decide) ?_
  refine V_csI (pc := 5) (n := 1) [_, _, _] d_X11_go_5 c_X11_51 k_X11_isWithin rfl (Nat.le_of_ble_eq_true rfl) ⟨Nat.le_of_ble_eq_true rfl, Nat.le_of_ble_eq_true rfl⟩ ⟨Nat.le_refl _, Nat.le_refl _⟩ (ct_X11_isWithin (lo := 1) (hi := 200) (by decide) (by decide) ?_)
  refine V_if_ne (pc := 8) 17 d_X11_go_8 (by decide) (fun c8 => ?_) (fun c8 => ?_)
  · replace c8 := zt c8
    obtain ⟨m, hm, rfl, -⟩ := nat_of (n := 201) (x := x) (by omega) (by omega) (by omega)
    simp (disch := omega) only [nI_toInt] at c8
    refine V_aload_n (pc := 17) d_X11_go_17 rfl ?_
    refine P_getR (pc := 18) d_X11_go_18 f_X11_10 (tt_3 b) (rr_3_0 b) ?_
    refine P_getI (pc := 21) d_X11_go_21 f_X11_194 (tt_4 b) ?_
    rw [rq]
    refine V_iload_n (pc := 24) d_X11_go_24 rfl ?_
    refine V_iadd (pc := 25) d_X11_go_25 ?_
    refine V_sipush (pc := 26) (nI 9599) d_X11_go_26 (by decide) ?_
    rw [nI_add]
    refine B_icmp_le (pc := 29) 38 d_X11_go_29 (by decide) (fun c29 => ?_) (fun c29 => ?_)
    · simp (disch := omega) only [show (nI 9599).toInt = 9599 from by decide, nI_toInt, ti0, ti1, tim1, tim20, tim1000] at c29
      refine V_iconst (pc := 38) (0) d_X11_go_38 (by decide) ?_
      refine V_istore_n (pc := 39) d_X11_go_39 (by decide) ?_
      refine lp_go (F := FM G (rl 5) (QI K)) (by omega : q + m ≤ 9599) (fun τ g1 g2 => ?_) m (Nat.le_refl _) 0 (by omega) _ hR (fun _ _ _ => rfl)
      refine V_aload_n (pc := 58) d_X11_go_58 rfl ?_
      refine V_aload_n (pc := 59) d_X11_go_59 rfl ?_
      refine P_getR (pc := 60) d_X11_go_60 f_X11_10 (tt_3 b) (rr_3_0 b) ?_
      refine P_getI (pc := 63) d_X11_go_63 f_X11_194 (tt_4 b) ?_
      rw [(RR_get g1).2.2.1]
      refine V_cvI (pc := 66) (n := 1) (c := 11) [_] d_X11_go_66 c_X11_72 k_X11_done ⟨rfl, rfl⟩ (tt_3 b) rfl (Nat.le_of_ble_eq_true rfl) ⟨Nat.le_of_ble_eq_true rfl, Nat.le_of_ble_eq_true rfl⟩ ⟨Nat.le_refl _, Nat.le_refl _⟩ (ct_X11_done ?_)
      exact V_retI (pc := 69) d_X11_go_69 rfl ⟨Nat.le_refl _, Nat.le_refl _⟩ (h2 m hm rfl (by omega) (by omega) τ g1 g2)
    · simp (disch := omega) only [show (nI 9599).toInt = 9599 from by decide, nI_toInt, ti0, ti1, tim1, tim20, tim1000] at c29
      refine V_aload_n (pc := 32) d_X11_go_32 rfl ?_
      refine V_iconst (pc := 33) (nI 2) d_X11_go_33 (by decide) ?_
      refine V_cvI (pc := 34) (n := 1) (c := 11) [_] d_X11_go_34 c_X11_55 k_X11_refused ⟨rfl, rfl⟩ (tt_3 b) rfl (Nat.le_of_ble_eq_true rfl) ⟨Nat.le_of_ble_eq_true rfl, Nat.le_of_ble_eq_true rfl⟩ ⟨Nat.le_refl _, Nat.le_refl _⟩ (ct_X11_refused ?_)
      exact V_retI (pc := 37) d_X11_go_37 rfl ⟨Nat.le_refl _, Nat.le_refl _⟩ (h4 m hm rfl (by omega) (by omega))
  · replace c8 := zf c8
    refine V_aload_n (pc := 11) d_X11_go_11 rfl ?_
    refine V_iconst (pc := 12) (1) d_X11_go_12 (by decide) ?_
    refine V_cvI (pc := 13) (n := 1) (c := 11) [_] d_X11_go_13 c_X11_55 k_X11_refused ⟨rfl, rfl⟩ (tt_3 b) rfl (Nat.le_of_ble_eq_true rfl) ⟨Nat.le_of_ble_eq_true rfl, Nat.le_of_ble_eq_true rfl⟩ ⟨Nat.le_refl _, Nat.le_refl _⟩ (ct_X11_refused ?_)
    exact V_retI (pc := 16) d_X11_go_16 rfl ⟨Nat.le_refl _, Nat.le_refl _⟩ (h1 (by
            rintro ⟨m, gm, em, d0⟩
            subst em
            simp (disch := omega) only [nI_toInt] at *
            omega))
theorem lp_goM {W : Sg} {q ns nb nl nt nr m d : Nat} (hρ : ∀ n, n ≤ nb → ∃ ρ, RR ρ 4 (boatsM W ns q n) q ns nb nl nt nr) (hE : V G mX12_go (rl 3) F 0 0 133 [some (.ref 139), some (.int (nI m)), some (.int (nI d)), some (.int (nI nb))] [] (boatsM W ns q nb, sh b)) : ∀ n, n ≤ nb → ∀ j, j + n = nb → V G mX12_go (rl 3) F 0 0 54 [some (.ref 139), some (.int (nI m)), some (.int (nI d)), some (.int (nI j))] [] (boatsM W ns q j, sh b) := by
  intro n
  induction n with
  | zero =>
    intro hx j hj
    obtain rfl : j = nb := by omega
    obtain ⟨ρ, hR⟩ := hρ j (Nat.le_refl _)
    obtain ⟨⟨gq, gs, gb⟩, ⟨v1, v2, v12⟩, r0, r2, hB⟩ := RR_get hR
    refine V_iload_n (pc := 54) d_X12_go_54 rfl ?_
    refine V_aload_n (pc := 55) d_X12_go_55 rfl ?_
    refine P_getI (pc := 56) d_X12_go_56 f_X12_178 (tt_139 b) ?_
    rw [v12]
    refine B_icmp_ge (pc := 59) 133 d_X12_go_59 (by decide) (fun c59 => ?_) (fun c59 => ?_)
    · simp (disch := omega) only [nI_toInt, ti0, ti1, tim1, tim20, tim1000] at c59
      exact hE
    · simp (disch := omega) only [nI_toInt, ti0, ti1, tim1, tim20, tim1000] at c59
      all_goals omega
  | succ n ih =>
    intro hx j hj
    obtain ⟨ρ, hR⟩ := hρ j (by omega)
    obtain ⟨⟨gq, gs, gb⟩, ⟨v1, v2, v12⟩, r0, r2, hB⟩ := RR_get hR
    refine V_iload_n (pc := 54) d_X12_go_54 rfl ?_
    refine V_aload_n (pc := 55) d_X12_go_55 rfl ?_
    refine P_getI (pc := 56) d_X12_go_56 f_X12_178 (tt_139 b) ?_
    rw [v12]
    refine B_icmp_ge (pc := 59) 133 d_X12_go_59 (by decide) (fun c59 => ?_) (fun c59 => ?_)
    · simp (disch := omega) only [nI_toInt, ti0, ti1, tim1, tim20, tim1000] at c59
      all_goals omega
    · simp (disch := omega) only [nI_toInt, ti0, ti1, tim1, tim20, tim1000] at c59
      refine V_aload_n (pc := 62) d_X12_go_62 rfl ?_
      refine P_getR (pc := 63) d_X12_go_63 f_X12_47 (tt_139 b) (rr_139_16 b) ?_
      refine V_iload_n (pc := 66) d_X12_go_66 rfl ?_
      refine P_iald (pc := 67) (j) d_X12_go_67 (tt_152 b) rfl (ln_of (ll_152 b) ⟨by omega, by decide⟩) ?_
      refine V_iconst (pc := 68) (1) d_X12_go_68 (by decide) ?_
      refine V_icmp_eq (pc := 69) 82 d_X12_go_69 (by decide) (fun c69 => ?_) (fun c69 => ?_)
      · obtain ⟨⟨k, hk, ek⟩, e8⟩ := way_at hB (by omega : j < nb) (Or.inl c69)
        refine V_aload_n (pc := 82) d_X12_go_82 rfl ?_
        refine P_getR (pc := 83) d_X12_go_83 f_X12_56 (tt_139 b) (rr_139_19 b) ?_
        refine V_iload_n (pc := 86) d_X12_go_86 rfl ?_
        refine P_iald (pc := 87) (j) d_X12_go_87 (tt_155 b) rfl (ln_of (ll_155 b) ⟨by omega, by decide⟩) ?_
        refine V_aload_n (pc := 88) d_X12_go_88 rfl ?_
        refine P_getI (pc := 89) d_X12_go_89 f_X12_184 (tt_139 b) ?_
        rw [v1]
        refine V_icmp_ne (pc := 92) 127 d_X12_go_92 (by decide) (fun c92 => ?_) (fun c92 => ?_)
        · refine V_iinc (pc := 127) d_X12_go_127 rfl (by decide) ?_
          refine V_goto (pc := 130) 54 d_X12_go_130 (by decide) ?_
          rw [p1_s]
          first | exact (show stepM (boatsM W ns q j) ns q j = boatsM W ns q j from step_no (fun w => by rcases w.1 with y | y; exact c69 y; exact c79 y)) ▸ ih (by omega) (j + 1) (by omega) | exact (show stepM (boatsM W ns q j) ns q j = boatsM W ns q j from step_no (fun w => c92 w.2)) ▸ ih (by omega) (j + 1) (by omega) | exact (show stepM (boatsM W ns q j) ns q j = comeM (boatsM W ns q j) j (k + 1) ns from step_dn c104 c92 ek (by omega)) ▸ ih (by omega) (j + 1) (by omega) | exact (show stepM (boatsM W ns q j) ns q j = comeM (boatsM W ns q j) j k ns from step_up c79 c92 ek (by omega)) ▸ ih (by omega) (j + 1) (by omega) | exact absurd c69 c104 | exact absurd (c79.symm.trans c104) (by decide)
        · refine V_aload_n (pc := 95) d_X12_go_95 rfl ?_
          refine V_iload_n (pc := 96) d_X12_go_96 rfl ?_
          refine V_aload_n (pc := 97) d_X12_go_97 rfl ?_
          refine P_getR (pc := 98) d_X12_go_98 f_X12_47 (tt_139 b) (rr_139_16 b) ?_
          refine V_iload_n (pc := 101) d_X12_go_101 rfl ?_
          refine P_iald (pc := 102) (j) d_X12_go_102 (tt_152 b) rfl (ln_of (ll_152 b) ⟨by omega, by decide⟩) ?_
          refine V_iconst (pc := 103) (1) d_X12_go_103 (by decide) ?_
          refine V_icmp_ne (pc := 104) 118 d_X12_go_104 (by decide) (fun c104 => ?_) (fun c104 => ?_)
          · refine V_aload_n (pc := 118) d_X12_go_118 rfl ?_
            refine P_getR (pc := 119) d_X12_go_119 f_X12_50 (tt_139 b) (rr_139_17 b) ?_
            refine V_iload_n (pc := 122) d_X12_go_122 rfl ?_
            refine P_iald (pc := 123) (j) d_X12_go_123 (tt_153 b) rfl (ln_of (ll_153 b) ⟨by omega, by decide⟩) ?_
            rw [ek]
            refine V_cvV (pc := 124) (n := 2) (c := 12) [_, _] d_X12_go_124 c_X12_257 k_X12_comes ⟨rfl, rfl⟩ (tt_139 b) rfl (Nat.le_of_ble_eq_true rfl) ⟨Nat.le_of_ble_eq_true rfl, Nat.le_of_ble_eq_true rfl⟩ ⟨Nat.le_refl _, Nat.le_refl _⟩ (ct_X12_comes (by omega) (by omega) gs v2 ?_)
            refine V_iinc (pc := 127) d_X12_go_127 rfl (by decide) ?_
            refine V_goto (pc := 130) 54 d_X12_go_130 (by decide) ?_
            rw [p1_s]
            first | exact (show stepM (boatsM W ns q j) ns q j = boatsM W ns q j from step_no (fun w => by rcases w.1 with y | y; exact c69 y; exact c79 y)) ▸ ih (by omega) (j + 1) (by omega) | exact (show stepM (boatsM W ns q j) ns q j = boatsM W ns q j from step_no (fun w => c92 w.2)) ▸ ih (by omega) (j + 1) (by omega) | exact (show stepM (boatsM W ns q j) ns q j = comeM (boatsM W ns q j) j (k + 1) ns from step_dn c104 c92 ek (by omega)) ▸ ih (by omega) (j + 1) (by omega) | exact (show stepM (boatsM W ns q j) ns q j = comeM (boatsM W ns q j) j k ns from step_up c79 c92 ek (by omega)) ▸ ih (by omega) (j + 1) (by omega) | exact absurd c69 c104 | exact absurd (c79.symm.trans c104) (by decide)
          · refine V_aload_n (pc := 107) d_X12_go_107 rfl ?_
            refine P_getR (pc := 108) d_X12_go_108 f_X12_50 (tt_139 b) (rr_139_17 b) ?_
            refine V_iload_n (pc := 111) d_X12_go_111 rfl ?_
            refine P_iald (pc := 112) (j) d_X12_go_112 (tt_153 b) rfl (ln_of (ll_153 b) ⟨by omega, by decide⟩) ?_
            rw [ek]
            refine V_iconst (pc := 113) (1) d_X12_go_113 (by decide) ?_
            refine V_iadd (pc := 114) d_X12_go_114 ?_
            rw [nI_1]
            refine V_goto (pc := 115) 124 d_X12_go_115 (by decide) ?_
            refine V_cvV (pc := 124) (n := 2) (c := 12) [_, _] d_X12_go_124 c_X12_257 k_X12_comes ⟨rfl, rfl⟩ (tt_139 b) rfl (Nat.le_of_ble_eq_true rfl) ⟨Nat.le_of_ble_eq_true rfl, Nat.le_of_ble_eq_true rfl⟩ ⟨Nat.le_refl _, Nat.le_refl _⟩ (ct_X12_comes (by omega) (by omega) gs v2 ?_)
            refine V_iinc (pc := 127) d_X12_go_127 rfl (by decide) ?_
            refine V_goto (pc := 130) 54 d_X12_go_130 (by decide) ?_
            rw [p1_s]
            first | exact (show stepM (boatsM W ns q j) ns q j = boatsM W ns q j from step_no (fun w => by rcases w.1 with y | y; exact c69 y; exact c79 y)) ▸ ih (by omega) (j + 1) (by omega) | exact (show stepM (boatsM W ns q j) ns q j = boatsM W ns q j from step_no (fun w => c92 w.2)) ▸ ih (by omega) (j + 1) (by omega) | exact (show stepM (boatsM W ns q j) ns q j = comeM (boatsM W ns q j) j (k + 1) ns from step_dn c104 c92 ek (by omega)) ▸ ih (by omega) (j + 1) (by omega) | exact (show stepM (boatsM W ns q j) ns q j = comeM (boatsM W ns q j) j k ns from step_up c79 c92 ek (by omega)) ▸ ih (by omega) (j + 1) (by omega) | exact absurd c69 c104 | exact absurd (c79.symm.trans c104) (by decide)
      · refine V_aload_n (pc := 72) d_X12_go_72 rfl ?_
        refine P_getR (pc := 73) d_X12_go_73 f_X12_47 (tt_139 b) (rr_139_16 b) ?_
        refine V_iload_n (pc := 76) d_X12_go_76 rfl ?_
        refine P_iald (pc := 77) (j) d_X12_go_77 (tt_152 b) rfl (ln_of (ll_152 b) ⟨by omega, by decide⟩) ?_
        refine V_iconst (pc := 78) (nI 2) d_X12_go_78 (by decide) ?_
        refine V_icmp_ne (pc := 79) 127 d_X12_go_79 (by decide) (fun c79 => ?_) (fun c79 => ?_)
        · refine V_iinc (pc := 127) d_X12_go_127 rfl (by decide) ?_
          refine V_goto (pc := 130) 54 d_X12_go_130 (by decide) ?_
          rw [p1_s]
          first | exact (show stepM (boatsM W ns q j) ns q j = boatsM W ns q j from step_no (fun w => by rcases w.1 with y | y; exact c69 y; exact c79 y)) ▸ ih (by omega) (j + 1) (by omega) | exact (show stepM (boatsM W ns q j) ns q j = boatsM W ns q j from step_no (fun w => c92 w.2)) ▸ ih (by omega) (j + 1) (by omega) | exact (show stepM (boatsM W ns q j) ns q j = comeM (boatsM W ns q j) j (k + 1) ns from step_dn c104 c92 ek (by omega)) ▸ ih (by omega) (j + 1) (by omega) | exact (show stepM (boatsM W ns q j) ns q j = comeM (boatsM W ns q j) j k ns from step_up c79 c92 ek (by omega)) ▸ ih (by omega) (j + 1) (by omega) | exact absurd c69 c104 | exact absurd (c79.symm.trans c104) (by decide)
        · obtain ⟨⟨k, hk, ek⟩, e8⟩ := way_at hB (by omega : j < nb) (Or.inr c79)
          refine V_aload_n (pc := 82) d_X12_go_82 rfl ?_
          refine P_getR (pc := 83) d_X12_go_83 f_X12_56 (tt_139 b) (rr_139_19 b) ?_
          refine V_iload_n (pc := 86) d_X12_go_86 rfl ?_
          refine P_iald (pc := 87) (j) d_X12_go_87 (tt_155 b) rfl (ln_of (ll_155 b) ⟨by omega, by decide⟩) ?_
          refine V_aload_n (pc := 88) d_X12_go_88 rfl ?_
          refine P_getI (pc := 89) d_X12_go_89 f_X12_184 (tt_139 b) ?_
          rw [v1]
          refine V_icmp_ne (pc := 92) 127 d_X12_go_92 (by decide) (fun c92 => ?_) (fun c92 => ?_)
          · refine V_iinc (pc := 127) d_X12_go_127 rfl (by decide) ?_
            refine V_goto (pc := 130) 54 d_X12_go_130 (by decide) ?_
            rw [p1_s]
            first | exact (show stepM (boatsM W ns q j) ns q j = boatsM W ns q j from step_no (fun w => by rcases w.1 with y | y; exact c69 y; exact c79 y)) ▸ ih (by omega) (j + 1) (by omega) | exact (show stepM (boatsM W ns q j) ns q j = boatsM W ns q j from step_no (fun w => c92 w.2)) ▸ ih (by omega) (j + 1) (by omega) | exact (show stepM (boatsM W ns q j) ns q j = comeM (boatsM W ns q j) j (k + 1) ns from step_dn c104 c92 ek (by omega)) ▸ ih (by omega) (j + 1) (by omega) | exact (show stepM (boatsM W ns q j) ns q j = comeM (boatsM W ns q j) j k ns from step_up c79 c92 ek (by omega)) ▸ ih (by omega) (j + 1) (by omega) | exact absurd c69 c104 | exact absurd (c79.symm.trans c104) (by decide)
          · refine V_aload_n (pc := 95) d_X12_go_95 rfl ?_
            refine V_iload_n (pc := 96) d_X12_go_96 rfl ?_
            refine V_aload_n (pc := 97) d_X12_go_97 rfl ?_
            refine P_getR (pc := 98) d_X12_go_98 f_X12_47 (tt_139 b) (rr_139_16 b) ?_
            refine V_iload_n (pc := 101) d_X12_go_101 rfl ?_
            refine P_iald (pc := 102) (j) d_X12_go_102 (tt_152 b) rfl (ln_of (ll_152 b) ⟨by omega, by decide⟩) ?_
            refine V_iconst (pc := 103) (1) d_X12_go_103 (by decide) ?_
            refine V_icmp_ne (pc := 104) 118 d_X12_go_104 (by decide) (fun c104 => ?_) (fun c104 => ?_)
            · refine V_aload_n (pc := 118) d_X12_go_118 rfl ?_
              refine P_getR (pc := 119) d_X12_go_119 f_X12_50 (tt_139 b) (rr_139_17 b) ?_
              refine V_iload_n (pc := 122) d_X12_go_122 rfl ?_
              refine P_iald (pc := 123) (j) d_X12_go_123 (tt_153 b) rfl (ln_of (ll_153 b) ⟨by omega, by decide⟩) ?_
              rw [ek]
              refine V_cvV (pc := 124) (n := 2) (c := 12) [_, _] d_X12_go_124 c_X12_257 k_X12_comes ⟨rfl, rfl⟩ (tt_139 b) rfl (Nat.le_of_ble_eq_true rfl) ⟨Nat.le_of_ble_eq_true rfl, Nat.le_of_ble_eq_true rfl⟩ ⟨Nat.le_refl _, Nat.le_refl _⟩ (ct_X12_comes (by omega) (by omega) gs v2 ?_)
              refine V_iinc (pc := 127) d_X12_go_127 rfl (by decide) ?_
              refine V_goto (pc := 130) 54 d_X12_go_130 (by decide) ?_
              rw [p1_s]
              first | exact (show stepM (boatsM W ns q j) ns q j = boatsM W ns q j from step_no (fun w => by rcases w.1 with y | y; exact c69 y; exact c79 y)) ▸ ih (by omega) (j + 1) (by omega) | exact (show stepM (boatsM W ns q j) ns q j = boatsM W ns q j from step_no (fun w => c92 w.2)) ▸ ih (by omega) (j + 1) (by omega) | exact (show stepM (boatsM W ns q j) ns q j = comeM (boatsM W ns q j) j (k + 1) ns from step_dn c104 c92 ek (by omega)) ▸ ih (by omega) (j + 1) (by omega) | exact (show stepM (boatsM W ns q j) ns q j = comeM (boatsM W ns q j) j k ns from step_up c79 c92 ek (by omega)) ▸ ih (by omega) (j + 1) (by omega) | exact absurd c69 c104 | exact absurd (c79.symm.trans c104) (by decide)
            · refine V_aload_n (pc := 107) d_X12_go_107 rfl ?_
              refine P_getR (pc := 108) d_X12_go_108 f_X12_50 (tt_139 b) (rr_139_17 b) ?_
              refine V_iload_n (pc := 111) d_X12_go_111 rfl ?_
              refine P_iald (pc := 112) (j) d_X12_go_112 (tt_153 b) rfl (ln_of (ll_153 b) ⟨by omega, by decide⟩) ?_
              rw [ek]
              refine V_iconst (pc := 113) (1) d_X12_go_113 (by decide) ?_
              refine V_iadd (pc := 114) d_X12_go_114 ?_
              rw [nI_1]
              refine V_goto (pc := 115) 124 d_X12_go_115 (by decide) ?_
              refine V_cvV (pc := 124) (n := 2) (c := 12) [_, _] d_X12_go_124 c_X12_257 k_X12_comes ⟨rfl, rfl⟩ (tt_139 b) rfl (Nat.le_of_ble_eq_true rfl) ⟨Nat.le_of_ble_eq_true rfl, Nat.le_of_ble_eq_true rfl⟩ ⟨Nat.le_refl _, Nat.le_refl _⟩ (ct_X12_comes (by omega) (by omega) gs v2 ?_)
              refine V_iinc (pc := 127) d_X12_go_127 rfl (by decide) ?_
              refine V_goto (pc := 130) 54 d_X12_go_130 (by decide) ?_
              rw [p1_s]
              first | exact (show stepM (boatsM W ns q j) ns q j = boatsM W ns q j from step_no (fun w => by rcases w.1 with y | y; exact c69 y; exact c79 y)) ▸ ih (by omega) (j + 1) (by omega) | exact (show stepM (boatsM W ns q j) ns q j = boatsM W ns q j from step_no (fun w => c92 w.2)) ▸ ih (by omega) (j + 1) (by omega) | exact (show stepM (boatsM W ns q j) ns q j = comeM (boatsM W ns q j) j (k + 1) ns from step_dn c104 c92 ek (by omega)) ▸ ih (by omega) (j + 1) (by omega) | exact (show stepM (boatsM W ns q j) ns q j = comeM (boatsM W ns q j) j k ns from step_up c79 c92 ek (by omega)) ▸ ih (by omega) (j + 1) (by omega) | exact absurd c69 c104 | exact absurd (c79.symm.trans c104) (by decide)
theorem lp_goQ {U : Sg} {q ns nb nl nt nr m : Nat} (hm : q + m ≤ 9599) (hρ : ∀ n, n ≤ m → ∃ ρ, RR ρ 4 (goM U ns nb q n) (q + n) ns nb nl nt nr) (hE : ∀ z : Option Value, V G mX12_go (rl 3) F 0 0 139 [some (.ref 139), some (.int (nI m)), some (.int (nI m)), z] [] (goM U ns nb q m, sh b)) : ∀ n, n ≤ m → ∀ j, j + n = m → ∀ z : Option Value, V G mX12_go (rl 3) F 0 0 37 [some (.ref 139), some (.int (nI m)), some (.int (nI j)), z] [] (goM U ns nb q j, sh b) := by
  intro n
  induction n with
  | zero =>
    intro hx j hj z
    obtain rfl : j = m := by omega
    refine V_iload_n (pc := 37) d_X12_go_37 rfl ?_
    refine V_iload_n (pc := 38) d_X12_go_38 rfl ?_
    refine B_icmp_ge (pc := 39) 139 d_X12_go_39 (by decide) (fun c39 => ?_) (fun c39 => ?_)
    · simp (disch := omega) only [nI_toInt, ti0, ti1, tim1, tim20, tim1000] at c39
      exact hE _
    · simp (disch := omega) only [nI_toInt, ti0, ti1, tim1, tim20, tim1000] at c39
      all_goals omega
  | succ n ih =>
    intro hx j hj z
    obtain ⟨ρ, hR⟩ := hρ j (by omega)
    obtain ⟨⟨gq, gs, gb⟩, ⟨v1, v2, v12⟩, r0, r2, hB⟩ := RR_get hR
    refine V_iload_n (pc := 37) d_X12_go_37 rfl ?_
    refine V_iload_n (pc := 38) d_X12_go_38 rfl ?_
    refine B_icmp_ge (pc := 39) 139 d_X12_go_39 (by decide) (fun c39 => ?_) (fun c39 => ?_)
    · simp (disch := omega) only [nI_toInt, ti0, ti1, tim1, tim20, tim1000] at c39
      all_goals omega
    · simp (disch := omega) only [nI_toInt, ti0, ti1, tim1, tim20, tim1000] at c39
      refine V_aload_n (pc := 42) d_X12_go_42 rfl ?_
      refine V_dup (pc := 43) d_X12_go_43 rfl ?_
      refine P_getI (pc := 44) d_X12_go_44 f_X12_184 (tt_139 b) ?_
      rw [v1]
      refine V_iconst (pc := 47) (1) d_X12_go_47 (by decide) ?_
      refine V_iadd (pc := 48) d_X12_go_48 ?_
      rw [nI_1]
      refine P_putI (pc := 49) d_X12_go_49 f_X12_184 (tt_139 b) ?_
      refine V_iconst (pc := 52) (0) d_X12_go_52 (by decide) ?_
      refine V_istore_n (pc := 53) d_X12_go_53 (by decide) ?_
      refine lp_goM (W := up2 (goM U ns nb q j) 139 1 (nI (q + j + 1))) (nb := nb) (nl := nl) (nt := nt) (nr := nr) (fun n hn => RR_boats (RR_q hR (by omega)) n hn) ?_ nb (Nat.le_refl _) 0 (by omega)
      refine V_iinc (pc := 133) d_X12_go_133 rfl (by decide) ?_
      refine V_goto (pc := 136) 37 d_X12_go_136 (by decide) ?_
      rw [p1_s]
      exact ih (by omega) (j + 1) (by omega) _
theorem ct_X12_go {x : Int32} {ρ : Sg} {q ns nb nl nt nr : Nat} (hR : RR ρ 4 σ q ns nb nl nt nr) (h1 : ¬ (∃ m, m < 201 ∧ x = nI m ∧ 1 ≤ m) → K (-1) (up2 σ 139 0 1, sh b)) (h4 : ∀ m : Nat, m < 201 → x = nI m → 1 ≤ m → 9599 < q + m → K (-1) (up2 σ 139 0 (nI 2), sh b)) (h2 : ∀ m : Nat, m < 201 → x = nI m → 1 ≤ m → q + m ≤ 9599 → K (nI (q + m)) (up2 (goM σ ns nb q m) 139 0 0, sh b)) : CM G mX12_go (rl 3) [.ref 139, .int x] (σ, sh b) (QI K) := by
  obtain ⟨⟨⟨hq2, hn10, hnb, hnl, hnt, hnr⟩, ⟨vq, vns, vnb, vnl, vnt, vnr⟩, ⟨rq, rns, rnb, rnl, rnt, rnr⟩, hpd⟩, hH, hC, hS, hLD, hB, hA, hT, hU⟩ := id hR
  refine CM.of (by decide) (Nat.le_of_ble_eq_true rfl) (cats1 rfl) ?_
  refine V_iload_n (pc := 0) d_X12_go_0 rfl ?_
  refine V_iconst (pc := 1) (1) d_X12_go_1 (by decide) ?_
  refine V_sipush (pc := 2) (nI 200) d_X12_go_2 (by decide) ?_
  refine V_csI (pc := 5) (n := 1) [_, _, _] d_X12_go_5 c_X12_174 k_X12_in rfl (Nat.le_of_ble_eq_true rfl) ⟨Nat.le_of_ble_eq_true rfl, Nat.le_of_ble_eq_true rfl⟩ ⟨Nat.le_refl _, Nat.le_refl _⟩ (ct_X12_in (lo := 1) (hi := 200) (by decide) (by decide) ?_)
  refine V_if_ne (pc := 8) 17 d_X12_go_8 (by decide) (fun c8 => ?_) (fun c8 => ?_)
  · replace c8 := zt c8
    obtain ⟨m, hm, rfl, -⟩ := nat_of (n := 201) (x := x) (by omega) (by omega) (by omega)
    simp (disch := omega) only [nI_toInt] at c8
    refine V_aload_n (pc := 17) d_X12_go_17 rfl ?_
    refine P_getI (pc := 18) d_X12_go_18 f_X12_184 (tt_139 b) ?_
    rw [vq]
    refine V_iload_n (pc := 21) d_X12_go_21 rfl ?_
    refine V_iadd (pc := 22) d_X12_go_22 ?_
    refine V_sipush (pc := 23) (nI 9599) d_X12_go_23 (by decide) ?_
    rw [nI_add]
    refine B_icmp_le (pc := 26) 35 d_X12_go_26 (by decide) (fun c26 => ?_) (fun c26 => ?_)
    · simp (disch := omega) only [show (nI 9599).toInt = 9599 from by decide, nI_toInt, ti0, ti1, tim1, tim20, tim1000] at c26
      refine V_iconst (pc := 35) (0) d_X12_go_35 (by decide) ?_
      refine V_istore_n (pc := 36) d_X12_go_36 (by decide) ?_
      refine lp_goQ (F := FM G (rl 3) (QI K)) (by omega : q + m ≤ 9599) (fun n hn => RR_go hR n (by omega)) (fun z => ?_) m (Nat.le_refl _) 0 (by omega) _
      obtain ⟨ρ1, g1⟩ := RR_go hR m (by omega)
      refine V_aload_n (pc := 139) d_X12_go_139 rfl ?_
      refine V_aload_n (pc := 140) d_X12_go_140 rfl ?_
      refine P_getI (pc := 141) d_X12_go_141 f_X12_184 (tt_139 b) ?_
      rw [(RR_get g1).2.1.1]
      refine V_cvI (pc := 144) (n := 1) (c := 12) [_] d_X12_go_144 c_X12_191 k_X12_done ⟨rfl, rfl⟩ (tt_139 b) rfl (Nat.le_of_ble_eq_true rfl) ⟨Nat.le_of_ble_eq_true rfl, Nat.le_of_ble_eq_true rfl⟩ ⟨Nat.le_refl _, Nat.le_refl _⟩ (ct_X12_done ?_)
      exact V_retI (pc := 147) d_X12_go_147 rfl ⟨Nat.le_refl _, Nat.le_refl _⟩ (h2 m hm rfl (by omega) (by omega))
    · simp (disch := omega) only [show (nI 9599).toInt = 9599 from by decide, nI_toInt, ti0, ti1, tim1, tim20, tim1000] at c26
      refine V_aload_n (pc := 29) d_X12_go_29 rfl ?_
      refine V_iconst (pc := 30) (nI 2) d_X12_go_30 (by decide) ?_
      refine V_cvI (pc := 31) (n := 1) (c := 12) [_] d_X12_go_31 c_X12_187 k_X12_refused ⟨rfl, rfl⟩ (tt_139 b) rfl (Nat.le_of_ble_eq_true rfl) ⟨Nat.le_of_ble_eq_true rfl, Nat.le_of_ble_eq_true rfl⟩ ⟨Nat.le_refl _, Nat.le_refl _⟩ (ct_X12_refused ?_)
      exact V_retI (pc := 34) d_X12_go_34 rfl ⟨Nat.le_refl _, Nat.le_refl _⟩ (h4 m hm rfl (by omega) (by omega))
  · replace c8 := zf c8
    refine V_aload_n (pc := 11) d_X12_go_11 rfl ?_
    refine V_iconst (pc := 12) (1) d_X12_go_12 (by decide) ?_
    refine V_cvI (pc := 13) (n := 1) (c := 12) [_] d_X12_go_13 c_X12_187 k_X12_refused ⟨rfl, rfl⟩ (tt_139 b) rfl (Nat.le_of_ble_eq_true rfl) ⟨Nat.le_of_ble_eq_true rfl, Nat.le_of_ble_eq_true rfl⟩ ⟨Nat.le_refl _, Nat.le_refl _⟩ (ct_X12_refused ?_)
    exact V_retI (pc := 16) d_X12_go_16 rfl ⟨Nat.le_refl _, Nat.le_refl _⟩ (h1 (by
            rintro ⟨m, gm, em, d0⟩
            subst em
            simp (disch := omega) only [nI_toInt] at *
            omega))
end HC
def AGo (τ σ : Sg) : Prop := ∀ a i, 139 ≤ a → a < 192 → τ a i = σ a i
theorem stepM_ag {τ σ : Sg} (h : ∀ a i, 139 ≤ a → a < 192 → τ a i = σ a i) {ns q i : Nat} : ∀ a k, 139 ≤ a → a < 192 → stepM τ ns q i a k = stepM σ ns q i a k := by
  intro a k h1 h2
  unfold stepM
  rw [h 152 i (by omega) (by omega), h 155 i (by omega) (by omega), h 153 i (by omega) (by omega)]
  split
  · exact comeM_ag h a k h1 h2
  · exact h a k h1 h2
theorem boatsM_ag {τ σ : Sg} (h : ∀ a i, 139 ≤ a → a < 192 → τ a i = σ a i) {ns q : Nat} : ∀ n a k, 139 ≤ a → a < 192 → boatsM τ ns q n a k = boatsM σ ns q n a k
  | 0 => h
  | n + 1 => stepM_ag (boatsM_ag h n)
theorem goM_ag {τ σ : Sg} (h : ∀ a i, 139 ≤ a → a < 192 → τ a i = σ a i) {ns nb q : Nat} : ∀ n a k, 139 ≤ a → a < 192 → goM τ ns nb q n a k = goM σ ns nb q n a k
  | 0 => h
  | n + 1 => boatsM_ag (up2_ag (goM_ag h n)) nb
def gof (a k : Nat) : Prop := ¬ (a = 152 ∨ a = 153 ∨ a = 155 ∨ a = 157 ∨ a = 158 ∨ (a = 139 ∧ k = 1))
theorem stepM_o {V : Sg} {ns q i a k : Nat} (h : gof a k) : stepM V ns q i a k = V a k := by
  unfold gof at h
  unfold stepM
  split
  · exact comeM_o (by omega)
  · rfl
theorem boatsM_o {V : Sg} {ns q a k : Nat} (h : gof a k) : ∀ n, boatsM V ns q n a k = V a k
  | 0 => rfl
  | n + 1 => (stepM_o h).trans (boatsM_o h n)
theorem goM_o {V : Sg} {ns nb q a k : Nat} (h : gof a k) : ∀ n, goM V ns nb q n a k = V a k
  | 0 => rfl
  | n + 1 => (boatsM_o h nb).trans ((up2_n (by unfold gof at h; omega)).trans (goM_o h n))
section HC
variable {G : Gl} {R : Room} {F : Fn} {K : Int32 → Hp → Prop} {KV : Hp → Prop} {σ : Nat → Nat → Int32} {b : Bool}
theorem pr_go {x : Int32} (h : Rel σ b) : PR G mX11_go mX12_go 5 3 [.int x] σ b := by
  have h0 := h
  obtain ⟨q, ns, nb, nl, nt, nr, hR, hX, hP, hQ, hK⟩ := h
  have hbd := hR.1.1
  have LO : ∀ v, RR σ 4 (up2 σ 3 3 v) q ns nb nl nt nr := fun v => RR_lo hR (fun a i _ _ => by simp (disch := omega) only [up2_n])
  refine ct_X11_go hR (fun hv => ?_) (fun m hm em d0 hv => ?_) (fun m hm em d0 hv τ h1 h2 => ?_)
  · exact ⟨rfl, ct_X12_go (LO 1) (fun _ => ⟨rfl, _, rfl, rel_ref h0⟩) (fun m hm em d0 _ => absurd ⟨m, hm, em, d0⟩ hv) (fun m hm em d0 _ => absurd ⟨m, hm, em, d0⟩ hv)⟩
  · refine ⟨rfl, ct_X12_go (LO (nI 2)) (fun hv => absurd ⟨m, hm, em, d0⟩ hv) (fun m' hm' em' d0' hv' => ⟨rfl, _, rfl, rel_ref h0⟩) (fun m' hm' em' d0' hv' => ?_)⟩
    obtain rfl : m' = m := (nI_eq (by omega) (by omega)).mp (em'.symm.trans em)
    exfalso; omega
  · have ag : ∀ a k, 139 ≤ a → a < 192 → up2 τ 3 3 0 a k = σ a k := fun a k _ _ => by rw [up2_n (by omega)]; exact h2 a k (by omega)
    have ga := goM_ag ag (ns := ns) (nb := nb) (q := q)
    refine ⟨rfl, ct_X12_go (ρ := σ) (RR_lo hR ag) (fun hv => absurd ⟨m, hm, em, d0⟩ hv) (fun m' hm' em' d0' hv' => ?_) (fun m' hm' em' d0' hv' => ?_)⟩
    · obtain rfl : m' = m := (nI_eq (by omega) (by omega)).mp (em'.symm.trans em)
      exfalso; omega
    · obtain rfl : m' = m := (nI_eq (by omega) (by omega)).mp (em'.symm.trans em)
      refine ⟨rfl, _, rfl, ?_⟩
      have m0 : ∀ a k, ¬ (139 ≤ a ∧ a < 192) → up2 (goM (up2 τ 3 3 0) ns nb q m') 139 0 0 a k = up2 τ 3 3 0 a k := fun a k ha => by rw [up2_n (by omega), goM_o (by unfold gof; omega)]
      have m1 : ∀ a k, 139 ≤ a → a < 192 → ¬ (a = 139 ∧ k = 0) → up2 (goM (up2 τ 3 3 0) ns nb q m') 139 0 0 a k = goM σ ns nb q m' a k := fun a k h1 h2 h3 => by rw [up2_n h3, ga _ _ _ h1 h2]
      have m2 : ∀ a k, 139 ≤ a → a < 192 → ¬ (a = 139 ∧ k = 0) → gof a k → up2 (goM (up2 τ 3 3 0) ns nb q m') 139 0 0 a k = σ a k := fun a k h1 h2 h3 h4 => by rw [m1 a k h1 h2 h3, goM_o h4]
      have m3 : ∀ a k, ¬ (139 ≤ a ∧ a < 192) → ¬ (a = 4 ∨ (33 ≤ a ∧ a < 97)) → ¬ (a = 3 ∧ k = 3) → up2 (goM (up2 τ 3 3 0) ns nb q m') 139 0 0 a k = σ a k := fun a k h3 h4 h5 => by rw [m0 a k h3, up2_n h5, h2 a k h4]
      have gf : ∀ a k, ¬ (a = 152 ∨ a = 153 ∨ a = 155 ∨ a = 157 ∨ a = 158 ∨ (a = 139 ∧ k = 1)) → gof a k := fun a k ha => ha
      refine ⟨q + m', ns, nb, nl, nt, nr, RR_cg h1 (fun a k h3 h4 => by rw [m0 _ _ (by omega), up2_n (by omega)]) (fun a k hk => m1 _ _ (by omega) (by omega) (by omega)),
        cX_cg hX (by rw [up2_y, m0 _ _ (by omega), up2_y]) ⟨m3 _ _ (by omega) (by omega) (by omega), m2 _ _ (by omega) (by omega) (by omega) (gf _ _ (by omega))⟩,
        cP_cg hP ⟨m3 _ _ (by omega) (by omega) (by omega), m2 _ _ (by omega) (by omega) (by omega) (gf _ _ (by omega))⟩ (fun j _ => ⟨m3 _ _ (by omega) (by omega) (by omega), m2 _ _ (by omega) (by omega) (by omega) (gf _ _ (by omega))⟩),
        cQ_cg hQ (fun a k hk => ?_), cK_cg hK (m2 _ _ (by omega) (by omega) (by omega) (gf _ _ (by omega))) (fun a k hk => ?_) (fun a k hk => m2 _ _ (by omega) (by omega) (by omega) (gf _ _ (by omega))) (by omega) (by omega) (by omega) (by omega) (by omega)⟩
      · rcases hk with hk | hk
        · exact m3 _ _ (by omega) (by omega) (by omega)
        · exact m2 _ _ (by omega) (by omega) (by omega) (gf _ _ (by omega))
      · rcases hk with hk | hk
        · exact m3 _ _ (by omega) (by omega) (by omega)
        · exact m2 _ _ (by omega) (by omega) (by omega) (gf _ _ (by omega))
end HC
