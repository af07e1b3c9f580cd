/-- the reference's heights after k floats of sheet s from place e on were told from day d on -/
def gaV (V : Sg) (s e d : Nat) : Nat → Sg
  | 0 => V
  | k + 1 => if V 191 (40 * s + (e + k)) = 0 ∧ -20 ≤ (V 190 (40 * s + (e + k)) / nI 2).toInt ∧ (V 190 (40 * s + (e + k)) / nI 2).toInt ≤ 40 then up2 (up2 (gaV V s e d k) 146 (d + k) (V 190 (40 * s + (e + k)) / nI 2)) 147 (d + k) 1 else gaV V s e d k
theorem gaV_o {V : Sg} {s e d a i : Nat} (h : a ≠ 146 ∧ a ≠ 147) : ∀ k, gaV V s e d k a i = V a i
  | 0 => rfl
  | k + 1 => by
    rw [gaV]
    split
    · rw [up2_n (by omega), up2_n (by omega)]; exact gaV_o h k
    · exact gaV_o h k
theorem gaV_ag {τ σ : Sg} (h : ∀ a i, 139 ≤ a → a < 192 → τ a i = σ a i) {s e d : Nat} : ∀ k a i, 139 ≤ a → a < 192 → gaV τ s e d k a i = gaV σ s e d k a i
  | 0 => h
  | k + 1 => by
    intro a i h1 h2
    rw [gaV, gaV, h 191 _ (by omega) (by omega), h 190 _ (by omega) (by omega)]
    split
    · exact up2_ag (up2_ag (gaV_ag h k)) a i h1 h2
    · exact gaV_ag h k a i h1 h2
def FH (σ τ : Sg) : Prop := ∀ a j, ¬ ((a = 4 ∧ j = 6) ∨ a = 5) → τ a j = σ a j
theorem cH_tell {σ V : Sg} {d : Nat} {y : Int32} (hH : cH σ 4 V) (hd : d < 100) (y0 : -20 ≤ y.toInt) (y1 : y.toInt ≤ 40) : cH (up2 (up2 σ 4 6 (nI (cnt (setp (told V) d) 100))) 5 d y) 4 (up2 (up2 V 146 d y) 147 d 1) := by
  refine ⟨fun e he => ?_, ?_⟩
  · rw [show (4 : Nat) + 1 = 5 from rfl]
    by_cases z : e = d
    · subst z
      refine Or.inr ⟨?_, ?_, ?_, ?_⟩ <;> simp (disch := omega) only [up2_n, up2_e] <;> assumption
    · simp (disch := omega) only [up2_n]
      exact hH.1 e he
  · simp (disch := omega) only [up2_n, up2_e]
    show _ = nI (cnt (told (up2 (up2 V 146 d y) 147 d 1)) 100)
    rw [told_up]
theorem FH_tell {σ τ : Sg} {d : Nat} {x y : Int32} (h : FH σ τ) : FH σ (up2 (up2 τ 4 6 x) 5 d y) := fun a j ha => by
  rw [up2_n (by omega), up2_n (by omega)]
  exact h a j ha
def kf (σ : Sg) (s : Nat) (z : Int32) : Nat := if 0 ≤ z.toInt ∧ z.toInt ≤ (σ 189 s).toInt - 1 then (σ 189 s).toNatClampNeg - z.toNatClampNeg else 0
section HC
variable {G : Gl} {R : Room} {F : Fn} {K : Int32 → Hp → Prop} {KV : Hp → Prop} {σ : Nat → Nat → Int32} {b : Bool}
theorem ct_X11_tellFromFloat {V : Sg} {d : Nat} {y : Int32} (hH : cH σ 4 V) (hd : d < 100) (hq1 : (y = -9999 ∨ ¬ (-20 ≤ (y / nI 2).toInt ∧ (y / nI 2).toInt ≤ 40)) → KV (σ, sh b)) (hq2 : ¬ y = -9999 → (-20 ≤ (y / nI 2).toInt ∧ (y / nI 2).toInt ≤ 40) → KV (up2 (up2 σ 4 6 (nI (cnt (setp (told V) d) 100))) 5 d (y / nI 2), sh b)) : CM G mX11_tellFromFloat (rl 2) [.ref 3, .int (nI d), .int y] (σ, sh b) (QV KV) := by
  refine CM.of (by decide) (Nat.le_of_ble_eq_true rfl) (cats1 rfl) ?_
  refine V_iload_n (pc := 0) d_X11_tellFromFloat_0 rfl ?_
  refine V_sipush (pc := 1) (-9999) d_X11_tellFromFloat_1 (by decide) ?_
  refine V_icmp_ne (pc := 4) 8 d_X11_tellFromFloat_4 (by decide) (fun c4 => ?_) (fun c4 => ?_)
  · refine V_iload_n (pc := 8) d_X11_tellFromFloat_8 rfl ?_
    refine V_iconst (pc := 9) (nI 2) d_X11_tellFromFloat_9 (by decide) ?_
    refine V_idiv (pc := 10) d_X11_tellFromFloat_10 (by decide) ?_
    refine V_istore_n (pc := 11) d_X11_tellFromFloat_11 (by decide) ?_
    refine V_iload_n (pc := 12) d_X11_tellFromFloat_12 rfl ?_
    refine V_bipush (pc := 13) (-20) d_X11_tellFromFloat_13 (by decide) ?_
    refine V_bipush (pc := 15) (nI 40) d_X11_tellFromFloat_15 (by decide) ?_
    refine V_csI (pc := 17) (n := 1) [_, _, _] d_X11_tellFromFloat_17 c_X11_51 k_X11_isWithin rfl (Nat.le_of_ble_eq_true rfl) ⟨Nat.le_of_ble_eq_true rfl, Nat.le_of_ble_eq_true rfl⟩ ⟨Nat.le_refl _, Nat.le_refl _⟩ (ct_X11_isWithin (lo := -20) (hi := 40) (by decide) (by decide) ?_)
    refine V_if_eq (pc := 20) 32 d_X11_tellFromFloat_20 (by decide) (fun c20 => ?_) (fun c20 => ?_)
    · replace c20 := zf c20
      exact V_retV (pc := 32) d_X11_tellFromFloat_32 rfl ⟨Nat.le_refl _, Nat.le_refl _⟩ (by first | exact hq1 (Or.inr c20) | exact hq2 c4 c20)
    · replace c20 := zt c20
      refine V_aload_n (pc := 23) d_X11_tellFromFloat_23 rfl ?_
      refine P_getR (pc := 24) d_X11_tellFromFloat_24 f_X11_10 (tt_3 b) (rr_3_0 b) ?_
      refine V_iload_n (pc := 27) d_X11_tellFromFloat_27 rfl ?_
      refine V_iload_n (pc := 28) d_X11_tellFromFloat_28 rfl ?_
      refine V_cvV (pc := 29) (n := 1) (c := 4) [_, _] d_X11_tellFromFloat_29 c_X11_79 k_X4_tellHeight ⟨rfl, rfl⟩ (tt_4 b) rfl (Nat.le_of_ble_eq_true rfl) ⟨Nat.le_of_ble_eq_true rfl, Nat.le_of_ble_eq_true rfl⟩ ⟨Nat.le_refl _, Nat.le_refl _⟩ (ct_X4_tellHeight hH hd ?_)
      exact V_retV (pc := 32) d_X11_tellFromFloat_32 rfl ⟨Nat.le_refl _, Nat.le_refl _⟩ (by first | exact hq1 (Or.inr c20) | exact hq2 c4 c20)
  · exact V_retV (pc := 7) d_X11_tellFromFloat_7 rfl ⟨Nat.le_refl _, Nat.le_refl _⟩ (hq1 (Or.inl c4))
theorem lp_ga {s e d n N m : Nat} {w : Option Value} (hs : s < 4) (hdn : d + n ≤ 100) (hN : N ≤ 40) (hsz : σ (131 + 2 * s) 1 = nI N) (hm : m ≤ n) (hm2 : e + m ≤ N) (hnum : ∀ j, j < N → (σ 191 (40 * s + j) = 0 ∧ σ (132 + 2 * s) j = σ 190 (40 * s + j) ∧ -1000 ≤ (σ 190 (40 * s + j)).toInt) ∨ (σ 191 (40 * s + j) = 1 ∧ σ (132 + 2 * s) j = -9999)) (hE : ∀ τ, cH τ 4 (gaV σ s e d m) → FH σ τ → V G mX11_gauges (rl 3) F 0 0 83 [some (.ref 3), some (.int (nI d)), some (.int (nI s)), some (.int (nI e)), some (.int (nI n)), w, some (.ref (131 + 2 * s)), some (.int 0), some (.int (nI m))] [] (τ, sh b)) : ∀ k, k ≤ m → ∀ j, j + k = m → ∀ τ, cH τ 4 (gaV σ s e d j) → FH σ τ → V G mX11_gauges (rl 3) F 0 0 83 [some (.ref 3), some (.int (nI d)), some (.int (nI s)), some (.int (nI e)), some (.int (nI n)), w, some (.ref (131 + 2 * s)), some (.int 0), some (.int (nI j))] [] (τ, sh b) := by
  intro k
  induction k with
  | zero =>
    intro hx j hj τ hH hF
    obtain rfl : j = m := by omega
    exact hE _ hH hF
  | succ k ih =>
    intro hx j hj τ hH hF
    have hv := hnum (e + j) (by omega)
    refine V_iload (pc := 83) d_X11_gauges_83 rfl ?_
    refine V_iload (pc := 85) d_X11_gauges_85 rfl ?_
    refine B_icmp_ge (pc := 87) 133 d_X11_gauges_87 (by decide) (fun c87 => ?_) (fun c87 => ?_)
    · simp (disch := omega) only [nI_toInt, ti0, ti1, tim1, tim20, tim1000] at c87
      all_goals omega
    · simp (disch := omega) only [nI_toInt, ti0, ti1, tim1, tim20, tim1000] at c87
      refine V_aload (pc := 90) d_X11_gauges_90 rfl ?_
      refine V_iload_n (pc := 92) d_X11_gauges_92 rfl ?_
      refine V_iload (pc := 93) d_X11_gauges_93 rfl ?_
      refine V_iadd (pc := 95) d_X11_gauges_95 ?_
      rw [nI_add]
      refine V_cvI (pc := 96) (n := 2) (c := 6) [_] d_X11_gauges_96 c_X11_333 k_X6_hasPlace ⟨rfl, rfl⟩ (tSHT b (by omega)) rfl (Nat.le_of_ble_eq_true rfl) ⟨Nat.le_of_ble_eq_true rfl, Nat.le_of_ble_eq_true rfl⟩ ⟨Nat.le_refl _, Nat.le_refl _⟩ (ct_X6_hasPlace (tSHT b (by omega)) ((hF _ _ (by omega)).trans hsz) hN ?_)
      refine V_if_ne (pc := 99) 109 d_X11_gauges_99 (by decide) (fun c99 => ?_) (fun c99 => ?_)
      · replace c99 := zt c99
        refine V_aload_n (pc := 109) d_X11_gauges_109 rfl ?_
        refine V_iload_n (pc := 110) d_X11_gauges_110 rfl ?_
        refine V_iload (pc := 111) d_X11_gauges_111 rfl ?_
        refine V_iadd (pc := 113) d_X11_gauges_113 ?_
        rw [nI_add]
        refine V_aload (pc := 114) d_X11_gauges_114 rfl ?_
        refine P_getR (pc := 116) d_X11_gauges_116 f_X11_342 (tSHT b (by omega)) (rSHT2 b (by omega)) ?_
        refine V_iload_n (pc := 119) d_X11_gauges_119 rfl ?_
        refine V_iload (pc := 120) d_X11_gauges_120 rfl ?_
        refine V_iadd (pc := 122) d_X11_gauges_122 ?_
        refine P_iald (pc := 123) ((e + j)) d_X11_gauges_123 (tNUM b (by omega)) (by simp only [nI_add, pk_mul, nI_1]) (ln_of (lNUM b (by omega)) ⟨by omega, by decide⟩) ?_
        rw [hF _ _ (by omega)]
        refine V_cvV (pc := 124) (n := 2) (c := 11) [_, _] d_X11_gauges_124 c_X11_345 k_X11_tellFromFloat ⟨rfl, rfl⟩ (tt_3 b) rfl (Nat.le_of_ble_eq_true rfl) ⟨Nat.le_of_ble_eq_true rfl, Nat.le_of_ble_eq_true rfl⟩ ⟨Nat.le_refl _, Nat.le_refl _⟩ (ct_X11_tellFromFloat hH (by omega) (fun t1 => ?_) (fun t1 t2 => ?_))
        · have st : gaV σ s e d (j + 1) = gaV σ s e d j := by
            rw [gaV, if_neg]
            intro w
            rcases hv with ⟨v1, v2, v3⟩ | ⟨v1, v2⟩
            · rw [v2] at t1
              rcases t1 with t1 | t1
              · rw [t1] at v3; exact absurd v3 (by decide)
              · exact t1 w.2
            · rw [v1] at w; exact absurd w.1 (by decide)
          refine V_iinc (pc := 127) d_X11_gauges_127 rfl (by decide) ?_
          refine V_goto (pc := 130) 83 d_X11_gauges_130 (by decide) ?_
          rw [p1_s]
          exact ih (by omega) (j + 1) (by omega) _ (by rw [st]; exact hH) hF
        · rcases hv with ⟨v1, v2, v3⟩ | ⟨v1, v2⟩
          · rw [v2] at t1 t2
            have st : gaV σ s e d (j + 1) = up2 (up2 (gaV σ s e d j) 146 (d + j) (σ 190 (40 * s + (e + j)) / nI 2)) 147 (d + j) 1 := by
              rw [gaV, if_pos ⟨v1, t2⟩]
            rw [v2]
            have hH2 := cH_tell hH (by omega : d + j < 100) t2.1 t2.2
            have hF2 : FH σ (up2 (up2 τ 4 6 (nI (cnt (setp (told (gaV σ s e d j)) (d + j)) 100))) 5 (d + j) (σ 190 (40 * s + (e + j)) / nI 2)) := FH_tell hF
            rw [← st] at hH2
            refine V_iinc (pc := 127) d_X11_gauges_127 rfl (by decide) ?_
            refine V_goto (pc := 130) 83 d_X11_gauges_130 (by decide) ?_
            rw [p1_s]
            exact ih (by omega) (j + 1) (by omega) _ hH2 hF2
          · exact absurd v2 t1
      · replace c99 := zf c99
        exact absurd ⟨by rw [nI_toInt (by omega)]; omega, by rw [nI_toInt (by omega)]; omega⟩ c99
theorem ct_X11_gauges {x y z w : Int32} {q ns nb nl nt nr : Nat} (hR : RR σ 4 σ q ns nb nl nt nr) (hQ : cQ σ) (h1 : ¬ (∃ d s n : Nat, d < 100 ∧ s < 4 ∧ n < 41 ∧ x = nI d ∧ y = nI s ∧ w = nI n ∧ d + n ≤ 100) → K (-1) (up2 σ 3 3 1, sh b)) (h10 : ∀ d s n : Nat, d < 100 → s < 4 → n < 41 → x = nI d → y = nI s → w = nI n → d + n ≤ 100 → σ 188 s = -1 → K (-1) (up2 σ 3 3 (nI 10), sh b)) (h11 : ∀ d s n : Nat, d < 100 → s < 4 → n < 41 → x = nI d → y = nI s → w = nI n → d + n ≤ 100 → ¬ σ 188 s = -1 → ¬ σ 188 s = nI 2 → K (-1) (up2 σ 3 3 (nI 11), sh b)) (h12 : ∀ d s n : Nat, d < 100 → s < 4 → n < 41 → x = nI d → y = nI s → w = nI n → d + n ≤ 100 → σ 188 s = nI 2 → kf σ s z < n → ∀ τ, cH τ 4 (gaV σ s z.toNatClampNeg d (kf σ s z)) → FH σ τ → K (-1) (up2 τ 3 3 (nI 12), sh b)) (h2 : ∀ d s n : Nat, d < 100 → s < 4 → n < 41 → x = nI d → y = nI s → w = nI n → d + n ≤ 100 → σ 188 s = nI 2 → n ≤ kf σ s z → ∀ τ, cH τ 4 (gaV σ s z.toNatClampNeg d n) → FH σ τ → K (nI (cnt (told (gaV σ s z.toNatClampNeg d n)) 100)) (up2 τ 3 3 0, sh b)) : CM G mX11_gauges (rl 3) [.ref 3, .int x, .int y, .int z, .int w] (σ, sh b) (QI K) := by
  obtain ⟨⟨⟨hq2, hn10, hnb, hnl, hnt, hnr⟩, ⟨vq, vns, vnb, vnl, vnt, vnr⟩, ⟨rq, rns, rnb, rnl, rnt, rnr⟩, hpd⟩, hH, hC, hS, hLD, hB, hA, hT, hU⟩ := id hR
  refine CM.of (by decide) (Nat.le_of_ble_eq_true rfl) (cats1 rfl) ?_
  refine V_iload_n (pc := 0) d_X11_gauges_0 rfl ?_
  refine V_csI (pc := 1) (n := 2) [_] d_X11_gauges_1 c_X11_75 k_X11_isDay rfl (Nat.le_of_ble_eq_true rfl) ⟨Nat.le_of_ble_eq_true rfl, Nat.le_of_ble_eq_true rfl⟩ ⟨Nat.le_refl _, Nat.le_refl _⟩ (ct_X11_isDay ?_)
  refine V_if_eq (pc := 4) 29 d_X11_gauges_4 (by decide) (fun c4 => ?_) (fun c4 => ?_)
  · replace c4 := zf c4
    refine V_iconst (pc := 29) (0) d_X11_gauges_29 (by decide) ?_
    refine V_istore (pc := 30) d_X11_gauges_30 (by decide) ?_
    refine V_iload (pc := 32) d_X11_gauges_32 rfl ?_
    refine V_if_eq (pc := 34) 46 d_X11_gauges_34 (by decide) (fun c34 => ?_) (fun c34 => ?_)
    · refine V_aload_n (pc := 46) d_X11_gauges_46 rfl ?_
      refine V_iconst (pc := 47) (1) d_X11_gauges_47 (by decide) ?_
      refine V_cvI (pc := 48) (n := 1) (c := 11) [_] d_X11_gauges_48 c_X11_55 k_X11_refused ⟨rfl, rfl⟩ (tt_3 b) rfl (Nat.le_of_ble_eq_true rfl) ⟨Nat.le_of_ble_eq_true rfl, Nat.le_of_ble_eq_true rfl⟩ ⟨Nat.le_refl _, Nat.le_refl _⟩ (ct_X11_refused ?_)
      exact V_retI (pc := 51) d_X11_gauges_51 rfl ⟨Nat.le_refl _, Nat.le_refl _⟩ (h1 (by
            rintro ⟨d, s, n, g1, g2, g3, g4, g5, g6, g7⟩
            try subst g4
            try subst g5
            try subst g6
            simp (disch := omega) only [nI_toInt, nI_eq] at *
            omega))
    · exact absurd (by decide) c34
  · replace c4 := zt c4
    refine V_iload_n (pc := 7) d_X11_gauges_7 rfl ?_
    refine V_csI (pc := 8) (n := 2) [_] d_X11_gauges_8 c_X11_325 k_X11_isSheet rfl (Nat.le_of_ble_eq_true rfl) ⟨Nat.le_of_ble_eq_true rfl, Nat.le_of_ble_eq_true rfl⟩ ⟨Nat.le_refl _, Nat.le_refl _⟩ (ct_X11_isSheet ?_)
    refine V_if_eq (pc := 11) 29 d_X11_gauges_11 (by decide) (fun c11 => ?_) (fun c11 => ?_)
    · replace c11 := zf c11
      refine V_iconst (pc := 29) (0) d_X11_gauges_29 (by decide) ?_
      refine V_istore (pc := 30) d_X11_gauges_30 (by decide) ?_
      refine V_iload (pc := 32) d_X11_gauges_32 rfl ?_
      refine V_if_eq (pc := 34) 46 d_X11_gauges_34 (by decide) (fun c34 => ?_) (fun c34 => ?_)
      · refine V_aload_n (pc := 46) d_X11_gauges_46 rfl ?_
        refine V_iconst (pc := 47) (1) d_X11_gauges_47 (by decide) ?_
        refine V_cvI (pc := 48) (n := 1) (c := 11) [_] d_X11_gauges_48 c_X11_55 k_X11_refused ⟨rfl, rfl⟩ (tt_3 b) rfl (Nat.le_of_ble_eq_true rfl) ⟨Nat.le_of_ble_eq_true rfl, Nat.le_of_ble_eq_true rfl⟩ ⟨Nat.le_refl _, Nat.le_refl _⟩ (ct_X11_refused ?_)
        exact V_retI (pc := 51) d_X11_gauges_51 rfl ⟨Nat.le_refl _, Nat.le_refl _⟩ (h1 (by
            rintro ⟨d, s, n, g1, g2, g3, g4, g5, g6, g7⟩
            try subst g4
            try subst g5
            try subst g6
            simp (disch := omega) only [nI_toInt, nI_eq] at *
            omega))
      · exact absurd (by decide) c34
    · replace c11 := zt c11
      refine V_iload (pc := 14) d_X11_gauges_14 rfl ?_
      refine V_iconst (pc := 16) (0) d_X11_gauges_16 (by decide) ?_
      refine V_bipush (pc := 17) (nI 40) d_X11_gauges_17 (by decide) ?_
      refine V_csI (pc := 19) (n := 1) [_, _, _] d_X11_gauges_19 c_X11_51 k_X11_isWithin rfl (Nat.le_of_ble_eq_true rfl) ⟨Nat.le_of_ble_eq_true rfl, Nat.le_of_ble_eq_true rfl⟩ ⟨Nat.le_refl _, Nat.le_refl _⟩ (ct_X11_isWithin (lo := 0) (hi := 40) (by decide) (by decide) ?_)
      refine V_if_eq (pc := 22) 29 d_X11_gauges_22 (by decide) (fun c22 => ?_) (fun c22 => ?_)
      · replace c22 := zf c22
        refine V_iconst (pc := 29) (0) d_X11_gauges_29 (by decide) ?_
        refine V_istore (pc := 30) d_X11_gauges_30 (by decide) ?_
        refine V_iload (pc := 32) d_X11_gauges_32 rfl ?_
        refine V_if_eq (pc := 34) 46 d_X11_gauges_34 (by decide) (fun c34 => ?_) (fun c34 => ?_)
        · refine V_aload_n (pc := 46) d_X11_gauges_46 rfl ?_
          refine V_iconst (pc := 47) (1) d_X11_gauges_47 (by decide) ?_
          refine V_cvI (pc := 48) (n := 1) (c := 11) [_] d_X11_gauges_48 c_X11_55 k_X11_refused ⟨rfl, rfl⟩ (tt_3 b) rfl (Nat.le_of_ble_eq_true rfl) ⟨Nat.le_of_ble_eq_true rfl, Nat.le_of_ble_eq_true rfl⟩ ⟨Nat.le_refl _, Nat.le_refl _⟩ (ct_X11_refused ?_)
          exact V_retI (pc := 51) d_X11_gauges_51 rfl ⟨Nat.le_refl _, Nat.le_refl _⟩ (h1 (by
            rintro ⟨d, s, n, g1, g2, g3, g4, g5, g6, g7⟩
            try subst g4
            try subst g5
            try subst g6
            simp (disch := omega) only [nI_toInt, nI_eq] at *
            omega))
        · exact absurd (by decide) c34
      · replace c22 := zt c22
        refine V_iconst (pc := 25) (1) d_X11_gauges_25 (by decide) ?_
        refine V_goto (pc := 26) 30 d_X11_gauges_26 (by decide) ?_
        refine V_istore (pc := 30) d_X11_gauges_30 (by decide) ?_
        refine V_iload (pc := 32) d_X11_gauges_32 rfl ?_
        refine V_if_eq (pc := 34) 46 d_X11_gauges_34 (by decide) (fun c34 => ?_) (fun c34 => ?_)
        · exact absurd c34 (by decide)
        · obtain ⟨d, hd, rfl, -⟩ := nat_of (n := 100) (x := x) (by omega) (by omega) (by omega)
          obtain ⟨s, hs, rfl, -⟩ := nat_of (n := 4) (x := y) (by omega) (by omega) (by omega)
          obtain ⟨n, hn, rfl, -⟩ := nat_of (n := 41) (x := w) (by omega) (by omega) (by omega)
          simp (disch := omega) only [nI_toInt] at c4 c11 c22
          obtain ⟨q1, q2, q3, ⟨N, hN, en⟩, q5⟩ := hQ s hs
          refine V_iload_n (pc := 37) d_X11_gauges_37 rfl ?_
          refine V_iload (pc := 38) d_X11_gauges_38 rfl ?_
          refine V_iadd (pc := 40) d_X11_gauges_40 ?_
          rw [nI_add]
          refine V_bipush (pc := 41) (nI 100) d_X11_gauges_41 (by decide) ?_
          refine B_icmp_le (pc := 43) 52 d_X11_gauges_43 (by decide) (fun c43 => ?_) (fun c43 => ?_)
          · simp (disch := omega) only [show (nI 100).toInt = 100 from by decide, nI_toInt, ti0, ti1, tim1, tim20, tim1000] at c43
            refine V_aload_n (pc := 52) d_X11_gauges_52 rfl ?_
            refine P_getR (pc := 53) d_X11_gauges_53 f_X11_28 (tt_3 b) (rr_3_4 b) ?_
            refine V_iload_n (pc := 56) d_X11_gauges_56 rfl ?_
            refine P_aald (pc := 57) (c := 6) (s) d_X11_gauges_57 (tt_123 b) (by decide) rfl (ln_of (ll_123 b) ⟨by omega, by decide⟩) (rSHT b (by omega)) ?_
            refine V_astore (pc := 58) d_X11_gauges_58 (by decide) ?_
            refine V_aload (pc := 60) d_X11_gauges_60 rfl ?_
            refine V_iconst (pc := 62) (nI 2) d_X11_gauges_62 (by decide) ?_
            refine V_cvI (pc := 63) (n := 2) (c := 6) [_] d_X11_gauges_63 c_X11_339 k_X6_faultAs ⟨rfl, rfl⟩ (tSHT b (by omega)) rfl (Nat.le_of_ble_eq_true rfl) ⟨Nat.le_of_ble_eq_true rfl, Nat.le_of_ble_eq_true rfl⟩ ⟨Nat.le_refl _, Nat.le_refl _⟩ (ct_X6_faultAs (tSHT b (by omega)) ?_)
            rw [q1]
            by_cases m1 : σ 188 s = -1
            · rw [if_pos m1]
              refine V_istore (pc := 66) d_X11_gauges_66 (by decide) ?_
              refine V_iload (pc := 68) d_X11_gauges_68 rfl ?_
              refine V_if_eq (pc := 70) 80 d_X11_gauges_70 (by decide) (fun c70 => ?_) (fun c70 => ?_)
              · exact absurd c70 (by decide)
              · refine V_aload_n (pc := 73) d_X11_gauges_73 rfl ?_
                refine V_iload (pc := 74) d_X11_gauges_74 rfl ?_
                refine V_cvI (pc := 76) (n := 1) (c := 11) [_] d_X11_gauges_76 c_X11_55 k_X11_refused ⟨rfl, rfl⟩ (tt_3 b) rfl (Nat.le_of_ble_eq_true rfl) ⟨Nat.le_of_ble_eq_true rfl, Nat.le_of_ble_eq_true rfl⟩ ⟨Nat.le_refl _, Nat.le_refl _⟩ (ct_X11_refused ?_)
                exact V_retI (pc := 79) d_X11_gauges_79 rfl ⟨Nat.le_refl _, Nat.le_refl _⟩ (by first | exact h10 d s n hd hs hn rfl rfl rfl (by omega) m1 | exact h11 d s n hd hs hn rfl rfl rfl (by omega) m1 m2)
            by_cases m2 : σ 188 s = nI 2
            · rw [if_neg m1, if_pos m2]
              refine V_istore (pc := 66) d_X11_gauges_66 (by decide) ?_
              refine V_iload (pc := 68) d_X11_gauges_68 rfl ?_
              refine V_if_eq (pc := 70) 80 d_X11_gauges_70 (by decide) (fun c70 => ?_) (fun c70 => ?_)
              · refine V_iconst (pc := 80) (0) d_X11_gauges_80 (by decide) ?_
                refine V_istore (pc := 81) d_X11_gauges_81 (by decide) ?_
                have hnum : ∀ j, j < N → (σ 191 (40 * s + j) = 0 ∧ σ (132 + 2 * s) j = σ 190 (40 * s + j) ∧ -1000 ≤ (σ 190 (40 * s + j)).toInt) ∨ (σ 191 (40 * s + j) = 1 ∧ σ (132 + 2 * s) j = -9999) := fun j hj => by
                  obtain ⟨g1, g2, g3⟩ := q5 j (by omega)
                  rcases g3 with g3 | g3
                  · exact Or.inl ⟨g3.1, g3.2, g1⟩
                  · exact Or.inr ⟨g3.1, g3.2.2⟩
                by_cases hz : 0 ≤ z.toInt ∧ z.toInt ≤ (N : Int) - 1
                · obtain ⟨e, he, rfl, -⟩ := nat_of (n := N) (x := z) (by omega) (by omega) (by omega)
                  have ek : kf σ s (nI e) = N - e := by
                    rw [kf, en, nI_toInt (n := N) (by omega), if_pos hz, nI_clamp (by omega), nI_clamp (by omega)]
                  have g12 := h12 d s n hd hs hn rfl rfl rfl (by omega) m2
                  have g2 := h2 d s n hd hs hn rfl rfl rfl (by omega) m2
                  rw [ek, nI_clamp (by omega)] at g12 g2
                  by_cases hk : n ≤ N - e
                  · refine lp_ga (F := FM G (rl 3) (QI K)) (m := n) hs (by omega) hN (q2.trans en) (Nat.le_refl _) (by omega) hnum (fun τ hH2 hF => ?_) n (Nat.le_refl _) 0 (by omega) _ hH (fun _ _ _ => rfl)
                    refine V_iload (pc := 83) d_X11_gauges_83 rfl ?_
                    refine V_iload (pc := 85) d_X11_gauges_85 rfl ?_
                    refine B_icmp_ge (pc := 87) 133 d_X11_gauges_87 (by decide) (fun c87 => ?_) (fun c87 => ?_)
                    · simp (disch := omega) only [nI_toInt, ti0, ti1, tim1, tim20, tim1000] at c87
                      refine V_aload_n (pc := 133) d_X11_gauges_133 rfl ?_
                      refine V_aload_n (pc := 134) d_X11_gauges_134 rfl ?_
                      refine P_getR (pc := 135) d_X11_gauges_135 f_X11_10 (tt_3 b) (rr_3_0 b) ?_
                      refine P_getI (pc := 138) d_X11_gauges_138 f_X11_83 (tt_4 b) ?_
                      rw [hH2.2]
                      refine V_cvI (pc := 141) (n := 1) (c := 11) [_] d_X11_gauges_141 c_X11_72 k_X11_done ⟨rfl, rfl⟩ (tt_3 b) rfl (Nat.le_of_ble_eq_true rfl) ⟨Nat.le_of_ble_eq_true rfl, Nat.le_of_ble_eq_true rfl⟩ ⟨Nat.le_refl _, Nat.le_refl _⟩ (ct_X11_done ?_)
                      exact V_retI (pc := 144) d_X11_gauges_144 rfl ⟨Nat.le_refl _, Nat.le_refl _⟩ (g2 hk τ hH2 hF)
                    · simp (disch := omega) only [nI_toInt, ti0, ti1, tim1, tim20, tim1000] at c87
                      all_goals omega
                  · refine lp_ga (F := FM G (rl 3) (QI K)) (m := N - e) hs (by omega) hN (q2.trans en) (by omega) (by omega) hnum (fun τ hH2 hF => ?_) (N - e) (Nat.le_refl _) 0 (by omega) _ hH (fun _ _ _ => rfl)
                    refine V_iload (pc := 83) d_X11_gauges_83 rfl ?_
                    refine V_iload (pc := 85) d_X11_gauges_85 rfl ?_
                    refine B_icmp_ge (pc := 87) 133 d_X11_gauges_87 (by decide) (fun c87 => ?_) (fun c87 => ?_)
                    · simp (disch := omega) only [nI_toInt, ti0, ti1, tim1, tim20, tim1000] at c87
                      all_goals omega
                    · simp (disch := omega) only [nI_toInt, ti0, ti1, tim1, tim20, tim1000] at c87
                      refine V_aload (pc := 90) d_X11_gauges_90 rfl ?_
                      refine V_iload_n (pc := 92) d_X11_gauges_92 rfl ?_
                      refine V_iload (pc := 93) d_X11_gauges_93 rfl ?_
                      refine V_iadd (pc := 95) d_X11_gauges_95 ?_
                      rw [nI_add]
                      refine V_cvI (pc := 96) (n := 2) (c := 6) [_] d_X11_gauges_96 c_X11_333 k_X6_hasPlace ⟨rfl, rfl⟩ (tSHT b (by omega)) rfl (Nat.le_of_ble_eq_true rfl) ⟨Nat.le_of_ble_eq_true rfl, Nat.le_of_ble_eq_true rfl⟩ ⟨Nat.le_refl _, Nat.le_refl _⟩ (ct_X6_hasPlace (tSHT b (by omega)) ((hF _ _ (by omega)).trans (q2.trans en)) hN ?_)
                      refine V_if_ne (pc := 99) 109 d_X11_gauges_99 (by decide) (fun c99 => ?_) (fun c99 => ?_)
                      · replace c99 := zt c99
                        rw [nI_toInt (by omega)] at c99
                        exfalso
                        omega
                      · replace c99 := zf c99
                        refine V_aload_n (pc := 102) d_X11_gauges_102 rfl ?_
                        refine V_bipush (pc := 103) (nI 12) d_X11_gauges_103 (by decide) ?_
                        refine V_cvI (pc := 105) (n := 1) (c := 11) [_] d_X11_gauges_105 c_X11_55 k_X11_refused ⟨rfl, rfl⟩ (tt_3 b) rfl (Nat.le_of_ble_eq_true rfl) ⟨Nat.le_of_ble_eq_true rfl, Nat.le_of_ble_eq_true rfl⟩ ⟨Nat.le_refl _, Nat.le_refl _⟩ (ct_X11_refused ?_)
                        exact V_retI (pc := 108) d_X11_gauges_108 rfl ⟨Nat.le_refl _, Nat.le_refl _⟩ (g12 (by omega) τ hH2 hF)
                · have ek : kf σ s z = 0 := by
                    rw [kf, en, nI_toInt (n := N) (by omega), if_neg hz]
                  have g12 := h12 d s n hd hs hn rfl rfl rfl (by omega) m2
                  have g2 := h2 d s n hd hs hn rfl rfl rfl (by omega) m2
                  rw [ek] at g12 g2
                  by_cases hk : n = 0
                  · subst hk
                    refine V_iload (pc := 83) d_X11_gauges_83 rfl ?_
                    refine V_iload (pc := 85) d_X11_gauges_85 rfl ?_
                    refine B_icmp_ge (pc := 87) 133 d_X11_gauges_87 (by decide) (fun c87 => ?_) (fun c87 => ?_)
                    · simp (disch := omega) only [nI_toInt, ti0, ti1, tim1, tim20, tim1000] at c87
                      refine V_aload_n (pc := 133) d_X11_gauges_133 rfl ?_
                      refine V_aload_n (pc := 134) d_X11_gauges_134 rfl ?_
                      refine P_getR (pc := 135) d_X11_gauges_135 f_X11_10 (tt_3 b) (rr_3_0 b) ?_
                      refine P_getI (pc := 138) d_X11_gauges_138 f_X11_83 (tt_4 b) ?_
                      rw [hH.2]
                      refine V_cvI (pc := 141) (n := 1) (c := 11) [_] d_X11_gauges_141 c_X11_72 k_X11_done ⟨rfl, rfl⟩ (tt_3 b) rfl (Nat.le_of_ble_eq_true rfl) ⟨Nat.le_of_ble_eq_true rfl, Nat.le_of_ble_eq_true rfl⟩ ⟨Nat.le_refl _, Nat.le_refl _⟩ (ct_X11_done ?_)
                      exact V_retI (pc := 144) d_X11_gauges_144 rfl ⟨Nat.le_refl _, Nat.le_refl _⟩ (g2 (Nat.le_refl _) σ hH (fun _ _ _ => rfl))
                    · simp (disch := omega) only [nI_toInt, ti0, ti1, tim1, tim20, tim1000] at c87
                      all_goals omega
                  · refine V_iload (pc := 83) d_X11_gauges_83 rfl ?_
                    refine V_iload (pc := 85) d_X11_gauges_85 rfl ?_
                    refine B_icmp_ge (pc := 87) 133 d_X11_gauges_87 (by decide) (fun c87 => ?_) (fun c87 => ?_)
                    · simp (disch := omega) only [nI_toInt, ti0, ti1, tim1, tim20, tim1000] at c87
                      all_goals omega
                    · simp (disch := omega) only [nI_toInt, ti0, ti1, tim1, tim20, tim1000] at c87
                      refine V_aload (pc := 90) d_X11_gauges_90 rfl ?_
                      refine V_iload_n (pc := 92) d_X11_gauges_92 rfl ?_
                      refine V_iload (pc := 93) d_X11_gauges_93 rfl ?_
                      refine V_iadd (pc := 95) d_X11_gauges_95 ?_
                      rw [Int32.add_zero]
                      refine V_cvI (pc := 96) (n := 2) (c := 6) [_] d_X11_gauges_96 c_X11_333 k_X6_hasPlace ⟨rfl, rfl⟩ (tSHT b (by omega)) rfl (Nat.le_of_ble_eq_true rfl) ⟨Nat.le_of_ble_eq_true rfl, Nat.le_of_ble_eq_true rfl⟩ ⟨Nat.le_refl _, Nat.le_refl _⟩ (ct_X6_hasPlace (tSHT b (by omega)) (q2.trans en) hN ?_)
                      refine V_if_ne (pc := 99) 109 d_X11_gauges_99 (by decide) (fun c99 => ?_) (fun c99 => ?_)
                      · replace c99 := zt c99
                        exact absurd c99 hz
                      · replace c99 := zf c99
                        refine V_aload_n (pc := 102) d_X11_gauges_102 rfl ?_
                        refine V_bipush (pc := 103) (nI 12) d_X11_gauges_103 (by decide) ?_
                        refine V_cvI (pc := 105) (n := 1) (c := 11) [_] d_X11_gauges_105 c_X11_55 k_X11_refused ⟨rfl, rfl⟩ (tt_3 b) rfl (Nat.le_of_ble_eq_true rfl) ⟨Nat.le_of_ble_eq_true rfl, Nat.le_of_ble_eq_true rfl⟩ ⟨Nat.le_refl _, Nat.le_refl _⟩ (ct_X11_refused ?_)
                        exact V_retI (pc := 108) d_X11_gauges_108 rfl ⟨Nat.le_refl _, Nat.le_refl _⟩ (g12 (by omega) σ hH (fun _ _ _ => rfl))
              · exact absurd (by decide) c70
            rw [if_neg m1, if_neg m2]
            refine V_istore (pc := 66) d_X11_gauges_66 (by decide) ?_
            refine V_iload (pc := 68) d_X11_gauges_68 rfl ?_
            refine V_if_eq (pc := 70) 80 d_X11_gauges_70 (by decide) (fun c70 => ?_) (fun c70 => ?_)
            · exact absurd c70 (by decide)
            · refine V_aload_n (pc := 73) d_X11_gauges_73 rfl ?_
              refine V_iload (pc := 74) d_X11_gauges_74 rfl ?_
              refine V_cvI (pc := 76) (n := 1) (c := 11) [_] d_X11_gauges_76 c_X11_55 k_X11_refused ⟨rfl, rfl⟩ (tt_3 b) rfl (Nat.le_of_ble_eq_true rfl) ⟨Nat.le_of_ble_eq_true rfl, Nat.le_of_ble_eq_true rfl⟩ ⟨Nat.le_refl _, Nat.le_refl _⟩ (ct_X11_refused ?_)
              exact V_retI (pc := 79) d_X11_gauges_79 rfl ⟨Nat.le_refl _, Nat.le_refl _⟩ (by first | exact h10 d s n hd hs hn rfl rfl rfl (by omega) m1 | exact h11 d s n hd hs hn rfl rfl rfl (by omega) m1 m2)
          · simp (disch := omega) only [show (nI 100).toInt = 100 from by decide, nI_toInt, ti0, ti1, tim1, tim20, tim1000] at c43
            refine V_aload_n (pc := 46) d_X11_gauges_46 rfl ?_
            refine V_iconst (pc := 47) (1) d_X11_gauges_47 (by decide) ?_
            refine V_cvI (pc := 48) (n := 1) (c := 11) [_] d_X11_gauges_48 c_X11_55 k_X11_refused ⟨rfl, rfl⟩ (tt_3 b) rfl (Nat.le_of_ble_eq_true rfl) ⟨Nat.le_of_ble_eq_true rfl, Nat.le_of_ble_eq_true rfl⟩ ⟨Nat.le_refl _, Nat.le_refl _⟩ (ct_X11_refused ?_)
            exact V_retI (pc := 51) d_X11_gauges_51 rfl ⟨Nat.le_refl _, Nat.le_refl _⟩ (h1 (by
            rintro ⟨d, s, n, g1, g2, g3, g4, g5, g6, g7⟩
            try subst g4
            try subst g5
            try subst g6
            simp (disch := omega) only [nI_toInt, nI_eq] at *
            omega))
theorem gaV_01 {V : Sg} {s e d : Nat} (h : ∀ x, x < 100 → V 147 x = 0 ∨ V 147 x = 1) : ∀ k x, x < 100 → gaV V s e d k 147 x = 0 ∨ gaV V s e d k 147 x = 1
  | 0, x, hx => h x hx
  | k + 1, x, hx => by
    rw [gaV]
    split
    · by_cases z : x = d + k
      · subst z; rw [up2_e ⟨rfl, rfl⟩]; exact Or.inr rfl
      · rw [up2_n (by omega), up2_n (by omega)]; exact gaV_01 h k x hx
    · exact gaV_01 h k x hx
theorem lp_gaM {s e d n N m : Nat} (hs : s < 4) (hdn : d + n ≤ 100) (hN : N ≤ 40) (hsz : σ 189 s = nI N) (hm : m ≤ n) (hm2 : e + m ≤ N) (hE : ∀ p t, V G mX12_gauges (rl 3) F 0 0 79 [some (.ref 139), some (.int (nI d)), some (.int (nI s)), some (.int (nI e)), some (.int (nI n)), some (.int (nI m)), p, t] [] (gaV σ s e d m, sh b)) : ∀ k, k ≤ m → ∀ j, j + k = m → ∀ p t, V G mX12_gauges (rl 3) F 0 0 79 [some (.ref 139), some (.int (nI d)), some (.int (nI s)), some (.int (nI e)), some (.int (nI n)), some (.int (nI j)), p, t] [] (gaV σ s e d j, sh b) := by
  intro k
  induction k with
  | zero =>
    intro hx j hj p t
    obtain rfl : j = m := by omega
    exact hE _ _
  | succ k ih =>
    intro hx j hj p t
    refine V_iload (pc := 79) d_X12_gauges_79 rfl ?_
    refine V_iload (pc := 81) d_X12_gauges_81 rfl ?_
    refine B_icmp_ge (pc := 83) 181 d_X12_gauges_83 (by decide) (fun c83 => ?_) (fun c83 => ?_)
    · simp (disch := omega) only [nI_toInt, ti0, ti1, tim1, tim20, tim1000] at c83
      all_goals omega
    · simp (disch := omega) only [nI_toInt, ti0, ti1, tim1, tim20, tim1000] at c83
      refine V_iload_n (pc := 86) d_X12_gauges_86 rfl ?_
      refine B_if_lt (pc := 87) 103 d_X12_gauges_87 (by decide) (fun c87 => ?_) (fun c87 => ?_)
      · simp (disch := omega) only [nI_toInt, ti0, ti1, tim1, tim20, tim1000] at c87
        all_goals omega
      · simp (disch := omega) only [nI_toInt, ti0, ti1, tim1, tim20, tim1000] at c87
        refine V_iload_n (pc := 90) d_X12_gauges_90 rfl ?_
        refine V_aload_n (pc := 91) d_X12_gauges_91 rfl ?_
        refine P_getR (pc := 92) d_X12_gauges_92 f_X12_158 (tt_139 b) (rr_139_61 b) ?_
        refine V_iload_n (pc := 95) d_X12_gauges_95 rfl ?_
        refine P_iald (pc := 96) (s) d_X12_gauges_96 (tt_189 b) rfl (ln_of (ll_189 b) ⟨by omega, by decide⟩) ?_
        rw [gaV_o (by omega), hsz]
        refine V_iload (pc := 97) d_X12_gauges_97 rfl ?_
        refine V_isub (pc := 99) d_X12_gauges_99 ?_
        rw [pk_sub (by omega)]
        refine B_icmp_lt (pc := 100) 110 d_X12_gauges_100 (by decide) (fun c100 => ?_) (fun c100 => ?_)
        · simp (disch := omega) only [nI_toInt, ti0, ti1, tim1, tim20, tim1000] at c100
          refine V_bipush (pc := 110) (nI 40) d_X12_gauges_110 (by decide) ?_
          refine V_iload_n (pc := 112) d_X12_gauges_112 rfl ?_
          refine V_imul (pc := 113) d_X12_gauges_113 ?_
          refine V_iload_n (pc := 114) d_X12_gauges_114 rfl ?_
          refine V_iadd (pc := 115) d_X12_gauges_115 ?_
          refine V_iload (pc := 116) d_X12_gauges_116 rfl ?_
          refine V_iadd (pc := 118) d_X12_gauges_118 ?_
          rw [pk_mul, nI_add, nI_add, show 40 * s + e + j = 40 * s + (e + j) from by omega]
          refine V_istore (pc := 119) d_X12_gauges_119 (by decide) ?_
          refine V_aload_n (pc := 121) d_X12_gauges_121 rfl ?_
          refine P_getR (pc := 122) d_X12_gauges_122 f_X12_161 (tt_139 b) (rr_139_62 b) ?_
          refine V_iload (pc := 125) d_X12_gauges_125 rfl ?_
          refine P_iald (pc := 127) ((40 * s + (e + j))) d_X12_gauges_127 (tt_190 b) (by simp only [nI_add, pk_mul, nI_1]) (ln_of (ll_190 b) ⟨by omega, by decide⟩) ?_
          rw [gaV_o (by omega)]
          refine V_iconst (pc := 128) (nI 2) d_X12_gauges_128 (by decide) ?_
          refine V_idiv (pc := 129) d_X12_gauges_129 (by decide) ?_
          refine V_istore (pc := 130) d_X12_gauges_130 (by decide) ?_
          refine V_aload_n (pc := 132) d_X12_gauges_132 rfl ?_
          refine P_getR (pc := 133) d_X12_gauges_133 f_X12_164 (tt_139 b) (rr_139_63 b) ?_
          refine V_iload (pc := 136) d_X12_gauges_136 rfl ?_
          refine P_zald (pc := 138) ((40 * s + (e + j))) d_X12_gauges_138 (tt_191 b) (by simp only [nI_add, pk_mul, nI_1]) (ln_of (ll_191 b) ⟨by omega, by decide⟩) ?_
          rw [gaV_o (by omega)]
          refine V_if_ne (pc := 139) 175 d_X12_gauges_139 (by decide) (fun c139 => ?_) (fun c139 => ?_)
          · refine V_iinc (pc := 175) d_X12_gauges_175 rfl (by decide) ?_
            refine V_goto (pc := 178) 79 d_X12_gauges_178 (by decide) ?_
            rw [p1_s]
            first | exact (show gaV σ s e d (j + 1) = gaV σ s e d j from by rw [gaV, if_neg (fun w => c139 w.1)]) ▸ ih (by omega) (j + 1) (by omega) _ _ | exact (show gaV σ s e d (j + 1) = gaV σ s e d j from by rw [gaV, if_neg (fun w => c151 w.2)]) ▸ ih (by omega) (j + 1) (by omega) _ _ | exact (show gaV σ s e d (j + 1) = up2 (up2 (gaV σ s e d j) 146 (d + j) (σ 190 (40 * s + (e + j)) / nI 2)) 147 (d + j) 1 from by rw [gaV, if_pos ⟨c139, c151⟩]) ▸ ih (by omega) (j + 1) (by omega) _ _
          · refine V_iload (pc := 142) d_X12_gauges_142 rfl ?_
            refine V_bipush (pc := 144) (-20) d_X12_gauges_144 (by decide) ?_
            refine V_bipush (pc := 146) (nI 40) d_X12_gauges_146 (by decide) ?_
            refine V_csI (pc := 148) (n := 1) [_, _, _] d_X12_gauges_148 c_X12_174 k_X12_in rfl (Nat.le_of_ble_eq_true rfl) ⟨Nat.le_of_ble_eq_true rfl, Nat.le_of_ble_eq_true rfl⟩ ⟨Nat.le_refl _, Nat.le_refl _⟩ (ct_X12_in (lo := -20) (hi := 40) (by decide) (by decide) ?_)
            refine V_if_eq (pc := 151) 175 d_X12_gauges_151 (by decide) (fun c151 => ?_) (fun c151 => ?_)
            · replace c151 := zf c151
              refine V_iinc (pc := 175) d_X12_gauges_175 rfl (by decide) ?_
              refine V_goto (pc := 178) 79 d_X12_gauges_178 (by decide) ?_
              rw [p1_s]
              first | exact (show gaV σ s e d (j + 1) = gaV σ s e d j from by rw [gaV, if_neg (fun w => c139 w.1)]) ▸ ih (by omega) (j + 1) (by omega) _ _ | exact (show gaV σ s e d (j + 1) = gaV σ s e d j from by rw [gaV, if_neg (fun w => c151 w.2)]) ▸ ih (by omega) (j + 1) (by omega) _ _ | exact (show gaV σ s e d (j + 1) = up2 (up2 (gaV σ s e d j) 146 (d + j) (σ 190 (40 * s + (e + j)) / nI 2)) 147 (d + j) 1 from by rw [gaV, if_pos ⟨c139, c151⟩]) ▸ ih (by omega) (j + 1) (by omega) _ _
            · replace c151 := zt c151
              refine V_aload_n (pc := 154) d_X12_gauges_154 rfl ?_
              refine P_getR (pc := 155) d_X12_gauges_155 f_X12_29 (tt_139 b) (rr_139_9 b) ?_
              refine V_iload_n (pc := 158) d_X12_gauges_158 rfl ?_
              refine V_iload (pc := 159) d_X12_gauges_159 rfl ?_
              refine V_iadd (pc := 161) d_X12_gauges_161 ?_
              refine V_iload (pc := 162) d_X12_gauges_162 rfl ?_
              refine P_iast (pc := 164) ((d + j)) d_X12_gauges_164 (tt_146 b) (by simp only [nI_add, pk_mul, nI_1]) (ln_of (ll_146 b) ⟨by omega, by decide⟩) ?_
              refine V_aload_n (pc := 165) d_X12_gauges_165 rfl ?_
              refine P_getR (pc := 166) d_X12_gauges_166 f_X12_32 (tt_139 b) (rr_139_10 b) ?_
              refine V_iload_n (pc := 169) d_X12_gauges_169 rfl ?_
              refine V_iload (pc := 170) d_X12_gauges_170 rfl ?_
              refine V_iadd (pc := 172) d_X12_gauges_172 ?_
              refine V_iconst (pc := 173) (1) d_X12_gauges_173 (by decide) ?_
              refine P_zast (pc := 174) ((d + j)) d_X12_gauges_174 (tt_147 b) (by simp only [nI_add, pk_mul, nI_1]) (ln_of (ll_147 b) ⟨by omega, by decide⟩) (Or.inr rfl) ?_
              refine V_iinc (pc := 175) d_X12_gauges_175 rfl (by decide) ?_
              refine V_goto (pc := 178) 79 d_X12_gauges_178 (by decide) ?_
              rw [p1_s]
              first | exact (show gaV σ s e d (j + 1) = gaV σ s e d j from by rw [gaV, if_neg (fun w => c139 w.1)]) ▸ ih (by omega) (j + 1) (by omega) _ _ | exact (show gaV σ s e d (j + 1) = gaV σ s e d j from by rw [gaV, if_neg (fun w => c151 w.2)]) ▸ ih (by omega) (j + 1) (by omega) _ _ | exact (show gaV σ s e d (j + 1) = up2 (up2 (gaV σ s e d j) 146 (d + j) (σ 190 (40 * s + (e + j)) / nI 2)) 147 (d + j) 1 from by rw [gaV, if_pos ⟨c139, c151⟩]) ▸ ih (by omega) (j + 1) (by omega) _ _
        · simp (disch := omega) only [nI_toInt, ti0, ti1, tim1, tim20, tim1000] at c100
          all_goals omega
theorem ct_X12_gauges {x y z w : Int32} {ρ : Sg} {q ns nb nl nt nr : Nat} (hR : RR ρ 4 σ q ns nb nl nt nr) (hQ : ∀ s, s < 4 → ∃ n, n ≤ 40 ∧ σ 189 s = nI n) (h1 : ¬ (∃ d s n : Nat, d < 100 ∧ s < 4 ∧ n < 41 ∧ x = nI d ∧ y = nI s ∧ w = nI n ∧ d + n ≤ 100) → K (-1) (up2 σ 139 0 1, sh b)) (h10 : ∀ d s n : Nat, d < 100 → s < 4 → n < 41 → x = nI d → y = nI s → w = nI n → d + n ≤ 100 → σ 188 s = -1 → K (-1) (up2 σ 139 0 (nI 10), sh b)) (h11 : ∀ d s n : Nat, d < 100 → s < 4 → n < 41 → x = nI d → y = nI s → w = nI n → d + n ≤ 100 → ¬ σ 188 s = -1 → ¬ σ 188 s = nI 2 → K (-1) (up2 σ 139 0 (nI 11), sh b)) (h12 : ∀ d s n : Nat, d < 100 → s < 4 → n < 41 → x = nI d → y = nI s → w = nI n → d + n ≤ 100 → σ 188 s = nI 2 → kf σ s z < n → K (-1) (up2 (gaV σ s z.toNatClampNeg d (kf σ s z)) 139 0 (nI 12), sh b)) (h2 : ∀ d s n : Nat, d < 100 → s < 4 → n < 41 → x = nI d → y = nI s → w = nI n → d + n ≤ 100 → σ 188 s = nI 2 → n ≤ kf σ s z → K (nI (cnt (told (gaV σ s z.toNatClampNeg d n)) 100)) (up2 (gaV σ s z.toNatClampNeg d n) 139 0 0, sh b)) : CM G mX12_gauges (rl 3) [.ref 139, .int x, .int y, .int z, .int w] (σ, sh b) (QI K) := by
  obtain ⟨⟨⟨hq2, hn10, hnb, hnl, hnt, hnr⟩, ⟨vq, vns, vnb, vnl, vnt, vnr⟩, ⟨rq, rns, rnb, rnl, rnt, rnr⟩, hpd⟩, hH, hC, hS, hLD, hB, hA, hT, hU⟩ := id hR
  refine CM.of (by decide) (Nat.le_of_ble_eq_true rfl) (cats1 rfl) ?_
  refine V_iload_n (pc := 0) d_X12_gauges_0 rfl ?_
  refine V_csI (pc := 1) (n := 2) [_] d_X12_gauges_1 c_X12_194 k_X12_isDay rfl (Nat.le_of_ble_eq_true rfl) ⟨Nat.le_of_ble_eq_true rfl, Nat.le_of_ble_eq_true rfl⟩ ⟨Nat.le_refl _, Nat.le_refl _⟩ (ct_X12_isDay ?_)
  refine V_if_eq (pc := 4) 36 d_X12_gauges_4 (by decide) (fun c4 => ?_) (fun c4 => ?_)
  · replace c4 := zf c4
    refine V_aload_n (pc := 36) d_X12_gauges_36 rfl ?_
    refine V_iconst (pc := 37) (1) d_X12_gauges_37 (by decide) ?_
    refine V_cvI (pc := 38) (n := 1) (c := 12) [_] d_X12_gauges_38 c_X12_187 k_X12_refused ⟨rfl, rfl⟩ (tt_139 b) rfl (Nat.le_of_ble_eq_true rfl) ⟨Nat.le_of_ble_eq_true rfl, Nat.le_of_ble_eq_true rfl⟩ ⟨Nat.le_refl _, Nat.le_refl _⟩ (ct_X12_refused ?_)
    exact V_retI (pc := 41) d_X12_gauges_41 rfl ⟨Nat.le_refl _, Nat.le_refl _⟩ (h1 (by
            rintro ⟨d, s, n, g1, g2, g3, g4, g5, g6, g7⟩
            try subst g4
            try subst g5
            try subst g6
            simp (disch := omega) only [nI_toInt, nI_eq] at *
            omega))
  · replace c4 := zt c4
    refine V_iload_n (pc := 7) d_X12_gauges_7 rfl ?_
    refine V_iconst (pc := 8) (0) d_X12_gauges_8 (by decide) ?_
    refine V_iconst (pc := 9) (nI 3) d_X12_gauges_9 (by decide) ?_
    refine V_csI (pc := 10) (n := 1) [_, _, _] d_X12_gauges_10 c_X12_174 k_X12_in rfl (Nat.le_of_ble_eq_true rfl) ⟨Nat.le_of_ble_eq_true rfl, Nat.le_of_ble_eq_true rfl⟩ ⟨Nat.le_refl _, Nat.le_refl _⟩ (ct_X12_in (lo := 0) (hi := 3) (by decide) (by decide) ?_)
    refine V_if_eq (pc := 13) 36 d_X12_gauges_13 (by decide) (fun c13 => ?_) (fun c13 => ?_)
    · replace c13 := zf c13
      refine V_aload_n (pc := 36) d_X12_gauges_36 rfl ?_
      refine V_iconst (pc := 37) (1) d_X12_gauges_37 (by decide) ?_
      refine V_cvI (pc := 38) (n := 1) (c := 12) [_] d_X12_gauges_38 c_X12_187 k_X12_refused ⟨rfl, rfl⟩ (tt_139 b) rfl (Nat.le_of_ble_eq_true rfl) ⟨Nat.le_of_ble_eq_true rfl, Nat.le_of_ble_eq_true rfl⟩ ⟨Nat.le_refl _, Nat.le_refl _⟩ (ct_X12_refused ?_)
      exact V_retI (pc := 41) d_X12_gauges_41 rfl ⟨Nat.le_refl _, Nat.le_refl _⟩ (h1 (by
            rintro ⟨d, s, n, g1, g2, g3, g4, g5, g6, g7⟩
            try subst g4
            try subst g5
            try subst g6
            simp (disch := omega) only [nI_toInt, nI_eq] at *
            omega))
    · replace c13 := zt c13
      refine V_iload (pc := 16) d_X12_gauges_16 rfl ?_
      refine V_iconst (pc := 18) (0) d_X12_gauges_18 (by decide) ?_
      refine V_bipush (pc := 19) (nI 40) d_X12_gauges_19 (by decide) ?_
      refine V_csI (pc := 21) (n := 1) [_, _, _] d_X12_gauges_21 c_X12_174 k_X12_in rfl (Nat.le_of_ble_eq_true rfl) ⟨Nat.le_of_ble_eq_true rfl, Nat.le_of_ble_eq_true rfl⟩ ⟨Nat.le_refl _, Nat.le_refl _⟩ (ct_X12_in (lo := 0) (hi := 40) (by decide) (by decide) ?_)
      refine V_if_eq (pc := 24) 36 d_X12_gauges_24 (by decide) (fun c24 => ?_) (fun c24 => ?_)
      · replace c24 := zf c24
        refine V_aload_n (pc := 36) d_X12_gauges_36 rfl ?_
        refine V_iconst (pc := 37) (1) d_X12_gauges_37 (by decide) ?_
        refine V_cvI (pc := 38) (n := 1) (c := 12) [_] d_X12_gauges_38 c_X12_187 k_X12_refused ⟨rfl, rfl⟩ (tt_139 b) rfl (Nat.le_of_ble_eq_true rfl) ⟨Nat.le_of_ble_eq_true rfl, Nat.le_of_ble_eq_true rfl⟩ ⟨Nat.le_refl _, Nat.le_refl _⟩ (ct_X12_refused ?_)
        exact V_retI (pc := 41) d_X12_gauges_41 rfl ⟨Nat.le_refl _, Nat.le_refl _⟩ (h1 (by
            rintro ⟨d, s, n, g1, g2, g3, g4, g5, g6, g7⟩
            try subst g4
            try subst g5
            try subst g6
            simp (disch := omega) only [nI_toInt, nI_eq] at *
            omega))
      · replace c24 := zt c24
        obtain ⟨d, hd, rfl, -⟩ := nat_of (n := 100) (x := x) (by omega) (by omega) (by omega)
        obtain ⟨s, hs, rfl, -⟩ := nat_of (n := 4) (x := y) (by omega) (by omega) (by omega)
        obtain ⟨n, hn, rfl, -⟩ := nat_of (n := 41) (x := w) (by omega) (by omega) (by omega)
        simp (disch := omega) only [nI_toInt] at c4 c13 c24
        obtain ⟨N, hN, en⟩ := hQ s hs
        refine V_iload_n (pc := 27) d_X12_gauges_27 rfl ?_
        refine V_iload (pc := 28) d_X12_gauges_28 rfl ?_
        refine V_iadd (pc := 30) d_X12_gauges_30 ?_
        rw [nI_add]
        refine V_bipush (pc := 31) (nI 100) d_X12_gauges_31 (by decide) ?_
        refine B_icmp_le (pc := 33) 42 d_X12_gauges_33 (by decide) (fun c33 => ?_) (fun c33 => ?_)
        · simp (disch := omega) only [show (nI 100).toInt = 100 from by decide, nI_toInt, ti0, ti1, tim1, tim20, tim1000] at c33
          refine V_aload_n (pc := 42) d_X12_gauges_42 rfl ?_
          refine P_getR (pc := 43) d_X12_gauges_43 f_X12_155 (tt_139 b) (rr_139_60 b) ?_
          refine V_iload_n (pc := 46) d_X12_gauges_46 rfl ?_
          refine P_iald (pc := 47) (s) d_X12_gauges_47 (tt_188 b) rfl (ln_of (ll_188 b) ⟨by omega, by decide⟩) ?_
          refine V_iconst (pc := 48) (-1) d_X12_gauges_48 (by decide) ?_
          refine V_icmp_ne (pc := 49) 59 d_X12_gauges_49 (by decide) (fun c49 => ?_) (fun c49 => ?_)
          · refine V_aload_n (pc := 59) d_X12_gauges_59 rfl ?_
            refine P_getR (pc := 60) d_X12_gauges_60 f_X12_155 (tt_139 b) (rr_139_60 b) ?_
            refine V_iload_n (pc := 63) d_X12_gauges_63 rfl ?_
            refine P_iald (pc := 64) (s) d_X12_gauges_64 (tt_188 b) rfl (ln_of (ll_188 b) ⟨by omega, by decide⟩) ?_
            refine V_iconst (pc := 65) (nI 2) d_X12_gauges_65 (by decide) ?_
            refine V_icmp_eq (pc := 66) 76 d_X12_gauges_66 (by decide) (fun c66 => ?_) (fun c66 => ?_)
            · refine V_iconst (pc := 76) (0) d_X12_gauges_76 (by decide) ?_
              refine V_istore (pc := 77) d_X12_gauges_77 (by decide) ?_
              by_cases hz : 0 ≤ z.toInt ∧ z.toInt ≤ (N : Int) - 1
              · obtain ⟨e, he, rfl, -⟩ := nat_of (n := N) (x := z) (by omega) (by omega) (by omega)
                have ek : kf σ s (nI e) = N - e := by
                  rw [kf, en, nI_toInt (n := N) (by omega), if_pos hz, nI_clamp (by omega), nI_clamp (by omega)]
                have g12 := h12 d s n hd hs hn rfl rfl rfl (by omega) c66
                have g2 := h2 d s n hd hs hn rfl rfl rfl (by omega) c66
                rw [ek, nI_clamp (by omega)] at g12 g2
                by_cases hk : n ≤ N - e
                · refine lp_gaM (F := FM G (rl 3) (QI K)) (m := n) hs (by omega) hN en (Nat.le_refl _) (by omega) (fun p t => ?_) n (Nat.le_refl _) 0 (by omega) _ _
                  refine V_iload (pc := 79) d_X12_gauges_79 rfl ?_
                  refine V_iload (pc := 81) d_X12_gauges_81 rfl ?_
                  refine B_icmp_ge (pc := 83) 181 d_X12_gauges_83 (by decide) (fun c83 => ?_) (fun c83 => ?_)
                  · simp (disch := omega) only [nI_toInt, ti0, ti1, tim1, tim20, tim1000] at c83
                    refine V_aload_n (pc := 181) d_X12_gauges_181 rfl ?_
                    refine V_aload_n (pc := 182) d_X12_gauges_182 rfl ?_
                    refine V_cvI (pc := 183) (n := 1) (c := 12) [] d_X12_gauges_183 c_X12_198 k_X12_told ⟨rfl, rfl⟩ (tt_139 b) rfl (Nat.le_of_ble_eq_true rfl) ⟨Nat.le_of_ble_eq_true rfl, Nat.le_of_ble_eq_true rfl⟩ ⟨Nat.le_refl _, Nat.le_refl _⟩ (ct_X12_told (gaV_01 (told_01 hH) _) ?_)
                    refine V_cvI (pc := 186) (n := 1) (c := 12) [_] d_X12_gauges_186 c_X12_191 k_X12_done ⟨rfl, rfl⟩ (tt_139 b) rfl (Nat.le_of_ble_eq_true rfl) ⟨Nat.le_of_ble_eq_true rfl, Nat.le_of_ble_eq_true rfl⟩ ⟨Nat.le_refl _, Nat.le_refl _⟩ (ct_X12_done ?_)
                    exact V_retI (pc := 189) d_X12_gauges_189 rfl ⟨Nat.le_refl _, Nat.le_refl _⟩ (g2 hk)
                  · simp (disch := omega) only [nI_toInt, ti0, ti1, tim1, tim20, tim1000] at c83
                    all_goals omega
                · refine lp_gaM (F := FM G (rl 3) (QI K)) (m := N - e) hs (by omega) hN en (by omega) (by omega) (fun p t => ?_) (N - e) (Nat.le_refl _) 0 (by omega) _ _
                  refine V_iload (pc := 79) d_X12_gauges_79 rfl ?_
                  refine V_iload (pc := 81) d_X12_gauges_81 rfl ?_
                  refine B_icmp_ge (pc := 83) 181 d_X12_gauges_83 (by decide) (fun c83 => ?_) (fun c83 => ?_)
                  · simp (disch := omega) only [nI_toInt, ti0, ti1, tim1, tim20, tim1000] at c83
                    all_goals omega
                  · simp (disch := omega) only [nI_toInt, ti0, ti1, tim1, tim20, tim1000] at c83
                    refine V_iload_n (pc := 86) d_X12_gauges_86 rfl ?_
                    refine B_if_lt (pc := 87) 103 d_X12_gauges_87 (by decide) (fun c87 => ?_) (fun c87 => ?_)
                    · simp (disch := omega) only [nI_toInt, ti0, ti1, tim1, tim20, tim1000] at c87
                      all_goals omega
                    · simp (disch := omega) only [nI_toInt, ti0, ti1, tim1, tim20, tim1000] at c87
                      refine V_iload_n (pc := 90) d_X12_gauges_90 rfl ?_
                      refine V_aload_n (pc := 91) d_X12_gauges_91 rfl ?_
                      refine P_getR (pc := 92) d_X12_gauges_92 f_X12_158 (tt_139 b) (rr_139_61 b) ?_
                      refine V_iload_n (pc := 95) d_X12_gauges_95 rfl ?_
                      refine P_iald (pc := 96) (s) d_X12_gauges_96 (tt_189 b) rfl (ln_of (ll_189 b) ⟨by omega, by decide⟩) ?_
                      rw [gaV_o (by omega), en]
                      refine V_iload (pc := 97) d_X12_gauges_97 rfl ?_
                      refine V_isub (pc := 99) d_X12_gauges_99 ?_
                      rw [pk_sub (by omega)]
                      refine B_icmp_lt (pc := 100) 110 d_X12_gauges_100 (by decide) (fun c100 => ?_) (fun c100 => ?_)
                      · simp (disch := omega) only [nI_toInt, ti0, ti1, tim1, tim20, tim1000] at c100
                        all_goals omega
                      · simp (disch := omega) only [nI_toInt, ti0, ti1, tim1, tim20, tim1000] at c100
                        refine V_aload_n (pc := 103) d_X12_gauges_103 rfl ?_
                        refine V_bipush (pc := 104) (nI 12) d_X12_gauges_104 (by decide) ?_
                        refine V_cvI (pc := 106) (n := 1) (c := 12) [_] d_X12_gauges_106 c_X12_187 k_X12_refused ⟨rfl, rfl⟩ (tt_139 b) rfl (Nat.le_of_ble_eq_true rfl) ⟨Nat.le_of_ble_eq_true rfl, Nat.le_of_ble_eq_true rfl⟩ ⟨Nat.le_refl _, Nat.le_refl _⟩ (ct_X12_refused ?_)
                        exact V_retI (pc := 109) d_X12_gauges_109 rfl ⟨Nat.le_refl _, Nat.le_refl _⟩ (g12 (by omega))
              · have ek : kf σ s z = 0 := by
                  rw [kf, en, nI_toInt (n := N) (by omega), if_neg hz]
                have g12 := h12 d s n hd hs hn rfl rfl rfl (by omega) c66
                have g2 := h2 d s n hd hs hn rfl rfl rfl (by omega) c66
                rw [ek] at g12 g2
                by_cases hk : n = 0
                · subst hk
                  refine V_iload (pc := 79) d_X12_gauges_79 rfl ?_
                  refine V_iload (pc := 81) d_X12_gauges_81 rfl ?_
                  refine B_icmp_ge (pc := 83) 181 d_X12_gauges_83 (by decide) (fun c83 => ?_) (fun c83 => ?_)
                  · simp (disch := omega) only [nI_toInt, ti0, ti1, tim1, tim20, tim1000] at c83
                    refine V_aload_n (pc := 181) d_X12_gauges_181 rfl ?_
                    refine V_aload_n (pc := 182) d_X12_gauges_182 rfl ?_
                    refine V_cvI (pc := 183) (n := 1) (c := 12) [] d_X12_gauges_183 c_X12_198 k_X12_told ⟨rfl, rfl⟩ (tt_139 b) rfl (Nat.le_of_ble_eq_true rfl) ⟨Nat.le_of_ble_eq_true rfl, Nat.le_of_ble_eq_true rfl⟩ ⟨Nat.le_refl _, Nat.le_refl _⟩ (ct_X12_told (told_01 hH) ?_)
                    refine V_cvI (pc := 186) (n := 1) (c := 12) [_] d_X12_gauges_186 c_X12_191 k_X12_done ⟨rfl, rfl⟩ (tt_139 b) rfl (Nat.le_of_ble_eq_true rfl) ⟨Nat.le_of_ble_eq_true rfl, Nat.le_of_ble_eq_true rfl⟩ ⟨Nat.le_refl _, Nat.le_refl _⟩ (ct_X12_done ?_)
                    exact V_retI (pc := 189) d_X12_gauges_189 rfl ⟨Nat.le_refl _, Nat.le_refl _⟩ (g2 (Nat.le_refl _))
                  · simp (disch := omega) only [nI_toInt, ti0, ti1, tim1, tim20, tim1000] at c83
                    all_goals omega
                · refine V_iload (pc := 79) d_X12_gauges_79 rfl ?_
                  refine V_iload (pc := 81) d_X12_gauges_81 rfl ?_
                  refine B_icmp_ge (pc := 83) 181 d_X12_gauges_83 (by decide) (fun c83 => ?_) (fun c83 => ?_)
                  · simp (disch := omega) only [nI_toInt, ti0, ti1, tim1, tim20, tim1000] at c83
                    all_goals omega
                  · simp (disch := omega) only [nI_toInt, ti0, ti1, tim1, tim20, tim1000] at c83
                    refine V_iload_n (pc := 86) d_X12_gauges_86 rfl ?_
                    refine B_if_lt (pc := 87) 103 d_X12_gauges_87 (by decide) (fun c87 => ?_) (fun c87 => ?_)
                    · refine V_aload_n (pc := 103) d_X12_gauges_103 rfl ?_
                      refine V_bipush (pc := 104) (nI 12) d_X12_gauges_104 (by decide) ?_
                      refine V_cvI (pc := 106) (n := 1) (c := 12) [_] d_X12_gauges_106 c_X12_187 k_X12_refused ⟨rfl, rfl⟩ (tt_139 b) rfl (Nat.le_of_ble_eq_true rfl) ⟨Nat.le_of_ble_eq_true rfl, Nat.le_of_ble_eq_true rfl⟩ ⟨Nat.le_refl _, Nat.le_refl _⟩ (ct_X12_refused ?_)
                      exact V_retI (pc := 109) d_X12_gauges_109 rfl ⟨Nat.le_refl _, Nat.le_refl _⟩ (g12 (by omega))
                    · refine V_iload_n (pc := 90) d_X12_gauges_90 rfl ?_
                      refine V_aload_n (pc := 91) d_X12_gauges_91 rfl ?_
                      refine P_getR (pc := 92) d_X12_gauges_92 f_X12_158 (tt_139 b) (rr_139_61 b) ?_
                      refine V_iload_n (pc := 95) d_X12_gauges_95 rfl ?_
                      refine P_iald (pc := 96) (s) d_X12_gauges_96 (tt_189 b) rfl (ln_of (ll_189 b) ⟨by omega, by decide⟩) ?_
                      rw [en]
                      refine V_iload (pc := 97) d_X12_gauges_97 rfl ?_
                      refine V_isub (pc := 99) d_X12_gauges_99 ?_
                      rw [Int32.sub_zero]
                      refine B_icmp_lt (pc := 100) 110 d_X12_gauges_100 (by decide) (fun c100 => ?_) (fun c100 => ?_)
                      · simp (disch := omega) only [nI_toInt, ti0, ti1, tim1, tim20, tim1000] at c100
                        exfalso
                        exact hz ⟨by omega, by omega⟩
                      · simp (disch := omega) only [nI_toInt, ti0, ti1, tim1, tim20, tim1000] at c100
                        refine V_aload_n (pc := 103) d_X12_gauges_103 rfl ?_
                        refine V_bipush (pc := 104) (nI 12) d_X12_gauges_104 (by decide) ?_
                        refine V_cvI (pc := 106) (n := 1) (c := 12) [_] d_X12_gauges_106 c_X12_187 k_X12_refused ⟨rfl, rfl⟩ (tt_139 b) rfl (Nat.le_of_ble_eq_true rfl) ⟨Nat.le_of_ble_eq_true rfl, Nat.le_of_ble_eq_true rfl⟩ ⟨Nat.le_refl _, Nat.le_refl _⟩ (ct_X12_refused ?_)
                        exact V_retI (pc := 109) d_X12_gauges_109 rfl ⟨Nat.le_refl _, Nat.le_refl _⟩ (g12 (by omega))
            · refine V_aload_n (pc := 69) d_X12_gauges_69 rfl ?_
              refine V_bipush (pc := 70) (nI 11) d_X12_gauges_70 (by decide) ?_
              refine V_cvI (pc := 72) (n := 1) (c := 12) [_] d_X12_gauges_72 c_X12_187 k_X12_refused ⟨rfl, rfl⟩ (tt_139 b) rfl (Nat.le_of_ble_eq_true rfl) ⟨Nat.le_of_ble_eq_true rfl, Nat.le_of_ble_eq_true rfl⟩ ⟨Nat.le_refl _, Nat.le_refl _⟩ (ct_X12_refused ?_)
              exact V_retI (pc := 75) d_X12_gauges_75 rfl ⟨Nat.le_refl _, Nat.le_refl _⟩ (h11 d s n hd hs hn rfl rfl rfl (by omega) c49 c66)
          · refine V_aload_n (pc := 52) d_X12_gauges_52 rfl ?_
            refine V_bipush (pc := 53) (nI 10) d_X12_gauges_53 (by decide) ?_
            refine V_cvI (pc := 55) (n := 1) (c := 12) [_] d_X12_gauges_55 c_X12_187 k_X12_refused ⟨rfl, rfl⟩ (tt_139 b) rfl (Nat.le_of_ble_eq_true rfl) ⟨Nat.le_of_ble_eq_true rfl, Nat.le_of_ble_eq_true rfl⟩ ⟨Nat.le_refl _, Nat.le_refl _⟩ (ct_X12_refused ?_)
            exact V_retI (pc := 58) d_X12_gauges_58 rfl ⟨Nat.le_refl _, Nat.le_refl _⟩ (h10 d s n hd hs hn rfl rfl rfl (by omega) c49)
        · simp (disch := omega) only [show (nI 100).toInt = 100 from by decide, nI_toInt, ti0, ti1, tim1, tim20, tim1000] at c33
          refine V_aload_n (pc := 36) d_X12_gauges_36 rfl ?_
          refine V_iconst (pc := 37) (1) d_X12_gauges_37 (by decide) ?_
          refine V_cvI (pc := 38) (n := 1) (c := 12) [_] d_X12_gauges_38 c_X12_187 k_X12_refused ⟨rfl, rfl⟩ (tt_139 b) rfl (Nat.le_of_ble_eq_true rfl) ⟨Nat.le_of_ble_eq_true rfl, Nat.le_of_ble_eq_true rfl⟩ ⟨Nat.le_refl _, Nat.le_refl _⟩ (ct_X12_refused ?_)
          exact V_retI (pc := 41) d_X12_gauges_41 rfl ⟨Nat.le_refl _, Nat.le_refl _⟩ (h1 (by
            rintro ⟨d, s, n, g1, g2, g3, g4, g5, g6, g7⟩
            try subst g4
            try subst g5
            try subst g6
            simp (disch := omega) only [nI_toInt, nI_eq] at *
            omega))
theorem rel_ga {q ns nb nl nt nr s e d k : Nat} {v : Int32} {τ : Sg} (hR : RR σ 4 σ q ns nb nl nt nr) (hX : cX σ) (hP : cP σ) (hQ : cQ σ) (hK : cK σ b ns nb nl nt nr) (hH2 : cH τ 4 (gaV σ s e d k)) (hF : FH σ τ) : Rel (up2 (gaV (up2 τ 3 3 v) s e d k) 139 0 v) b := by
  obtain ⟨hcn, hH, hC, hS, hLD, hB, hA, hT, hU⟩ := id hR
  have hbd := hcn.1
  have ag : ∀ a i, 139 ≤ a → a < 192 → up2 τ 3 3 v a i = σ a i := fun a i h1 h2 => by rw [up2_n (by omega)]; exact hF a i (by omega)
  have f0 : ∀ a i, ¬ ((a = 4 ∧ i = 6) ∨ a = 5) → ¬ (a = 146 ∨ a = 147) → ¬ (a = 3 ∧ i = 3) → ¬ (a = 139 ∧ i = 0) → up2 (gaV (up2 τ 3 3 v) s e d k) 139 0 v a i = σ a i := fun a i h1 h2 h3 h4 => by
    rw [up2_n (by omega), gaV_o (by omega), up2_n (by omega)]; exact hF a i h1
  have f1 : ∀ a i, 146 ≤ a → a ≤ 147 → up2 (gaV (up2 τ 3 3 v) s e d k) 139 0 v a i = gaV σ s e d k a i := fun a i h1 h2 => by
    rw [up2_n (by omega)]; exact gaV_ag ag k a i (by omega) (by omega)
  have f2 : ∀ a i, (a = 4 ∧ i = 6) ∨ a = 5 → up2 (gaV (up2 τ 3 3 v) s e d k) 139 0 v a i = τ a i := fun a i h1 => by
    rw [up2_n (by omega), gaV_o (by omega), up2_n (by omega)]
  refine ⟨q, ns, nb, nl, nt, nr, ⟨cCnt_cg hcn (fun i _ _ => f0 _ _ (by omega) (by omega) (by omega) (by omega)) (fun i _ => f0 _ _ (by omega) (by omega) (by omega) (by omega)), cH_cg hH2 (f2 _ _ (by omega)) (fun e _ => f2 _ _ (by omega)) (fun e _ => ⟨f1 _ _ (by omega) (by omega), f1 _ _ (by omega) (by omega)⟩), cC_cg hC (fun d _ => (f0 _ _ (by omega) (by omega) (by omega) (by omega))) (fun d _ => (f0 _ _ (by omega) (by omega) (by omega) (by omega))),
    cS_cg hS (fun k _ => ⟨fun j => (f0 _ _ (by omega) (by omega) (by omega) (by omega)), fun d _ => (f0 _ _ (by omega) (by omega) (by omega) (by omega))⟩) (fun k _ => ⟨(f0 _ _ (by omega) (by omega) (by omega) (by omega)), (f0 _ _ (by omega) (by omega) (by omega) (by omega)), (f0 _ _ (by omega) (by omega) (by omega) (by omega)), (f0 _ _ (by omega) (by omega) (by omega) (by omega))⟩) (fun i _ => ⟨(f0 _ _ (by omega) (by omega) (by omega) (by omega)), (f0 _ _ (by omega) (by omega) (by omega) (by omega))⟩), cL_cg hLD (fun l _ => ⟨(f0 _ _ (by omega) (by omega) (by omega) (by omega)), fun k _ => ⟨(f0 _ _ (by omega) (by omega) (by omega) (by omega)), (f0 _ _ (by omega) (by omega) (by omega) (by omega))⟩⟩) (fun l _ => (f0 _ _ (by omega) (by omega) (by omega) (by omega))) (fun m _ _ => ⟨(f0 _ _ (by omega) (by omega) (by omega) (by omega)), (f0 _ _ (by omega) (by omega) (by omega) (by omega))⟩), cB_cg hB (fun i _ => ⟨fun j => (f0 _ _ (by omega) (by omega) (by omega) (by omega)), fun k _ => ⟨(f0 _ _ (by omega) (by omega) (by omega) (by omega)), (f0 _ _ (by omega) (by omega) (by omega) (by omega))⟩⟩) (fun i _ a _ _ => (f0 _ _ (by omega) (by omega) (by omega) (by omega))) (fun m _ => ⟨(f0 _ _ (by omega) (by omega) (by omega) (by omega)), (f0 _ _ (by omega) (by omega) (by omega) (by omega))⟩) (fun j _ => ⟨(f0 _ _ (by omega) (by omega) (by omega) (by omega)), (f0 _ _ (by omega) (by omega) (by omega) (by omega)), (f0 _ _ (by omega) (by omega) (by omega) (by omega))⟩), cA_cg hA (fun j _ i => (f0 _ _ (by omega) (by omega) (by omega) (by omega))) (fun j _ a _ _ => (f0 _ _ (by omega) (by omega) (by omega) (by omega))), cT_cg hT (fun j _ i => (f0 _ _ (by omega) (by omega) (by omega) (by omega))) (fun j _ a _ _ => (f0 _ _ (by omega) (by omega) (by omega) (by omega))), cU_cg hU (fun j _ i => (f0 _ _ (by omega) (by omega) (by omega) (by omega))) (fun j _ a _ _ => (f0 _ _ (by omega) (by omega) (by omega) (by omega)))⟩,
    cX_cg hX (by rw [up2_y, up2_n (by omega), gaV_o (by omega), up2_y]) ⟨(f0 _ _ (by omega) (by omega) (by omega) (by omega)), (f0 _ _ (by omega) (by omega) (by omega) (by omega))⟩, cP_cg hP ⟨(f0 _ _ (by omega) (by omega) (by omega) (by omega)), (f0 _ _ (by omega) (by omega) (by omega) (by omega))⟩ (fun j _ => ⟨(f0 _ _ (by omega) (by omega) (by omega) (by omega)), (f0 _ _ (by omega) (by omega) (by omega) (by omega))⟩), cQ_cg hQ (fun a i _ => (f0 _ _ (by omega) (by omega) (by omega) (by omega))), cK_cg hK (f0 _ _ (by omega) (by omega) (by omega) (by omega)) (fun a i _ => (f0 _ _ (by omega) (by omega) (by omega) (by omega))) (fun a i _ => (f0 _ _ (by omega) (by omega) (by omega) (by omega))) (by omega) (by omega) (by omega) (by omega) (by omega)⟩
theorem pr_gauges {x y z w : Int32} (h : Rel σ b) : PR G mX11_gauges mX12_gauges 3 3 [.int x, .int y, .int z, .int w] σ b := by
  have h0 := h
  obtain ⟨q, ns, nb, nl, nt, nr, hR, hX, hP, hQ, hK⟩ := h
  have hbd := hR.1.1
  have LO : ∀ v, RR σ 4 (up2 σ 3 3 v) q ns nb nl nt nr := fun v => RR_lo hR (fun a i _ _ => by simp (disch := omega) only [up2_n])
  have LQ : ∀ v s, s < 4 → ∃ n, n ≤ 40 ∧ up2 σ 3 3 v 189 s = nI n := fun v s hs => by rw [up2_n (by omega)]; exact (hQ s hs).2.2.2.1
  have LO2 : ∀ τ v, FH σ τ → RR σ 4 (up2 τ 3 3 v) q ns nb nl nt nr := fun τ v hF => RR_lo hR (fun a i _ _ => by rw [up2_n (by omega)]; exact hF a i (by omega))
  have LQ2 : ∀ τ v, FH σ τ → ∀ s, s < 4 → ∃ n, n ≤ 40 ∧ up2 τ 3 3 v 189 s = nI n := fun τ v hF s hs => by rw [up2_n (by omega), hF _ _ (by omega)]; exact (hQ s hs).2.2.2.1
  have K0 : ∀ v s z, kf (up2 σ 3 3 v) s z = kf σ s z := fun v s z => by rw [kf, kf, up2_n (by omega)]
  have K2 : ∀ τ v s z, FH σ τ → kf (up2 τ 3 3 v) s z = kf σ s z := fun τ v s z hF => by rw [kf, kf, up2_n (by omega), hF _ _ (by omega)]
  have A2 : ∀ τ v, FH σ τ → ∀ a i, 139 ≤ a → a < 192 → up2 τ 3 3 v a i = σ a i := fun τ v hF a i h1 h2 => by rw [up2_n (by omega)]; exact hF a i (by omega)
  refine ct_X11_gauges hR hQ (fun hv => ?_) (fun d s n hd hs hn ed es en hdn v1 => ?_) (fun d s n hd hs hn ed es en hdn v1 v2 => ?_) (fun d s n hd hs hn ed es en hdn v2 vk τ hH2 hF => ?_) (fun d s n hd hs hn ed es en hdn v2 vk τ hH2 hF => ?_)
  · exact ⟨rfl, ct_X12_gauges (LO 1) (LQ 1) (fun _ => ⟨rfl, _, rfl, rel_ref h0⟩) (fun d s n hd hs hn ed es en hdn _ => absurd ⟨d, s, n, hd, hs, hn, ed, es, en, hdn⟩ hv) (fun d s n hd hs hn ed es en hdn _ _ => absurd ⟨d, s, n, hd, hs, hn, ed, es, en, hdn⟩ hv) (fun d s n hd hs hn ed es en hdn _ _ => absurd ⟨d, s, n, hd, hs, hn, ed, es, en, hdn⟩ hv) (fun d s n hd hs hn ed es en hdn _ _ => absurd ⟨d, s, n, hd, hs, hn, ed, es, en, hdn⟩ hv)⟩
  · refine ⟨rfl, ct_X12_gauges (LO (nI 10)) (LQ (nI 10)) (fun hv => absurd ⟨d, s, n, hd, hs, hn, ed, es, en, hdn⟩ hv) (fun d' s' n' hd' hs' hn' ed' es' en' hdn' w1 => ?_) (fun d' s' n' hd' hs' hn' ed' es' en' hdn' w1 w2 => ?_) (fun d' s' n' hd' hs' hn' ed' es' en' hdn' w2 wk => ?_) (fun d' s' n' hd' hs' hn' ed' es' en' hdn' w2 wk => ?_)⟩
    · obtain rfl : d' = d := (nI_eq (by omega) (by omega)).mp (ed'.symm.trans ed)
      obtain rfl : s' = s := (nI_eq (by omega) (by omega)).mp (es'.symm.trans es)
      obtain rfl : n' = n := (nI_eq (by omega) (by omega)).mp (en'.symm.trans en)
      exact ⟨rfl, _, rfl, rel_ref h0⟩
    · obtain rfl : d' = d := (nI_eq (by omega) (by omega)).mp (ed'.symm.trans ed)
      obtain rfl : s' = s := (nI_eq (by omega) (by omega)).mp (es'.symm.trans es)
      obtain rfl : n' = n := (nI_eq (by omega) (by omega)).mp (en'.symm.trans en)
      rw [up2_n (by omega)] at w1
      exact absurd v1 w1
    · obtain rfl : d' = d := (nI_eq (by omega) (by omega)).mp (ed'.symm.trans ed)
      obtain rfl : s' = s := (nI_eq (by omega) (by omega)).mp (es'.symm.trans es)
      obtain rfl : n' = n := (nI_eq (by omega) (by omega)).mp (en'.symm.trans en)
      rw [up2_n (by omega)] at w2
      rw [v1] at w2; exact absurd w2 (by decide)
    · obtain rfl : d' = d := (nI_eq (by omega) (by omega)).mp (ed'.symm.trans ed)
      obtain rfl : s' = s := (nI_eq (by omega) (by omega)).mp (es'.symm.trans es)
      obtain rfl : n' = n := (nI_eq (by omega) (by omega)).mp (en'.symm.trans en)
      rw [up2_n (by omega)] at w2
      rw [v1] at w2; exact absurd w2 (by decide)
  · refine ⟨rfl, ct_X12_gauges (LO (nI 11)) (LQ (nI 11)) (fun hv => absurd ⟨d, s, n, hd, hs, hn, ed, es, en, hdn⟩ hv) (fun d' s' n' hd' hs' hn' ed' es' en' hdn' w1 => ?_) (fun d' s' n' hd' hs' hn' ed' es' en' hdn' w1 w2 => ?_) (fun d' s' n' hd' hs' hn' ed' es' en' hdn' w2 wk => ?_) (fun d' s' n' hd' hs' hn' ed' es' en' hdn' w2 wk => ?_)⟩
    · obtain rfl : d' = d := (nI_eq (by omega) (by omega)).mp (ed'.symm.trans ed)
      obtain rfl : s' = s := (nI_eq (by omega) (by omega)).mp (es'.symm.trans es)
      obtain rfl : n' = n := (nI_eq (by omega) (by omega)).mp (en'.symm.trans en)
      rw [up2_n (by omega)] at w1
      exact absurd w1 v1
    · obtain rfl : d' = d := (nI_eq (by omega) (by omega)).mp (ed'.symm.trans ed)
      obtain rfl : s' = s := (nI_eq (by omega) (by omega)).mp (es'.symm.trans es)
      obtain rfl : n' = n := (nI_eq (by omega) (by omega)).mp (en'.symm.trans en)
      exact ⟨rfl, _, rfl, rel_ref h0⟩
    · obtain rfl : d' = d := (nI_eq (by omega) (by omega)).mp (ed'.symm.trans ed)
      obtain rfl : s' = s := (nI_eq (by omega) (by omega)).mp (es'.symm.trans es)
      obtain rfl : n' = n := (nI_eq (by omega) (by omega)).mp (en'.symm.trans en)
      rw [up2_n (by omega)] at w2
      exact absurd w2 v2
    · obtain rfl : d' = d := (nI_eq (by omega) (by omega)).mp (ed'.symm.trans ed)
      obtain rfl : s' = s := (nI_eq (by omega) (by omega)).mp (es'.symm.trans es)
      obtain rfl : n' = n := (nI_eq (by omega) (by omega)).mp (en'.symm.trans en)
      rw [up2_n (by omega)] at w2
      exact absurd w2 v2
  · refine ⟨rfl, ct_X12_gauges (LO2 τ (nI 12) hF) (LQ2 τ (nI 12) hF) (fun hv => absurd ⟨d, s, n, hd, hs, hn, ed, es, en, hdn⟩ hv) (fun d' s' n' hd' hs' hn' ed' es' en' hdn' w1 => ?_) (fun d' s' n' hd' hs' hn' ed' es' en' hdn' w1 w2 => ?_) (fun d' s' n' hd' hs' hn' ed' es' en' hdn' w2 wk => ?_) (fun d' s' n' hd' hs' hn' ed' es' en' hdn' w2 wk => ?_)⟩
    · obtain rfl : d' = d := (nI_eq (by omega) (by omega)).mp (ed'.symm.trans ed)
      obtain rfl : s' = s := (nI_eq (by omega) (by omega)).mp (es'.symm.trans es)
      obtain rfl : n' = n := (nI_eq (by omega) (by omega)).mp (en'.symm.trans en)
      rw [A2 _ _ hF _ _ (by omega) (by omega)] at w1
      rw [v2] at w1; exact absurd w1 (by decide)
    · obtain rfl : d' = d := (nI_eq (by omega) (by omega)).mp (ed'.symm.trans ed)
      obtain rfl : s' = s := (nI_eq (by omega) (by omega)).mp (es'.symm.trans es)
      obtain rfl : n' = n := (nI_eq (by omega) (by omega)).mp (en'.symm.trans en)
      rw [A2 _ _ hF _ _ (by omega) (by omega)] at w2
      exact absurd v2 w2
    · obtain rfl : d' = d := (nI_eq (by omega) (by omega)).mp (ed'.symm.trans ed)
      obtain rfl : s' = s := (nI_eq (by omega) (by omega)).mp (es'.symm.trans es)
      obtain rfl : n' = n := (nI_eq (by omega) (by omega)).mp (en'.symm.trans en)
      rw [K2 _ _ _ _ hF] at wk ⊢
      exact ⟨rfl, _, rfl, rel_ga hR hX hP hQ hK hH2 hF⟩
    · obtain rfl : d' = d := (nI_eq (by omega) (by omega)).mp (ed'.symm.trans ed)
      obtain rfl : s' = s := (nI_eq (by omega) (by omega)).mp (es'.symm.trans es)
      obtain rfl : n' = n := (nI_eq (by omega) (by omega)).mp (en'.symm.trans en)
      rw [K2 _ _ _ _ hF] at wk
      exfalso; omega
  · refine ⟨rfl, ct_X12_gauges (LO2 τ 0 hF) (LQ2 τ 0 hF) (fun hv => absurd ⟨d, s, n, hd, hs, hn, ed, es, en, hdn⟩ hv) (fun d' s' n' hd' hs' hn' ed' es' en' hdn' w1 => ?_) (fun d' s' n' hd' hs' hn' ed' es' en' hdn' w1 w2 => ?_) (fun d' s' n' hd' hs' hn' ed' es' en' hdn' w2 wk => ?_) (fun d' s' n' hd' hs' hn' ed' es' en' hdn' w2 wk => ?_)⟩
    · obtain rfl : d' = d := (nI_eq (by omega) (by omega)).mp (ed'.symm.trans ed)
      obtain rfl : s' = s := (nI_eq (by omega) (by omega)).mp (es'.symm.trans es)
      obtain rfl : n' = n := (nI_eq (by omega) (by omega)).mp (en'.symm.trans en)
      rw [A2 _ _ hF _ _ (by omega) (by omega)] at w1
      rw [v2] at w1; exact absurd w1 (by decide)
    · obtain rfl : d' = d := (nI_eq (by omega) (by omega)).mp (ed'.symm.trans ed)
      obtain rfl : s' = s := (nI_eq (by omega) (by omega)).mp (es'.symm.trans es)
      obtain rfl : n' = n := (nI_eq (by omega) (by omega)).mp (en'.symm.trans en)
      rw [A2 _ _ hF _ _ (by omega) (by omega)] at w2
      exact absurd v2 w2
    · obtain rfl : d' = d := (nI_eq (by omega) (by omega)).mp (ed'.symm.trans ed)
      obtain rfl : s' = s := (nI_eq (by omega) (by omega)).mp (es'.symm.trans es)
      obtain rfl : n' = n := (nI_eq (by omega) (by omega)).mp (en'.symm.trans en)
      rw [K2 _ _ _ _ hF] at wk
      exfalso; omega
    · obtain rfl : d' = d := (nI_eq (by omega) (by omega)).mp (ed'.symm.trans ed)
      obtain rfl : s' = s := (nI_eq (by omega) (by omega)).mp (es'.symm.trans es)
      obtain rfl : n' = n := (nI_eq (by omega) (by omega)).mp (en'.symm.trans en)
      refine ⟨?_, _, rfl, rel_ga hR hX hP hQ hK hH2 hF⟩
      rw [show told (gaV (up2 τ 3 3 0) s' z.toNatClampNeg d' n') = told (gaV σ s' z.toNatClampNeg d' n') from by
        funext x
        rw [told, told, gaV_ag (A2 _ _ hF) _ _ _ (by omega) (by omega)]]
end HC
