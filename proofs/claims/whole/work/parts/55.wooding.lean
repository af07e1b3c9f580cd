def WP (P N : Nat → Nat) (T L : Nat) : Prop := (∀ i, i < L → P i ≤ 99) ∧ T ≤ 99 ∧ L ≤ 10 ∧ ∀ i, i < L → N i ≤ 32
def W1 (σ τ : Sg) (P N : Nat → Nat) (T L j : Nat) : Prop := (∀ a i, ¬ (126 ≤ a ∧ a ≤ 129) → τ a i = σ a i) ∧ (τ 126 0 = nI L ∧ τ 126 1 = nI T) ∧ ∀ k, k < j → τ 127 k = nI (P k) ∧ τ 128 k = nI (N k)
def W2 (σ τ : Sg) (P N : Nat → Nat) (T L j : Nat) : Prop := W1 σ τ P N T L L ∧ ∀ c, c < j → τ 129 (100 * L + c) = 0
/-- the class's rows from step i on -/
def WC (σ τ : Sg) (P N : Nat → Nat) (T L i : Nat) : Prop := W1 σ τ P N T L L ∧ ∀ k c, i ≤ k → k ≤ L → c ≤ T → τ 129 (100 * k + c) = nI (eN (wv P N T L k c))
/-- within a step: levels from n on -/
def WS (σ τ : Sg) (P N : Nat → Nat) (T L m n : Nat) : Prop := (∀ a i, a ≠ 129 → τ a i = σ a i) ∧ (∀ k c, m + 1 ≤ k → k ≤ L → c ≤ T → τ 129 (100 * k + c) = nI (eN (wv P N T L k c))) ∧ ∀ c, n ≤ c → c ≤ T → τ 129 (100 * m + c) = nI (eN (wv P N T L m c))
theorem W1_s {σ τ : Sg} {P N : Nat → Nat} {T L j : Nat} (h : W1 σ τ P N T L j) : W1 σ (up2 (up2 τ 127 j (nI (P j))) 128 j (nI (N j))) P N T L (j + 1) := by
  obtain ⟨h1, ⟨h2, h3⟩, h4⟩ := h
  refine ⟨fun a i ha => by rw [up2_n (by omega), up2_n (by omega)]; exact h1 a i ha, ⟨by rw [up2_n (by omega), up2_n (by omega)]; exact h2, by rw [up2_n (by omega), up2_n (by omega)]; exact h3⟩, fun k hk => ?_⟩
  by_cases e : k = j
  · subst e
    exact ⟨by rw [up2_n (by omega), up2_y], up2_y⟩
  · rw [up2_n (by omega), up2_n (by omega), up2_n (by omega), up2_n (by omega)]
    exact h4 k (by omega)
theorem W2_s {σ τ : Sg} {P N : Nat → Nat} {T L j : Nat} (h : W2 σ τ P N T L j) : W2 σ (up2 τ 129 (L * 100 + j) 0) P N T L (j + 1) := by
  obtain ⟨⟨h1, ⟨h2, h3⟩, h4⟩, h5⟩ := h
  refine ⟨⟨fun a i ha => by rw [up2_n (by omega)]; exact h1 a i ha, ⟨by rw [up2_n (by omega)]; exact h2, by rw [up2_n (by omega)]; exact h3⟩, fun k hk => by rw [up2_n (by omega), up2_n (by omega)]; exact h4 k hk⟩, fun c hc => ?_⟩
  by_cases e : c = j
  · exact up2_e ⟨rfl, by omega⟩
  · rw [up2_n (by omega)]; exact h5 c (by omega)
theorem WC_L {σ τ : Sg} {P N : Nat → Nat} {T L : Nat} (h : W2 σ τ P N T L (T + 1)) : WC σ τ P N T L L := ⟨h.1, fun k c h1 h2 h3 => by
  obtain rfl : k = L := by omega
  rw [wv_L, h.2 c (by omega)]; rfl⟩
theorem WS_0 {σ τ : Sg} {P N : Nat → Nat} {T L m : Nat} (h : WC σ τ P N T L (m + 1)) : WS τ τ P N T L m (T + 1) := ⟨fun _ _ _ => rfl, h.2, fun c h1 h2 => absurd h1 (by omega)⟩
theorem WS_s {σ τ : Sg} {P N : Nat → Nat} {T L m c : Nat} (h : WS σ τ P N T L m (c + 1)) (hT : T ≤ 99) (hc : c ≤ T) : WS σ (up2 τ 129 (m * 100 + c) (nI (eN (wv P N T L m c)))) P N T L m c := by
  obtain ⟨h1, h2, h3⟩ := h
  refine ⟨fun a i ha => by rw [up2_n (by omega)]; exact h1 a i ha, fun k e g1 g2 g3 => by rw [up2_n (by omega)]; exact h2 k e g1 g2 g3, fun e g1 g2 => ?_⟩
  by_cases z : e = c
  · subst z; exact up2_e ⟨rfl, by omega⟩
  · rw [up2_n (by omega)]; exact h3 e (by omega) g2
theorem WC_s {σ τ κ : Sg} {P N : Nat → Nat} {T L m : Nat} (h : WC σ τ P N T L (m + 1)) (g : WS τ κ P N T L m 0) : WC σ κ P N T L m := by
  obtain ⟨⟨h1, ⟨h2, h3⟩, h4⟩, -⟩ := h
  obtain ⟨g1, g2, g3⟩ := g
  refine ⟨⟨fun a i ha => (g1 a i (by omega)).trans (h1 a i ha), ⟨(g1 _ _ (by decide)).trans h2, (g1 _ _ (by decide)).trans h3⟩, fun k hk => ⟨(g1 _ _ (by decide)).trans (h4 k hk).1, (g1 _ _ (by decide)).trans (h4 k hk).2⟩⟩, fun k c e1 e2 e3 => ?_⟩
  by_cases z : k = m
  · subst z; exact g3 c (by omega) e3
  · exact g2 k c (by omega) e2 e3
theorem mm_s (x : Int32) : x + Int32.ofInt (-1) = x - 1 := by rw [Int32.sub_eq_add_neg]; rfl
theorem mn_n2 {f g : Nat} (hf : f < 2 ^ 30) (hg : g < 2 ^ 30) : (if (nI g).toInt < (nI f).toInt then nI g else nI f) = nI (min f g) := by
  rw [nI_toInt (by omega), nI_toInt (by omega)]
  split
  · rw [Nat.min_eq_right (by omega)]
  · rw [Nat.min_eq_left (by omega)]
theorem nwI {v : Nat} (h : v = 1000000000 ∨ v ≤ 98010) : nI (eN v) = (1000000 : Int32) ↔ v = 1000000000 := by
  have k := eN_le h
  rw [show (1000000 : Int32) = nI 1000000 from rfl, nI_eq (by omega) (by omega), eN_eq h]
theorem nwB {v : Nat} (h : v ≤ 1000000) : nI v = (1000000 : Int32) ↔ v = 1000000 := by
  rw [show (1000000 : Int32) = nI 1000000 from rfl, nI_eq (by omega) (by omega)]
theorem abs_wL {f t : Nat} (hf : f ≤ 10) (ht : t ≤ 10) : (if 0 ≤ (nI t - nI f).toInt then nI t - nI f else -(nI t - nI f)) = nI (wL f t) := by
  rw [pk_sub_toInt (by omega) (by omega), wL]
  by_cases c : f < t
  · rw [if_pos (by omega), if_pos c, pk_sub (by omega)]
  · rw [if_neg c]
    by_cases d : f = t
    · subst d; rw [if_pos (by omega), pk_sub (Nat.le_refl _)]
    · rw [if_neg (by omega), Int32.neg_sub, pk_sub (by omega)]
theorem lof_le {f t i ns : Nat} (hi : i < wL f t) (hf : f ≤ ns) (ht : t ≤ ns) : lof f t i ≤ ns ∧ sof f t i < ns := by
  unfold wL at hi
  unfold lof sof
  split at hi
  · rw [if_pos (by omega), if_pos (by omega)]; omega
  · rw [if_neg (by omega), if_neg (by omega)]; omega
theorem wL_le {f t ns : Nat} (hf : f ≤ ns) (ht : t ≤ ns) : wL f t ≤ ns := by unfold wL; split <;> omega
theorem wP_ok {σ V : Sg} {r ns f t i : Nat} (h : cL σ r V ns) (hn : ns ≤ 10) (hi : i < wL f t) (hf : f ≤ ns) (ht : t ≤ ns) : V 159 (lof f t i) = nI (wP V f t i) ∧ wP V f t i ≤ 99 := by
  have hl := (lof_le hi hf ht).1
  obtain ⟨p, hp, e⟩ := (h (lof f t i) (by omega)).2.1
  rw [wP, e, nI_clamp (by omega)]
  exact ⟨rfl, by omega⟩
theorem wN_ok {σ V : Sg} {r ns f t d i : Nat} (h : cS σ r V ns) (hi : i < wL f t) (hf : f ≤ ns) (ht : t ≤ ns) : longS V (sof f t i) d 0 = nI (wN V f t d i) ∧ wN V f t d i ≤ 32 := by
  obtain ⟨l, hl, e⟩ := longS_nat (d := d) (n := 0) h (lof_le hi hf ht).2
  rw [wN, e, nI_clamp (by omega)]
  exact ⟨rfl, hl⟩
theorem WP_ok {σ V : Sg} {r ns f t d T : Nat} (hL : cL σ r V ns) (hS : cS σ r V ns) (hn : ns ≤ 10) (hf : f ≤ ns) (ht : t ≤ ns) (hT : T ≤ 99) : WP (wP V f t) (wN V f t d) T (wL f t) :=
  ⟨fun i hi => (wP_ok hL hn hi hf ht).2, hT, Nat.le_trans (wL_le hf ht) hn, fun i hi => (wN_ok hS hi hf ht).2⟩
theorem RR_wd {σ τ : Sg} {q ns nb nl nt nr : Nat} (h : RR σ 4 σ q ns nb nl nt nr) (hs : ∀ a i, ¬ (126 ≤ a ∧ a ≤ 129) → τ a i = σ a i) : RR τ 4 τ q ns nb nl nt nr :=
  RR_cg h (fun a i _ _ => hs a i (by omega)) (fun a i ha => hs a i (by omega))
theorem RR_mc {ρ σ τ : Sg} {q ns nb nl nt nr : Nat} (h : RR ρ 4 σ q ns nb nl nt nr) (hs : ∀ a i, ¬ ((172 ≤ a ∧ a ≤ 174) ∨ (a = 139 ∧ i = 43)) → τ a i = σ a i) : RR ρ 4 τ q ns nb nl nt nr := by
  have hb := h.1.1
  exact RR_cg h (fun _ _ _ _ => rfl) (fun a i ha => hs a i (by omega))
theorem longS_mc {σ τ : Sg} (h : ∀ a i, 140 ≤ a → a < 172 → τ a i = σ a i) {k d : Nat} {n : Int32} : longS τ k d n = longS σ k d n := by
  have ht : told τ = told σ := by
    funext d
    rw [told, told, h 147 d (by omega) (by omega)]
  have hh : heightS τ d = heightS σ d := by
    unfold heightS
    rw [ht]
    simp (disch := omega) only [h]
  unfold longS baseS
  rw [hh]
  simp (disch := omega) only [h]
theorem bR_von {P N : Nat → Nat} {T L i c : Nat} (hi : i < L) (h : wv P N T L i c < 1000000000) : von (wv P N T L (i + 1)) (N i) (c + bR P N T L i c) < 1000000000 ∧ wv P N T L i c = von (wv P N T L (i + 1)) (N i) (c + bR P N T L i c) + bR P N T L i c * P i := by
  have hz := h
  rw [wv_s hi] at hz
  obtain ⟨a, e, f⟩ := bmf_at _ hz
  rw [← wv_s hi] at f
  exact ⟨e, f⟩
theorem bR_first {P N : Nat → Nat} {T L i c n : Nat} (hi : i < L) (hn : n < bR P N T L i c) (hv : von (wv P N T L (i + 1)) (N i) (c + n) < 1000000000) : wv P N T L i c < von (wv P N T L (i + 1)) (N i) (c + n) + n * P i := by
  rw [wv_s hi]
  exact bmf_first hv _ hn
theorem adds_nI {a c d : Nat} (h : d ≤ a + c) : nI a + (nI c - nI d) = nI (a + c - d) := by rw [Int32.sub_eq_add_neg, ← Int32.add_assoc, nI_add, ← Int32.sub_eq_add_neg, pk_sub h]
section HC
variable {G : Gl} {R : Room} {F : Fn} {K : Int32 → Hp → Prop} {KV : Hp → Prop} {σ : Nat → Nat → Int32} {b : Bool}
theorem ct_X9_costOnward {P N : Nat → Nat} {T L i c : Nat} (hw : WP P N T L) (hi : i < L) (hc : c ≤ T) (h0 : σ 128 i = nI (N i)) (h1 : (∀ c, c ≤ T → σ 129 (100 * (i + 1) + c) = nI (eN (wv P N T L (i + 1) c)))) (hq : K (nI (eN (von (wv P N T L (i + 1)) (N i) c))) (σ, sh b)) : CM G mX9_costOnward (rl 1) [.ref 126, .int (nI i), .int (nI c)] (σ, sh b) (QI K) := by
  obtain ⟨hP, hT, hL, hN⟩ := hw
  have hN1 := hN i hi
  refine CM.of (by decide) (Nat.le_of_ble_eq_true rfl) (cats1 rfl) ?_
  refine V_iload_n (pc := 0) d_X9_costOnward_0 rfl ?_
  refine V_aload_n (pc := 1) d_X9_costOnward_1 rfl ?_
  refine P_getR (pc := 2) d_X9_costOnward_2 f_X9_22 (tt_126 b) (rr_126_3 b) ?_
  refine V_iload_n (pc := 5) d_X9_costOnward_5 rfl ?_
  refine P_iald (pc := 6) (i) d_X9_costOnward_6 (tt_128 b) rfl (ln_of (ll_128 b) ⟨by omega, by decide⟩) ?_
  rw [h0]
  refine V_isub (pc := 7) d_X9_costOnward_7 ?_
  refine V_istore_n (pc := 8) d_X9_costOnward_8 (by decide) ?_
  refine V_iload_n (pc := 9) d_X9_costOnward_9 rfl ?_
  refine B_if_ge (pc := 10) 18 d_X9_costOnward_10 (by decide) (fun c10 => ?_) (fun c10 => ?_)
  · rw [pk_sub_toInt (by omega) (by omega)] at c10
    rw [pk_sub (by omega : N i ≤ c)]
    refine V_aload_n (pc := 18) d_X9_costOnward_18 rfl ?_
    refine P_getR (pc := 19) d_X9_costOnward_19 f_X9_25 (tt_126 b) (rr_126_4 b) ?_
    refine V_iload_n (pc := 22) d_X9_costOnward_22 rfl ?_
    refine V_iconst (pc := 23) (1) d_X9_costOnward_23 (by decide) ?_
    refine V_iadd (pc := 24) d_X9_costOnward_24 ?_
    refine V_bipush (pc := 25) (nI 100) d_X9_costOnward_25 (by decide) ?_
    refine V_imul (pc := 27) d_X9_costOnward_27 ?_
    refine V_iload_n (pc := 28) d_X9_costOnward_28 rfl ?_
    refine V_iadd (pc := 29) d_X9_costOnward_29 ?_
    refine P_iald (pc := 30) ((i + 1) * 100 + (c - N i)) d_X9_costOnward_30 (tt_129 b) (by simp only [nI_1, pk_mul, nI_add]) (ln_of (ll_129 b) ⟨by omega, by decide⟩) ?_
    rw [show (i + 1) * 100 + (c - N i) = 100 * (i + 1) + (c - N i) by omega, h1 _ (by omega)]
    exact V_retI (pc := 31) d_X9_costOnward_31 rfl ⟨Nat.le_refl _, Nat.le_refl _⟩ (by first | (rw [von, if_neg (by omega)] at hq; exact hq) | (rw [von, if_pos (by omega), eN_Z] at hq; exact hq))
  · rw [pk_sub_toInt (by omega) (by omega)] at c10
    refine V_ldc (pc := 13) d_X9_costOnward_13 l_X9_52 ?_
    refine V_goto (pc := 15) 31 d_X9_costOnward_15 (by decide) ?_
    exact V_retI (pc := 31) d_X9_costOnward_31 rfl ⟨Nat.le_refl _, Nat.le_refl _⟩ (by first | (rw [von, if_neg (by omega)] at hq; exact hq) | (rw [von, if_pos (by omega), eN_Z] at hq; exact hq))
theorem lp_ws {P N : Nat → Nat} {T L m : Nat} (hw : WP P N T L) (hm : m < L) (e128 : σ 128 m = nI (N m)) (hE : ∀ τ z4 z5 z6, WS σ τ P N T L m 0 → V G mX9_workOutStep (rl 2) F 0 0 106 [some (.ref 126), some (.int (nI m)), some (.int (nI (P m))), some (.int (nI (BB P N T L m 0))), z4, z5, z6] [] (τ, sh b)) : ∀ n, n ≤ T + 1 → ∀ τ, WS σ τ P N T L m n → ∀ z5 z6 : Option Value, V G mX9_workOutStep (rl 2) F 0 0 16 [some (.ref 126), some (.int (nI m)), some (.int (nI (P m))), some (.int (nI (BB P N T L m n))), some (.int (nI n - 1)), z5, z6] [] (τ, sh b) := by
  obtain ⟨hP, hT, hL, hN⟩ := id hw
  intro n
  induction n with
  | zero =>
    intro _ τ hW z5 z6
    refine V_iload (pc := 16) d_X9_workOutStep_16 rfl ?_
    refine B_if_lt (pc := 18) 106 d_X9_workOutStep_18 (by decide) (fun c18 => ?_) (fun c18 => ?_)
    · exact hE _ _ _ _ hW
    · exact absurd (by decide) c18
  | succ c ih =>
    intro hc τ hW z5 z6
    rw [nI_pred]
    have hPm := hP m hm
    have evo := von_b (d := N m) (c := c) (wv_b (N := N) hP hT hL (m + 1))
    have evl := eN_le evo
    have hBB := BB_le (N := N) (c := c) hP hT hL hm (by omega)
    have hBB2 := BB_le (N := N) (c := c + 1) hP hT hL hm (by omega)
    have hmul := mul99 (n := P m) (p := c) hPm (by omega)
    have BBl := BB_lay (N := N) (c := c) hP hT hL hm (by omega)
    refine V_iload (pc := 16) d_X9_workOutStep_16 rfl ?_
    refine B_if_lt (pc := 18) 106 d_X9_workOutStep_18 (by decide) (fun c18 => ?_) (fun c18 => ?_)
    · simp (disch := omega) only [nI_toInt, ti0, ti1, tim1, tim20, tim1000] at c18
      all_goals omega
    · simp (disch := omega) only [nI_toInt, ti0, ti1, tim1, tim20, tim1000] at c18
      refine V_aload_n (pc := 21) d_X9_workOutStep_21 rfl ?_
      refine V_iload_n (pc := 22) d_X9_workOutStep_22 rfl ?_
      refine V_iload (pc := 23) d_X9_workOutStep_23 rfl ?_
      refine V_cvI (pc := 25) (n := 1) (c := 9) [_, _] d_X9_workOutStep_25 c_X9_53 k_X9_costOnward ⟨rfl, rfl⟩ (tt_126 b) rfl (Nat.le_of_ble_eq_true rfl) ⟨Nat.le_of_ble_eq_true rfl, Nat.le_of_ble_eq_true rfl⟩ ⟨Nat.le_refl _, Nat.le_refl _⟩ (ct_X9_costOnward hw hm (by omega) ((hW.1 _ _ (by decide)).trans e128) (fun c hc => hW.2.1 _ _ (Nat.le_refl _) (by omega) hc) ?_)
      refine V_istore (pc := 28) d_X9_workOutStep_28 (by decide) ?_
      refine V_iload_n (pc := 30) d_X9_workOutStep_30 rfl ?_
      refine V_if_ne (pc := 31) 40 d_X9_workOutStep_31 (by decide) (fun c31 => ?_) (fun c31 => ?_)
      · rw [nI_eq0 (by omega)] at c31
        refine V_iload (pc := 40) d_X9_workOutStep_40 rfl ?_
        refine V_ldc (pc := 42) d_X9_workOutStep_42 l_X9_52 ?_
        refine V_icmp_eq (pc := 44) 59 d_X9_workOutStep_44 (by decide) (fun c44 => ?_) (fun c44 => ?_)
        · rw [nwI evo] at c44
          first | rw [← (stepB (c := c) hP hT hL hm c31 (by omega)).1 c44] | rw [eN_lt (evo.resolve_left c44), ← (stepB (c := c) hP hT hL hm c31 (by omega)).2 c44]
          refine V_iload_n (pc := 59) d_X9_workOutStep_59 rfl ?_
          refine V_ldc (pc := 60) d_X9_workOutStep_60 l_X9_52 ?_
          refine V_icmp_eq (pc := 62) 69 d_X9_workOutStep_62 (by decide) (fun c62 => ?_) (fun c62 => ?_)
          · rw [nwB hBB] at c62
            refine V_iconst (pc := 69) (0) d_X9_workOutStep_69 (by decide) ?_
            refine V_istore (pc := 70) d_X9_workOutStep_70 (by decide) ?_
            refine V_aload_n (pc := 72) d_X9_workOutStep_72 rfl ?_
            refine P_getR (pc := 73) d_X9_workOutStep_73 f_X9_25 (tt_126 b) (rr_126_4 b) ?_
            refine V_iload_n (pc := 76) d_X9_workOutStep_76 rfl ?_
            refine V_bipush (pc := 77) (nI 100) d_X9_workOutStep_77 (by decide) ?_
            refine V_imul (pc := 79) d_X9_workOutStep_79 ?_
            refine V_iload (pc := 80) d_X9_workOutStep_80 rfl ?_
            refine V_iadd (pc := 82) d_X9_workOutStep_82 ?_
            refine V_iload (pc := 83) d_X9_workOutStep_83 rfl ?_
            refine V_if_eq (pc := 85) 97 d_X9_workOutStep_85 (by decide) (fun c85 => ?_) (fun c85 => ?_)
            · refine V_ldc (pc := 97) d_X9_workOutStep_97 l_X9_52 ?_
              first | rw [show nI (BB P N T L m c) - nI (P m) * nI c = nI (eN (wv P N T L m c)) by rw [pk_mul, pk_sub (BBl.2 c62).1, (BBl.2 c62).2]] | rw [show (1000000 : Int32) = nI (eN (wv P N T L m c)) by rw [BBl.1 c62]; rfl]
              refine P_iast (pc := 99) (m * 100 + c) d_X9_workOutStep_99 (tt_129 b) (by simp only [pk_mul, nI_add]) (ln_of (ll_129 b) ⟨by omega, by decide⟩) ?_
              refine V_iinc (pc := 100) d_X9_workOutStep_100 rfl (by decide) ?_
              refine V_goto (pc := 103) 16 d_X9_workOutStep_103 (by decide) ?_
              rw [mm_s]
              exact ih (by omega) _ (WS_s hW hT (by omega)) _ _
            · exact absurd (by decide) c85
          · rw [nwB hBB] at c62
            refine V_iconst (pc := 65) (1) d_X9_workOutStep_65 (by decide) ?_
            refine V_goto (pc := 66) 70 d_X9_workOutStep_66 (by decide) ?_
            refine V_istore (pc := 70) d_X9_workOutStep_70 (by decide) ?_
            refine V_aload_n (pc := 72) d_X9_workOutStep_72 rfl ?_
            refine P_getR (pc := 73) d_X9_workOutStep_73 f_X9_25 (tt_126 b) (rr_126_4 b) ?_
            refine V_iload_n (pc := 76) d_X9_workOutStep_76 rfl ?_
            refine V_bipush (pc := 77) (nI 100) d_X9_workOutStep_77 (by decide) ?_
            refine V_imul (pc := 79) d_X9_workOutStep_79 ?_
            refine V_iload (pc := 80) d_X9_workOutStep_80 rfl ?_
            refine V_iadd (pc := 82) d_X9_workOutStep_82 ?_
            refine V_iload (pc := 83) d_X9_workOutStep_83 rfl ?_
            refine V_if_eq (pc := 85) 97 d_X9_workOutStep_85 (by decide) (fun c85 => ?_) (fun c85 => ?_)
            · exact absurd c85 (by decide)
            · refine V_iload_n (pc := 88) d_X9_workOutStep_88 rfl ?_
              refine V_iload_n (pc := 89) d_X9_workOutStep_89 rfl ?_
              refine V_iload (pc := 90) d_X9_workOutStep_90 rfl ?_
              refine V_imul (pc := 92) d_X9_workOutStep_92 ?_
              refine V_isub (pc := 93) d_X9_workOutStep_93 ?_
              refine V_goto (pc := 94) 99 d_X9_workOutStep_94 (by decide) ?_
              first | rw [show nI (BB P N T L m c) - nI (P m) * nI c = nI (eN (wv P N T L m c)) by rw [pk_mul, pk_sub (BBl.2 c62).1, (BBl.2 c62).2]] | rw [show (1000000 : Int32) = nI (eN (wv P N T L m c)) by rw [BBl.1 c62]; rfl]
              refine P_iast (pc := 99) (m * 100 + c) d_X9_workOutStep_99 (tt_129 b) (by simp only [pk_mul, nI_add]) (ln_of (ll_129 b) ⟨by omega, by decide⟩) ?_
              refine V_iinc (pc := 100) d_X9_workOutStep_100 rfl (by decide) ?_
              refine V_goto (pc := 103) 16 d_X9_workOutStep_103 (by decide) ?_
              rw [mm_s]
              exact ih (by omega) _ (WS_s hW hT (by omega)) _ _
        · rw [nwI evo] at c44
          refine V_iload_n (pc := 47) d_X9_workOutStep_47 rfl ?_
          refine V_iload (pc := 48) d_X9_workOutStep_48 rfl ?_
          refine V_iload_n (pc := 50) d_X9_workOutStep_50 rfl ?_
          refine V_iload (pc := 51) d_X9_workOutStep_51 rfl ?_
          refine V_imul (pc := 53) d_X9_workOutStep_53 ?_
          refine V_iadd (pc := 54) d_X9_workOutStep_54 ?_
          rw [pk_mul, nI_add]
          refine V_csI (pc := 55) (n := 1) [_, _] d_X9_workOutStep_55 c_X9_57 k_J_min rfl (Nat.le_of_ble_eq_true rfl) ⟨Nat.le_of_ble_eq_true rfl, Nat.le_of_ble_eq_true rfl⟩ ⟨Nat.le_refl _, Nat.le_refl _⟩ (ct_J_min ?_)
          rw [mn_n2 (by omega) (by omega)]
          refine V_istore_n (pc := 58) d_X9_workOutStep_58 (by decide) ?_
          first | rw [← (stepB (c := c) hP hT hL hm c31 (by omega)).1 c44] | rw [eN_lt (evo.resolve_left c44), ← (stepB (c := c) hP hT hL hm c31 (by omega)).2 c44]
          refine V_iload_n (pc := 59) d_X9_workOutStep_59 rfl ?_
          refine V_ldc (pc := 60) d_X9_workOutStep_60 l_X9_52 ?_
          refine V_icmp_eq (pc := 62) 69 d_X9_workOutStep_62 (by decide) (fun c62 => ?_) (fun c62 => ?_)
          · rw [nwB hBB] at c62
            refine V_iconst (pc := 69) (0) d_X9_workOutStep_69 (by decide) ?_
            refine V_istore (pc := 70) d_X9_workOutStep_70 (by decide) ?_
            refine V_aload_n (pc := 72) d_X9_workOutStep_72 rfl ?_
            refine P_getR (pc := 73) d_X9_workOutStep_73 f_X9_25 (tt_126 b) (rr_126_4 b) ?_
            refine V_iload_n (pc := 76) d_X9_workOutStep_76 rfl ?_
            refine V_bipush (pc := 77) (nI 100) d_X9_workOutStep_77 (by decide) ?_
            refine V_imul (pc := 79) d_X9_workOutStep_79 ?_
            refine V_iload (pc := 80) d_X9_workOutStep_80 rfl ?_
            refine V_iadd (pc := 82) d_X9_workOutStep_82 ?_
            refine V_iload (pc := 83) d_X9_workOutStep_83 rfl ?_
            refine V_if_eq (pc := 85) 97 d_X9_workOutStep_85 (by decide) (fun c85 => ?_) (fun c85 => ?_)
            · refine V_ldc (pc := 97) d_X9_workOutStep_97 l_X9_52 ?_
              first | rw [show nI (BB P N T L m c) - nI (P m) * nI c = nI (eN (wv P N T L m c)) by rw [pk_mul, pk_sub (BBl.2 c62).1, (BBl.2 c62).2]] | rw [show (1000000 : Int32) = nI (eN (wv P N T L m c)) by rw [BBl.1 c62]; rfl]
              refine P_iast (pc := 99) (m * 100 + c) d_X9_workOutStep_99 (tt_129 b) (by simp only [pk_mul, nI_add]) (ln_of (ll_129 b) ⟨by omega, by decide⟩) ?_
              refine V_iinc (pc := 100) d_X9_workOutStep_100 rfl (by decide) ?_
              refine V_goto (pc := 103) 16 d_X9_workOutStep_103 (by decide) ?_
              rw [mm_s]
              exact ih (by omega) _ (WS_s hW hT (by omega)) _ _
            · exact absurd (by decide) c85
          · rw [nwB hBB] at c62
            refine V_iconst (pc := 65) (1) d_X9_workOutStep_65 (by decide) ?_
            refine V_goto (pc := 66) 70 d_X9_workOutStep_66 (by decide) ?_
            refine V_istore (pc := 70) d_X9_workOutStep_70 (by decide) ?_
            refine V_aload_n (pc := 72) d_X9_workOutStep_72 rfl ?_
            refine P_getR (pc := 73) d_X9_workOutStep_73 f_X9_25 (tt_126 b) (rr_126_4 b) ?_
            refine V_iload_n (pc := 76) d_X9_workOutStep_76 rfl ?_
            refine V_bipush (pc := 77) (nI 100) d_X9_workOutStep_77 (by decide) ?_
            refine V_imul (pc := 79) d_X9_workOutStep_79 ?_
            refine V_iload (pc := 80) d_X9_workOutStep_80 rfl ?_
            refine V_iadd (pc := 82) d_X9_workOutStep_82 ?_
            refine V_iload (pc := 83) d_X9_workOutStep_83 rfl ?_
            refine V_if_eq (pc := 85) 97 d_X9_workOutStep_85 (by decide) (fun c85 => ?_) (fun c85 => ?_)
            · exact absurd c85 (by decide)
            · refine V_iload_n (pc := 88) d_X9_workOutStep_88 rfl ?_
              refine V_iload_n (pc := 89) d_X9_workOutStep_89 rfl ?_
              refine V_iload (pc := 90) d_X9_workOutStep_90 rfl ?_
              refine V_imul (pc := 92) d_X9_workOutStep_92 ?_
              refine V_isub (pc := 93) d_X9_workOutStep_93 ?_
              refine V_goto (pc := 94) 99 d_X9_workOutStep_94 (by decide) ?_
              first | rw [show nI (BB P N T L m c) - nI (P m) * nI c = nI (eN (wv P N T L m c)) by rw [pk_mul, pk_sub (BBl.2 c62).1, (BBl.2 c62).2]] | rw [show (1000000 : Int32) = nI (eN (wv P N T L m c)) by rw [BBl.1 c62]; rfl]
              refine P_iast (pc := 99) (m * 100 + c) d_X9_workOutStep_99 (tt_129 b) (by simp only [pk_mul, nI_add]) (ln_of (ll_129 b) ⟨by omega, by decide⟩) ?_
              refine V_iinc (pc := 100) d_X9_workOutStep_100 rfl (by decide) ?_
              refine V_goto (pc := 103) 16 d_X9_workOutStep_103 (by decide) ?_
              rw [mm_s]
              exact ih (by omega) _ (WS_s hW hT (by omega)) _ _
      · rw [nI_eq0 (by omega)] at c31
        refine V_iload (pc := 34) d_X9_workOutStep_34 rfl ?_
        refine V_istore_n (pc := 36) d_X9_workOutStep_36 (by decide) ?_
        refine V_goto (pc := 37) 59 d_X9_workOutStep_37 (by decide) ?_
        rw [← BB_0 (c := c) hP hT hL hm c31 (by omega)]
        refine V_iload_n (pc := 59) d_X9_workOutStep_59 rfl ?_
        refine V_ldc (pc := 60) d_X9_workOutStep_60 l_X9_52 ?_
        refine V_icmp_eq (pc := 62) 69 d_X9_workOutStep_62 (by decide) (fun c62 => ?_) (fun c62 => ?_)
        · rw [nwB hBB] at c62
          refine V_iconst (pc := 69) (0) d_X9_workOutStep_69 (by decide) ?_
          refine V_istore (pc := 70) d_X9_workOutStep_70 (by decide) ?_
          refine V_aload_n (pc := 72) d_X9_workOutStep_72 rfl ?_
          refine P_getR (pc := 73) d_X9_workOutStep_73 f_X9_25 (tt_126 b) (rr_126_4 b) ?_
          refine V_iload_n (pc := 76) d_X9_workOutStep_76 rfl ?_
          refine V_bipush (pc := 77) (nI 100) d_X9_workOutStep_77 (by decide) ?_
          refine V_imul (pc := 79) d_X9_workOutStep_79 ?_
          refine V_iload (pc := 80) d_X9_workOutStep_80 rfl ?_
          refine V_iadd (pc := 82) d_X9_workOutStep_82 ?_
          refine V_iload (pc := 83) d_X9_workOutStep_83 rfl ?_
          refine V_if_eq (pc := 85) 97 d_X9_workOutStep_85 (by decide) (fun c85 => ?_) (fun c85 => ?_)
          · refine V_ldc (pc := 97) d_X9_workOutStep_97 l_X9_52 ?_
            first | rw [show nI (BB P N T L m c) - nI (P m) * nI c = nI (eN (wv P N T L m c)) by rw [pk_mul, pk_sub (BBl.2 c62).1, (BBl.2 c62).2]] | rw [show (1000000 : Int32) = nI (eN (wv P N T L m c)) by rw [BBl.1 c62]; rfl]
            refine P_iast (pc := 99) (m * 100 + c) d_X9_workOutStep_99 (tt_129 b) (by simp only [pk_mul, nI_add]) (ln_of (ll_129 b) ⟨by omega, by decide⟩) ?_
            refine V_iinc (pc := 100) d_X9_workOutStep_100 rfl (by decide) ?_
            refine V_goto (pc := 103) 16 d_X9_workOutStep_103 (by decide) ?_
            rw [mm_s]
            exact ih (by omega) _ (WS_s hW hT (by omega)) _ _
          · exact absurd (by decide) c85
        · rw [nwB hBB] at c62
          refine V_iconst (pc := 65) (1) d_X9_workOutStep_65 (by decide) ?_
          refine V_goto (pc := 66) 70 d_X9_workOutStep_66 (by decide) ?_
          refine V_istore (pc := 70) d_X9_workOutStep_70 (by decide) ?_
          refine V_aload_n (pc := 72) d_X9_workOutStep_72 rfl ?_
          refine P_getR (pc := 73) d_X9_workOutStep_73 f_X9_25 (tt_126 b) (rr_126_4 b) ?_
          refine V_iload_n (pc := 76) d_X9_workOutStep_76 rfl ?_
          refine V_bipush (pc := 77) (nI 100) d_X9_workOutStep_77 (by decide) ?_
          refine V_imul (pc := 79) d_X9_workOutStep_79 ?_
          refine V_iload (pc := 80) d_X9_workOutStep_80 rfl ?_
          refine V_iadd (pc := 82) d_X9_workOutStep_82 ?_
          refine V_iload (pc := 83) d_X9_workOutStep_83 rfl ?_
          refine V_if_eq (pc := 85) 97 d_X9_workOutStep_85 (by decide) (fun c85 => ?_) (fun c85 => ?_)
          · exact absurd c85 (by decide)
          · refine V_iload_n (pc := 88) d_X9_workOutStep_88 rfl ?_
            refine V_iload_n (pc := 89) d_X9_workOutStep_89 rfl ?_
            refine V_iload (pc := 90) d_X9_workOutStep_90 rfl ?_
            refine V_imul (pc := 92) d_X9_workOutStep_92 ?_
            refine V_isub (pc := 93) d_X9_workOutStep_93 ?_
            refine V_goto (pc := 94) 99 d_X9_workOutStep_94 (by decide) ?_
            first | rw [show nI (BB P N T L m c) - nI (P m) * nI c = nI (eN (wv P N T L m c)) by rw [pk_mul, pk_sub (BBl.2 c62).1, (BBl.2 c62).2]] | rw [show (1000000 : Int32) = nI (eN (wv P N T L m c)) by rw [BBl.1 c62]; rfl]
            refine P_iast (pc := 99) (m * 100 + c) d_X9_workOutStep_99 (tt_129 b) (by simp only [pk_mul, nI_add]) (ln_of (ll_129 b) ⟨by omega, by decide⟩) ?_
            refine V_iinc (pc := 100) d_X9_workOutStep_100 rfl (by decide) ?_
            refine V_goto (pc := 103) 16 d_X9_workOutStep_103 (by decide) ?_
            rw [mm_s]
            exact ih (by omega) _ (WS_s hW hT (by omega)) _ _
theorem ct_X9_workOutStep {P N : Nat → Nat} {T L m : Nat} (hw : WP P N T L) (hm : m < L) (e1 : σ 126 1 = nI T) (e127 : σ 127 m = nI (P m)) (e128 : σ 128 m = nI (N m)) (h4 : WS σ σ P N T L m (T + 1)) (hk : ∀ τ, WS σ τ P N T L m 0 → KV (τ, sh b)) : CM G mX9_workOutStep (rl 2) [.ref 126, .int (nI m)] (σ, sh b) (QV KV) := by
  obtain ⟨hP, hT, hL, hN⟩ := id hw
  refine CM.of (by decide) (Nat.le_of_ble_eq_true rfl) (cats1 rfl) ?_
  refine V_aload_n (pc := 0) d_X9_workOutStep_0 rfl ?_
  refine P_getR (pc := 1) d_X9_workOutStep_1 f_X9_18 (tt_126 b) (rr_126_2 b) ?_
  refine V_iload_n (pc := 4) d_X9_workOutStep_4 rfl ?_
  refine P_iald (pc := 5) (m) d_X9_workOutStep_5 (tt_127 b) rfl (ln_of (ll_127 b) ⟨by omega, by decide⟩) ?_
  rw [e127]
  refine V_istore_n (pc := 6) d_X9_workOutStep_6 (by decide) ?_
  refine V_ldc (pc := 7) d_X9_workOutStep_7 l_X9_52 ?_
  refine V_istore_n (pc := 9) d_X9_workOutStep_9 (by decide) ?_
  refine V_aload_n (pc := 10) d_X9_workOutStep_10 rfl ?_
  refine P_getI (pc := 11) d_X9_workOutStep_11 f_X9_15 (tt_126 b) ?_
  rw [e1]
  refine V_istore (pc := 14) d_X9_workOutStep_14 (by decide) ?_
  have e0 : (1000000 : Int32) = nI (BB P N T L m (T + 1)) := by rw [BB, if_pos rfl]; rfl
  rw [e0, show nI T = nI (T + 1) - 1 from (nI_pred T).symm]
  refine lp_ws (F := FM G (rl 2) (QV KV)) hw hm e128 (fun τ z4 z5 z6 h => ?_) (T + 1) (Nat.le_refl _) σ h4 _ _
  exact V_retV (pc := 106) d_X9_workOutStep_106 rfl ⟨Nat.le_refl _, Nat.le_refl _⟩ (hk τ h)
theorem lp_wa1 {P N : Nat → Nat} {T L f t : Nat} {q ns nb nl nt nr : Nat} (hR : RR σ 4 σ q ns nb nl nt nr) (hft : f < t) (hL : L = wL f t) (hf : f ≤ ns) (ht : t ≤ ns) (hPr : ∀ k, k < L → σ (33 + 4 * lof f t k) 0 = nI (P k)) (hNs : ∀ k, k < L → longS σ (sof f t k) (q / 96) 0 = nI (N k)) (hE : ∀ τ, W1 σ τ P N T L L → ∀ z : Option Value, V G mX9_workOut (rl 3) F 0 0 107 [some (.ref 126), some (.ref 4), some (.int (nI T)), some (.int (nI f)), some (.int (nI t)), some (.int 1), some (.int (nI L)), z] [] (τ, sh b)) : ∀ n, n ≤ L → ∀ j, j + n = L → ∀ τ, W1 σ τ P N T L j → ∀ z : Option Value, V G mX9_workOut (rl 3) F 0 0 32 [some (.ref 126), some (.ref 4), some (.int (nI T)), some (.int (nI f)), some (.int (nI t)), some (.int 1), some (.int (nI j)), z] [] (τ, sh b) := by
  have hn10 := hR.1.1.2.1
  have hLe := wL_le hf ht
  intro n
  induction n with
  | zero =>
    intro _ j hj τ hW z
    obtain rfl : j = L := by omega
    refine V_iload (pc := 32) d_X9_workOut_32 rfl ?_
    refine V_aload_n (pc := 34) d_X9_workOut_34 rfl ?_
    refine P_getI (pc := 35) d_X9_workOut_35 f_X9_9 (tt_126 b) ?_
    rw [hW.2.1.1]
    refine B_icmp_ge (pc := 38) 107 d_X9_workOut_38 (by decide) (fun c38 => ?_) (fun c38 => ?_)
    · simp (disch := omega) only [nI_toInt, ti0, ti1, tim1, tim20, tim1000] at c38
      exact hE _ hW _
    · simp (disch := omega) only [nI_toInt, ti0, ti1, tim1, tim20, tim1000] at c38
      all_goals omega
  | succ n ih =>
    intro _ j hj τ hW z
    have hlo := lof_le (i := j) (by omega) hf ht
    have el : lof f t j = (f + j) := if_pos hft
    have es : sof f t j = (f + j) := if_pos hft
    have hpr := hPr j (by omega)
    have hns := hNs j (by omega)
    rw [el] at hlo hpr
    rw [es] at hlo hns
    have hju : j < wL f t := by omega
    unfold wL at hju
    rw [if_pos hft] at hju
    refine V_iload (pc := 32) d_X9_workOut_32 rfl ?_
    refine V_aload_n (pc := 34) d_X9_workOut_34 rfl ?_
    refine P_getI (pc := 35) d_X9_workOut_35 f_X9_9 (tt_126 b) ?_
    rw [hW.2.1.1]
    refine B_icmp_ge (pc := 38) 107 d_X9_workOut_38 (by decide) (fun c38 => ?_) (fun c38 => ?_)
    · simp (disch := omega) only [nI_toInt, ti0, ti1, tim1, tim20, tim1000] at c38
      all_goals omega
    · simp (disch := omega) only [nI_toInt, ti0, ti1, tim1, tim20, tim1000] at c38
      refine V_iload (pc := 41) d_X9_workOut_41 rfl ?_
      refine V_if_eq (pc := 43) 53 d_X9_workOut_43 (by decide) (fun c43 => ?_) (fun c43 => ?_)
      · exact absurd c43 (by decide)
      · refine V_iload_n (pc := 46) d_X9_workOut_46 rfl ?_
        refine V_iload (pc := 47) d_X9_workOut_47 rfl ?_
        refine V_iadd (pc := 49) d_X9_workOut_49 ?_
        refine V_goto (pc := 50) 57 d_X9_workOut_50 (by decide) ?_
        rw [nI_add]
        refine V_istore (pc := 57) d_X9_workOut_57 (by decide) ?_
        refine V_aload_n (pc := 59) d_X9_workOut_59 rfl ?_
        refine P_getR (pc := 60) d_X9_workOut_60 f_X9_18 (tt_126 b) (rr_126_2 b) ?_
        refine V_iload (pc := 63) d_X9_workOut_63 rfl ?_
        refine V_aload_n (pc := 65) d_X9_workOut_65 rfl ?_
        refine P_getR (pc := 66) d_X9_workOut_66 f_X9_34 (tt_4 b) (rr_4_11 b) ?_
        refine V_iload (pc := 69) d_X9_workOut_69 rfl ?_
        refine P_aald (pc := 71) (c := 3) ((f + j)) d_X9_workOut_71 (tt_8 b) (by decide) (by simp only [nI_add, pk_mul, nI_1]) (ln_of (ll_8 b) ⟨by omega, by decide⟩) (rLD b (by omega)) ?_
        refine P_getI (pc := 72) d_X9_workOut_72 f_X9_40 (tLD b (by omega)) ?_
        rw [hW.1 _ _ (by omega), hpr]
        refine P_iast (pc := 75) (j) d_X9_workOut_75 (tt_127 b) rfl (ln_of (ll_127 b) ⟨by omega, by decide⟩) ?_
        refine V_aload_n (pc := 76) d_X9_workOut_76 rfl ?_
        refine P_getR (pc := 77) d_X9_workOut_77 f_X9_22 (tt_126 b) (rr_126_3 b) ?_
        refine V_iload (pc := 80) d_X9_workOut_80 rfl ?_
        refine V_aload_n (pc := 82) d_X9_workOut_82 rfl ?_
        refine V_iload (pc := 83) d_X9_workOut_83 rfl ?_
        refine V_if_eq (pc := 85) 93 d_X9_workOut_85 (by decide) (fun c85 => ?_) (fun c85 => ?_)
        · exact absurd c85 (by decide)
        · refine V_iload (pc := 88) d_X9_workOut_88 rfl ?_
          refine V_goto (pc := 90) 97 d_X9_workOut_90 (by decide) ?_
          have hF9 : ∀ a i, ¬ (126 ≤ a ∧ a ≤ 129) → up2 τ 127 j (nI (P j)) a i = σ a i := fun a i ha => by rw [up2_n (by omega)]; exact hW.1 a i ha
          obtain ⟨hc9, hH9, hC9, hS9, -⟩ := RR_wd hR hF9
          refine V_cvI (pc := 97) (n := 2) (c := 4) [_] d_X9_workOut_97 c_X9_45 k_X4_longByDaylight ⟨rfl, rfl⟩ (tt_4 b) rfl (Nat.le_of_ble_eq_true rfl) ⟨Nat.le_of_ble_eq_true rfl, Nat.le_of_ble_eq_true rfl⟩ ⟨Nat.le_refl _, Nat.le_refl _⟩ (ct_X4_longByDaylight hH9 hC9 hS9 (by omega) (by omega) hc9.2.2.1.1 hc9.1.1 ?_)
          rw [longS_ag (σ := σ) (fun a i h1 h2 => hF9 a i (by omega)), hns]
          refine P_iast (pc := 100) (j) d_X9_workOut_100 (tt_128 b) rfl (ln_of (ll_128 b) ⟨by omega, by decide⟩) ?_
          refine V_iinc (pc := 101) d_X9_workOut_101 rfl (by decide) ?_
          refine V_goto (pc := 104) 32 d_X9_workOut_104 (by decide) ?_
          rw [p1_s]
          exact ih (by omega) (j + 1) (by omega) _ (W1_s hW) _
theorem lp_wa0 {P N : Nat → Nat} {T L f t : Nat} {q ns nb nl nt nr : Nat} (hR : RR σ 4 σ q ns nb nl nt nr) (hft : ¬ f < t) (hL : L = wL f t) (hf : f ≤ ns) (ht : t ≤ ns) (hPr : ∀ k, k < L → σ (33 + 4 * lof f t k) 0 = nI (P k)) (hNs : ∀ k, k < L → longS σ (sof f t k) (q / 96) 0 = nI (N k)) (hE : ∀ τ, W1 σ τ P N T L L → ∀ z : Option Value, V G mX9_workOut (rl 3) F 0 0 107 [some (.ref 126), some (.ref 4), some (.int (nI T)), some (.int (nI f)), some (.int (nI t)), some (.int 0), some (.int (nI L)), z] [] (τ, sh b)) : ∀ n, n ≤ L → ∀ j, j + n = L → ∀ τ, W1 σ τ P N T L j → ∀ z : Option Value, V G mX9_workOut (rl 3) F 0 0 32 [some (.ref 126), some (.ref 4), some (.int (nI T)), some (.int (nI f)), some (.int (nI t)), some (.int 0), some (.int (nI j)), z] [] (τ, sh b) := by
  have hn10 := hR.1.1.2.1
  have hLe := wL_le hf ht
  intro n
  induction n with
  | zero =>
    intro _ j hj τ hW z
    obtain rfl : j = L := by omega
    refine V_iload (pc := 32) d_X9_workOut_32 rfl ?_
    refine V_aload_n (pc := 34) d_X9_workOut_34 rfl ?_
    refine P_getI (pc := 35) d_X9_workOut_35 f_X9_9 (tt_126 b) ?_
    rw [hW.2.1.1]
    refine B_icmp_ge (pc := 38) 107 d_X9_workOut_38 (by decide) (fun c38 => ?_) (fun c38 => ?_)
    · simp (disch := omega) only [nI_toInt, ti0, ti1, tim1, tim20, tim1000] at c38
      exact hE _ hW _
    · simp (disch := omega) only [nI_toInt, ti0, ti1, tim1, tim20, tim1000] at c38
      all_goals omega
  | succ n ih =>
    intro _ j hj τ hW z
    have hlo := lof_le (i := j) (by omega) hf ht
    have el : lof f t j = (f - j) := if_neg hft
    have es : sof f t j = (f - j - 1) := if_neg hft
    have hpr := hPr j (by omega)
    have hns := hNs j (by omega)
    rw [el] at hlo hpr
    rw [es] at hlo hns
    have hju : j < wL f t := by omega
    unfold wL at hju
    rw [if_neg hft] at hju
    refine V_iload (pc := 32) d_X9_workOut_32 rfl ?_
    refine V_aload_n (pc := 34) d_X9_workOut_34 rfl ?_
    refine P_getI (pc := 35) d_X9_workOut_35 f_X9_9 (tt_126 b) ?_
    rw [hW.2.1.1]
    refine B_icmp_ge (pc := 38) 107 d_X9_workOut_38 (by decide) (fun c38 => ?_) (fun c38 => ?_)
    · simp (disch := omega) only [nI_toInt, ti0, ti1, tim1, tim20, tim1000] at c38
      all_goals omega
    · simp (disch := omega) only [nI_toInt, ti0, ti1, tim1, tim20, tim1000] at c38
      refine V_iload (pc := 41) d_X9_workOut_41 rfl ?_
      refine V_if_eq (pc := 43) 53 d_X9_workOut_43 (by decide) (fun c43 => ?_) (fun c43 => ?_)
      · refine V_iload_n (pc := 53) d_X9_workOut_53 rfl ?_
        refine V_iload (pc := 54) d_X9_workOut_54 rfl ?_
        refine V_isub (pc := 56) d_X9_workOut_56 ?_
        rw [pk_sub (by omega)]
        refine V_istore (pc := 57) d_X9_workOut_57 (by decide) ?_
        refine V_aload_n (pc := 59) d_X9_workOut_59 rfl ?_
        refine P_getR (pc := 60) d_X9_workOut_60 f_X9_18 (tt_126 b) (rr_126_2 b) ?_
        refine V_iload (pc := 63) d_X9_workOut_63 rfl ?_
        refine V_aload_n (pc := 65) d_X9_workOut_65 rfl ?_
        refine P_getR (pc := 66) d_X9_workOut_66 f_X9_34 (tt_4 b) (rr_4_11 b) ?_
        refine V_iload (pc := 69) d_X9_workOut_69 rfl ?_
        refine P_aald (pc := 71) (c := 3) ((f - j)) d_X9_workOut_71 (tt_8 b) (by decide) (by simp only [nI_add, pk_mul, nI_1]) (ln_of (ll_8 b) ⟨by omega, by decide⟩) (rLD b (by omega)) ?_
        refine P_getI (pc := 72) d_X9_workOut_72 f_X9_40 (tLD b (by omega)) ?_
        rw [hW.1 _ _ (by omega), hpr]
        refine P_iast (pc := 75) (j) d_X9_workOut_75 (tt_127 b) rfl (ln_of (ll_127 b) ⟨by omega, by decide⟩) ?_
        refine V_aload_n (pc := 76) d_X9_workOut_76 rfl ?_
        refine P_getR (pc := 77) d_X9_workOut_77 f_X9_22 (tt_126 b) (rr_126_3 b) ?_
        refine V_iload (pc := 80) d_X9_workOut_80 rfl ?_
        refine V_aload_n (pc := 82) d_X9_workOut_82 rfl ?_
        refine V_iload (pc := 83) d_X9_workOut_83 rfl ?_
        refine V_if_eq (pc := 85) 93 d_X9_workOut_85 (by decide) (fun c85 => ?_) (fun c85 => ?_)
        · refine V_iload (pc := 93) d_X9_workOut_93 rfl ?_
          refine V_iconst (pc := 95) (1) d_X9_workOut_95 (by decide) ?_
          refine V_isub (pc := 96) d_X9_workOut_96 ?_
          rw [show nI (f - j) - 1 = nI (f - j - 1) from wy_sub (c := 1) (by omega) (by omega)]
          have hF9 : ∀ a i, ¬ (126 ≤ a ∧ a ≤ 129) → up2 τ 127 j (nI (P j)) a i = σ a i := fun a i ha => by rw [up2_n (by omega)]; exact hW.1 a i ha
          obtain ⟨hc9, hH9, hC9, hS9, -⟩ := RR_wd hR hF9
          refine V_cvI (pc := 97) (n := 2) (c := 4) [_] d_X9_workOut_97 c_X9_45 k_X4_longByDaylight ⟨rfl, rfl⟩ (tt_4 b) rfl (Nat.le_of_ble_eq_true rfl) ⟨Nat.le_of_ble_eq_true rfl, Nat.le_of_ble_eq_true rfl⟩ ⟨Nat.le_refl _, Nat.le_refl _⟩ (ct_X4_longByDaylight hH9 hC9 hS9 (by omega) (by omega) hc9.2.2.1.1 hc9.1.1 ?_)
          rw [longS_ag (σ := σ) (fun a i h1 h2 => hF9 a i (by omega)), hns]
          refine P_iast (pc := 100) (j) d_X9_workOut_100 (tt_128 b) rfl (ln_of (ll_128 b) ⟨by omega, by decide⟩) ?_
          refine V_iinc (pc := 101) d_X9_workOut_101 rfl (by decide) ?_
          refine V_goto (pc := 104) 32 d_X9_workOut_104 (by decide) ?_
          rw [p1_s]
          exact ih (by omega) (j + 1) (by omega) _ (W1_s hW) _
        · exact absurd (by decide) c85
      · exact absurd (by decide) c43
theorem lp_wb {P N : Nat → Nat} {T L f t : Nat} {y : Int32} (hw : WP P N T L) (hE : ∀ τ, W2 σ τ P N T L (T + 1) → ∀ z : Option Value, V G mX9_workOut (rl 3) F 0 0 141 [some (.ref 126), some (.ref 4), some (.int (nI T)), some (.int (nI f)), some (.int (nI t)), some (.int y), some (.int (nI (T + 1))), z] [] (τ, sh b)) : ∀ n, n ≤ T + 1 → ∀ j, j + n = T + 1 → ∀ τ, W2 σ τ P N T L j → ∀ z : Option Value, V G mX9_workOut (rl 3) F 0 0 110 [some (.ref 126), some (.ref 4), some (.int (nI T)), some (.int (nI f)), some (.int (nI t)), some (.int y), some (.int (nI j)), z] [] (τ, sh b) := by
  obtain ⟨hP, hT, hL, hN⟩ := hw
  intro n
  induction n with
  | zero =>
    intro _ j hj τ hW z
    obtain rfl : j = T + 1 := by omega
    refine V_iload (pc := 110) d_X9_workOut_110 rfl ?_
    refine V_aload_n (pc := 112) d_X9_workOut_112 rfl ?_
    refine P_getI (pc := 113) d_X9_workOut_113 f_X9_15 (tt_126 b) ?_
    rw [hW.1.2.1.2]
    refine B_icmp_gt (pc := 116) 141 d_X9_workOut_116 (by decide) (fun c116 => ?_) (fun c116 => ?_)
    · simp (disch := omega) only [nI_toInt, ti0, ti1, tim1, tim20, tim1000] at c116
      exact hE _ hW _
    · simp (disch := omega) only [nI_toInt, ti0, ti1, tim1, tim20, tim1000] at c116
      all_goals omega
  | succ n ih =>
    intro _ j hj τ hW z
    refine V_iload (pc := 110) d_X9_workOut_110 rfl ?_
    refine V_aload_n (pc := 112) d_X9_workOut_112 rfl ?_
    refine P_getI (pc := 113) d_X9_workOut_113 f_X9_15 (tt_126 b) ?_
    rw [hW.1.2.1.2]
    refine B_icmp_gt (pc := 116) 141 d_X9_workOut_116 (by decide) (fun c116 => ?_) (fun c116 => ?_)
    · simp (disch := omega) only [nI_toInt, ti0, ti1, tim1, tim20, tim1000] at c116
      all_goals omega
    · simp (disch := omega) only [nI_toInt, ti0, ti1, tim1, tim20, tim1000] at c116
      refine V_aload_n (pc := 119) d_X9_workOut_119 rfl ?_
      refine P_getR (pc := 120) d_X9_workOut_120 f_X9_25 (tt_126 b) (rr_126_4 b) ?_
      refine V_aload_n (pc := 123) d_X9_workOut_123 rfl ?_
      refine P_getI (pc := 124) d_X9_workOut_124 f_X9_9 (tt_126 b) ?_
      rw [hW.1.2.1.1]
      refine V_bipush (pc := 127) (nI 100) d_X9_workOut_127 (by decide) ?_
      refine V_imul (pc := 129) d_X9_workOut_129 ?_
      refine V_iload (pc := 130) d_X9_workOut_130 rfl ?_
      refine V_iadd (pc := 132) d_X9_workOut_132 ?_
      refine V_iconst (pc := 133) (0) d_X9_workOut_133 (by decide) ?_
      refine P_iast (pc := 134) (L * 100 + j) d_X9_workOut_134 (tt_129 b) (by simp only [pk_mul, nI_add]) (ln_of (ll_129 b) ⟨by omega, by decide⟩) ?_
      refine V_iinc (pc := 135) d_X9_workOut_135 rfl (by decide) ?_
      refine V_goto (pc := 138) 110 d_X9_workOut_138 (by decide) ?_
      rw [p1_s]
      exact ih (by omega) (j + 1) (by omega) _ (W2_s hW) _
theorem lp_wc {P N : Nat → Nat} {T L f t : Nat} {y : Int32} (hw : WP P N T L) (hE : ∀ τ, WC σ τ P N T L 0 → ∀ z6 z : Option Value, V G mX9_workOut (rl 3) F 0 0 166 [some (.ref 126), some (.ref 4), some (.int (nI T)), some (.int (nI f)), some (.int (nI t)), some (.int y), z6, z] [] (τ, sh b)) : ∀ n, n ≤ L → ∀ τ, WC σ τ P N T L n → ∀ z : Option Value, V G mX9_workOut (rl 3) F 0 0 149 [some (.ref 126), some (.ref 4), some (.int (nI T)), some (.int (nI f)), some (.int (nI t)), some (.int y), some (.int (nI n - 1)), z] [] (τ, sh b) := by
  obtain ⟨hP, hT, hL, hN⟩ := id hw
  intro n
  induction n with
  | zero =>
    intro _ τ hW z
    refine V_iload (pc := 149) d_X9_workOut_149 rfl ?_
    refine B_if_lt (pc := 151) 166 d_X9_workOut_151 (by decide) (fun c151 => ?_) (fun c151 => ?_)
    · exact hE _ hW _ _
    · exact absurd (by decide) c151
  | succ m ih =>
    intro hm τ hW z
    rw [nI_pred]
    refine V_iload (pc := 149) d_X9_workOut_149 rfl ?_
    refine B_if_lt (pc := 151) 166 d_X9_workOut_151 (by decide) (fun c151 => ?_) (fun c151 => ?_)
    · simp (disch := omega) only [nI_toInt, ti0, ti1, tim1, tim20, tim1000] at c151
      all_goals omega
    · simp (disch := omega) only [nI_toInt, ti0, ti1, tim1, tim20, tim1000] at c151
      refine V_aload_n (pc := 154) d_X9_workOut_154 rfl ?_
      refine V_iload (pc := 155) d_X9_workOut_155 rfl ?_
      refine V_cvV (pc := 157) (n := 2) (c := 9) [_] d_X9_workOut_157 c_X9_48 k_X9_workOutStep ⟨rfl, rfl⟩ (tt_126 b) rfl (Nat.le_of_ble_eq_true rfl) ⟨Nat.le_of_ble_eq_true rfl, Nat.le_of_ble_eq_true rfl⟩ ⟨Nat.le_refl _, Nat.le_refl _⟩ (ct_X9_workOutStep hw (by omega) hW.1.2.1.2 (hW.1.2.2 m (by omega)).1 (hW.1.2.2 m (by omega)).2 (WS_0 hW) (fun τ2 h9 => ?_))
      refine V_iinc (pc := 160) d_X9_workOut_160 rfl (by decide) ?_
      refine V_goto (pc := 163) 149 d_X9_workOut_163 (by decide) ?_
      rw [mm_s]
      exact ih (by omega) _ (WC_s hW h9) _
theorem ct_X9_workOut {P N : Nat → Nat} {T L f t : Nat} {q ns nb nl nt nr : Nat} (hR : RR σ 4 σ q ns nb nl nt nr) (hw : WP P N T L) (hL : L = wL f t) (hf : f ≤ ns) (ht : t ≤ ns) (hPr : ∀ k, k < L → σ (33 + 4 * lof f t k) 0 = nI (P k)) (hNs : ∀ k, k < L → longS σ (sof f t k) (q / 96) 0 = nI (N k)) (hk : ∀ τ, WC σ τ P N T L 0 → KV (τ, sh b)) : CM G mX9_workOut (rl 3) [.ref 126, .ref 4, .int (nI T), .int (nI f), .int (nI t)] (σ, sh b) (QV KV) := by
  have hn10 := hR.1.1.2.1
  have hW0 : W1 σ (up2 (up2 σ 126 1 (nI T)) 126 0 (nI L)) P N T L 0 := ⟨fun a i ha => by rw [up2_n (by omega), up2_n (by omega)], ⟨up2_y, by rw [up2_n (by decide), up2_y]⟩, fun k hk => absurd hk (by omega)⟩
  refine CM.of (by decide) (Nat.le_of_ble_eq_true rfl) (cats1 rfl) ?_
  refine V_aload_n (pc := 0) d_X9_workOut_0 rfl ?_
  refine V_iload_n (pc := 1) d_X9_workOut_1 rfl ?_
  refine P_putI (pc := 2) d_X9_workOut_2 f_X9_15 (tt_126 b) ?_
  refine V_aload_n (pc := 5) d_X9_workOut_5 rfl ?_
  refine V_iload (pc := 6) d_X9_workOut_6 rfl ?_
  refine V_iload_n (pc := 8) d_X9_workOut_8 rfl ?_
  refine V_isub (pc := 9) d_X9_workOut_9 ?_
  refine V_csI (pc := 10) (n := 1) [_] d_X9_workOut_10 c_X9_28 k_J_abs rfl (Nat.le_of_ble_eq_true rfl) ⟨Nat.le_of_ble_eq_true rfl, Nat.le_of_ble_eq_true rfl⟩ ⟨Nat.le_refl _, Nat.le_refl _⟩ (ct_J_abs ?_)
  rw [abs_wL (by omega) (by omega), ← hL]
  refine P_putI (pc := 13) d_X9_workOut_13 f_X9_9 (tt_126 b) ?_
  refine V_iload (pc := 16) d_X9_workOut_16 rfl ?_
  refine V_iload_n (pc := 18) d_X9_workOut_18 rfl ?_
  refine B_icmp_le (pc := 19) 26 d_X9_workOut_19 (by decide) (fun c19 => ?_) (fun c19 => ?_)
  · simp (disch := omega) only [nI_toInt, ti0, ti1, tim1, tim20, tim1000] at c19
    refine V_iconst (pc := 26) (0) d_X9_workOut_26 (by decide) ?_
    refine V_istore (pc := 27) d_X9_workOut_27 (by decide) ?_
    refine V_iconst (pc := 29) (0) d_X9_workOut_29 (by decide) ?_
    refine V_istore (pc := 30) d_X9_workOut_30 (by decide) ?_
    refine lp_wa0 (F := FM G (rl 3) (QV KV)) (P := P) (N := N) (T := T) (L := L) hR (by omega) hL hf ht hPr hNs (fun τ h1 z => ?_) L (Nat.le_refl _) 0 (by omega) _ hW0 _
    refine V_iconst (pc := 107) (0) d_X9_workOut_107 (by decide) ?_
    refine V_istore (pc := 108) d_X9_workOut_108 (by decide) ?_
    refine lp_wb (F := FM G (rl 3) (QV KV)) (P := P) (N := N) (L := L) hw (fun τ2 h2 z2 => ?_) (T + 1) (Nat.le_refl _) 0 (by omega) _ ⟨h1, fun c hc => absurd hc (by omega)⟩ _
    refine V_aload_n (pc := 141) d_X9_workOut_141 rfl ?_
    refine P_getI (pc := 142) d_X9_workOut_142 f_X9_9 (tt_126 b) ?_
    rw [h2.1.2.1.1]
    refine V_iconst (pc := 145) (1) d_X9_workOut_145 (by decide) ?_
    refine V_isub (pc := 146) d_X9_workOut_146 ?_
    refine V_istore (pc := 147) d_X9_workOut_147 (by decide) ?_
    refine lp_wc (F := FM G (rl 3) (QV KV)) (P := P) (N := N) (L := L) hw (fun τ3 h3 z6 z7 => ?_) L (Nat.le_refl _) _ (WC_L h2) _
    exact V_retV (pc := 166) d_X9_workOut_166 rfl ⟨Nat.le_refl _, Nat.le_refl _⟩ (hk τ3 h3)
  · simp (disch := omega) only [nI_toInt, ti0, ti1, tim1, tim20, tim1000] at c19
    refine V_iconst (pc := 22) (1) d_X9_workOut_22 (by decide) ?_
    refine V_goto (pc := 23) 27 d_X9_workOut_23 (by decide) ?_
    refine V_istore (pc := 27) d_X9_workOut_27 (by decide) ?_
    refine V_iconst (pc := 29) (0) d_X9_workOut_29 (by decide) ?_
    refine V_istore (pc := 30) d_X9_workOut_30 (by decide) ?_
    refine lp_wa1 (F := FM G (rl 3) (QV KV)) (P := P) (N := N) (T := T) (L := L) hR (by omega) hL hf ht hPr hNs (fun τ h1 z => ?_) L (Nat.le_refl _) 0 (by omega) _ hW0 _
    refine V_iconst (pc := 107) (0) d_X9_workOut_107 (by decide) ?_
    refine V_istore (pc := 108) d_X9_workOut_108 (by decide) ?_
    refine lp_wb (F := FM G (rl 3) (QV KV)) (P := P) (N := N) (L := L) hw (fun τ2 h2 z2 => ?_) (T + 1) (Nat.le_refl _) 0 (by omega) _ ⟨h1, fun c hc => absurd hc (by omega)⟩ _
    refine V_aload_n (pc := 141) d_X9_workOut_141 rfl ?_
    refine P_getI (pc := 142) d_X9_workOut_142 f_X9_9 (tt_126 b) ?_
    rw [h2.1.2.1.1]
    refine V_iconst (pc := 145) (1) d_X9_workOut_145 (by decide) ?_
    refine V_isub (pc := 146) d_X9_workOut_146 ?_
    refine V_istore (pc := 147) d_X9_workOut_147 (by decide) ?_
    refine lp_wc (F := FM G (rl 3) (QV KV)) (P := P) (N := N) (L := L) hw (fun τ3 h3 z6 z7 => ?_) L (Nat.le_refl _) _ (WC_L h2) _
    exact V_retV (pc := 166) d_X9_workOut_166 rfl ⟨Nat.le_refl _, Nat.le_refl _⟩ (hk τ3 h3)
theorem ct_X9_leastCost {P N : Nat → Nat} {T L : Nat} (hw : WP P N T L) (h0 : σ 129 0 = nI (eN (wv P N T L 0 0))) (hq : K (if wv P N T L 0 0 = 1000000000 then -1 else nI (wv P N T L 0 0)) (σ, sh b)) : CM G mX9_leastCost (rl 1) [.ref 126] (σ, sh b) (QI K) := by
  obtain ⟨hP, hT, hL, hN⟩ := hw
  have e0 := wv_b (N := N) hP hT hL 0 0
  refine CM.of (by decide) (Nat.le_of_ble_eq_true rfl) (cats1 rfl) ?_
  refine V_aload_n (pc := 0) d_X9_leastCost_0 rfl ?_
  refine P_getR (pc := 1) d_X9_leastCost_1 f_X9_25 (tt_126 b) (rr_126_4 b) ?_
  refine V_iconst (pc := 4) (0) d_X9_leastCost_4 (by decide) ?_
  refine P_iald (pc := 5) (0) d_X9_leastCost_5 (tt_129 b) (by decide) (ln_of (ll_129 b) ⟨by omega, by decide⟩) ?_
  rw [h0]
  refine V_ldc (pc := 6) d_X9_leastCost_6 l_X9_52 ?_
  refine V_icmp_ne (pc := 8) 15 d_X9_leastCost_8 (by decide) (fun c8 => ?_) (fun c8 => ?_)
  · rw [nwI e0] at c8
    refine V_aload_n (pc := 15) d_X9_leastCost_15 rfl ?_
    refine P_getR (pc := 16) d_X9_leastCost_16 f_X9_25 (tt_126 b) (rr_126_4 b) ?_
    refine V_iconst (pc := 19) (0) d_X9_leastCost_19 (by decide) ?_
    refine P_iald (pc := 20) (0) d_X9_leastCost_20 (tt_129 b) (by decide) (ln_of (ll_129 b) ⟨by omega, by decide⟩) ?_
    rw [h0, eN_lt (e0.resolve_left c8)]
    exact V_retI (pc := 21) d_X9_leastCost_21 rfl ⟨Nat.le_refl _, Nat.le_refl _⟩ (by first | (rw [if_neg c8] at hq; exact hq) | (rw [if_pos c8] at hq; exact hq))
  · rw [nwI e0] at c8
    refine V_iconst (pc := 11) (-1) d_X9_leastCost_11 (by decide) ?_
    refine V_goto (pc := 12) 21 d_X9_leastCost_12 (by decide) ?_
    exact V_retI (pc := 21) d_X9_leastCost_21 rfl ⟨Nat.le_refl _, Nat.le_refl _⟩ (by first | (rw [if_neg c8] at hq; exact hq) | (rw [if_pos c8] at hq; exact hq))
theorem lp_cf {P N : Nat → Nat} {T L k c : Nat} (hw : WP P N T L) (hk : k < L) (hc : c ≤ T) (e1 : σ 126 1 = nI T) (e2 : σ 127 k = nI (P k)) (e3 : σ 128 k = nI (N k)) (h5 : (∀ c, c ≤ T → σ 129 (100 * (k + 1) + c) = nI (eN (wv P N T L (k + 1) c)))) (hv : wv P N T L k c < 1000000000) (hq : K (nI (bR P N T L k c)) (σ, sh b)) : ∀ n, n ≤ bR P N T L k c → ∀ j, j + n = bR P N T L k c → ∀ z : Option Value, V G mX9_cordsFrom (rl 2) (FM G (rl 2) (QI K)) 0 0 15 [some (.ref 126), some (.int (nI k)), some (.int (nI c)), some (.int (nI (wv P N T L k c))), some (.int (nI j)), z] [] (σ, sh b) := by
  obtain ⟨hP, hT, hL, hN⟩ := id hw
  have g := bR_at hk hc hv
  have g2 := bR_von hk hv
  have hvb := (wv_b (N := N) hP hT hL k c).resolve_left (by omega)
  intro n
  induction n with
  | zero =>
    intro _ j hj z
    obtain rfl : j = bR P N T L k c := by omega
    have evo := von_b (d := N k) (c := c + bR P N T L k c) (wv_b (N := N) hP hT hL (k + 1))
    have hmul := mul99 (n := bR P N T L k c) (p := P k) (by omega) (hP k hk)
    refine V_iload_n (pc := 15) d_X9_cordsFrom_15 rfl ?_
    refine V_iload (pc := 16) d_X9_cordsFrom_16 rfl ?_
    refine V_iadd (pc := 18) d_X9_cordsFrom_18 ?_
    refine V_aload_n (pc := 19) d_X9_cordsFrom_19 rfl ?_
    refine P_getI (pc := 20) d_X9_cordsFrom_20 f_X9_15 (tt_126 b) ?_
    rw [e1]
    rw [nI_add]
    refine B_icmp_gt (pc := 23) 69 d_X9_cordsFrom_23 (by decide) (fun c23 => ?_) (fun c23 => ?_)
    · rw [nI_toInt (by omega), nI_toInt (by omega)] at c23
      omega
    · refine V_aload_n (pc := 26) d_X9_cordsFrom_26 rfl ?_
      refine V_iload_n (pc := 27) d_X9_cordsFrom_27 rfl ?_
      refine V_iload_n (pc := 28) d_X9_cordsFrom_28 rfl ?_
      refine V_iload (pc := 29) d_X9_cordsFrom_29 rfl ?_
      refine V_iadd (pc := 31) d_X9_cordsFrom_31 ?_
      rw [nI_add]
      refine V_cvI (pc := 32) (n := 1) (c := 9) [_, _] d_X9_cordsFrom_32 c_X9_53 k_X9_costOnward ⟨rfl, rfl⟩ (tt_126 b) rfl (Nat.le_of_ble_eq_true rfl) ⟨Nat.le_of_ble_eq_true rfl, Nat.le_of_ble_eq_true rfl⟩ ⟨Nat.le_refl _, Nat.le_refl _⟩ (ct_X9_costOnward hw hk (by omega) e3 h5 ?_)
      refine V_istore (pc := 35) d_X9_cordsFrom_35 (by decide) ?_
      refine V_iload (pc := 37) d_X9_cordsFrom_37 rfl ?_
      refine V_ldc (pc := 39) d_X9_cordsFrom_39 l_X9_52 ?_
      refine V_icmp_eq (pc := 41) 63 d_X9_cordsFrom_41 (by decide) (fun c41 => ?_) (fun c41 => ?_)
      · rw [nwI evo] at c41
        omega
      · rw [nwI evo] at c41
        refine V_iload (pc := 44) d_X9_cordsFrom_44 rfl ?_
        refine V_iload (pc := 46) d_X9_cordsFrom_46 rfl ?_
        refine V_aload_n (pc := 48) d_X9_cordsFrom_48 rfl ?_
        refine P_getR (pc := 49) d_X9_cordsFrom_49 f_X9_18 (tt_126 b) (rr_126_2 b) ?_
        refine V_iload_n (pc := 52) d_X9_cordsFrom_52 rfl ?_
        refine P_iald (pc := 53) (k) d_X9_cordsFrom_53 (tt_127 b) rfl (ln_of (ll_127 b) ⟨by omega, by decide⟩) ?_
        rw [e2]
        refine V_imul (pc := 54) d_X9_cordsFrom_54 ?_
        refine V_iadd (pc := 55) d_X9_cordsFrom_55 ?_
        rw [eN_lt (evo.resolve_left c41), pk_mul, nI_add]
        refine V_iload_n (pc := 56) d_X9_cordsFrom_56 rfl ?_
        refine V_icmp_ne (pc := 57) 63 d_X9_cordsFrom_57 (by decide) (fun c57 => ?_) (fun c57 => ?_)
        · rw [nI_eq (by omega) (by omega)] at c57
          omega
        · refine V_iload (pc := 60) d_X9_cordsFrom_60 rfl ?_
          exact V_retI (pc := 62) d_X9_cordsFrom_62 rfl ⟨Nat.le_refl _, Nat.le_refl _⟩ hq
  | succ n ih =>
    intro _ j hj z
    have evo := von_b (d := N k) (c := c + j) (wv_b (N := N) hP hT hL (k + 1))
    have hmul := mul99 (n := j) (p := P k) (by omega) (hP k hk)
    refine V_iload_n (pc := 15) d_X9_cordsFrom_15 rfl ?_
    refine V_iload (pc := 16) d_X9_cordsFrom_16 rfl ?_
    refine V_iadd (pc := 18) d_X9_cordsFrom_18 ?_
    refine V_aload_n (pc := 19) d_X9_cordsFrom_19 rfl ?_
    refine P_getI (pc := 20) d_X9_cordsFrom_20 f_X9_15 (tt_126 b) ?_
    rw [e1]
    rw [nI_add]
    refine B_icmp_gt (pc := 23) 69 d_X9_cordsFrom_23 (by decide) (fun c23 => ?_) (fun c23 => ?_)
    · rw [nI_toInt (by omega), nI_toInt (by omega)] at c23
      omega
    · refine V_aload_n (pc := 26) d_X9_cordsFrom_26 rfl ?_
      refine V_iload_n (pc := 27) d_X9_cordsFrom_27 rfl ?_
      refine V_iload_n (pc := 28) d_X9_cordsFrom_28 rfl ?_
      refine V_iload (pc := 29) d_X9_cordsFrom_29 rfl ?_
      refine V_iadd (pc := 31) d_X9_cordsFrom_31 ?_
      rw [nI_add]
      refine V_cvI (pc := 32) (n := 1) (c := 9) [_, _] d_X9_cordsFrom_32 c_X9_53 k_X9_costOnward ⟨rfl, rfl⟩ (tt_126 b) rfl (Nat.le_of_ble_eq_true rfl) ⟨Nat.le_of_ble_eq_true rfl, Nat.le_of_ble_eq_true rfl⟩ ⟨Nat.le_refl _, Nat.le_refl _⟩ (ct_X9_costOnward hw hk (by omega) e3 h5 ?_)
      refine V_istore (pc := 35) d_X9_cordsFrom_35 (by decide) ?_
      refine V_iload (pc := 37) d_X9_cordsFrom_37 rfl ?_
      refine V_ldc (pc := 39) d_X9_cordsFrom_39 l_X9_52 ?_
      refine V_icmp_eq (pc := 41) 63 d_X9_cordsFrom_41 (by decide) (fun c41 => ?_) (fun c41 => ?_)
      · rw [nwI evo] at c41
        refine V_iinc (pc := 63) d_X9_cordsFrom_63 rfl (by decide) ?_
        refine V_goto (pc := 66) 15 d_X9_cordsFrom_66 (by decide) ?_
        rw [p1_s]
        exact ih (by omega) (j + 1) (by omega) _
      · rw [nwI evo] at c41
        have hfi := bR_first hk (by omega : j < bR P N T L k c) (by omega)
        refine V_iload (pc := 44) d_X9_cordsFrom_44 rfl ?_
        refine V_iload (pc := 46) d_X9_cordsFrom_46 rfl ?_
        refine V_aload_n (pc := 48) d_X9_cordsFrom_48 rfl ?_
        refine P_getR (pc := 49) d_X9_cordsFrom_49 f_X9_18 (tt_126 b) (rr_126_2 b) ?_
        refine V_iload_n (pc := 52) d_X9_cordsFrom_52 rfl ?_
        refine P_iald (pc := 53) (k) d_X9_cordsFrom_53 (tt_127 b) rfl (ln_of (ll_127 b) ⟨by omega, by decide⟩) ?_
        rw [e2]
        refine V_imul (pc := 54) d_X9_cordsFrom_54 ?_
        refine V_iadd (pc := 55) d_X9_cordsFrom_55 ?_
        rw [eN_lt (evo.resolve_left c41), pk_mul, nI_add]
        refine V_iload_n (pc := 56) d_X9_cordsFrom_56 rfl ?_
        refine V_icmp_ne (pc := 57) 63 d_X9_cordsFrom_57 (by decide) (fun c57 => ?_) (fun c57 => ?_)
        · refine V_iinc (pc := 63) d_X9_cordsFrom_63 rfl (by decide) ?_
          refine V_goto (pc := 66) 15 d_X9_cordsFrom_66 (by decide) ?_
          rw [p1_s]
          exact ih (by omega) (j + 1) (by omega) _
        · rw [nI_eq (by omega) (by omega)] at c57
          omega
theorem ct_X9_cordsFrom {P N : Nat → Nat} {T L k c : Nat} (hw : WP P N T L) (hk : k < L) (hc : c ≤ T) (e1 : σ 126 1 = nI T) (e2 : σ 127 k = nI (P k)) (e3 : σ 128 k = nI (N k)) (h5 : (∀ c, c ≤ T → σ 129 (100 * (k + 1) + c) = nI (eN (wv P N T L (k + 1) c)))) (h4 : σ 129 (100 * k + c) = nI (eN (wv P N T L k c))) (hv : wv P N T L k c < 1000000000) (hq : K (nI (bR P N T L k c)) (σ, sh b)) : CM G mX9_cordsFrom (rl 2) [.ref 126, .int (nI k), .int (nI c)] (σ, sh b) (QI K) := by
  obtain ⟨hP, hT, hL, hN⟩ := id hw
  refine CM.of (by decide) (Nat.le_of_ble_eq_true rfl) (cats1 rfl) ?_
  refine V_aload_n (pc := 0) d_X9_cordsFrom_0 rfl ?_
  refine P_getR (pc := 1) d_X9_cordsFrom_1 f_X9_25 (tt_126 b) (rr_126_4 b) ?_
  refine V_iload_n (pc := 4) d_X9_cordsFrom_4 rfl ?_
  refine V_bipush (pc := 5) (nI 100) d_X9_cordsFrom_5 (by decide) ?_
  refine V_imul (pc := 7) d_X9_cordsFrom_7 ?_
  refine V_iload_n (pc := 8) d_X9_cordsFrom_8 rfl ?_
  refine V_iadd (pc := 9) d_X9_cordsFrom_9 ?_
  refine P_iald (pc := 10) (k * 100 + c) d_X9_cordsFrom_10 (tt_129 b) (by simp only [pk_mul, nI_add]) (ln_of (ll_129 b) ⟨by omega, by decide⟩) ?_
  rw [show k * 100 + c = 100 * k + c by omega, h4, eN_lt ((wv_b (N := N) hP hT hL k c).resolve_left (by omega))]
  refine V_istore_n (pc := 11) d_X9_cordsFrom_11 (by decide) ?_
  refine V_iconst (pc := 12) (0) d_X9_cordsFrom_12 (by decide) ?_
  refine V_istore (pc := 13) d_X9_cordsFrom_13 (by decide) ?_
  exact lp_cf hw hk hc e1 e2 e3 h5 hv hq _ (Nat.le_refl _) 0 (by omega) _
theorem lp_ca {ρ : Sg} {P N : Nat → Nat} {T L p : Nat} (hw : WP P N T L) (hW : WC ρ σ P N T L 0) (hp : p < L) (h0 : wv P N T L 0 0 < 1000000000) (hE : V G mX9_cordsAt (rl 3) F 0 0 58 [some (.ref 126), some (.int (nI p)), some (.int (nI (lvw P N T L p))), some (.int (nI p))] [] (σ, sh b)) : ∀ n, n ≤ p → ∀ j, j + n = p → V G mX9_cordsAt (rl 3) F 0 0 31 [some (.ref 126), some (.int (nI p)), some (.int (nI (lvw P N T L j))), some (.int (nI j))] [] (σ, sh b) := by
  obtain ⟨hP, hT, hL, hN⟩ := id hw
  intro n
  induction n with
  | zero =>
    intro _ j hj
    obtain rfl : j = p := by omega
    refine V_iload_n (pc := 31) d_X9_cordsAt_31 rfl ?_
    refine V_iload_n (pc := 32) d_X9_cordsAt_32 rfl ?_
    refine B_icmp_ge (pc := 33) 58 d_X9_cordsAt_33 (by decide) (fun c33 => ?_) (fun c33 => ?_)
    · simp (disch := omega) only [nI_toInt, ti0, ti1, tim1, tim20, tim1000] at c33
      exact hE
    · simp (disch := omega) only [nI_toInt, ti0, ti1, tim1, tim20, tim1000] at c33
      all_goals omega
  | succ n ih =>
    intro _ j hj
    have lo := lvw_ok h0 j (by omega)
    have g := bR_at (by omega : j < L) lo.1 lo.2
    refine V_iload_n (pc := 31) d_X9_cordsAt_31 rfl ?_
    refine V_iload_n (pc := 32) d_X9_cordsAt_32 rfl ?_
    refine B_icmp_ge (pc := 33) 58 d_X9_cordsAt_33 (by decide) (fun c33 => ?_) (fun c33 => ?_)
    · simp (disch := omega) only [nI_toInt, ti0, ti1, tim1, tim20, tim1000] at c33
      all_goals omega
    · simp (disch := omega) only [nI_toInt, ti0, ti1, tim1, tim20, tim1000] at c33
      refine V_iload_n (pc := 36) d_X9_cordsAt_36 rfl ?_
      refine V_aload_n (pc := 37) d_X9_cordsAt_37 rfl ?_
      refine V_iload_n (pc := 38) d_X9_cordsAt_38 rfl ?_
      refine V_iload_n (pc := 39) d_X9_cordsAt_39 rfl ?_
      refine V_cvI (pc := 40) (n := 2) (c := 9) [_, _] d_X9_cordsAt_40 c_X9_64 k_X9_cordsFrom ⟨rfl, rfl⟩ (tt_126 b) rfl (Nat.le_of_ble_eq_true rfl) ⟨Nat.le_of_ble_eq_true rfl, Nat.le_of_ble_eq_true rfl⟩ ⟨Nat.le_refl _, Nat.le_refl _⟩ (ct_X9_cordsFrom hw (by omega) lo.1 hW.1.2.1.2 (hW.1.2.2 _ (by omega)).1 (hW.1.2.2 _ (by omega)).2 (fun c hc => hW.2 _ _ (Nat.zero_le _) (by omega) hc) (hW.2 _ _ (Nat.zero_le _) (by omega) lo.1) lo.2 ?_)
      refine V_aload_n (pc := 43) d_X9_cordsAt_43 rfl ?_
      refine P_getR (pc := 44) d_X9_cordsAt_44 f_X9_22 (tt_126 b) (rr_126_3 b) ?_
      refine V_iload_n (pc := 47) d_X9_cordsAt_47 rfl ?_
      refine P_iald (pc := 48) (j) d_X9_cordsAt_48 (tt_128 b) rfl (ln_of (ll_128 b) ⟨by omega, by decide⟩) ?_
      rw [(hW.1.2.2 _ (by omega)).2]
      refine V_isub (pc := 49) d_X9_cordsAt_49 ?_
      refine V_iadd (pc := 50) d_X9_cordsAt_50 ?_
      rw [adds_nI (by omega)]
      show V G mX9_cordsAt (rl 3) F 0 0 51 _ [.int (nI (lvw P N T L (j + 1)))] _
      refine V_istore_n (pc := 51) d_X9_cordsAt_51 (by decide) ?_
      refine V_iinc (pc := 52) d_X9_cordsAt_52 rfl (by decide) ?_
      refine V_goto (pc := 55) 31 d_X9_cordsAt_55 (by decide) ?_
      rw [p1_s]
      exact ih (by omega) (j + 1) (by omega)
theorem ct_X9_cordsAt {ρ : Sg} {P N : Nat → Nat} {T L : Nat} {x : Int32} (hw : WP P N T L) (hW : WC ρ σ P N T L 0) (h1 : wv P N T L 0 0 = 1000000000 ∨ ¬ (∃ k, k < L ∧ x = nI k) → K (-1) (σ, sh b)) (h2 : ∀ k, k < L → x = nI k → wv P N T L 0 0 < 1000000000 → K (nI (bR P N T L k (lvw P N T L k))) (σ, sh b)) : CM G mX9_cordsAt (rl 3) [.ref 126, .int x] (σ, sh b) (QI K) := by
  obtain ⟨hP, hT, hL, hN⟩ := id hw
  have e0 := wv_b (N := N) hP hT hL 0 0
  have h0 := hW.2 0 0 (Nat.le_refl _) (Nat.zero_le _) (Nat.zero_le _)
  refine CM.of (by decide) (Nat.le_of_ble_eq_true rfl) (cats1 rfl) ?_
  refine V_iload_n (pc := 0) d_X9_cordsAt_0 rfl ?_
  refine V_iconst (pc := 1) (0) d_X9_cordsAt_1 (by decide) ?_
  refine V_aload_n (pc := 2) d_X9_cordsAt_2 rfl ?_
  refine P_getI (pc := 3) d_X9_cordsAt_3 f_X9_9 (tt_126 b) ?_
  refine V_iconst (pc := 6) (1) d_X9_cordsAt_6 (by decide) ?_
  refine V_isub (pc := 7) d_X9_cordsAt_7 ?_
  refine V_csI (pc := 8) (n := 1) [_, _, _] d_X9_cordsAt_8 c_X9_60 k_X11_isWithin rfl (Nat.le_of_ble_eq_true rfl) ⟨Nat.le_of_ble_eq_true rfl, Nat.le_of_ble_eq_true rfl⟩ ⟨Nat.le_refl _, Nat.le_refl _⟩ (ct_X11_isWithin (lo := 0) (hi := (L : Int) - 1) (by decide) (cntm1 hW.1.2.1.1 (by omega)) ?_)
  refine V_if_eq (pc := 11) 25 d_X9_cordsAt_11 (by decide) (fun c11 => ?_) (fun c11 => ?_)
  · replace c11 := zf c11
    refine V_iconst (pc := 25) (-1) d_X9_cordsAt_25 (by decide) ?_
    exact V_retI (pc := 26) d_X9_cordsAt_26 rfl ⟨Nat.le_refl _, Nat.le_refl _⟩ (by
            first
              | exact h1 (Or.inl c22)
              | exact h1 (Or.inr (by rintro ⟨k, g1, g2⟩; subst g2; rw [nI_toInt (by omega)] at c11; omega)))
  · replace c11 := zt c11
    obtain ⟨p, hp, rfl, -⟩ := nat_of (n := L) (x := x) (by omega) (by omega) (by omega)
    refine V_aload_n (pc := 14) d_X9_cordsAt_14 rfl ?_
    refine P_getR (pc := 15) d_X9_cordsAt_15 f_X9_25 (tt_126 b) (rr_126_4 b) ?_
    refine V_iconst (pc := 18) (0) d_X9_cordsAt_18 (by decide) ?_
    refine P_iald (pc := 19) (0) d_X9_cordsAt_19 (tt_129 b) (by decide) (ln_of (ll_129 b) ⟨by omega, by decide⟩) ?_
    rw [h0]
    refine V_ldc (pc := 20) d_X9_cordsAt_20 l_X9_52 ?_
    refine V_icmp_ne (pc := 22) 27 d_X9_cordsAt_22 (by decide) (fun c22 => ?_) (fun c22 => ?_)
    · rw [nwI e0] at c22
      have hz : wv P N T L 0 0 < 1000000000 := by omega
      have lo := lvw_ok hz p (by omega)
      refine V_iconst (pc := 27) (0) d_X9_cordsAt_27 (by decide) ?_
      refine V_istore_n (pc := 28) d_X9_cordsAt_28 (by decide) ?_
      refine V_iconst (pc := 29) (0) d_X9_cordsAt_29 (by decide) ?_
      refine V_istore_n (pc := 30) d_X9_cordsAt_30 (by decide) ?_
      refine lp_ca (F := FM G (rl 3) (QI K)) hw hW hp hz ?_ p (Nat.le_refl _) 0 (by omega)
      refine V_aload_n (pc := 58) d_X9_cordsAt_58 rfl ?_
      refine V_iload_n (pc := 59) d_X9_cordsAt_59 rfl ?_
      refine V_iload_n (pc := 60) d_X9_cordsAt_60 rfl ?_
      refine V_cvI (pc := 61) (n := 2) (c := 9) [_, _] d_X9_cordsAt_61 c_X9_64 k_X9_cordsFrom ⟨rfl, rfl⟩ (tt_126 b) rfl (Nat.le_of_ble_eq_true rfl) ⟨Nat.le_of_ble_eq_true rfl, Nat.le_of_ble_eq_true rfl⟩ ⟨Nat.le_refl _, Nat.le_refl _⟩ (ct_X9_cordsFrom hw (by omega) lo.1 hW.1.2.1.2 (hW.1.2.2 _ (by omega)).1 (hW.1.2.2 _ (by omega)).2 (fun c hc => hW.2 _ _ (Nat.zero_le _) (by omega) hc) (hW.2 _ _ (Nat.zero_le _) (by omega) lo.1) lo.2 ?_)
      exact V_retI (pc := 64) d_X9_cordsAt_64 rfl ⟨Nat.le_refl _, Nat.le_refl _⟩ (h2 p hp rfl hz)
    · rw [nwI e0] at c22
      refine V_iconst (pc := 25) (-1) d_X9_cordsAt_25 (by decide) ?_
      exact V_retI (pc := 26) d_X9_cordsAt_26 rfl ⟨Nat.le_refl _, Nat.le_refl _⟩ (by
            first
              | exact h1 (Or.inl c22)
              | exact h1 (Or.inr (by rintro ⟨k, g1, g2⟩; subst g2; rw [nI_toInt (by omega)] at c11; omega)))
theorem ct_X11_wooding {x y z : Int32} {q ns nb nl nt nr : Nat} (hR : RR σ 4 σ q ns nb nl nt nr) (h1 : ¬ (∃ i f t : Nat, i < nb ∧ f ≤ ns ∧ t ≤ ns ∧ x = nI i ∧ y = nI f ∧ z = nI t) → K (-1) (σ, sh b)) (h2 : ∀ i f t T : Nat, i < nb → f ≤ ns → t ≤ ns → x = nI i → y = nI f → z = nI t → σ 151 i = nI T → T ≤ 99 → ∀ τ, (∀ a j, ¬ (126 ≤ a ∧ a ≤ 129) → τ a j = σ a j) → K (if wv (wP σ f t) (wN σ f t (q / 96)) T (wL f t) 0 0 = 1000000000 then -1 else nI (wv (wP σ f t) (wN σ f t (q / 96)) T (wL f t) 0 0)) (τ, sh b)) : CM G mX11_wooding (rl 4) [.ref 3, .int x, .int y, .int z] (σ, sh b) (QI K) := by
  obtain ⟨⟨⟨hq2, hn10, hnb, hnl, hnt, hnr⟩, ⟨vq, vns, vnb, vnl, vnt, vnr⟩, ⟨rq, rns, rnb, rnl, rnt, rnr⟩, hpd⟩, hH, hC, hS, hLD, hB, hA, hT, hU⟩ := id hR
  refine CM.of (by decide) (Nat.le_of_ble_eq_true rfl) (cats1 rfl) ?_
  refine V_aload_n (pc := 0) d_X11_wooding_0 rfl ?_
  refine P_getR (pc := 1) d_X11_wooding_1 f_X11_10 (tt_3 b) (rr_3_0 b) ?_
  refine V_iload_n (pc := 4) d_X11_wooding_4 rfl ?_
  refine V_cvI (pc := 5) (n := 2) (c := 4) [_] d_X11_wooding_5 c_X11_136 k_X4_isBoat ⟨rfl, rfl⟩ (tt_4 b) rfl (Nat.le_of_ble_eq_true rfl) ⟨Nat.le_of_ble_eq_true rfl, Nat.le_of_ble_eq_true rfl⟩ ⟨Nat.le_refl _, Nat.le_refl _⟩ (ct_X4_isBoat rnb (by omega) ?_)
  refine V_if_eq (pc := 8) 33 d_X11_wooding_8 (by decide) (fun c8 => ?_) (fun c8 => ?_)
  · replace c8 := zf c8
    refine V_iconst (pc := 33) (-1) d_X11_wooding_33 (by decide) ?_
    exact V_retI (pc := 34) d_X11_wooding_34 rfl ⟨Nat.le_refl _, Nat.le_refl _⟩ (h1 (by
            rintro ⟨i', f', t', g1, g2, g3, g4, g5, g6⟩
            try subst g4
            try subst g5
            try subst g6
            simp (disch := omega) only [nI_toInt, nI_eq] at *
            omega))
  · replace c8 := zt c8
    obtain ⟨i, hi, rfl, -⟩ := nat_of (n := nb) (x := x) (by omega) (by omega) (by omega)
    refine V_aload_n (pc := 11) d_X11_wooding_11 rfl ?_
    refine P_getR (pc := 12) d_X11_wooding_12 f_X11_10 (tt_3 b) (rr_3_0 b) ?_
    refine V_iload_n (pc := 15) d_X11_wooding_15 rfl ?_
    refine V_cvI (pc := 16) (n := 2) (c := 4) [_] d_X11_wooding_16 c_X11_107 k_X4_isLanding ⟨rfl, rfl⟩ (tt_4 b) rfl (Nat.le_of_ble_eq_true rfl) ⟨Nat.le_of_ble_eq_true rfl, Nat.le_of_ble_eq_true rfl⟩ ⟨Nat.le_refl _, Nat.le_refl _⟩ (ct_X4_isLanding rns (by omega) ?_)
    refine V_if_eq (pc := 19) 33 d_X11_wooding_19 (by decide) (fun c19 => ?_) (fun c19 => ?_)
    · replace c19 := zf c19
      refine V_iconst (pc := 33) (-1) d_X11_wooding_33 (by decide) ?_
      exact V_retI (pc := 34) d_X11_wooding_34 rfl ⟨Nat.le_refl _, Nat.le_refl _⟩ (h1 (by
            rintro ⟨i', f', t', g1, g2, g3, g4, g5, g6⟩
            try subst g4
            try subst g5
            try subst g6
            simp (disch := omega) only [nI_toInt, nI_eq] at *
            omega))
    · replace c19 := zt c19
      obtain ⟨f, hf, rfl, -⟩ := nat_of (n := ns + 1) (x := y) (by omega) (by omega) (by omega)
      refine V_aload_n (pc := 22) d_X11_wooding_22 rfl ?_
      refine P_getR (pc := 23) d_X11_wooding_23 f_X11_10 (tt_3 b) (rr_3_0 b) ?_
      refine V_iload_n (pc := 26) d_X11_wooding_26 rfl ?_
      refine V_cvI (pc := 27) (n := 2) (c := 4) [_] d_X11_wooding_27 c_X11_107 k_X4_isLanding ⟨rfl, rfl⟩ (tt_4 b) rfl (Nat.le_of_ble_eq_true rfl) ⟨Nat.le_of_ble_eq_true rfl, Nat.le_of_ble_eq_true rfl⟩ ⟨Nat.le_refl _, Nat.le_refl _⟩ (ct_X4_isLanding rns (by omega) ?_)
      refine V_if_ne (pc := 30) 35 d_X11_wooding_30 (by decide) (fun c30 => ?_) (fun c30 => ?_)
      · replace c30 := zt c30
        obtain ⟨t, ht, rfl, -⟩ := nat_of (n := ns + 1) (x := z) (by omega) (by omega) (by omega)
        obtain ⟨T, T2, hT1, hT2, -, eT, -⟩ := (hB i hi).2.2.2.1
        have hw : WP (wP σ f t) (wN σ f t (q / 96)) T (wL f t) := WP_ok hLD hS hn10 (by omega) (by omega) hT2
        refine V_aload_n (pc := 35) d_X11_wooding_35 rfl ?_
        refine P_getR (pc := 36) d_X11_wooding_36 f_X11_42 (tt_3 b) (rr_3_6 b) ?_
        refine V_aload_n (pc := 39) d_X11_wooding_39 rfl ?_
        refine P_getR (pc := 40) d_X11_wooding_40 f_X11_10 (tt_3 b) (rr_3_0 b) ?_
        refine V_aload_n (pc := 43) d_X11_wooding_43 rfl ?_
        refine P_getR (pc := 44) d_X11_wooding_44 f_X11_10 (tt_3 b) (rr_3_0 b) ?_
        refine P_getR (pc := 47) d_X11_wooding_47 f_X11_113 (tt_4 b) (rr_4_12 b) ?_
        refine V_iload_n (pc := 50) d_X11_wooding_50 rfl ?_
        refine P_aald (pc := 51) (c := 2) (i) d_X11_wooding_51 (tt_9 b) (by decide) rfl (ln_of (ll_9 b) ⟨by omega, by decide⟩) (rB b (by omega)) ?_
        refine P_getI (pc := 52) d_X11_wooding_52 f_X11_212 (tB b (by omega)) ?_
        rw [(cB_f hB (by omega : i < nb)).2.2.1]
        rw [eT]
        refine V_iload_n (pc := 55) d_X11_wooding_55 rfl ?_
        refine V_iload_n (pc := 56) d_X11_wooding_56 rfl ?_
        refine V_cvV (pc := 57) (n := 3) (c := 9) [_, _, _, _] d_X11_wooding_57 c_X11_280 k_X9_workOut ⟨rfl, rfl⟩ (tt_126 b) rfl (Nat.le_of_ble_eq_true rfl) ⟨Nat.le_of_ble_eq_true rfl, Nat.le_of_ble_eq_true rfl⟩ ⟨Nat.le_refl _, Nat.le_refl _⟩ (ct_X9_workOut hR hw rfl (by omega) (by omega) (fun k hk => by
            have hp := wP_ok hLD hn10 hk (by omega) (by omega)
            exact ((hLD (lof f t k) (by have := lof_le hk (by omega : f ≤ ns) (by omega : t ≤ ns); omega)).1).trans hp.1) (fun k hk => (wN_ok hS hk (by omega) (by omega)).1) (fun τ hW => ?_))
        refine V_aload_n (pc := 60) d_X11_wooding_60 rfl ?_
        refine P_getR (pc := 61) d_X11_wooding_61 f_X11_42 (tt_3 b) (rr_3_6 b) ?_
        refine V_cvI (pc := 64) (n := 1) (c := 9) [] d_X11_wooding_64 c_X11_284 k_X9_leastCost ⟨rfl, rfl⟩ (tt_126 b) rfl (Nat.le_of_ble_eq_true rfl) ⟨Nat.le_of_ble_eq_true rfl, Nat.le_of_ble_eq_true rfl⟩ ⟨Nat.le_refl _, Nat.le_refl _⟩ (ct_X9_leastCost hw (hW.2 0 0 (Nat.le_refl _) (Nat.zero_le _) (Nat.zero_le _)) ?_)
        exact V_retI (pc := 67) d_X11_wooding_67 rfl ⟨Nat.le_refl _, Nat.le_refl _⟩ (h2 i f t T hi (by omega) (by omega) rfl rfl rfl eT hT2 τ hW.1.1)
      · replace c30 := zf c30
        refine V_iconst (pc := 33) (-1) d_X11_wooding_33 (by decide) ?_
        exact V_retI (pc := 34) d_X11_wooding_34 rfl ⟨Nat.le_refl _, Nat.le_refl _⟩ (h1 (by
            rintro ⟨i', f', t', g1, g2, g3, g4, g5, g6⟩
            try subst g4
            try subst g5
            try subst g6
            simp (disch := omega) only [nI_toInt, nI_eq] at *
            omega))
theorem ct_X11_bought {x y z w : Int32} {q ns nb nl nt nr : Nat} (hR : RR σ 4 σ q ns nb nl nt nr) (h1 : ¬ (∃ i f t : Nat, i < nb ∧ f ≤ ns ∧ t ≤ ns ∧ x = nI i ∧ y = nI f ∧ z = nI t) → K (-1) (σ, sh b)) (h2 : ∀ i f t T : Nat, i < nb → f ≤ ns → t ≤ ns → x = nI i → y = nI f → z = nI t → σ 151 i = nI T → T ≤ 99 → ∀ τ, (∀ a j, ¬ (126 ≤ a ∧ a ≤ 129) → τ a j = σ a j) → K (if wv (wP σ f t) (wN σ f t (q / 96)) T (wL f t) 0 0 = 1000000000 ∨ ¬ (0 ≤ w.toInt ∧ w.toInt ≤ (wL f t : Int) - 1) then -1 else nI (bR (wP σ f t) (wN σ f t (q / 96)) T (wL f t) w.toNatClampNeg (lvw (wP σ f t) (wN σ f t (q / 96)) T (wL f t) w.toNatClampNeg))) (τ, sh b)) : CM G mX11_bought (rl 4) [.ref 3, .int x, .int y, .int z, .int w] (σ, sh b) (QI K) := by
  obtain ⟨⟨⟨hq2, hn10, hnb, hnl, hnt, hnr⟩, ⟨vq, vns, vnb, vnl, vnt, vnr⟩, ⟨rq, rns, rnb, rnl, rnt, rnr⟩, hpd⟩, hH, hC, hS, hLD, hB, hA, hT, hU⟩ := id hR
  refine CM.of (by decide) (Nat.le_of_ble_eq_true rfl) (cats1 rfl) ?_
  refine V_aload_n (pc := 0) d_X11_bought_0 rfl ?_
  refine P_getR (pc := 1) d_X11_bought_1 f_X11_10 (tt_3 b) (rr_3_0 b) ?_
  refine V_iload_n (pc := 4) d_X11_bought_4 rfl ?_
  refine V_cvI (pc := 5) (n := 2) (c := 4) [_] d_X11_bought_5 c_X11_136 k_X4_isBoat ⟨rfl, rfl⟩ (tt_4 b) rfl (Nat.le_of_ble_eq_true rfl) ⟨Nat.le_of_ble_eq_true rfl, Nat.le_of_ble_eq_true rfl⟩ ⟨Nat.le_refl _, Nat.le_refl _⟩ (ct_X4_isBoat rnb (by omega) ?_)
  refine V_if_eq (pc := 8) 33 d_X11_bought_8 (by decide) (fun c8 => ?_) (fun c8 => ?_)
  · replace c8 := zf c8
    refine V_iconst (pc := 33) (-1) d_X11_bought_33 (by decide) ?_
    exact V_retI (pc := 34) d_X11_bought_34 rfl ⟨Nat.le_refl _, Nat.le_refl _⟩ (h1 (by
            rintro ⟨i', f', t', g1, g2, g3, g4, g5, g6⟩
            try subst g4
            try subst g5
            try subst g6
            simp (disch := omega) only [nI_toInt, nI_eq] at *
            omega))
  · replace c8 := zt c8
    obtain ⟨i, hi, rfl, -⟩ := nat_of (n := nb) (x := x) (by omega) (by omega) (by omega)
    refine V_aload_n (pc := 11) d_X11_bought_11 rfl ?_
    refine P_getR (pc := 12) d_X11_bought_12 f_X11_10 (tt_3 b) (rr_3_0 b) ?_
    refine V_iload_n (pc := 15) d_X11_bought_15 rfl ?_
    refine V_cvI (pc := 16) (n := 2) (c := 4) [_] d_X11_bought_16 c_X11_107 k_X4_isLanding ⟨rfl, rfl⟩ (tt_4 b) rfl (Nat.le_of_ble_eq_true rfl) ⟨Nat.le_of_ble_eq_true rfl, Nat.le_of_ble_eq_true rfl⟩ ⟨Nat.le_refl _, Nat.le_refl _⟩ (ct_X4_isLanding rns (by omega) ?_)
    refine V_if_eq (pc := 19) 33 d_X11_bought_19 (by decide) (fun c19 => ?_) (fun c19 => ?_)
    · replace c19 := zf c19
      refine V_iconst (pc := 33) (-1) d_X11_bought_33 (by decide) ?_
      exact V_retI (pc := 34) d_X11_bought_34 rfl ⟨Nat.le_refl _, Nat.le_refl _⟩ (h1 (by
            rintro ⟨i', f', t', g1, g2, g3, g4, g5, g6⟩
            try subst g4
            try subst g5
            try subst g6
            simp (disch := omega) only [nI_toInt, nI_eq] at *
            omega))
    · replace c19 := zt c19
      obtain ⟨f, hf, rfl, -⟩ := nat_of (n := ns + 1) (x := y) (by omega) (by omega) (by omega)
      refine V_aload_n (pc := 22) d_X11_bought_22 rfl ?_
      refine P_getR (pc := 23) d_X11_bought_23 f_X11_10 (tt_3 b) (rr_3_0 b) ?_
      refine V_iload_n (pc := 26) d_X11_bought_26 rfl ?_
      refine V_cvI (pc := 27) (n := 2) (c := 4) [_] d_X11_bought_27 c_X11_107 k_X4_isLanding ⟨rfl, rfl⟩ (tt_4 b) rfl (Nat.le_of_ble_eq_true rfl) ⟨Nat.le_of_ble_eq_true rfl, Nat.le_of_ble_eq_true rfl⟩ ⟨Nat.le_refl _, Nat.le_refl _⟩ (ct_X4_isLanding rns (by omega) ?_)
      refine V_if_ne (pc := 30) 35 d_X11_bought_30 (by decide) (fun c30 => ?_) (fun c30 => ?_)
      · replace c30 := zt c30
        obtain ⟨t, ht, rfl, -⟩ := nat_of (n := ns + 1) (x := z) (by omega) (by omega) (by omega)
        obtain ⟨T, T2, hT1, hT2, -, eT, -⟩ := (hB i hi).2.2.2.1
        have hw : WP (wP σ f t) (wN σ f t (q / 96)) T (wL f t) := WP_ok hLD hS hn10 (by omega) (by omega) hT2
        refine V_aload_n (pc := 35) d_X11_bought_35 rfl ?_
        refine P_getR (pc := 36) d_X11_bought_36 f_X11_42 (tt_3 b) (rr_3_6 b) ?_
        refine V_aload_n (pc := 39) d_X11_bought_39 rfl ?_
        refine P_getR (pc := 40) d_X11_bought_40 f_X11_10 (tt_3 b) (rr_3_0 b) ?_
        refine V_aload_n (pc := 43) d_X11_bought_43 rfl ?_
        refine P_getR (pc := 44) d_X11_bought_44 f_X11_10 (tt_3 b) (rr_3_0 b) ?_
        refine P_getR (pc := 47) d_X11_bought_47 f_X11_113 (tt_4 b) (rr_4_12 b) ?_
        refine V_iload_n (pc := 50) d_X11_bought_50 rfl ?_
        refine P_aald (pc := 51) (c := 2) (i) d_X11_bought_51 (tt_9 b) (by decide) rfl (ln_of (ll_9 b) ⟨by omega, by decide⟩) (rB b (by omega)) ?_
        refine P_getI (pc := 52) d_X11_bought_52 f_X11_212 (tB b (by omega)) ?_
        rw [(cB_f hB (by omega : i < nb)).2.2.1]
        rw [eT]
        refine V_iload_n (pc := 55) d_X11_bought_55 rfl ?_
        refine V_iload_n (pc := 56) d_X11_bought_56 rfl ?_
        refine V_cvV (pc := 57) (n := 3) (c := 9) [_, _, _, _] d_X11_bought_57 c_X11_280 k_X9_workOut ⟨rfl, rfl⟩ (tt_126 b) rfl (Nat.le_of_ble_eq_true rfl) ⟨Nat.le_of_ble_eq_true rfl, Nat.le_of_ble_eq_true rfl⟩ ⟨Nat.le_refl _, Nat.le_refl _⟩ (ct_X9_workOut hR hw rfl (by omega) (by omega) (fun k hk => by
            have hp := wP_ok hLD hn10 hk (by omega) (by omega)
            exact ((hLD (lof f t k) (by have := lof_le hk (by omega : f ≤ ns) (by omega : t ≤ ns); omega)).1).trans hp.1) (fun k hk => (wN_ok hS hk (by omega) (by omega)).1) (fun τ hW => ?_))
        refine V_aload_n (pc := 60) d_X11_bought_60 rfl ?_
        refine P_getR (pc := 61) d_X11_bought_61 f_X11_42 (tt_3 b) (rr_3_6 b) ?_
        refine V_iload (pc := 64) d_X11_bought_64 rfl ?_
        refine V_cvI (pc := 66) (n := 3) (c := 9) [_] d_X11_bought_66 c_X11_287 k_X9_cordsAt ⟨rfl, rfl⟩ (tt_126 b) rfl (Nat.le_of_ble_eq_true rfl) ⟨Nat.le_of_ble_eq_true rfl, Nat.le_of_ble_eq_true rfl⟩ ⟨Nat.le_refl _, Nat.le_refl _⟩ (ct_X9_cordsAt hw hW (fun g => ?_) (fun k g1 g2 g3 => ?_))
        · have k := h2 i f t T hi (by omega) (by omega) rfl rfl rfl eT hT2 τ hW.1.1
          rw [if_pos (by
            rcases g with g | g
            · exact Or.inl g
            · exact Or.inr (fun q => g (by
                obtain ⟨k, e1, e2, -⟩ := nat_of (n := wL f t) q.1 q.2 (by have := wL_le (by omega : f ≤ ns) (by omega : t ≤ ns); omega)
                exact ⟨k, e1, e2⟩)))] at k
          exact V_retI (pc := 69) d_X11_bought_69 rfl ⟨Nat.le_refl _, Nat.le_refl _⟩ k
        · have k2 := h2 i f t T hi (by omega) (by omega) rfl rfl rfl eT hT2 τ hW.1.1
          have hwl := wL_le (by omega : f ≤ ns) (by omega : t ≤ ns)
          subst g2
          rw [if_neg (by rw [nI_toInt (by omega)]; omega), nI_clamp (by omega)] at k2
          exact V_retI (pc := 69) d_X11_bought_69 rfl ⟨Nat.le_refl _, Nat.le_refl _⟩ k2
      · replace c30 := zf c30
        refine V_iconst (pc := 33) (-1) d_X11_bought_33 (by decide) ?_
        exact V_retI (pc := 34) d_X11_bought_34 rfl ⟨Nat.le_refl _, Nat.le_refl _⟩ (h1 (by
            rintro ⟨i', f', t', g1, g2, g3, g4, g5, g6⟩
            try subst g4
            try subst g5
            try subst g6
            simp (disch := omega) only [nI_toInt, nI_eq] at *
            omega))
theorem ct_X12_landingOf {f t i : Nat} (hf : f ≤ 10) (ht : t ≤ 10) (hi : i < wL f t) (hq : K (nI (lof f t i)) (σ, sh b)) : CM G mX12_landingOf (rl 1) [.int (nI f), .int (nI t), .int (nI i)] (σ, sh b) (QI K) := by
  unfold wL at hi
  have hi2 : (f < t → i < t - f) ∧ (¬ f < t → i < f - t) := by split at hi <;> omega
  refine CM.of (by decide) (Nat.le_of_ble_eq_true rfl) (cats1 rfl) ?_
  refine V_iload_n (pc := 0) d_X12_landingOf_0 rfl ?_
  refine V_iload_n (pc := 1) d_X12_landingOf_1 rfl ?_
  refine B_icmp_ge (pc := 2) 11 d_X12_landingOf_2 (by decide) (fun c2 => ?_) (fun c2 => ?_)
  · simp (disch := omega) only [nI_toInt, ti0, ti1, tim1, tim20, tim1000] at c2
    refine V_iload_n (pc := 11) d_X12_landingOf_11 rfl ?_
    refine V_iload_n (pc := 12) d_X12_landingOf_12 rfl ?_
    refine V_isub (pc := 13) d_X12_landingOf_13 ?_
    exact V_retI (pc := 14) d_X12_landingOf_14 rfl ⟨Nat.le_refl _, Nat.le_refl _⟩ (by first | (rw [lof, if_neg (by omega), ← pk_sub (by omega)] at hq; exact hq) | (rw [lof, if_pos (by omega), ← nI_add] at hq; exact hq))
  · simp (disch := omega) only [nI_toInt, ti0, ti1, tim1, tim20, tim1000] at c2
    refine V_iload_n (pc := 5) d_X12_landingOf_5 rfl ?_
    refine V_iload_n (pc := 6) d_X12_landingOf_6 rfl ?_
    refine V_iadd (pc := 7) d_X12_landingOf_7 ?_
    refine V_goto (pc := 8) 14 d_X12_landingOf_8 (by decide) ?_
    exact V_retI (pc := 14) d_X12_landingOf_14 rfl ⟨Nat.le_refl _, Nat.le_refl _⟩ (by first | (rw [lof, if_neg (by omega), ← pk_sub (by omega)] at hq; exact hq) | (rw [lof, if_pos (by omega), ← nI_add] at hq; exact hq))
theorem ct_X12_stretchOf {f t i : Nat} (hf : f ≤ 10) (ht : t ≤ 10) (hi : i < wL f t) (hq : K (nI (sof f t i)) (σ, sh b)) : CM G mX12_stretchOf (rl 1) [.int (nI f), .int (nI t), .int (nI i)] (σ, sh b) (QI K) := by
  unfold wL at hi
  have hi2 : (f < t → i < t - f) ∧ (¬ f < t → i < f - t) := by split at hi <;> omega
  refine CM.of (by decide) (Nat.le_of_ble_eq_true rfl) (cats1 rfl) ?_
  refine V_iload_n (pc := 0) d_X12_stretchOf_0 rfl ?_
  refine V_iload_n (pc := 1) d_X12_stretchOf_1 rfl ?_
  refine B_icmp_ge (pc := 2) 11 d_X12_stretchOf_2 (by decide) (fun c2 => ?_) (fun c2 => ?_)
  · simp (disch := omega) only [nI_toInt, ti0, ti1, tim1, tim20, tim1000] at c2
    refine V_iload_n (pc := 11) d_X12_stretchOf_11 rfl ?_
    refine V_iload_n (pc := 12) d_X12_stretchOf_12 rfl ?_
    refine V_isub (pc := 13) d_X12_stretchOf_13 ?_
    refine V_iconst (pc := 14) (1) d_X12_stretchOf_14 (by decide) ?_
    refine V_isub (pc := 15) d_X12_stretchOf_15 ?_
    exact V_retI (pc := 16) d_X12_stretchOf_16 rfl ⟨Nat.le_refl _, Nat.le_refl _⟩ (by first | (rw [sof, if_neg (by omega), ← wy_sub (c := 1) (by omega) (by omega), ← pk_sub (by omega)] at hq; exact hq) | (rw [sof, if_pos (by omega), ← nI_add] at hq; exact hq))
  · simp (disch := omega) only [nI_toInt, ti0, ti1, tim1, tim20, tim1000] at c2
    refine V_iload_n (pc := 5) d_X12_stretchOf_5 rfl ?_
    refine V_iload_n (pc := 6) d_X12_stretchOf_6 rfl ?_
    refine V_iadd (pc := 7) d_X12_stretchOf_7 ?_
    refine V_goto (pc := 8) 16 d_X12_stretchOf_8 (by decide) ?_
    exact V_retI (pc := 16) d_X12_stretchOf_16 rfl ⟨Nat.le_refl _, Nat.le_refl _⟩ (by first | (rw [sof, if_neg (by omega), ← wy_sub (c := 1) (by omega) (by omega), ← pk_sub (by omega)] at hq; exact hq) | (rw [sof, if_pos (by omega), ← nI_add] at hq; exact hq))
theorem lp_bu {P N : Nat → Nat} {T L e i c f t : Nat} (hw : WP P N T L) (hi : i < L) (hc : c ≤ T) (he : e < 5) (hTk : σ 151 e = nI T) (hrow : (∀ c, c ≤ T → σ 172 (100 * (i + 1) + c) = nI (wv P N T L (i + 1) c))) (hE : ∀ z : Option Value, V G mX12_buysAt (rl 3) F 0 0 141 [some (.ref 139), some (.int (nI e)), some (.int (nI i)), some (.int (nI c)), some (.int (nI f)), some (.int (nI t)), some (.int (nI (P i))), some (.int (nI (N i))), some (.int (nI (bmf (wv P N T L (i + 1)) (P i) (N i) c (kmx (P i) T c)).1)), some (.int (nI (bmf (wv P N T L (i + 1)) (P i) (N i) c (kmx (P i) T c)).2)), some (.int (nI (kmx (P i) T c))), z] [] (σ, sh b)) : ∀ n, n ≤ kmx (P i) T c → ∀ j, j + n = kmx (P i) T c → ∀ z : Option Value, V G mX12_buysAt (rl 3) F 0 0 41 [some (.ref 139), some (.int (nI e)), some (.int (nI i)), some (.int (nI c)), some (.int (nI f)), some (.int (nI t)), some (.int (nI (P i))), some (.int (nI (N i))), some (.int (nI (bmf (wv P N T L (i + 1)) (P i) (N i) c j).1)), some (.int (nI (bmf (wv P N T L (i + 1)) (P i) (N i) c j).2)), some (.int (nI j)), z] [] (σ, sh b) := by
  obtain ⟨hP, hT, hL, hN⟩ := id hw
  have hPi := hP i hi
  have hNi := hN i hi
  have hkm := kmx_le (p := P i) (c := c) hT
  intro n
  induction n with
  | zero =>
    intro _ j hj z
    obtain rfl : j = kmx (P i) T c := by omega
    refine V_iload_n (pc := 41) d_X12_buysAt_41 rfl ?_
    refine V_iload (pc := 42) d_X12_buysAt_42 rfl ?_
    refine V_iadd (pc := 44) d_X12_buysAt_44 ?_
    refine V_aload_n (pc := 45) d_X12_buysAt_45 rfl ?_
    refine P_getR (pc := 46) d_X12_buysAt_46 f_X12_44 (tt_139 b) (rr_139_15 b) ?_
    refine V_iload_n (pc := 49) d_X12_buysAt_49 rfl ?_
    refine P_iald (pc := 50) (e) d_X12_buysAt_50 (tt_151 b) rfl (ln_of (ll_151 b) ⟨by omega, by decide⟩) ?_
    rw [hTk]
    rw [nI_add]
    refine B_icmp_gt (pc := 51) 141 d_X12_buysAt_51 (by decide) (fun c51 => ?_) (fun c51 => ?_)
    · exact hE _
    · rw [nI_toInt (by omega), nI_toInt (by omega)] at c51
      refine V_iload (pc := 54) d_X12_buysAt_54 rfl ?_
      refine V_if_eq (pc := 56) 64 d_X12_buysAt_56 (by decide) (fun c56 => ?_) (fun c56 => ?_)
      · rw [nI_eq0 (by omega)] at c56
        unfold kmx at c56
        split at c56 <;> omega
      · refine V_iload (pc := 59) d_X12_buysAt_59 rfl ?_
        refine B_if_le (pc := 61) 141 d_X12_buysAt_61 (by decide) (fun c61 => ?_) (fun c61 => ?_)
        · exact hE _
        · rw [nI_toInt (by omega)] at c61
          rw [kmx, if_neg (by omega)] at c51
          omega
  | succ n ih =>
    intro _ j hj z
    have hj1 : c + j ≤ T ∧ (P i = 0 → j = 0) := by
      have hjk : j < kmx (P i) T c := by omega
      unfold kmx at hjk
      split at hjk <;> omega
    have evo := von_b (d := N i) (c := c + j) (wv_b (N := N) hP hT hL (i + 1))
    have ebm := bmf_b (d := N i) (c := c) (wv_b (N := N) hP hT hL (i + 1)) hPi j (by omega)
    have hmul := mul99 (n := j) (p := P i) (by omega) hPi
    have stp : ∀ r, (bmf (wv P N T L (i + 1)) (P i) (N i) c (j + 1)) = r → ∀ z : Option Value, V G mX12_buysAt (rl 3) F 0 0 41 [some (.ref 139), some (.int (nI e)), some (.int (nI i)), some (.int (nI c)), some (.int (nI f)), some (.int (nI t)), some (.int (nI (P i))), some (.int (nI (N i))), some (.int (nI r.1)), some (.int (nI r.2)), some (.int (nI (j + 1))), z] [] (σ, sh b) := fun r e1 z => by
      have k := ih (by omega) (j + 1) (by omega) z
      rw [e1] at k
      exact k
    refine V_iload_n (pc := 41) d_X12_buysAt_41 rfl ?_
    refine V_iload (pc := 42) d_X12_buysAt_42 rfl ?_
    refine V_iadd (pc := 44) d_X12_buysAt_44 ?_
    refine V_aload_n (pc := 45) d_X12_buysAt_45 rfl ?_
    refine P_getR (pc := 46) d_X12_buysAt_46 f_X12_44 (tt_139 b) (rr_139_15 b) ?_
    refine V_iload_n (pc := 49) d_X12_buysAt_49 rfl ?_
    refine P_iald (pc := 50) (e) d_X12_buysAt_50 (tt_151 b) rfl (ln_of (ll_151 b) ⟨by omega, by decide⟩) ?_
    rw [hTk]
    rw [nI_add]
    refine B_icmp_gt (pc := 51) 141 d_X12_buysAt_51 (by decide) (fun c51 => ?_) (fun c51 => ?_)
    · rw [nI_toInt (by omega), nI_toInt (by omega)] at c51
      omega
    · rw [nI_toInt (by omega), nI_toInt (by omega)] at c51
      refine V_iload (pc := 54) d_X12_buysAt_54 rfl ?_
      refine V_if_eq (pc := 56) 64 d_X12_buysAt_56 (by decide) (fun c56 => ?_) (fun c56 => ?_)
      · refine V_iload_n (pc := 64) d_X12_buysAt_64 rfl ?_
        refine V_iload (pc := 65) d_X12_buysAt_65 rfl ?_
        refine V_iadd (pc := 67) d_X12_buysAt_67 ?_
        refine V_iload (pc := 68) d_X12_buysAt_68 rfl ?_
        rw [nI_add]
        refine B_icmp_ge (pc := 70) 79 d_X12_buysAt_70 (by decide) (fun c70 => ?_) (fun c70 => ?_)
        · rw [nI_toInt (by omega), nI_toInt (by omega)] at c70
          refine V_aload_n (pc := 79) d_X12_buysAt_79 rfl ?_
          refine P_getR (pc := 80) d_X12_buysAt_80 f_X12_107 (tt_139 b) (rr_139_40 b) ?_
          refine V_bipush (pc := 83) (nI 100) d_X12_buysAt_83 (by decide) ?_
          refine V_iload_n (pc := 85) d_X12_buysAt_85 rfl ?_
          refine V_iconst (pc := 86) (1) d_X12_buysAt_86 (by decide) ?_
          refine V_iadd (pc := 87) d_X12_buysAt_87 ?_
          refine V_imul (pc := 88) d_X12_buysAt_88 ?_
          refine V_iload_n (pc := 89) d_X12_buysAt_89 rfl ?_
          refine V_iadd (pc := 90) d_X12_buysAt_90 ?_
          refine V_iload (pc := 91) d_X12_buysAt_91 rfl ?_
          refine V_iadd (pc := 93) d_X12_buysAt_93 ?_
          refine V_iload (pc := 94) d_X12_buysAt_94 rfl ?_
          refine V_isub (pc := 96) d_X12_buysAt_96 ?_
          rw [show nI 100 * (nI i + 1) + nI c + nI j - nI (N i) = nI (100 * (i + 1) + (c + j - N i)) by rw [nI_1, pk_mul, nI_add, nI_add, pk_sub (by omega)]; congr 1; omega]
          refine P_iald (pc := 97) (100 * (i + 1) + (c + j - N i)) d_X12_buysAt_97 (tt_172 b) rfl (ln_of (ll_172 b) ⟨by omega, by decide⟩) ?_
          rw [hrow _ (by omega)]
          rw [show nI (wv P N T L (i + 1) (c + j - N i)) = nI (von (wv P N T L (i + 1)) (N i) (c + j)) by rw [von, if_neg (by omega)]]
          refine V_istore (pc := 98) d_X12_buysAt_98 (by decide) ?_
          refine V_iload (pc := 100) d_X12_buysAt_100 rfl ?_
          refine V_ldcw (pc := 102) d_X12_buysAt_102 l_X12_273 ?_
          refine B_icmp_ge (pc := 105) 135 d_X12_buysAt_105 (by decide) (fun c105 => ?_) (fun c105 => ?_)
          · rw [show (1000000000 : Int32).toInt = 1000000000 from by decide, nI_toInt (by omega)] at c105
            refine V_iinc (pc := 135) d_X12_buysAt_135 rfl (by decide) ?_
            refine V_goto (pc := 138) 41 d_X12_buysAt_138 (by decide) ?_
            rw [p1_s]
            first | exact stp _ (bmf_n (by omega)) _ | exact stp (_, j) (bmf_y ⟨by omega, by omega⟩) _
          · rw [show (1000000000 : Int32).toInt = 1000000000 from by decide, nI_toInt (by omega)] at c105
            refine V_iload (pc := 108) d_X12_buysAt_108 rfl ?_
            refine V_iload (pc := 110) d_X12_buysAt_110 rfl ?_
            refine V_iload (pc := 112) d_X12_buysAt_112 rfl ?_
            refine V_imul (pc := 114) d_X12_buysAt_114 ?_
            refine V_iadd (pc := 115) d_X12_buysAt_115 ?_
            refine V_iload (pc := 116) d_X12_buysAt_116 rfl ?_
            rw [pk_mul, nI_add]
            refine B_icmp_ge (pc := 118) 135 d_X12_buysAt_118 (by decide) (fun c118 => ?_) (fun c118 => ?_)
            · rw [nI_toInt (by omega), nI_toInt (by omega)] at c118
              refine V_iinc (pc := 135) d_X12_buysAt_135 rfl (by decide) ?_
              refine V_goto (pc := 138) 41 d_X12_buysAt_138 (by decide) ?_
              rw [p1_s]
              first | exact stp _ (bmf_n (by omega)) _ | exact stp (_, j) (bmf_y ⟨by omega, by omega⟩) _
            · rw [nI_toInt (by omega), nI_toInt (by omega)] at c118
              refine V_iload (pc := 121) d_X12_buysAt_121 rfl ?_
              refine V_iload (pc := 123) d_X12_buysAt_123 rfl ?_
              refine V_iload (pc := 125) d_X12_buysAt_125 rfl ?_
              refine V_imul (pc := 127) d_X12_buysAt_127 ?_
              refine V_iadd (pc := 128) d_X12_buysAt_128 ?_
              rw [pk_mul, nI_add]
              refine V_istore (pc := 129) d_X12_buysAt_129 (by decide) ?_
              refine V_iload (pc := 131) d_X12_buysAt_131 rfl ?_
              refine V_istore (pc := 133) d_X12_buysAt_133 (by decide) ?_
              refine V_iinc (pc := 135) d_X12_buysAt_135 rfl (by decide) ?_
              refine V_goto (pc := 138) 41 d_X12_buysAt_138 (by decide) ?_
              rw [p1_s]
              first | exact stp _ (bmf_n (by omega)) _ | exact stp (_, j) (bmf_y ⟨by omega, by omega⟩) _
        · rw [nI_toInt (by omega), nI_toInt (by omega)] at c70
          refine V_ldcw (pc := 73) d_X12_buysAt_73 l_X12_273 ?_
          refine V_goto (pc := 76) 98 d_X12_buysAt_76 (by decide) ?_
          rw [show (1000000000 : Int32) = nI (von (wv P N T L (i + 1)) (N i) (c + j)) by rw [von, if_pos (by omega)]; rfl]
          refine V_istore (pc := 98) d_X12_buysAt_98 (by decide) ?_
          refine V_iload (pc := 100) d_X12_buysAt_100 rfl ?_
          refine V_ldcw (pc := 102) d_X12_buysAt_102 l_X12_273 ?_
          refine B_icmp_ge (pc := 105) 135 d_X12_buysAt_105 (by decide) (fun c105 => ?_) (fun c105 => ?_)
          · rw [show (1000000000 : Int32).toInt = 1000000000 from by decide, nI_toInt (by omega)] at c105
            refine V_iinc (pc := 135) d_X12_buysAt_135 rfl (by decide) ?_
            refine V_goto (pc := 138) 41 d_X12_buysAt_138 (by decide) ?_
            rw [p1_s]
            first | exact stp _ (bmf_n (by omega)) _ | exact stp (_, j) (bmf_y ⟨by omega, by omega⟩) _
          · rw [show (1000000000 : Int32).toInt = 1000000000 from by decide, nI_toInt (by omega)] at c105
            refine V_iload (pc := 108) d_X12_buysAt_108 rfl ?_
            refine V_iload (pc := 110) d_X12_buysAt_110 rfl ?_
            refine V_iload (pc := 112) d_X12_buysAt_112 rfl ?_
            refine V_imul (pc := 114) d_X12_buysAt_114 ?_
            refine V_iadd (pc := 115) d_X12_buysAt_115 ?_
            refine V_iload (pc := 116) d_X12_buysAt_116 rfl ?_
            rw [pk_mul, nI_add]
            refine B_icmp_ge (pc := 118) 135 d_X12_buysAt_118 (by decide) (fun c118 => ?_) (fun c118 => ?_)
            · rw [nI_toInt (by omega), nI_toInt (by omega)] at c118
              refine V_iinc (pc := 135) d_X12_buysAt_135 rfl (by decide) ?_
              refine V_goto (pc := 138) 41 d_X12_buysAt_138 (by decide) ?_
              rw [p1_s]
              first | exact stp _ (bmf_n (by omega)) _ | exact stp (_, j) (bmf_y ⟨by omega, by omega⟩) _
            · rw [nI_toInt (by omega), nI_toInt (by omega)] at c118
              refine V_iload (pc := 121) d_X12_buysAt_121 rfl ?_
              refine V_iload (pc := 123) d_X12_buysAt_123 rfl ?_
              refine V_iload (pc := 125) d_X12_buysAt_125 rfl ?_
              refine V_imul (pc := 127) d_X12_buysAt_127 ?_
              refine V_iadd (pc := 128) d_X12_buysAt_128 ?_
              rw [pk_mul, nI_add]
              refine V_istore (pc := 129) d_X12_buysAt_129 (by decide) ?_
              refine V_iload (pc := 131) d_X12_buysAt_131 rfl ?_
              refine V_istore (pc := 133) d_X12_buysAt_133 (by decide) ?_
              refine V_iinc (pc := 135) d_X12_buysAt_135 rfl (by decide) ?_
              refine V_goto (pc := 138) 41 d_X12_buysAt_138 (by decide) ?_
              rw [p1_s]
              first | exact stp _ (bmf_n (by omega)) _ | exact stp (_, j) (bmf_y ⟨by omega, by omega⟩) _
      · refine V_iload (pc := 59) d_X12_buysAt_59 rfl ?_
        refine B_if_le (pc := 61) 141 d_X12_buysAt_61 (by decide) (fun c61 => ?_) (fun c61 => ?_)
        · rw [nI_toInt (by omega)] at c61
          rw [nI_eq0 (by omega)] at c56
          omega
        · refine V_iload_n (pc := 64) d_X12_buysAt_64 rfl ?_
          refine V_iload (pc := 65) d_X12_buysAt_65 rfl ?_
          refine V_iadd (pc := 67) d_X12_buysAt_67 ?_
          refine V_iload (pc := 68) d_X12_buysAt_68 rfl ?_
          rw [nI_add]
          refine B_icmp_ge (pc := 70) 79 d_X12_buysAt_70 (by decide) (fun c70 => ?_) (fun c70 => ?_)
          · rw [nI_toInt (by omega), nI_toInt (by omega)] at c70
            refine V_aload_n (pc := 79) d_X12_buysAt_79 rfl ?_
            refine P_getR (pc := 80) d_X12_buysAt_80 f_X12_107 (tt_139 b) (rr_139_40 b) ?_
            refine V_bipush (pc := 83) (nI 100) d_X12_buysAt_83 (by decide) ?_
            refine V_iload_n (pc := 85) d_X12_buysAt_85 rfl ?_
            refine V_iconst (pc := 86) (1) d_X12_buysAt_86 (by decide) ?_
            refine V_iadd (pc := 87) d_X12_buysAt_87 ?_
            refine V_imul (pc := 88) d_X12_buysAt_88 ?_
            refine V_iload_n (pc := 89) d_X12_buysAt_89 rfl ?_
            refine V_iadd (pc := 90) d_X12_buysAt_90 ?_
            refine V_iload (pc := 91) d_X12_buysAt_91 rfl ?_
            refine V_iadd (pc := 93) d_X12_buysAt_93 ?_
            refine V_iload (pc := 94) d_X12_buysAt_94 rfl ?_
            refine V_isub (pc := 96) d_X12_buysAt_96 ?_
            rw [show nI 100 * (nI i + 1) + nI c + nI j - nI (N i) = nI (100 * (i + 1) + (c + j - N i)) by rw [nI_1, pk_mul, nI_add, nI_add, pk_sub (by omega)]; congr 1; omega]
            refine P_iald (pc := 97) (100 * (i + 1) + (c + j - N i)) d_X12_buysAt_97 (tt_172 b) rfl (ln_of (ll_172 b) ⟨by omega, by decide⟩) ?_
            rw [hrow _ (by omega)]
            rw [show nI (wv P N T L (i + 1) (c + j - N i)) = nI (von (wv P N T L (i + 1)) (N i) (c + j)) by rw [von, if_neg (by omega)]]
            refine V_istore (pc := 98) d_X12_buysAt_98 (by decide) ?_
            refine V_iload (pc := 100) d_X12_buysAt_100 rfl ?_
            refine V_ldcw (pc := 102) d_X12_buysAt_102 l_X12_273 ?_
            refine B_icmp_ge (pc := 105) 135 d_X12_buysAt_105 (by decide) (fun c105 => ?_) (fun c105 => ?_)
            · rw [show (1000000000 : Int32).toInt = 1000000000 from by decide, nI_toInt (by omega)] at c105
              refine V_iinc (pc := 135) d_X12_buysAt_135 rfl (by decide) ?_
              refine V_goto (pc := 138) 41 d_X12_buysAt_138 (by decide) ?_
              rw [p1_s]
              first | exact stp _ (bmf_n (by omega)) _ | exact stp (_, j) (bmf_y ⟨by omega, by omega⟩) _
            · rw [show (1000000000 : Int32).toInt = 1000000000 from by decide, nI_toInt (by omega)] at c105
              refine V_iload (pc := 108) d_X12_buysAt_108 rfl ?_
              refine V_iload (pc := 110) d_X12_buysAt_110 rfl ?_
              refine V_iload (pc := 112) d_X12_buysAt_112 rfl ?_
              refine V_imul (pc := 114) d_X12_buysAt_114 ?_
              refine V_iadd (pc := 115) d_X12_buysAt_115 ?_
              refine V_iload (pc := 116) d_X12_buysAt_116 rfl ?_
              rw [pk_mul, nI_add]
              refine B_icmp_ge (pc := 118) 135 d_X12_buysAt_118 (by decide) (fun c118 => ?_) (fun c118 => ?_)
              · rw [nI_toInt (by omega), nI_toInt (by omega)] at c118
                refine V_iinc (pc := 135) d_X12_buysAt_135 rfl (by decide) ?_
                refine V_goto (pc := 138) 41 d_X12_buysAt_138 (by decide) ?_
                rw [p1_s]
                first | exact stp _ (bmf_n (by omega)) _ | exact stp (_, j) (bmf_y ⟨by omega, by omega⟩) _
              · rw [nI_toInt (by omega), nI_toInt (by omega)] at c118
                refine V_iload (pc := 121) d_X12_buysAt_121 rfl ?_
                refine V_iload (pc := 123) d_X12_buysAt_123 rfl ?_
                refine V_iload (pc := 125) d_X12_buysAt_125 rfl ?_
                refine V_imul (pc := 127) d_X12_buysAt_127 ?_
                refine V_iadd (pc := 128) d_X12_buysAt_128 ?_
                rw [pk_mul, nI_add]
                refine V_istore (pc := 129) d_X12_buysAt_129 (by decide) ?_
                refine V_iload (pc := 131) d_X12_buysAt_131 rfl ?_
                refine V_istore (pc := 133) d_X12_buysAt_133 (by decide) ?_
                refine V_iinc (pc := 135) d_X12_buysAt_135 rfl (by decide) ?_
                refine V_goto (pc := 138) 41 d_X12_buysAt_138 (by decide) ?_
                rw [p1_s]
                first | exact stp _ (bmf_n (by omega)) _ | exact stp (_, j) (bmf_y ⟨by omega, by omega⟩) _
          · rw [nI_toInt (by omega), nI_toInt (by omega)] at c70
            refine V_ldcw (pc := 73) d_X12_buysAt_73 l_X12_273 ?_
            refine V_goto (pc := 76) 98 d_X12_buysAt_76 (by decide) ?_
            rw [show (1000000000 : Int32) = nI (von (wv P N T L (i + 1)) (N i) (c + j)) by rw [von, if_pos (by omega)]; rfl]
            refine V_istore (pc := 98) d_X12_buysAt_98 (by decide) ?_
            refine V_iload (pc := 100) d_X12_buysAt_100 rfl ?_
            refine V_ldcw (pc := 102) d_X12_buysAt_102 l_X12_273 ?_
            refine B_icmp_ge (pc := 105) 135 d_X12_buysAt_105 (by decide) (fun c105 => ?_) (fun c105 => ?_)
            · rw [show (1000000000 : Int32).toInt = 1000000000 from by decide, nI_toInt (by omega)] at c105
              refine V_iinc (pc := 135) d_X12_buysAt_135 rfl (by decide) ?_
              refine V_goto (pc := 138) 41 d_X12_buysAt_138 (by decide) ?_
              rw [p1_s]
              first | exact stp _ (bmf_n (by omega)) _ | exact stp (_, j) (bmf_y ⟨by omega, by omega⟩) _
            · rw [show (1000000000 : Int32).toInt = 1000000000 from by decide, nI_toInt (by omega)] at c105
              refine V_iload (pc := 108) d_X12_buysAt_108 rfl ?_
              refine V_iload (pc := 110) d_X12_buysAt_110 rfl ?_
              refine V_iload (pc := 112) d_X12_buysAt_112 rfl ?_
              refine V_imul (pc := 114) d_X12_buysAt_114 ?_
              refine V_iadd (pc := 115) d_X12_buysAt_115 ?_
              refine V_iload (pc := 116) d_X12_buysAt_116 rfl ?_
              rw [pk_mul, nI_add]
              refine B_icmp_ge (pc := 118) 135 d_X12_buysAt_118 (by decide) (fun c118 => ?_) (fun c118 => ?_)
              · rw [nI_toInt (by omega), nI_toInt (by omega)] at c118
                refine V_iinc (pc := 135) d_X12_buysAt_135 rfl (by decide) ?_
                refine V_goto (pc := 138) 41 d_X12_buysAt_138 (by decide) ?_
                rw [p1_s]
                first | exact stp _ (bmf_n (by omega)) _ | exact stp (_, j) (bmf_y ⟨by omega, by omega⟩) _
              · rw [nI_toInt (by omega), nI_toInt (by omega)] at c118
                refine V_iload (pc := 121) d_X12_buysAt_121 rfl ?_
                refine V_iload (pc := 123) d_X12_buysAt_123 rfl ?_
                refine V_iload (pc := 125) d_X12_buysAt_125 rfl ?_
                refine V_imul (pc := 127) d_X12_buysAt_127 ?_
                refine V_iadd (pc := 128) d_X12_buysAt_128 ?_
                rw [pk_mul, nI_add]
                refine V_istore (pc := 129) d_X12_buysAt_129 (by decide) ?_
                refine V_iload (pc := 131) d_X12_buysAt_131 rfl ?_
                refine V_istore (pc := 133) d_X12_buysAt_133 (by decide) ?_
                refine V_iinc (pc := 135) d_X12_buysAt_135 rfl (by decide) ?_
                refine V_goto (pc := 138) 41 d_X12_buysAt_138 (by decide) ?_
                rw [p1_s]
                first | exact stp _ (bmf_n (by omega)) _ | exact stp (_, j) (bmf_y ⟨by omega, by omega⟩) _
theorem ct_X12_buysAt {ρ : Sg} {P N : Nat → Nat} {T L e i c f t : Nat} {q ns nb nl nt nr : Nat} (hR : RR ρ 4 σ q ns nb nl nt nr) (hw : WP P N T L) (hi : i < L) (hL : L = wL f t) (hf : f ≤ ns) (ht : t ≤ ns) (hc : c ≤ T) (he : e < 5) (hTk : σ 151 e = nI T) (hPr : σ 159 (lof f t i) = nI (P i)) (hNs : longS σ (sof f t i) (q / 96) 0 = nI (N i)) (hrow : (∀ c, c ≤ T → σ 172 (100 * (i + 1) + c) = nI (wv P N T L (i + 1) c))) (hq : KV (up2 (up2 σ 172 (100 * i + c) (nI (wv P N T L i c))) 173 (100 * i + c) (nI (bR P N T L i c)), sh b)) : CM G mX12_buysAt (rl 3) [.ref 139, .int (nI e), .int (nI i), .int (nI c), .int (nI f), .int (nI t)] (σ, sh b) (QV KV) := by
  have hn10 := hR.1.1.2.1
  have hlo := lof_le (by omega : i < wL f t) hf ht
  obtain ⟨hP, hT, hL9, hN⟩ := id hw
  refine CM.of (by decide) (Nat.le_of_ble_eq_true rfl) (cats1 rfl) ?_
  refine V_aload_n (pc := 0) d_X12_buysAt_0 rfl ?_
  refine P_getR (pc := 1) d_X12_buysAt_1 f_X12_68 (tt_139 b) (rr_139_23 b) ?_
  refine V_iload (pc := 4) d_X12_buysAt_4 rfl ?_
  refine V_iload (pc := 6) d_X12_buysAt_6 rfl ?_
  refine V_iload_n (pc := 8) d_X12_buysAt_8 rfl ?_
  refine V_csI (pc := 9) (n := 1) [_, _, _] d_X12_buysAt_9 c_X12_266 k_X12_landingOf rfl (Nat.le_of_ble_eq_true rfl) ⟨Nat.le_of_ble_eq_true rfl, Nat.le_of_ble_eq_true rfl⟩ ⟨Nat.le_refl _, Nat.le_refl _⟩ (ct_X12_landingOf (by omega) (by omega) (by omega) ?_)
  refine P_iald (pc := 12) (lof f t i) d_X12_buysAt_12 (tt_159 b) rfl (ln_of (ll_159 b) ⟨by omega, by decide⟩) ?_
  rw [hPr]
  refine V_istore (pc := 13) d_X12_buysAt_13 (by decide) ?_
  refine V_aload_n (pc := 15) d_X12_buysAt_15 rfl ?_
  refine V_iload (pc := 16) d_X12_buysAt_16 rfl ?_
  refine V_iload (pc := 18) d_X12_buysAt_18 rfl ?_
  refine V_iload_n (pc := 20) d_X12_buysAt_20 rfl ?_
  refine V_csI (pc := 21) (n := 1) [_, _, _] d_X12_buysAt_21 c_X12_270 k_X12_stretchOf rfl (Nat.le_of_ble_eq_true rfl) ⟨Nat.le_of_ble_eq_true rfl, Nat.le_of_ble_eq_true rfl⟩ ⟨Nat.le_refl _, Nat.le_refl _⟩ (ct_X12_stretchOf (by omega) (by omega) (by omega) ?_)
  refine V_iconst (pc := 24) (0) d_X12_buysAt_24 (by decide) ?_
  refine V_cvI (pc := 25) (n := 2) (c := 12) [_, _] d_X12_buysAt_25 c_X12_225 k_X12_longOf ⟨rfl, rfl⟩ (tt_139 b) rfl (Nat.le_of_ble_eq_true rfl) ⟨Nat.le_of_ble_eq_true rfl, Nat.le_of_ble_eq_true rfl⟩ ⟨Nat.le_refl _, Nat.le_refl _⟩ (ct_X12_longOf hR.2.1 hR.2.2.1 hR.2.2.2.1 hlo.2 hn10 hR.1.2.1.1 hR.1.1.1 ?_)
  rw [hNs]
  refine V_istore (pc := 28) d_X12_buysAt_28 (by decide) ?_
  refine V_ldcw (pc := 30) d_X12_buysAt_30 l_X12_273 ?_
  refine V_istore (pc := 33) d_X12_buysAt_33 (by decide) ?_
  refine V_iconst (pc := 35) (0) d_X12_buysAt_35 (by decide) ?_
  refine V_istore (pc := 36) d_X12_buysAt_36 (by decide) ?_
  refine V_iconst (pc := 38) (0) d_X12_buysAt_38 (by decide) ?_
  refine V_istore (pc := 39) d_X12_buysAt_39 (by decide) ?_
  refine lp_bu (F := FM G (rl 3) (QV KV)) (P := P) (N := N) hw hi hc he hTk hrow (fun z => ?_) _ (Nat.le_refl _) 0 (by omega) _
  rw [← wv_s hi]
  refine V_aload_n (pc := 141) d_X12_buysAt_141 rfl ?_
  refine P_getR (pc := 142) d_X12_buysAt_142 f_X12_107 (tt_139 b) (rr_139_40 b) ?_
  refine V_bipush (pc := 145) (nI 100) d_X12_buysAt_145 (by decide) ?_
  refine V_iload_n (pc := 147) d_X12_buysAt_147 rfl ?_
  refine V_imul (pc := 148) d_X12_buysAt_148 ?_
  refine V_iload_n (pc := 149) d_X12_buysAt_149 rfl ?_
  refine V_iadd (pc := 150) d_X12_buysAt_150 ?_
  refine V_iload (pc := 151) d_X12_buysAt_151 rfl ?_
  refine P_iast (pc := 153) (100 * i + c) d_X12_buysAt_153 (tt_172 b) (by simp only [pk_mul, nI_add]) (ln_of (ll_172 b) ⟨by omega, by decide⟩) ?_
  refine V_aload_n (pc := 154) d_X12_buysAt_154 rfl ?_
  refine P_getR (pc := 155) d_X12_buysAt_155 f_X12_110 (tt_139 b) (rr_139_41 b) ?_
  refine V_bipush (pc := 158) (nI 100) d_X12_buysAt_158 (by decide) ?_
  refine V_iload_n (pc := 160) d_X12_buysAt_160 rfl ?_
  refine V_imul (pc := 161) d_X12_buysAt_161 ?_
  refine V_iload_n (pc := 162) d_X12_buysAt_162 rfl ?_
  refine V_iadd (pc := 163) d_X12_buysAt_163 ?_
  refine V_iload (pc := 164) d_X12_buysAt_164 rfl ?_
  refine P_iast (pc := 166) (100 * i + c) d_X12_buysAt_166 (tt_173 b) (by simp only [pk_mul, nI_add]) (ln_of (ll_173 b) ⟨by omega, by decide⟩) ?_
  exact V_retV (pc := 167) d_X12_buysAt_167 rfl ⟨Nat.le_refl _, Nat.le_refl _⟩ hq
end HC
def MO (σ τ : Sg) (L : Nat) : Prop := (∀ a j, ¬ ((172 ≤ a ∧ a ≤ 174) ∨ (a = 139 ∧ j = 43)) → τ a j = σ a j) ∧ τ 139 43 = nI L
def MC (σ τ : Sg) (P N : Nat → Nat) (T L i : Nat) : Prop := MO σ τ L ∧ (∀ k c, i ≤ k → k ≤ L → c ≤ T → τ 172 (100 * k + c) = nI (wv P N T L k c)) ∧ ∀ k c, i ≤ k → k < L → c ≤ T → τ 173 (100 * k + c) = nI (bR P N T L k c)
def MJ (σ τ : Sg) (P N : Nat → Nat) (T L i n : Nat) : Prop := MC σ τ P N T L (i + 1) ∧ ∀ c, c < n → τ 172 (100 * i + c) = nI (wv P N T L i c) ∧ τ 173 (100 * i + c) = nI (bR P N T L i c)
def M1 (σ τ : Sg) (L j : Nat) : Prop := MO σ τ L ∧ ∀ c, c < j → τ 172 (100 * L + c) = 0
/-- what is taken on the way, ahead of step j -/
def MT (σ τ : Sg) (P N : Nat → Nat) (T L j : Nat) : Prop := MC σ τ P N T L 0 ∧ ∀ k, k < j → τ 174 k = nI (bR P N T L k (lvw P N T L k))
theorem M1_s {σ τ : Sg} {L j : Nat} (h : M1 σ τ L j) : M1 σ (up2 τ 172 (100 * L + j) 0) L (j + 1) := by
  obtain ⟨⟨h1, h2⟩, h3⟩ := h
  refine ⟨⟨fun a i ha => by rw [up2_n (by omega)]; exact h1 a i ha, by rw [up2_n (by omega)]; exact h2⟩, fun c hc => ?_⟩
  by_cases e : c = j
  · exact up2_e ⟨rfl, by omega⟩
  · rw [up2_n (by omega)]; exact h3 c (by omega)
theorem MC_L {σ τ : Sg} {P N : Nat → Nat} {T L : Nat} (hT : T ≤ 99) (h : M1 σ τ L 100) : MC σ τ P N T L L := ⟨h.1, fun k c h1 h2 h3 => by
  obtain rfl : k = L := by omega
  rw [wv_L, h.2 c (by omega)]; rfl, fun k c h1 h2 => absurd h1 (by omega)⟩
theorem MJ_s {σ τ : Sg} {P N : Nat → Nat} {T L i n : Nat} (hT : T ≤ 99) (hn : n ≤ T) (h : MJ σ τ P N T L i n) : MJ σ (up2 (up2 τ 172 (100 * i + n) (nI (wv P N T L i n))) 173 (100 * i + n) (nI (bR P N T L i n))) P N T L i (n + 1) := by
  obtain ⟨⟨⟨h1, h2⟩, h3, h4⟩, h5⟩ := h
  refine ⟨⟨⟨fun a j ha => by rw [up2_n (by omega), up2_n (by omega)]; exact h1 a j ha, by rw [up2_n (by omega), up2_n (by omega)]; exact h2⟩, fun k c g1 g2 g3 => by rw [up2_n (by omega), up2_n (by omega)]; exact h3 k c g1 g2 g3, fun k c g1 g2 g3 => by rw [up2_n (by omega), up2_n (by omega)]; exact h4 k c g1 g2 g3⟩, fun c hc => ?_⟩
  by_cases e : c = n
  · subst e; exact ⟨by rw [up2_n (by omega), up2_y], up2_y⟩
  · rw [up2_n (by omega), up2_n (by omega), up2_n (by omega), up2_n (by omega)]; exact h5 c (by omega)
theorem MC_s {σ τ : Sg} {P N : Nat → Nat} {T L i : Nat} (h : MJ σ τ P N T L i (T + 1)) : MC σ τ P N T L i := by
  obtain ⟨⟨h0, h3, h4⟩, h5⟩ := h
  refine ⟨h0, fun k c g1 g2 g3 => ?_, fun k c g1 g2 g3 => ?_⟩
  · by_cases e : k = i
    · subst e; exact (h5 c (by omega)).1
    · exact h3 k c (by omega) g2 g3
  · by_cases e : k = i
    · subst e; exact (h5 c (by omega)).2
    · exact h4 k c (by omega) g2 g3
theorem MT_s {σ τ : Sg} {P N : Nat → Nat} {T L j : Nat} (h : MT σ τ P N T L j) : MT σ (up2 τ 174 j (nI (bR P N T L j (lvw P N T L j)))) P N T L (j + 1) := by
  obtain ⟨⟨⟨h1, h2⟩, h3, h4⟩, h5⟩ := h
  refine ⟨⟨⟨fun a i ha => by rw [up2_n (by omega)]; exact h1 a i ha, by rw [up2_n (by omega)]; exact h2⟩, fun k c g1 g2 g3 => by rw [up2_n (by omega)]; exact h3 k c g1 g2 g3, fun k c g1 g2 g3 => by rw [up2_n (by omega)]; exact h4 k c g1 g2 g3⟩, fun k hk => ?_⟩
  by_cases e : k = j
  · subst e; exact up2_y
  · rw [up2_n (by omega)]; exact h5 k (by omega)
section HC
variable {G : Gl} {R : Room} {F : Fn} {K : Int32 → Hp → Prop} {KV : Hp → Prop} {σ : Nat → Nat → Int32} {b : Bool}
theorem lp_f1 {L e f t : Nat} (hL : L ≤ 10) (hE : ∀ τ, M1 σ τ L 100 → V G mX12_findWood (rl 4) F 0 0 50 [some (.ref 139), some (.int (nI e)), some (.int (nI f)), some (.int (nI t)), some (.int (nI 100)), none] [] (τ, sh b)) : ∀ n, n ≤ 100 → ∀ j, j + n = 100 → ∀ τ, M1 σ τ L j → V G mX12_findWood (rl 4) F 0 0 21 [some (.ref 139), some (.int (nI e)), some (.int (nI f)), some (.int (nI t)), some (.int (nI j)), none] [] (τ, sh b) := by
  intro n
  induction n with
  | zero =>
    intro _ j hj τ hW
    obtain rfl : j = 100 := by omega
    refine V_iload (pc := 21) d_X12_findWood_21 rfl ?_
    refine V_bipush (pc := 23) (nI 100) d_X12_findWood_23 (by decide) ?_
    refine B_icmp_ge (pc := 25) 50 d_X12_findWood_25 (by decide) (fun c25 => ?_) (fun c25 => ?_)
    · simp (disch := omega) only [show (nI 100).toInt = 100 from by decide, show (nI 100).toInt = 100 from by decide, nI_toInt, ti0, ti1, tim1, tim20, tim1000] at c25
      exact hE _ hW
    · exact absurd (by decide) c25
  | succ n ih =>
    intro _ j hj τ hW
    refine V_iload (pc := 21) d_X12_findWood_21 rfl ?_
    refine V_bipush (pc := 23) (nI 100) d_X12_findWood_23 (by decide) ?_
    refine B_icmp_ge (pc := 25) 50 d_X12_findWood_25 (by decide) (fun c25 => ?_) (fun c25 => ?_)
    · simp (disch := omega) only [show (nI 100).toInt = 100 from by decide, nI_toInt, ti0, ti1, tim1, tim20, tim1000] at c25
      all_goals omega
    · simp (disch := omega) only [show (nI 100).toInt = 100 from by decide, nI_toInt, ti0, ti1, tim1, tim20, tim1000] at c25
      refine V_aload_n (pc := 28) d_X12_findWood_28 rfl ?_
      refine P_getR (pc := 29) d_X12_findWood_29 f_X12_107 (tt_139 b) (rr_139_40 b) ?_
      refine V_bipush (pc := 32) (nI 100) d_X12_findWood_32 (by decide) ?_
      refine V_aload_n (pc := 34) d_X12_findWood_34 rfl ?_
      refine P_getI (pc := 35) d_X12_findWood_35 f_X12_274 (tt_139 b) ?_
      rw [hW.1.2]
      refine V_imul (pc := 38) d_X12_findWood_38 ?_
      refine V_iload (pc := 39) d_X12_findWood_39 rfl ?_
      refine V_iadd (pc := 41) d_X12_findWood_41 ?_
      refine V_iconst (pc := 42) (0) d_X12_findWood_42 (by decide) ?_
      refine P_iast (pc := 43) (100 * L + j) d_X12_findWood_43 (tt_172 b) (by simp only [pk_mul, nI_add]) (ln_of (ll_172 b) ⟨by omega, by decide⟩) ?_
      refine V_iinc (pc := 44) d_X12_findWood_44 rfl (by decide) ?_
      refine V_goto (pc := 47) 21 d_X12_findWood_47 (by decide) ?_
      rw [p1_s]
      exact ih (by omega) (j + 1) (by omega) _ (M1_s hW)
theorem lp_f2 {ρ : Sg} {P N : Nat → Nat} {T L e f t : Nat} {q ns nb nl nt nr : Nat} {i : Nat} (hR : RR ρ 4 σ q ns nb nl nt nr) (hw : WP P N T L) (hL : L = wL f t) (hf : f ≤ ns) (ht : t ≤ ns) (he : e < 5) (hTk : σ 151 e = nI T) (hPr : ∀ k, k < L → σ 159 (lof f t k) = nI (P k)) (hNs : ∀ k, k < L → longS σ (sof f t k) (q / 96) 0 = nI (N k)) (hi : i < L) (hE : ∀ τ, MJ σ τ P N T L i (T + 1) → ∀ z : Option Value, V G mX12_findWood (rl 4) F 0 0 94 [some (.ref 139), some (.int (nI e)), some (.int (nI f)), some (.int (nI t)), some (.int (nI i)), z] [] (τ, sh b)) : ∀ n, n ≤ T + 1 → ∀ j, j + n = T + 1 → ∀ τ, MJ σ τ P N T L i j → V G mX12_findWood (rl 4) F 0 0 66 [some (.ref 139), some (.int (nI e)), some (.int (nI f)), some (.int (nI t)), some (.int (nI i)), some (.int (nI j))] [] (τ, sh b) := by
  obtain ⟨hP, hT, hL9, hN⟩ := id hw
  intro n
  induction n with
  | zero =>
    intro _ j hj τ hW
    obtain rfl : j = T + 1 := by omega
    refine V_iload (pc := 66) d_X12_findWood_66 rfl ?_
    refine V_aload_n (pc := 68) d_X12_findWood_68 rfl ?_
    refine P_getR (pc := 69) d_X12_findWood_69 f_X12_44 (tt_139 b) (rr_139_15 b) ?_
    refine V_iload_n (pc := 72) d_X12_findWood_72 rfl ?_
    refine P_iald (pc := 73) (e) d_X12_findWood_73 (tt_151 b) rfl (ln_of (ll_151 b) ⟨by omega, by decide⟩) ?_
    rw [hW.1.1.1 _ _ (by omega), hTk]
    refine B_icmp_gt (pc := 74) 94 d_X12_findWood_74 (by decide) (fun c74 => ?_) (fun c74 => ?_)
    · simp (disch := omega) only [nI_toInt, ti0, ti1, tim1, tim20, tim1000] at c74
      exact hE _ hW _
    · simp (disch := omega) only [nI_toInt, ti0, ti1, tim1, tim20, tim1000] at c74
      all_goals omega
  | succ n ih =>
    intro _ j hj τ hW
    refine V_iload (pc := 66) d_X12_findWood_66 rfl ?_
    refine V_aload_n (pc := 68) d_X12_findWood_68 rfl ?_
    refine P_getR (pc := 69) d_X12_findWood_69 f_X12_44 (tt_139 b) (rr_139_15 b) ?_
    refine V_iload_n (pc := 72) d_X12_findWood_72 rfl ?_
    refine P_iald (pc := 73) (e) d_X12_findWood_73 (tt_151 b) rfl (ln_of (ll_151 b) ⟨by omega, by decide⟩) ?_
    rw [hW.1.1.1 _ _ (by omega), hTk]
    refine B_icmp_gt (pc := 74) 94 d_X12_findWood_74 (by decide) (fun c74 => ?_) (fun c74 => ?_)
    · simp (disch := omega) only [nI_toInt, ti0, ti1, tim1, tim20, tim1000] at c74
      all_goals omega
    · simp (disch := omega) only [nI_toInt, ti0, ti1, tim1, tim20, tim1000] at c74
      refine V_aload_n (pc := 77) d_X12_findWood_77 rfl ?_
      refine V_iload_n (pc := 78) d_X12_findWood_78 rfl ?_
      refine V_iload (pc := 79) d_X12_findWood_79 rfl ?_
      refine V_iload (pc := 81) d_X12_findWood_81 rfl ?_
      refine V_iload_n (pc := 83) d_X12_findWood_83 rfl ?_
      refine V_iload_n (pc := 84) d_X12_findWood_84 rfl ?_
      have hR2 := RR_mc hR hW.1.1.1
      refine V_cvV (pc := 85) (n := 3) (c := 12) [_, _, _, _, _] d_X12_findWood_85 c_X12_277 k_X12_buysAt ⟨rfl, rfl⟩ (tt_139 b) rfl (Nat.le_of_ble_eq_true rfl) ⟨Nat.le_of_ble_eq_true rfl, Nat.le_of_ble_eq_true rfl⟩ ⟨Nat.le_refl _, Nat.le_refl _⟩ (ct_X12_buysAt (P := P) (N := N) hR2 hw hi hL hf ht (by omega) he ((hW.1.1.1 _ _ (by omega)).trans hTk) ((hW.1.1.1 _ _ (by omega)).trans (hPr i hi)) ((longS_mc (fun a j h1 h2 => hW.1.1.1 a j (by omega))).trans (hNs i hi)) (fun c hc => hW.1.2.1 _ _ (Nat.le_refl _) (by omega) hc) ?_)
      refine V_iinc (pc := 88) d_X12_findWood_88 rfl (by decide) ?_
      refine V_goto (pc := 91) 66 d_X12_findWood_91 (by decide) ?_
      rw [p1_s]
      exact ih (by omega) (j + 1) (by omega) _ (MJ_s hT (by omega) hW)
theorem lp_f3 {ρ : Sg} {P N : Nat → Nat} {T L e f t : Nat} {q ns nb nl nt nr : Nat} (hR : RR ρ 4 σ q ns nb nl nt nr) (hw : WP P N T L) (hL : L = wL f t) (hf : f ≤ ns) (ht : t ≤ ns) (he : e < 5) (hTk : σ 151 e = nI T) (hPr : ∀ k, k < L → σ 159 (lof f t k) = nI (P k)) (hNs : ∀ k, k < L → longS σ (sof f t k) (q / 96) 0 = nI (N k)) (hE : ∀ τ, MC σ τ P N T L 0 → ∀ z4 z : Option Value, V G mX12_findWood (rl 4) F 0 0 100 [some (.ref 139), some (.int (nI e)), some (.int (nI f)), some (.int (nI t)), z4, z] [] (τ, sh b)) : ∀ n, n ≤ L → ∀ τ, MC σ τ P N T L n → ∀ z : Option Value, V G mX12_findWood (rl 4) F 0 0 58 [some (.ref 139), some (.int (nI e)), some (.int (nI f)), some (.int (nI t)), some (.int (nI n - 1)), z] [] (τ, sh b) := by
  obtain ⟨hP, hT, hL9, hN⟩ := id hw
  intro n
  induction n with
  | zero =>
    intro _ τ hW z
    refine V_iload (pc := 58) d_X12_findWood_58 rfl ?_
    refine B_if_lt (pc := 60) 100 d_X12_findWood_60 (by decide) (fun c60 => ?_) (fun c60 => ?_)
    · exact hE _ hW _ _
    · exact absurd (by decide) c60
  | succ m ih =>
    intro hm τ hW z
    rw [nI_pred]
    refine V_iload (pc := 58) d_X12_findWood_58 rfl ?_
    refine B_if_lt (pc := 60) 100 d_X12_findWood_60 (by decide) (fun c60 => ?_) (fun c60 => ?_)
    · simp (disch := omega) only [nI_toInt, ti0, ti1, tim1, tim20, tim1000] at c60
      all_goals omega
    · simp (disch := omega) only [nI_toInt, ti0, ti1, tim1, tim20, tim1000] at c60
      refine V_iconst (pc := 63) (0) d_X12_findWood_63 (by decide) ?_
      refine V_istore (pc := 64) d_X12_findWood_64 (by decide) ?_
      refine lp_f2 (F := F) (P := P) (N := N) hR hw hL hf ht he hTk hPr hNs (by omega : m < L) (fun τ2 h2 z2 => ?_) (T + 1) (Nat.le_refl _) 0 (by omega) _ ⟨hW, fun c hc => absurd hc (by omega)⟩
      refine V_iinc (pc := 94) d_X12_findWood_94 rfl (by decide) ?_
      refine V_goto (pc := 97) 58 d_X12_findWood_97 (by decide) ?_
      rw [mm_s]
      exact ih (by omega) _ (MC_s h2) _
theorem lp_f4 {ρ : Sg} {P N : Nat → Nat} {T L e f t : Nat} {q ns nb nl nt nr : Nat} (hR : RR ρ 4 σ q ns nb nl nt nr) (hw : WP P N T L) (hL : L = wL f t) (hf : f ≤ ns) (ht : t ≤ ns) (he : e < 5) (hTk : σ 151 e = nI T) (hPr : ∀ k, k < L → σ 159 (lof f t k) = nI (P k)) (hNs : ∀ k, k < L → longS σ (sof f t k) (q / 96) 0 = nI (N k)) (h0 : wv P N T L 0 0 < 1000000000) (hE : ∀ τ, MT σ τ P N T L L → ∀ z4 z5 : Option Value, V G mX12_findWood (rl 4) F 0 0 178 [some (.ref 139), some (.int (nI e)), some (.int (nI f)), some (.int (nI t)), z4, z5] [] (τ, sh b)) : ∀ n, n ≤ L → ∀ j, j + n = L → ∀ τ, MT σ τ P N T L j → V G mX12_findWood (rl 4) F 0 0 106 [some (.ref 139), some (.int (nI e)), some (.int (nI f)), some (.int (nI t)), some (.int (nI (lvw P N T L j))), some (.int (nI j))] [] (τ, sh b) := by
  obtain ⟨hP, hT, hL9, hN⟩ := id hw
  have hn10 := hR.1.1.2.1
  intro n
  induction n with
  | zero =>
    intro _ j hj τ hW
    obtain rfl : j = L := by omega
    refine V_iload (pc := 106) d_X12_findWood_106 rfl ?_
    refine V_aload_n (pc := 108) d_X12_findWood_108 rfl ?_
    refine P_getI (pc := 109) d_X12_findWood_109 f_X12_274 (tt_139 b) ?_
    rw [hW.1.1.2]
    refine B_icmp_ge (pc := 112) 178 d_X12_findWood_112 (by decide) (fun c112 => ?_) (fun c112 => ?_)
    · simp (disch := omega) only [nI_toInt, ti0, ti1, tim1, tim20, tim1000] at c112
      exact hE _ hW _ _
    · simp (disch := omega) only [nI_toInt, ti0, ti1, tim1, tim20, tim1000] at c112
      all_goals omega
  | succ n ih =>
    intro _ j hj τ hW
    have lo := lvw_ok h0 j (by omega)
    have g := bR_at (by omega : j < L) lo.1 lo.2
    have hN9 := hN j (by omega)
    refine V_iload (pc := 106) d_X12_findWood_106 rfl ?_
    refine V_aload_n (pc := 108) d_X12_findWood_108 rfl ?_
    refine P_getI (pc := 109) d_X12_findWood_109 f_X12_274 (tt_139 b) ?_
    rw [hW.1.1.2]
    refine B_icmp_ge (pc := 112) 178 d_X12_findWood_112 (by decide) (fun c112 => ?_) (fun c112 => ?_)
    · simp (disch := omega) only [nI_toInt, ti0, ti1, tim1, tim20, tim1000] at c112
      all_goals omega
    · simp (disch := omega) only [nI_toInt, ti0, ti1, tim1, tim20, tim1000] at c112
      refine V_aload_n (pc := 115) d_X12_findWood_115 rfl ?_
      refine P_getR (pc := 116) d_X12_findWood_116 f_X12_107 (tt_139 b) (rr_139_40 b) ?_
      refine V_iconst (pc := 119) (0) d_X12_findWood_119 (by decide) ?_
      refine P_iald (pc := 120) (0) d_X12_findWood_120 (tt_172 b) (by decide) (ln_of (ll_172 b) ⟨by omega, by decide⟩) ?_
      rw [hW.1.2.1 0 0 (Nat.le_refl _) (Nat.zero_le _) (Nat.zero_le _)]
      refine V_ldcw (pc := 121) d_X12_findWood_121 l_X12_273 ?_
      refine B_icmp_ge (pc := 124) 178 d_X12_findWood_124 (by decide) (fun c124 => ?_) (fun c124 => ?_)
      · rw [show (1000000000 : Int32).toInt = 1000000000 from by decide, nI_toInt (by omega)] at c124
        omega
      · refine V_aload_n (pc := 127) d_X12_findWood_127 rfl ?_
        refine P_getR (pc := 128) d_X12_findWood_128 f_X12_113 (tt_139 b) (rr_139_42 b) ?_
        refine V_iload (pc := 131) d_X12_findWood_131 rfl ?_
        refine V_aload_n (pc := 133) d_X12_findWood_133 rfl ?_
        refine P_getR (pc := 134) d_X12_findWood_134 f_X12_110 (tt_139 b) (rr_139_41 b) ?_
        refine V_bipush (pc := 137) (nI 100) d_X12_findWood_137 (by decide) ?_
        refine V_iload (pc := 139) d_X12_findWood_139 rfl ?_
        refine V_imul (pc := 141) d_X12_findWood_141 ?_
        refine V_iload (pc := 142) d_X12_findWood_142 rfl ?_
        refine V_iadd (pc := 144) d_X12_findWood_144 ?_
        refine P_iald (pc := 145) (100 * j + lvw P N T L j) d_X12_findWood_145 (tt_173 b) (by simp only [pk_mul, nI_add]) (ln_of (ll_173 b) ⟨by omega, by decide⟩) ?_
        rw [hW.1.2.2 j _ (Nat.zero_le _) (by omega) lo.1]
        refine P_iast (pc := 146) (j) d_X12_findWood_146 (tt_174 b) rfl (ln_of (ll_174 b) ⟨by omega, by decide⟩) ?_
        refine V_iload (pc := 147) d_X12_findWood_147 rfl ?_
        refine V_aload_n (pc := 149) d_X12_findWood_149 rfl ?_
        refine P_getR (pc := 150) d_X12_findWood_150 f_X12_113 (tt_139 b) (rr_139_42 b) ?_
        refine V_iload (pc := 153) d_X12_findWood_153 rfl ?_
        refine P_iald (pc := 155) (j) d_X12_findWood_155 (tt_174 b) rfl (ln_of (ll_174 b) ⟨by omega, by decide⟩) ?_
        rw [up2_y]
        refine V_aload_n (pc := 156) d_X12_findWood_156 rfl ?_
        refine V_iload_n (pc := 157) d_X12_findWood_157 rfl ?_
        refine V_iload_n (pc := 158) d_X12_findWood_158 rfl ?_
        refine V_iload (pc := 159) d_X12_findWood_159 rfl ?_
        refine V_csI (pc := 161) (n := 1) [_, _, _] d_X12_findWood_161 c_X12_270 k_X12_stretchOf rfl (Nat.le_of_ble_eq_true rfl) ⟨Nat.le_of_ble_eq_true rfl, Nat.le_of_ble_eq_true rfl⟩ ⟨Nat.le_refl _, Nat.le_refl _⟩ (ct_X12_stretchOf (by omega) (by omega) (by omega) ?_)
        refine V_iconst (pc := 164) (0) d_X12_findWood_164 (by decide) ?_
        have hR2 := RR_mc hR (MT_s hW).1.1.1
        refine V_cvI (pc := 165) (n := 2) (c := 12) [_, _] d_X12_findWood_165 c_X12_225 k_X12_longOf ⟨rfl, rfl⟩ (tt_139 b) rfl (Nat.le_of_ble_eq_true rfl) ⟨Nat.le_of_ble_eq_true rfl, Nat.le_of_ble_eq_true rfl⟩ ⟨Nat.le_refl _, Nat.le_refl _⟩ (ct_X12_longOf hR2.2.1 hR2.2.2.1 hR2.2.2.2.1 (lof_le (by omega) hf ht).2 hn10 hR2.1.2.1.1 hR2.1.1.1 ?_)
        rw [longS_mc (σ := σ) (fun a i h1 h2 => (MT_s hW).1.1.1 a i (by omega)), hNs j (by omega)]
        refine V_isub (pc := 168) d_X12_findWood_168 ?_
        refine V_iadd (pc := 169) d_X12_findWood_169 ?_
        rw [adds_nI (by omega)]
        show V G mX12_findWood (rl 4) F 0 0 170 _ [.int (nI (lvw P N T L (j + 1)))] _
        refine V_istore (pc := 170) d_X12_findWood_170 (by decide) ?_
        refine V_iinc (pc := 172) d_X12_findWood_172 rfl (by decide) ?_
        refine V_goto (pc := 175) 106 d_X12_findWood_175 (by decide) ?_
        rw [p1_s]
        exact ih (by omega) (j + 1) (by omega) _ (MT_s hW)
theorem ct_X12_findWood {ρ : Sg} {P N : Nat → Nat} {T L e f t : Nat} {q ns nb nl nt nr : Nat} (hR : RR ρ 4 σ q ns nb nl nt nr) (hw : WP P N T L) (hL : L = wL f t) (hf : f ≤ ns) (ht : t ≤ ns) (he : e < 5) (hTk : σ 151 e = nI T) (hPr : ∀ k, k < L → σ 159 (lof f t k) = nI (P k)) (hNs : ∀ k, k < L → longS σ (sof f t k) (q / 96) 0 = nI (N k)) (hk : ∀ τ, MO σ τ L → (wv P N T L 0 0 < 1000000000 → ∀ k, k < L → τ 174 k = nI (bR P N T L k (lvw P N T L k))) → K (nI (wv P N T L 0 0)) (τ, sh b)) : CM G mX12_findWood (rl 4) [.ref 139, .int (nI e), .int (nI f), .int (nI t)] (σ, sh b) (QI K) := by
  obtain ⟨hP, hT, hL9, hN⟩ := id hw
  have hn10 := hR.1.1.2.1
  have e0 := wv_b (N := N) hP hT hL9 0 0
  have hM0 : M1 σ (up2 σ 139 43 (nI L)) L 0 := ⟨⟨fun a i ha => by rw [up2_n (by omega)], up2_y⟩, fun c hc => absurd hc (by omega)⟩
  refine CM.of (by decide) (Nat.le_of_ble_eq_true rfl) (cats1 rfl) ?_
  refine V_aload_n (pc := 0) d_X12_findWood_0 rfl ?_
  refine V_iload_n (pc := 1) d_X12_findWood_1 rfl ?_
  refine V_iload_n (pc := 2) d_X12_findWood_2 rfl ?_
  refine B_icmp_ge (pc := 3) 12 d_X12_findWood_3 (by decide) (fun c3 => ?_) (fun c3 => ?_)
  · simp (disch := omega) only [nI_toInt, ti0, ti1, tim1, tim20, tim1000] at c3
    refine V_iload_n (pc := 12) d_X12_findWood_12 rfl ?_
    refine V_iload_n (pc := 13) d_X12_findWood_13 rfl ?_
    refine V_isub (pc := 14) d_X12_findWood_14 ?_
    first | rw [show nI t - nI f = nI L by rw [hL, wL, if_pos (by omega), pk_sub (by omega)]] | rw [show nI f - nI t = nI L by rw [hL, wL, if_neg (by omega), pk_sub (by omega)]]
    refine P_putI (pc := 15) d_X12_findWood_15 f_X12_274 (tt_139 b) ?_
    refine V_iconst (pc := 18) (0) d_X12_findWood_18 (by decide) ?_
    refine V_istore (pc := 19) d_X12_findWood_19 (by decide) ?_
    refine lp_f1 (F := FM G (rl 4) (QI K)) (L := L) (by omega) (fun τ1 h1 => ?_) 100 (Nat.le_refl _) 0 (by omega) _ hM0
    refine V_aload_n (pc := 50) d_X12_findWood_50 rfl ?_
    refine P_getI (pc := 51) d_X12_findWood_51 f_X12_274 (tt_139 b) ?_
    rw [h1.1.2]
    refine V_iconst (pc := 54) (1) d_X12_findWood_54 (by decide) ?_
    refine V_isub (pc := 55) d_X12_findWood_55 ?_
    refine V_istore (pc := 56) d_X12_findWood_56 (by decide) ?_
    refine lp_f3 (F := FM G (rl 4) (QI K)) (P := P) (N := N) hR hw hL hf ht he hTk hPr hNs (fun τ2 h2 y4 y5 => ?_) L (Nat.le_refl _) _ (MC_L hT h1) _
    refine V_iconst (pc := 100) (0) d_X12_findWood_100 (by decide) ?_
    refine V_istore (pc := 101) d_X12_findWood_101 (by decide) ?_
    refine V_iconst (pc := 103) (0) d_X12_findWood_103 (by decide) ?_
    refine V_istore (pc := 104) d_X12_findWood_104 (by decide) ?_
    by_cases hz : wv P N T L 0 0 < 1000000000
    · refine lp_f4 (F := FM G (rl 4) (QI K)) (P := P) (N := N) hR hw hL hf ht he hTk hPr hNs hz (fun τ3 h3 y6 y7 => ?_) L (Nat.le_refl _) 0 (by omega) _ ⟨h2, fun k hk => absurd hk (by omega)⟩
      refine V_aload_n (pc := 178) d_X12_findWood_178 rfl ?_
      refine P_getR (pc := 179) d_X12_findWood_179 f_X12_107 (tt_139 b) (rr_139_40 b) ?_
      refine V_iconst (pc := 182) (0) d_X12_findWood_182 (by decide) ?_
      refine P_iald (pc := 183) (0) d_X12_findWood_183 (tt_172 b) (by decide) (ln_of (ll_172 b) ⟨by omega, by decide⟩) ?_
      rw [h3.1.2.1 0 0 (Nat.le_refl _) (Nat.zero_le _) (Nat.zero_le _)]
      exact V_retI (pc := 184) d_X12_findWood_184 rfl ⟨Nat.le_refl _, Nat.le_refl _⟩ (hk τ3 h3.1.1 (fun _ => h3.2))
    · have hz2 : wv P N T L 0 0 = 1000000000 := e0.resolve_right (by omega)
      refine V_iload (pc := 106) d_X12_findWood_106 rfl ?_
      refine V_aload_n (pc := 108) d_X12_findWood_108 rfl ?_
      refine P_getI (pc := 109) d_X12_findWood_109 f_X12_274 (tt_139 b) ?_
      rw [h2.1.2]
      refine B_icmp_ge (pc := 112) 178 d_X12_findWood_112 (by decide) (fun c112 => ?_) (fun c112 => ?_)
      · simp (disch := omega) only [nI_toInt, ti0, ti1, tim1, tim20, tim1000] at c112
        refine V_aload_n (pc := 178) d_X12_findWood_178 rfl ?_
        refine P_getR (pc := 179) d_X12_findWood_179 f_X12_107 (tt_139 b) (rr_139_40 b) ?_
        refine V_iconst (pc := 182) (0) d_X12_findWood_182 (by decide) ?_
        refine P_iald (pc := 183) (0) d_X12_findWood_183 (tt_172 b) (by decide) (ln_of (ll_172 b) ⟨by omega, by decide⟩) ?_
        rw [h2.2.1 0 0 (Nat.le_refl _) (Nat.zero_le _) (Nat.zero_le _)]
        exact V_retI (pc := 184) d_X12_findWood_184 rfl ⟨Nat.le_refl _, Nat.le_refl _⟩ (hk τ2 h2.1 (fun w => absurd w hz))
      · simp (disch := omega) only [nI_toInt, ti0, ti1, tim1, tim20, tim1000] at c112
        refine V_aload_n (pc := 115) d_X12_findWood_115 rfl ?_
        refine P_getR (pc := 116) d_X12_findWood_116 f_X12_107 (tt_139 b) (rr_139_40 b) ?_
        refine V_iconst (pc := 119) (0) d_X12_findWood_119 (by decide) ?_
        refine P_iald (pc := 120) (0) d_X12_findWood_120 (tt_172 b) (by decide) (ln_of (ll_172 b) ⟨by omega, by decide⟩) ?_
        rw [h2.2.1 0 0 (Nat.le_refl _) (Nat.zero_le _) (Nat.zero_le _)]
        refine V_ldcw (pc := 121) d_X12_findWood_121 l_X12_273 ?_
        refine B_icmp_ge (pc := 124) 178 d_X12_findWood_124 (by decide) (fun c124 => ?_) (fun c124 => ?_)
        · refine V_aload_n (pc := 178) d_X12_findWood_178 rfl ?_
          refine P_getR (pc := 179) d_X12_findWood_179 f_X12_107 (tt_139 b) (rr_139_40 b) ?_
          refine V_iconst (pc := 182) (0) d_X12_findWood_182 (by decide) ?_
          refine P_iald (pc := 183) (0) d_X12_findWood_183 (tt_172 b) (by decide) (ln_of (ll_172 b) ⟨by omega, by decide⟩) ?_
          rw [h2.2.1 0 0 (Nat.le_refl _) (Nat.zero_le _) (Nat.zero_le _)]
          exact V_retI (pc := 184) d_X12_findWood_184 rfl ⟨Nat.le_refl _, Nat.le_refl _⟩ (hk τ2 h2.1 (fun w => absurd w hz))
        · rw [show (1000000000 : Int32).toInt = 1000000000 from by decide, nI_toInt (by omega)] at c124
          omega
  · simp (disch := omega) only [nI_toInt, ti0, ti1, tim1, tim20, tim1000] at c3
    refine V_iload_n (pc := 6) d_X12_findWood_6 rfl ?_
    refine V_iload_n (pc := 7) d_X12_findWood_7 rfl ?_
    refine V_isub (pc := 8) d_X12_findWood_8 ?_
    refine V_goto (pc := 9) 15 d_X12_findWood_9 (by decide) ?_
    first | rw [show nI t - nI f = nI L by rw [hL, wL, if_pos (by omega), pk_sub (by omega)]] | rw [show nI f - nI t = nI L by rw [hL, wL, if_neg (by omega), pk_sub (by omega)]]
    refine P_putI (pc := 15) d_X12_findWood_15 f_X12_274 (tt_139 b) ?_
    refine V_iconst (pc := 18) (0) d_X12_findWood_18 (by decide) ?_
    refine V_istore (pc := 19) d_X12_findWood_19 (by decide) ?_
    refine lp_f1 (F := FM G (rl 4) (QI K)) (L := L) (by omega) (fun τ1 h1 => ?_) 100 (Nat.le_refl _) 0 (by omega) _ hM0
    refine V_aload_n (pc := 50) d_X12_findWood_50 rfl ?_
    refine P_getI (pc := 51) d_X12_findWood_51 f_X12_274 (tt_139 b) ?_
    rw [h1.1.2]
    refine V_iconst (pc := 54) (1) d_X12_findWood_54 (by decide) ?_
    refine V_isub (pc := 55) d_X12_findWood_55 ?_
    refine V_istore (pc := 56) d_X12_findWood_56 (by decide) ?_
    refine lp_f3 (F := FM G (rl 4) (QI K)) (P := P) (N := N) hR hw hL hf ht he hTk hPr hNs (fun τ2 h2 y4 y5 => ?_) L (Nat.le_refl _) _ (MC_L hT h1) _
    refine V_iconst (pc := 100) (0) d_X12_findWood_100 (by decide) ?_
    refine V_istore (pc := 101) d_X12_findWood_101 (by decide) ?_
    refine V_iconst (pc := 103) (0) d_X12_findWood_103 (by decide) ?_
    refine V_istore (pc := 104) d_X12_findWood_104 (by decide) ?_
    by_cases hz : wv P N T L 0 0 < 1000000000
    · refine lp_f4 (F := FM G (rl 4) (QI K)) (P := P) (N := N) hR hw hL hf ht he hTk hPr hNs hz (fun τ3 h3 y6 y7 => ?_) L (Nat.le_refl _) 0 (by omega) _ ⟨h2, fun k hk => absurd hk (by omega)⟩
      refine V_aload_n (pc := 178) d_X12_findWood_178 rfl ?_
      refine P_getR (pc := 179) d_X12_findWood_179 f_X12_107 (tt_139 b) (rr_139_40 b) ?_
      refine V_iconst (pc := 182) (0) d_X12_findWood_182 (by decide) ?_
      refine P_iald (pc := 183) (0) d_X12_findWood_183 (tt_172 b) (by decide) (ln_of (ll_172 b) ⟨by omega, by decide⟩) ?_
      rw [h3.1.2.1 0 0 (Nat.le_refl _) (Nat.zero_le _) (Nat.zero_le _)]
      exact V_retI (pc := 184) d_X12_findWood_184 rfl ⟨Nat.le_refl _, Nat.le_refl _⟩ (hk τ3 h3.1.1 (fun _ => h3.2))
    · have hz2 : wv P N T L 0 0 = 1000000000 := e0.resolve_right (by omega)
      refine V_iload (pc := 106) d_X12_findWood_106 rfl ?_
      refine V_aload_n (pc := 108) d_X12_findWood_108 rfl ?_
      refine P_getI (pc := 109) d_X12_findWood_109 f_X12_274 (tt_139 b) ?_
      rw [h2.1.2]
      refine B_icmp_ge (pc := 112) 178 d_X12_findWood_112 (by decide) (fun c112 => ?_) (fun c112 => ?_)
      · simp (disch := omega) only [nI_toInt, ti0, ti1, tim1, tim20, tim1000] at c112
        refine V_aload_n (pc := 178) d_X12_findWood_178 rfl ?_
        refine P_getR (pc := 179) d_X12_findWood_179 f_X12_107 (tt_139 b) (rr_139_40 b) ?_
        refine V_iconst (pc := 182) (0) d_X12_findWood_182 (by decide) ?_
        refine P_iald (pc := 183) (0) d_X12_findWood_183 (tt_172 b) (by decide) (ln_of (ll_172 b) ⟨by omega, by decide⟩) ?_
        rw [h2.2.1 0 0 (Nat.le_refl _) (Nat.zero_le _) (Nat.zero_le _)]
        exact V_retI (pc := 184) d_X12_findWood_184 rfl ⟨Nat.le_refl _, Nat.le_refl _⟩ (hk τ2 h2.1 (fun w => absurd w hz))
      · simp (disch := omega) only [nI_toInt, ti0, ti1, tim1, tim20, tim1000] at c112
        refine V_aload_n (pc := 115) d_X12_findWood_115 rfl ?_
        refine P_getR (pc := 116) d_X12_findWood_116 f_X12_107 (tt_139 b) (rr_139_40 b) ?_
        refine V_iconst (pc := 119) (0) d_X12_findWood_119 (by decide) ?_
        refine P_iald (pc := 120) (0) d_X12_findWood_120 (tt_172 b) (by decide) (ln_of (ll_172 b) ⟨by omega, by decide⟩) ?_
        rw [h2.2.1 0 0 (Nat.le_refl _) (Nat.zero_le _) (Nat.zero_le _)]
        refine V_ldcw (pc := 121) d_X12_findWood_121 l_X12_273 ?_
        refine B_icmp_ge (pc := 124) 178 d_X12_findWood_124 (by decide) (fun c124 => ?_) (fun c124 => ?_)
        · refine V_aload_n (pc := 178) d_X12_findWood_178 rfl ?_
          refine P_getR (pc := 179) d_X12_findWood_179 f_X12_107 (tt_139 b) (rr_139_40 b) ?_
          refine V_iconst (pc := 182) (0) d_X12_findWood_182 (by decide) ?_
          refine P_iald (pc := 183) (0) d_X12_findWood_183 (tt_172 b) (by decide) (ln_of (ll_172 b) ⟨by omega, by decide⟩) ?_
          rw [h2.2.1 0 0 (Nat.le_refl _) (Nat.zero_le _) (Nat.zero_le _)]
          exact V_retI (pc := 184) d_X12_findWood_184 rfl ⟨Nat.le_refl _, Nat.le_refl _⟩ (hk τ2 h2.1 (fun w => absurd w hz))
        · rw [show (1000000000 : Int32).toInt = 1000000000 from by decide, nI_toInt (by omega)] at c124
          omega
theorem ct_X12_wooding {x y z : Int32} {ρ : Sg} {q ns nb nl nt nr : Nat} (hR : RR ρ 4 σ q ns nb nl nt nr) (h1 : ¬ (∃ i f t : Nat, i < nb ∧ f ≤ ns ∧ t ≤ ns ∧ x = nI i ∧ y = nI f ∧ z = nI t) → K (-1) (σ, sh b)) (h2 : ∀ i f t T : Nat, i < nb → f ≤ ns → t ≤ ns → x = nI i → y = nI f → z = nI t → σ 151 i = nI T → T ≤ 99 → ∀ τ, MO σ τ (wL f t) → (wv (wP σ f t) (wN σ f t (q / 96)) T (wL f t) 0 0 < 1000000000 → ∀ k, k < wL f t → τ 174 k = nI (bR (wP σ f t) (wN σ f t (q / 96)) T (wL f t) k (lvw (wP σ f t) (wN σ f t (q / 96)) T (wL f t) k))) → K (if wv (wP σ f t) (wN σ f t (q / 96)) T (wL f t) 0 0 = 1000000000 then -1 else nI (wv (wP σ f t) (wN σ f t (q / 96)) T (wL f t) 0 0)) (τ, sh b)) : CM G mX12_wooding (rl 5) [.ref 139, .int x, .int y, .int z] (σ, sh b) (QI K) := by
  obtain ⟨⟨⟨hq2, hn10, hnb, hnl, hnt, hnr⟩, ⟨vq, vns, vnb, vnl, vnt, vnr⟩, ⟨rq, rns, rnb, rnl, rnt, rnr⟩, hpd⟩, hH, hC, hS, hLD, hB, hA, hT, hU⟩ := id hR
  refine CM.of (by decide) (Nat.le_of_ble_eq_true rfl) (cats1 rfl) ?_
  refine V_aload_n (pc := 0) d_X12_wooding_0 rfl ?_
  refine V_iload_n (pc := 1) d_X12_wooding_1 rfl ?_
  refine V_cvI (pc := 2) (n := 2) (c := 12) [_] d_X12_wooding_2 c_X12_238 k_X12_isBoat ⟨rfl, rfl⟩ (tt_139 b) rfl (Nat.le_of_ble_eq_true rfl) ⟨Nat.le_of_ble_eq_true rfl, Nat.le_of_ble_eq_true rfl⟩ ⟨Nat.le_refl _, Nat.le_refl _⟩ (ct_X12_isBoat vnb (by omega) ?_)
  refine V_if_eq (pc := 5) 24 d_X12_wooding_5 (by decide) (fun c5 => ?_) (fun c5 => ?_)
  · replace c5 := zf c5
    refine V_iconst (pc := 24) (-1) d_X12_wooding_24 (by decide) ?_
    exact V_retI (pc := 25) d_X12_wooding_25 rfl ⟨Nat.le_refl _, Nat.le_refl _⟩ (h1 (by
            rintro ⟨i', f', t', g1, g2, g3, g4, g5, g6⟩
            try subst g4
            try subst g5
            try subst g6
            simp (disch := omega) only [nI_toInt, nI_eq] at *
            omega))
  · replace c5 := zt c5
    obtain ⟨i, hi, rfl, -⟩ := nat_of (n := nb) (x := x) (by omega) (by omega) (by omega)
    refine V_aload_n (pc := 8) d_X12_wooding_8 rfl ?_
    refine V_iload_n (pc := 9) d_X12_wooding_9 rfl ?_
    refine V_cvI (pc := 10) (n := 2) (c := 12) [_] d_X12_wooding_10 c_X12_229 k_X12_isLanding ⟨rfl, rfl⟩ (tt_139 b) rfl (Nat.le_of_ble_eq_true rfl) ⟨Nat.le_of_ble_eq_true rfl, Nat.le_of_ble_eq_true rfl⟩ ⟨Nat.le_refl _, Nat.le_refl _⟩ (ct_X12_isLanding vns (by omega) ?_)
    refine V_if_eq (pc := 13) 24 d_X12_wooding_13 (by decide) (fun c13 => ?_) (fun c13 => ?_)
    · replace c13 := zf c13
      refine V_iconst (pc := 24) (-1) d_X12_wooding_24 (by decide) ?_
      exact V_retI (pc := 25) d_X12_wooding_25 rfl ⟨Nat.le_refl _, Nat.le_refl _⟩ (h1 (by
            rintro ⟨i', f', t', g1, g2, g3, g4, g5, g6⟩
            try subst g4
            try subst g5
            try subst g6
            simp (disch := omega) only [nI_toInt, nI_eq] at *
            omega))
    · replace c13 := zt c13
      obtain ⟨f, hf, rfl, -⟩ := nat_of (n := ns + 1) (x := y) (by omega) (by omega) (by omega)
      refine V_aload_n (pc := 16) d_X12_wooding_16 rfl ?_
      refine V_iload_n (pc := 17) d_X12_wooding_17 rfl ?_
      refine V_cvI (pc := 18) (n := 2) (c := 12) [_] d_X12_wooding_18 c_X12_229 k_X12_isLanding ⟨rfl, rfl⟩ (tt_139 b) rfl (Nat.le_of_ble_eq_true rfl) ⟨Nat.le_of_ble_eq_true rfl, Nat.le_of_ble_eq_true rfl⟩ ⟨Nat.le_refl _, Nat.le_refl _⟩ (ct_X12_isLanding vns (by omega) ?_)
      refine V_if_ne (pc := 21) 26 d_X12_wooding_21 (by decide) (fun c21 => ?_) (fun c21 => ?_)
      · replace c21 := zt c21
        obtain ⟨t, ht, rfl, -⟩ := nat_of (n := ns + 1) (x := z) (by omega) (by omega) (by omega)
        obtain ⟨T, T2, hT1, hT2, -, eT, -⟩ := (hB i hi).2.2.2.1
        have hw : WP (wP σ f t) (wN σ f t (q / 96)) T (wL f t) := WP_ok hLD hS hn10 (by omega) (by omega) hT2
        have e0 := wv_b (N := wN σ f t (q / 96)) hw.1 hw.2.1 hw.2.2.1 0 0
        refine V_aload_n (pc := 26) d_X12_wooding_26 rfl ?_
        refine V_iload_n (pc := 27) d_X12_wooding_27 rfl ?_
        refine V_iload_n (pc := 28) d_X12_wooding_28 rfl ?_
        refine V_iload_n (pc := 29) d_X12_wooding_29 rfl ?_
        refine V_cvI (pc := 30) (n := 4) (c := 12) [_, _, _] d_X12_wooding_30 c_X12_281 k_X12_findWood ⟨rfl, rfl⟩ (tt_139 b) rfl (Nat.le_of_ble_eq_true rfl) ⟨Nat.le_of_ble_eq_true rfl, Nat.le_of_ble_eq_true rfl⟩ ⟨Nat.le_refl _, Nat.le_refl _⟩ (ct_X12_findWood hR hw rfl (by omega) (by omega) (by omega) eT (fun k hk => (wP_ok hLD hn10 hk (by omega) (by omega)).1) (fun k hk => (wN_ok hS hk (by omega) (by omega)).1) (fun τ hM hK => ?_))
        refine V_istore (pc := 33) d_X12_wooding_33 (by decide) ?_
        refine V_iload (pc := 35) d_X12_wooding_35 rfl ?_
        refine V_ldcw (pc := 37) d_X12_wooding_37 l_X12_273 ?_
        refine V_icmp_ne (pc := 40) 47 d_X12_wooding_40 (by decide) (fun c40 => ?_) (fun c40 => ?_)
        · have k := h2 i f t T hi (by omega) (by omega) rfl rfl rfl eT hT2 τ hM hK
          rw [show (1000000000 : Int32) = nI 1000000000 from rfl, nI_eq (by omega) (by omega)] at c40
          rw [if_neg c40] at k
          refine V_iload (pc := 47) d_X12_wooding_47 rfl ?_
          exact V_retI (pc := 49) d_X12_wooding_49 rfl ⟨Nat.le_refl _, Nat.le_refl _⟩ k
        · have k := h2 i f t T hi (by omega) (by omega) rfl rfl rfl eT hT2 τ hM hK
          rw [show (1000000000 : Int32) = nI 1000000000 from rfl, nI_eq (by omega) (by omega)] at c40
          rw [if_pos c40] at k
          refine V_iconst (pc := 43) (-1) d_X12_wooding_43 (by decide) ?_
          refine V_goto (pc := 44) 49 d_X12_wooding_44 (by decide) ?_
          exact V_retI (pc := 49) d_X12_wooding_49 rfl ⟨Nat.le_refl _, Nat.le_refl _⟩ k
      · replace c21 := zf c21
        refine V_iconst (pc := 24) (-1) d_X12_wooding_24 (by decide) ?_
        exact V_retI (pc := 25) d_X12_wooding_25 rfl ⟨Nat.le_refl _, Nat.le_refl _⟩ (h1 (by
            rintro ⟨i', f', t', g1, g2, g3, g4, g5, g6⟩
            try subst g4
            try subst g5
            try subst g6
            simp (disch := omega) only [nI_toInt, nI_eq] at *
            omega))
theorem ifm1 {v : Nat} (h : v = 1000000000 ∨ v ≤ 98010) (c : (if v = 1000000000 then (-1 : Int32) else nI v) = -1) : v = 1000000000 := by
  rcases h with h | h
  · exact h
  · rw [if_neg (by omega)] at c
    exact absurd c (nI_nm1 (by omega))
theorem ifm2 {v : Nat} (h : v = 1000000000 ∨ v ≤ 98010) (c : ¬ (if v = 1000000000 then (-1 : Int32) else nI v) = -1) : v < 1000000000 := by
  rcases h with h | h
  · rw [if_pos h] at c; exact absurd rfl c
  · omega
theorem wP_ag {σ τ : Sg} (h : ∀ a i, 139 ≤ a → a < 192 → τ a i = σ a i) {f t : Nat} : wP τ f t = wP σ f t := funext fun k => by rw [wP, wP, h _ _ (by decide) (by decide)]
theorem wN_ag {σ τ : Sg} (h : ∀ a i, 139 ≤ a → a < 192 → τ a i = σ a i) {f t d : Nat} : wN τ f t d = wN σ f t d := funext fun k => by rw [wN, wN, longS_ag h]
theorem rel_wd {σ τ κ : Sg} {b : Bool} {L : Nat} (h : Rel σ b) (h1 : ∀ a j, ¬ (126 ≤ a ∧ a ≤ 129) → τ a j = σ a j) (h2 : MO τ κ L) : Rel κ b := by
  obtain ⟨q, ns, nb, nl, nt, nr, hR, hX, hP, hQ, hK⟩ := h
  have hbd := hR.1.1
  have g : ∀ a j, ¬ ((126 ≤ a ∧ a ≤ 129) ∨ (172 ≤ a ∧ a ≤ 174) ∨ (a = 139 ∧ j = 43)) → κ a j = σ a j := fun a j ha => (h2.1 a j (by omega)).trans (h1 a j (by omega))
  exact ⟨q, ns, nb, nl, nt, nr, RR_cg hR (fun a i _ _ => g a i (by omega)) (fun a i ha => g a i (by omega)), cX_cg hX (by rw [g _ _ (by omega), g _ _ (by omega)]; exact hX.1) ⟨g _ _ (by omega), g _ _ (by omega)⟩, cP_cg hP ⟨g _ _ (by omega), g _ _ (by omega)⟩ (fun j _ => ⟨g _ _ (by omega), g _ _ (by omega)⟩), cQ_cg hQ (fun a i _ => g a i (by omega)), cK_cg hK (g _ _ (by omega)) (fun a i _ => g a i (by omega)) (fun a i _ => g a i (by omega)) (by omega) (by omega) (by omega) (by omega) (by omega)⟩
theorem ct_X12_bought {x y z w : Int32} {ρ : Sg} {q ns nb nl nt nr : Nat} (hR : RR ρ 4 σ q ns nb nl nt nr) (h1 : ¬ (∃ i f t : Nat, i < nb ∧ f ≤ ns ∧ t ≤ ns ∧ x = nI i ∧ y = nI f ∧ z = nI t) → K (-1) (σ, sh b)) (h2 : ∀ i f t T : Nat, i < nb → f ≤ ns → t ≤ ns → x = nI i → y = nI f → z = nI t → σ 151 i = nI T → T ≤ 99 → ∀ τ, MO σ τ (wL f t) → K (if wv (wP σ f t) (wN σ f t (q / 96)) T (wL f t) 0 0 = 1000000000 ∨ ¬ (0 ≤ w.toInt ∧ w.toInt ≤ (wL f t : Int) - 1) then -1 else nI (bR (wP σ f t) (wN σ f t (q / 96)) T (wL f t) w.toNatClampNeg (lvw (wP σ f t) (wN σ f t (q / 96)) T (wL f t) w.toNatClampNeg))) (τ, sh b)) : CM G mX12_bought (rl 6) [.ref 139, .int x, .int y, .int z, .int w] (σ, sh b) (QI K) := by
  obtain ⟨⟨⟨hq2, hn10, hnb, hnl, hnt, hnr⟩, ⟨vq, vns, vnb, vnl, vnt, vnr⟩, ⟨rq, rns, rnb, rnl, rnt, rnr⟩, hpd⟩, hH, hC, hS, hLD, hB, hA, hT, hU⟩ := id hR
  refine CM.of (by decide) (Nat.le_of_ble_eq_true rfl) (cats1 rfl) ?_
  refine V_aload_n (pc := 0) d_X12_bought_0 rfl ?_
  refine V_iload_n (pc := 1) d_X12_bought_1 rfl ?_
  refine V_iload_n (pc := 2) d_X12_bought_2 rfl ?_
  refine V_iload_n (pc := 3) d_X12_bought_3 rfl ?_
  refine V_cvI (pc := 4) (n := 5) (c := 12) [_, _, _] d_X12_bought_4 c_X12_284 k_X12_wooding ⟨rfl, rfl⟩ (tt_139 b) rfl (Nat.le_of_ble_eq_true rfl) ⟨Nat.le_of_ble_eq_true rfl, Nat.le_of_ble_eq_true rfl⟩ ⟨Nat.le_refl _, Nat.le_refl _⟩ (ct_X12_wooding hR (fun hbad => ?_) (fun i f t T hi hf ht ex ey ez eT hT2 τ hM hK => ?_))
  · refine V_iconst (pc := 7) (-1) d_X12_bought_7 (by decide) ?_
    refine V_icmp_eq (pc := 8) 36 d_X12_bought_8 (by decide) (fun c8 => ?_) (fun c8 => ?_)
    · refine V_iconst (pc := 36) (-1) d_X12_bought_36 (by decide) ?_
      exact V_retI (pc := 37) d_X12_bought_37 rfl ⟨Nat.le_refl _, Nat.le_refl _⟩ (h1 hbad)
    · exact absurd (by decide) c8
  · have k := h2 i f t T hi hf ht ex ey ez eT hT2 τ hM
    have hw : WP (wP σ f t) (wN σ f t (q / 96)) T (wL f t) := WP_ok hLD hS hn10 (by omega) (by omega) hT2
    have e0 := wv_b (N := wN σ f t (q / 96)) hw.1 hw.2.1 hw.2.2.1 0 0
    have hwl := wL_le hf ht
    refine V_iconst (pc := 7) (-1) d_X12_bought_7 (by decide) ?_
    refine V_icmp_eq (pc := 8) 36 d_X12_bought_8 (by decide) (fun c8 => ?_) (fun c8 => ?_)
    · rw [if_pos (Or.inl (ifm1 e0 c8))] at k
      refine V_iconst (pc := 36) (-1) d_X12_bought_36 (by decide) ?_
      exact V_retI (pc := 37) d_X12_bought_37 rfl ⟨Nat.le_refl _, Nat.le_refl _⟩ k
    · have hz : wv (wP σ f t) (wN σ f t (q / 96)) T (wL f t) 0 0 < 1000000000 := ifm2 e0 c8
      refine V_iload (pc := 11) d_X12_bought_11 rfl ?_
      refine V_iconst (pc := 13) (0) d_X12_bought_13 (by decide) ?_
      refine V_aload_n (pc := 14) d_X12_bought_14 rfl ?_
      refine P_getI (pc := 15) d_X12_bought_15 f_X12_274 (tt_139 b) ?_
      refine V_iconst (pc := 18) (1) d_X12_bought_18 (by decide) ?_
      refine V_isub (pc := 19) d_X12_bought_19 ?_
      refine V_csI (pc := 20) (n := 1) [_, _, _] d_X12_bought_20 c_X12_174 k_X12_in rfl (Nat.le_of_ble_eq_true rfl) ⟨Nat.le_of_ble_eq_true rfl, Nat.le_of_ble_eq_true rfl⟩ ⟨Nat.le_refl _, Nat.le_refl _⟩ (ct_X12_in (lo := 0) (hi := (wL f t : Int) - 1) (by decide) (cntm1 hM.2 (by omega)) ?_)
      refine V_if_eq (pc := 23) 36 d_X12_bought_23 (by decide) (fun c23 => ?_) (fun c23 => ?_)
      · replace c23 := zf c23
        rw [if_pos (Or.inr c23)] at k
        refine V_iconst (pc := 36) (-1) d_X12_bought_36 (by decide) ?_
        exact V_retI (pc := 37) d_X12_bought_37 rfl ⟨Nat.le_refl _, Nat.le_refl _⟩ k
      · replace c23 := zt c23
        obtain ⟨p, hp, rfl, ep⟩ := nat_of (n := wL f t) (x := w) (by omega) (by omega) (by omega)
        rw [if_neg (by omega), ep] at k
        refine V_aload_n (pc := 26) d_X12_bought_26 rfl ?_
        refine P_getR (pc := 27) d_X12_bought_27 f_X12_113 (tt_139 b) (rr_139_42 b) ?_
        refine V_iload (pc := 30) d_X12_bought_30 rfl ?_
        refine P_iald (pc := 32) (p) d_X12_bought_32 (tt_174 b) rfl (ln_of (ll_174 b) ⟨by omega, by decide⟩) ?_
        rw [hK hz p hp]
        refine V_goto (pc := 33) 37 d_X12_bought_33 (by decide) ?_
        exact V_retI (pc := 37) d_X12_bought_37 rfl ⟨Nat.le_refl _, Nat.le_refl _⟩ k
theorem pr_wooding {x y z : Int32} (h : Rel σ b) : PR G mX11_wooding mX12_wooding 4 5 [.int x, .int y, .int z] σ b := by
  have h0 := h
  obtain ⟨q, ns, nb, nl, nt, nr, hR, hX, hP, hQ, hK⟩ := h
  have hbd := hR.1.1
  refine ct_X11_wooding hR (fun hv => ?_) (fun i f t T hi hf ht ex ey ez eT hT τ hτ => ?_)
  · exact ⟨rfl, ct_X12_wooding hR (fun _ => ⟨rfl, σ, rfl, h0⟩) (fun i f t T hi hf ht ex ey ez eT hT => absurd ⟨i, f, t, hi, hf, ht, ex, ey, ez⟩ hv)⟩
  · have ag : ∀ a j, 139 ≤ a → a < 192 → τ a j = σ a j := fun a j h1 h2 => hτ a j (by omega)
    refine ⟨rfl, ct_X12_wooding (RR_lo hR ag) (fun hv => absurd ⟨i, f, t, hi, hf, ht, ex, ey, ez⟩ hv) (fun i' f' t' T' hi' hf' ht' ex' ey' ez' eT' hT' κ hκ hK9 => ?_)⟩
    obtain rfl : i' = i := (nI_eq (by omega) (by omega)).mp (ex'.symm.trans ex)
    obtain rfl : f' = f := (nI_eq (by omega) (by omega)).mp (ey'.symm.trans ey)
    obtain rfl : t' = t := (nI_eq (by omega) (by omega)).mp (ez'.symm.trans ez)
    rw [ag _ _ (by decide) (by decide)] at eT'
    obtain rfl : T' = T := (nI_eq (by omega) (by omega)).mp (eT'.symm.trans eT)
    refine ⟨by rw [wP_ag ag, wN_ag ag], κ, rfl, rel_wd h0 hτ hκ⟩
theorem pr_bought {x y z w : Int32} (h : Rel σ b) : PR G mX11_bought mX12_bought 4 6 [.int x, .int y, .int z, .int w] σ b := by
  have h0 := h
  obtain ⟨q, ns, nb, nl, nt, nr, hR, hX, hP, hQ, hK⟩ := h
  have hbd := hR.1.1
  refine ct_X11_bought hR (fun hv => ?_) (fun i f t T hi hf ht ex ey ez eT hT τ hτ => ?_)
  · exact ⟨rfl, ct_X12_bought hR (fun _ => ⟨rfl, σ, rfl, h0⟩) (fun i f t T hi hf ht ex ey ez eT hT => absurd ⟨i, f, t, hi, hf, ht, ex, ey, ez⟩ hv)⟩
  · have ag : ∀ a j, 139 ≤ a → a < 192 → τ a j = σ a j := fun a j h1 h2 => hτ a j (by omega)
    refine ⟨rfl, ct_X12_bought (RR_lo hR ag) (fun hv => absurd ⟨i, f, t, hi, hf, ht, ex, ey, ez⟩ hv) (fun i' f' t' T' hi' hf' ht' ex' ey' ez' eT' hT' κ hκ => ?_)⟩
    obtain rfl : i' = i := (nI_eq (by omega) (by omega)).mp (ex'.symm.trans ex)
    obtain rfl : f' = f := (nI_eq (by omega) (by omega)).mp (ey'.symm.trans ey)
    obtain rfl : t' = t := (nI_eq (by omega) (by omega)).mp (ez'.symm.trans ez)
    rw [ag _ _ (by decide) (by decide)] at eT'
    obtain rfl : T' = T := (nI_eq (by omega) (by omega)).mp (eT'.symm.trans eT)
    refine ⟨by rw [wP_ag ag, wN_ag ag], κ, rfl, rel_wd h0 hτ hκ⟩
end HC
