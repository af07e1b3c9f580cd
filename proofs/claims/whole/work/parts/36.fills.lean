section HB
variable {G : Gl} {F : Fn} {KV : Hp → Prop} {σ : Nat → Nat → Int32} {s : (Nat → Nat → Option Nat) × (Nat → Nat) × (Nat → Nat) × Nat} {a : Nat}
theorem lp_fill {m : Nat} {v : Int32} (hT : s.2.1 a = 20) (hL : s.2.2.1 a = m) (hn : m < 2 ^ 31) (hE : V G mJ_fill (rl 1) F 0 0 20 [some (.ref a), some (.int v), some (.int (nI m)), some (.int (nI m))] [] (filr σ a 0 m v, s)) : ∀ n, n ≤ m → ∀ j, j + n = m → V G mJ_fill (rl 1) F 0 0 5 [some (.ref a), some (.int v), some (.int (nI j)), some (.int (nI m))] [] (filr σ a 0 j v, s) := by
  intro n
  induction n with
  | zero =>
    intro hx j hj
    obtain rfl : j = m := by omega
    refine V_iload_n (pc := 5) d_J_fill_5 rfl ?_
    refine V_iload_n (pc := 6) d_J_fill_6 rfl ?_
    refine B_icmp_ge (pc := 7) 20 d_J_fill_7 (by decide) (fun c7 => ?_) (fun c7 => ?_)
    · simp (disch := omega) only [nI_toInt, ti0, ti1, tim1, tim20, tim1000] at c7
      exact hE
    · simp (disch := omega) only [nI_toInt, ti0, ti1, tim1, tim20, tim1000] at c7
      all_goals omega
  | succ n ih =>
    intro hx j hj
    refine V_iload_n (pc := 5) d_J_fill_5 rfl ?_
    refine V_iload_n (pc := 6) d_J_fill_6 rfl ?_
    refine B_icmp_ge (pc := 7) 20 d_J_fill_7 (by decide) (fun c7 => ?_) (fun c7 => ?_)
    · simp (disch := omega) only [nI_toInt, ti0, ti1, tim1, tim20, tim1000] at c7
      all_goals omega
    · simp (disch := omega) only [nI_toInt, ti0, ti1, tim1, tim20, tim1000] at c7
      refine V_aload_n (pc := 10) d_J_fill_10 rfl ?_
      refine V_iload_n (pc := 11) d_J_fill_11 rfl ?_
      refine V_iload_n (pc := 12) d_J_fill_12 rfl ?_
      refine P_iast (pc := 13) (j) d_J_fill_13 hT rfl (ln_of hL ⟨by omega, by omega⟩) ?_
      refine V_iinc (pc := 14) d_J_fill_14 rfl (by decide) ?_
      refine V_goto (pc := 17) 5 d_J_fill_17 (by decide) ?_
      rw [p1_s, filr_s (by omega)]
      exact ih (by omega) (j + 1) (by omega)
theorem ct_J_fill {n : Nat} {v : Int32} (hT : s.2.1 a = 20) (hL : s.2.2.1 a = n) (hn : n < 2 ^ 31) (hq : KV (filr σ a 0 n v, s)) : CM G mJ_fill (rl 1) [.ref a, .int v] (σ, s) (QV KV) := by
  refine CM.ofF (by decide +kernel) (Nat.le_of_ble_eq_true rfl) (cats1 rfl) ?_
  refine V_iconst (pc := 0) (0) d_J_fill_0 (by decide) ?_
  refine V_istore_n (pc := 1) d_J_fill_1 (by decide) ?_
  refine V_aload_n (pc := 2) d_J_fill_2 rfl ?_
  refine P_alen (pc := 3) d_J_fill_3 hT ?_
  rw [hL]
  refine V_istore_n (pc := 4) d_J_fill_4 (by decide) ?_
  have k := lp_fill (G := G) (F := FM G (rl 1) (QV KV)) (σ := σ) (v := v) hT hL hn ?_ n (Nat.le_refl _) 0 (by omega)
  · rw [filr_0] at k
    exact k
  · exact V_retV (pc := 20) d_J_fill_20 rfl ⟨Nat.le_refl _, Nat.le_refl _⟩ hq
theorem ct_X10_forgetAll {q : Nat} (hT : s.2.1 a = 11) (hR1 : s.1 a 1 = some q) (hTq : s.2.1 q = 20) (hLq : s.2.2.1 q = 10) (hq : KV (filr σ q 0 10 (-1), s)) : CM G mX10_forgetAll (rl 2) [.ref a] (σ, s) (QV KV) := by
  refine CM.of (by decide) (Nat.le_of_ble_eq_true rfl) (cats1 rfl) ?_
  refine V_aload_n (pc := 0) d_X10_forgetAll_0 rfl ?_
  refine P_getR (pc := 1) d_X10_forgetAll_1 f_X10_15 hT hR1 ?_
  refine V_iconst (pc := 4) (-1) d_X10_forgetAll_4 (by decide) ?_
  refine V_csV (pc := 5) (n := 1) [_, _] d_X10_forgetAll_5 c_X10_18 k_J_fill rfl (Nat.le_of_ble_eq_true rfl) ⟨Nat.le_of_ble_eq_true rfl, Nat.le_of_ble_eq_true rfl⟩ ⟨Nat.le_refl _, Nat.le_refl _⟩ (ct_J_fill hTq hLq (by decide) ?_)
  exact V_retV (pc := 8) d_X10_forgetAll_8 rfl ⟨Nat.le_refl _, Nat.le_refl _⟩ hq
theorem ct_X2_begin {w q : Nat} {x y z t : Int32} (hT : s.2.1 a = 3) (hR9 : s.1 a 9 = some w) (hTw : s.2.1 w = 11) (hR1 : s.1 w 1 = some q) (hTq : s.2.1 q = 20) (hLq : s.2.2.1 q = 10) (hq : KV (filr (up2 (up2 (up2 (up2 (up2 (up2 (up2 σ a 0 y) a 1 z) a 2 t) a 3 t) a 4 0) a 5 0) a 6 x) q 0 10 (-1), s)) : CM G mX2_begin (rl 3) [.ref a, .int x, .int y, .int z, .int t] (σ, s) (QV KV) := by
  refine CM.of (by decide) (Nat.le_of_ble_eq_true rfl) (cats1 rfl) ?_
  refine V_aload_n (pc := 0) d_X2_begin_0 rfl ?_
  refine V_iload_n (pc := 1) d_X2_begin_1 rfl ?_
  refine P_putI (pc := 2) d_X2_begin_2 f_X2_9 hT ?_
  refine V_aload_n (pc := 5) d_X2_begin_5 rfl ?_
  refine V_iload_n (pc := 6) d_X2_begin_6 rfl ?_
  refine P_putI (pc := 7) d_X2_begin_7 f_X2_15 hT ?_
  refine V_aload_n (pc := 10) d_X2_begin_10 rfl ?_
  refine V_iload (pc := 11) d_X2_begin_11 rfl ?_
  refine P_putI (pc := 13) d_X2_begin_13 f_X2_18 hT ?_
  refine V_aload_n (pc := 16) d_X2_begin_16 rfl ?_
  refine V_iload (pc := 17) d_X2_begin_17 rfl ?_
  refine P_putI (pc := 19) d_X2_begin_19 f_X2_21 hT ?_
  refine V_aload_n (pc := 22) d_X2_begin_22 rfl ?_
  refine V_iconst (pc := 23) (0) d_X2_begin_23 (by decide) ?_
  refine P_putI (pc := 24) d_X2_begin_24 f_X2_24 hT ?_
  refine V_aload_n (pc := 27) d_X2_begin_27 rfl ?_
  refine V_iconst (pc := 28) (0) d_X2_begin_28 (by decide) ?_
  refine P_putI (pc := 29) d_X2_begin_29 f_X2_27 hT ?_
  refine V_aload_n (pc := 32) d_X2_begin_32 rfl ?_
  refine V_iload_n (pc := 33) d_X2_begin_33 rfl ?_
  refine P_putI (pc := 34) d_X2_begin_34 f_X2_30 hT ?_
  refine V_aload_n (pc := 37) d_X2_begin_37 rfl ?_
  refine P_getR (pc := 38) d_X2_begin_38 f_X2_42 hT hR9 ?_
  refine V_cvV (pc := 41) (n := 2) (c := 10) [] d_X2_begin_41 c_X2_46 k_X10_forgetAll ⟨rfl, rfl⟩ hTw rfl (Nat.le_of_ble_eq_true rfl) ⟨Nat.le_of_ble_eq_true rfl, Nat.le_of_ble_eq_true rfl⟩ ⟨Nat.le_refl _, Nat.le_refl _⟩ (ct_X10_forgetAll hTw hR1 hTq hLq ?_)
  exact V_retV (pc := 44) d_X2_begin_44 rfl ⟨Nat.le_refl _, Nat.le_refl _⟩ hq
theorem ct_X7_begin {w : Nat} {x y z t : Int32} (hT : s.2.1 a = 8) (hR5 : s.1 a 5 = some w) (hTw : s.2.1 w = 20) (hLw : s.2.2.1 w = 100) (hq : KV (filr (up2 (up2 (up2 (up2 (up2 σ a 0 x) a 1 y) a 2 z) a 3 t) a 4 0) w 0 100 (-1000), s)) : CM G mX7_begin (rl 2) [.ref a, .int x, .int y, .int z, .int t] (σ, s) (QV KV) := by
  refine CM.of (by decide) (Nat.le_of_ble_eq_true rfl) (cats1 rfl) ?_
  refine V_aload_n (pc := 0) d_X7_begin_0 rfl ?_
  refine V_iload_n (pc := 1) d_X7_begin_1 rfl ?_
  refine P_putI (pc := 2) d_X7_begin_2 f_X7_9 hT ?_
  refine V_aload_n (pc := 5) d_X7_begin_5 rfl ?_
  refine V_iload_n (pc := 6) d_X7_begin_6 rfl ?_
  refine P_putI (pc := 7) d_X7_begin_7 f_X7_15 hT ?_
  refine V_aload_n (pc := 10) d_X7_begin_10 rfl ?_
  refine V_iload_n (pc := 11) d_X7_begin_11 rfl ?_
  refine P_putI (pc := 12) d_X7_begin_12 f_X7_18 hT ?_
  refine V_aload_n (pc := 15) d_X7_begin_15 rfl ?_
  refine V_iload (pc := 16) d_X7_begin_16 rfl ?_
  refine P_putI (pc := 18) d_X7_begin_18 f_X7_21 hT ?_
  refine V_aload_n (pc := 21) d_X7_begin_21 rfl ?_
  refine V_iconst (pc := 22) (0) d_X7_begin_22 (by decide) ?_
  refine P_putZ (pc := 23) d_X7_begin_23 f_X7_24 hT (Or.inl rfl) ?_
  refine V_aload_n (pc := 26) d_X7_begin_26 rfl ?_
  refine P_getR (pc := 27) d_X7_begin_27 f_X7_28 hT hR5 ?_
  refine V_sipush (pc := 30) (-1000) d_X7_begin_30 (by decide) ?_
  refine V_csV (pc := 33) (n := 1) [_, _] d_X7_begin_33 c_X7_32 k_J_fill rfl (Nat.le_of_ble_eq_true rfl) ⟨Nat.le_of_ble_eq_true rfl, Nat.le_of_ble_eq_true rfl⟩ ⟨Nat.le_refl _, Nat.le_refl _⟩ (ct_J_fill hTw hLw (by decide) ?_)
  exact V_retV (pc := 36) d_X7_begin_36 rfl ⟨Nat.le_refl _, Nat.le_refl _⟩ hq
end HB
theorem abo_0 {σ V : Sg} {ns nb nl : Nat} (h : cA σ 4 V ns nb nl) (hb : nb ≤ 5) : ∀ n, n ≤ nl → aboS V nb n = 0
  | 0, _ => rfl
  | n + 1, hn => by
    rw [aboS_s, abo_0 h hb n (by omega), if_neg (fun q => ?_)]
    · rfl
    · rcases (h n (by omega)).2.2.2.2 with z | ⟨-, i, hi, e⟩ | z | z
      · rw [z.1] at q; exact absurd q.1 (by decide)
      · have := (nI_eq (by omega) (by omega)).mp (e.symm.trans q.2)
        omega
      · rw [z.1] at q; exact absurd q.1 (by decide)
      · rw [z.1] at q; exact absurd q.1 (by decide)
theorem cA_nb {σ σ' V V' : Sg} {r ns nb mb nl : Nat} (h : cA σ r V ns nb nl) (hb : nb ≤ mb) (hs : ∀ j, j < nl → ∀ i, σ' (r + 93 + j) i = σ (r + 93 + j) i) (hv : ∀ j, j < nl → ∀ a, 160 ≤ a → a ≤ 164 → V' a j = V a j) : cA σ' r V' ns mb nl := by
  intro j hj
  obtain ⟨h1, h2, h3, h4, h5⟩ := cA_cg h hs hv j hj
  refine ⟨h1, h2, h3, h4, ?_⟩
  rcases h5 with z | ⟨z, i, hi, e⟩ | z | z
  · exact Or.inl z
  · exact Or.inr (Or.inl ⟨z, i, by omega, e⟩)
  · exact Or.inr (Or.inr (Or.inl z))
  · exact Or.inr (Or.inr (Or.inr z))
section HC
variable {G : Gl} {R : Room} {F : Fn} {K : Int32 → Hp → Prop} {KV : Hp → Prop} {σ : Nat → Nat → Int32} {b : Bool}
theorem filr_go {Y : MI} {F : Fn} {pc a m : Nat} {L : List (Option Value)} {v : Int32} {S : (Nat → Nat → Option Nat) × (Nat → Nat) × (Nat → Nat) × Nat} (k : V G Y R F 0 0 pc L [] (filr σ a m 0 v, S)) : V G Y R F 0 0 pc L [] (σ, S) := by
  rw [filr_0] at k
  exact k
theorem film_go {Y : MI} {F : Fn} {pc a m : Nat} {L : List (Option Value)} {v : Int32} {S : (Nat → Nat → Option Nat) × (Nat → Nat) × (Nat → Nat) × Nat} (k : V G Y R F 0 0 pc L [] (film σ a m 0 v, S)) : V G Y R F 0 0 pc L [] (σ, S) := by
  rw [film_0] at k
  exact k
theorem ct_X11_boat {x y z w : Int32} {q ns nb nl nt nr : Nat} (hR : RR σ 4 σ q ns nb nl nt nr) (h1 : ¬ (∃ l u r t, l < ns + 1 ∧ u < 31 ∧ r < 1000 ∧ t < 100 ∧ x = nI l ∧ y = nI u ∧ z = nI r ∧ w = nI t ∧ 1 ≤ u ∧ 1 ≤ r ∧ 1 ≤ t) → K (-1) (up2 σ 3 3 1, sh b)) (h4 : ∀ (l u r t : Nat), l < ns + 1 → u < 31 → r < 1000 → t < 100 → x = nI l → y = nI u → z = nI r → w = nI t → 1 ≤ u → 1 ≤ r → 1 ≤ t → nb = 5 → K (-1) (up2 σ 3 3 (nI 2), sh b)) (h2 : ∀ (l u r t : Nat), l < ns + 1 → u < 31 → r < 1000 → t < 100 → x = nI l → y = nI u → z = nI r → w = nI t → 1 ≤ u → 1 ≤ r → 1 ≤ t → nb < 5 → K (nI nb) (up2 (filr (up2 (up2 (up2 (up2 (up2 (up2 (up2 (up2 σ 4 2 (nI nb + 1)) (77 + 4 * nb) 0 (nI u)) (77 + 4 * nb) 1 (nI r)) (77 + 4 * nb) 2 (nI t)) (77 + 4 * nb) 3 (nI t)) (77 + 4 * nb) 4 0) (77 + 4 * nb) 5 0) (77 + 4 * nb) 6 (nI l)) (80 + 4 * nb) 0 10 (-1)) 3 3 0, sh b)) : CM G mX11_boat (rl 4) [.ref 3, .int x, .int y, .int z, .int w] (σ, sh b) (QI K) := by
  obtain ⟨⟨⟨hq2, hn10, hnb, hnl, hnt, hnr⟩, ⟨vq, vns, vnb, vnl, vnt, vnr⟩, ⟨rq, rns, rnb, rnl, rnt, rnr⟩, hpd⟩, hH, hC, hS, hLD, hB, hA, hT, hU⟩ := hR
  refine CM.of (by decide) (Nat.le_of_ble_eq_true rfl) (cats1 rfl) ?_
  refine V_aload_n (pc := 0) d_X11_boat_0 rfl ?_
  refine P_getR (pc := 1) d_X11_boat_1 f_X11_10 (tt_3 b) (rr_3_0 b) ?_
  refine V_iload_n (pc := 4) d_X11_boat_4 rfl ?_
  refine V_cvI (pc := 5) (n := 2) (c := 4) [_] d_X11_boat_5 c_X11_107 k_X4_isLanding ⟨rfl, rfl⟩ (tt_4 b) rfl (Nat.le_of_ble_eq_true rfl) ⟨Nat.le_of_ble_eq_true rfl, Nat.le_of_ble_eq_true rfl⟩ ⟨Nat.le_refl _, Nat.le_refl _⟩ (ct_X4_isLanding rns (by omega) ?_)
  refine V_if_eq (pc := 8) 43 d_X11_boat_8 (by decide) (fun c8 => ?_) (fun c8 => ?_)
  · replace c8 := zf c8
    refine V_aload_n (pc := 43) d_X11_boat_43 rfl ?_
    refine V_iconst (pc := 44) (1) d_X11_boat_44 (by decide) ?_
    refine V_cvI (pc := 45) (n := 1) (c := 11) [_] d_X11_boat_45 c_X11_55 k_X11_refused ⟨rfl, rfl⟩ (tt_3 b) rfl (Nat.le_of_ble_eq_true rfl) ⟨Nat.le_of_ble_eq_true rfl, Nat.le_of_ble_eq_true rfl⟩ ⟨Nat.le_refl _, Nat.le_refl _⟩ (ct_X11_refused ?_)
    exact V_retI (pc := 48) d_X11_boat_48 rfl ⟨Nat.le_refl _, Nat.le_refl _⟩ (h1 (by
                        rintro ⟨l, u, r, t, gl, gu, gr, gt, el, eu, er, et, d0, d1, d2⟩
                        try subst el
                        try subst eu
                        try subst er
                        try subst et
                        simp (disch := omega) only [nI_toInt, nI_eq] at *
                        omega))
  · replace c8 := zt c8
    refine V_iload_n (pc := 11) d_X11_boat_11 rfl ?_
    refine V_iconst (pc := 12) (1) d_X11_boat_12 (by decide) ?_
    refine V_bipush (pc := 13) (nI 30) d_X11_boat_13 (by decide) ?_
    refine V_csI (pc := 15) (n := 1) [_, _, _] d_X11_boat_15 c_X11_51 k_X11_isWithin rfl (Nat.le_of_ble_eq_true rfl) ⟨Nat.le_of_ble_eq_true rfl, Nat.le_of_ble_eq_true rfl⟩ ⟨Nat.le_refl _, Nat.le_refl _⟩ (ct_X11_isWithin (lo := 1) (hi := 30) (by decide) (by decide) ?_)
    refine V_if_eq (pc := 18) 43 d_X11_boat_18 (by decide) (fun c18 => ?_) (fun c18 => ?_)
    · replace c18 := zf c18
      refine V_aload_n (pc := 43) d_X11_boat_43 rfl ?_
      refine V_iconst (pc := 44) (1) d_X11_boat_44 (by decide) ?_
      refine V_cvI (pc := 45) (n := 1) (c := 11) [_] d_X11_boat_45 c_X11_55 k_X11_refused ⟨rfl, rfl⟩ (tt_3 b) rfl (Nat.le_of_ble_eq_true rfl) ⟨Nat.le_of_ble_eq_true rfl, Nat.le_of_ble_eq_true rfl⟩ ⟨Nat.le_refl _, Nat.le_refl _⟩ (ct_X11_refused ?_)
      exact V_retI (pc := 48) d_X11_boat_48 rfl ⟨Nat.le_refl _, Nat.le_refl _⟩ (h1 (by
                        rintro ⟨l, u, r, t, gl, gu, gr, gt, el, eu, er, et, d0, d1, d2⟩
                        try subst el
                        try subst eu
                        try subst er
                        try subst et
                        simp (disch := omega) only [nI_toInt, nI_eq] at *
                        omega))
    · replace c18 := zt c18
      refine V_iload_n (pc := 21) d_X11_boat_21 rfl ?_
      refine V_iconst (pc := 22) (1) d_X11_boat_22 (by decide) ?_
      refine V_sipush (pc := 23) (nI 999) d_X11_boat_23 (by decide) ?_
      refine V_csI (pc := 26) (n := 1) [_, _, _] d_X11_boat_26 c_X11_51 k_X11_isWithin rfl (Nat.le_of_ble_eq_true rfl) ⟨Nat.le_of_ble_eq_true rfl, Nat.le_of_ble_eq_true rfl⟩ ⟨Nat.le_refl _, Nat.le_refl _⟩ (ct_X11_isWithin (lo := 1) (hi := 999) (by decide) (by decide) ?_)
      refine V_if_eq (pc := 29) 43 d_X11_boat_29 (by decide) (fun c29 => ?_) (fun c29 => ?_)
      · replace c29 := zf c29
        refine V_aload_n (pc := 43) d_X11_boat_43 rfl ?_
        refine V_iconst (pc := 44) (1) d_X11_boat_44 (by decide) ?_
        refine V_cvI (pc := 45) (n := 1) (c := 11) [_] d_X11_boat_45 c_X11_55 k_X11_refused ⟨rfl, rfl⟩ (tt_3 b) rfl (Nat.le_of_ble_eq_true rfl) ⟨Nat.le_of_ble_eq_true rfl, Nat.le_of_ble_eq_true rfl⟩ ⟨Nat.le_refl _, Nat.le_refl _⟩ (ct_X11_refused ?_)
        exact V_retI (pc := 48) d_X11_boat_48 rfl ⟨Nat.le_refl _, Nat.le_refl _⟩ (h1 (by
                        rintro ⟨l, u, r, t, gl, gu, gr, gt, el, eu, er, et, d0, d1, d2⟩
                        try subst el
                        try subst eu
                        try subst er
                        try subst et
                        simp (disch := omega) only [nI_toInt, nI_eq] at *
                        omega))
      · replace c29 := zt c29
        refine V_iload (pc := 32) d_X11_boat_32 rfl ?_
        refine V_iconst (pc := 34) (1) d_X11_boat_34 (by decide) ?_
        refine V_bipush (pc := 35) (nI 99) d_X11_boat_35 (by decide) ?_
        refine V_csI (pc := 37) (n := 1) [_, _, _] d_X11_boat_37 c_X11_51 k_X11_isWithin rfl (Nat.le_of_ble_eq_true rfl) ⟨Nat.le_of_ble_eq_true rfl, Nat.le_of_ble_eq_true rfl⟩ ⟨Nat.le_refl _, Nat.le_refl _⟩ (ct_X11_isWithin (lo := 1) (hi := 99) (by decide) (by decide) ?_)
        refine V_if_ne (pc := 40) 49 d_X11_boat_40 (by decide) (fun c40 => ?_) (fun c40 => ?_)
        · replace c40 := zt c40
          obtain ⟨l, hl, rfl, -⟩ := nat_of (n := ns + 1) (x := x) (by omega) (by omega) (by omega)
          obtain ⟨u, hu, rfl, -⟩ := nat_of (n := 31) (x := y) (by omega) (by omega) (by omega)
          obtain ⟨r, hr, rfl, -⟩ := nat_of (n := 1000) (x := z) (by omega) (by omega) (by omega)
          obtain ⟨t, ht, rfl, -⟩ := nat_of (n := 100) (x := w) (by omega) (by omega) (by omega)
          simp (disch := omega) only [nI_toInt, nI_eq] at c8 c18 c29 c40
          refine V_aload_n (pc := 49) d_X11_boat_49 rfl ?_
          refine P_getR (pc := 50) d_X11_boat_50 f_X11_10 (tt_3 b) (rr_3_0 b) ?_
          refine P_getI (pc := 53) d_X11_boat_53 f_X11_110 (tt_4 b) ?_
          rw [rnb]
          refine V_iconst (pc := 56) (nI 5) d_X11_boat_56 (by decide) ?_
          refine B_icmp_lt (pc := 57) 66 d_X11_boat_57 (by decide) (fun c57 => ?_) (fun c57 => ?_)
          · simp (disch := omega) only [show (nI 5).toInt = 5 from by decide, nI_toInt, ti0, ti1, tim1, tim20, tim1000] at c57
            refine V_aload_n (pc := 66) d_X11_boat_66 rfl ?_
            refine P_getR (pc := 67) d_X11_boat_67 f_X11_10 (tt_3 b) (rr_3_0 b) ?_
            refine V_dup (pc := 70) d_X11_boat_70 rfl ?_
            refine P_getI (pc := 71) d_X11_boat_71 f_X11_110 (tt_4 b) ?_
            rw [rnb]
            refine V_dup_x1 (pc := 74) d_X11_boat_74 rfl rfl ?_
            refine V_iconst (pc := 75) (1) d_X11_boat_75 (by decide) ?_
            refine V_iadd (pc := 76) d_X11_boat_76 ?_
            refine P_putI (pc := 77) d_X11_boat_77 f_X11_110 (tt_4 b) ?_
            refine V_istore (pc := 80) d_X11_boat_80 (by decide) ?_
            refine V_aload_n (pc := 82) d_X11_boat_82 rfl ?_
            refine P_getR (pc := 83) d_X11_boat_83 f_X11_10 (tt_3 b) (rr_3_0 b) ?_
            refine P_getR (pc := 86) d_X11_boat_86 f_X11_113 (tt_4 b) (rr_4_12 b) ?_
            refine V_iload (pc := 89) d_X11_boat_89 rfl ?_
            refine P_aald (pc := 91) (c := 2) (nb) d_X11_boat_91 (tt_9 b) (by decide) rfl (ln_of (ll_9 b) ⟨by omega, by decide⟩) (rB b (by omega)) ?_
            refine V_iload_n (pc := 92) d_X11_boat_92 rfl ?_
            refine V_iload_n (pc := 93) d_X11_boat_93 rfl ?_
            refine V_iload_n (pc := 94) d_X11_boat_94 rfl ?_
            refine V_iload (pc := 95) d_X11_boat_95 rfl ?_
            refine V_cvV (pc := 97) (n := 3) (c := 2) [_, _, _, _] d_X11_boat_97 c_X11_117 k_X2_begin ⟨rfl, rfl⟩ (tB b (by omega)) rfl (Nat.le_of_ble_eq_true rfl) ⟨Nat.le_of_ble_eq_true rfl, Nat.le_of_ble_eq_true rfl⟩ ⟨Nat.le_refl _, Nat.le_refl _⟩ (ct_X2_begin (tB b (by omega)) (rB9 b (by omega)) (tBW b (by omega)) (rBW1 b (by omega)) (tBW1 b (by omega)) (lBW1 b (by omega)) ?_)
            refine V_aload_n (pc := 100) d_X11_boat_100 rfl ?_
            refine V_iload (pc := 101) d_X11_boat_101 rfl ?_
            refine V_cvI (pc := 103) (n := 1) (c := 11) [_] d_X11_boat_103 c_X11_72 k_X11_done ⟨rfl, rfl⟩ (tt_3 b) rfl (Nat.le_of_ble_eq_true rfl) ⟨Nat.le_of_ble_eq_true rfl, Nat.le_of_ble_eq_true rfl⟩ ⟨Nat.le_refl _, Nat.le_refl _⟩ (ct_X11_done ?_)
            exact V_retI (pc := 106) d_X11_boat_106 rfl ⟨Nat.le_refl _, Nat.le_refl _⟩ (h2 l u r t hl hu hr ht rfl rfl rfl rfl (by omega) (by omega) (by omega) (by omega))
          · simp (disch := omega) only [show (nI 5).toInt = 5 from by decide, nI_toInt, ti0, ti1, tim1, tim20, tim1000] at c57
            refine V_aload_n (pc := 60) d_X11_boat_60 rfl ?_
            refine V_iconst (pc := 61) (nI 2) d_X11_boat_61 (by decide) ?_
            refine V_cvI (pc := 62) (n := 1) (c := 11) [_] d_X11_boat_62 c_X11_55 k_X11_refused ⟨rfl, rfl⟩ (tt_3 b) rfl (Nat.le_of_ble_eq_true rfl) ⟨Nat.le_of_ble_eq_true rfl, Nat.le_of_ble_eq_true rfl⟩ ⟨Nat.le_refl _, Nat.le_refl _⟩ (ct_X11_refused ?_)
            exact V_retI (pc := 65) d_X11_boat_65 rfl ⟨Nat.le_refl _, Nat.le_refl _⟩ (h4 l u r t hl hu hr ht rfl rfl rfl rfl (by omega) (by omega) (by omega) (by omega))
        · replace c40 := zf c40
          refine V_aload_n (pc := 43) d_X11_boat_43 rfl ?_
          refine V_iconst (pc := 44) (1) d_X11_boat_44 (by decide) ?_
          refine V_cvI (pc := 45) (n := 1) (c := 11) [_] d_X11_boat_45 c_X11_55 k_X11_refused ⟨rfl, rfl⟩ (tt_3 b) rfl (Nat.le_of_ble_eq_true rfl) ⟨Nat.le_of_ble_eq_true rfl, Nat.le_of_ble_eq_true rfl⟩ ⟨Nat.le_refl _, Nat.le_refl _⟩ (ct_X11_refused ?_)
          exact V_retI (pc := 48) d_X11_boat_48 rfl ⟨Nat.le_refl _, Nat.le_refl _⟩ (h1 (by
                        rintro ⟨l, u, r, t, gl, gu, gr, gt, el, eu, er, et, d0, d1, d2⟩
                        try subst el
                        try subst eu
                        try subst er
                        try subst et
                        simp (disch := omega) only [nI_toInt, nI_eq] at *
                        omega))
theorem lp_boatM {nb : Nat} {x y z w : Int32} (hn : σ 139 12 = nI nb) (hnb : nb < 5) (hE : V G mX12_boat (rl 3) F 0 0 174 [some (.ref 139), some (.int x), some (.int y), some (.int z), some (.int w), some (.int (nI 10))] [] (filr σ 158 (10 * nb) 10 (-1), sh b)) : ∀ n, n ≤ 10 → ∀ j, j + n = 10 → V G mX12_boat (rl 3) F 0 0 145 [some (.ref 139), some (.int x), some (.int y), some (.int z), some (.int w), some (.int (nI j))] [] (filr σ 158 (10 * nb) j (-1), sh b) := by
  intro n
  induction n with
  | zero =>
    intro hx j hj
    obtain rfl : j = 10 := by omega
    refine V_iload (pc := 145) d_X12_boat_145 rfl ?_
    refine V_bipush (pc := 147) (nI 10) d_X12_boat_147 (by decide) ?_
    refine B_icmp_ge (pc := 149) 174 d_X12_boat_149 (by decide) (fun c149 => ?_) (fun c149 => ?_)
    · simp (disch := omega) only [show (nI 10).toInt = 10 from by decide, nI_toInt, ti0, ti1, tim1, tim20, tim1000] at c149
      exact hE
    · simp (disch := omega) only [show (nI 10).toInt = 10 from by decide, nI_toInt, ti0, ti1, tim1, tim20, tim1000] at c149
      all_goals omega
  | succ n ih =>
    intro hx j hj
    refine V_iload (pc := 145) d_X12_boat_145 rfl ?_
    refine V_bipush (pc := 147) (nI 10) d_X12_boat_147 (by decide) ?_
    refine B_icmp_ge (pc := 149) 174 d_X12_boat_149 (by decide) (fun c149 => ?_) (fun c149 => ?_)
    · simp (disch := omega) only [show (nI 10).toInt = 10 from by decide, nI_toInt, ti0, ti1, tim1, tim20, tim1000] at c149
      all_goals omega
    · simp (disch := omega) only [show (nI 10).toInt = 10 from by decide, nI_toInt, ti0, ti1, tim1, tim20, tim1000] at c149
      refine V_aload_n (pc := 152) d_X12_boat_152 rfl ?_
      refine P_getR (pc := 153) d_X12_boat_153 f_X12_65 (tt_139 b) (rr_139_22 b) ?_
      refine V_bipush (pc := 156) (nI 10) d_X12_boat_156 (by decide) ?_
      refine V_aload_n (pc := 158) d_X12_boat_158 rfl ?_
      refine P_getI (pc := 159) d_X12_boat_159 f_X12_178 (tt_139 b) ?_
      rw [filr_n (by omega), hn]
      refine V_imul (pc := 162) d_X12_boat_162 ?_
      refine V_iload (pc := 163) d_X12_boat_163 rfl ?_
      refine V_iadd (pc := 165) d_X12_boat_165 ?_
      refine V_iconst (pc := 166) (-1) d_X12_boat_166 (by decide) ?_
      refine P_iast (pc := 167) (((10 * nb) + j)) d_X12_boat_167 (tt_158 b) (by simp only [nI_add, pk_mul, nI_1]) (ln_of (ll_158 b) ⟨by omega, by decide⟩) ?_
      refine V_iinc (pc := 168) d_X12_boat_168 rfl (by decide) ?_
      refine V_goto (pc := 171) 145 d_X12_boat_171 (by decide) ?_
      rw [p1_s, filr_s (by omega)]
      exact ih (by omega) (j + 1) (by omega)
theorem ct_X12_boat {x y z w : Int32} {ρ : Sg} {q ns nb nl nt nr : Nat} (hR : RR ρ 4 σ q ns nb nl nt nr) (h1 : ¬ (∃ l u r t, l < ns + 1 ∧ u < 31 ∧ r < 1000 ∧ t < 100 ∧ x = nI l ∧ y = nI u ∧ z = nI r ∧ w = nI t ∧ 1 ≤ u ∧ 1 ≤ r ∧ 1 ≤ t) → K (-1) (up2 σ 139 0 1, sh b)) (h4 : ∀ (l u r t : Nat), l < ns + 1 → u < 31 → r < 1000 → t < 100 → x = nI l → y = nI u → z = nI r → w = nI t → 1 ≤ u → 1 ≤ r → 1 ≤ t → nb = 5 → K (-1) (up2 σ 139 0 (nI 2), sh b)) (h2 : ∀ (l u r t : Nat), l < ns + 1 → u < 31 → r < 1000 → t < 100 → x = nI l → y = nI u → z = nI r → w = nI t → 1 ≤ u → 1 ≤ r → 1 ≤ t → nb < 5 → K (nI nb) (up2 (up2 (filr (up2 (up2 (up2 (up2 (up2 (up2 (up2 (up2 σ 149 nb (nI u)) 150 nb (nI r)) 151 nb (nI t)) 152 nb 0) 153 nb (nI l)) 154 nb (nI l)) 155 nb 0) 156 nb (nI t)) 158 (10 * nb) 10 (-1)) 139 12 (nI nb + 1)) 139 0 0, sh b)) : CM G mX12_boat (rl 3) [.ref 139, .int x, .int y, .int z, .int w] (σ, sh b) (QI K) := by
  obtain ⟨⟨⟨hq2, hn10, hnb, hnl, hnt, hnr⟩, ⟨vq, vns, vnb, vnl, vnt, vnr⟩, ⟨rq, rns, rnb, rnl, rnt, rnr⟩, hpd⟩, hH, hC, hS, hLD, hB, hA, hT, hU⟩ := hR
  refine CM.of (by decide) (Nat.le_of_ble_eq_true rfl) (cats1 rfl) ?_
  refine V_aload_n (pc := 0) d_X12_boat_0 rfl ?_
  refine V_iload_n (pc := 1) d_X12_boat_1 rfl ?_
  refine V_cvI (pc := 2) (n := 2) (c := 12) [_] d_X12_boat_2 c_X12_229 k_X12_isLanding ⟨rfl, rfl⟩ (tt_139 b) rfl (Nat.le_of_ble_eq_true rfl) ⟨Nat.le_of_ble_eq_true rfl, Nat.le_of_ble_eq_true rfl⟩ ⟨Nat.le_refl _, Nat.le_refl _⟩ (ct_X12_isLanding vns (by omega) ?_)
  refine V_if_eq (pc := 5) 40 d_X12_boat_5 (by decide) (fun c5 => ?_) (fun c5 => ?_)
  · replace c5 := zf c5
    refine V_aload_n (pc := 40) d_X12_boat_40 rfl ?_
    refine V_iconst (pc := 41) (1) d_X12_boat_41 (by decide) ?_
    refine V_cvI (pc := 42) (n := 1) (c := 12) [_] d_X12_boat_42 c_X12_187 k_X12_refused ⟨rfl, rfl⟩ (tt_139 b) rfl (Nat.le_of_ble_eq_true rfl) ⟨Nat.le_of_ble_eq_true rfl, Nat.le_of_ble_eq_true rfl⟩ ⟨Nat.le_refl _, Nat.le_refl _⟩ (ct_X12_refused ?_)
    exact V_retI (pc := 45) d_X12_boat_45 rfl ⟨Nat.le_refl _, Nat.le_refl _⟩ (h1 (by
                        rintro ⟨l, u, r, t, gl, gu, gr, gt, el, eu, er, et, d0, d1, d2⟩
                        try subst el
                        try subst eu
                        try subst er
                        try subst et
                        simp (disch := omega) only [nI_toInt, nI_eq] at *
                        omega))
  · replace c5 := zt c5
    refine V_iload_n (pc := 8) d_X12_boat_8 rfl ?_
    refine V_iconst (pc := 9) (1) d_X12_boat_9 (by decide) ?_
    refine V_bipush (pc := 10) (nI 30) d_X12_boat_10 (by decide) ?_
    refine V_csI (pc := 12) (n := 1) [_, _, _] d_X12_boat_12 c_X12_174 k_X12_in rfl (Nat.le_of_ble_eq_true rfl) ⟨Nat.le_of_ble_eq_true rfl, Nat.le_of_ble_eq_true rfl⟩ ⟨Nat.le_refl _, Nat.le_refl _⟩ (ct_X12_in (lo := 1) (hi := 30) (by decide) (by decide) ?_)
    refine V_if_eq (pc := 15) 40 d_X12_boat_15 (by decide) (fun c15 => ?_) (fun c15 => ?_)
    · replace c15 := zf c15
      refine V_aload_n (pc := 40) d_X12_boat_40 rfl ?_
      refine V_iconst (pc := 41) (1) d_X12_boat_41 (by decide) ?_
      refine V_cvI (pc := 42) (n := 1) (c := 12) [_] d_X12_boat_42 c_X12_187 k_X12_refused ⟨rfl, rfl⟩ (tt_139 b) rfl (Nat.le_of_ble_eq_true rfl) ⟨Nat.le_of_ble_eq_true rfl, Nat.le_of_ble_eq_true rfl⟩ ⟨Nat.le_refl _, Nat.le_refl _⟩ (ct_X12_refused ?_)
      exact V_retI (pc := 45) d_X12_boat_45 rfl ⟨Nat.le_refl _, Nat.le_refl _⟩ (h1 (by
                        rintro ⟨l, u, r, t, gl, gu, gr, gt, el, eu, er, et, d0, d1, d2⟩
                        try subst el
                        try subst eu
                        try subst er
                        try subst et
                        simp (disch := omega) only [nI_toInt, nI_eq] at *
                        omega))
    · replace c15 := zt c15
      refine V_iload_n (pc := 18) d_X12_boat_18 rfl ?_
      refine V_iconst (pc := 19) (1) d_X12_boat_19 (by decide) ?_
      refine V_sipush (pc := 20) (nI 999) d_X12_boat_20 (by decide) ?_
      refine V_csI (pc := 23) (n := 1) [_, _, _] d_X12_boat_23 c_X12_174 k_X12_in rfl (Nat.le_of_ble_eq_true rfl) ⟨Nat.le_of_ble_eq_true rfl, Nat.le_of_ble_eq_true rfl⟩ ⟨Nat.le_refl _, Nat.le_refl _⟩ (ct_X12_in (lo := 1) (hi := 999) (by decide) (by decide) ?_)
      refine V_if_eq (pc := 26) 40 d_X12_boat_26 (by decide) (fun c26 => ?_) (fun c26 => ?_)
      · replace c26 := zf c26
        refine V_aload_n (pc := 40) d_X12_boat_40 rfl ?_
        refine V_iconst (pc := 41) (1) d_X12_boat_41 (by decide) ?_
        refine V_cvI (pc := 42) (n := 1) (c := 12) [_] d_X12_boat_42 c_X12_187 k_X12_refused ⟨rfl, rfl⟩ (tt_139 b) rfl (Nat.le_of_ble_eq_true rfl) ⟨Nat.le_of_ble_eq_true rfl, Nat.le_of_ble_eq_true rfl⟩ ⟨Nat.le_refl _, Nat.le_refl _⟩ (ct_X12_refused ?_)
        exact V_retI (pc := 45) d_X12_boat_45 rfl ⟨Nat.le_refl _, Nat.le_refl _⟩ (h1 (by
                        rintro ⟨l, u, r, t, gl, gu, gr, gt, el, eu, er, et, d0, d1, d2⟩
                        try subst el
                        try subst eu
                        try subst er
                        try subst et
                        simp (disch := omega) only [nI_toInt, nI_eq] at *
                        omega))
      · replace c26 := zt c26
        refine V_iload (pc := 29) d_X12_boat_29 rfl ?_
        refine V_iconst (pc := 31) (1) d_X12_boat_31 (by decide) ?_
        refine V_bipush (pc := 32) (nI 99) d_X12_boat_32 (by decide) ?_
        refine V_csI (pc := 34) (n := 1) [_, _, _] d_X12_boat_34 c_X12_174 k_X12_in rfl (Nat.le_of_ble_eq_true rfl) ⟨Nat.le_of_ble_eq_true rfl, Nat.le_of_ble_eq_true rfl⟩ ⟨Nat.le_refl _, Nat.le_refl _⟩ (ct_X12_in (lo := 1) (hi := 99) (by decide) (by decide) ?_)
        refine V_if_ne (pc := 37) 46 d_X12_boat_37 (by decide) (fun c37 => ?_) (fun c37 => ?_)
        · replace c37 := zt c37
          obtain ⟨l, hl, rfl, -⟩ := nat_of (n := ns + 1) (x := x) (by omega) (by omega) (by omega)
          obtain ⟨u, hu, rfl, -⟩ := nat_of (n := 31) (x := y) (by omega) (by omega) (by omega)
          obtain ⟨r, hr, rfl, -⟩ := nat_of (n := 1000) (x := z) (by omega) (by omega) (by omega)
          obtain ⟨t, ht, rfl, -⟩ := nat_of (n := 100) (x := w) (by omega) (by omega) (by omega)
          simp (disch := omega) only [nI_toInt, nI_eq] at c5 c15 c26 c37
          refine V_aload_n (pc := 46) d_X12_boat_46 rfl ?_
          refine P_getI (pc := 47) d_X12_boat_47 f_X12_178 (tt_139 b) ?_
          rw [vnb]
          refine V_iconst (pc := 50) (nI 5) d_X12_boat_50 (by decide) ?_
          refine V_icmp_ne (pc := 51) 60 d_X12_boat_51 (by decide) (fun c51 => ?_) (fun c51 => ?_)
          · simp (disch := omega) only [nI_eq] at c51
            refine V_aload_n (pc := 60) d_X12_boat_60 rfl ?_
            refine P_getR (pc := 61) d_X12_boat_61 f_X12_38 (tt_139 b) (rr_139_13 b) ?_
            refine V_aload_n (pc := 64) d_X12_boat_64 rfl ?_
            refine P_getI (pc := 65) d_X12_boat_65 f_X12_178 (tt_139 b) ?_
            rw [vnb]
            refine V_iload_n (pc := 68) d_X12_boat_68 rfl ?_
            refine P_iast (pc := 69) (nb) d_X12_boat_69 (tt_149 b) rfl (ln_of (ll_149 b) ⟨by omega, by decide⟩) ?_
            refine V_aload_n (pc := 70) d_X12_boat_70 rfl ?_
            refine P_getR (pc := 71) d_X12_boat_71 f_X12_41 (tt_139 b) (rr_139_14 b) ?_
            refine V_aload_n (pc := 74) d_X12_boat_74 rfl ?_
            refine P_getI (pc := 75) d_X12_boat_75 f_X12_178 (tt_139 b) ?_
            simp (disch := omega) only [up2_n, up2_e, filr_n, film_n]
            rw [vnb]
            refine V_iload_n (pc := 78) d_X12_boat_78 rfl ?_
            refine P_iast (pc := 79) (nb) d_X12_boat_79 (tt_150 b) rfl (ln_of (ll_150 b) ⟨by omega, by decide⟩) ?_
            refine V_aload_n (pc := 80) d_X12_boat_80 rfl ?_
            refine P_getR (pc := 81) d_X12_boat_81 f_X12_44 (tt_139 b) (rr_139_15 b) ?_
            refine V_aload_n (pc := 84) d_X12_boat_84 rfl ?_
            refine P_getI (pc := 85) d_X12_boat_85 f_X12_178 (tt_139 b) ?_
            simp (disch := omega) only [up2_n, up2_e, filr_n, film_n]
            rw [vnb]
            refine V_iload (pc := 88) d_X12_boat_88 rfl ?_
            refine P_iast (pc := 90) (nb) d_X12_boat_90 (tt_151 b) rfl (ln_of (ll_151 b) ⟨by omega, by decide⟩) ?_
            refine V_aload_n (pc := 91) d_X12_boat_91 rfl ?_
            refine P_getR (pc := 92) d_X12_boat_92 f_X12_47 (tt_139 b) (rr_139_16 b) ?_
            refine V_aload_n (pc := 95) d_X12_boat_95 rfl ?_
            refine P_getI (pc := 96) d_X12_boat_96 f_X12_178 (tt_139 b) ?_
            simp (disch := omega) only [up2_n, up2_e, filr_n, film_n]
            rw [vnb]
            refine V_iconst (pc := 99) (0) d_X12_boat_99 (by decide) ?_
            refine P_iast (pc := 100) (nb) d_X12_boat_100 (tt_152 b) rfl (ln_of (ll_152 b) ⟨by omega, by decide⟩) ?_
            refine V_aload_n (pc := 101) d_X12_boat_101 rfl ?_
            refine P_getR (pc := 102) d_X12_boat_102 f_X12_50 (tt_139 b) (rr_139_17 b) ?_
            refine V_aload_n (pc := 105) d_X12_boat_105 rfl ?_
            refine P_getI (pc := 106) d_X12_boat_106 f_X12_178 (tt_139 b) ?_
            simp (disch := omega) only [up2_n, up2_e, filr_n, film_n]
            rw [vnb]
            refine V_iload_n (pc := 109) d_X12_boat_109 rfl ?_
            refine P_iast (pc := 110) (nb) d_X12_boat_110 (tt_153 b) rfl (ln_of (ll_153 b) ⟨by omega, by decide⟩) ?_
            refine V_aload_n (pc := 111) d_X12_boat_111 rfl ?_
            refine P_getR (pc := 112) d_X12_boat_112 f_X12_53 (tt_139 b) (rr_139_18 b) ?_
            refine V_aload_n (pc := 115) d_X12_boat_115 rfl ?_
            refine P_getI (pc := 116) d_X12_boat_116 f_X12_178 (tt_139 b) ?_
            simp (disch := omega) only [up2_n, up2_e, filr_n, film_n]
            rw [vnb]
            refine V_iload_n (pc := 119) d_X12_boat_119 rfl ?_
            refine P_iast (pc := 120) (nb) d_X12_boat_120 (tt_154 b) rfl (ln_of (ll_154 b) ⟨by omega, by decide⟩) ?_
            refine V_aload_n (pc := 121) d_X12_boat_121 rfl ?_
            refine P_getR (pc := 122) d_X12_boat_122 f_X12_56 (tt_139 b) (rr_139_19 b) ?_
            refine V_aload_n (pc := 125) d_X12_boat_125 rfl ?_
            refine P_getI (pc := 126) d_X12_boat_126 f_X12_178 (tt_139 b) ?_
            simp (disch := omega) only [up2_n, up2_e, filr_n, film_n]
            rw [vnb]
            refine V_iconst (pc := 129) (0) d_X12_boat_129 (by decide) ?_
            refine P_iast (pc := 130) (nb) d_X12_boat_130 (tt_155 b) rfl (ln_of (ll_155 b) ⟨by omega, by decide⟩) ?_
            refine V_aload_n (pc := 131) d_X12_boat_131 rfl ?_
            refine P_getR (pc := 132) d_X12_boat_132 f_X12_59 (tt_139 b) (rr_139_20 b) ?_
            refine V_aload_n (pc := 135) d_X12_boat_135 rfl ?_
            refine P_getI (pc := 136) d_X12_boat_136 f_X12_178 (tt_139 b) ?_
            simp (disch := omega) only [up2_n, up2_e, filr_n, film_n]
            rw [vnb]
            refine V_iload (pc := 139) d_X12_boat_139 rfl ?_
            refine P_iast (pc := 141) (nb) d_X12_boat_141 (tt_156 b) rfl (ln_of (ll_156 b) ⟨by omega, by decide⟩) ?_
            refine V_iconst (pc := 142) (0) d_X12_boat_142 (by decide) ?_
            refine V_istore (pc := 143) d_X12_boat_143 (by decide) ?_
            refine filr_go (lp_boatM (by simp (disch := omega) only [up2_n]; exact vnb) (by omega) ?_ 10 (Nat.le_refl _) 0 (by omega))
            refine V_aload_n (pc := 174) d_X12_boat_174 rfl ?_
            refine V_dup (pc := 175) d_X12_boat_175 rfl ?_
            refine P_getI (pc := 176) d_X12_boat_176 f_X12_178 (tt_139 b) ?_
            simp (disch := omega) only [up2_n, up2_e, filr_n, film_n]
            rw [vnb]
            refine V_iconst (pc := 179) (1) d_X12_boat_179 (by decide) ?_
            refine V_iadd (pc := 180) d_X12_boat_180 ?_
            refine P_putI (pc := 181) d_X12_boat_181 f_X12_178 (tt_139 b) ?_
            refine V_aload_n (pc := 184) d_X12_boat_184 rfl ?_
            refine V_aload_n (pc := 185) d_X12_boat_185 rfl ?_
            refine P_getI (pc := 186) d_X12_boat_186 f_X12_178 (tt_139 b) ?_
            simp (disch := omega) only [up2_n, up2_e, filr_n, film_n]
            refine V_iconst (pc := 189) (1) d_X12_boat_189 (by decide) ?_
            refine V_isub (pc := 190) d_X12_boat_190 ?_
            rw [show nI nb + 1 - 1 = nI nb from by rw [nI_1, nI_pred]]
            refine V_cvI (pc := 191) (n := 1) (c := 12) [_] d_X12_boat_191 c_X12_191 k_X12_done ⟨rfl, rfl⟩ (tt_139 b) rfl (Nat.le_of_ble_eq_true rfl) ⟨Nat.le_of_ble_eq_true rfl, Nat.le_of_ble_eq_true rfl⟩ ⟨Nat.le_refl _, Nat.le_refl _⟩ (ct_X12_done ?_)
            exact V_retI (pc := 194) d_X12_boat_194 rfl ⟨Nat.le_refl _, Nat.le_refl _⟩ (h2 l u r t hl hu hr ht rfl rfl rfl rfl (by omega) (by omega) (by omega) (by omega))
          · simp (disch := omega) only [nI_eq] at c51
            refine V_aload_n (pc := 54) d_X12_boat_54 rfl ?_
            refine V_iconst (pc := 55) (nI 2) d_X12_boat_55 (by decide) ?_
            refine V_cvI (pc := 56) (n := 1) (c := 12) [_] d_X12_boat_56 c_X12_187 k_X12_refused ⟨rfl, rfl⟩ (tt_139 b) rfl (Nat.le_of_ble_eq_true rfl) ⟨Nat.le_of_ble_eq_true rfl, Nat.le_of_ble_eq_true rfl⟩ ⟨Nat.le_refl _, Nat.le_refl _⟩ (ct_X12_refused ?_)
            exact V_retI (pc := 59) d_X12_boat_59 rfl ⟨Nat.le_refl _, Nat.le_refl _⟩ (h4 l u r t hl hu hr ht rfl rfl rfl rfl (by omega) (by omega) (by omega) (by omega))
        · replace c37 := zf c37
          refine V_aload_n (pc := 40) d_X12_boat_40 rfl ?_
          refine V_iconst (pc := 41) (1) d_X12_boat_41 (by decide) ?_
          refine V_cvI (pc := 42) (n := 1) (c := 12) [_] d_X12_boat_42 c_X12_187 k_X12_refused ⟨rfl, rfl⟩ (tt_139 b) rfl (Nat.le_of_ble_eq_true rfl) ⟨Nat.le_of_ble_eq_true rfl, Nat.le_of_ble_eq_true rfl⟩ ⟨Nat.le_refl _, Nat.le_refl _⟩ (ct_X12_refused ?_)
          exact V_retI (pc := 45) d_X12_boat_45 rfl ⟨Nat.le_refl _, Nat.le_refl _⟩ (h1 (by
                        rintro ⟨l, u, r, t, gl, gu, gr, gt, el, eu, er, et, d0, d1, d2⟩
                        try subst el
                        try subst eu
                        try subst er
                        try subst et
                        simp (disch := omega) only [nI_toInt, nI_eq] at *
                        omega))
theorem pr_boat {x y z w : Int32}  (h : Rel σ b)  : PR G mX11_boat mX12_boat 4 3 [.int x, .int y, .int z, .int w] σ b := by
  have h0 := h
  obtain ⟨q, ns, nb, nl, nt, nr, hR, hX, hP, hQ, hK⟩ := h
  have hbd := hR.1.1
  refine ct_X11_boat hR  (fun hv => ?_) (fun l u r t hl hu hr ht el eu er et d0 d1 d2 hv => ?_) (fun l u r t hl hu hr ht el eu er et d0 d1 d2 hv => ?_)
  · exact ⟨rfl, ct_X12_boat (RR_lo hR (fun a i _ _ => by simp (disch := omega) only [up2_n, filr_n, film_n]))  (fun _ => ⟨rfl, _, rfl, rel_ref h0⟩) (fun l u r t hl hu hr ht el eu er et d0 d1 d2 _ => absurd ⟨l, u, r, t, hl, hu, hr, ht, el, eu, er, et, d0, d1, d2⟩ hv) (fun l u r t hl hu hr ht el eu er et d0 d1 d2 _ => absurd ⟨l, u, r, t, hl, hu, hr, ht, el, eu, er, et, d0, d1, d2⟩ hv)⟩
  · refine ⟨rfl, ct_X12_boat (RR_lo hR (fun a i _ _ => by simp (disch := omega) only [up2_n, filr_n, film_n]))  (fun hv => absurd ⟨l, u, r, t, hl, hu, hr, ht, el, eu, er, et, d0, d1, d2⟩ hv) (fun l' u' r' t' hl' hu' hr' ht' el' eu' er' et' d0' d1' d2' hv' => ?_) (fun l' u' r' t' hl' hu' hr' ht' el' eu' er' et' d0' d1' d2' hv' => ?_)⟩
    · obtain rfl : l' = l := (nI_eq (by omega) (by omega)).mp (el'.symm.trans el)
      obtain rfl : u' = u := (nI_eq (by omega) (by omega)).mp (eu'.symm.trans eu)
      obtain rfl : r' = r := (nI_eq (by omega) (by omega)).mp (er'.symm.trans er)
      obtain rfl : t' = t := (nI_eq (by omega) (by omega)).mp (et'.symm.trans et)
      exact ⟨rfl, _, rfl, rel_ref h0⟩
    · obtain rfl : l' = l := (nI_eq (by omega) (by omega)).mp (el'.symm.trans el)
      obtain rfl : u' = u := (nI_eq (by omega) (by omega)).mp (eu'.symm.trans eu)
      obtain rfl : r' = r := (nI_eq (by omega) (by omega)).mp (er'.symm.trans er)
      obtain rfl : t' = t := (nI_eq (by omega) (by omega)).mp (et'.symm.trans et)
      try simp (disch := omega) only [up2_n, filr_n, film_n] at hv'
      first | exact absurd hv hv' | exact absurd hv' hv | (exfalso; omega)
  · refine ⟨rfl, ct_X12_boat (RR_lo hR (fun a i _ _ => by simp (disch := omega) only [up2_n, filr_n, film_n]))  (fun hv => absurd ⟨l, u, r, t, hl, hu, hr, ht, el, eu, er, et, d0, d1, d2⟩ hv) (fun l' u' r' t' hl' hu' hr' ht' el' eu' er' et' d0' d1' d2' hv' => ?_) (fun l' u' r' t' hl' hu' hr' ht' el' eu' er' et' d0' d1' d2' hv' => ?_)⟩
    · obtain rfl : l' = l := (nI_eq (by omega) (by omega)).mp (el'.symm.trans el)
      obtain rfl : u' = u := (nI_eq (by omega) (by omega)).mp (eu'.symm.trans eu)
      obtain rfl : r' = r := (nI_eq (by omega) (by omega)).mp (er'.symm.trans er)
      obtain rfl : t' = t := (nI_eq (by omega) (by omega)).mp (et'.symm.trans et)
      try simp (disch := omega) only [up2_n, filr_n, film_n] at hv'
      first | exact absurd hv hv' | exact absurd hv' hv | (exfalso; omega)
    · obtain rfl : l' = l := (nI_eq (by omega) (by omega)).mp (el'.symm.trans el)
      obtain rfl : u' = u := (nI_eq (by omega) (by omega)).mp (eu'.symm.trans eu)
      obtain rfl : r' = r := (nI_eq (by omega) (by omega)).mp (er'.symm.trans er)
      obtain rfl : t' = t := (nI_eq (by omega) (by omega)).mp (et'.symm.trans et)
      obtain ⟨hcn, hH, hC, hS, hLD, hB, hA, hT, hU⟩ := id hR
      have hbd := hcn.1
      refine ⟨rfl, _, rfl, ?_⟩
      exact ⟨q, ns, nb + 1, nl, nt, nr, ⟨by
            obtain ⟨⟨c1, c2, c3, c4, c5, c6⟩, ⟨v1, v2, v3, v4, v5, v6⟩, ⟨r1, r2, r3, r4, r5, r6⟩, hp⟩ := hcn
            refine ⟨⟨by omega, by omega, by omega, by omega, by omega, by omega⟩, ⟨?_, ?_, ?_, ?_, ?_, ?_⟩, ⟨?_, ?_, ?_, ?_, ?_, ?_⟩, ?_⟩ <;> simp (disch := omega) only [up2_n, up2_e, filr_n, film_n, nI_1] <;> assumption, cH_cg hH (by simp (disch := omega) only [up2_n, filr_n, film_n]) (fun d _ => (by simp (disch := omega) only [up2_n, filr_n, film_n])) (fun d _ => ⟨(by simp (disch := omega) only [up2_n, filr_n, film_n]), (by simp (disch := omega) only [up2_n, filr_n, film_n])⟩), cC_cg hC (fun d _ => (by simp (disch := omega) only [up2_n, filr_n, film_n])) (fun d _ => (by simp (disch := omega) only [up2_n, filr_n, film_n])), cS_cg hS (fun k _ => ⟨fun j => (by simp (disch := omega) only [up2_n, filr_n, film_n]), fun d _ => (by simp (disch := omega) only [up2_n, filr_n, film_n])⟩) (fun k _ => ⟨(by simp (disch := omega) only [up2_n, filr_n, film_n]), (by simp (disch := omega) only [up2_n, filr_n, film_n]), (by simp (disch := omega) only [up2_n, filr_n, film_n]), (by simp (disch := omega) only [up2_n, filr_n, film_n])⟩) (fun i _ => ⟨(by simp (disch := omega) only [up2_n, filr_n, film_n]), (by simp (disch := omega) only [up2_n, filr_n, film_n])⟩), cL_cg hLD (fun l _ => ⟨(by simp (disch := omega) only [up2_n, filr_n, film_n]), fun k _ => ⟨(by simp (disch := omega) only [up2_n, filr_n, film_n]), (by simp (disch := omega) only [up2_n, filr_n, film_n])⟩⟩) (fun l _ => (by simp (disch := omega) only [up2_n, filr_n, film_n])) (fun m _ _ => ⟨(by simp (disch := omega) only [up2_n, filr_n, film_n]), (by simp (disch := omega) only [up2_n, filr_n, film_n])⟩), by
            intro e he
            by_cases z : e = nb
            · subst z
              have ab : ∀ n, n ≤ nl → aboS (up2 (up2 (filr (up2 (up2 (up2 (up2 (up2 (up2 (up2 (up2 (up2 (filr (up2 (up2 (up2 (up2 (up2 (up2 (up2 (up2 σ 4 2 (nI e + 1)) (77 + 4 * e) 0 (nI u')) (77 + 4 * e) 1 (nI r')) (77 + 4 * e) 2 (nI t')) (77 + 4 * e) 3 (nI t')) (77 + 4 * e) 4 0) (77 + 4 * e) 5 0) (77 + 4 * e) 6 (nI l')) (80 + 4 * e) 0 10 (-1)) 3 3 0) 149 e (nI u')) 150 e (nI r')) 151 e (nI t')) 152 e 0) 153 e (nI l')) 154 e (nI l')) 155 e 0) 156 e (nI t')) 158 (10 * e) 10 (-1)) 139 12 (nI e + 1)) 139 0 0) e n = 0 := fun n hn => by rw [aboS_cg (V := σ) (fun j _ => ⟨(by simp (disch := omega) only [up2_n, filr_n, film_n]), (by simp (disch := omega) only [up2_n, filr_n, film_n]), (by simp (disch := omega) only [up2_n, filr_n, film_n])⟩)]; exact abo_0 hA (by omega) n hn
              refine ⟨⟨?_, ?_, ?_, ?_, ?_, ?_, ?_⟩, ⟨u', d0, by omega, ?_⟩, ⟨r', d1, by omega, ?_⟩, ⟨t', t', d2, by omega, by omega, ?_, ?_⟩, Or.inl ⟨?_, ⟨l', hl, ?_⟩, ?_⟩, fun k hk => ⟨?_, Or.inl ?_⟩⟩
              all_goals first | (simp (disch := omega) only [up2_n, up2_e, filr_n, filr_e, film_n]; done) | (rw [ab nl (Nat.le_refl _)]; simp (disch := omega) only [up2_n, up2_e, filr_n, film_n])
            · exact cB1_cg (hB e (by omega)) ⟨fun j => (by simp (disch := omega) only [up2_n, filr_n, film_n]), fun k _ => ⟨(by simp (disch := omega) only [up2_n, filr_n, film_n]), (by simp (disch := omega) only [up2_n, filr_n, film_n])⟩⟩ (fun a _ _ => (by simp (disch := omega) only [up2_n, filr_n, film_n])) (fun k _ => ⟨(by simp (disch := omega) only [up2_n, filr_n, film_n]), (by simp (disch := omega) only [up2_n, filr_n, film_n])⟩) (aboS_cg (fun j _ => ⟨(by simp (disch := omega) only [up2_n, filr_n, film_n]), (by simp (disch := omega) only [up2_n, filr_n, film_n]), (by simp (disch := omega) only [up2_n, filr_n, film_n])⟩)), cA_nb hA (by omega) (fun j _ i => (by simp (disch := omega) only [up2_n, filr_n, film_n])) (fun j _ a _ _ => (by simp (disch := omega) only [up2_n, filr_n, film_n])), cT_cg hT (fun j _ i => (by simp (disch := omega) only [up2_n, filr_n, film_n])) (fun j _ a _ _ => (by simp (disch := omega) only [up2_n, filr_n, film_n])), cU_cg hU (fun j _ i => (by simp (disch := omega) only [up2_n, filr_n, film_n])) (fun j _ a _ _ => (by simp (disch := omega) only [up2_n, filr_n, film_n]))⟩, cX_cg hX (by simp (disch := omega) only [up2_n, up2_e, filr_n, film_n]) ⟨(by simp (disch := omega) only [up2_n, filr_n, film_n]), (by simp (disch := omega) only [up2_n, filr_n, film_n])⟩, cP_cg hP ⟨(by simp (disch := omega) only [up2_n, filr_n, film_n]), (by simp (disch := omega) only [up2_n, filr_n, film_n])⟩ (fun j _ => ⟨(by simp (disch := omega) only [up2_n, filr_n, film_n]), (by simp (disch := omega) only [up2_n, filr_n, film_n])⟩), cQ_cg hQ (fun a i _ => (by simp (disch := omega) only [up2_n, filr_n, film_n])), cK_cg hK (by simp (disch := omega) only [up2_n, filr_n, film_n]) (fun a i _ => (by simp (disch := omega) only [up2_n, filr_n, film_n])) (fun a i _ => (by simp (disch := omega) only [up2_n, filr_n, film_n])) (by omega) (by omega) (by omega) (by omega) (by omega)⟩
end HC
