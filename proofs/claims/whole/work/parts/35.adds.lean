section CG3
variable {σ σ' V V' : Sg} {r ns nb nl nt nr q : Nat}
theorem cB_nl {ml : Nat} (h : cB σ r V ns nb nl) (hs : ∀ i, i < nb → (∀ j, σ' (r + 73 + 4 * i) j = σ (r + 73 + 4 * i) j) ∧ ∀ k, k < 10 → σ' (r + 75 + 4 * i) k = σ (r + 75 + 4 * i) k ∧ σ' (r + 76 + 4 * i) k = σ (r + 76 + 4 * i) k)
    (hv : ∀ i, i < nb → ∀ a, 149 ≤ a → a ≤ 156 → V' a i = V a i) (hw : ∀ m, m < 10 * nb → V' 157 m = V 157 m ∧ V' 158 m = V 158 m) (hl : ∀ i, i < nb → aboS V' i ml = aboS V i nl) : cB σ' r V' ns nb ml := by
  intro i hi
  obtain ⟨h1, h2, h3, h4, h5, h6⟩ := h i hi
  obtain ⟨a1, a2⟩ := hs i hi
  have e := hv i hi
  rw [a1, a1, a1, a1, a1, a1, a1, a1, a1, e 149 (by omega) (by omega), e 150 (by omega) (by omega), e 151 (by omega) (by omega), e 152 (by omega) (by omega), e 153 (by omega) (by omega), e 154 (by omega) (by omega), e 155 (by omega) (by omega), e 156 (by omega) (by omega), hl i hi]
  exact ⟨h1, h2, h3, h4, h5, cW_cg h6 a2 (fun k hk => hw _ (by omega))⟩
theorem aboS_s (V : Sg) (i n : Nat) : aboS V i (n + 1) = aboS V i n + (if V 163 n = 1 ∧ V 164 n = nI i then V 161 n else 0) := rfl
end CG3
section HC
variable {G : Gl} {R : Room} {F : Fn} {K : Int32 → Hp → Prop} {KV : Hp → Prop} {σ : Nat → Nat → Int32} {b : Bool}
end HC
section HB
variable {G : Gl} {KV : Hp → Prop} {σ : Nat → Nat → Int32} {s : (Nat → Nat → Option Nat) × (Nat → Nat) × (Nat → Nat) × Nat} {a : Nat}
theorem ct_X8_begin {x y z : Int32} (hT : s.2.1 a = 9) (hq : KV (up2 (up2 (up2 σ a 0 x) a 1 y) a 2 z, s)) : CM G mX8_begin (rl 1) [.ref a, .int x, .int y, .int z] (σ, s) (QV KV) := by
  refine CM.of (by decide) (Nat.le_of_ble_eq_true rfl) (cats1 rfl) ?_
  refine V_aload_n (pc := 0) d_X8_begin_0 rfl ?_
  refine V_iload_n (pc := 1) d_X8_begin_1 rfl ?_
  refine P_putI (pc := 2) d_X8_begin_2 f_X8_7 hT ?_
  refine V_aload_n (pc := 5) d_X8_begin_5 rfl ?_
  refine V_iload_n (pc := 6) d_X8_begin_6 rfl ?_
  refine P_putI (pc := 7) d_X8_begin_7 f_X8_13 hT ?_
  refine V_aload_n (pc := 10) d_X8_begin_10 rfl ?_
  refine V_iload_n (pc := 11) d_X8_begin_11 rfl ?_
  refine P_putI (pc := 12) d_X8_begin_12 f_X8_16 hT ?_
  exact V_retV (pc := 15) d_X8_begin_15 rfl ⟨Nat.le_refl _, Nat.le_refl _⟩ hq
theorem ct_X5_begin {x y z w : Int32} (hT : s.2.1 a = 6) (hq : KV (up2 (up2 (up2 (up2 σ a 0 x) a 1 y) a 2 z) a 3 w, s)) : CM G mX5_begin (rl 1) [.ref a, .int x, .int y, .int z, .int w] (σ, s) (QV KV) := by
  refine CM.of (by decide) (Nat.le_of_ble_eq_true rfl) (cats1 rfl) ?_
  refine V_aload_n (pc := 0) d_X5_begin_0 rfl ?_
  refine V_iload_n (pc := 1) d_X5_begin_1 rfl ?_
  refine P_putI (pc := 2) d_X5_begin_2 f_X5_7 hT ?_
  refine V_aload_n (pc := 5) d_X5_begin_5 rfl ?_
  refine V_iload_n (pc := 6) d_X5_begin_6 rfl ?_
  refine P_putI (pc := 7) d_X5_begin_7 f_X5_13 hT ?_
  refine V_aload_n (pc := 10) d_X5_begin_10 rfl ?_
  refine V_iload_n (pc := 11) d_X5_begin_11 rfl ?_
  refine P_putI (pc := 12) d_X5_begin_12 f_X5_16 hT ?_
  refine V_aload_n (pc := 15) d_X5_begin_15 rfl ?_
  refine V_iload (pc := 16) d_X5_begin_16 rfl ?_
  refine P_putI (pc := 18) d_X5_begin_18 f_X5_19 hT ?_
  exact V_retV (pc := 21) d_X5_begin_21 rfl ⟨Nat.le_refl _, Nat.le_refl _⟩ hq
theorem ct_X1_begin {x y z w : Int32} (hT : s.2.1 a = 2) (hq : KV (up2 (up2 (up2 (up2 (up2 σ a 0 y) a 1 z) a 2 w) a 3 0) a 4 x, s)) : CM G mX1_begin (rl 1) [.ref a, .int x, .int y, .int z, .int w] (σ, s) (QV KV) := by
  refine CM.of (by decide) (Nat.le_of_ble_eq_true rfl) (cats1 rfl) ?_
  refine V_aload_n (pc := 0) d_X1_begin_0 rfl ?_
  refine V_iload_n (pc := 1) d_X1_begin_1 rfl ?_
  refine P_putI (pc := 2) d_X1_begin_2 f_X1_9 hT ?_
  refine V_aload_n (pc := 5) d_X1_begin_5 rfl ?_
  refine V_iload_n (pc := 6) d_X1_begin_6 rfl ?_
  refine P_putI (pc := 7) d_X1_begin_7 f_X1_15 hT ?_
  refine V_aload_n (pc := 10) d_X1_begin_10 rfl ?_
  refine V_iload (pc := 11) d_X1_begin_11 rfl ?_
  refine P_putI (pc := 13) d_X1_begin_13 f_X1_18 hT ?_
  refine V_aload_n (pc := 16) d_X1_begin_16 rfl ?_
  refine V_iconst (pc := 17) (0) d_X1_begin_17 (by decide) ?_
  refine P_putI (pc := 18) d_X1_begin_18 f_X1_21 hT ?_
  refine V_aload_n (pc := 21) d_X1_begin_21 rfl ?_
  refine V_iload_n (pc := 22) d_X1_begin_22 rfl ?_
  refine P_putI (pc := 23) d_X1_begin_23 f_X1_24 hT ?_
  exact V_retV (pc := 26) d_X1_begin_26 rfl ⟨Nat.le_refl _, Nat.le_refl _⟩ hq
end HB
section HC
variable {G : Gl} {R : Room} {F : Fn} {K : Int32 → Hp → Prop} {KV : Hp → Prop} {σ : Nat → Nat → Int32} {b : Bool}
theorem ct_X4_isWay {x y : Int32} {n : Nat} (hn : σ 4 1 = nI n) (hn2 : n ≤ 20) (hq : K (if (0 ≤ x.toInt ∧ x.toInt ≤ (n : Int)) ∧ (0 ≤ y.toInt ∧ y.toInt ≤ (n : Int)) ∧ ¬ x = y then 1 else 0) (σ, sh b)) : CM G mX4_isWay (rl 3) [.ref 4, .int x, .int y] (σ, sh b) (QI K) := by
  refine CM.of (by decide) (Nat.le_of_ble_eq_true rfl) (cats1 rfl) ?_
  refine V_aload_n (pc := 0) d_X4_isWay_0 rfl ?_
  refine V_iload_n (pc := 1) d_X4_isWay_1 rfl ?_
  refine V_cvI (pc := 2) (n := 2) (c := 4) [_] d_X4_isWay_2 c_X4_125 k_X4_isLanding ⟨rfl, rfl⟩ (tt_4 b) rfl (Nat.le_of_ble_eq_true rfl) ⟨Nat.le_of_ble_eq_true rfl, Nat.le_of_ble_eq_true rfl⟩ ⟨Nat.le_refl _, Nat.le_refl _⟩ (ct_X4_isLanding hn (by omega) ?_)
  refine V_if_eq (pc := 5) 25 d_X4_isWay_5 (by decide) (fun c5 => ?_) (fun c5 => ?_)
  · replace c5 := zf c5
    refine V_iconst (pc := 25) (0) d_X4_isWay_25 (by decide) ?_
    exact V_retZ (pc := 26) d_X4_isWay_26 rfl (by first | exact Or.inl rfl | exact Or.inr rfl | exact z01) ⟨Nat.le_refl _, Nat.le_refl _⟩ (by first | (rw [if_pos ⟨c5, c13, c18⟩] at hq; exact hq) | (rw [if_neg (fun q => by first | exact c5 q.1 | exact c13 q.2.1 | exact q.2.2 c18)] at hq; exact hq))
  · replace c5 := zt c5
    refine V_aload_n (pc := 8) d_X4_isWay_8 rfl ?_
    refine V_iload_n (pc := 9) d_X4_isWay_9 rfl ?_
    refine V_cvI (pc := 10) (n := 2) (c := 4) [_] d_X4_isWay_10 c_X4_125 k_X4_isLanding ⟨rfl, rfl⟩ (tt_4 b) rfl (Nat.le_of_ble_eq_true rfl) ⟨Nat.le_of_ble_eq_true rfl, Nat.le_of_ble_eq_true rfl⟩ ⟨Nat.le_refl _, Nat.le_refl _⟩ (ct_X4_isLanding hn (by omega) ?_)
    refine V_if_eq (pc := 13) 25 d_X4_isWay_13 (by decide) (fun c13 => ?_) (fun c13 => ?_)
    · replace c13 := zf c13
      refine V_iconst (pc := 25) (0) d_X4_isWay_25 (by decide) ?_
      exact V_retZ (pc := 26) d_X4_isWay_26 rfl (by first | exact Or.inl rfl | exact Or.inr rfl | exact z01) ⟨Nat.le_refl _, Nat.le_refl _⟩ (by first | (rw [if_pos ⟨c5, c13, c18⟩] at hq; exact hq) | (rw [if_neg (fun q => by first | exact c5 q.1 | exact c13 q.2.1 | exact q.2.2 c18)] at hq; exact hq))
    · replace c13 := zt c13
      refine V_iload_n (pc := 16) d_X4_isWay_16 rfl ?_
      refine V_iload_n (pc := 17) d_X4_isWay_17 rfl ?_
      refine V_icmp_eq (pc := 18) 25 d_X4_isWay_18 (by decide) (fun c18 => ?_) (fun c18 => ?_)
      · refine V_iconst (pc := 25) (0) d_X4_isWay_25 (by decide) ?_
        exact V_retZ (pc := 26) d_X4_isWay_26 rfl (by first | exact Or.inl rfl | exact Or.inr rfl | exact z01) ⟨Nat.le_refl _, Nat.le_refl _⟩ (by first | (rw [if_pos ⟨c5, c13, c18⟩] at hq; exact hq) | (rw [if_neg (fun q => by first | exact c5 q.1 | exact c13 q.2.1 | exact q.2.2 c18)] at hq; exact hq))
      · refine V_iconst (pc := 21) (1) d_X4_isWay_21 (by decide) ?_
        refine V_goto (pc := 22) 26 d_X4_isWay_22 (by decide) ?_
        exact V_retZ (pc := 26) d_X4_isWay_26 rfl (by first | exact Or.inl rfl | exact Or.inr rfl | exact z01) ⟨Nat.le_refl _, Nat.le_refl _⟩ (by first | (rw [if_pos ⟨c5, c13, c18⟩] at hq; exact hq) | (rw [if_neg (fun q => by first | exact c5 q.1 | exact c13 q.2.1 | exact q.2.2 c18)] at hq; exact hq))
theorem ct_X11_trip {x y z : Int32} {q ns nb nl nt nr : Nat} (hR : RR σ 4 σ q ns nb nl nt nr) (h1 : ¬ (∃ f t w, f < ns + 1 ∧ t < ns + 1 ∧ w < 10 ∧ x = nI f ∧ y = nI t ∧ z = nI w ∧ f ≠ t) → K (-1) (up2 σ 3 3 1, sh b)) (h4 : ∀ (f t w : Nat), f < ns + 1 → t < ns + 1 → w < 10 → x = nI f → y = nI t → z = nI w → f ≠ t → nt = 6 → K (-1) (up2 σ 3 3 (nI 2), sh b)) (h2 : ∀ (f t w : Nat), f < ns + 1 → t < ns + 1 → w < 10 → x = nI f → y = nI t → z = nI w → f ≠ t → nt < 6 → K (nI nt) (up2 (up2 (up2 (up2 (up2 σ 4 4 (nI nt + 1)) (109 + nt) 0 (nI f)) (109 + nt) 1 (nI t)) (109 + nt) 2 (nI w)) 3 3 0, sh b)) : CM G mX11_trip (rl 4) [.ref 3, .int x, .int y, .int z] (σ, sh b) (QI K) := by
  obtain ⟨⟨⟨hq2, hn10, hnb, hnl, hnt, hnr⟩, ⟨vq, vns, vnb, vnl, vnt, vnr⟩, ⟨rq, rns, rnb, rnl, rnt, rnr⟩, hpd⟩, hH, hC, hS, hLD, hB, hA, hT, hU⟩ := hR
  refine CM.of (by decide) (Nat.le_of_ble_eq_true rfl) (cats1 rfl) ?_
  refine V_aload_n (pc := 0) d_X11_trip_0 rfl ?_
  refine P_getR (pc := 1) d_X11_trip_1 f_X11_10 (tt_3 b) (rr_3_0 b) ?_
  refine V_iload_n (pc := 4) d_X11_trip_4 rfl ?_
  refine V_iload_n (pc := 5) d_X11_trip_5 rfl ?_
  refine V_cvI (pc := 6) (n := 3) (c := 4) [_, _] d_X11_trip_6 c_X11_120 k_X4_isWay ⟨rfl, rfl⟩ (tt_4 b) rfl (Nat.le_of_ble_eq_true rfl) ⟨Nat.le_of_ble_eq_true rfl, Nat.le_of_ble_eq_true rfl⟩ ⟨Nat.le_refl _, Nat.le_refl _⟩ (ct_X4_isWay rns (by omega) ?_)
  refine V_if_eq (pc := 9) 22 d_X11_trip_9 (by decide) (fun c9 => ?_) (fun c9 => ?_)
  · replace c9 := zf c9
    refine V_aload_n (pc := 22) d_X11_trip_22 rfl ?_
    refine V_iconst (pc := 23) (1) d_X11_trip_23 (by decide) ?_
    refine V_cvI (pc := 24) (n := 1) (c := 11) [_] d_X11_trip_24 c_X11_55 k_X11_refused ⟨rfl, rfl⟩ (tt_3 b) rfl (Nat.le_of_ble_eq_true rfl) ⟨Nat.le_of_ble_eq_true rfl, Nat.le_of_ble_eq_true rfl⟩ ⟨Nat.le_refl _, Nat.le_refl _⟩ (ct_X11_refused ?_)
    exact V_retI (pc := 27) d_X11_trip_27 rfl ⟨Nat.le_refl _, Nat.le_refl _⟩ (h1 (by
                        rintro ⟨f, t, w, gf, gt, gw, ef, et, ew, d0⟩
                        try subst ef
                        try subst et
                        try subst ew
                        simp (disch := omega) only [nI_toInt, nI_eq] at *
                        omega))
  · replace c9 := zt c9
    refine V_iload_n (pc := 12) d_X11_trip_12 rfl ?_
    refine V_iconst (pc := 13) (0) d_X11_trip_13 (by decide) ?_
    refine V_bipush (pc := 14) (nI 9) d_X11_trip_14 (by decide) ?_
    refine V_csI (pc := 16) (n := 1) [_, _, _] d_X11_trip_16 c_X11_51 k_X11_isWithin rfl (Nat.le_of_ble_eq_true rfl) ⟨Nat.le_of_ble_eq_true rfl, Nat.le_of_ble_eq_true rfl⟩ ⟨Nat.le_refl _, Nat.le_refl _⟩ (ct_X11_isWithin (lo := 0) (hi := 9) (by decide) (by decide) ?_)
    refine V_if_ne (pc := 19) 28 d_X11_trip_19 (by decide) (fun c19 => ?_) (fun c19 => ?_)
    · replace c19 := zt c19
      obtain ⟨f, hf, rfl, -⟩ := nat_of (n := ns + 1) (x := x) (by omega) (by omega) (by omega)
      obtain ⟨t, ht, rfl, -⟩ := nat_of (n := ns + 1) (x := y) (by omega) (by omega) (by omega)
      obtain ⟨w, hw, rfl, -⟩ := nat_of (n := 10) (x := z) (by omega) (by omega) (by omega)
      simp (disch := omega) only [nI_toInt, nI_eq] at c9 c19
      refine V_aload_n (pc := 28) d_X11_trip_28 rfl ?_
      refine P_getR (pc := 29) d_X11_trip_29 f_X11_10 (tt_3 b) (rr_3_0 b) ?_
      refine P_getI (pc := 32) d_X11_trip_32 f_X11_215 (tt_4 b) ?_
      rw [rnt]
      refine V_bipush (pc := 35) (nI 6) d_X11_trip_35 (by decide) ?_
      refine B_icmp_lt (pc := 37) 46 d_X11_trip_37 (by decide) (fun c37 => ?_) (fun c37 => ?_)
      · simp (disch := omega) only [show (nI 6).toInt = 6 from by decide, nI_toInt, ti0, ti1, tim1, tim20, tim1000] at c37
        refine V_aload_n (pc := 46) d_X11_trip_46 rfl ?_
        refine P_getR (pc := 47) d_X11_trip_47 f_X11_10 (tt_3 b) (rr_3_0 b) ?_
        refine V_dup (pc := 50) d_X11_trip_50 rfl ?_
        refine P_getI (pc := 51) d_X11_trip_51 f_X11_215 (tt_4 b) ?_
        rw [rnt]
        refine V_dup_x1 (pc := 54) d_X11_trip_54 rfl rfl ?_
        refine V_iconst (pc := 55) (1) d_X11_trip_55 (by decide) ?_
        refine V_iadd (pc := 56) d_X11_trip_56 ?_
        refine P_putI (pc := 57) d_X11_trip_57 f_X11_215 (tt_4 b) ?_
        refine V_istore (pc := 60) d_X11_trip_60 (by decide) ?_
        refine V_aload_n (pc := 62) d_X11_trip_62 rfl ?_
        refine P_getR (pc := 63) d_X11_trip_63 f_X11_10 (tt_3 b) (rr_3_0 b) ?_
        refine P_getR (pc := 66) d_X11_trip_66 f_X11_218 (tt_4 b) (rr_4_14 b) ?_
        refine V_iload (pc := 69) d_X11_trip_69 rfl ?_
        refine P_aald (pc := 71) (c := 8) (nt) d_X11_trip_71 (tt_11 b) (by decide) rfl (ln_of (ll_11 b) ⟨by omega, by decide⟩) (rTR b (by omega)) ?_
        refine V_iload_n (pc := 72) d_X11_trip_72 rfl ?_
        refine V_iload_n (pc := 73) d_X11_trip_73 rfl ?_
        refine V_iload_n (pc := 74) d_X11_trip_74 rfl ?_
        refine V_cvV (pc := 75) (n := 1) (c := 8) [_, _, _] d_X11_trip_75 c_X11_222 k_X8_begin ⟨rfl, rfl⟩ (tTR b (by omega)) rfl (Nat.le_of_ble_eq_true rfl) ⟨Nat.le_of_ble_eq_true rfl, Nat.le_of_ble_eq_true rfl⟩ ⟨Nat.le_refl _, Nat.le_refl _⟩ (ct_X8_begin (tTR b (by omega)) ?_)
        refine V_aload_n (pc := 78) d_X11_trip_78 rfl ?_
        refine V_iload (pc := 79) d_X11_trip_79 rfl ?_
        refine V_cvI (pc := 81) (n := 1) (c := 11) [_] d_X11_trip_81 c_X11_72 k_X11_done ⟨rfl, rfl⟩ (tt_3 b) rfl (Nat.le_of_ble_eq_true rfl) ⟨Nat.le_of_ble_eq_true rfl, Nat.le_of_ble_eq_true rfl⟩ ⟨Nat.le_refl _, Nat.le_refl _⟩ (ct_X11_done ?_)
        exact V_retI (pc := 84) d_X11_trip_84 rfl ⟨Nat.le_refl _, Nat.le_refl _⟩ (h2 f t w hf ht hw rfl rfl rfl (by omega) (by omega))
      · simp (disch := omega) only [show (nI 6).toInt = 6 from by decide, nI_toInt, ti0, ti1, tim1, tim20, tim1000] at c37
        refine V_aload_n (pc := 40) d_X11_trip_40 rfl ?_
        refine V_iconst (pc := 41) (nI 2) d_X11_trip_41 (by decide) ?_
        refine V_cvI (pc := 42) (n := 1) (c := 11) [_] d_X11_trip_42 c_X11_55 k_X11_refused ⟨rfl, rfl⟩ (tt_3 b) rfl (Nat.le_of_ble_eq_true rfl) ⟨Nat.le_of_ble_eq_true rfl, Nat.le_of_ble_eq_true rfl⟩ ⟨Nat.le_refl _, Nat.le_refl _⟩ (ct_X11_refused ?_)
        exact V_retI (pc := 45) d_X11_trip_45 rfl ⟨Nat.le_refl _, Nat.le_refl _⟩ (h4 f t w hf ht hw rfl rfl rfl (by omega) (by omega))
    · replace c19 := zf c19
      refine V_aload_n (pc := 22) d_X11_trip_22 rfl ?_
      refine V_iconst (pc := 23) (1) d_X11_trip_23 (by decide) ?_
      refine V_cvI (pc := 24) (n := 1) (c := 11) [_] d_X11_trip_24 c_X11_55 k_X11_refused ⟨rfl, rfl⟩ (tt_3 b) rfl (Nat.le_of_ble_eq_true rfl) ⟨Nat.le_of_ble_eq_true rfl, Nat.le_of_ble_eq_true rfl⟩ ⟨Nat.le_refl _, Nat.le_refl _⟩ (ct_X11_refused ?_)
      exact V_retI (pc := 27) d_X11_trip_27 rfl ⟨Nat.le_refl _, Nat.le_refl _⟩ (h1 (by
                        rintro ⟨f, t, w, gf, gt, gw, ef, et, ew, d0⟩
                        try subst ef
                        try subst et
                        try subst ew
                        simp (disch := omega) only [nI_toInt, nI_eq] at *
                        omega))
theorem ct_X12_trip {x y z : Int32} {ρ : Sg} {q ns nb nl nt nr : Nat} (hR : RR ρ 4 σ q ns nb nl nt nr) (h1 : ¬ (∃ f t w, f < ns + 1 ∧ t < ns + 1 ∧ w < 10 ∧ x = nI f ∧ y = nI t ∧ z = nI w ∧ f ≠ t) → K (-1) (up2 σ 139 0 1, sh b)) (h4 : ∀ (f t w : Nat), f < ns + 1 → t < ns + 1 → w < 10 → x = nI f → y = nI t → z = nI w → f ≠ t → nt = 6 → K (-1) (up2 σ 139 0 (nI 2), sh b)) (h2 : ∀ (f t w : Nat), f < ns + 1 → t < ns + 1 → w < 10 → x = nI f → y = nI t → z = nI w → f ≠ t → nt < 6 → K (nI nt) (up2 (up2 (up2 (up2 (up2 σ 165 nt (nI f)) 166 nt (nI t)) 167 nt (nI w)) 139 31 (nI nt + 1)) 139 0 0, sh b)) : CM G mX12_trip (rl 3) [.ref 139, .int x, .int y, .int z] (σ, sh b) (QI K) := by
  obtain ⟨⟨⟨hq2, hn10, hnb, hnl, hnt, hnr⟩, ⟨vq, vns, vnb, vnl, vnt, vnr⟩, ⟨rq, rns, rnb, rnl, rnt, rnr⟩, hpd⟩, hH, hC, hS, hLD, hB, hA, hT, hU⟩ := hR
  refine CM.of (by decide) (Nat.le_of_ble_eq_true rfl) (cats1 rfl) ?_
  refine V_aload_n (pc := 0) d_X12_trip_0 rfl ?_
  refine V_iload_n (pc := 1) d_X12_trip_1 rfl ?_
  refine V_cvI (pc := 2) (n := 2) (c := 12) [_] d_X12_trip_2 c_X12_229 k_X12_isLanding ⟨rfl, rfl⟩ (tt_139 b) rfl (Nat.le_of_ble_eq_true rfl) ⟨Nat.le_of_ble_eq_true rfl, Nat.le_of_ble_eq_true rfl⟩ ⟨Nat.le_refl _, Nat.le_refl _⟩ (ct_X12_isLanding vns (by omega) ?_)
  refine V_if_eq (pc := 5) 31 d_X12_trip_5 (by decide) (fun c5 => ?_) (fun c5 => ?_)
  · replace c5 := zf c5
    refine V_aload_n (pc := 31) d_X12_trip_31 rfl ?_
    refine V_iconst (pc := 32) (1) d_X12_trip_32 (by decide) ?_
    refine V_cvI (pc := 33) (n := 1) (c := 12) [_] d_X12_trip_33 c_X12_187 k_X12_refused ⟨rfl, rfl⟩ (tt_139 b) rfl (Nat.le_of_ble_eq_true rfl) ⟨Nat.le_of_ble_eq_true rfl, Nat.le_of_ble_eq_true rfl⟩ ⟨Nat.le_refl _, Nat.le_refl _⟩ (ct_X12_refused ?_)
    exact V_retI (pc := 36) d_X12_trip_36 rfl ⟨Nat.le_refl _, Nat.le_refl _⟩ (h1 (by
                        rintro ⟨f, t, w, gf, gt, gw, ef, et, ew, d0⟩
                        try subst ef
                        try subst et
                        try subst ew
                        simp (disch := omega) only [nI_toInt, nI_eq] at *
                        omega))
  · replace c5 := zt c5
    refine V_aload_n (pc := 8) d_X12_trip_8 rfl ?_
    refine V_iload_n (pc := 9) d_X12_trip_9 rfl ?_
    refine V_cvI (pc := 10) (n := 2) (c := 12) [_] d_X12_trip_10 c_X12_229 k_X12_isLanding ⟨rfl, rfl⟩ (tt_139 b) rfl (Nat.le_of_ble_eq_true rfl) ⟨Nat.le_of_ble_eq_true rfl, Nat.le_of_ble_eq_true rfl⟩ ⟨Nat.le_refl _, Nat.le_refl _⟩ (ct_X12_isLanding vns (by omega) ?_)
    refine V_if_eq (pc := 13) 31 d_X12_trip_13 (by decide) (fun c13 => ?_) (fun c13 => ?_)
    · replace c13 := zf c13
      refine V_aload_n (pc := 31) d_X12_trip_31 rfl ?_
      refine V_iconst (pc := 32) (1) d_X12_trip_32 (by decide) ?_
      refine V_cvI (pc := 33) (n := 1) (c := 12) [_] d_X12_trip_33 c_X12_187 k_X12_refused ⟨rfl, rfl⟩ (tt_139 b) rfl (Nat.le_of_ble_eq_true rfl) ⟨Nat.le_of_ble_eq_true rfl, Nat.le_of_ble_eq_true rfl⟩ ⟨Nat.le_refl _, Nat.le_refl _⟩ (ct_X12_refused ?_)
      exact V_retI (pc := 36) d_X12_trip_36 rfl ⟨Nat.le_refl _, Nat.le_refl _⟩ (h1 (by
                        rintro ⟨f, t, w, gf, gt, gw, ef, et, ew, d0⟩
                        try subst ef
                        try subst et
                        try subst ew
                        simp (disch := omega) only [nI_toInt, nI_eq] at *
                        omega))
    · replace c13 := zt c13
      refine V_iload_n (pc := 16) d_X12_trip_16 rfl ?_
      refine V_iload_n (pc := 17) d_X12_trip_17 rfl ?_
      refine V_icmp_eq (pc := 18) 31 d_X12_trip_18 (by decide) (fun c18 => ?_) (fun c18 => ?_)
      · refine V_aload_n (pc := 31) d_X12_trip_31 rfl ?_
        refine V_iconst (pc := 32) (1) d_X12_trip_32 (by decide) ?_
        refine V_cvI (pc := 33) (n := 1) (c := 12) [_] d_X12_trip_33 c_X12_187 k_X12_refused ⟨rfl, rfl⟩ (tt_139 b) rfl (Nat.le_of_ble_eq_true rfl) ⟨Nat.le_of_ble_eq_true rfl, Nat.le_of_ble_eq_true rfl⟩ ⟨Nat.le_refl _, Nat.le_refl _⟩ (ct_X12_refused ?_)
        exact V_retI (pc := 36) d_X12_trip_36 rfl ⟨Nat.le_refl _, Nat.le_refl _⟩ (h1 (by
                        rintro ⟨f, t, w, gf, gt, gw, ef, et, ew, d0⟩
                        try subst ef
                        try subst et
                        try subst ew
                        simp (disch := omega) only [nI_toInt, nI_eq] at *
                        omega))
      · refine V_iload_n (pc := 21) d_X12_trip_21 rfl ?_
        refine V_iconst (pc := 22) (0) d_X12_trip_22 (by decide) ?_
        refine V_bipush (pc := 23) (nI 9) d_X12_trip_23 (by decide) ?_
        refine V_csI (pc := 25) (n := 1) [_, _, _] d_X12_trip_25 c_X12_174 k_X12_in rfl (Nat.le_of_ble_eq_true rfl) ⟨Nat.le_of_ble_eq_true rfl, Nat.le_of_ble_eq_true rfl⟩ ⟨Nat.le_refl _, Nat.le_refl _⟩ (ct_X12_in (lo := 0) (hi := 9) (by decide) (by decide) ?_)
        refine V_if_ne (pc := 28) 37 d_X12_trip_28 (by decide) (fun c28 => ?_) (fun c28 => ?_)
        · replace c28 := zt c28
          obtain ⟨f, hf, rfl, -⟩ := nat_of (n := ns + 1) (x := x) (by omega) (by omega) (by omega)
          obtain ⟨t, ht, rfl, -⟩ := nat_of (n := ns + 1) (x := y) (by omega) (by omega) (by omega)
          obtain ⟨w, hw, rfl, -⟩ := nat_of (n := 10) (x := z) (by omega) (by omega) (by omega)
          simp (disch := omega) only [nI_toInt, nI_eq] at c5 c13 c18 c28
          refine V_aload_n (pc := 37) d_X12_trip_37 rfl ?_
          refine P_getI (pc := 38) d_X12_trip_38 f_X12_287 (tt_139 b) ?_
          rw [vnt]
          refine V_bipush (pc := 41) (nI 6) d_X12_trip_41 (by decide) ?_
          refine V_icmp_ne (pc := 43) 52 d_X12_trip_43 (by decide) (fun c43 => ?_) (fun c43 => ?_)
          · simp (disch := omega) only [nI_eq] at c43
            refine V_aload_n (pc := 52) d_X12_trip_52 rfl ?_
            refine P_getR (pc := 53) d_X12_trip_53 f_X12_86 (tt_139 b) (rr_139_32 b) ?_
            refine V_aload_n (pc := 56) d_X12_trip_56 rfl ?_
            refine P_getI (pc := 57) d_X12_trip_57 f_X12_287 (tt_139 b) ?_
            rw [vnt]
            refine V_iload_n (pc := 60) d_X12_trip_60 rfl ?_
            refine P_iast (pc := 61) (nt) d_X12_trip_61 (tt_165 b) rfl (ln_of (ll_165 b) ⟨by omega, by decide⟩) ?_
            refine V_aload_n (pc := 62) d_X12_trip_62 rfl ?_
            refine P_getR (pc := 63) d_X12_trip_63 f_X12_89 (tt_139 b) (rr_139_33 b) ?_
            refine V_aload_n (pc := 66) d_X12_trip_66 rfl ?_
            refine P_getI (pc := 67) d_X12_trip_67 f_X12_287 (tt_139 b) ?_
            simp (disch := omega) only [up2_n, up2_e]
            rw [vnt]
            refine V_iload_n (pc := 70) d_X12_trip_70 rfl ?_
            refine P_iast (pc := 71) (nt) d_X12_trip_71 (tt_166 b) rfl (ln_of (ll_166 b) ⟨by omega, by decide⟩) ?_
            refine V_aload_n (pc := 72) d_X12_trip_72 rfl ?_
            refine P_getR (pc := 73) d_X12_trip_73 f_X12_92 (tt_139 b) (rr_139_34 b) ?_
            refine V_aload_n (pc := 76) d_X12_trip_76 rfl ?_
            refine P_getI (pc := 77) d_X12_trip_77 f_X12_287 (tt_139 b) ?_
            simp (disch := omega) only [up2_n, up2_e]
            rw [vnt]
            refine V_iload_n (pc := 80) d_X12_trip_80 rfl ?_
            refine P_iast (pc := 81) (nt) d_X12_trip_81 (tt_167 b) rfl (ln_of (ll_167 b) ⟨by omega, by decide⟩) ?_
            refine V_aload_n (pc := 82) d_X12_trip_82 rfl ?_
            refine V_dup (pc := 83) d_X12_trip_83 rfl ?_
            refine P_getI (pc := 84) d_X12_trip_84 f_X12_287 (tt_139 b) ?_
            simp (disch := omega) only [up2_n, up2_e]
            rw [vnt]
            refine V_iconst (pc := 87) (1) d_X12_trip_87 (by decide) ?_
            refine V_iadd (pc := 88) d_X12_trip_88 ?_
            refine P_putI (pc := 89) d_X12_trip_89 f_X12_287 (tt_139 b) ?_
            refine V_aload_n (pc := 92) d_X12_trip_92 rfl ?_
            refine V_aload_n (pc := 93) d_X12_trip_93 rfl ?_
            refine P_getI (pc := 94) d_X12_trip_94 f_X12_287 (tt_139 b) ?_
            simp (disch := omega) only [up2_n, up2_e]
            refine V_iconst (pc := 97) (1) d_X12_trip_97 (by decide) ?_
            refine V_isub (pc := 98) d_X12_trip_98 ?_
            rw [show nI nt + 1 - 1 = nI nt from by rw [nI_1, nI_pred]]
            refine V_cvI (pc := 99) (n := 1) (c := 12) [_] d_X12_trip_99 c_X12_191 k_X12_done ⟨rfl, rfl⟩ (tt_139 b) rfl (Nat.le_of_ble_eq_true rfl) ⟨Nat.le_of_ble_eq_true rfl, Nat.le_of_ble_eq_true rfl⟩ ⟨Nat.le_refl _, Nat.le_refl _⟩ (ct_X12_done ?_)
            exact V_retI (pc := 102) d_X12_trip_102 rfl ⟨Nat.le_refl _, Nat.le_refl _⟩ (h2 f t w hf ht hw rfl rfl rfl (by omega) (by omega))
          · simp (disch := omega) only [nI_eq] at c43
            refine V_aload_n (pc := 46) d_X12_trip_46 rfl ?_
            refine V_iconst (pc := 47) (nI 2) d_X12_trip_47 (by decide) ?_
            refine V_cvI (pc := 48) (n := 1) (c := 12) [_] d_X12_trip_48 c_X12_187 k_X12_refused ⟨rfl, rfl⟩ (tt_139 b) rfl (Nat.le_of_ble_eq_true rfl) ⟨Nat.le_of_ble_eq_true rfl, Nat.le_of_ble_eq_true rfl⟩ ⟨Nat.le_refl _, Nat.le_refl _⟩ (ct_X12_refused ?_)
            exact V_retI (pc := 51) d_X12_trip_51 rfl ⟨Nat.le_refl _, Nat.le_refl _⟩ (h4 f t w hf ht hw rfl rfl rfl (by omega) (by omega))
        · replace c28 := zf c28
          refine V_aload_n (pc := 31) d_X12_trip_31 rfl ?_
          refine V_iconst (pc := 32) (1) d_X12_trip_32 (by decide) ?_
          refine V_cvI (pc := 33) (n := 1) (c := 12) [_] d_X12_trip_33 c_X12_187 k_X12_refused ⟨rfl, rfl⟩ (tt_139 b) rfl (Nat.le_of_ble_eq_true rfl) ⟨Nat.le_of_ble_eq_true rfl, Nat.le_of_ble_eq_true rfl⟩ ⟨Nat.le_refl _, Nat.le_refl _⟩ (ct_X12_refused ?_)
          exact V_retI (pc := 36) d_X12_trip_36 rfl ⟨Nat.le_refl _, Nat.le_refl _⟩ (h1 (by
                        rintro ⟨f, t, w, gf, gt, gw, ef, et, ew, d0⟩
                        try subst ef
                        try subst et
                        try subst ew
                        simp (disch := omega) only [nI_toInt, nI_eq] at *
                        omega))
theorem pr_trip {x y z : Int32}  (h : Rel σ b)  : PR G mX11_trip mX12_trip 4 3 [.int x, .int y, .int z] σ b := by
  have h0 := h
  obtain ⟨q, ns, nb, nl, nt, nr, hR, hX, hP, hQ, hK⟩ := h
  have hbd := hR.1.1
  refine ct_X11_trip hR  (fun hv => ?_) (fun f t w hf ht hw ef et ew d0 hv => ?_) (fun f t w hf ht hw ef et ew d0 hv => ?_)
  · exact ⟨rfl, ct_X12_trip (RR_lo hR (fun a i _ _ => by simp (disch := omega) only [up2_n, filr_n, film_n]))  (fun _ => ⟨rfl, _, rfl, rel_ref h0⟩) (fun f t w hf ht hw ef et ew d0 _ => absurd ⟨f, t, w, hf, ht, hw, ef, et, ew, d0⟩ hv) (fun f t w hf ht hw ef et ew d0 _ => absurd ⟨f, t, w, hf, ht, hw, ef, et, ew, d0⟩ hv)⟩
  · refine ⟨rfl, ct_X12_trip (RR_lo hR (fun a i _ _ => by simp (disch := omega) only [up2_n, filr_n, film_n]))  (fun hv => absurd ⟨f, t, w, hf, ht, hw, ef, et, ew, d0⟩ hv) (fun f' t' w' hf' ht' hw' ef' et' ew' d0' hv' => ?_) (fun f' t' w' hf' ht' hw' ef' et' ew' d0' hv' => ?_)⟩
    · obtain rfl : f' = f := (nI_eq (by omega) (by omega)).mp (ef'.symm.trans ef)
      obtain rfl : t' = t := (nI_eq (by omega) (by omega)).mp (et'.symm.trans et)
      obtain rfl : w' = w := (nI_eq (by omega) (by omega)).mp (ew'.symm.trans ew)
      exact ⟨rfl, _, rfl, rel_ref h0⟩
    · obtain rfl : f' = f := (nI_eq (by omega) (by omega)).mp (ef'.symm.trans ef)
      obtain rfl : t' = t := (nI_eq (by omega) (by omega)).mp (et'.symm.trans et)
      obtain rfl : w' = w := (nI_eq (by omega) (by omega)).mp (ew'.symm.trans ew)
      try simp (disch := omega) only [up2_n, filr_n, film_n] at hv'
      first | exact absurd hv hv' | exact absurd hv' hv | (exfalso; omega)
  · refine ⟨rfl, ct_X12_trip (RR_lo hR (fun a i _ _ => by simp (disch := omega) only [up2_n, filr_n, film_n]))  (fun hv => absurd ⟨f, t, w, hf, ht, hw, ef, et, ew, d0⟩ hv) (fun f' t' w' hf' ht' hw' ef' et' ew' d0' hv' => ?_) (fun f' t' w' hf' ht' hw' ef' et' ew' d0' hv' => ?_)⟩
    · obtain rfl : f' = f := (nI_eq (by omega) (by omega)).mp (ef'.symm.trans ef)
      obtain rfl : t' = t := (nI_eq (by omega) (by omega)).mp (et'.symm.trans et)
      obtain rfl : w' = w := (nI_eq (by omega) (by omega)).mp (ew'.symm.trans ew)
      try simp (disch := omega) only [up2_n, filr_n, film_n] at hv'
      first | exact absurd hv hv' | exact absurd hv' hv | (exfalso; omega)
    · obtain rfl : f' = f := (nI_eq (by omega) (by omega)).mp (ef'.symm.trans ef)
      obtain rfl : t' = t := (nI_eq (by omega) (by omega)).mp (et'.symm.trans et)
      obtain rfl : w' = w := (nI_eq (by omega) (by omega)).mp (ew'.symm.trans ew)
      obtain ⟨hcn, hH, hC, hS, hLD, hB, hA, hT, hU⟩ := id hR
      have hbd := hcn.1
      refine ⟨rfl, _, rfl, ?_⟩
      exact ⟨q, ns, nb, nl, nt + 1, nr, ⟨by
            obtain ⟨⟨c1, c2, c3, c4, c5, c6⟩, ⟨v1, v2, v3, v4, v5, v6⟩, ⟨r1, r2, r3, r4, r5, r6⟩, hp⟩ := hcn
            refine ⟨⟨by omega, by omega, by omega, by omega, by omega, by omega⟩, ⟨?_, ?_, ?_, ?_, ?_, ?_⟩, ⟨?_, ?_, ?_, ?_, ?_, ?_⟩, ?_⟩ <;> simp (disch := omega) only [up2_n, up2_e, filr_n, film_n, nI_1] <;> assumption, cH_cg hH (by simp (disch := omega) only [up2_n, filr_n, film_n]) (fun d _ => (by simp (disch := omega) only [up2_n, filr_n, film_n])) (fun d _ => ⟨(by simp (disch := omega) only [up2_n, filr_n, film_n]), (by simp (disch := omega) only [up2_n, filr_n, film_n])⟩), cC_cg hC (fun d _ => (by simp (disch := omega) only [up2_n, filr_n, film_n])) (fun d _ => (by simp (disch := omega) only [up2_n, filr_n, film_n])), cS_cg hS (fun k _ => ⟨fun j => (by simp (disch := omega) only [up2_n, filr_n, film_n]), fun d _ => (by simp (disch := omega) only [up2_n, filr_n, film_n])⟩) (fun k _ => ⟨(by simp (disch := omega) only [up2_n, filr_n, film_n]), (by simp (disch := omega) only [up2_n, filr_n, film_n]), (by simp (disch := omega) only [up2_n, filr_n, film_n]), (by simp (disch := omega) only [up2_n, filr_n, film_n])⟩) (fun i _ => ⟨(by simp (disch := omega) only [up2_n, filr_n, film_n]), (by simp (disch := omega) only [up2_n, filr_n, film_n])⟩), cL_cg hLD (fun l _ => ⟨(by simp (disch := omega) only [up2_n, filr_n, film_n]), fun k _ => ⟨(by simp (disch := omega) only [up2_n, filr_n, film_n]), (by simp (disch := omega) only [up2_n, filr_n, film_n])⟩⟩) (fun l _ => (by simp (disch := omega) only [up2_n, filr_n, film_n])) (fun m _ _ => ⟨(by simp (disch := omega) only [up2_n, filr_n, film_n]), (by simp (disch := omega) only [up2_n, filr_n, film_n])⟩), cB_cg hB (fun i _ => ⟨fun j => (by simp (disch := omega) only [up2_n, filr_n, film_n]), fun k _ => ⟨(by simp (disch := omega) only [up2_n, filr_n, film_n]), (by simp (disch := omega) only [up2_n, filr_n, film_n])⟩⟩) (fun i _ a _ _ => (by simp (disch := omega) only [up2_n, filr_n, film_n])) (fun m _ => ⟨(by simp (disch := omega) only [up2_n, filr_n, film_n]), (by simp (disch := omega) only [up2_n, filr_n, film_n])⟩) (fun j _ => ⟨(by simp (disch := omega) only [up2_n, filr_n, film_n]), (by simp (disch := omega) only [up2_n, filr_n, film_n]), (by simp (disch := omega) only [up2_n, filr_n, film_n])⟩), cA_cg hA (fun j _ i => (by simp (disch := omega) only [up2_n, filr_n, film_n])) (fun j _ a _ _ => (by simp (disch := omega) only [up2_n, filr_n, film_n])), by
            intro e he
            by_cases z : e = nt
            · subst z
              refine ⟨⟨?_, ?_, ?_⟩, ⟨f', hf, ?_⟩, ⟨t', ht, ?_⟩, ⟨w', hw, ?_⟩⟩ <;> simp (disch := omega) only [up2_n, up2_e, filr_n, film_n]
            · have := hT e (by omega)
              simp (disch := omega) only [up2_n, up2_e, filr_n, film_n]
              exact this, cU_cg hU (fun j _ i => (by simp (disch := omega) only [up2_n, filr_n, film_n])) (fun j _ a _ _ => (by simp (disch := omega) only [up2_n, filr_n, film_n]))⟩, cX_cg hX (by simp [up2]) ⟨(by simp (disch := omega) only [up2_n, filr_n, film_n]), (by simp (disch := omega) only [up2_n, filr_n, film_n])⟩, cP_cg hP ⟨(by simp (disch := omega) only [up2_n, filr_n, film_n]), (by simp (disch := omega) only [up2_n, filr_n, film_n])⟩ (fun j _ => ⟨(by simp (disch := omega) only [up2_n, filr_n, film_n]), (by simp (disch := omega) only [up2_n, filr_n, film_n])⟩), cQ_cg hQ (fun a i _ => (by simp (disch := omega) only [up2_n, filr_n, film_n])), cK_cg hK (by simp (disch := omega) only [up2_n, filr_n, film_n]) (fun a i _ => (by simp (disch := omega) only [up2_n, filr_n, film_n])) (fun a i _ => (by simp (disch := omega) only [up2_n, filr_n, film_n])) (by omega) (by omega) (by omega) (by omega) (by omega)⟩
theorem ct_X11_rule {x y z : Int32} {q ns nb nl nt nr : Nat} (hR : RR σ 4 σ q ns nb nl nt nr) (h1 : ¬ (∃ k w d, k < 6 ∧ w < 3 ∧ d < 10000 ∧ x = nI k ∧ y = nI w ∧ z = nI d ∧ d / 100 ≤ d % 100) → K (-1) (up2 σ 3 3 1, sh b)) (h4 : ∀ (k w d : Nat), k < 6 → w < 3 → d < 10000 → x = nI k → y = nI w → z = nI d → d / 100 ≤ d % 100 → nr = 8 → K (-1) (up2 σ 3 3 (nI 2), sh b)) (h2 : ∀ (k w d : Nat), k < 6 → w < 3 → d < 10000 → x = nI k → y = nI w → z = nI d → d / 100 ≤ d % 100 → nr < 8 → K (nI nr) (up2 (up2 (up2 (up2 (up2 (up2 σ 4 5 (nI nr + 1)) (115 + nr) 0 (nI k)) (115 + nr) 1 (nI w)) (115 + nr) 2 (nI (d / 100))) (115 + nr) 3 (nI (d % 100))) 3 3 0, sh b)) : CM G mX11_rule (rl 2) [.ref 3, .int x, .int y, .int z] (σ, sh b) (QI K) := by
  obtain ⟨⟨⟨hq2, hn10, hnb, hnl, hnt, hnr⟩, ⟨vq, vns, vnb, vnl, vnt, vnr⟩, ⟨rq, rns, rnb, rnl, rnt, rnr⟩, hpd⟩, hH, hC, hS, hLD, hB, hA, hT, hU⟩ := hR
  refine CM.of (by decide) (Nat.le_of_ble_eq_true rfl) (cats1 rfl) ?_
  refine V_iload_n (pc := 0) d_X11_rule_0 rfl ?_
  refine V_iconst (pc := 1) (0) d_X11_rule_1 (by decide) ?_
  refine V_iconst (pc := 2) (nI 5) d_X11_rule_2 (by decide) ?_
  refine V_csI (pc := 3) (n := 1) [_, _, _] d_X11_rule_3 c_X11_51 k_X11_isWithin rfl (Nat.le_of_ble_eq_true rfl) ⟨Nat.le_of_ble_eq_true rfl, Nat.le_of_ble_eq_true rfl⟩ ⟨Nat.le_refl _, Nat.le_refl _⟩ (ct_X11_isWithin (lo := 0) (hi := 5) (by decide) (by decide) ?_)
  refine V_if_eq (pc := 6) 22 d_X11_rule_6 (by decide) (fun c6 => ?_) (fun c6 => ?_)
  · replace c6 := zf c6
    refine V_iconst (pc := 22) (0) d_X11_rule_22 (by decide) ?_
    refine V_istore (pc := 23) d_X11_rule_23 (by decide) ?_
    refine V_iload (pc := 25) d_X11_rule_25 rfl ?_
    refine V_if_eq (pc := 27) 52 d_X11_rule_27 (by decide) (fun c27 => ?_) (fun c27 => ?_)
    · refine V_aload_n (pc := 52) d_X11_rule_52 rfl ?_
      refine V_iconst (pc := 53) (1) d_X11_rule_53 (by decide) ?_
      refine V_cvI (pc := 54) (n := 1) (c := 11) [_] d_X11_rule_54 c_X11_55 k_X11_refused ⟨rfl, rfl⟩ (tt_3 b) rfl (Nat.le_of_ble_eq_true rfl) ⟨Nat.le_of_ble_eq_true rfl, Nat.le_of_ble_eq_true rfl⟩ ⟨Nat.le_refl _, Nat.le_refl _⟩ (ct_X11_refused ?_)
      exact V_retI (pc := 57) d_X11_rule_57 rfl ⟨Nat.le_refl _, Nat.le_refl _⟩ (h1 (by
                        rintro ⟨k, w, d, gk, gw, gd, ek, ew, ed, d0⟩
                        try subst ek
                        try subst ew
                        try subst ed
                        simp (disch := omega) only [nI_toInt, nI_eq] at *
                        omega))
    · exact absurd (by decide) c27
  · replace c6 := zt c6
    refine V_iload_n (pc := 9) d_X11_rule_9 rfl ?_
    refine V_iconst (pc := 10) (0) d_X11_rule_10 (by decide) ?_
    refine V_iconst (pc := 11) (nI 2) d_X11_rule_11 (by decide) ?_
    refine V_csI (pc := 12) (n := 1) [_, _, _] d_X11_rule_12 c_X11_51 k_X11_isWithin rfl (Nat.le_of_ble_eq_true rfl) ⟨Nat.le_of_ble_eq_true rfl, Nat.le_of_ble_eq_true rfl⟩ ⟨Nat.le_refl _, Nat.le_refl _⟩ (ct_X11_isWithin (lo := 0) (hi := 2) (by decide) (by decide) ?_)
    refine V_if_eq (pc := 15) 22 d_X11_rule_15 (by decide) (fun c15 => ?_) (fun c15 => ?_)
    · replace c15 := zf c15
      refine V_iconst (pc := 22) (0) d_X11_rule_22 (by decide) ?_
      refine V_istore (pc := 23) d_X11_rule_23 (by decide) ?_
      refine V_iload (pc := 25) d_X11_rule_25 rfl ?_
      refine V_if_eq (pc := 27) 52 d_X11_rule_27 (by decide) (fun c27 => ?_) (fun c27 => ?_)
      · refine V_aload_n (pc := 52) d_X11_rule_52 rfl ?_
        refine V_iconst (pc := 53) (1) d_X11_rule_53 (by decide) ?_
        refine V_cvI (pc := 54) (n := 1) (c := 11) [_] d_X11_rule_54 c_X11_55 k_X11_refused ⟨rfl, rfl⟩ (tt_3 b) rfl (Nat.le_of_ble_eq_true rfl) ⟨Nat.le_of_ble_eq_true rfl, Nat.le_of_ble_eq_true rfl⟩ ⟨Nat.le_refl _, Nat.le_refl _⟩ (ct_X11_refused ?_)
        exact V_retI (pc := 57) d_X11_rule_57 rfl ⟨Nat.le_refl _, Nat.le_refl _⟩ (h1 (by
                        rintro ⟨k, w, d, gk, gw, gd, ek, ew, ed, d0⟩
                        try subst ek
                        try subst ew
                        try subst ed
                        simp (disch := omega) only [nI_toInt, nI_eq] at *
                        omega))
      · exact absurd (by decide) c27
    · replace c15 := zt c15
      refine V_iconst (pc := 18) (1) d_X11_rule_18 (by decide) ?_
      refine V_goto (pc := 19) 23 d_X11_rule_19 (by decide) ?_
      refine V_istore (pc := 23) d_X11_rule_23 (by decide) ?_
      refine V_iload (pc := 25) d_X11_rule_25 rfl ?_
      refine V_if_eq (pc := 27) 52 d_X11_rule_27 (by decide) (fun c27 => ?_) (fun c27 => ?_)
      · exact absurd c27 (by decide)
      · refine V_iload_n (pc := 30) d_X11_rule_30 rfl ?_
        refine V_iconst (pc := 31) (0) d_X11_rule_31 (by decide) ?_
        refine V_sipush (pc := 32) (nI 9999) d_X11_rule_32 (by decide) ?_
        refine V_csI (pc := 35) (n := 1) [_, _, _] d_X11_rule_35 c_X11_51 k_X11_isWithin rfl (Nat.le_of_ble_eq_true rfl) ⟨Nat.le_of_ble_eq_true rfl, Nat.le_of_ble_eq_true rfl⟩ ⟨Nat.le_refl _, Nat.le_refl _⟩ (ct_X11_isWithin (lo := 0) (hi := 9999) (by decide) (by decide) ?_)
        refine V_if_eq (pc := 38) 52 d_X11_rule_38 (by decide) (fun c38 => ?_) (fun c38 => ?_)
        · replace c38 := zf c38
          refine V_aload_n (pc := 52) d_X11_rule_52 rfl ?_
          refine V_iconst (pc := 53) (1) d_X11_rule_53 (by decide) ?_
          refine V_cvI (pc := 54) (n := 1) (c := 11) [_] d_X11_rule_54 c_X11_55 k_X11_refused ⟨rfl, rfl⟩ (tt_3 b) rfl (Nat.le_of_ble_eq_true rfl) ⟨Nat.le_of_ble_eq_true rfl, Nat.le_of_ble_eq_true rfl⟩ ⟨Nat.le_refl _, Nat.le_refl _⟩ (ct_X11_refused ?_)
          exact V_retI (pc := 57) d_X11_rule_57 rfl ⟨Nat.le_refl _, Nat.le_refl _⟩ (h1 (by
                        rintro ⟨k, w, d, gk, gw, gd, ek, ew, ed, d0⟩
                        try subst ek
                        try subst ew
                        try subst ed
                        simp (disch := omega) only [nI_toInt, nI_eq] at *
                        omega))
        · replace c38 := zt c38
          obtain ⟨k, hk, rfl, -⟩ := nat_of (n := 6) (x := x) (by omega) (by omega) (by omega)
          obtain ⟨w, hw, rfl, -⟩ := nat_of (n := 3) (x := y) (by omega) (by omega) (by omega)
          obtain ⟨d, hd, rfl, -⟩ := nat_of (n := 10000) (x := z) (by omega) (by omega) (by omega)
          simp (disch := omega) only [nI_toInt] at c6 c15 c38
          refine V_iload_n (pc := 41) d_X11_rule_41 rfl ?_
          refine V_bipush (pc := 42) (nI 100) d_X11_rule_42 (by decide) ?_
          refine V_irem (pc := 44) d_X11_rule_44 (by decide) ?_
          rw [pk_rem (by omega) (by decide) (by decide)]
          refine V_iload_n (pc := 45) d_X11_rule_45 rfl ?_
          refine V_bipush (pc := 46) (nI 100) d_X11_rule_46 (by decide) ?_
          refine V_idiv (pc := 48) d_X11_rule_48 (by decide) ?_
          rw [pk_div (by omega) (by decide) (by decide)]
          refine B_icmp_ge (pc := 49) 58 d_X11_rule_49 (by decide) (fun c49 => ?_) (fun c49 => ?_)
          · simp (disch := omega) only [nI_toInt, ti0, ti1, tim1, tim20, tim1000] at c49
            refine V_aload_n (pc := 58) d_X11_rule_58 rfl ?_
            refine P_getR (pc := 59) d_X11_rule_59 f_X11_10 (tt_3 b) (rr_3_0 b) ?_
            refine P_getI (pc := 62) d_X11_rule_62 f_X11_227 (tt_4 b) ?_
            rw [rnr]
            refine V_bipush (pc := 65) (nI 8) d_X11_rule_65 (by decide) ?_
            refine B_icmp_lt (pc := 67) 76 d_X11_rule_67 (by decide) (fun c67 => ?_) (fun c67 => ?_)
            · simp (disch := omega) only [show (nI 8).toInt = 8 from by decide, nI_toInt, ti0, ti1, tim1, tim20, tim1000] at c67
              refine V_aload_n (pc := 76) d_X11_rule_76 rfl ?_
              refine P_getR (pc := 77) d_X11_rule_77 f_X11_10 (tt_3 b) (rr_3_0 b) ?_
              refine V_dup (pc := 80) d_X11_rule_80 rfl ?_
              refine P_getI (pc := 81) d_X11_rule_81 f_X11_227 (tt_4 b) ?_
              rw [rnr]
              refine V_dup_x1 (pc := 84) d_X11_rule_84 rfl rfl ?_
              refine V_iconst (pc := 85) (1) d_X11_rule_85 (by decide) ?_
              refine V_iadd (pc := 86) d_X11_rule_86 ?_
              refine P_putI (pc := 87) d_X11_rule_87 f_X11_227 (tt_4 b) ?_
              refine V_istore (pc := 90) d_X11_rule_90 (by decide) ?_
              refine V_aload_n (pc := 92) d_X11_rule_92 rfl ?_
              refine P_getR (pc := 93) d_X11_rule_93 f_X11_10 (tt_3 b) (rr_3_0 b) ?_
              refine P_getR (pc := 96) d_X11_rule_96 f_X11_230 (tt_4 b) (rr_4_15 b) ?_
              refine V_iload (pc := 99) d_X11_rule_99 rfl ?_
              refine P_aald (pc := 101) (c := 5) (nr) d_X11_rule_101 (tt_12 b) (by decide) rfl (ln_of (ll_12 b) ⟨by omega, by decide⟩) (rRU b (by omega)) ?_
              refine V_iload_n (pc := 102) d_X11_rule_102 rfl ?_
              refine V_iload_n (pc := 103) d_X11_rule_103 rfl ?_
              refine V_iload_n (pc := 104) d_X11_rule_104 rfl ?_
              refine V_bipush (pc := 105) (nI 100) d_X11_rule_105 (by decide) ?_
              refine V_idiv (pc := 107) d_X11_rule_107 (by decide) ?_
              rw [pk_div (by omega) (by decide) (by decide)]
              refine V_iload_n (pc := 108) d_X11_rule_108 rfl ?_
              refine V_bipush (pc := 109) (nI 100) d_X11_rule_109 (by decide) ?_
              refine V_irem (pc := 111) d_X11_rule_111 (by decide) ?_
              rw [pk_rem (by omega) (by decide) (by decide)]
              refine V_cvV (pc := 112) (n := 1) (c := 5) [_, _, _, _] d_X11_rule_112 c_X11_234 k_X5_begin ⟨rfl, rfl⟩ (tRU b (by omega)) rfl (Nat.le_of_ble_eq_true rfl) ⟨Nat.le_of_ble_eq_true rfl, Nat.le_of_ble_eq_true rfl⟩ ⟨Nat.le_refl _, Nat.le_refl _⟩ (ct_X5_begin (tRU b (by omega)) ?_)
              refine V_aload_n (pc := 115) d_X11_rule_115 rfl ?_
              refine V_iload (pc := 116) d_X11_rule_116 rfl ?_
              refine V_cvI (pc := 118) (n := 1) (c := 11) [_] d_X11_rule_118 c_X11_72 k_X11_done ⟨rfl, rfl⟩ (tt_3 b) rfl (Nat.le_of_ble_eq_true rfl) ⟨Nat.le_of_ble_eq_true rfl, Nat.le_of_ble_eq_true rfl⟩ ⟨Nat.le_refl _, Nat.le_refl _⟩ (ct_X11_done ?_)
              exact V_retI (pc := 121) d_X11_rule_121 rfl ⟨Nat.le_refl _, Nat.le_refl _⟩ (h2 k w d hk hw hd rfl rfl rfl (by omega) (by omega))
            · simp (disch := omega) only [show (nI 8).toInt = 8 from by decide, nI_toInt, ti0, ti1, tim1, tim20, tim1000] at c67
              refine V_aload_n (pc := 70) d_X11_rule_70 rfl ?_
              refine V_iconst (pc := 71) (nI 2) d_X11_rule_71 (by decide) ?_
              refine V_cvI (pc := 72) (n := 1) (c := 11) [_] d_X11_rule_72 c_X11_55 k_X11_refused ⟨rfl, rfl⟩ (tt_3 b) rfl (Nat.le_of_ble_eq_true rfl) ⟨Nat.le_of_ble_eq_true rfl, Nat.le_of_ble_eq_true rfl⟩ ⟨Nat.le_refl _, Nat.le_refl _⟩ (ct_X11_refused ?_)
              exact V_retI (pc := 75) d_X11_rule_75 rfl ⟨Nat.le_refl _, Nat.le_refl _⟩ (h4 k w d hk hw hd rfl rfl rfl (by omega) (by omega))
          · simp (disch := omega) only [nI_toInt, ti0, ti1, tim1, tim20, tim1000] at c49
            refine V_aload_n (pc := 52) d_X11_rule_52 rfl ?_
            refine V_iconst (pc := 53) (1) d_X11_rule_53 (by decide) ?_
            refine V_cvI (pc := 54) (n := 1) (c := 11) [_] d_X11_rule_54 c_X11_55 k_X11_refused ⟨rfl, rfl⟩ (tt_3 b) rfl (Nat.le_of_ble_eq_true rfl) ⟨Nat.le_of_ble_eq_true rfl, Nat.le_of_ble_eq_true rfl⟩ ⟨Nat.le_refl _, Nat.le_refl _⟩ (ct_X11_refused ?_)
            exact V_retI (pc := 57) d_X11_rule_57 rfl ⟨Nat.le_refl _, Nat.le_refl _⟩ (h1 (by
                        rintro ⟨k, w, d, gk, gw, gd, ek, ew, ed, d0⟩
                        try subst ek
                        try subst ew
                        try subst ed
                        simp (disch := omega) only [nI_toInt, nI_eq] at *
                        omega))
theorem ct_X12_rule {x y z : Int32} {ρ : Sg} {q ns nb nl nt nr : Nat} (hR : RR ρ 4 σ q ns nb nl nt nr) (h1 : ¬ (∃ k w d, k < 6 ∧ w < 3 ∧ d < 10000 ∧ x = nI k ∧ y = nI w ∧ z = nI d ∧ d / 100 ≤ d % 100) → K (-1) (up2 σ 139 0 1, sh b)) (h4 : ∀ (k w d : Nat), k < 6 → w < 3 → d < 10000 → x = nI k → y = nI w → z = nI d → d / 100 ≤ d % 100 → nr = 8 → K (-1) (up2 σ 139 0 (nI 2), sh b)) (h2 : ∀ (k w d : Nat), k < 6 → w < 3 → d < 10000 → x = nI k → y = nI w → z = nI d → d / 100 ≤ d % 100 → nr < 8 → K (nI nr) (up2 (up2 (up2 (up2 (up2 (up2 σ 168 nr (nI k)) 169 nr (nI w)) 170 nr (nI (d / 100))) 171 nr (nI (d % 100))) 139 35 (nI nr + 1)) 139 0 0, sh b)) : CM G mX12_rule (rl 3) [.ref 139, .int x, .int y, .int z] (σ, sh b) (QI K) := by
  obtain ⟨⟨⟨hq2, hn10, hnb, hnl, hnt, hnr⟩, ⟨vq, vns, vnb, vnl, vnt, vnr⟩, ⟨rq, rns, rnb, rnl, rnt, rnr⟩, hpd⟩, hH, hC, hS, hLD, hB, hA, hT, hU⟩ := hR
  refine CM.of (by decide) (Nat.le_of_ble_eq_true rfl) (cats1 rfl) ?_
  refine V_iload_n (pc := 0) d_X12_rule_0 rfl ?_
  refine V_iconst (pc := 1) (0) d_X12_rule_1 (by decide) ?_
  refine V_iconst (pc := 2) (nI 5) d_X12_rule_2 (by decide) ?_
  refine V_csI (pc := 3) (n := 1) [_, _, _] d_X12_rule_3 c_X12_174 k_X12_in rfl (Nat.le_of_ble_eq_true rfl) ⟨Nat.le_of_ble_eq_true rfl, Nat.le_of_ble_eq_true rfl⟩ ⟨Nat.le_refl _, Nat.le_refl _⟩ (ct_X12_in (lo := 0) (hi := 5) (by decide) (by decide) ?_)
  refine V_if_eq (pc := 6) 48 d_X12_rule_6 (by decide) (fun c6 => ?_) (fun c6 => ?_)
  · replace c6 := zf c6
    refine V_aload_n (pc := 48) d_X12_rule_48 rfl ?_
    refine V_iconst (pc := 49) (1) d_X12_rule_49 (by decide) ?_
    refine V_cvI (pc := 50) (n := 1) (c := 12) [_] d_X12_rule_50 c_X12_187 k_X12_refused ⟨rfl, rfl⟩ (tt_139 b) rfl (Nat.le_of_ble_eq_true rfl) ⟨Nat.le_of_ble_eq_true rfl, Nat.le_of_ble_eq_true rfl⟩ ⟨Nat.le_refl _, Nat.le_refl _⟩ (ct_X12_refused ?_)
    exact V_retI (pc := 53) d_X12_rule_53 rfl ⟨Nat.le_refl _, Nat.le_refl _⟩ (h1 (by
                        rintro ⟨k, w, d, gk, gw, gd, ek, ew, ed, d0⟩
                        try subst ek
                        try subst ew
                        try subst ed
                        simp (disch := omega) only [nI_toInt, nI_eq] at *
                        omega))
  · replace c6 := zt c6
    refine V_iload_n (pc := 9) d_X12_rule_9 rfl ?_
    refine V_iconst (pc := 10) (0) d_X12_rule_10 (by decide) ?_
    refine V_iconst (pc := 11) (nI 2) d_X12_rule_11 (by decide) ?_
    refine V_csI (pc := 12) (n := 1) [_, _, _] d_X12_rule_12 c_X12_174 k_X12_in rfl (Nat.le_of_ble_eq_true rfl) ⟨Nat.le_of_ble_eq_true rfl, Nat.le_of_ble_eq_true rfl⟩ ⟨Nat.le_refl _, Nat.le_refl _⟩ (ct_X12_in (lo := 0) (hi := 2) (by decide) (by decide) ?_)
    refine V_if_eq (pc := 15) 48 d_X12_rule_15 (by decide) (fun c15 => ?_) (fun c15 => ?_)
    · replace c15 := zf c15
      refine V_aload_n (pc := 48) d_X12_rule_48 rfl ?_
      refine V_iconst (pc := 49) (1) d_X12_rule_49 (by decide) ?_
      refine V_cvI (pc := 50) (n := 1) (c := 12) [_] d_X12_rule_50 c_X12_187 k_X12_refused ⟨rfl, rfl⟩ (tt_139 b) rfl (Nat.le_of_ble_eq_true rfl) ⟨Nat.le_of_ble_eq_true rfl, Nat.le_of_ble_eq_true rfl⟩ ⟨Nat.le_refl _, Nat.le_refl _⟩ (ct_X12_refused ?_)
      exact V_retI (pc := 53) d_X12_rule_53 rfl ⟨Nat.le_refl _, Nat.le_refl _⟩ (h1 (by
                        rintro ⟨k, w, d, gk, gw, gd, ek, ew, ed, d0⟩
                        try subst ek
                        try subst ew
                        try subst ed
                        simp (disch := omega) only [nI_toInt, nI_eq] at *
                        omega))
    · replace c15 := zt c15
      refine V_iload_n (pc := 18) d_X12_rule_18 rfl ?_
      refine B_if_lt (pc := 19) 48 d_X12_rule_19 (by decide) (fun c19 => ?_) (fun c19 => ?_)
      · refine V_aload_n (pc := 48) d_X12_rule_48 rfl ?_
        refine V_iconst (pc := 49) (1) d_X12_rule_49 (by decide) ?_
        refine V_cvI (pc := 50) (n := 1) (c := 12) [_] d_X12_rule_50 c_X12_187 k_X12_refused ⟨rfl, rfl⟩ (tt_139 b) rfl (Nat.le_of_ble_eq_true rfl) ⟨Nat.le_of_ble_eq_true rfl, Nat.le_of_ble_eq_true rfl⟩ ⟨Nat.le_refl _, Nat.le_refl _⟩ (ct_X12_refused ?_)
        exact V_retI (pc := 53) d_X12_rule_53 rfl ⟨Nat.le_refl _, Nat.le_refl _⟩ (h1 (by
                        rintro ⟨k, w, d, gk, gw, gd, ek, ew, ed, d0⟩
                        try subst ek
                        try subst ew
                        try subst ed
                        simp (disch := omega) only [nI_toInt, nI_eq] at *
                        omega))
      · obtain ⟨d, hd, rfl⟩ := nI_of (x := z) (by rw [Int32.lt_iff_toInt_lt, ti0]; omega)
        refine V_iload_n (pc := 22) d_X12_rule_22 rfl ?_
        refine V_bipush (pc := 23) (nI 100) d_X12_rule_23 (by decide) ?_
        refine V_idiv (pc := 25) d_X12_rule_25 (by decide) ?_
        rw [pk_div (by omega) (by decide) (by decide)]
        refine V_csI (pc := 26) (n := 2) [_] d_X12_rule_26 c_X12_194 k_X12_isDay rfl (Nat.le_of_ble_eq_true rfl) ⟨Nat.le_of_ble_eq_true rfl, Nat.le_of_ble_eq_true rfl⟩ ⟨Nat.le_refl _, Nat.le_refl _⟩ (ct_X12_isDay ?_)
        refine V_if_eq (pc := 29) 48 d_X12_rule_29 (by decide) (fun c29 => ?_) (fun c29 => ?_)
        · replace c29 := zf c29
          refine V_aload_n (pc := 48) d_X12_rule_48 rfl ?_
          refine V_iconst (pc := 49) (1) d_X12_rule_49 (by decide) ?_
          refine V_cvI (pc := 50) (n := 1) (c := 12) [_] d_X12_rule_50 c_X12_187 k_X12_refused ⟨rfl, rfl⟩ (tt_139 b) rfl (Nat.le_of_ble_eq_true rfl) ⟨Nat.le_of_ble_eq_true rfl, Nat.le_of_ble_eq_true rfl⟩ ⟨Nat.le_refl _, Nat.le_refl _⟩ (ct_X12_refused ?_)
          exact V_retI (pc := 53) d_X12_rule_53 rfl ⟨Nat.le_refl _, Nat.le_refl _⟩ (h1 (by
                        rintro ⟨k, w, d, gk, gw, gd, ek, ew, ed, d0⟩
                        try subst ek
                        try subst ew
                        try subst ed
                        simp (disch := omega) only [nI_toInt, nI_eq] at *
                        omega))
        · replace c29 := zt c29
          refine V_iload_n (pc := 32) d_X12_rule_32 rfl ?_
          refine V_bipush (pc := 33) (nI 100) d_X12_rule_33 (by decide) ?_
          refine V_irem (pc := 35) d_X12_rule_35 (by decide) ?_
          rw [pk_rem (by omega) (by decide) (by decide)]
          refine V_iload_n (pc := 36) d_X12_rule_36 rfl ?_
          refine V_bipush (pc := 37) (nI 100) d_X12_rule_37 (by decide) ?_
          refine V_idiv (pc := 39) d_X12_rule_39 (by decide) ?_
          rw [pk_div (by omega) (by decide) (by decide)]
          refine V_bipush (pc := 40) (nI 99) d_X12_rule_40 (by decide) ?_
          refine V_csI (pc := 42) (n := 1) [_, _, _] d_X12_rule_42 c_X12_174 k_X12_in rfl (Nat.le_of_ble_eq_true rfl) ⟨Nat.le_of_ble_eq_true rfl, Nat.le_of_ble_eq_true rfl⟩ ⟨Nat.le_refl _, Nat.le_refl _⟩ (ct_X12_in (lo := ((d / 100 : Nat) : Int)) (hi := 99) (nI_toInt (by omega)) (by decide) ?_)
          refine V_if_ne (pc := 45) 54 d_X12_rule_45 (by decide) (fun c45 => ?_) (fun c45 => ?_)
          · replace c45 := zt c45
            obtain ⟨k, hk, rfl, -⟩ := nat_of (n := 6) (x := x) (by omega) (by omega) (by omega)
            obtain ⟨w, hw, rfl, -⟩ := nat_of (n := 3) (x := y) (by omega) (by omega) (by omega)
            simp (disch := omega) only [nI_toInt] at c6 c15 c29 c45
            refine V_aload_n (pc := 54) d_X12_rule_54 rfl ?_
            refine P_getI (pc := 55) d_X12_rule_55 f_X12_296 (tt_139 b) ?_
            rw [vnr]
            refine V_bipush (pc := 58) (nI 8) d_X12_rule_58 (by decide) ?_
            refine V_icmp_ne (pc := 60) 69 d_X12_rule_60 (by decide) (fun c60 => ?_) (fun c60 => ?_)
            · simp (disch := omega) only [nI_eq] at c60
              refine V_aload_n (pc := 69) d_X12_rule_69 rfl ?_
              refine P_getR (pc := 70) d_X12_rule_70 f_X12_95 (tt_139 b) (rr_139_36 b) ?_
              refine V_aload_n (pc := 73) d_X12_rule_73 rfl ?_
              refine P_getI (pc := 74) d_X12_rule_74 f_X12_296 (tt_139 b) ?_
              rw [vnr]
              refine V_iload_n (pc := 77) d_X12_rule_77 rfl ?_
              refine P_iast (pc := 78) (nr) d_X12_rule_78 (tt_168 b) rfl (ln_of (ll_168 b) ⟨by omega, by decide⟩) ?_
              refine V_aload_n (pc := 79) d_X12_rule_79 rfl ?_
              refine P_getR (pc := 80) d_X12_rule_80 f_X12_98 (tt_139 b) (rr_139_37 b) ?_
              refine V_aload_n (pc := 83) d_X12_rule_83 rfl ?_
              refine P_getI (pc := 84) d_X12_rule_84 f_X12_296 (tt_139 b) ?_
              simp (disch := omega) only [up2_n, up2_e]
              rw [vnr]
              refine V_iload_n (pc := 87) d_X12_rule_87 rfl ?_
              refine P_iast (pc := 88) (nr) d_X12_rule_88 (tt_169 b) rfl (ln_of (ll_169 b) ⟨by omega, by decide⟩) ?_
              refine V_aload_n (pc := 89) d_X12_rule_89 rfl ?_
              refine P_getR (pc := 90) d_X12_rule_90 f_X12_101 (tt_139 b) (rr_139_38 b) ?_
              refine V_aload_n (pc := 93) d_X12_rule_93 rfl ?_
              refine P_getI (pc := 94) d_X12_rule_94 f_X12_296 (tt_139 b) ?_
              simp (disch := omega) only [up2_n, up2_e]
              rw [vnr]
              refine V_iload_n (pc := 97) d_X12_rule_97 rfl ?_
              refine V_bipush (pc := 98) (nI 100) d_X12_rule_98 (by decide) ?_
              refine V_idiv (pc := 100) d_X12_rule_100 (by decide) ?_
              rw [pk_div (by omega) (by decide) (by decide)]
              refine P_iast (pc := 101) (nr) d_X12_rule_101 (tt_170 b) rfl (ln_of (ll_170 b) ⟨by omega, by decide⟩) ?_
              refine V_aload_n (pc := 102) d_X12_rule_102 rfl ?_
              refine P_getR (pc := 103) d_X12_rule_103 f_X12_104 (tt_139 b) (rr_139_39 b) ?_
              refine V_aload_n (pc := 106) d_X12_rule_106 rfl ?_
              refine P_getI (pc := 107) d_X12_rule_107 f_X12_296 (tt_139 b) ?_
              simp (disch := omega) only [up2_n, up2_e]
              rw [vnr]
              refine V_iload_n (pc := 110) d_X12_rule_110 rfl ?_
              refine V_bipush (pc := 111) (nI 100) d_X12_rule_111 (by decide) ?_
              refine V_irem (pc := 113) d_X12_rule_113 (by decide) ?_
              rw [pk_rem (by omega) (by decide) (by decide)]
              refine P_iast (pc := 114) (nr) d_X12_rule_114 (tt_171 b) rfl (ln_of (ll_171 b) ⟨by omega, by decide⟩) ?_
              refine V_aload_n (pc := 115) d_X12_rule_115 rfl ?_
              refine V_dup (pc := 116) d_X12_rule_116 rfl ?_
              refine P_getI (pc := 117) d_X12_rule_117 f_X12_296 (tt_139 b) ?_
              simp (disch := omega) only [up2_n, up2_e]
              rw [vnr]
              refine V_iconst (pc := 120) (1) d_X12_rule_120 (by decide) ?_
              refine V_iadd (pc := 121) d_X12_rule_121 ?_
              refine P_putI (pc := 122) d_X12_rule_122 f_X12_296 (tt_139 b) ?_
              refine V_aload_n (pc := 125) d_X12_rule_125 rfl ?_
              refine V_aload_n (pc := 126) d_X12_rule_126 rfl ?_
              refine P_getI (pc := 127) d_X12_rule_127 f_X12_296 (tt_139 b) ?_
              simp (disch := omega) only [up2_n, up2_e]
              refine V_iconst (pc := 130) (1) d_X12_rule_130 (by decide) ?_
              refine V_isub (pc := 131) d_X12_rule_131 ?_
              rw [show nI nr + 1 - 1 = nI nr from by rw [nI_1, nI_pred]]
              refine V_cvI (pc := 132) (n := 1) (c := 12) [_] d_X12_rule_132 c_X12_191 k_X12_done ⟨rfl, rfl⟩ (tt_139 b) rfl (Nat.le_of_ble_eq_true rfl) ⟨Nat.le_of_ble_eq_true rfl, Nat.le_of_ble_eq_true rfl⟩ ⟨Nat.le_refl _, Nat.le_refl _⟩ (ct_X12_done ?_)
              exact V_retI (pc := 135) d_X12_rule_135 rfl ⟨Nat.le_refl _, Nat.le_refl _⟩ (h2 k w d hk hw (by omega) rfl rfl rfl (by omega) (by omega))
            · simp (disch := omega) only [nI_eq] at c60
              refine V_aload_n (pc := 63) d_X12_rule_63 rfl ?_
              refine V_iconst (pc := 64) (nI 2) d_X12_rule_64 (by decide) ?_
              refine V_cvI (pc := 65) (n := 1) (c := 12) [_] d_X12_rule_65 c_X12_187 k_X12_refused ⟨rfl, rfl⟩ (tt_139 b) rfl (Nat.le_of_ble_eq_true rfl) ⟨Nat.le_of_ble_eq_true rfl, Nat.le_of_ble_eq_true rfl⟩ ⟨Nat.le_refl _, Nat.le_refl _⟩ (ct_X12_refused ?_)
              exact V_retI (pc := 68) d_X12_rule_68 rfl ⟨Nat.le_refl _, Nat.le_refl _⟩ (h4 k w d hk hw (by omega) rfl rfl rfl (by omega) (by omega))
          · replace c45 := zf c45
            refine V_aload_n (pc := 48) d_X12_rule_48 rfl ?_
            refine V_iconst (pc := 49) (1) d_X12_rule_49 (by decide) ?_
            refine V_cvI (pc := 50) (n := 1) (c := 12) [_] d_X12_rule_50 c_X12_187 k_X12_refused ⟨rfl, rfl⟩ (tt_139 b) rfl (Nat.le_of_ble_eq_true rfl) ⟨Nat.le_of_ble_eq_true rfl, Nat.le_of_ble_eq_true rfl⟩ ⟨Nat.le_refl _, Nat.le_refl _⟩ (ct_X12_refused ?_)
            exact V_retI (pc := 53) d_X12_rule_53 rfl ⟨Nat.le_refl _, Nat.le_refl _⟩ (h1 (by
                        rintro ⟨k, w, d, gk, gw, gd, ek, ew, ed, d0⟩
                        try subst ek
                        try subst ew
                        try subst ed
                        simp (disch := omega) only [nI_toInt, nI_eq] at *
                        omega))
theorem pr_rule {x y z : Int32}  (h : Rel σ b)  : PR G mX11_rule mX12_rule 2 3 [.int x, .int y, .int z] σ b := by
  have h0 := h
  obtain ⟨q, ns, nb, nl, nt, nr, hR, hX, hP, hQ, hK⟩ := h
  have hbd := hR.1.1
  refine ct_X11_rule hR  (fun hv => ?_) (fun k w d hk hw hd ek ew ed d0 hv => ?_) (fun k w d hk hw hd ek ew ed d0 hv => ?_)
  · exact ⟨rfl, ct_X12_rule (RR_lo hR (fun a i _ _ => by simp (disch := omega) only [up2_n, filr_n, film_n]))  (fun _ => ⟨rfl, _, rfl, rel_ref h0⟩) (fun k w d hk hw hd ek ew ed d0 _ => absurd ⟨k, w, d, hk, hw, hd, ek, ew, ed, d0⟩ hv) (fun k w d hk hw hd ek ew ed d0 _ => absurd ⟨k, w, d, hk, hw, hd, ek, ew, ed, d0⟩ hv)⟩
  · refine ⟨rfl, ct_X12_rule (RR_lo hR (fun a i _ _ => by simp (disch := omega) only [up2_n, filr_n, film_n]))  (fun hv => absurd ⟨k, w, d, hk, hw, hd, ek, ew, ed, d0⟩ hv) (fun k' w' d' hk' hw' hd' ek' ew' ed' d0' hv' => ?_) (fun k' w' d' hk' hw' hd' ek' ew' ed' d0' hv' => ?_)⟩
    · obtain rfl : k' = k := (nI_eq (by omega) (by omega)).mp (ek'.symm.trans ek)
      obtain rfl : w' = w := (nI_eq (by omega) (by omega)).mp (ew'.symm.trans ew)
      obtain rfl : d' = d := (nI_eq (by omega) (by omega)).mp (ed'.symm.trans ed)
      exact ⟨rfl, _, rfl, rel_ref h0⟩
    · obtain rfl : k' = k := (nI_eq (by omega) (by omega)).mp (ek'.symm.trans ek)
      obtain rfl : w' = w := (nI_eq (by omega) (by omega)).mp (ew'.symm.trans ew)
      obtain rfl : d' = d := (nI_eq (by omega) (by omega)).mp (ed'.symm.trans ed)
      try simp (disch := omega) only [up2_n, filr_n, film_n] at hv'
      first | exact absurd hv hv' | exact absurd hv' hv | (exfalso; omega)
  · refine ⟨rfl, ct_X12_rule (RR_lo hR (fun a i _ _ => by simp (disch := omega) only [up2_n, filr_n, film_n]))  (fun hv => absurd ⟨k, w, d, hk, hw, hd, ek, ew, ed, d0⟩ hv) (fun k' w' d' hk' hw' hd' ek' ew' ed' d0' hv' => ?_) (fun k' w' d' hk' hw' hd' ek' ew' ed' d0' hv' => ?_)⟩
    · obtain rfl : k' = k := (nI_eq (by omega) (by omega)).mp (ek'.symm.trans ek)
      obtain rfl : w' = w := (nI_eq (by omega) (by omega)).mp (ew'.symm.trans ew)
      obtain rfl : d' = d := (nI_eq (by omega) (by omega)).mp (ed'.symm.trans ed)
      try simp (disch := omega) only [up2_n, filr_n, film_n] at hv'
      first | exact absurd hv hv' | exact absurd hv' hv | (exfalso; omega)
    · obtain rfl : k' = k := (nI_eq (by omega) (by omega)).mp (ek'.symm.trans ek)
      obtain rfl : w' = w := (nI_eq (by omega) (by omega)).mp (ew'.symm.trans ew)
      obtain rfl : d' = d := (nI_eq (by omega) (by omega)).mp (ed'.symm.trans ed)
      obtain ⟨hcn, hH, hC, hS, hLD, hB, hA, hT, hU⟩ := id hR
      have hbd := hcn.1
      refine ⟨rfl, _, rfl, ?_⟩
      exact ⟨q, ns, nb, nl, nt, nr + 1, ⟨by
            obtain ⟨⟨c1, c2, c3, c4, c5, c6⟩, ⟨v1, v2, v3, v4, v5, v6⟩, ⟨r1, r2, r3, r4, r5, r6⟩, hp⟩ := hcn
            refine ⟨⟨by omega, by omega, by omega, by omega, by omega, by omega⟩, ⟨?_, ?_, ?_, ?_, ?_, ?_⟩, ⟨?_, ?_, ?_, ?_, ?_, ?_⟩, ?_⟩ <;> simp (disch := omega) only [up2_n, up2_e, filr_n, film_n, nI_1] <;> assumption, cH_cg hH (by simp (disch := omega) only [up2_n, filr_n, film_n]) (fun d _ => (by simp (disch := omega) only [up2_n, filr_n, film_n])) (fun d _ => ⟨(by simp (disch := omega) only [up2_n, filr_n, film_n]), (by simp (disch := omega) only [up2_n, filr_n, film_n])⟩), cC_cg hC (fun d _ => (by simp (disch := omega) only [up2_n, filr_n, film_n])) (fun d _ => (by simp (disch := omega) only [up2_n, filr_n, film_n])), cS_cg hS (fun k _ => ⟨fun j => (by simp (disch := omega) only [up2_n, filr_n, film_n]), fun d _ => (by simp (disch := omega) only [up2_n, filr_n, film_n])⟩) (fun k _ => ⟨(by simp (disch := omega) only [up2_n, filr_n, film_n]), (by simp (disch := omega) only [up2_n, filr_n, film_n]), (by simp (disch := omega) only [up2_n, filr_n, film_n]), (by simp (disch := omega) only [up2_n, filr_n, film_n])⟩) (fun i _ => ⟨(by simp (disch := omega) only [up2_n, filr_n, film_n]), (by simp (disch := omega) only [up2_n, filr_n, film_n])⟩), cL_cg hLD (fun l _ => ⟨(by simp (disch := omega) only [up2_n, filr_n, film_n]), fun k _ => ⟨(by simp (disch := omega) only [up2_n, filr_n, film_n]), (by simp (disch := omega) only [up2_n, filr_n, film_n])⟩⟩) (fun l _ => (by simp (disch := omega) only [up2_n, filr_n, film_n])) (fun m _ _ => ⟨(by simp (disch := omega) only [up2_n, filr_n, film_n]), (by simp (disch := omega) only [up2_n, filr_n, film_n])⟩), cB_cg hB (fun i _ => ⟨fun j => (by simp (disch := omega) only [up2_n, filr_n, film_n]), fun k _ => ⟨(by simp (disch := omega) only [up2_n, filr_n, film_n]), (by simp (disch := omega) only [up2_n, filr_n, film_n])⟩⟩) (fun i _ a _ _ => (by simp (disch := omega) only [up2_n, filr_n, film_n])) (fun m _ => ⟨(by simp (disch := omega) only [up2_n, filr_n, film_n]), (by simp (disch := omega) only [up2_n, filr_n, film_n])⟩) (fun j _ => ⟨(by simp (disch := omega) only [up2_n, filr_n, film_n]), (by simp (disch := omega) only [up2_n, filr_n, film_n]), (by simp (disch := omega) only [up2_n, filr_n, film_n])⟩), cA_cg hA (fun j _ i => (by simp (disch := omega) only [up2_n, filr_n, film_n])) (fun j _ a _ _ => (by simp (disch := omega) only [up2_n, filr_n, film_n])), cT_cg hT (fun j _ i => (by simp (disch := omega) only [up2_n, filr_n, film_n])) (fun j _ a _ _ => (by simp (disch := omega) only [up2_n, filr_n, film_n])), by
            intro e he
            by_cases z : e = nr
            · subst z
              refine ⟨⟨?_, ?_, ?_, ?_⟩, ⟨k', hk, ?_⟩, ⟨w', hw, ?_⟩, ⟨d' / 100, by omega, ?_⟩, ⟨d' % 100, by omega, ?_⟩⟩ <;> simp (disch := omega) only [up2_n, up2_e, filr_n, film_n]
            · have := hU e (by omega)
              simp (disch := omega) only [up2_n, up2_e, filr_n, film_n]
              exact this⟩, cX_cg hX (by simp [up2]) ⟨(by simp (disch := omega) only [up2_n, filr_n, film_n]), (by simp (disch := omega) only [up2_n, filr_n, film_n])⟩, cP_cg hP ⟨(by simp (disch := omega) only [up2_n, filr_n, film_n]), (by simp (disch := omega) only [up2_n, filr_n, film_n])⟩ (fun j _ => ⟨(by simp (disch := omega) only [up2_n, filr_n, film_n]), (by simp (disch := omega) only [up2_n, filr_n, film_n])⟩), cQ_cg hQ (fun a i _ => (by simp (disch := omega) only [up2_n, filr_n, film_n])), cK_cg hK (by simp (disch := omega) only [up2_n, filr_n, film_n]) (fun a i _ => (by simp (disch := omega) only [up2_n, filr_n, film_n])) (fun a i _ => (by simp (disch := omega) only [up2_n, filr_n, film_n])) (by omega) (by omega) (by omega) (by omega) (by omega)⟩
theorem ct_X11_bale {x y z w : Int32} {q ns nb nl nt nr : Nat} (hR : RR σ 4 σ q ns nb nl nt nr) (h1 : ¬ (∃ f t m p, f < ns + 1 ∧ t < ns + 1 ∧ m < 201 ∧ p < 1000 ∧ x = nI f ∧ y = nI t ∧ z = nI m ∧ w = nI p ∧ f ≠ t ∧ 1 ≤ m) → K (-1) (up2 σ 3 3 1, sh b)) (h4 : ∀ (f t m p : Nat), f < ns + 1 → t < ns + 1 → m < 201 → p < 1000 → x = nI f → y = nI t → z = nI m → w = nI p → f ≠ t → 1 ≤ m → nl = 12 → K (-1) (up2 σ 3 3 (nI 2), sh b)) (h2 : ∀ (f t m p : Nat), f < ns + 1 → t < ns + 1 → m < 201 → p < 1000 → x = nI f → y = nI t → z = nI m → w = nI p → f ≠ t → 1 ≤ m → nl < 12 → K (nI nl) (up2 (up2 (up2 (up2 (up2 (up2 (up2 σ 4 3 (nI nl + 1)) (97 + nl) 0 (nI t)) (97 + nl) 1 (nI m)) (97 + nl) 2 (nI p)) (97 + nl) 3 0) (97 + nl) 4 (nI f)) 3 3 0, sh b)) : CM G mX11_bale (rl 4) [.ref 3, .int x, .int y, .int z, .int w] (σ, sh b) (QI K) := by
  obtain ⟨⟨⟨hq2, hn10, hnb, hnl, hnt, hnr⟩, ⟨vq, vns, vnb, vnl, vnt, vnr⟩, ⟨rq, rns, rnb, rnl, rnt, rnr⟩, hpd⟩, hH, hC, hS, hLD, hB, hA, hT, hU⟩ := hR
  refine CM.of (by decide) (Nat.le_of_ble_eq_true rfl) (cats1 rfl) ?_
  refine V_aload_n (pc := 0) d_X11_bale_0 rfl ?_
  refine P_getR (pc := 1) d_X11_bale_1 f_X11_10 (tt_3 b) (rr_3_0 b) ?_
  refine V_iload_n (pc := 4) d_X11_bale_4 rfl ?_
  refine V_iload_n (pc := 5) d_X11_bale_5 rfl ?_
  refine V_cvI (pc := 6) (n := 3) (c := 4) [_, _] d_X11_bale_6 c_X11_120 k_X4_isWay ⟨rfl, rfl⟩ (tt_4 b) rfl (Nat.le_of_ble_eq_true rfl) ⟨Nat.le_of_ble_eq_true rfl, Nat.le_of_ble_eq_true rfl⟩ ⟨Nat.le_refl _, Nat.le_refl _⟩ (ct_X4_isWay rns (by omega) ?_)
  refine V_if_eq (pc := 9) 35 d_X11_bale_9 (by decide) (fun c9 => ?_) (fun c9 => ?_)
  · replace c9 := zf c9
    refine V_aload_n (pc := 35) d_X11_bale_35 rfl ?_
    refine V_iconst (pc := 36) (1) d_X11_bale_36 (by decide) ?_
    refine V_cvI (pc := 37) (n := 1) (c := 11) [_] d_X11_bale_37 c_X11_55 k_X11_refused ⟨rfl, rfl⟩ (tt_3 b) rfl (Nat.le_of_ble_eq_true rfl) ⟨Nat.le_of_ble_eq_true rfl, Nat.le_of_ble_eq_true rfl⟩ ⟨Nat.le_refl _, Nat.le_refl _⟩ (ct_X11_refused ?_)
    exact V_retI (pc := 40) d_X11_bale_40 rfl ⟨Nat.le_refl _, Nat.le_refl _⟩ (h1 (by
                        rintro ⟨f, t, m, p, gf, gt, gm, gp, ef, et, em, ep, d0, d1⟩
                        try subst ef
                        try subst et
                        try subst em
                        try subst ep
                        simp (disch := omega) only [nI_toInt, nI_eq] at *
                        omega))
  · replace c9 := zt c9
    refine V_iload_n (pc := 12) d_X11_bale_12 rfl ?_
    refine V_iconst (pc := 13) (1) d_X11_bale_13 (by decide) ?_
    refine V_sipush (pc := 14) (nI 200) d_X11_bale_14 (by decide) ?_
    refine V_csI (pc := 17) (n := 1) [_, _, _] d_X11_bale_17 c_X11_51 k_X11_isWithin rfl (Nat.le_of_ble_eq_true rfl) ⟨Nat.le_of_ble_eq_true rfl, Nat.le_of_ble_eq_true rfl⟩ ⟨Nat.le_refl _, Nat.le_refl _⟩ (ct_X11_isWithin (lo := 1) (hi := 200) (by decide) (by decide) ?_)
    refine V_if_eq (pc := 20) 35 d_X11_bale_20 (by decide) (fun c20 => ?_) (fun c20 => ?_)
    · replace c20 := zf c20
      refine V_aload_n (pc := 35) d_X11_bale_35 rfl ?_
      refine V_iconst (pc := 36) (1) d_X11_bale_36 (by decide) ?_
      refine V_cvI (pc := 37) (n := 1) (c := 11) [_] d_X11_bale_37 c_X11_55 k_X11_refused ⟨rfl, rfl⟩ (tt_3 b) rfl (Nat.le_of_ble_eq_true rfl) ⟨Nat.le_of_ble_eq_true rfl, Nat.le_of_ble_eq_true rfl⟩ ⟨Nat.le_refl _, Nat.le_refl _⟩ (ct_X11_refused ?_)
      exact V_retI (pc := 40) d_X11_bale_40 rfl ⟨Nat.le_refl _, Nat.le_refl _⟩ (h1 (by
                        rintro ⟨f, t, m, p, gf, gt, gm, gp, ef, et, em, ep, d0, d1⟩
                        try subst ef
                        try subst et
                        try subst em
                        try subst ep
                        simp (disch := omega) only [nI_toInt, nI_eq] at *
                        omega))
    · replace c20 := zt c20
      refine V_iload (pc := 23) d_X11_bale_23 rfl ?_
      refine V_iconst (pc := 25) (0) d_X11_bale_25 (by decide) ?_
      refine V_sipush (pc := 26) (nI 999) d_X11_bale_26 (by decide) ?_
      refine V_csI (pc := 29) (n := 1) [_, _, _] d_X11_bale_29 c_X11_51 k_X11_isWithin rfl (Nat.le_of_ble_eq_true rfl) ⟨Nat.le_of_ble_eq_true rfl, Nat.le_of_ble_eq_true rfl⟩ ⟨Nat.le_refl _, Nat.le_refl _⟩ (ct_X11_isWithin (lo := 0) (hi := 999) (by decide) (by decide) ?_)
      refine V_if_ne (pc := 32) 41 d_X11_bale_32 (by decide) (fun c32 => ?_) (fun c32 => ?_)
      · replace c32 := zt c32
        obtain ⟨f, hf, rfl, -⟩ := nat_of (n := ns + 1) (x := x) (by omega) (by omega) (by omega)
        obtain ⟨t, ht, rfl, -⟩ := nat_of (n := ns + 1) (x := y) (by omega) (by omega) (by omega)
        obtain ⟨m, hm, rfl, -⟩ := nat_of (n := 201) (x := z) (by omega) (by omega) (by omega)
        obtain ⟨p, hp, rfl, -⟩ := nat_of (n := 1000) (x := w) (by omega) (by omega) (by omega)
        simp (disch := omega) only [nI_toInt, nI_eq] at c9 c20 c32
        refine V_aload_n (pc := 41) d_X11_bale_41 rfl ?_
        refine P_getR (pc := 42) d_X11_bale_42 f_X11_10 (tt_3 b) (rr_3_0 b) ?_
        refine P_getI (pc := 45) d_X11_bale_45 f_X11_123 (tt_4 b) ?_
        rw [rnl]
        refine V_bipush (pc := 48) (nI 12) d_X11_bale_48 (by decide) ?_
        refine B_icmp_lt (pc := 50) 59 d_X11_bale_50 (by decide) (fun c50 => ?_) (fun c50 => ?_)
        · simp (disch := omega) only [show (nI 12).toInt = 12 from by decide, nI_toInt, ti0, ti1, tim1, tim20, tim1000] at c50
          refine V_aload_n (pc := 59) d_X11_bale_59 rfl ?_
          refine P_getR (pc := 60) d_X11_bale_60 f_X11_10 (tt_3 b) (rr_3_0 b) ?_
          refine V_dup (pc := 63) d_X11_bale_63 rfl ?_
          refine P_getI (pc := 64) d_X11_bale_64 f_X11_123 (tt_4 b) ?_
          rw [rnl]
          refine V_dup_x1 (pc := 67) d_X11_bale_67 rfl rfl ?_
          refine V_iconst (pc := 68) (1) d_X11_bale_68 (by decide) ?_
          refine V_iadd (pc := 69) d_X11_bale_69 ?_
          refine P_putI (pc := 70) d_X11_bale_70 f_X11_123 (tt_4 b) ?_
          refine V_istore (pc := 73) d_X11_bale_73 (by decide) ?_
          refine V_aload_n (pc := 75) d_X11_bale_75 rfl ?_
          refine P_getR (pc := 76) d_X11_bale_76 f_X11_10 (tt_3 b) (rr_3_0 b) ?_
          refine P_getR (pc := 79) d_X11_bale_79 f_X11_126 (tt_4 b) (rr_4_13 b) ?_
          refine V_iload (pc := 82) d_X11_bale_82 rfl ?_
          refine P_aald (pc := 84) (c := 1) (nl) d_X11_bale_84 (tt_10 b) (by decide) rfl (ln_of (ll_10 b) ⟨by omega, by decide⟩) (rBA b (by omega)) ?_
          refine V_iload_n (pc := 85) d_X11_bale_85 rfl ?_
          refine V_iload_n (pc := 86) d_X11_bale_86 rfl ?_
          refine V_iload_n (pc := 87) d_X11_bale_87 rfl ?_
          refine V_iload (pc := 88) d_X11_bale_88 rfl ?_
          refine V_cvV (pc := 90) (n := 1) (c := 1) [_, _, _, _] d_X11_bale_90 c_X11_130 k_X1_begin ⟨rfl, rfl⟩ (tBA b (by omega)) rfl (Nat.le_of_ble_eq_true rfl) ⟨Nat.le_of_ble_eq_true rfl, Nat.le_of_ble_eq_true rfl⟩ ⟨Nat.le_refl _, Nat.le_refl _⟩ (ct_X1_begin (tBA b (by omega)) ?_)
          refine V_aload_n (pc := 93) d_X11_bale_93 rfl ?_
          refine V_iload (pc := 94) d_X11_bale_94 rfl ?_
          refine V_cvI (pc := 96) (n := 1) (c := 11) [_] d_X11_bale_96 c_X11_72 k_X11_done ⟨rfl, rfl⟩ (tt_3 b) rfl (Nat.le_of_ble_eq_true rfl) ⟨Nat.le_of_ble_eq_true rfl, Nat.le_of_ble_eq_true rfl⟩ ⟨Nat.le_refl _, Nat.le_refl _⟩ (ct_X11_done ?_)
          exact V_retI (pc := 99) d_X11_bale_99 rfl ⟨Nat.le_refl _, Nat.le_refl _⟩ (h2 f t m p hf ht hm hp rfl rfl rfl rfl (by omega) (by omega) (by omega))
        · simp (disch := omega) only [show (nI 12).toInt = 12 from by decide, nI_toInt, ti0, ti1, tim1, tim20, tim1000] at c50
          refine V_aload_n (pc := 53) d_X11_bale_53 rfl ?_
          refine V_iconst (pc := 54) (nI 2) d_X11_bale_54 (by decide) ?_
          refine V_cvI (pc := 55) (n := 1) (c := 11) [_] d_X11_bale_55 c_X11_55 k_X11_refused ⟨rfl, rfl⟩ (tt_3 b) rfl (Nat.le_of_ble_eq_true rfl) ⟨Nat.le_of_ble_eq_true rfl, Nat.le_of_ble_eq_true rfl⟩ ⟨Nat.le_refl _, Nat.le_refl _⟩ (ct_X11_refused ?_)
          exact V_retI (pc := 58) d_X11_bale_58 rfl ⟨Nat.le_refl _, Nat.le_refl _⟩ (h4 f t m p hf ht hm hp rfl rfl rfl rfl (by omega) (by omega) (by omega))
      · replace c32 := zf c32
        refine V_aload_n (pc := 35) d_X11_bale_35 rfl ?_
        refine V_iconst (pc := 36) (1) d_X11_bale_36 (by decide) ?_
        refine V_cvI (pc := 37) (n := 1) (c := 11) [_] d_X11_bale_37 c_X11_55 k_X11_refused ⟨rfl, rfl⟩ (tt_3 b) rfl (Nat.le_of_ble_eq_true rfl) ⟨Nat.le_of_ble_eq_true rfl, Nat.le_of_ble_eq_true rfl⟩ ⟨Nat.le_refl _, Nat.le_refl _⟩ (ct_X11_refused ?_)
        exact V_retI (pc := 40) d_X11_bale_40 rfl ⟨Nat.le_refl _, Nat.le_refl _⟩ (h1 (by
                        rintro ⟨f, t, m, p, gf, gt, gm, gp, ef, et, em, ep, d0, d1⟩
                        try subst ef
                        try subst et
                        try subst em
                        try subst ep
                        simp (disch := omega) only [nI_toInt, nI_eq] at *
                        omega))
theorem ct_X12_bale {x y z w : Int32} {ρ : Sg} {q ns nb nl nt nr : Nat} (hR : RR ρ 4 σ q ns nb nl nt nr) (h1 : ¬ (∃ f t m p, f < ns + 1 ∧ t < ns + 1 ∧ m < 201 ∧ p < 1000 ∧ x = nI f ∧ y = nI t ∧ z = nI m ∧ w = nI p ∧ f ≠ t ∧ 1 ≤ m) → K (-1) (up2 σ 139 0 1, sh b)) (h4 : ∀ (f t m p : Nat), f < ns + 1 → t < ns + 1 → m < 201 → p < 1000 → x = nI f → y = nI t → z = nI m → w = nI p → f ≠ t → 1 ≤ m → nl = 12 → K (-1) (up2 σ 139 0 (nI 2), sh b)) (h2 : ∀ (f t m p : Nat), f < ns + 1 → t < ns + 1 → m < 201 → p < 1000 → x = nI f → y = nI t → z = nI m → w = nI p → f ≠ t → 1 ≤ m → nl < 12 → K (nI nl) (up2 (up2 (up2 (up2 (up2 (up2 (up2 σ 160 nl (nI t)) 161 nl (nI m)) 162 nl (nI p)) 163 nl 0) 164 nl (nI f)) 139 24 (nI nl + 1)) 139 0 0, sh b)) : CM G mX12_bale (rl 3) [.ref 139, .int x, .int y, .int z, .int w] (σ, sh b) (QI K) := by
  obtain ⟨⟨⟨hq2, hn10, hnb, hnl, hnt, hnr⟩, ⟨vq, vns, vnb, vnl, vnt, vnr⟩, ⟨rq, rns, rnb, rnl, rnt, rnr⟩, hpd⟩, hH, hC, hS, hLD, hB, hA, hT, hU⟩ := hR
  refine CM.of (by decide) (Nat.le_of_ble_eq_true rfl) (cats1 rfl) ?_
  refine V_aload_n (pc := 0) d_X12_bale_0 rfl ?_
  refine V_iload_n (pc := 1) d_X12_bale_1 rfl ?_
  refine V_cvI (pc := 2) (n := 2) (c := 12) [_] d_X12_bale_2 c_X12_229 k_X12_isLanding ⟨rfl, rfl⟩ (tt_139 b) rfl (Nat.le_of_ble_eq_true rfl) ⟨Nat.le_of_ble_eq_true rfl, Nat.le_of_ble_eq_true rfl⟩ ⟨Nat.le_refl _, Nat.le_refl _⟩ (ct_X12_isLanding vns (by omega) ?_)
  refine V_if_eq (pc := 5) 44 d_X12_bale_5 (by decide) (fun c5 => ?_) (fun c5 => ?_)
  · replace c5 := zf c5
    refine V_aload_n (pc := 44) d_X12_bale_44 rfl ?_
    refine V_iconst (pc := 45) (1) d_X12_bale_45 (by decide) ?_
    refine V_cvI (pc := 46) (n := 1) (c := 12) [_] d_X12_bale_46 c_X12_187 k_X12_refused ⟨rfl, rfl⟩ (tt_139 b) rfl (Nat.le_of_ble_eq_true rfl) ⟨Nat.le_of_ble_eq_true rfl, Nat.le_of_ble_eq_true rfl⟩ ⟨Nat.le_refl _, Nat.le_refl _⟩ (ct_X12_refused ?_)
    exact V_retI (pc := 49) d_X12_bale_49 rfl ⟨Nat.le_refl _, Nat.le_refl _⟩ (h1 (by
                        rintro ⟨f, t, m, p, gf, gt, gm, gp, ef, et, em, ep, d0, d1⟩
                        try subst ef
                        try subst et
                        try subst em
                        try subst ep
                        simp (disch := omega) only [nI_toInt, nI_eq] at *
                        omega))
  · replace c5 := zt c5
    refine V_aload_n (pc := 8) d_X12_bale_8 rfl ?_
    refine V_iload_n (pc := 9) d_X12_bale_9 rfl ?_
    refine V_cvI (pc := 10) (n := 2) (c := 12) [_] d_X12_bale_10 c_X12_229 k_X12_isLanding ⟨rfl, rfl⟩ (tt_139 b) rfl (Nat.le_of_ble_eq_true rfl) ⟨Nat.le_of_ble_eq_true rfl, Nat.le_of_ble_eq_true rfl⟩ ⟨Nat.le_refl _, Nat.le_refl _⟩ (ct_X12_isLanding vns (by omega) ?_)
    refine V_if_eq (pc := 13) 44 d_X12_bale_13 (by decide) (fun c13 => ?_) (fun c13 => ?_)
    · replace c13 := zf c13
      refine V_aload_n (pc := 44) d_X12_bale_44 rfl ?_
      refine V_iconst (pc := 45) (1) d_X12_bale_45 (by decide) ?_
      refine V_cvI (pc := 46) (n := 1) (c := 12) [_] d_X12_bale_46 c_X12_187 k_X12_refused ⟨rfl, rfl⟩ (tt_139 b) rfl (Nat.le_of_ble_eq_true rfl) ⟨Nat.le_of_ble_eq_true rfl, Nat.le_of_ble_eq_true rfl⟩ ⟨Nat.le_refl _, Nat.le_refl _⟩ (ct_X12_refused ?_)
      exact V_retI (pc := 49) d_X12_bale_49 rfl ⟨Nat.le_refl _, Nat.le_refl _⟩ (h1 (by
                        rintro ⟨f, t, m, p, gf, gt, gm, gp, ef, et, em, ep, d0, d1⟩
                        try subst ef
                        try subst et
                        try subst em
                        try subst ep
                        simp (disch := omega) only [nI_toInt, nI_eq] at *
                        omega))
    · replace c13 := zt c13
      refine V_iload_n (pc := 16) d_X12_bale_16 rfl ?_
      refine V_iload_n (pc := 17) d_X12_bale_17 rfl ?_
      refine V_icmp_eq (pc := 18) 44 d_X12_bale_18 (by decide) (fun c18 => ?_) (fun c18 => ?_)
      · refine V_aload_n (pc := 44) d_X12_bale_44 rfl ?_
        refine V_iconst (pc := 45) (1) d_X12_bale_45 (by decide) ?_
        refine V_cvI (pc := 46) (n := 1) (c := 12) [_] d_X12_bale_46 c_X12_187 k_X12_refused ⟨rfl, rfl⟩ (tt_139 b) rfl (Nat.le_of_ble_eq_true rfl) ⟨Nat.le_of_ble_eq_true rfl, Nat.le_of_ble_eq_true rfl⟩ ⟨Nat.le_refl _, Nat.le_refl _⟩ (ct_X12_refused ?_)
        exact V_retI (pc := 49) d_X12_bale_49 rfl ⟨Nat.le_refl _, Nat.le_refl _⟩ (h1 (by
                        rintro ⟨f, t, m, p, gf, gt, gm, gp, ef, et, em, ep, d0, d1⟩
                        try subst ef
                        try subst et
                        try subst em
                        try subst ep
                        simp (disch := omega) only [nI_toInt, nI_eq] at *
                        omega))
      · refine V_iload_n (pc := 21) d_X12_bale_21 rfl ?_
        refine V_iconst (pc := 22) (1) d_X12_bale_22 (by decide) ?_
        refine V_sipush (pc := 23) (nI 200) d_X12_bale_23 (by decide) ?_
        refine V_csI (pc := 26) (n := 1) [_, _, _] d_X12_bale_26 c_X12_174 k_X12_in rfl (Nat.le_of_ble_eq_true rfl) ⟨Nat.le_of_ble_eq_true rfl, Nat.le_of_ble_eq_true rfl⟩ ⟨Nat.le_refl _, Nat.le_refl _⟩ (ct_X12_in (lo := 1) (hi := 200) (by decide) (by decide) ?_)
        refine V_if_eq (pc := 29) 44 d_X12_bale_29 (by decide) (fun c29 => ?_) (fun c29 => ?_)
        · replace c29 := zf c29
          refine V_aload_n (pc := 44) d_X12_bale_44 rfl ?_
          refine V_iconst (pc := 45) (1) d_X12_bale_45 (by decide) ?_
          refine V_cvI (pc := 46) (n := 1) (c := 12) [_] d_X12_bale_46 c_X12_187 k_X12_refused ⟨rfl, rfl⟩ (tt_139 b) rfl (Nat.le_of_ble_eq_true rfl) ⟨Nat.le_of_ble_eq_true rfl, Nat.le_of_ble_eq_true rfl⟩ ⟨Nat.le_refl _, Nat.le_refl _⟩ (ct_X12_refused ?_)
          exact V_retI (pc := 49) d_X12_bale_49 rfl ⟨Nat.le_refl _, Nat.le_refl _⟩ (h1 (by
                        rintro ⟨f, t, m, p, gf, gt, gm, gp, ef, et, em, ep, d0, d1⟩
                        try subst ef
                        try subst et
                        try subst em
                        try subst ep
                        simp (disch := omega) only [nI_toInt, nI_eq] at *
                        omega))
        · replace c29 := zt c29
          refine V_iload (pc := 32) d_X12_bale_32 rfl ?_
          refine V_iconst (pc := 34) (0) d_X12_bale_34 (by decide) ?_
          refine V_sipush (pc := 35) (nI 999) d_X12_bale_35 (by decide) ?_
          refine V_csI (pc := 38) (n := 1) [_, _, _] d_X12_bale_38 c_X12_174 k_X12_in rfl (Nat.le_of_ble_eq_true rfl) ⟨Nat.le_of_ble_eq_true rfl, Nat.le_of_ble_eq_true rfl⟩ ⟨Nat.le_refl _, Nat.le_refl _⟩ (ct_X12_in (lo := 0) (hi := 999) (by decide) (by decide) ?_)
          refine V_if_ne (pc := 41) 50 d_X12_bale_41 (by decide) (fun c41 => ?_) (fun c41 => ?_)
          · replace c41 := zt c41
            obtain ⟨f, hf, rfl, -⟩ := nat_of (n := ns + 1) (x := x) (by omega) (by omega) (by omega)
            obtain ⟨t, ht, rfl, -⟩ := nat_of (n := ns + 1) (x := y) (by omega) (by omega) (by omega)
            obtain ⟨m, hm, rfl, -⟩ := nat_of (n := 201) (x := z) (by omega) (by omega) (by omega)
            obtain ⟨p, hp, rfl, -⟩ := nat_of (n := 1000) (x := w) (by omega) (by omega) (by omega)
            simp (disch := omega) only [nI_toInt, nI_eq] at c5 c13 c18 c29 c41
            refine V_aload_n (pc := 50) d_X12_bale_50 rfl ?_
            refine P_getI (pc := 51) d_X12_bale_51 f_X12_181 (tt_139 b) ?_
            rw [vnl]
            refine V_bipush (pc := 54) (nI 12) d_X12_bale_54 (by decide) ?_
            refine V_icmp_ne (pc := 56) 65 d_X12_bale_56 (by decide) (fun c56 => ?_) (fun c56 => ?_)
            · simp (disch := omega) only [nI_eq] at c56
              refine V_aload_n (pc := 65) d_X12_bale_65 rfl ?_
              refine P_getR (pc := 66) d_X12_bale_66 f_X12_71 (tt_139 b) (rr_139_25 b) ?_
              refine V_aload_n (pc := 69) d_X12_bale_69 rfl ?_
              refine P_getI (pc := 70) d_X12_bale_70 f_X12_181 (tt_139 b) ?_
              rw [vnl]
              refine V_iload_n (pc := 73) d_X12_bale_73 rfl ?_
              refine P_iast (pc := 74) (nl) d_X12_bale_74 (tt_160 b) rfl (ln_of (ll_160 b) ⟨by omega, by decide⟩) ?_
              refine V_aload_n (pc := 75) d_X12_bale_75 rfl ?_
              refine P_getR (pc := 76) d_X12_bale_76 f_X12_74 (tt_139 b) (rr_139_26 b) ?_
              refine V_aload_n (pc := 79) d_X12_bale_79 rfl ?_
              refine P_getI (pc := 80) d_X12_bale_80 f_X12_181 (tt_139 b) ?_
              simp (disch := omega) only [up2_n, up2_e]
              rw [vnl]
              refine V_iload_n (pc := 83) d_X12_bale_83 rfl ?_
              refine P_iast (pc := 84) (nl) d_X12_bale_84 (tt_161 b) rfl (ln_of (ll_161 b) ⟨by omega, by decide⟩) ?_
              refine V_aload_n (pc := 85) d_X12_bale_85 rfl ?_
              refine P_getR (pc := 86) d_X12_bale_86 f_X12_77 (tt_139 b) (rr_139_27 b) ?_
              refine V_aload_n (pc := 89) d_X12_bale_89 rfl ?_
              refine P_getI (pc := 90) d_X12_bale_90 f_X12_181 (tt_139 b) ?_
              simp (disch := omega) only [up2_n, up2_e]
              rw [vnl]
              refine V_iload (pc := 93) d_X12_bale_93 rfl ?_
              refine P_iast (pc := 95) (nl) d_X12_bale_95 (tt_162 b) rfl (ln_of (ll_162 b) ⟨by omega, by decide⟩) ?_
              refine V_aload_n (pc := 96) d_X12_bale_96 rfl ?_
              refine P_getR (pc := 97) d_X12_bale_97 f_X12_80 (tt_139 b) (rr_139_28 b) ?_
              refine V_aload_n (pc := 100) d_X12_bale_100 rfl ?_
              refine P_getI (pc := 101) d_X12_bale_101 f_X12_181 (tt_139 b) ?_
              simp (disch := omega) only [up2_n, up2_e]
              rw [vnl]
              refine V_iconst (pc := 104) (0) d_X12_bale_104 (by decide) ?_
              refine P_iast (pc := 105) (nl) d_X12_bale_105 (tt_163 b) rfl (ln_of (ll_163 b) ⟨by omega, by decide⟩) ?_
              refine V_aload_n (pc := 106) d_X12_bale_106 rfl ?_
              refine P_getR (pc := 107) d_X12_bale_107 f_X12_83 (tt_139 b) (rr_139_29 b) ?_
              refine V_aload_n (pc := 110) d_X12_bale_110 rfl ?_
              refine P_getI (pc := 111) d_X12_bale_111 f_X12_181 (tt_139 b) ?_
              simp (disch := omega) only [up2_n, up2_e]
              rw [vnl]
              refine V_iload_n (pc := 114) d_X12_bale_114 rfl ?_
              refine P_iast (pc := 115) (nl) d_X12_bale_115 (tt_164 b) rfl (ln_of (ll_164 b) ⟨by omega, by decide⟩) ?_
              refine V_aload_n (pc := 116) d_X12_bale_116 rfl ?_
              refine V_dup (pc := 117) d_X12_bale_117 rfl ?_
              refine P_getI (pc := 118) d_X12_bale_118 f_X12_181 (tt_139 b) ?_
              simp (disch := omega) only [up2_n, up2_e]
              rw [vnl]
              refine V_iconst (pc := 121) (1) d_X12_bale_121 (by decide) ?_
              refine V_iadd (pc := 122) d_X12_bale_122 ?_
              refine P_putI (pc := 123) d_X12_bale_123 f_X12_181 (tt_139 b) ?_
              refine V_aload_n (pc := 126) d_X12_bale_126 rfl ?_
              refine V_aload_n (pc := 127) d_X12_bale_127 rfl ?_
              refine P_getI (pc := 128) d_X12_bale_128 f_X12_181 (tt_139 b) ?_
              simp (disch := omega) only [up2_n, up2_e]
              refine V_iconst (pc := 131) (1) d_X12_bale_131 (by decide) ?_
              refine V_isub (pc := 132) d_X12_bale_132 ?_
              rw [show nI nl + 1 - 1 = nI nl from by rw [nI_1, nI_pred]]
              refine V_cvI (pc := 133) (n := 1) (c := 12) [_] d_X12_bale_133 c_X12_191 k_X12_done ⟨rfl, rfl⟩ (tt_139 b) rfl (Nat.le_of_ble_eq_true rfl) ⟨Nat.le_of_ble_eq_true rfl, Nat.le_of_ble_eq_true rfl⟩ ⟨Nat.le_refl _, Nat.le_refl _⟩ (ct_X12_done ?_)
              exact V_retI (pc := 136) d_X12_bale_136 rfl ⟨Nat.le_refl _, Nat.le_refl _⟩ (h2 f t m p hf ht hm hp rfl rfl rfl rfl (by omega) (by omega) (by omega))
            · simp (disch := omega) only [nI_eq] at c56
              refine V_aload_n (pc := 59) d_X12_bale_59 rfl ?_
              refine V_iconst (pc := 60) (nI 2) d_X12_bale_60 (by decide) ?_
              refine V_cvI (pc := 61) (n := 1) (c := 12) [_] d_X12_bale_61 c_X12_187 k_X12_refused ⟨rfl, rfl⟩ (tt_139 b) rfl (Nat.le_of_ble_eq_true rfl) ⟨Nat.le_of_ble_eq_true rfl, Nat.le_of_ble_eq_true rfl⟩ ⟨Nat.le_refl _, Nat.le_refl _⟩ (ct_X12_refused ?_)
              exact V_retI (pc := 64) d_X12_bale_64 rfl ⟨Nat.le_refl _, Nat.le_refl _⟩ (h4 f t m p hf ht hm hp rfl rfl rfl rfl (by omega) (by omega) (by omega))
          · replace c41 := zf c41
            refine V_aload_n (pc := 44) d_X12_bale_44 rfl ?_
            refine V_iconst (pc := 45) (1) d_X12_bale_45 (by decide) ?_
            refine V_cvI (pc := 46) (n := 1) (c := 12) [_] d_X12_bale_46 c_X12_187 k_X12_refused ⟨rfl, rfl⟩ (tt_139 b) rfl (Nat.le_of_ble_eq_true rfl) ⟨Nat.le_of_ble_eq_true rfl, Nat.le_of_ble_eq_true rfl⟩ ⟨Nat.le_refl _, Nat.le_refl _⟩ (ct_X12_refused ?_)
            exact V_retI (pc := 49) d_X12_bale_49 rfl ⟨Nat.le_refl _, Nat.le_refl _⟩ (h1 (by
                        rintro ⟨f, t, m, p, gf, gt, gm, gp, ef, et, em, ep, d0, d1⟩
                        try subst ef
                        try subst et
                        try subst em
                        try subst ep
                        simp (disch := omega) only [nI_toInt, nI_eq] at *
                        omega))
theorem pr_bale {x y z w : Int32}  (h : Rel σ b)  : PR G mX11_bale mX12_bale 4 3 [.int x, .int y, .int z, .int w] σ b := by
  have h0 := h
  obtain ⟨q, ns, nb, nl, nt, nr, hR, hX, hP, hQ, hK⟩ := h
  have hbd := hR.1.1
  refine ct_X11_bale hR  (fun hv => ?_) (fun f t m p hf ht hm hp ef et em ep d0 d1 hv => ?_) (fun f t m p hf ht hm hp ef et em ep d0 d1 hv => ?_)
  · exact ⟨rfl, ct_X12_bale (RR_lo hR (fun a i _ _ => by simp (disch := omega) only [up2_n, filr_n, film_n]))  (fun _ => ⟨rfl, _, rfl, rel_ref h0⟩) (fun f t m p hf ht hm hp ef et em ep d0 d1 _ => absurd ⟨f, t, m, p, hf, ht, hm, hp, ef, et, em, ep, d0, d1⟩ hv) (fun f t m p hf ht hm hp ef et em ep d0 d1 _ => absurd ⟨f, t, m, p, hf, ht, hm, hp, ef, et, em, ep, d0, d1⟩ hv)⟩
  · refine ⟨rfl, ct_X12_bale (RR_lo hR (fun a i _ _ => by simp (disch := omega) only [up2_n, filr_n, film_n]))  (fun hv => absurd ⟨f, t, m, p, hf, ht, hm, hp, ef, et, em, ep, d0, d1⟩ hv) (fun f' t' m' p' hf' ht' hm' hp' ef' et' em' ep' d0' d1' hv' => ?_) (fun f' t' m' p' hf' ht' hm' hp' ef' et' em' ep' d0' d1' hv' => ?_)⟩
    · obtain rfl : f' = f := (nI_eq (by omega) (by omega)).mp (ef'.symm.trans ef)
      obtain rfl : t' = t := (nI_eq (by omega) (by omega)).mp (et'.symm.trans et)
      obtain rfl : m' = m := (nI_eq (by omega) (by omega)).mp (em'.symm.trans em)
      obtain rfl : p' = p := (nI_eq (by omega) (by omega)).mp (ep'.symm.trans ep)
      exact ⟨rfl, _, rfl, rel_ref h0⟩
    · obtain rfl : f' = f := (nI_eq (by omega) (by omega)).mp (ef'.symm.trans ef)
      obtain rfl : t' = t := (nI_eq (by omega) (by omega)).mp (et'.symm.trans et)
      obtain rfl : m' = m := (nI_eq (by omega) (by omega)).mp (em'.symm.trans em)
      obtain rfl : p' = p := (nI_eq (by omega) (by omega)).mp (ep'.symm.trans ep)
      try simp (disch := omega) only [up2_n, filr_n, film_n] at hv'
      first | exact absurd hv hv' | exact absurd hv' hv | (exfalso; omega)
  · refine ⟨rfl, ct_X12_bale (RR_lo hR (fun a i _ _ => by simp (disch := omega) only [up2_n, filr_n, film_n]))  (fun hv => absurd ⟨f, t, m, p, hf, ht, hm, hp, ef, et, em, ep, d0, d1⟩ hv) (fun f' t' m' p' hf' ht' hm' hp' ef' et' em' ep' d0' d1' hv' => ?_) (fun f' t' m' p' hf' ht' hm' hp' ef' et' em' ep' d0' d1' hv' => ?_)⟩
    · obtain rfl : f' = f := (nI_eq (by omega) (by omega)).mp (ef'.symm.trans ef)
      obtain rfl : t' = t := (nI_eq (by omega) (by omega)).mp (et'.symm.trans et)
      obtain rfl : m' = m := (nI_eq (by omega) (by omega)).mp (em'.symm.trans em)
      obtain rfl : p' = p := (nI_eq (by omega) (by omega)).mp (ep'.symm.trans ep)
      try simp (disch := omega) only [up2_n, filr_n, film_n] at hv'
      first | exact absurd hv hv' | exact absurd hv' hv | (exfalso; omega)
    · obtain rfl : f' = f := (nI_eq (by omega) (by omega)).mp (ef'.symm.trans ef)
      obtain rfl : t' = t := (nI_eq (by omega) (by omega)).mp (et'.symm.trans et)
      obtain rfl : m' = m := (nI_eq (by omega) (by omega)).mp (em'.symm.trans em)
      obtain rfl : p' = p := (nI_eq (by omega) (by omega)).mp (ep'.symm.trans ep)
      obtain ⟨hcn, hH, hC, hS, hLD, hB, hA, hT, hU⟩ := id hR
      have hbd := hcn.1
      refine ⟨rfl, _, rfl, ?_⟩
      exact ⟨q, ns, nb, nl + 1, nt, nr, ⟨by
            obtain ⟨⟨c1, c2, c3, c4, c5, c6⟩, ⟨v1, v2, v3, v4, v5, v6⟩, ⟨r1, r2, r3, r4, r5, r6⟩, hp⟩ := hcn
            refine ⟨⟨by omega, by omega, by omega, by omega, by omega, by omega⟩, ⟨?_, ?_, ?_, ?_, ?_, ?_⟩, ⟨?_, ?_, ?_, ?_, ?_, ?_⟩, ?_⟩ <;> simp (disch := omega) only [up2_n, up2_e, filr_n, film_n, nI_1] <;> assumption, cH_cg hH (by simp (disch := omega) only [up2_n, filr_n, film_n]) (fun d _ => (by simp (disch := omega) only [up2_n, filr_n, film_n])) (fun d _ => ⟨(by simp (disch := omega) only [up2_n, filr_n, film_n]), (by simp (disch := omega) only [up2_n, filr_n, film_n])⟩), cC_cg hC (fun d _ => (by simp (disch := omega) only [up2_n, filr_n, film_n])) (fun d _ => (by simp (disch := omega) only [up2_n, filr_n, film_n])), cS_cg hS (fun k _ => ⟨fun j => (by simp (disch := omega) only [up2_n, filr_n, film_n]), fun d _ => (by simp (disch := omega) only [up2_n, filr_n, film_n])⟩) (fun k _ => ⟨(by simp (disch := omega) only [up2_n, filr_n, film_n]), (by simp (disch := omega) only [up2_n, filr_n, film_n]), (by simp (disch := omega) only [up2_n, filr_n, film_n]), (by simp (disch := omega) only [up2_n, filr_n, film_n])⟩) (fun i _ => ⟨(by simp (disch := omega) only [up2_n, filr_n, film_n]), (by simp (disch := omega) only [up2_n, filr_n, film_n])⟩), cL_cg hLD (fun l _ => ⟨(by simp (disch := omega) only [up2_n, filr_n, film_n]), fun k _ => ⟨(by simp (disch := omega) only [up2_n, filr_n, film_n]), (by simp (disch := omega) only [up2_n, filr_n, film_n])⟩⟩) (fun l _ => (by simp (disch := omega) only [up2_n, filr_n, film_n])) (fun m _ _ => ⟨(by simp (disch := omega) only [up2_n, filr_n, film_n]), (by simp (disch := omega) only [up2_n, filr_n, film_n])⟩), cB_nl hB (fun i _ => ⟨fun j => (by simp (disch := omega) only [up2_n, filr_n, film_n]), fun k _ => ⟨(by simp (disch := omega) only [up2_n, filr_n, film_n]), (by simp (disch := omega) only [up2_n, filr_n, film_n])⟩⟩) (fun i _ a _ _ => (by simp (disch := omega) only [up2_n, filr_n, film_n])) (fun m _ => ⟨(by simp (disch := omega) only [up2_n, filr_n, film_n]), (by simp (disch := omega) only [up2_n, filr_n, film_n])⟩) (fun i _ => by
            rw [aboS_s, aboS_cg (V := σ) (fun j _ => ⟨(by simp (disch := omega) only [up2_n, filr_n, film_n]), (by simp (disch := omega) only [up2_n, filr_n, film_n]), (by simp (disch := omega) only [up2_n, filr_n, film_n])⟩)]
            simp (disch := omega) only [up2_n, up2_e, filr_n, film_n]
            rw [if_neg (fun q => absurd q.1 (by decide)), Int32.add_zero]), by
            intro e he
            by_cases z : e = nl
            · subst z
              refine ⟨⟨?_, ?_, ?_, ?_, ?_⟩, ⟨t', ht, ?_⟩, ⟨m', d1, by omega, ?_⟩, ⟨p', hp, ?_⟩, Or.inl ⟨?_, ⟨f', hf, ?_⟩, ?_⟩⟩ <;> simp (disch := omega) only [up2_n, up2_e, filr_n, film_n]
              rw [ne_eq, nI_eq (by omega) (by omega)]; exact d0
            · have := hA e (by omega)
              simp (disch := omega) only [up2_n, up2_e, filr_n, film_n]
              exact this, cT_cg hT (fun j _ i => (by simp (disch := omega) only [up2_n, filr_n, film_n])) (fun j _ a _ _ => (by simp (disch := omega) only [up2_n, filr_n, film_n])), cU_cg hU (fun j _ i => (by simp (disch := omega) only [up2_n, filr_n, film_n])) (fun j _ a _ _ => (by simp (disch := omega) only [up2_n, filr_n, film_n]))⟩, cX_cg hX (by simp [up2]) ⟨(by simp (disch := omega) only [up2_n, filr_n, film_n]), (by simp (disch := omega) only [up2_n, filr_n, film_n])⟩, cP_cg hP ⟨(by simp (disch := omega) only [up2_n, filr_n, film_n]), (by simp (disch := omega) only [up2_n, filr_n, film_n])⟩ (fun j _ => ⟨(by simp (disch := omega) only [up2_n, filr_n, film_n]), (by simp (disch := omega) only [up2_n, filr_n, film_n])⟩), cQ_cg hQ (fun a i _ => (by simp (disch := omega) only [up2_n, filr_n, film_n])), cK_cg hK (by simp (disch := omega) only [up2_n, filr_n, film_n]) (fun a i _ => (by simp (disch := omega) only [up2_n, filr_n, film_n])) (fun a i _ => (by simp (disch := omega) only [up2_n, filr_n, film_n])) (by omega) (by omega) (by omega) (by omega) (by omega)⟩
end HC
