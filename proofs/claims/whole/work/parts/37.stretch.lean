section CG4
variable {σ σ' V V' : Sg} {r ns nb nl nt nr q : Nat}
theorem rg_mono {x : Int32} {n m : Nat} (h : rg x n) (hm : n ≤ m) : rg x m := by
  obtain ⟨k, hk, e⟩ := h
  exact ⟨k, by omega, e⟩
theorem cW_mono {w p m : Nat} (h : cW σ w p V m ns) : cW σ w p V m (ns + 1) := by
  intro k hk
  obtain ⟨h1, h2⟩ := h k hk
  refine ⟨h1, ?_⟩
  rcases h2 with z | ⟨z1, z2⟩
  · exact Or.inl z
  · exact Or.inr ⟨by omega, z2⟩
theorem cL_mono (h : cL σ r V ns) : cL σ r V (ns + 1) := by
  intro l hl
  obtain ⟨h1, h2, h3, h4⟩ := h l hl
  exact ⟨h1, h2, cW_mono h3, fun q => h4 (by omega)⟩
theorem cB_mono (h : cB σ r V ns nb nl) : cB σ r V (ns + 1) nb nl := by
  intro i hi
  obtain ⟨h1, h2, h3, h4, h5, h6⟩ := h i hi
  refine ⟨h1, h2, h3, h4, ?_, cW_mono h6⟩
  rcases h5 with ⟨z1, z2, z3⟩ | ⟨z1, z2, z3⟩ | ⟨z1, z2, z3, z4, z5⟩
  · exact Or.inl ⟨z1, rg_mono z2 (by omega), z3⟩
  · exact Or.inr (Or.inl ⟨z1, rg_mono z2 (by omega), z3⟩)
  · exact Or.inr (Or.inr ⟨z1, rg_mono z2 (by omega), z3, rg_mono z4 (by omega), z5⟩)
theorem cA_mono (h : cA σ r V ns nb nl) : cA σ r V (ns + 1) nb nl := by
  intro j hj
  obtain ⟨h1, h2, h3, h4, h5⟩ := h j hj
  refine ⟨h1, rg_mono h2 (by omega), h3, h4, ?_⟩
  rcases h5 with ⟨z1, z2, z3⟩ | z | ⟨z1, z2⟩ | z
  · exact Or.inl ⟨z1, rg_mono z2 (by omega), z3⟩
  · exact Or.inr (Or.inl z)
  · exact Or.inr (Or.inr (Or.inl ⟨z1, rg_mono z2 (by omega)⟩))
  · exact Or.inr (Or.inr (Or.inr z))
theorem cT_mono (h : cT σ r V ns nt) : cT σ r V (ns + 1) nt := by
  intro j hj
  obtain ⟨h1, h2, h3, h4⟩ := h j hj
  exact ⟨h1, rg_mono h2 (by omega), rg_mono h3 (by omega), h4⟩
theorem idx_eq {V : Sg} {a i j : Nat} {x : Int32} (h : V a i = x) (e : j = i) : V a j = x := by rw [e]; exact h
end CG4
section HC
variable {G : Gl} {R : Room} {F : Fn} {K : Int32 → Hp → Prop} {KV : Hp → Prop} {σ : Nat → Nat → Int32} {b : Bool}
theorem ct_X11_stretch {x y z : Int32} {q ns nb nl nt nr : Nat} (hR : RR σ 4 σ q ns nb nl nt nr) (h1 : ¬ (∃ k l d, k < 6 ∧ l < 21 ∧ d < 100 ∧ x = nI k ∧ y = nI l ∧ z = nI d ∧ 1 ≤ l) → K (-1) (up2 σ 3 3 1, sh b)) (h4 : ∀ (k l d : Nat), k < 6 → l < 21 → d < 100 → x = nI k → y = nI l → z = nI d → 1 ≤ l → ns = 10 → K (-1) (up2 σ 3 3 (nI 2), sh b)) (h2 : ∀ (k l d : Nat), k < 6 → l < 21 → d < 100 → x = nI k → y = nI l → z = nI d → 1 ≤ l → ns < 10 → K (nI ns) (up2 (filr (up2 (up2 (up2 (up2 (up2 (up2 σ 4 1 (nI ns + 1)) (13 + 2 * ns) 0 (nI ns)) (13 + 2 * ns) 1 (nI k)) (13 + 2 * ns) 2 (nI l)) (13 + 2 * ns) 3 (nI d)) (13 + 2 * ns) 4 0) (14 + 2 * ns) 0 100 (-1000)) 3 3 0, sh b)) : CM G mX11_stretch (rl 3) [.ref 3, .int x, .int y, .int z] (σ, sh b) (QI K) := by
  obtain ⟨⟨⟨hq2, hn10, hnb, hnl, hnt, hnr⟩, ⟨vq, vns, vnb, vnl, vnt, vnr⟩, ⟨rq, rns, rnb, rnl, rnt, rnr⟩, hpd⟩, hH, hC, hS, hLD, hB, hA, hT, hU⟩ := hR
  refine CM.of (by decide) (Nat.le_of_ble_eq_true rfl) (cats1 rfl) ?_
  refine V_iload_n (pc := 0) d_X11_stretch_0 rfl ?_
  refine V_iconst (pc := 1) (0) d_X11_stretch_1 (by decide) ?_
  refine V_iconst (pc := 2) (nI 5) d_X11_stretch_2 (by decide) ?_
  refine V_csI (pc := 3) (n := 1) [_, _, _] d_X11_stretch_3 c_X11_51 k_X11_isWithin rfl (Nat.le_of_ble_eq_true rfl) ⟨Nat.le_of_ble_eq_true rfl, Nat.le_of_ble_eq_true rfl⟩ ⟨Nat.le_refl _, Nat.le_refl _⟩ (ct_X11_isWithin (lo := 0) (hi := 5) (by decide) (by decide) ?_)
  refine V_if_eq (pc := 6) 29 d_X11_stretch_6 (by decide) (fun c6 => ?_) (fun c6 => ?_)
  · replace c6 := zf c6
    refine V_aload_n (pc := 29) d_X11_stretch_29 rfl ?_
    refine V_iconst (pc := 30) (1) d_X11_stretch_30 (by decide) ?_
    refine V_cvI (pc := 31) (n := 1) (c := 11) [_] d_X11_stretch_31 c_X11_55 k_X11_refused ⟨rfl, rfl⟩ (tt_3 b) rfl (Nat.le_of_ble_eq_true rfl) ⟨Nat.le_of_ble_eq_true rfl, Nat.le_of_ble_eq_true rfl⟩ ⟨Nat.le_refl _, Nat.le_refl _⟩ (ct_X11_refused ?_)
    exact V_retI (pc := 34) d_X11_stretch_34 rfl ⟨Nat.le_refl _, Nat.le_refl _⟩ (h1 (by
                        rintro ⟨k, l, d, gk, gl, gd, ek, el, ed, d0⟩
                        try subst ek
                        try subst el
                        try subst ed
                        simp (disch := omega) only [nI_toInt, nI_eq] at *
                        omega))
  · replace c6 := zt c6
    refine V_iload_n (pc := 9) d_X11_stretch_9 rfl ?_
    refine V_iconst (pc := 10) (1) d_X11_stretch_10 (by decide) ?_
    refine V_bipush (pc := 11) (nI 20) d_X11_stretch_11 (by decide) ?_
    refine V_csI (pc := 13) (n := 1) [_, _, _] d_X11_stretch_13 c_X11_51 k_X11_isWithin rfl (Nat.le_of_ble_eq_true rfl) ⟨Nat.le_of_ble_eq_true rfl, Nat.le_of_ble_eq_true rfl⟩ ⟨Nat.le_refl _, Nat.le_refl _⟩ (ct_X11_isWithin (lo := 1) (hi := 20) (by decide) (by decide) ?_)
    refine V_if_eq (pc := 16) 29 d_X11_stretch_16 (by decide) (fun c16 => ?_) (fun c16 => ?_)
    · replace c16 := zf c16
      refine V_aload_n (pc := 29) d_X11_stretch_29 rfl ?_
      refine V_iconst (pc := 30) (1) d_X11_stretch_30 (by decide) ?_
      refine V_cvI (pc := 31) (n := 1) (c := 11) [_] d_X11_stretch_31 c_X11_55 k_X11_refused ⟨rfl, rfl⟩ (tt_3 b) rfl (Nat.le_of_ble_eq_true rfl) ⟨Nat.le_of_ble_eq_true rfl, Nat.le_of_ble_eq_true rfl⟩ ⟨Nat.le_refl _, Nat.le_refl _⟩ (ct_X11_refused ?_)
      exact V_retI (pc := 34) d_X11_stretch_34 rfl ⟨Nat.le_refl _, Nat.le_refl _⟩ (h1 (by
                        rintro ⟨k, l, d, gk, gl, gd, ek, el, ed, d0⟩
                        try subst ek
                        try subst el
                        try subst ed
                        simp (disch := omega) only [nI_toInt, nI_eq] at *
                        omega))
    · replace c16 := zt c16
      refine V_iload_n (pc := 19) d_X11_stretch_19 rfl ?_
      refine V_iconst (pc := 20) (0) d_X11_stretch_20 (by decide) ?_
      refine V_bipush (pc := 21) (nI 99) d_X11_stretch_21 (by decide) ?_
      refine V_csI (pc := 23) (n := 1) [_, _, _] d_X11_stretch_23 c_X11_51 k_X11_isWithin rfl (Nat.le_of_ble_eq_true rfl) ⟨Nat.le_of_ble_eq_true rfl, Nat.le_of_ble_eq_true rfl⟩ ⟨Nat.le_refl _, Nat.le_refl _⟩ (ct_X11_isWithin (lo := 0) (hi := 99) (by decide) (by decide) ?_)
      refine V_if_ne (pc := 26) 35 d_X11_stretch_26 (by decide) (fun c26 => ?_) (fun c26 => ?_)
      · replace c26 := zt c26
        obtain ⟨k, hk, rfl, -⟩ := nat_of (n := 6) (x := x) (by omega) (by omega) (by omega)
        obtain ⟨l, hl, rfl, -⟩ := nat_of (n := 21) (x := y) (by omega) (by omega) (by omega)
        obtain ⟨d, hd, rfl, -⟩ := nat_of (n := 100) (x := z) (by omega) (by omega) (by omega)
        simp (disch := omega) only [nI_toInt, nI_eq] at c6 c16 c26
        refine V_aload_n (pc := 35) d_X11_stretch_35 rfl ?_
        refine P_getR (pc := 36) d_X11_stretch_36 f_X11_10 (tt_3 b) (rr_3_0 b) ?_
        refine P_getI (pc := 39) d_X11_stretch_39 f_X11_59 (tt_4 b) ?_
        rw [rns]
        refine V_bipush (pc := 42) (nI 10) d_X11_stretch_42 (by decide) ?_
        refine B_icmp_lt (pc := 44) 53 d_X11_stretch_44 (by decide) (fun c44 => ?_) (fun c44 => ?_)
        · simp (disch := omega) only [show (nI 10).toInt = 10 from by decide, nI_toInt, ti0, ti1, tim1, tim20, tim1000] at c44
          refine V_aload_n (pc := 53) d_X11_stretch_53 rfl ?_
          refine P_getR (pc := 54) d_X11_stretch_54 f_X11_10 (tt_3 b) (rr_3_0 b) ?_
          refine V_dup (pc := 57) d_X11_stretch_57 rfl ?_
          refine P_getI (pc := 58) d_X11_stretch_58 f_X11_59 (tt_4 b) ?_
          rw [rns]
          refine V_dup_x1 (pc := 61) d_X11_stretch_61 rfl rfl ?_
          refine V_iconst (pc := 62) (1) d_X11_stretch_62 (by decide) ?_
          refine V_iadd (pc := 63) d_X11_stretch_63 ?_
          refine P_putI (pc := 64) d_X11_stretch_64 f_X11_59 (tt_4 b) ?_
          refine V_istore (pc := 67) d_X11_stretch_67 (by decide) ?_
          refine V_aload_n (pc := 69) d_X11_stretch_69 rfl ?_
          refine P_getR (pc := 70) d_X11_stretch_70 f_X11_10 (tt_3 b) (rr_3_0 b) ?_
          refine P_getR (pc := 73) d_X11_stretch_73 f_X11_62 (tt_4 b) (rr_4_10 b) ?_
          refine V_iload (pc := 76) d_X11_stretch_76 rfl ?_
          refine P_aald (pc := 78) (c := 7) (ns) d_X11_stretch_78 (tt_7 b) (by decide) rfl (ln_of (ll_7 b) ⟨by omega, by decide⟩) (rS b (by omega)) ?_
          refine V_iload (pc := 79) d_X11_stretch_79 rfl ?_
          refine V_iload_n (pc := 81) d_X11_stretch_81 rfl ?_
          refine V_iload_n (pc := 82) d_X11_stretch_82 rfl ?_
          refine V_iload_n (pc := 83) d_X11_stretch_83 rfl ?_
          refine V_cvV (pc := 84) (n := 2) (c := 7) [_, _, _, _] d_X11_stretch_84 c_X11_66 k_X7_begin ⟨rfl, rfl⟩ (tS b (by omega)) rfl (Nat.le_of_ble_eq_true rfl) ⟨Nat.le_of_ble_eq_true rfl, Nat.le_of_ble_eq_true rfl⟩ ⟨Nat.le_refl _, Nat.le_refl _⟩ (ct_X7_begin (tS b (by omega)) (rS5 b (by omega)) (tS5 b (by omega)) (lS5 b (by omega)) ?_)
          refine V_aload_n (pc := 87) d_X11_stretch_87 rfl ?_
          refine V_iload (pc := 88) d_X11_stretch_88 rfl ?_
          refine V_cvI (pc := 90) (n := 1) (c := 11) [_] d_X11_stretch_90 c_X11_72 k_X11_done ⟨rfl, rfl⟩ (tt_3 b) rfl (Nat.le_of_ble_eq_true rfl) ⟨Nat.le_of_ble_eq_true rfl, Nat.le_of_ble_eq_true rfl⟩ ⟨Nat.le_refl _, Nat.le_refl _⟩ (ct_X11_done ?_)
          exact V_retI (pc := 93) d_X11_stretch_93 rfl ⟨Nat.le_refl _, Nat.le_refl _⟩ (h2 k l d hk hl hd rfl rfl rfl (by omega) (by omega))
        · simp (disch := omega) only [show (nI 10).toInt = 10 from by decide, nI_toInt, ti0, ti1, tim1, tim20, tim1000] at c44
          refine V_aload_n (pc := 47) d_X11_stretch_47 rfl ?_
          refine V_iconst (pc := 48) (nI 2) d_X11_stretch_48 (by decide) ?_
          refine V_cvI (pc := 49) (n := 1) (c := 11) [_] d_X11_stretch_49 c_X11_55 k_X11_refused ⟨rfl, rfl⟩ (tt_3 b) rfl (Nat.le_of_ble_eq_true rfl) ⟨Nat.le_of_ble_eq_true rfl, Nat.le_of_ble_eq_true rfl⟩ ⟨Nat.le_refl _, Nat.le_refl _⟩ (ct_X11_refused ?_)
          exact V_retI (pc := 52) d_X11_stretch_52 rfl ⟨Nat.le_refl _, Nat.le_refl _⟩ (h4 k l d hk hl hd rfl rfl rfl (by omega) (by omega))
      · replace c26 := zf c26
        refine V_aload_n (pc := 29) d_X11_stretch_29 rfl ?_
        refine V_iconst (pc := 30) (1) d_X11_stretch_30 (by decide) ?_
        refine V_cvI (pc := 31) (n := 1) (c := 11) [_] d_X11_stretch_31 c_X11_55 k_X11_refused ⟨rfl, rfl⟩ (tt_3 b) rfl (Nat.le_of_ble_eq_true rfl) ⟨Nat.le_of_ble_eq_true rfl, Nat.le_of_ble_eq_true rfl⟩ ⟨Nat.le_refl _, Nat.le_refl _⟩ (ct_X11_refused ?_)
        exact V_retI (pc := 34) d_X11_stretch_34 rfl ⟨Nat.le_refl _, Nat.le_refl _⟩ (h1 (by
                        rintro ⟨k, l, d, gk, gl, gd, ek, el, ed, d0⟩
                        try subst ek
                        try subst el
                        try subst ed
                        simp (disch := omega) only [nI_toInt, nI_eq] at *
                        omega))
theorem lp_st1 {ns : Nat} {x y z : Int32} (hnb : ns < 10) (hE : V G mX12_stretch (rl 2) F 0 0 118 [some (.ref 139), some (.int x), some (.int y), some (.int z), some (.int (nI ns)), some (.int (nI 100))] [] (filr σ 145 (100 * ns) 100 0, sh b)) : ∀ n, n ≤ 100 → ∀ j, j + n = 100 → V G mX12_stretch (rl 2) F 0 0 91 [some (.ref 139), some (.int x), some (.int y), some (.int z), some (.int (nI ns)), some (.int (nI j))] [] (filr σ 145 (100 * ns) j 0, sh b) := by
  intro n
  induction n with
  | zero =>
    intro hx j hj
    obtain rfl : j = 100 := by omega
    refine V_iload (pc := 91) d_X12_stretch_91 rfl ?_
    refine V_bipush (pc := 93) (nI 100) d_X12_stretch_93 (by decide) ?_
    refine B_icmp_ge (pc := 95) 118 d_X12_stretch_95 (by decide) (fun c95 => ?_) (fun c95 => ?_)
    · simp (disch := omega) only [show (nI 100).toInt = 100 from by decide, nI_toInt, ti0, ti1, tim1, tim20, tim1000] at c95
      exact hE
    · simp (disch := omega) only [show (nI 100).toInt = 100 from by decide, nI_toInt, ti0, ti1, tim1, tim20, tim1000] at c95
      all_goals omega
  | succ n ih =>
    intro hx j hj
    refine V_iload (pc := 91) d_X12_stretch_91 rfl ?_
    refine V_bipush (pc := 93) (nI 100) d_X12_stretch_93 (by decide) ?_
    refine B_icmp_ge (pc := 95) 118 d_X12_stretch_95 (by decide) (fun c95 => ?_) (fun c95 => ?_)
    · simp (disch := omega) only [show (nI 100).toInt = 100 from by decide, nI_toInt, ti0, ti1, tim1, tim20, tim1000] at c95
      all_goals omega
    · simp (disch := omega) only [show (nI 100).toInt = 100 from by decide, nI_toInt, ti0, ti1, tim1, tim20, tim1000] at c95
      refine V_aload_n (pc := 98) d_X12_stretch_98 rfl ?_
      refine P_getR (pc := 99) d_X12_stretch_99 f_X12_26 (tt_139 b) (rr_139_8 b) ?_
      refine V_bipush (pc := 102) (nI 100) d_X12_stretch_102 (by decide) ?_
      refine V_iload (pc := 104) d_X12_stretch_104 rfl ?_
      refine V_imul (pc := 106) d_X12_stretch_106 ?_
      refine V_iload (pc := 107) d_X12_stretch_107 rfl ?_
      refine V_iadd (pc := 109) d_X12_stretch_109 ?_
      refine V_iconst (pc := 110) (0) d_X12_stretch_110 (by decide) ?_
      refine P_zast (pc := 111) (((100 * ns) + j)) d_X12_stretch_111 (tt_145 b) (by simp only [nI_add, pk_mul, nI_1]) (ln_of (ll_145 b) ⟨by omega, by decide⟩) (Or.inl rfl) ?_
      refine V_iinc (pc := 112) d_X12_stretch_112 rfl (by decide) ?_
      refine V_goto (pc := 115) 91 d_X12_stretch_115 (by decide) ?_
      rw [p1_s, filr_s (by omega)]
      exact ih (by omega) (j + 1) (by omega)
theorem lp_st2 {ns : Nat} {x y z : Int32} (hnb : ns < 10) (hE : V G mX12_stretch (rl 2) F 0 0 148 [some (.ref 139), some (.int x), some (.int y), some (.int z), some (.int (nI ns)), some (.int (nI 16))] [] (film σ 158 ns 16 (-1), sh b)) : ∀ n, n ≤ 16 → ∀ j, j + n = 16 → V G mX12_stretch (rl 2) F 0 0 121 [some (.ref 139), some (.int x), some (.int y), some (.int z), some (.int (nI ns)), some (.int (nI j))] [] (film σ 158 ns j (-1), sh b) := by
  intro n
  induction n with
  | zero =>
    intro hx j hj
    obtain rfl : j = 16 := by omega
    refine V_iload (pc := 121) d_X12_stretch_121 rfl ?_
    refine V_bipush (pc := 123) (nI 16) d_X12_stretch_123 (by decide) ?_
    refine B_icmp_ge (pc := 125) 148 d_X12_stretch_125 (by decide) (fun c125 => ?_) (fun c125 => ?_)
    · simp (disch := omega) only [show (nI 16).toInt = 16 from by decide, nI_toInt, ti0, ti1, tim1, tim20, tim1000] at c125
      exact hE
    · simp (disch := omega) only [show (nI 16).toInt = 16 from by decide, nI_toInt, ti0, ti1, tim1, tim20, tim1000] at c125
      all_goals omega
  | succ n ih =>
    intro hx j hj
    refine V_iload (pc := 121) d_X12_stretch_121 rfl ?_
    refine V_bipush (pc := 123) (nI 16) d_X12_stretch_123 (by decide) ?_
    refine B_icmp_ge (pc := 125) 148 d_X12_stretch_125 (by decide) (fun c125 => ?_) (fun c125 => ?_)
    · simp (disch := omega) only [show (nI 16).toInt = 16 from by decide, nI_toInt, ti0, ti1, tim1, tim20, tim1000] at c125
      all_goals omega
    · simp (disch := omega) only [show (nI 16).toInt = 16 from by decide, nI_toInt, ti0, ti1, tim1, tim20, tim1000] at c125
      refine V_aload_n (pc := 128) d_X12_stretch_128 rfl ?_
      refine P_getR (pc := 129) d_X12_stretch_129 f_X12_65 (tt_139 b) (rr_139_22 b) ?_
      refine V_bipush (pc := 132) (nI 10) d_X12_stretch_132 (by decide) ?_
      refine V_iload (pc := 134) d_X12_stretch_134 rfl ?_
      refine V_imul (pc := 136) d_X12_stretch_136 ?_
      refine V_iload (pc := 137) d_X12_stretch_137 rfl ?_
      refine V_iadd (pc := 139) d_X12_stretch_139 ?_
      refine V_iconst (pc := 140) (-1) d_X12_stretch_140 (by decide) ?_
      refine P_iast (pc := 141) (((10 * j) + ns)) d_X12_stretch_141 (tt_158 b) (by simp only [nI_add, pk_mul, nI_1]) (ln_of (ll_158 b) ⟨by omega, by decide⟩) ?_
      refine V_iinc (pc := 142) d_X12_stretch_142 rfl (by decide) ?_
      refine V_goto (pc := 145) 121 d_X12_stretch_145 (by decide) ?_
      rw [p1_s, film_s (by omega) (by omega)]
      exact ih (by omega) (j + 1) (by omega)
theorem lp_st3 {ns : Nat} {x y z : Int32} (hnb : ns < 10) (hE : V G mX12_stretch (rl 2) F 0 0 182 [some (.ref 139), some (.int x), some (.int y), some (.int z), some (.int (nI ns)), some (.int (nI 10))] [] (filr σ 158 (10 * (5 + ns + 1)) 10 (-1), sh b)) : ∀ n, n ≤ 10 → ∀ j, j + n = 10 → V G mX12_stretch (rl 2) F 0 0 151 [some (.ref 139), some (.int x), some (.int y), some (.int z), some (.int (nI ns)), some (.int (nI j))] [] (filr σ 158 (10 * (5 + ns + 1)) j (-1), sh b) := by
  intro n
  induction n with
  | zero =>
    intro hx j hj
    obtain rfl : j = 10 := by omega
    refine V_iload (pc := 151) d_X12_stretch_151 rfl ?_
    refine V_bipush (pc := 153) (nI 10) d_X12_stretch_153 (by decide) ?_
    refine B_icmp_ge (pc := 155) 182 d_X12_stretch_155 (by decide) (fun c155 => ?_) (fun c155 => ?_)
    · simp (disch := omega) only [show (nI 10).toInt = 10 from by decide, nI_toInt, ti0, ti1, tim1, tim20, tim1000] at c155
      exact hE
    · simp (disch := omega) only [show (nI 10).toInt = 10 from by decide, nI_toInt, ti0, ti1, tim1, tim20, tim1000] at c155
      all_goals omega
  | succ n ih =>
    intro hx j hj
    refine V_iload (pc := 151) d_X12_stretch_151 rfl ?_
    refine V_bipush (pc := 153) (nI 10) d_X12_stretch_153 (by decide) ?_
    refine B_icmp_ge (pc := 155) 182 d_X12_stretch_155 (by decide) (fun c155 => ?_) (fun c155 => ?_)
    · simp (disch := omega) only [show (nI 10).toInt = 10 from by decide, nI_toInt, ti0, ti1, tim1, tim20, tim1000] at c155
      all_goals omega
    · simp (disch := omega) only [show (nI 10).toInt = 10 from by decide, nI_toInt, ti0, ti1, tim1, tim20, tim1000] at c155
      refine V_aload_n (pc := 158) d_X12_stretch_158 rfl ?_
      refine P_getR (pc := 159) d_X12_stretch_159 f_X12_65 (tt_139 b) (rr_139_22 b) ?_
      refine V_bipush (pc := 162) (nI 10) d_X12_stretch_162 (by decide) ?_
      refine V_iconst (pc := 164) (nI 5) d_X12_stretch_164 (by decide) ?_
      refine V_iload (pc := 165) d_X12_stretch_165 rfl ?_
      refine V_iadd (pc := 167) d_X12_stretch_167 ?_
      refine V_iconst (pc := 168) (1) d_X12_stretch_168 (by decide) ?_
      refine V_iadd (pc := 169) d_X12_stretch_169 ?_
      refine V_imul (pc := 170) d_X12_stretch_170 ?_
      refine V_iload (pc := 171) d_X12_stretch_171 rfl ?_
      refine V_iadd (pc := 173) d_X12_stretch_173 ?_
      refine V_iconst (pc := 174) (-1) d_X12_stretch_174 (by decide) ?_
      refine P_iast (pc := 175) (((10 * ((5 + ns) + 1)) + j)) d_X12_stretch_175 (tt_158 b) (by simp only [nI_add, pk_mul, nI_1]) (ln_of (ll_158 b) ⟨by omega, by decide⟩) ?_
      refine V_iinc (pc := 176) d_X12_stretch_176 rfl (by decide) ?_
      refine V_goto (pc := 179) 151 d_X12_stretch_179 (by decide) ?_
      rw [p1_s, filr_s (by omega)]
      exact ih (by omega) (j + 1) (by omega)
theorem ct_X12_stretch {x y z : Int32} {ρ : Sg} {q ns nb nl nt nr : Nat} (hR : RR ρ 4 σ q ns nb nl nt nr) (h1 : ¬ (∃ k l d, k < 6 ∧ l < 21 ∧ d < 100 ∧ x = nI k ∧ y = nI l ∧ z = nI d ∧ 1 ≤ l) → K (-1) (up2 σ 139 0 1, sh b)) (h4 : ∀ (k l d : Nat), k < 6 → l < 21 → d < 100 → x = nI k → y = nI l → z = nI d → 1 ≤ l → ns = 10 → K (-1) (up2 σ 139 0 (nI 2), sh b)) (h2 : ∀ (k l d : Nat), k < 6 → l < 21 → d < 100 → x = nI k → y = nI l → z = nI d → 1 ≤ l → ns < 10 → K (nI ns) (up2 (up2 (up2 (filr (film (filr (up2 (up2 (up2 (up2 σ 140 ns (nI k)) 141 ns (nI l)) 142 ns (nI d)) 143 ns 0) 145 (100 * ns) 100 0) 158 ns 16 (-1)) 158 (10 * (5 + ns + 1)) 10 (-1)) 159 (ns + 1) 0) 139 2 (nI ns + 1)) 139 0 0, sh b)) : CM G mX12_stretch (rl 2) [.ref 139, .int x, .int y, .int z] (σ, sh b) (QI K) := by
  obtain ⟨⟨⟨hq2, hn10, hnb, hnl, hnt, hnr⟩, ⟨vq, vns, vnb, vnl, vnt, vnr⟩, ⟨rq, rns, rnb, rnl, rnt, rnr⟩, hpd⟩, hH, hC, hS, hLD, hB, hA, hT, hU⟩ := hR
  refine CM.of (by decide) (Nat.le_of_ble_eq_true rfl) (cats1 rfl) ?_
  refine V_iload_n (pc := 0) d_X12_stretch_0 rfl ?_
  refine V_iconst (pc := 1) (0) d_X12_stretch_1 (by decide) ?_
  refine V_iconst (pc := 2) (nI 5) d_X12_stretch_2 (by decide) ?_
  refine V_csI (pc := 3) (n := 1) [_, _, _] d_X12_stretch_3 c_X12_174 k_X12_in rfl (Nat.le_of_ble_eq_true rfl) ⟨Nat.le_of_ble_eq_true rfl, Nat.le_of_ble_eq_true rfl⟩ ⟨Nat.le_refl _, Nat.le_refl _⟩ (ct_X12_in (lo := 0) (hi := 5) (by decide) (by decide) ?_)
  refine V_if_eq (pc := 6) 29 d_X12_stretch_6 (by decide) (fun c6 => ?_) (fun c6 => ?_)
  · replace c6 := zf c6
    refine V_aload_n (pc := 29) d_X12_stretch_29 rfl ?_
    refine V_iconst (pc := 30) (1) d_X12_stretch_30 (by decide) ?_
    refine V_cvI (pc := 31) (n := 1) (c := 12) [_] d_X12_stretch_31 c_X12_187 k_X12_refused ⟨rfl, rfl⟩ (tt_139 b) rfl (Nat.le_of_ble_eq_true rfl) ⟨Nat.le_of_ble_eq_true rfl, Nat.le_of_ble_eq_true rfl⟩ ⟨Nat.le_refl _, Nat.le_refl _⟩ (ct_X12_refused ?_)
    exact V_retI (pc := 34) d_X12_stretch_34 rfl ⟨Nat.le_refl _, Nat.le_refl _⟩ (h1 (by
                        rintro ⟨k, l, d, gk, gl, gd, ek, el, ed, d0⟩
                        try subst ek
                        try subst el
                        try subst ed
                        simp (disch := omega) only [nI_toInt, nI_eq] at *
                        omega))
  · replace c6 := zt c6
    refine V_iload_n (pc := 9) d_X12_stretch_9 rfl ?_
    refine V_iconst (pc := 10) (1) d_X12_stretch_10 (by decide) ?_
    refine V_bipush (pc := 11) (nI 20) d_X12_stretch_11 (by decide) ?_
    refine V_csI (pc := 13) (n := 1) [_, _, _] d_X12_stretch_13 c_X12_174 k_X12_in rfl (Nat.le_of_ble_eq_true rfl) ⟨Nat.le_of_ble_eq_true rfl, Nat.le_of_ble_eq_true rfl⟩ ⟨Nat.le_refl _, Nat.le_refl _⟩ (ct_X12_in (lo := 1) (hi := 20) (by decide) (by decide) ?_)
    refine V_if_eq (pc := 16) 29 d_X12_stretch_16 (by decide) (fun c16 => ?_) (fun c16 => ?_)
    · replace c16 := zf c16
      refine V_aload_n (pc := 29) d_X12_stretch_29 rfl ?_
      refine V_iconst (pc := 30) (1) d_X12_stretch_30 (by decide) ?_
      refine V_cvI (pc := 31) (n := 1) (c := 12) [_] d_X12_stretch_31 c_X12_187 k_X12_refused ⟨rfl, rfl⟩ (tt_139 b) rfl (Nat.le_of_ble_eq_true rfl) ⟨Nat.le_of_ble_eq_true rfl, Nat.le_of_ble_eq_true rfl⟩ ⟨Nat.le_refl _, Nat.le_refl _⟩ (ct_X12_refused ?_)
      exact V_retI (pc := 34) d_X12_stretch_34 rfl ⟨Nat.le_refl _, Nat.le_refl _⟩ (h1 (by
                        rintro ⟨k, l, d, gk, gl, gd, ek, el, ed, d0⟩
                        try subst ek
                        try subst el
                        try subst ed
                        simp (disch := omega) only [nI_toInt, nI_eq] at *
                        omega))
    · replace c16 := zt c16
      refine V_iload_n (pc := 19) d_X12_stretch_19 rfl ?_
      refine V_iconst (pc := 20) (0) d_X12_stretch_20 (by decide) ?_
      refine V_bipush (pc := 21) (nI 99) d_X12_stretch_21 (by decide) ?_
      refine V_csI (pc := 23) (n := 1) [_, _, _] d_X12_stretch_23 c_X12_174 k_X12_in rfl (Nat.le_of_ble_eq_true rfl) ⟨Nat.le_of_ble_eq_true rfl, Nat.le_of_ble_eq_true rfl⟩ ⟨Nat.le_refl _, Nat.le_refl _⟩ (ct_X12_in (lo := 0) (hi := 99) (by decide) (by decide) ?_)
      refine V_if_ne (pc := 26) 35 d_X12_stretch_26 (by decide) (fun c26 => ?_) (fun c26 => ?_)
      · replace c26 := zt c26
        obtain ⟨k, hk, rfl, -⟩ := nat_of (n := 6) (x := x) (by omega) (by omega) (by omega)
        obtain ⟨l, hl, rfl, -⟩ := nat_of (n := 21) (x := y) (by omega) (by omega) (by omega)
        obtain ⟨d, hd, rfl, -⟩ := nat_of (n := 100) (x := z) (by omega) (by omega) (by omega)
        simp (disch := omega) only [nI_toInt, nI_eq] at c6 c16 c26
        refine V_aload_n (pc := 35) d_X12_stretch_35 rfl ?_
        refine P_getI (pc := 36) d_X12_stretch_36 f_X12_171 (tt_139 b) ?_
        rw [vns]
        refine V_bipush (pc := 39) (nI 10) d_X12_stretch_39 (by decide) ?_
        refine V_icmp_ne (pc := 41) 50 d_X12_stretch_41 (by decide) (fun c41 => ?_) (fun c41 => ?_)
        · simp (disch := omega) only [nI_eq] at c41
          refine V_aload_n (pc := 50) d_X12_stretch_50 rfl ?_
          refine P_getI (pc := 51) d_X12_stretch_51 f_X12_171 (tt_139 b) ?_
          rw [vns]
          refine V_istore (pc := 54) d_X12_stretch_54 (by decide) ?_
          refine V_aload_n (pc := 56) d_X12_stretch_56 rfl ?_
          refine P_getR (pc := 57) d_X12_stretch_57 f_X12_7 (tt_139 b) (rr_139_3 b) ?_
          refine V_iload (pc := 60) d_X12_stretch_60 rfl ?_
          refine V_iload_n (pc := 62) d_X12_stretch_62 rfl ?_
          refine P_iast (pc := 63) (ns) d_X12_stretch_63 (tt_140 b) rfl (ln_of (ll_140 b) ⟨by omega, by decide⟩) ?_
          refine V_aload_n (pc := 64) d_X12_stretch_64 rfl ?_
          refine P_getR (pc := 65) d_X12_stretch_65 f_X12_13 (tt_139 b) (rr_139_4 b) ?_
          refine V_iload (pc := 68) d_X12_stretch_68 rfl ?_
          refine V_iload_n (pc := 70) d_X12_stretch_70 rfl ?_
          refine P_iast (pc := 71) (ns) d_X12_stretch_71 (tt_141 b) rfl (ln_of (ll_141 b) ⟨by omega, by decide⟩) ?_
          refine V_aload_n (pc := 72) d_X12_stretch_72 rfl ?_
          refine P_getR (pc := 73) d_X12_stretch_73 f_X12_16 (tt_139 b) (rr_139_5 b) ?_
          refine V_iload (pc := 76) d_X12_stretch_76 rfl ?_
          refine V_iload_n (pc := 78) d_X12_stretch_78 rfl ?_
          refine P_iast (pc := 79) (ns) d_X12_stretch_79 (tt_142 b) rfl (ln_of (ll_142 b) ⟨by omega, by decide⟩) ?_
          refine V_aload_n (pc := 80) d_X12_stretch_80 rfl ?_
          refine P_getR (pc := 81) d_X12_stretch_81 f_X12_19 (tt_139 b) (rr_139_6 b) ?_
          refine V_iload (pc := 84) d_X12_stretch_84 rfl ?_
          refine V_iconst (pc := 86) (0) d_X12_stretch_86 (by decide) ?_
          refine P_zast (pc := 87) (ns) d_X12_stretch_87 (tt_143 b) rfl (ln_of (ll_143 b) ⟨by omega, by decide⟩) (Or.inl rfl) ?_
          refine V_iconst (pc := 88) (0) d_X12_stretch_88 (by decide) ?_
          refine V_istore (pc := 89) d_X12_stretch_89 (by decide) ?_
          refine filr_go (lp_st1 (by omega) ?_ 100 (Nat.le_refl _) 0 (by omega))
          refine V_iconst (pc := 118) (0) d_X12_stretch_118 (by decide) ?_
          refine V_istore (pc := 119) d_X12_stretch_119 (by decide) ?_
          refine film_go (lp_st2 (by omega) ?_ 16 (Nat.le_refl _) 0 (by omega))
          refine V_iconst (pc := 148) (0) d_X12_stretch_148 (by decide) ?_
          refine V_istore (pc := 149) d_X12_stretch_149 (by decide) ?_
          refine filr_go (lp_st3 (by omega) ?_ 10 (Nat.le_refl _) 0 (by omega))
          refine V_aload_n (pc := 182) d_X12_stretch_182 rfl ?_
          refine P_getR (pc := 183) d_X12_stretch_183 f_X12_68 (tt_139 b) (rr_139_23 b) ?_
          refine V_iload (pc := 186) d_X12_stretch_186 rfl ?_
          refine V_iconst (pc := 188) (1) d_X12_stretch_188 (by decide) ?_
          refine V_iadd (pc := 189) d_X12_stretch_189 ?_
          refine V_iconst (pc := 190) (0) d_X12_stretch_190 (by decide) ?_
          refine P_iast (pc := 191) ((ns + 1)) d_X12_stretch_191 (tt_159 b) (by simp only [nI_add, pk_mul, nI_1]) (ln_of (ll_159 b) ⟨by omega, by decide⟩) ?_
          refine V_aload_n (pc := 192) d_X12_stretch_192 rfl ?_
          refine V_dup (pc := 193) d_X12_stretch_193 rfl ?_
          refine P_getI (pc := 194) d_X12_stretch_194 f_X12_171 (tt_139 b) ?_
          simp (disch := omega) only [up2_n, up2_e, filr_n, film_n]
          rw [vns]
          refine V_iconst (pc := 197) (1) d_X12_stretch_197 (by decide) ?_
          refine V_iadd (pc := 198) d_X12_stretch_198 ?_
          refine P_putI (pc := 199) d_X12_stretch_199 f_X12_171 (tt_139 b) ?_
          refine V_aload_n (pc := 202) d_X12_stretch_202 rfl ?_
          refine V_iload (pc := 203) d_X12_stretch_203 rfl ?_
          refine V_cvI (pc := 205) (n := 1) (c := 12) [_] d_X12_stretch_205 c_X12_191 k_X12_done ⟨rfl, rfl⟩ (tt_139 b) rfl (Nat.le_of_ble_eq_true rfl) ⟨Nat.le_of_ble_eq_true rfl, Nat.le_of_ble_eq_true rfl⟩ ⟨Nat.le_refl _, Nat.le_refl _⟩ (ct_X12_done ?_)
          exact V_retI (pc := 208) d_X12_stretch_208 rfl ⟨Nat.le_refl _, Nat.le_refl _⟩ (h2 k l d hk hl hd rfl rfl rfl (by omega) (by omega))
        · simp (disch := omega) only [nI_eq] at c41
          refine V_aload_n (pc := 44) d_X12_stretch_44 rfl ?_
          refine V_iconst (pc := 45) (nI 2) d_X12_stretch_45 (by decide) ?_
          refine V_cvI (pc := 46) (n := 1) (c := 12) [_] d_X12_stretch_46 c_X12_187 k_X12_refused ⟨rfl, rfl⟩ (tt_139 b) rfl (Nat.le_of_ble_eq_true rfl) ⟨Nat.le_of_ble_eq_true rfl, Nat.le_of_ble_eq_true rfl⟩ ⟨Nat.le_refl _, Nat.le_refl _⟩ (ct_X12_refused ?_)
          exact V_retI (pc := 49) d_X12_stretch_49 rfl ⟨Nat.le_refl _, Nat.le_refl _⟩ (h4 k l d hk hl hd rfl rfl rfl (by omega) (by omega))
      · replace c26 := zf c26
        refine V_aload_n (pc := 29) d_X12_stretch_29 rfl ?_
        refine V_iconst (pc := 30) (1) d_X12_stretch_30 (by decide) ?_
        refine V_cvI (pc := 31) (n := 1) (c := 12) [_] d_X12_stretch_31 c_X12_187 k_X12_refused ⟨rfl, rfl⟩ (tt_139 b) rfl (Nat.le_of_ble_eq_true rfl) ⟨Nat.le_of_ble_eq_true rfl, Nat.le_of_ble_eq_true rfl⟩ ⟨Nat.le_refl _, Nat.le_refl _⟩ (ct_X12_refused ?_)
        exact V_retI (pc := 34) d_X12_stretch_34 rfl ⟨Nat.le_refl _, Nat.le_refl _⟩ (h1 (by
                        rintro ⟨k, l, d, gk, gl, gd, ek, el, ed, d0⟩
                        try subst ek
                        try subst el
                        try subst ed
                        simp (disch := omega) only [nI_toInt, nI_eq] at *
                        omega))
theorem pr_stretch {x y z : Int32}  (h : Rel σ b)  : PR G mX11_stretch mX12_stretch 3 2 [.int x, .int y, .int z] σ b := by
  have h0 := h
  obtain ⟨q, ns, nb, nl, nt, nr, hR, hX, hP, hQ, hK⟩ := h
  have hbd := hR.1.1
  refine ct_X11_stretch hR  (fun hv => ?_) (fun k l d hk hl hd ek el ed d0 hv => ?_) (fun k l d hk hl hd ek el ed d0 hv => ?_)
  · exact ⟨rfl, ct_X12_stretch (RR_lo hR (fun a i _ _ => by simp (disch := omega) only [up2_n, filr_n, film_n]))  (fun _ => ⟨rfl, _, rfl, rel_ref h0⟩) (fun k l d hk hl hd ek el ed d0 _ => absurd ⟨k, l, d, hk, hl, hd, ek, el, ed, d0⟩ hv) (fun k l d hk hl hd ek el ed d0 _ => absurd ⟨k, l, d, hk, hl, hd, ek, el, ed, d0⟩ hv)⟩
  · refine ⟨rfl, ct_X12_stretch (RR_lo hR (fun a i _ _ => by simp (disch := omega) only [up2_n, filr_n, film_n]))  (fun hv => absurd ⟨k, l, d, hk, hl, hd, ek, el, ed, d0⟩ hv) (fun k' l' d' hk' hl' hd' ek' el' ed' d0' hv' => ?_) (fun k' l' d' hk' hl' hd' ek' el' ed' d0' hv' => ?_)⟩
    · obtain rfl : k' = k := (nI_eq (by omega) (by omega)).mp (ek'.symm.trans ek)
      obtain rfl : l' = l := (nI_eq (by omega) (by omega)).mp (el'.symm.trans el)
      obtain rfl : d' = d := (nI_eq (by omega) (by omega)).mp (ed'.symm.trans ed)
      exact ⟨rfl, _, rfl, rel_ref h0⟩
    · obtain rfl : k' = k := (nI_eq (by omega) (by omega)).mp (ek'.symm.trans ek)
      obtain rfl : l' = l := (nI_eq (by omega) (by omega)).mp (el'.symm.trans el)
      obtain rfl : d' = d := (nI_eq (by omega) (by omega)).mp (ed'.symm.trans ed)
      try simp (disch := omega) only [up2_n, filr_n, film_n] at hv'
      first | exact absurd hv hv' | exact absurd hv' hv | (exfalso; omega)
  · refine ⟨rfl, ct_X12_stretch (RR_lo hR (fun a i _ _ => by simp (disch := omega) only [up2_n, filr_n, film_n]))  (fun hv => absurd ⟨k, l, d, hk, hl, hd, ek, el, ed, d0⟩ hv) (fun k' l' d' hk' hl' hd' ek' el' ed' d0' hv' => ?_) (fun k' l' d' hk' hl' hd' ek' el' ed' d0' hv' => ?_)⟩
    · obtain rfl : k' = k := (nI_eq (by omega) (by omega)).mp (ek'.symm.trans ek)
      obtain rfl : l' = l := (nI_eq (by omega) (by omega)).mp (el'.symm.trans el)
      obtain rfl : d' = d := (nI_eq (by omega) (by omega)).mp (ed'.symm.trans ed)
      try simp (disch := omega) only [up2_n, filr_n, film_n] at hv'
      first | exact absurd hv hv' | exact absurd hv' hv | (exfalso; omega)
    · obtain rfl : k' = k := (nI_eq (by omega) (by omega)).mp (ek'.symm.trans ek)
      obtain rfl : l' = l := (nI_eq (by omega) (by omega)).mp (el'.symm.trans el)
      obtain rfl : d' = d := (nI_eq (by omega) (by omega)).mp (ed'.symm.trans ed)
      obtain ⟨hcn, hH, hC, hS, hLD, hB, hA, hT, hU⟩ := id hR
      have hbd := hcn.1
      refine ⟨rfl, _, rfl, ?_⟩
      have h158 : ∀ m, (m < 10 * nb ∨ 50 ≤ m) → m < 160 → (up2 (up2 (up2 (filr (film (filr (up2 (up2 (up2 (up2 (up2 (filr (up2 (up2 (up2 (up2 (up2 (up2 σ 4 1 (nI ns + 1)) (13 + 2 * ns) 0 (nI ns)) (13 + 2 * ns) 1 (nI k')) (13 + 2 * ns) 2 (nI l')) (13 + 2 * ns) 3 (nI d')) (13 + 2 * ns) 4 0) (14 + 2 * ns) 0 100 (-1000)) 3 3 0) 140 ns (nI k')) 141 ns (nI l')) 142 ns (nI d')) 143 ns 0) 145 (100 * ns) 100 0) 158 ns 16 (-1)) 158 (10 * (5 + ns + 1)) 10 (-1)) 159 (ns + 1) 0) 139 2 (nI ns + 1)) 139 0 0) 158 m = σ 158 m := by
        intro m hm hm2
        by_cases z1 : 10 * (5 + ns + 1) ≤ m ∧ m < 10 * (5 + ns + 1) + 10
        · have old := ((hLD (ns + 1) (by omega)).2.2.2 (by omega)).2 (m % 10) (by omega)
          rw [idx_eq (j := m) old (by omega)]
          simp (disch := omega) only [up2_n, filr_e]
        · by_cases z2 : m % 10 = ns
          · have old : σ 158 m = -1 := by
              rcases hm with hm | hm
              · rcases ((cB_w hB (by omega : m / 10 < nb)) ns (by omega)).2 with y | y
                · exact idx_eq y (by omega)
                · exact absurd y.1 (by omega)
              · rcases ((cL_w hLD (by omega : m / 10 - 5 < 11)) ns (by omega)).2 with y | y
                · exact idx_eq y (by omega)
                · exact absurd y.1 (by omega)
            rw [old]
            simp (disch := omega) only [up2_n, filr_n, film_e]
          · simp (disch := omega) only [up2_n, filr_n, film_n]
      have h159 : ∀ l, l < 11 → (up2 (up2 (up2 (filr (film (filr (up2 (up2 (up2 (up2 (up2 (filr (up2 (up2 (up2 (up2 (up2 (up2 σ 4 1 (nI ns + 1)) (13 + 2 * ns) 0 (nI ns)) (13 + 2 * ns) 1 (nI k')) (13 + 2 * ns) 2 (nI l')) (13 + 2 * ns) 3 (nI d')) (13 + 2 * ns) 4 0) (14 + 2 * ns) 0 100 (-1000)) 3 3 0) 140 ns (nI k')) 141 ns (nI l')) 142 ns (nI d')) 143 ns 0) 145 (100 * ns) 100 0) 158 ns 16 (-1)) 158 (10 * (5 + ns + 1)) 10 (-1)) 159 (ns + 1) 0) 139 2 (nI ns + 1)) 139 0 0) 159 l = σ 159 l := by
        intro l hl
        by_cases z : l = ns + 1
        · subst z
          rw [((hLD (ns + 1) hl).2.2.2 (by omega)).1]
          simp (disch := omega) only [up2_n, up2_e]
        · simp (disch := omega) only [up2_n, filr_n, film_n]
      exact ⟨q, ns + 1, nb, nl, nt, nr, ⟨by
            obtain ⟨⟨c1, c2, c3, c4, c5, c6⟩, ⟨v1, v2, v3, v4, v5, v6⟩, ⟨r1, r2, r3, r4, r5, r6⟩, hp⟩ := hcn
            refine ⟨⟨by omega, by omega, by omega, by omega, by omega, by omega⟩, ⟨?_, ?_, ?_, ?_, ?_, ?_⟩, ⟨?_, ?_, ?_, ?_, ?_, ?_⟩, ?_⟩ <;> simp (disch := omega) only [up2_n, up2_e, filr_n, film_n, nI_1] <;> assumption, cH_cg hH (by simp (disch := omega) only [up2_n, filr_n, film_n]) (fun d _ => (by simp (disch := omega) only [up2_n, filr_n, film_n])) (fun d _ => ⟨(by simp (disch := omega) only [up2_n, filr_n, film_n]), (by simp (disch := omega) only [up2_n, filr_n, film_n])⟩), cC_cg hC (fun d _ => (by simp (disch := omega) only [up2_n, filr_n, film_n])) (fun d _ => (by simp (disch := omega) only [up2_n, filr_n, film_n])), by
            intro e he
            by_cases z : e = ns
            · subst z
              refine ⟨⟨?_, ?_, ?_, ?_, ?_⟩, ⟨k', hk, ?_⟩, ⟨l', d0, by omega, ?_⟩, ⟨d', hd, ?_⟩, Or.inl ?_, fun d1 hd1 => Or.inl ⟨?_, ?_⟩⟩
              all_goals (simp (disch := omega) only [up2_n, up2_e, filr_n, filr_e, film_n]; done)
            · obtain ⟨⟨a0, a1, a2, a3, a4⟩, b1, b2, b3, b4, b5⟩ := hS e (by omega)
              refine ⟨⟨?_, ?_, ?_, ?_, ?_⟩, ?_, ?_, ?_, ?_, fun d1 hd1 => ?_⟩
              all_goals simp (disch := omega) only [up2_n, up2_e, filr_n, film_n]
              · exact a0
              · exact a1
              · exact a2
              · exact a3
              · exact a4
              · exact b1
              · exact b2
              · exact b3
              · exact b4
              · exact b5 d1 hd1, cL_cg (cL_mono hLD) (fun l _ => ⟨(by simp (disch := omega) only [up2_n, filr_n, film_n]), fun k _ => ⟨(by simp (disch := omega) only [up2_n, filr_n, film_n]), (by simp (disch := omega) only [up2_n, filr_n, film_n])⟩⟩) h159 (fun m _ _ => ⟨(by simp (disch := omega) only [up2_n, filr_n, film_n]), h158 m (by omega) (by omega)⟩), cB_cg (cB_mono hB) (fun i _ => ⟨fun j => (by simp (disch := omega) only [up2_n, filr_n, film_n]), fun k _ => ⟨(by simp (disch := omega) only [up2_n, filr_n, film_n]), (by simp (disch := omega) only [up2_n, filr_n, film_n])⟩⟩) (fun i _ a _ _ => (by simp (disch := omega) only [up2_n, filr_n, film_n])) (fun m _ => ⟨(by simp (disch := omega) only [up2_n, filr_n, film_n]), h158 m (by omega) (by omega)⟩) (fun j _ => ⟨(by simp (disch := omega) only [up2_n, filr_n, film_n]), (by simp (disch := omega) only [up2_n, filr_n, film_n]), (by simp (disch := omega) only [up2_n, filr_n, film_n])⟩), cA_cg (cA_mono hA) (fun j _ i => (by simp (disch := omega) only [up2_n, filr_n, film_n])) (fun j _ a _ _ => (by simp (disch := omega) only [up2_n, filr_n, film_n])), cT_cg (cT_mono hT) (fun j _ i => (by simp (disch := omega) only [up2_n, filr_n, film_n])) (fun j _ a _ _ => (by simp (disch := omega) only [up2_n, filr_n, film_n])), cU_cg hU (fun j _ i => (by simp (disch := omega) only [up2_n, filr_n, film_n])) (fun j _ a _ _ => (by simp (disch := omega) only [up2_n, filr_n, film_n]))⟩, cX_cg hX (by simp (disch := omega) only [up2_n, up2_e, filr_n, film_n]) ⟨(by simp (disch := omega) only [up2_n, filr_n, film_n]), (by simp (disch := omega) only [up2_n, filr_n, film_n])⟩, cP_cg hP ⟨(by simp (disch := omega) only [up2_n, filr_n, film_n]), (by simp (disch := omega) only [up2_n, filr_n, film_n])⟩ (fun j _ => ⟨(by simp (disch := omega) only [up2_n, filr_n, film_n]), (by simp (disch := omega) only [up2_n, filr_n, film_n])⟩), cQ_cg hQ (fun a i _ => (by simp (disch := omega) only [up2_n, filr_n, film_n])), cK_cg hK (by simp (disch := omega) only [up2_n, filr_n, film_n]) (fun a i _ => (by simp (disch := omega) only [up2_n, filr_n, film_n])) (fun a i _ => (by simp (disch := omega) only [up2_n, filr_n, film_n])) (by omega) (by omega) (by omega) (by omega) (by omega)⟩
end HC
