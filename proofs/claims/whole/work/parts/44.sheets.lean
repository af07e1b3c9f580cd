theorem filr2_s {f : Sg} {a c m n i : Nat} {v w : Int32} (hi : i = m + n) (hac : a ≠ c) : up2 (up2 (filr (filr f a m n v) c m n w) a i v) c i w = filr (filr f a m (n + 1) v) c m (n + 1) w := by
  subst hi
  rw [← filr_s (f := filr f a m (n + 1) v) rfl]
  congr 1
  rw [← filr_s rfl]
  funext b k
  by_cases z : b = a ∧ k = m + n
  · rw [up2_e z, filr_n (by omega), up2_e z]
  · rw [up2_n z]
    by_cases y : b = c ∧ m ≤ k ∧ k < m + n
    · rw [filr_e y, filr_e y]
    · rw [filr_n y, filr_n y, up2_n z]
def cQ1 (σ : Sg) (s : Nat) : Prop := σ (131 + 2 * s) 0 = σ 188 s ∧ σ (131 + 2 * s) 1 = σ 189 s ∧ (σ 188 s = -1 ∨ rg (σ 188 s) 3) ∧ (∃ n, n ≤ 40 ∧ σ 189 s = nI n) ∧
  ∀ j, j < 40 → -1000 ≤ (σ 190 (40 * s + j)).toInt ∧ (σ 190 (40 * s + j)).toInt ≤ 1000 ∧ ((σ 191 (40 * s + j) = 0 ∧ σ (132 + 2 * s) j = σ 190 (40 * s + j)) ∨ (σ 191 (40 * s + j) = 1 ∧ σ 188 s = nI 2 ∧ σ (132 + 2 * s) j = -9999))
theorem cQ_at {σ σ' : Sg} {s0 : Nat} (h : cQ σ) (h0 : s0 < 4 → cQ1 σ' s0) (hs : ∀ s, s < 4 → s ≠ s0 → (∀ j, σ' (131 + 2 * s) j = σ (131 + 2 * s) j) ∧ (∀ j, j < 40 → σ' (132 + 2 * s) j = σ (132 + 2 * s) j) ∧ σ' 188 s = σ 188 s ∧ σ' 189 s = σ 189 s ∧ ∀ j, j < 40 → σ' 190 (40 * s + j) = σ 190 (40 * s + j) ∧ σ' 191 (40 * s + j) = σ 191 (40 * s + j)) : cQ σ' := by
  intro s hs4
  by_cases e : s = s0
  · subst e; exact h0 hs4
  · obtain ⟨g1, g2, g3, g4, g5⟩ := hs s hs4 e
    obtain ⟨h1, h2, h3, h4, h5⟩ := h s hs4
    rw [g1, g1, g3, g4]
    refine ⟨h1, h2, h3, h4, fun j hj => ?_⟩
    rw [(g5 j hj).1, (g5 j hj).2, g2 j hj]
    exact h5 j hj
theorem byte_rg (z : Int32) : -128 ≤ z.toInt8.toInt32.toInt ∧ z.toInt8.toInt32.toInt ≤ 127 := by
  rw [Int8.toInt_toInt32]
  exact ⟨Int8.le_toInt _, Int8.toInt_le _⟩
section HB
variable {G : Gl} {K : Int32 → Hp → Prop} {KV : Hp → Prop} {σ : Nat → Nat → Int32} {s : (Nat → Nat → Option Nat) × (Nat → Nat) × (Nat → Nat) × Nat} {a w : Nat}
theorem ct_X6_begin {x y : Int32} (hT : s.2.1 a = 7) (hR2 : s.1 a 2 = some w) (hTw : s.2.1 w = 20) (hLw : s.2.2.1 w = 40) (hq : KV (filr (up2 (up2 σ a 0 x) a 1 y) w 0 40 0, s)) : CM G mX6_begin (rl 2) [.ref a, .int x, .int y] (σ, s) (QV KV) := by
  refine CM.of (by decide) (Nat.le_of_ble_eq_true rfl) (cats1 rfl) ?_
  refine V_aload_n (pc := 0) d_X6_begin_0 rfl ?_
  refine V_iload_n (pc := 1) d_X6_begin_1 rfl ?_
  refine P_putI (pc := 2) d_X6_begin_2 f_X6_9 hT ?_
  refine V_aload_n (pc := 5) d_X6_begin_5 rfl ?_
  refine V_iload_n (pc := 6) d_X6_begin_6 rfl ?_
  refine P_putI (pc := 7) d_X6_begin_7 f_X6_15 hT ?_
  refine V_aload_n (pc := 10) d_X6_begin_10 rfl ?_
  refine P_getR (pc := 11) d_X6_begin_11 f_X6_18 hT hR2 ?_
  refine V_iconst (pc := 14) (0) d_X6_begin_14 (by decide) ?_
  refine V_csV (pc := 15) (n := 1) [_, _] d_X6_begin_15 c_X6_22 k_J_fill rfl (Nat.le_of_ble_eq_true rfl) ⟨Nat.le_of_ble_eq_true rfl, Nat.le_of_ble_eq_true rfl⟩ ⟨Nat.le_refl _, Nat.le_refl _⟩ (ct_J_fill hTw hLw (by decide) ?_)
  exact V_retV (pc := 18) d_X6_begin_18 rfl ⟨Nat.le_refl _, Nat.le_refl _⟩ hq
theorem ct_X6_isMissing  (hT : s.2.1 a = 7) (hq : K (if σ a 0 = -1 then 1 else 0) (σ, s)) : CM G mX6_isMissing (rl 1) [.ref a] (σ, s) (QI K) := by
  refine CM.of (by decide) (Nat.le_of_ble_eq_true rfl) (cats1 rfl) ?_
  refine V_aload_n (pc := 0) d_X6_isMissing_0 rfl ?_
  refine P_getI (pc := 1) d_X6_isMissing_1 f_X6_9 hT ?_
  refine V_iconst (pc := 4) (-1) d_X6_isMissing_4 (by decide) ?_
  refine V_icmp_ne (pc := 5) 12 d_X6_isMissing_5 (by decide) (fun c5 => ?_) (fun c5 => ?_)
  · refine V_iconst (pc := 12) (0) d_X6_isMissing_12 (by decide) ?_
    exact V_retZ (pc := 13) d_X6_isMissing_13 rfl (by first | exact Or.inl rfl | exact Or.inr rfl | exact z01) ⟨Nat.le_refl _, Nat.le_refl _⟩ (by simpa [c5] using hq)
  · refine V_iconst (pc := 8) (1) d_X6_isMissing_8 (by decide) ?_
    refine V_goto (pc := 9) 13 d_X6_isMissing_9 (by decide) ?_
    exact V_retZ (pc := 13) d_X6_isMissing_13 rfl (by first | exact Or.inl rfl | exact Or.inr rfl | exact z01) ⟨Nat.le_refl _, Nat.le_refl _⟩ (by simpa [c5] using hq)
theorem ct_X6_hasPlace {x : Int32} {n : Nat} (hT : s.2.1 a = 7) (hn : σ a 1 = nI n) (hn2 : n ≤ 40) (hq : K (if 0 ≤ x.toInt ∧ x.toInt ≤ (n : Int) - 1 then 1 else 0) (σ, s)) : CM G mX6_hasPlace (rl 2) [.ref a, .int x] (σ, s) (QI K) := by
  refine CM.of (by decide) (Nat.le_of_ble_eq_true rfl) (cats1 rfl) ?_
  refine V_iload_n (pc := 0) d_X6_hasPlace_0 rfl ?_
  refine V_iconst (pc := 1) (0) d_X6_hasPlace_1 (by decide) ?_
  refine V_aload_n (pc := 2) d_X6_hasPlace_2 rfl ?_
  refine P_getI (pc := 3) d_X6_hasPlace_3 f_X6_15 hT ?_
  refine V_iconst (pc := 6) (1) d_X6_hasPlace_6 (by decide) ?_
  refine V_isub (pc := 7) d_X6_hasPlace_7 ?_
  refine V_csI (pc := 8) (n := 1) [_, _, _] d_X6_hasPlace_8 c_X6_28 k_X11_isWithin rfl (Nat.le_of_ble_eq_true rfl) ⟨Nat.le_of_ble_eq_true rfl, Nat.le_of_ble_eq_true rfl⟩ ⟨Nat.le_refl _, Nat.le_refl _⟩ (ct_X11_isWithin (lo := 0) (hi := (n : Int) - 1) (by decide) (cntm1 hn (by omega)) ?_)
  exact V_retZ (pc := 11) d_X6_hasPlace_11 rfl (by first | exact Or.inl rfl | exact Or.inr rfl | exact z01) ⟨Nat.le_refl _, Nat.le_refl _⟩ hq
theorem ct_X6_faultAs {x : Int32} (hT : s.2.1 a = 7) (hq : K (if σ a 0 = -1 then nI 10 else if σ a 0 = x then 0 else nI 11) (σ, s)) : CM G mX6_faultAs (rl 2) [.ref a, .int x] (σ, s) (QI K) := by
  refine CM.of (by decide) (Nat.le_of_ble_eq_true rfl) (cats1 rfl) ?_
  refine V_aload_n (pc := 0) d_X6_faultAs_0 rfl ?_
  refine V_cvI (pc := 1) (n := 1) (c := 6) [] d_X6_faultAs_1 c_X6_32 k_X6_isMissing ⟨rfl, rfl⟩ hT rfl (Nat.le_of_ble_eq_true rfl) ⟨Nat.le_of_ble_eq_true rfl, Nat.le_of_ble_eq_true rfl⟩ ⟨Nat.le_refl _, Nat.le_refl _⟩ (ct_X6_isMissing hT ?_)
  refine V_if_eq (pc := 4) 10 d_X6_faultAs_4 (by decide) (fun c4 => ?_) (fun c4 => ?_)
  · replace c4 := zf c4
    refine V_aload_n (pc := 10) d_X6_faultAs_10 rfl ?_
    refine P_getI (pc := 11) d_X6_faultAs_11 f_X6_9 hT ?_
    refine V_iload_n (pc := 14) d_X6_faultAs_14 rfl ?_
    refine V_icmp_ne (pc := 15) 22 d_X6_faultAs_15 (by decide) (fun c15 => ?_) (fun c15 => ?_)
    · refine V_bipush (pc := 22) (nI 11) d_X6_faultAs_22 (by decide) ?_
      exact V_retI (pc := 24) d_X6_faultAs_24 rfl ⟨Nat.le_refl _, Nat.le_refl _⟩ (by first | (rw [if_pos c4] at hq; exact hq) | (rw [if_neg c4, if_pos c15] at hq; exact hq) | (rw [if_neg c4, if_neg c15] at hq; exact hq))
    · refine V_iconst (pc := 18) (0) d_X6_faultAs_18 (by decide) ?_
      refine V_goto (pc := 19) 24 d_X6_faultAs_19 (by decide) ?_
      exact V_retI (pc := 24) d_X6_faultAs_24 rfl ⟨Nat.le_refl _, Nat.le_refl _⟩ (by first | (rw [if_pos c4] at hq; exact hq) | (rw [if_neg c4, if_pos c15] at hq; exact hq) | (rw [if_neg c4, if_neg c15] at hq; exact hq))
  · replace c4 := zt c4
    refine V_bipush (pc := 7) (nI 10) d_X6_faultAs_7 (by decide) ?_
    exact V_retI (pc := 9) d_X6_faultAs_9 rfl ⟨Nat.le_refl _, Nat.le_refl _⟩ (by first | (rw [if_pos c4] at hq; exact hq) | (rw [if_neg c4, if_pos c15] at hq; exact hq) | (rw [if_neg c4, if_neg c15] at hq; exact hq))
theorem ct_X6_put {j : Nat} {z : Int32} (hT : s.2.1 a = 7) (hR2 : s.1 a 2 = some w) (hTw : s.2.1 w = 20) (hLw : s.2.2.1 w = 40) (hj : j < 40) (hq : KV (up2 σ w j (if σ a 0 = 0 then z.toInt8.toInt32 else z), s)) : CM G mX6_put (rl 1) [.ref a, .int (nI j), .int z] (σ, s) (QV KV) := by
  refine CM.of (by decide) (Nat.le_of_ble_eq_true rfl) (cats1 rfl) ?_
  refine V_aload_n (pc := 0) d_X6_put_0 rfl ?_
  refine P_getR (pc := 1) d_X6_put_1 f_X6_18 hT hR2 ?_
  refine V_iload_n (pc := 4) d_X6_put_4 rfl ?_
  refine V_aload_n (pc := 5) d_X6_put_5 rfl ?_
  refine P_getI (pc := 6) d_X6_put_6 f_X6_9 hT ?_
  refine V_if_ne (pc := 9) 17 d_X6_put_9 (by decide) (fun c9 => ?_) (fun c9 => ?_)
  · refine V_iload_n (pc := 17) d_X6_put_17 rfl ?_
    refine P_iast (pc := 18) (j) d_X6_put_18 hTw rfl (ln_of hLw ⟨by omega, by decide⟩) ?_
    exact V_retV (pc := 19) d_X6_put_19 rfl ⟨Nat.le_refl _, Nat.le_refl _⟩ (by simpa [c9] using hq)
  · refine V_iload_n (pc := 12) d_X6_put_12 rfl ?_
    refine V_i2b (pc := 13) d_X6_put_13 ?_
    refine V_goto (pc := 14) 18 d_X6_put_14 (by decide) ?_
    refine P_iast (pc := 18) (j) d_X6_put_18 hTw rfl (ln_of hLw ⟨by omega, by decide⟩) ?_
    exact V_retV (pc := 19) d_X6_put_19 rfl ⟨Nat.le_refl _, Nat.le_refl _⟩ (by simpa [c9] using hq)
end HB
section HC
variable {G : Gl} {R : Room} {F : Fn} {K : Int32 → Hp → Prop} {KV : Hp → Prop} {σ : Nat → Nat → Int32} {b : Bool}
theorem ct_X11_sheet {x y z : Int32} {q ns nb nl nt nr : Nat} (hR : RR σ 4 σ q ns nb nl nt nr) (h1 : ¬ (∃ s, s < 4 ∧ x = nI s ∧ (y = -1 ∨ (rg y 3 ∧ rg z 41))) → K (-1) (up2 σ 3 3 1, sh b)) (h2 : ∀ (s : Nat), s < 4 → x = nI s → (y = -1 ∨ (rg y 3 ∧ rg z 41)) → K (1) (up2 (filr (up2 (up2 σ (131 + 2 * s) 0 y) (131 + 2 * s) 1 (if y = -1 then 0 else z)) (132 + 2 * s) 0 40 0) 3 3 0, sh b)) : CM G mX11_sheet (rl 3) [.ref 3, .int x, .int y, .int z] (σ, sh b) (QI K) := by
  obtain ⟨⟨⟨hq2, hn10, hnb, hnl, hnt, hnr⟩, ⟨vq, vns, vnb, vnl, vnt, vnr⟩, ⟨rq, rns, rnb, rnl, rnt, rnr⟩, hpd⟩, hH, hC, hS, hLD, hB, hA, hT, hU⟩ := hR
  refine CM.of (by decide) (Nat.le_of_ble_eq_true rfl) (cats1 rfl) ?_
  refine V_iload_n (pc := 0) d_X11_sheet_0 rfl ?_
  refine V_iconst (pc := 1) (-1) d_X11_sheet_1 (by decide) ?_
  refine V_icmp_ne (pc := 2) 9 d_X11_sheet_2 (by decide) (fun c2 => ?_) (fun c2 => ?_)
  · refine V_iconst (pc := 9) (0) d_X11_sheet_9 (by decide) ?_
    refine V_istore (pc := 10) d_X11_sheet_10 (by decide) ?_
    refine V_iload_n (pc := 12) d_X11_sheet_12 rfl ?_
    refine V_iconst (pc := 13) (0) d_X11_sheet_13 (by decide) ?_
    refine V_iconst (pc := 14) (nI 2) d_X11_sheet_14 (by decide) ?_
    refine V_csI (pc := 15) (n := 1) [_, _, _] d_X11_sheet_15 c_X11_51 k_X11_isWithin rfl (Nat.le_of_ble_eq_true rfl) ⟨Nat.le_of_ble_eq_true rfl, Nat.le_of_ble_eq_true rfl⟩ ⟨Nat.le_refl _, Nat.le_refl _⟩ (ct_X11_isWithin (lo := 0) (hi := 2) (by decide) (by decide) ?_)
    refine V_if_eq (pc := 18) 35 d_X11_sheet_18 (by decide) (fun c18 => ?_) (fun c18 => ?_)
    · replace c18 := zf c18
      refine V_iconst (pc := 35) (0) d_X11_sheet_35 (by decide) ?_
      refine V_istore (pc := 36) d_X11_sheet_36 (by decide) ?_
      refine V_iload_n (pc := 38) d_X11_sheet_38 rfl ?_
      refine V_csI (pc := 39) (n := 2) [_] d_X11_sheet_39 c_X11_325 k_X11_isSheet rfl (Nat.le_of_ble_eq_true rfl) ⟨Nat.le_of_ble_eq_true rfl, Nat.le_of_ble_eq_true rfl⟩ ⟨Nat.le_refl _, Nat.le_refl _⟩ (ct_X11_isSheet ?_)
      refine V_if_eq (pc := 42) 55 d_X11_sheet_42 (by decide) (fun c42 => ?_) (fun c42 => ?_)
      · replace c42 := zf c42
        refine V_aload_n (pc := 55) d_X11_sheet_55 rfl ?_
        refine V_iconst (pc := 56) (1) d_X11_sheet_56 (by decide) ?_
        refine V_cvI (pc := 57) (n := 1) (c := 11) [_] d_X11_sheet_57 c_X11_55 k_X11_refused ⟨rfl, rfl⟩ (tt_3 b) rfl (Nat.le_of_ble_eq_true rfl) ⟨Nat.le_of_ble_eq_true rfl, Nat.le_of_ble_eq_true rfl⟩ ⟨Nat.le_refl _, Nat.le_refl _⟩ (ct_X11_refused ?_)
        exact V_retI (pc := 60) d_X11_sheet_60 rfl ⟨Nat.le_refl _, Nat.le_refl _⟩ (h1 (by
            rintro ⟨s, gs, es, d0⟩
            try subst es
            rcases d0 with d0 | ⟨⟨u, hu, eu⟩, w, hw, ew⟩
            · first | exact absurd d0 c2 | (subst d0; simp (disch := omega) only [nI_toInt, tim1] at *; omega) | (simp (disch := omega) only [nI_toInt] at *; omega)
            · subst eu ew
              simp (disch := omega) only [nI_toInt] at *
              omega))
      · replace c42 := zt c42
        obtain ⟨s, hs, rfl, -⟩ := nat_of (n := 4) (x := x) (by omega) (by omega) (by omega)
        refine V_iload (pc := 45) d_X11_sheet_45 rfl ?_
        refine V_if_ne (pc := 47) 61 d_X11_sheet_47 (by decide) (fun c47 => ?_) (fun c47 => ?_)
        · exact absurd rfl c47
        · refine V_iload (pc := 50) d_X11_sheet_50 rfl ?_
          refine V_if_ne (pc := 52) 61 d_X11_sheet_52 (by decide) (fun c52 => ?_) (fun c52 => ?_)
          · exact absurd rfl c52
          · refine V_aload_n (pc := 55) d_X11_sheet_55 rfl ?_
            refine V_iconst (pc := 56) (1) d_X11_sheet_56 (by decide) ?_
            refine V_cvI (pc := 57) (n := 1) (c := 11) [_] d_X11_sheet_57 c_X11_55 k_X11_refused ⟨rfl, rfl⟩ (tt_3 b) rfl (Nat.le_of_ble_eq_true rfl) ⟨Nat.le_of_ble_eq_true rfl, Nat.le_of_ble_eq_true rfl⟩ ⟨Nat.le_refl _, Nat.le_refl _⟩ (ct_X11_refused ?_)
            exact V_retI (pc := 60) d_X11_sheet_60 rfl ⟨Nat.le_refl _, Nat.le_refl _⟩ (h1 (by
            rintro ⟨s, gs, es, d0⟩
            try subst es
            rcases d0 with d0 | ⟨⟨u, hu, eu⟩, w, hw, ew⟩
            · first | exact absurd d0 c2 | (subst d0; simp (disch := omega) only [nI_toInt, tim1] at *; omega) | (simp (disch := omega) only [nI_toInt] at *; omega)
            · subst eu ew
              simp (disch := omega) only [nI_toInt] at *
              omega))
    · replace c18 := zt c18
      refine V_iload_n (pc := 21) d_X11_sheet_21 rfl ?_
      refine V_iconst (pc := 22) (0) d_X11_sheet_22 (by decide) ?_
      refine V_bipush (pc := 23) (nI 40) d_X11_sheet_23 (by decide) ?_
      refine V_csI (pc := 25) (n := 1) [_, _, _] d_X11_sheet_25 c_X11_51 k_X11_isWithin rfl (Nat.le_of_ble_eq_true rfl) ⟨Nat.le_of_ble_eq_true rfl, Nat.le_of_ble_eq_true rfl⟩ ⟨Nat.le_refl _, Nat.le_refl _⟩ (ct_X11_isWithin (lo := 0) (hi := 40) (by decide) (by decide) ?_)
      refine V_if_eq (pc := 28) 35 d_X11_sheet_28 (by decide) (fun c28 => ?_) (fun c28 => ?_)
      · replace c28 := zf c28
        refine V_iconst (pc := 35) (0) d_X11_sheet_35 (by decide) ?_
        refine V_istore (pc := 36) d_X11_sheet_36 (by decide) ?_
        refine V_iload_n (pc := 38) d_X11_sheet_38 rfl ?_
        refine V_csI (pc := 39) (n := 2) [_] d_X11_sheet_39 c_X11_325 k_X11_isSheet rfl (Nat.le_of_ble_eq_true rfl) ⟨Nat.le_of_ble_eq_true rfl, Nat.le_of_ble_eq_true rfl⟩ ⟨Nat.le_refl _, Nat.le_refl _⟩ (ct_X11_isSheet ?_)
        refine V_if_eq (pc := 42) 55 d_X11_sheet_42 (by decide) (fun c42 => ?_) (fun c42 => ?_)
        · replace c42 := zf c42
          refine V_aload_n (pc := 55) d_X11_sheet_55 rfl ?_
          refine V_iconst (pc := 56) (1) d_X11_sheet_56 (by decide) ?_
          refine V_cvI (pc := 57) (n := 1) (c := 11) [_] d_X11_sheet_57 c_X11_55 k_X11_refused ⟨rfl, rfl⟩ (tt_3 b) rfl (Nat.le_of_ble_eq_true rfl) ⟨Nat.le_of_ble_eq_true rfl, Nat.le_of_ble_eq_true rfl⟩ ⟨Nat.le_refl _, Nat.le_refl _⟩ (ct_X11_refused ?_)
          exact V_retI (pc := 60) d_X11_sheet_60 rfl ⟨Nat.le_refl _, Nat.le_refl _⟩ (h1 (by
            rintro ⟨s, gs, es, d0⟩
            try subst es
            rcases d0 with d0 | ⟨⟨u, hu, eu⟩, w, hw, ew⟩
            · first | exact absurd d0 c2 | (subst d0; simp (disch := omega) only [nI_toInt, tim1] at *; omega) | (simp (disch := omega) only [nI_toInt] at *; omega)
            · subst eu ew
              simp (disch := omega) only [nI_toInt] at *
              omega))
        · replace c42 := zt c42
          obtain ⟨s, hs, rfl, -⟩ := nat_of (n := 4) (x := x) (by omega) (by omega) (by omega)
          refine V_iload (pc := 45) d_X11_sheet_45 rfl ?_
          refine V_if_ne (pc := 47) 61 d_X11_sheet_47 (by decide) (fun c47 => ?_) (fun c47 => ?_)
          · exact absurd rfl c47
          · refine V_iload (pc := 50) d_X11_sheet_50 rfl ?_
            refine V_if_ne (pc := 52) 61 d_X11_sheet_52 (by decide) (fun c52 => ?_) (fun c52 => ?_)
            · exact absurd rfl c52
            · refine V_aload_n (pc := 55) d_X11_sheet_55 rfl ?_
              refine V_iconst (pc := 56) (1) d_X11_sheet_56 (by decide) ?_
              refine V_cvI (pc := 57) (n := 1) (c := 11) [_] d_X11_sheet_57 c_X11_55 k_X11_refused ⟨rfl, rfl⟩ (tt_3 b) rfl (Nat.le_of_ble_eq_true rfl) ⟨Nat.le_of_ble_eq_true rfl, Nat.le_of_ble_eq_true rfl⟩ ⟨Nat.le_refl _, Nat.le_refl _⟩ (ct_X11_refused ?_)
              exact V_retI (pc := 60) d_X11_sheet_60 rfl ⟨Nat.le_refl _, Nat.le_refl _⟩ (h1 (by
            rintro ⟨s, gs, es, d0⟩
            try subst es
            rcases d0 with d0 | ⟨⟨u, hu, eu⟩, w, hw, ew⟩
            · first | exact absurd d0 c2 | (subst d0; simp (disch := omega) only [nI_toInt, tim1] at *; omega) | (simp (disch := omega) only [nI_toInt] at *; omega)
            · subst eu ew
              simp (disch := omega) only [nI_toInt] at *
              omega))
      · replace c28 := zt c28
        refine V_iconst (pc := 31) (1) d_X11_sheet_31 (by decide) ?_
        refine V_goto (pc := 32) 36 d_X11_sheet_32 (by decide) ?_
        refine V_istore (pc := 36) d_X11_sheet_36 (by decide) ?_
        refine V_iload_n (pc := 38) d_X11_sheet_38 rfl ?_
        refine V_csI (pc := 39) (n := 2) [_] d_X11_sheet_39 c_X11_325 k_X11_isSheet rfl (Nat.le_of_ble_eq_true rfl) ⟨Nat.le_of_ble_eq_true rfl, Nat.le_of_ble_eq_true rfl⟩ ⟨Nat.le_refl _, Nat.le_refl _⟩ (ct_X11_isSheet ?_)
        refine V_if_eq (pc := 42) 55 d_X11_sheet_42 (by decide) (fun c42 => ?_) (fun c42 => ?_)
        · replace c42 := zf c42
          refine V_aload_n (pc := 55) d_X11_sheet_55 rfl ?_
          refine V_iconst (pc := 56) (1) d_X11_sheet_56 (by decide) ?_
          refine V_cvI (pc := 57) (n := 1) (c := 11) [_] d_X11_sheet_57 c_X11_55 k_X11_refused ⟨rfl, rfl⟩ (tt_3 b) rfl (Nat.le_of_ble_eq_true rfl) ⟨Nat.le_of_ble_eq_true rfl, Nat.le_of_ble_eq_true rfl⟩ ⟨Nat.le_refl _, Nat.le_refl _⟩ (ct_X11_refused ?_)
          exact V_retI (pc := 60) d_X11_sheet_60 rfl ⟨Nat.le_refl _, Nat.le_refl _⟩ (h1 (by
            rintro ⟨s, gs, es, d0⟩
            try subst es
            rcases d0 with d0 | ⟨⟨u, hu, eu⟩, w, hw, ew⟩
            · first | exact absurd d0 c2 | (subst d0; simp (disch := omega) only [nI_toInt, tim1] at *; omega) | (simp (disch := omega) only [nI_toInt] at *; omega)
            · subst eu ew
              simp (disch := omega) only [nI_toInt] at *
              omega))
        · replace c42 := zt c42
          obtain ⟨s, hs, rfl, -⟩ := nat_of (n := 4) (x := x) (by omega) (by omega) (by omega)
          refine V_iload (pc := 45) d_X11_sheet_45 rfl ?_
          refine V_if_ne (pc := 47) 61 d_X11_sheet_47 (by decide) (fun c47 => ?_) (fun c47 => ?_)
          · exact absurd rfl c47
          · refine V_iload (pc := 50) d_X11_sheet_50 rfl ?_
            refine V_if_ne (pc := 52) 61 d_X11_sheet_52 (by decide) (fun c52 => ?_) (fun c52 => ?_)
            · refine V_aload_n (pc := 61) d_X11_sheet_61 rfl ?_
              refine P_getR (pc := 62) d_X11_sheet_62 f_X11_28 (tt_3 b) (rr_3_4 b) ?_
              refine V_iload_n (pc := 65) d_X11_sheet_65 rfl ?_
              refine P_aald (pc := 66) (c := 6) (s) d_X11_sheet_66 (tt_123 b) (by decide) rfl (ln_of (ll_123 b) ⟨by omega, by decide⟩) (rSHT b (by omega)) ?_
              refine V_iload_n (pc := 67) d_X11_sheet_67 rfl ?_
              refine V_iload (pc := 68) d_X11_sheet_68 rfl ?_
              refine V_if_eq (pc := 70) 77 d_X11_sheet_70 (by decide) (fun c70 => ?_) (fun c70 => ?_)
              · refine V_iload_n (pc := 77) d_X11_sheet_77 rfl ?_
                refine V_cvV (pc := 78) (n := 2) (c := 6) [_, _] d_X11_sheet_78 c_X11_328 k_X6_begin ⟨rfl, rfl⟩ (tSHT b (by omega)) rfl (Nat.le_of_ble_eq_true rfl) ⟨Nat.le_of_ble_eq_true rfl, Nat.le_of_ble_eq_true rfl⟩ ⟨Nat.le_refl _, Nat.le_refl _⟩ (ct_X6_begin (tSHT b (by omega)) (rSHT2 b (by omega)) (tNUM b (by omega)) (lNUM b (by omega)) ?_)
                refine V_aload_n (pc := 81) d_X11_sheet_81 rfl ?_
                refine V_iconst (pc := 82) (1) d_X11_sheet_82 (by decide) ?_
                refine V_cvI (pc := 83) (n := 1) (c := 11) [_] d_X11_sheet_83 c_X11_72 k_X11_done ⟨rfl, rfl⟩ (tt_3 b) rfl (Nat.le_of_ble_eq_true rfl) ⟨Nat.le_of_ble_eq_true rfl, Nat.le_of_ble_eq_true rfl⟩ ⟨Nat.le_refl _, Nat.le_refl _⟩ (ct_X11_done ?_)
                exact V_retI (pc := 86) d_X11_sheet_86 rfl ⟨Nat.le_refl _, Nat.le_refl _⟩ (by first | (have k := h2 s hs rfl (Or.inl c2); rw [if_pos c2] at k; exact k) | (have k := h2 s hs rfl (Or.inr ⟨rg_of (n := 2) c18.1 (by omega) (by omega), rg_of (n := 40) c28.1 (by omega) (by omega)⟩); rw [if_neg c2] at k; exact k))
              · exact absurd (by decide) c70
            · exact absurd c52 (by decide)
  · refine V_iconst (pc := 5) (1) d_X11_sheet_5 (by decide) ?_
    refine V_goto (pc := 6) 10 d_X11_sheet_6 (by decide) ?_
    refine V_istore (pc := 10) d_X11_sheet_10 (by decide) ?_
    refine V_iload_n (pc := 12) d_X11_sheet_12 rfl ?_
    refine V_iconst (pc := 13) (0) d_X11_sheet_13 (by decide) ?_
    refine V_iconst (pc := 14) (nI 2) d_X11_sheet_14 (by decide) ?_
    refine V_csI (pc := 15) (n := 1) [_, _, _] d_X11_sheet_15 c_X11_51 k_X11_isWithin rfl (Nat.le_of_ble_eq_true rfl) ⟨Nat.le_of_ble_eq_true rfl, Nat.le_of_ble_eq_true rfl⟩ ⟨Nat.le_refl _, Nat.le_refl _⟩ (ct_X11_isWithin (lo := 0) (hi := 2) (by decide) (by decide) ?_)
    refine V_if_eq (pc := 18) 35 d_X11_sheet_18 (by decide) (fun c18 => ?_) (fun c18 => ?_)
    · replace c18 := zf c18
      refine V_iconst (pc := 35) (0) d_X11_sheet_35 (by decide) ?_
      refine V_istore (pc := 36) d_X11_sheet_36 (by decide) ?_
      refine V_iload_n (pc := 38) d_X11_sheet_38 rfl ?_
      refine V_csI (pc := 39) (n := 2) [_] d_X11_sheet_39 c_X11_325 k_X11_isSheet rfl (Nat.le_of_ble_eq_true rfl) ⟨Nat.le_of_ble_eq_true rfl, Nat.le_of_ble_eq_true rfl⟩ ⟨Nat.le_refl _, Nat.le_refl _⟩ (ct_X11_isSheet ?_)
      refine V_if_eq (pc := 42) 55 d_X11_sheet_42 (by decide) (fun c42 => ?_) (fun c42 => ?_)
      · replace c42 := zf c42
        refine V_aload_n (pc := 55) d_X11_sheet_55 rfl ?_
        refine V_iconst (pc := 56) (1) d_X11_sheet_56 (by decide) ?_
        refine V_cvI (pc := 57) (n := 1) (c := 11) [_] d_X11_sheet_57 c_X11_55 k_X11_refused ⟨rfl, rfl⟩ (tt_3 b) rfl (Nat.le_of_ble_eq_true rfl) ⟨Nat.le_of_ble_eq_true rfl, Nat.le_of_ble_eq_true rfl⟩ ⟨Nat.le_refl _, Nat.le_refl _⟩ (ct_X11_refused ?_)
        exact V_retI (pc := 60) d_X11_sheet_60 rfl ⟨Nat.le_refl _, Nat.le_refl _⟩ (h1 (by
            rintro ⟨s, gs, es, d0⟩
            try subst es
            rcases d0 with d0 | ⟨⟨u, hu, eu⟩, w, hw, ew⟩
            · first | exact absurd d0 c2 | (subst d0; simp (disch := omega) only [nI_toInt, tim1] at *; omega) | (simp (disch := omega) only [nI_toInt] at *; omega)
            · subst eu ew
              simp (disch := omega) only [nI_toInt] at *
              omega))
      · replace c42 := zt c42
        obtain ⟨s, hs, rfl, -⟩ := nat_of (n := 4) (x := x) (by omega) (by omega) (by omega)
        refine V_iload (pc := 45) d_X11_sheet_45 rfl ?_
        refine V_if_ne (pc := 47) 61 d_X11_sheet_47 (by decide) (fun c47 => ?_) (fun c47 => ?_)
        · refine V_aload_n (pc := 61) d_X11_sheet_61 rfl ?_
          refine P_getR (pc := 62) d_X11_sheet_62 f_X11_28 (tt_3 b) (rr_3_4 b) ?_
          refine V_iload_n (pc := 65) d_X11_sheet_65 rfl ?_
          refine P_aald (pc := 66) (c := 6) (s) d_X11_sheet_66 (tt_123 b) (by decide) rfl (ln_of (ll_123 b) ⟨by omega, by decide⟩) (rSHT b (by omega)) ?_
          refine V_iload_n (pc := 67) d_X11_sheet_67 rfl ?_
          refine V_iload (pc := 68) d_X11_sheet_68 rfl ?_
          refine V_if_eq (pc := 70) 77 d_X11_sheet_70 (by decide) (fun c70 => ?_) (fun c70 => ?_)
          · exact absurd c70 (by decide)
          · refine V_iconst (pc := 73) (0) d_X11_sheet_73 (by decide) ?_
            refine V_goto (pc := 74) 78 d_X11_sheet_74 (by decide) ?_
            refine V_cvV (pc := 78) (n := 2) (c := 6) [_, _] d_X11_sheet_78 c_X11_328 k_X6_begin ⟨rfl, rfl⟩ (tSHT b (by omega)) rfl (Nat.le_of_ble_eq_true rfl) ⟨Nat.le_of_ble_eq_true rfl, Nat.le_of_ble_eq_true rfl⟩ ⟨Nat.le_refl _, Nat.le_refl _⟩ (ct_X6_begin (tSHT b (by omega)) (rSHT2 b (by omega)) (tNUM b (by omega)) (lNUM b (by omega)) ?_)
            refine V_aload_n (pc := 81) d_X11_sheet_81 rfl ?_
            refine V_iconst (pc := 82) (1) d_X11_sheet_82 (by decide) ?_
            refine V_cvI (pc := 83) (n := 1) (c := 11) [_] d_X11_sheet_83 c_X11_72 k_X11_done ⟨rfl, rfl⟩ (tt_3 b) rfl (Nat.le_of_ble_eq_true rfl) ⟨Nat.le_of_ble_eq_true rfl, Nat.le_of_ble_eq_true rfl⟩ ⟨Nat.le_refl _, Nat.le_refl _⟩ (ct_X11_done ?_)
            exact V_retI (pc := 86) d_X11_sheet_86 rfl ⟨Nat.le_refl _, Nat.le_refl _⟩ (by first | (have k := h2 s hs rfl (Or.inl c2); rw [if_pos c2] at k; exact k) | (have k := h2 s hs rfl (Or.inr ⟨rg_of (n := 2) c18.1 (by omega) (by omega), rg_of (n := 40) c28.1 (by omega) (by omega)⟩); rw [if_neg c2] at k; exact k))
        · exact absurd c47 (by decide)
    · replace c18 := zt c18
      refine V_iload_n (pc := 21) d_X11_sheet_21 rfl ?_
      refine V_iconst (pc := 22) (0) d_X11_sheet_22 (by decide) ?_
      refine V_bipush (pc := 23) (nI 40) d_X11_sheet_23 (by decide) ?_
      refine V_csI (pc := 25) (n := 1) [_, _, _] d_X11_sheet_25 c_X11_51 k_X11_isWithin rfl (Nat.le_of_ble_eq_true rfl) ⟨Nat.le_of_ble_eq_true rfl, Nat.le_of_ble_eq_true rfl⟩ ⟨Nat.le_refl _, Nat.le_refl _⟩ (ct_X11_isWithin (lo := 0) (hi := 40) (by decide) (by decide) ?_)
      refine V_if_eq (pc := 28) 35 d_X11_sheet_28 (by decide) (fun c28 => ?_) (fun c28 => ?_)
      · replace c28 := zf c28
        refine V_iconst (pc := 35) (0) d_X11_sheet_35 (by decide) ?_
        refine V_istore (pc := 36) d_X11_sheet_36 (by decide) ?_
        refine V_iload_n (pc := 38) d_X11_sheet_38 rfl ?_
        refine V_csI (pc := 39) (n := 2) [_] d_X11_sheet_39 c_X11_325 k_X11_isSheet rfl (Nat.le_of_ble_eq_true rfl) ⟨Nat.le_of_ble_eq_true rfl, Nat.le_of_ble_eq_true rfl⟩ ⟨Nat.le_refl _, Nat.le_refl _⟩ (ct_X11_isSheet ?_)
        refine V_if_eq (pc := 42) 55 d_X11_sheet_42 (by decide) (fun c42 => ?_) (fun c42 => ?_)
        · replace c42 := zf c42
          refine V_aload_n (pc := 55) d_X11_sheet_55 rfl ?_
          refine V_iconst (pc := 56) (1) d_X11_sheet_56 (by decide) ?_
          refine V_cvI (pc := 57) (n := 1) (c := 11) [_] d_X11_sheet_57 c_X11_55 k_X11_refused ⟨rfl, rfl⟩ (tt_3 b) rfl (Nat.le_of_ble_eq_true rfl) ⟨Nat.le_of_ble_eq_true rfl, Nat.le_of_ble_eq_true rfl⟩ ⟨Nat.le_refl _, Nat.le_refl _⟩ (ct_X11_refused ?_)
          exact V_retI (pc := 60) d_X11_sheet_60 rfl ⟨Nat.le_refl _, Nat.le_refl _⟩ (h1 (by
            rintro ⟨s, gs, es, d0⟩
            try subst es
            rcases d0 with d0 | ⟨⟨u, hu, eu⟩, w, hw, ew⟩
            · first | exact absurd d0 c2 | (subst d0; simp (disch := omega) only [nI_toInt, tim1] at *; omega) | (simp (disch := omega) only [nI_toInt] at *; omega)
            · subst eu ew
              simp (disch := omega) only [nI_toInt] at *
              omega))
        · replace c42 := zt c42
          obtain ⟨s, hs, rfl, -⟩ := nat_of (n := 4) (x := x) (by omega) (by omega) (by omega)
          refine V_iload (pc := 45) d_X11_sheet_45 rfl ?_
          refine V_if_ne (pc := 47) 61 d_X11_sheet_47 (by decide) (fun c47 => ?_) (fun c47 => ?_)
          · refine V_aload_n (pc := 61) d_X11_sheet_61 rfl ?_
            refine P_getR (pc := 62) d_X11_sheet_62 f_X11_28 (tt_3 b) (rr_3_4 b) ?_
            refine V_iload_n (pc := 65) d_X11_sheet_65 rfl ?_
            refine P_aald (pc := 66) (c := 6) (s) d_X11_sheet_66 (tt_123 b) (by decide) rfl (ln_of (ll_123 b) ⟨by omega, by decide⟩) (rSHT b (by omega)) ?_
            refine V_iload_n (pc := 67) d_X11_sheet_67 rfl ?_
            refine V_iload (pc := 68) d_X11_sheet_68 rfl ?_
            refine V_if_eq (pc := 70) 77 d_X11_sheet_70 (by decide) (fun c70 => ?_) (fun c70 => ?_)
            · exact absurd c70 (by decide)
            · refine V_iconst (pc := 73) (0) d_X11_sheet_73 (by decide) ?_
              refine V_goto (pc := 74) 78 d_X11_sheet_74 (by decide) ?_
              refine V_cvV (pc := 78) (n := 2) (c := 6) [_, _] d_X11_sheet_78 c_X11_328 k_X6_begin ⟨rfl, rfl⟩ (tSHT b (by omega)) rfl (Nat.le_of_ble_eq_true rfl) ⟨Nat.le_of_ble_eq_true rfl, Nat.le_of_ble_eq_true rfl⟩ ⟨Nat.le_refl _, Nat.le_refl _⟩ (ct_X6_begin (tSHT b (by omega)) (rSHT2 b (by omega)) (tNUM b (by omega)) (lNUM b (by omega)) ?_)
              refine V_aload_n (pc := 81) d_X11_sheet_81 rfl ?_
              refine V_iconst (pc := 82) (1) d_X11_sheet_82 (by decide) ?_
              refine V_cvI (pc := 83) (n := 1) (c := 11) [_] d_X11_sheet_83 c_X11_72 k_X11_done ⟨rfl, rfl⟩ (tt_3 b) rfl (Nat.le_of_ble_eq_true rfl) ⟨Nat.le_of_ble_eq_true rfl, Nat.le_of_ble_eq_true rfl⟩ ⟨Nat.le_refl _, Nat.le_refl _⟩ (ct_X11_done ?_)
              exact V_retI (pc := 86) d_X11_sheet_86 rfl ⟨Nat.le_refl _, Nat.le_refl _⟩ (by first | (have k := h2 s hs rfl (Or.inl c2); rw [if_pos c2] at k; exact k) | (have k := h2 s hs rfl (Or.inr ⟨rg_of (n := 2) c18.1 (by omega) (by omega), rg_of (n := 40) c28.1 (by omega) (by omega)⟩); rw [if_neg c2] at k; exact k))
          · exact absurd c47 (by decide)
      · replace c28 := zt c28
        refine V_iconst (pc := 31) (1) d_X11_sheet_31 (by decide) ?_
        refine V_goto (pc := 32) 36 d_X11_sheet_32 (by decide) ?_
        refine V_istore (pc := 36) d_X11_sheet_36 (by decide) ?_
        refine V_iload_n (pc := 38) d_X11_sheet_38 rfl ?_
        refine V_csI (pc := 39) (n := 2) [_] d_X11_sheet_39 c_X11_325 k_X11_isSheet rfl (Nat.le_of_ble_eq_true rfl) ⟨Nat.le_of_ble_eq_true rfl, Nat.le_of_ble_eq_true rfl⟩ ⟨Nat.le_refl _, Nat.le_refl _⟩ (ct_X11_isSheet ?_)
        refine V_if_eq (pc := 42) 55 d_X11_sheet_42 (by decide) (fun c42 => ?_) (fun c42 => ?_)
        · replace c42 := zf c42
          refine V_aload_n (pc := 55) d_X11_sheet_55 rfl ?_
          refine V_iconst (pc := 56) (1) d_X11_sheet_56 (by decide) ?_
          refine V_cvI (pc := 57) (n := 1) (c := 11) [_] d_X11_sheet_57 c_X11_55 k_X11_refused ⟨rfl, rfl⟩ (tt_3 b) rfl (Nat.le_of_ble_eq_true rfl) ⟨Nat.le_of_ble_eq_true rfl, Nat.le_of_ble_eq_true rfl⟩ ⟨Nat.le_refl _, Nat.le_refl _⟩ (ct_X11_refused ?_)
          exact V_retI (pc := 60) d_X11_sheet_60 rfl ⟨Nat.le_refl _, Nat.le_refl _⟩ (h1 (by
            rintro ⟨s, gs, es, d0⟩
            try subst es
            rcases d0 with d0 | ⟨⟨u, hu, eu⟩, w, hw, ew⟩
            · first | exact absurd d0 c2 | (subst d0; simp (disch := omega) only [nI_toInt, tim1] at *; omega) | (simp (disch := omega) only [nI_toInt] at *; omega)
            · subst eu ew
              simp (disch := omega) only [nI_toInt] at *
              omega))
        · replace c42 := zt c42
          obtain ⟨s, hs, rfl, -⟩ := nat_of (n := 4) (x := x) (by omega) (by omega) (by omega)
          refine V_iload (pc := 45) d_X11_sheet_45 rfl ?_
          refine V_if_ne (pc := 47) 61 d_X11_sheet_47 (by decide) (fun c47 => ?_) (fun c47 => ?_)
          · refine V_aload_n (pc := 61) d_X11_sheet_61 rfl ?_
            refine P_getR (pc := 62) d_X11_sheet_62 f_X11_28 (tt_3 b) (rr_3_4 b) ?_
            refine V_iload_n (pc := 65) d_X11_sheet_65 rfl ?_
            refine P_aald (pc := 66) (c := 6) (s) d_X11_sheet_66 (tt_123 b) (by decide) rfl (ln_of (ll_123 b) ⟨by omega, by decide⟩) (rSHT b (by omega)) ?_
            refine V_iload_n (pc := 67) d_X11_sheet_67 rfl ?_
            refine V_iload (pc := 68) d_X11_sheet_68 rfl ?_
            refine V_if_eq (pc := 70) 77 d_X11_sheet_70 (by decide) (fun c70 => ?_) (fun c70 => ?_)
            · exact absurd c70 (by decide)
            · refine V_iconst (pc := 73) (0) d_X11_sheet_73 (by decide) ?_
              refine V_goto (pc := 74) 78 d_X11_sheet_74 (by decide) ?_
              refine V_cvV (pc := 78) (n := 2) (c := 6) [_, _] d_X11_sheet_78 c_X11_328 k_X6_begin ⟨rfl, rfl⟩ (tSHT b (by omega)) rfl (Nat.le_of_ble_eq_true rfl) ⟨Nat.le_of_ble_eq_true rfl, Nat.le_of_ble_eq_true rfl⟩ ⟨Nat.le_refl _, Nat.le_refl _⟩ (ct_X6_begin (tSHT b (by omega)) (rSHT2 b (by omega)) (tNUM b (by omega)) (lNUM b (by omega)) ?_)
              refine V_aload_n (pc := 81) d_X11_sheet_81 rfl ?_
              refine V_iconst (pc := 82) (1) d_X11_sheet_82 (by decide) ?_
              refine V_cvI (pc := 83) (n := 1) (c := 11) [_] d_X11_sheet_83 c_X11_72 k_X11_done ⟨rfl, rfl⟩ (tt_3 b) rfl (Nat.le_of_ble_eq_true rfl) ⟨Nat.le_of_ble_eq_true rfl, Nat.le_of_ble_eq_true rfl⟩ ⟨Nat.le_refl _, Nat.le_refl _⟩ (ct_X11_done ?_)
              exact V_retI (pc := 86) d_X11_sheet_86 rfl ⟨Nat.le_refl _, Nat.le_refl _⟩ (by first | (have k := h2 s hs rfl (Or.inl c2); rw [if_pos c2] at k; exact k) | (have k := h2 s hs rfl (Or.inr ⟨rg_of (n := 2) c18.1 (by omega) (by omega), rg_of (n := 40) c28.1 (by omega) (by omega)⟩); rw [if_neg c2] at k; exact k))
          · exact absurd c47 (by decide)
theorem lp_shM {s : Nat} {y z : Int32} (hs : s < 4) (hE : V G mX12_sheet (rl 2) F 0 0 104 [some (.ref 139), some (.int (nI s)), some (.int y), some (.int z), some (.int (nI 40))] [] (filr (filr σ 190 (40 * s) 40 0) 191 (40 * s) 40 0, sh b)) : ∀ n, n ≤ 40 → ∀ j, j + n = 40 → V G mX12_sheet (rl 2) F 0 0 65 [some (.ref 139), some (.int (nI s)), some (.int y), some (.int z), some (.int (nI j))] [] (filr (filr σ 190 (40 * s) j 0) 191 (40 * s) j 0, sh b) := by
  intro n
  induction n with
  | zero =>
    intro hx j hj
    obtain rfl : j = 40 := by omega
    refine V_iload (pc := 65) d_X12_sheet_65 rfl ?_
    refine V_bipush (pc := 67) (nI 40) d_X12_sheet_67 (by decide) ?_
    refine B_icmp_ge (pc := 69) 104 d_X12_sheet_69 (by decide) (fun c69 => ?_) (fun c69 => ?_)
    · simp (disch := omega) only [show (nI 40).toInt = 40 from by decide, nI_toInt, ti0, ti1, tim1, tim20, tim1000] at c69
      exact hE
    · simp (disch := omega) only [show (nI 40).toInt = 40 from by decide, nI_toInt, ti0, ti1, tim1, tim20, tim1000] at c69
      all_goals omega
  | succ n ih =>
    intro hx j hj
    refine V_iload (pc := 65) d_X12_sheet_65 rfl ?_
    refine V_bipush (pc := 67) (nI 40) d_X12_sheet_67 (by decide) ?_
    refine B_icmp_ge (pc := 69) 104 d_X12_sheet_69 (by decide) (fun c69 => ?_) (fun c69 => ?_)
    · simp (disch := omega) only [show (nI 40).toInt = 40 from by decide, nI_toInt, ti0, ti1, tim1, tim20, tim1000] at c69
      all_goals omega
    · simp (disch := omega) only [show (nI 40).toInt = 40 from by decide, nI_toInt, ti0, ti1, tim1, tim20, tim1000] at c69
      refine V_aload_n (pc := 72) d_X12_sheet_72 rfl ?_
      refine P_getR (pc := 73) d_X12_sheet_73 f_X12_161 (tt_139 b) (rr_139_62 b) ?_
      refine V_bipush (pc := 76) (nI 40) d_X12_sheet_76 (by decide) ?_
      refine V_iload_n (pc := 78) d_X12_sheet_78 rfl ?_
      refine V_imul (pc := 79) d_X12_sheet_79 ?_
      refine V_iload (pc := 80) d_X12_sheet_80 rfl ?_
      refine V_iadd (pc := 82) d_X12_sheet_82 ?_
      refine V_iconst (pc := 83) (0) d_X12_sheet_83 (by decide) ?_
      refine P_iast (pc := 84) (((40 * s) + j)) d_X12_sheet_84 (tt_190 b) (by simp only [nI_add, pk_mul, nI_1]) (ln_of (ll_190 b) ⟨by omega, by decide⟩) ?_
      refine V_aload_n (pc := 85) d_X12_sheet_85 rfl ?_
      refine P_getR (pc := 86) d_X12_sheet_86 f_X12_164 (tt_139 b) (rr_139_63 b) ?_
      refine V_bipush (pc := 89) (nI 40) d_X12_sheet_89 (by decide) ?_
      refine V_iload_n (pc := 91) d_X12_sheet_91 rfl ?_
      refine V_imul (pc := 92) d_X12_sheet_92 ?_
      refine V_iload (pc := 93) d_X12_sheet_93 rfl ?_
      refine V_iadd (pc := 95) d_X12_sheet_95 ?_
      refine V_iconst (pc := 96) (0) d_X12_sheet_96 (by decide) ?_
      refine P_zast (pc := 97) (((40 * s) + j)) d_X12_sheet_97 (tt_191 b) (by simp only [nI_add, pk_mul, nI_1]) (ln_of (ll_191 b) ⟨by omega, by decide⟩) (Or.inl rfl) ?_
      refine V_iinc (pc := 98) d_X12_sheet_98 rfl (by decide) ?_
      refine V_goto (pc := 101) 65 d_X12_sheet_101 (by decide) ?_
      rw [p1_s, filr2_s (by omega) (by decide)]
      exact ih (by omega) (j + 1) (by omega)
theorem filr2_go {Y : MI} {R : Room} {F : Fn} {pc a m c k : Nat} {L : List (Option Value)} {v w : Int32} {S : (Nat → Nat → Option Nat) × (Nat → Nat) × (Nat → Nat) × Nat} (h : V G Y R F 0 0 pc L [] (filr (filr σ a m 0 v) c k 0 w, S)) : V G Y R F 0 0 pc L [] (σ, S) := by
  rw [filr_0, filr_0] at h
  exact h
theorem nm1T {x : Int32} (h : ¬ x = -1) : x.toInt ≠ -1 := fun z => h (Int32.toInt_inj.mp (by rw [tim1]; exact z))
theorem ct_X12_sheet {x y z : Int32} {ρ : Sg} {q ns nb nl nt nr : Nat} (hR : RR ρ 4 σ q ns nb nl nt nr) (h1 : ¬ (∃ s, s < 4 ∧ x = nI s ∧ (y = -1 ∨ (rg y 3 ∧ rg z 41))) → K (-1) (up2 σ 139 0 1, sh b)) (h2 : ∀ (s : Nat), s < 4 → x = nI s → (y = -1 ∨ (rg y 3 ∧ rg z 41)) → K (1) (up2 (filr (filr (up2 (up2 σ 188 s y) 189 s (if y = -1 then 0 else z)) 190 (40 * s) 40 0) 191 (40 * s) 40 0) 139 0 0, sh b)) : CM G mX12_sheet (rl 2) [.ref 139, .int x, .int y, .int z] (σ, sh b) (QI K) := by
  obtain ⟨⟨⟨hq2, hn10, hnb, hnl, hnt, hnr⟩, ⟨vq, vns, vnb, vnl, vnt, vnr⟩, ⟨rq, rns, rnb, rnl, rnt, rnr⟩, hpd⟩, hH, hC, hS, hLD, hB, hA, hT, hU⟩ := hR
  refine CM.of (by decide) (Nat.le_of_ble_eq_true rfl) (cats1 rfl) ?_
  refine V_iload_n (pc := 0) d_X12_sheet_0 rfl ?_
  refine V_iconst (pc := 1) (0) d_X12_sheet_1 (by decide) ?_
  refine V_iconst (pc := 2) (nI 3) d_X12_sheet_2 (by decide) ?_
  refine V_csI (pc := 3) (n := 1) [_, _, _] d_X12_sheet_3 c_X12_174 k_X12_in rfl (Nat.le_of_ble_eq_true rfl) ⟨Nat.le_of_ble_eq_true rfl, Nat.le_of_ble_eq_true rfl⟩ ⟨Nat.le_refl _, Nat.le_refl _⟩ (ct_X12_in (lo := 0) (hi := 3) (by decide) (by decide) ?_)
  refine V_if_eq (pc := 6) 33 d_X12_sheet_6 (by decide) (fun c6 => ?_) (fun c6 => ?_)
  · replace c6 := zf c6
    refine V_aload_n (pc := 33) d_X12_sheet_33 rfl ?_
    refine V_iconst (pc := 34) (1) d_X12_sheet_34 (by decide) ?_
    refine V_cvI (pc := 35) (n := 1) (c := 12) [_] d_X12_sheet_35 c_X12_187 k_X12_refused ⟨rfl, rfl⟩ (tt_139 b) rfl (Nat.le_of_ble_eq_true rfl) ⟨Nat.le_of_ble_eq_true rfl, Nat.le_of_ble_eq_true rfl⟩ ⟨Nat.le_refl _, Nat.le_refl _⟩ (ct_X12_refused ?_)
    exact V_retI (pc := 38) d_X12_sheet_38 rfl ⟨Nat.le_refl _, Nat.le_refl _⟩ (h1 (by
            rintro ⟨s, gs, es, d0⟩
            try subst es
            rcases d0 with d0 | ⟨⟨u, hu, eu⟩, w, hw, ew⟩
            · first | exact absurd d0 c20 | (subst d0; simp (disch := omega) only [nI_toInt, tim1] at *; omega) | (simp (disch := omega) only [nI_toInt] at *; omega)
            · subst eu ew
              simp (disch := omega) only [nI_toInt] at *
              omega))
  · replace c6 := zt c6
    refine V_iload_n (pc := 9) d_X12_sheet_9 rfl ?_
    refine V_iconst (pc := 10) (-1) d_X12_sheet_10 (by decide) ?_
    refine V_iconst (pc := 11) (nI 2) d_X12_sheet_11 (by decide) ?_
    refine V_csI (pc := 12) (n := 1) [_, _, _] d_X12_sheet_12 c_X12_174 k_X12_in rfl (Nat.le_of_ble_eq_true rfl) ⟨Nat.le_of_ble_eq_true rfl, Nat.le_of_ble_eq_true rfl⟩ ⟨Nat.le_refl _, Nat.le_refl _⟩ (ct_X12_in (lo := -1) (hi := 2) (by decide) (by decide) ?_)
    refine V_if_eq (pc := 15) 33 d_X12_sheet_15 (by decide) (fun c15 => ?_) (fun c15 => ?_)
    · replace c15 := zf c15
      refine V_aload_n (pc := 33) d_X12_sheet_33 rfl ?_
      refine V_iconst (pc := 34) (1) d_X12_sheet_34 (by decide) ?_
      refine V_cvI (pc := 35) (n := 1) (c := 12) [_] d_X12_sheet_35 c_X12_187 k_X12_refused ⟨rfl, rfl⟩ (tt_139 b) rfl (Nat.le_of_ble_eq_true rfl) ⟨Nat.le_of_ble_eq_true rfl, Nat.le_of_ble_eq_true rfl⟩ ⟨Nat.le_refl _, Nat.le_refl _⟩ (ct_X12_refused ?_)
      exact V_retI (pc := 38) d_X12_sheet_38 rfl ⟨Nat.le_refl _, Nat.le_refl _⟩ (h1 (by
            rintro ⟨s, gs, es, d0⟩
            try subst es
            rcases d0 with d0 | ⟨⟨u, hu, eu⟩, w, hw, ew⟩
            · first | exact absurd d0 c20 | (subst d0; simp (disch := omega) only [nI_toInt, tim1] at *; omega) | (simp (disch := omega) only [nI_toInt] at *; omega)
            · subst eu ew
              simp (disch := omega) only [nI_toInt] at *
              omega))
    · replace c15 := zt c15
      refine V_iload_n (pc := 18) d_X12_sheet_18 rfl ?_
      refine V_iconst (pc := 19) (-1) d_X12_sheet_19 (by decide) ?_
      refine V_icmp_eq (pc := 20) 39 d_X12_sheet_20 (by decide) (fun c20 => ?_) (fun c20 => ?_)
      · obtain ⟨s, hs, rfl, -⟩ := nat_of (n := 4) (x := x) (by omega) (by omega) (by omega)
        refine V_aload_n (pc := 39) d_X12_sheet_39 rfl ?_
        refine P_getR (pc := 40) d_X12_sheet_40 f_X12_155 (tt_139 b) (rr_139_60 b) ?_
        refine V_iload_n (pc := 43) d_X12_sheet_43 rfl ?_
        refine V_iload_n (pc := 44) d_X12_sheet_44 rfl ?_
        refine P_iast (pc := 45) (s) d_X12_sheet_45 (tt_188 b) rfl (ln_of (ll_188 b) ⟨by omega, by decide⟩) ?_
        refine V_aload_n (pc := 46) d_X12_sheet_46 rfl ?_
        refine P_getR (pc := 47) d_X12_sheet_47 f_X12_158 (tt_139 b) (rr_139_61 b) ?_
        refine V_iload_n (pc := 50) d_X12_sheet_50 rfl ?_
        refine V_iload_n (pc := 51) d_X12_sheet_51 rfl ?_
        refine V_iconst (pc := 52) (-1) d_X12_sheet_52 (by decide) ?_
        refine V_icmp_ne (pc := 53) 60 d_X12_sheet_53 (by decide) (fun c53 => ?_) (fun c53 => ?_)
        · refine V_iload_n (pc := 60) d_X12_sheet_60 rfl ?_
          refine P_iast (pc := 61) (s) d_X12_sheet_61 (tt_189 b) rfl (ln_of (ll_189 b) ⟨by omega, by decide⟩) ?_
          refine V_iconst (pc := 62) (0) d_X12_sheet_62 (by decide) ?_
          refine V_istore (pc := 63) d_X12_sheet_63 (by decide) ?_
          refine filr2_go (lp_shM (by omega) ?_ 40 (Nat.le_refl _) 0 (by omega))
          refine V_aload_n (pc := 104) d_X12_sheet_104 rfl ?_
          refine V_iconst (pc := 105) (1) d_X12_sheet_105 (by decide) ?_
          refine V_cvI (pc := 106) (n := 1) (c := 12) [_] d_X12_sheet_106 c_X12_191 k_X12_done ⟨rfl, rfl⟩ (tt_139 b) rfl (Nat.le_of_ble_eq_true rfl) ⟨Nat.le_of_ble_eq_true rfl, Nat.le_of_ble_eq_true rfl⟩ ⟨Nat.le_refl _, Nat.le_refl _⟩ (ct_X12_done ?_)
          exact V_retI (pc := 109) d_X12_sheet_109 rfl ⟨Nat.le_refl _, Nat.le_refl _⟩ (by first | (have k := h2 s hs rfl (Or.inl c20); rw [if_pos c20] at k; exact k) | (have k := h2 s hs rfl (Or.inr ⟨rg_of (n := 2) (by have := nm1T c20; omega) (by omega) (by omega), rg_of (n := 40) c30.1 (by omega) (by omega)⟩); rw [if_neg c20] at k; exact k) | exact absurd c20 c53 | exact absurd c53 c20)
        · refine V_iconst (pc := 56) (0) d_X12_sheet_56 (by decide) ?_
          refine V_goto (pc := 57) 61 d_X12_sheet_57 (by decide) ?_
          refine P_iast (pc := 61) (s) d_X12_sheet_61 (tt_189 b) rfl (ln_of (ll_189 b) ⟨by omega, by decide⟩) ?_
          refine V_iconst (pc := 62) (0) d_X12_sheet_62 (by decide) ?_
          refine V_istore (pc := 63) d_X12_sheet_63 (by decide) ?_
          refine filr2_go (lp_shM (by omega) ?_ 40 (Nat.le_refl _) 0 (by omega))
          refine V_aload_n (pc := 104) d_X12_sheet_104 rfl ?_
          refine V_iconst (pc := 105) (1) d_X12_sheet_105 (by decide) ?_
          refine V_cvI (pc := 106) (n := 1) (c := 12) [_] d_X12_sheet_106 c_X12_191 k_X12_done ⟨rfl, rfl⟩ (tt_139 b) rfl (Nat.le_of_ble_eq_true rfl) ⟨Nat.le_of_ble_eq_true rfl, Nat.le_of_ble_eq_true rfl⟩ ⟨Nat.le_refl _, Nat.le_refl _⟩ (ct_X12_done ?_)
          exact V_retI (pc := 109) d_X12_sheet_109 rfl ⟨Nat.le_refl _, Nat.le_refl _⟩ (by first | (have k := h2 s hs rfl (Or.inl c20); rw [if_pos c20] at k; exact k) | (have k := h2 s hs rfl (Or.inr ⟨rg_of (n := 2) (by have := nm1T c20; omega) (by omega) (by omega), rg_of (n := 40) c30.1 (by omega) (by omega)⟩); rw [if_neg c20] at k; exact k) | exact absurd c20 c53 | exact absurd c53 c20)
      · refine V_iload_n (pc := 23) d_X12_sheet_23 rfl ?_
        refine V_iconst (pc := 24) (0) d_X12_sheet_24 (by decide) ?_
        refine V_bipush (pc := 25) (nI 40) d_X12_sheet_25 (by decide) ?_
        refine V_csI (pc := 27) (n := 1) [_, _, _] d_X12_sheet_27 c_X12_174 k_X12_in rfl (Nat.le_of_ble_eq_true rfl) ⟨Nat.le_of_ble_eq_true rfl, Nat.le_of_ble_eq_true rfl⟩ ⟨Nat.le_refl _, Nat.le_refl _⟩ (ct_X12_in (lo := 0) (hi := 40) (by decide) (by decide) ?_)
        refine V_if_ne (pc := 30) 39 d_X12_sheet_30 (by decide) (fun c30 => ?_) (fun c30 => ?_)
        · replace c30 := zt c30
          obtain ⟨s, hs, rfl, -⟩ := nat_of (n := 4) (x := x) (by omega) (by omega) (by omega)
          refine V_aload_n (pc := 39) d_X12_sheet_39 rfl ?_
          refine P_getR (pc := 40) d_X12_sheet_40 f_X12_155 (tt_139 b) (rr_139_60 b) ?_
          refine V_iload_n (pc := 43) d_X12_sheet_43 rfl ?_
          refine V_iload_n (pc := 44) d_X12_sheet_44 rfl ?_
          refine P_iast (pc := 45) (s) d_X12_sheet_45 (tt_188 b) rfl (ln_of (ll_188 b) ⟨by omega, by decide⟩) ?_
          refine V_aload_n (pc := 46) d_X12_sheet_46 rfl ?_
          refine P_getR (pc := 47) d_X12_sheet_47 f_X12_158 (tt_139 b) (rr_139_61 b) ?_
          refine V_iload_n (pc := 50) d_X12_sheet_50 rfl ?_
          refine V_iload_n (pc := 51) d_X12_sheet_51 rfl ?_
          refine V_iconst (pc := 52) (-1) d_X12_sheet_52 (by decide) ?_
          refine V_icmp_ne (pc := 53) 60 d_X12_sheet_53 (by decide) (fun c53 => ?_) (fun c53 => ?_)
          · refine V_iload_n (pc := 60) d_X12_sheet_60 rfl ?_
            refine P_iast (pc := 61) (s) d_X12_sheet_61 (tt_189 b) rfl (ln_of (ll_189 b) ⟨by omega, by decide⟩) ?_
            refine V_iconst (pc := 62) (0) d_X12_sheet_62 (by decide) ?_
            refine V_istore (pc := 63) d_X12_sheet_63 (by decide) ?_
            refine filr2_go (lp_shM (by omega) ?_ 40 (Nat.le_refl _) 0 (by omega))
            refine V_aload_n (pc := 104) d_X12_sheet_104 rfl ?_
            refine V_iconst (pc := 105) (1) d_X12_sheet_105 (by decide) ?_
            refine V_cvI (pc := 106) (n := 1) (c := 12) [_] d_X12_sheet_106 c_X12_191 k_X12_done ⟨rfl, rfl⟩ (tt_139 b) rfl (Nat.le_of_ble_eq_true rfl) ⟨Nat.le_of_ble_eq_true rfl, Nat.le_of_ble_eq_true rfl⟩ ⟨Nat.le_refl _, Nat.le_refl _⟩ (ct_X12_done ?_)
            exact V_retI (pc := 109) d_X12_sheet_109 rfl ⟨Nat.le_refl _, Nat.le_refl _⟩ (by first | (have k := h2 s hs rfl (Or.inl c20); rw [if_pos c20] at k; exact k) | (have k := h2 s hs rfl (Or.inr ⟨rg_of (n := 2) (by have := nm1T c20; omega) (by omega) (by omega), rg_of (n := 40) c30.1 (by omega) (by omega)⟩); rw [if_neg c20] at k; exact k) | exact absurd c20 c53 | exact absurd c53 c20)
          · refine V_iconst (pc := 56) (0) d_X12_sheet_56 (by decide) ?_
            refine V_goto (pc := 57) 61 d_X12_sheet_57 (by decide) ?_
            refine P_iast (pc := 61) (s) d_X12_sheet_61 (tt_189 b) rfl (ln_of (ll_189 b) ⟨by omega, by decide⟩) ?_
            refine V_iconst (pc := 62) (0) d_X12_sheet_62 (by decide) ?_
            refine V_istore (pc := 63) d_X12_sheet_63 (by decide) ?_
            refine filr2_go (lp_shM (by omega) ?_ 40 (Nat.le_refl _) 0 (by omega))
            refine V_aload_n (pc := 104) d_X12_sheet_104 rfl ?_
            refine V_iconst (pc := 105) (1) d_X12_sheet_105 (by decide) ?_
            refine V_cvI (pc := 106) (n := 1) (c := 12) [_] d_X12_sheet_106 c_X12_191 k_X12_done ⟨rfl, rfl⟩ (tt_139 b) rfl (Nat.le_of_ble_eq_true rfl) ⟨Nat.le_of_ble_eq_true rfl, Nat.le_of_ble_eq_true rfl⟩ ⟨Nat.le_refl _, Nat.le_refl _⟩ (ct_X12_done ?_)
            exact V_retI (pc := 109) d_X12_sheet_109 rfl ⟨Nat.le_refl _, Nat.le_refl _⟩ (by first | (have k := h2 s hs rfl (Or.inl c20); rw [if_pos c20] at k; exact k) | (have k := h2 s hs rfl (Or.inr ⟨rg_of (n := 2) (by have := nm1T c20; omega) (by omega) (by omega), rg_of (n := 40) c30.1 (by omega) (by omega)⟩); rw [if_neg c20] at k; exact k) | exact absurd c20 c53 | exact absurd c53 c20)
        · replace c30 := zf c30
          refine V_aload_n (pc := 33) d_X12_sheet_33 rfl ?_
          refine V_iconst (pc := 34) (1) d_X12_sheet_34 (by decide) ?_
          refine V_cvI (pc := 35) (n := 1) (c := 12) [_] d_X12_sheet_35 c_X12_187 k_X12_refused ⟨rfl, rfl⟩ (tt_139 b) rfl (Nat.le_of_ble_eq_true rfl) ⟨Nat.le_of_ble_eq_true rfl, Nat.le_of_ble_eq_true rfl⟩ ⟨Nat.le_refl _, Nat.le_refl _⟩ (ct_X12_refused ?_)
          exact V_retI (pc := 38) d_X12_sheet_38 rfl ⟨Nat.le_refl _, Nat.le_refl _⟩ (h1 (by
            rintro ⟨s, gs, es, d0⟩
            try subst es
            rcases d0 with d0 | ⟨⟨u, hu, eu⟩, w, hw, ew⟩
            · first | exact absurd d0 c20 | (subst d0; simp (disch := omega) only [nI_toInt, tim1] at *; omega) | (simp (disch := omega) only [nI_toInt] at *; omega)
            · subst eu ew
              simp (disch := omega) only [nI_toInt] at *
              omega))
theorem pr_sheet {x y z : Int32}  (h : Rel σ b)  : PR G mX11_sheet mX12_sheet 3 2 [.int x, .int y, .int z] σ b := by
  have h0 := h
  obtain ⟨q, ns, nb, nl, nt, nr, hR, hX, hP, hQ, hK⟩ := h
  have hbd := hR.1.1
  refine ct_X11_sheet hR  (fun hv => ?_) (fun s hs es d0 => ?_)
  · exact ⟨rfl, ct_X12_sheet (RR_lo hR (fun a i _ _ => by simp (disch := omega) only [up2_n, filr_n, film_n]))  (fun _ => ⟨rfl, _, rfl, rel_ref h0⟩) (fun s hs es d0 => absurd ⟨s, hs, es, d0⟩ hv)⟩
  · refine ⟨rfl, ct_X12_sheet (RR_lo hR (fun a i _ _ => by simp (disch := omega) only [up2_n, filr_n, film_n]))  (fun hv => absurd ⟨s, hs, es, d0⟩ hv) (fun s' hs' es' d0' => ?_)⟩
    · obtain rfl : s' = s := (nI_eq (by omega) (by omega)).mp (es'.symm.trans es)
      obtain ⟨hcn, hH, hC, hS, hLD, hB, hA, hT, hU⟩ := id hR
      have hbd := hcn.1
      refine ⟨rfl, _, rfl, ?_⟩
      exact ⟨q, ns, nb, nl, nt, nr, ⟨cCnt_cg hcn (fun i _ _ => (by simp (disch := omega) only [up2_n, filr_n, film_n])) (fun i hi => by rcases hi with rfl | rfl | rfl | rfl | rfl | rfl | rfl <;> simp (disch := omega) only [up2_n, filr_n, film_n]), cH_cg hH (by simp (disch := omega) only [up2_n, filr_n, film_n]) (fun d _ => (by simp (disch := omega) only [up2_n, filr_n, film_n])) (fun d _ => ⟨(by simp (disch := omega) only [up2_n, filr_n, film_n]), (by simp (disch := omega) only [up2_n, filr_n, film_n])⟩), cC_cg hC (fun d _ => (by simp (disch := omega) only [up2_n, filr_n, film_n])) (fun d _ => (by simp (disch := omega) only [up2_n, filr_n, film_n])), cS_cg hS (fun k _ => ⟨fun j => (by simp (disch := omega) only [up2_n, filr_n, film_n]), fun d _ => (by simp (disch := omega) only [up2_n, filr_n, film_n])⟩) (fun k _ => ⟨(by simp (disch := omega) only [up2_n, filr_n, film_n]), (by simp (disch := omega) only [up2_n, filr_n, film_n]), (by simp (disch := omega) only [up2_n, filr_n, film_n]), (by simp (disch := omega) only [up2_n, filr_n, film_n])⟩) (fun i _ => ⟨(by simp (disch := omega) only [up2_n, filr_n, film_n]), (by simp (disch := omega) only [up2_n, filr_n, film_n])⟩), cL_cg hLD (fun l _ => ⟨(by simp (disch := omega) only [up2_n, filr_n, film_n]), fun k _ => ⟨(by simp (disch := omega) only [up2_n, filr_n, film_n]), (by simp (disch := omega) only [up2_n, filr_n, film_n])⟩⟩) (fun l _ => (by simp (disch := omega) only [up2_n, filr_n, film_n])) (fun m _ _ => ⟨(by simp (disch := omega) only [up2_n, filr_n, film_n]), (by simp (disch := omega) only [up2_n, filr_n, film_n])⟩), cB_cg hB (fun i _ => ⟨fun j => (by simp (disch := omega) only [up2_n, filr_n, film_n]), fun k _ => ⟨(by simp (disch := omega) only [up2_n, filr_n, film_n]), (by simp (disch := omega) only [up2_n, filr_n, film_n])⟩⟩) (fun i _ a _ _ => (by simp (disch := omega) only [up2_n, filr_n, film_n])) (fun m _ => ⟨(by simp (disch := omega) only [up2_n, filr_n, film_n]), (by simp (disch := omega) only [up2_n, filr_n, film_n])⟩) (fun j _ => ⟨(by simp (disch := omega) only [up2_n, filr_n, film_n]), (by simp (disch := omega) only [up2_n, filr_n, film_n]), (by simp (disch := omega) only [up2_n, filr_n, film_n])⟩), cA_cg hA (fun j _ i => (by simp (disch := omega) only [up2_n, filr_n, film_n])) (fun j _ a _ _ => (by simp (disch := omega) only [up2_n, filr_n, film_n])), cT_cg hT (fun j _ i => (by simp (disch := omega) only [up2_n, filr_n, film_n])) (fun j _ a _ _ => (by simp (disch := omega) only [up2_n, filr_n, film_n])), cU_cg hU (fun j _ i => (by simp (disch := omega) only [up2_n, filr_n, film_n])) (fun j _ a _ _ => (by simp (disch := omega) only [up2_n, filr_n, film_n]))⟩, cX_cg hX (by simp (disch := omega) only [up2_n, up2_e, filr_n, film_n]) ⟨(by simp (disch := omega) only [up2_n, filr_n, film_n]), (by simp (disch := omega) only [up2_n, filr_n, film_n])⟩, cP_cg hP ⟨(by simp (disch := omega) only [up2_n, filr_n, film_n]), (by simp (disch := omega) only [up2_n, filr_n, film_n])⟩ (fun j _ => ⟨(by simp (disch := omega) only [up2_n, filr_n, film_n]), (by simp (disch := omega) only [up2_n, filr_n, film_n])⟩), cQ_at (s0 := s') hQ (fun _ => by
              refine ⟨?_, ?_, ?_, ?_, fun j hj => ⟨?_, ?_, Or.inl ⟨?_, ?_⟩⟩⟩
              all_goals simp (disch := omega) only [up2_n, up2_e, filr_n, filr_e]
              · rcases d0 with d0 | ⟨d0, -⟩
                · exact Or.inl d0
                · exact Or.inr d0
              · rcases d0 with d0 | ⟨⟨u, hu, eu⟩, w, hw, ew⟩
                · exact ⟨0, by omega, by rw [if_pos d0]; rfl⟩
                · exact ⟨w, by omega, by rw [if_neg (fun q => by rw [eu] at q; exact nI_nm1 (by omega) q)]; exact ew⟩
              · decide
              · decide) (fun s _ _ => ⟨fun j => (by simp (disch := omega) only [up2_n, filr_n, film_n]), fun j _ => (by simp (disch := omega) only [up2_n, filr_n, film_n]), (by simp (disch := omega) only [up2_n, filr_n, film_n]), (by simp (disch := omega) only [up2_n, filr_n, film_n]), fun j _ => ⟨(by simp (disch := omega) only [up2_n, filr_n, film_n]), (by simp (disch := omega) only [up2_n, filr_n, film_n])⟩⟩), cK_cg hK (by simp (disch := omega) only [up2_n, filr_n, film_n]) (fun a i _ => (by simp (disch := omega) only [up2_n, filr_n, film_n])) (fun a i _ => (by simp (disch := omega) only [up2_n, filr_n, film_n])) (by omega) (by omega) (by omega) (by omega) (by omega)⟩
theorem ct_X11_cell {x y z : Int32} {q ns nb nl nt nr : Nat} (hR : RR σ 4 σ q ns nb nl nt nr) (hQ : cQ σ) (h1 : ¬ (∃ s, s < 4 ∧ x = nI s ∧ -1000 ≤ z.toInt ∧ z.toInt ≤ 1000) → K (-1) (up2 σ 3 3 1, sh b)) (h10 : ∀ (s : Nat), s < 4 → x = nI s → -1000 ≤ z.toInt → z.toInt ≤ 1000 → σ 188 s = -1 → K (-1) (up2 σ 3 3 (nI 10), sh b)) (h12 : ∀ (s : Nat), s < 4 → x = nI s → -1000 ≤ z.toInt → z.toInt ≤ 1000 → ¬ σ 188 s = -1 ∧ ¬ (0 ≤ y.toInt ∧ y.toInt ≤ (σ 189 s).toInt - 1) → K (-1) (up2 σ 3 3 (nI 12), sh b)) (h2 : ∀ (s : Nat), s < 4 → x = nI s → -1000 ≤ z.toInt → z.toInt ≤ 1000 → ¬ σ 188 s = -1 ∧ (0 ≤ y.toInt ∧ y.toInt ≤ (σ 189 s).toInt - 1) → K (1) (up2 (up2 σ (132 + 2 * s) y.toNatClampNeg (if σ 188 s = 0 then z.toInt8.toInt32 else z)) 3 3 0, sh b)) : CM G mX11_cell (rl 3) [.ref 3, .int x, .int y, .int z] (σ, sh b) (QI K) := by
  obtain ⟨⟨⟨hq2, hn10, hnb, hnl, hnt, hnr⟩, ⟨vq, vns, vnb, vnl, vnt, vnr⟩, ⟨rq, rns, rnb, rnl, rnt, rnr⟩, hpd⟩, hH, hC, hS, hLD, hB, hA, hT, hU⟩ := hR
  refine CM.of (by decide) (Nat.le_of_ble_eq_true rfl) (cats1 rfl) ?_
  refine V_iload_n (pc := 0) d_X11_cell_0 rfl ?_
  refine V_csI (pc := 1) (n := 2) [_] d_X11_cell_1 c_X11_325 k_X11_isSheet rfl (Nat.le_of_ble_eq_true rfl) ⟨Nat.le_of_ble_eq_true rfl, Nat.le_of_ble_eq_true rfl⟩ ⟨Nat.le_refl _, Nat.le_refl _⟩ (ct_X11_isSheet ?_)
  refine V_if_eq (pc := 4) 20 d_X11_cell_4 (by decide) (fun c4 => ?_) (fun c4 => ?_)
  · replace c4 := zf c4
    refine V_aload_n (pc := 20) d_X11_cell_20 rfl ?_
    refine V_iconst (pc := 21) (1) d_X11_cell_21 (by decide) ?_
    refine V_cvI (pc := 22) (n := 1) (c := 11) [_] d_X11_cell_22 c_X11_55 k_X11_refused ⟨rfl, rfl⟩ (tt_3 b) rfl (Nat.le_of_ble_eq_true rfl) ⟨Nat.le_of_ble_eq_true rfl, Nat.le_of_ble_eq_true rfl⟩ ⟨Nat.le_refl _, Nat.le_refl _⟩ (ct_X11_refused ?_)
    exact V_retI (pc := 25) d_X11_cell_25 rfl ⟨Nat.le_refl _, Nat.le_refl _⟩ (h1 (by
                        rintro ⟨s, gs, es, d0, d1⟩
                        try subst es
                        simp (disch := omega) only [nI_toInt, nI_eq] at *
                        omega))
  · replace c4 := zt c4
    refine V_iload_n (pc := 7) d_X11_cell_7 rfl ?_
    refine V_sipush (pc := 8) (-1000) d_X11_cell_8 (by decide) ?_
    refine V_sipush (pc := 11) (nI 1000) d_X11_cell_11 (by decide) ?_
    refine V_csI (pc := 14) (n := 1) [_, _, _] d_X11_cell_14 c_X11_51 k_X11_isWithin rfl (Nat.le_of_ble_eq_true rfl) ⟨Nat.le_of_ble_eq_true rfl, Nat.le_of_ble_eq_true rfl⟩ ⟨Nat.le_refl _, Nat.le_refl _⟩ (ct_X11_isWithin (lo := -1000) (hi := 1000) (by decide) (by decide) ?_)
    refine V_if_ne (pc := 17) 26 d_X11_cell_17 (by decide) (fun c17 => ?_) (fun c17 => ?_)
    · replace c17 := zt c17
      obtain ⟨s, hs, rfl, -⟩ := nat_of (n := 4) (x := x) (by omega) (by omega) (by omega)
      obtain ⟨q1, q2, q3, ⟨n, hn, en⟩, q5⟩ := hQ s hs
      refine V_aload_n (pc := 26) d_X11_cell_26 rfl ?_
      refine P_getR (pc := 27) d_X11_cell_27 f_X11_28 (tt_3 b) (rr_3_4 b) ?_
      refine V_iload_n (pc := 30) d_X11_cell_30 rfl ?_
      refine P_aald (pc := 31) (c := 6) (s) d_X11_cell_31 (tt_123 b) (by decide) rfl (ln_of (ll_123 b) ⟨by omega, by decide⟩) (rSHT b (by omega)) ?_
      refine V_astore (pc := 32) d_X11_cell_32 (by decide) ?_
      refine V_aload (pc := 34) d_X11_cell_34 rfl ?_
      refine V_cvI (pc := 36) (n := 1) (c := 6) [] d_X11_cell_36 c_X11_330 k_X6_isMissing ⟨rfl, rfl⟩ (tSHT b (by omega)) rfl (Nat.le_of_ble_eq_true rfl) ⟨Nat.le_of_ble_eq_true rfl, Nat.le_of_ble_eq_true rfl⟩ ⟨Nat.le_refl _, Nat.le_refl _⟩ (ct_X6_isMissing (tSHT b (by omega)) ?_)
      rw [q1]
      refine V_if_eq (pc := 39) 49 d_X11_cell_39 (by decide) (fun c39 => ?_) (fun c39 => ?_)
      · replace c39 := zf c39
        refine V_aload (pc := 49) d_X11_cell_49 rfl ?_
        refine V_iload_n (pc := 51) d_X11_cell_51 rfl ?_
        refine V_cvI (pc := 52) (n := 2) (c := 6) [_] d_X11_cell_52 c_X11_333 k_X6_hasPlace ⟨rfl, rfl⟩ (tSHT b (by omega)) rfl (Nat.le_of_ble_eq_true rfl) ⟨Nat.le_of_ble_eq_true rfl, Nat.le_of_ble_eq_true rfl⟩ ⟨Nat.le_refl _, Nat.le_refl _⟩ (ct_X6_hasPlace (tSHT b (by omega)) (q2.trans en) hn ?_)
        refine V_if_ne (pc := 55) 65 d_X11_cell_55 (by decide) (fun c55 => ?_) (fun c55 => ?_)
        · replace c55 := zt c55
          obtain ⟨j, hj, rfl, -⟩ := nat_of (n := n) (x := y) (by omega) (by omega) (by omega)
          refine V_aload (pc := 65) d_X11_cell_65 rfl ?_
          refine V_iload_n (pc := 67) d_X11_cell_67 rfl ?_
          refine V_iload_n (pc := 68) d_X11_cell_68 rfl ?_
          refine V_cvV (pc := 69) (n := 1) (c := 6) [_, _] d_X11_cell_69 c_X11_336 k_X6_put ⟨rfl, rfl⟩ (tSHT b (by omega)) rfl (Nat.le_of_ble_eq_true rfl) ⟨Nat.le_of_ble_eq_true rfl, Nat.le_of_ble_eq_true rfl⟩ ⟨Nat.le_refl _, Nat.le_refl _⟩ (ct_X6_put (tSHT b (by omega)) (rSHT2 b (by omega)) (tNUM b (by omega)) (lNUM b (by omega)) (by omega) ?_)
          rw [q1]
          refine V_aload_n (pc := 72) d_X11_cell_72 rfl ?_
          refine V_iconst (pc := 73) (1) d_X11_cell_73 (by decide) ?_
          refine V_cvI (pc := 74) (n := 1) (c := 11) [_] d_X11_cell_74 c_X11_72 k_X11_done ⟨rfl, rfl⟩ (tt_3 b) rfl (Nat.le_of_ble_eq_true rfl) ⟨Nat.le_of_ble_eq_true rfl, Nat.le_of_ble_eq_true rfl⟩ ⟨Nat.le_refl _, Nat.le_refl _⟩ (ct_X11_done ?_)
          exact V_retI (pc := 77) d_X11_cell_77 rfl ⟨Nat.le_refl _, Nat.le_refl _⟩ (by have k := h2 s hs rfl (by omega) (by omega) ⟨c39, by rw [en, show (nI n).toInt = (n : Int) from nI_toInt (by omega)]; exact c55⟩; rw [nI_clamp (by omega)] at k; exact k)
        · replace c55 := zf c55
          refine V_aload_n (pc := 58) d_X11_cell_58 rfl ?_
          refine V_bipush (pc := 59) (nI 12) d_X11_cell_59 (by decide) ?_
          refine V_cvI (pc := 61) (n := 1) (c := 11) [_] d_X11_cell_61 c_X11_55 k_X11_refused ⟨rfl, rfl⟩ (tt_3 b) rfl (Nat.le_of_ble_eq_true rfl) ⟨Nat.le_of_ble_eq_true rfl, Nat.le_of_ble_eq_true rfl⟩ ⟨Nat.le_refl _, Nat.le_refl _⟩ (ct_X11_refused ?_)
          exact V_retI (pc := 64) d_X11_cell_64 rfl ⟨Nat.le_refl _, Nat.le_refl _⟩ (h12 s hs rfl (by omega) (by omega) ⟨c39, fun z => c55 (by rw [en, nI_toInt (by omega)] at z; exact z)⟩)
      · replace c39 := zt c39
        refine V_aload_n (pc := 42) d_X11_cell_42 rfl ?_
        refine V_bipush (pc := 43) (nI 10) d_X11_cell_43 (by decide) ?_
        refine V_cvI (pc := 45) (n := 1) (c := 11) [_] d_X11_cell_45 c_X11_55 k_X11_refused ⟨rfl, rfl⟩ (tt_3 b) rfl (Nat.le_of_ble_eq_true rfl) ⟨Nat.le_of_ble_eq_true rfl, Nat.le_of_ble_eq_true rfl⟩ ⟨Nat.le_refl _, Nat.le_refl _⟩ (ct_X11_refused ?_)
        exact V_retI (pc := 48) d_X11_cell_48 rfl ⟨Nat.le_refl _, Nat.le_refl _⟩ (h10 s hs rfl (by omega) (by omega) c39)
    · replace c17 := zf c17
      refine V_aload_n (pc := 20) d_X11_cell_20 rfl ?_
      refine V_iconst (pc := 21) (1) d_X11_cell_21 (by decide) ?_
      refine V_cvI (pc := 22) (n := 1) (c := 11) [_] d_X11_cell_22 c_X11_55 k_X11_refused ⟨rfl, rfl⟩ (tt_3 b) rfl (Nat.le_of_ble_eq_true rfl) ⟨Nat.le_of_ble_eq_true rfl, Nat.le_of_ble_eq_true rfl⟩ ⟨Nat.le_refl _, Nat.le_refl _⟩ (ct_X11_refused ?_)
      exact V_retI (pc := 25) d_X11_cell_25 rfl ⟨Nat.le_refl _, Nat.le_refl _⟩ (h1 (by
                        rintro ⟨s, gs, es, d0, d1⟩
                        try subst es
                        simp (disch := omega) only [nI_toInt, nI_eq] at *
                        omega))
theorem ct_X12_cell {x y z : Int32} {ρ : Sg} {q ns nb nl nt nr : Nat} (hR : RR ρ 4 σ q ns nb nl nt nr) (hQ : ∀ s, s < 4 → ∃ n, n ≤ 40 ∧ σ 189 s = nI n) (h1 : ¬ (∃ s, s < 4 ∧ x = nI s ∧ -1000 ≤ z.toInt ∧ z.toInt ≤ 1000) → K (-1) (up2 σ 139 0 1, sh b)) (h10 : ∀ (s : Nat), s < 4 → x = nI s → -1000 ≤ z.toInt → z.toInt ≤ 1000 → σ 188 s = -1 → K (-1) (up2 σ 139 0 (nI 10), sh b)) (h12 : ∀ (s : Nat), s < 4 → x = nI s → -1000 ≤ z.toInt → z.toInt ≤ 1000 → ¬ σ 188 s = -1 ∧ ¬ (0 ≤ y.toInt ∧ y.toInt ≤ (σ 189 s).toInt - 1) → K (-1) (up2 σ 139 0 (nI 12), sh b)) (h2 : ∀ (s : Nat), s < 4 → x = nI s → -1000 ≤ z.toInt → z.toInt ≤ 1000 → ¬ σ 188 s = -1 ∧ (0 ≤ y.toInt ∧ y.toInt ≤ (σ 189 s).toInt - 1) → K (1) (up2 (up2 (up2 σ 190 (40 * s + y.toNatClampNeg) (if σ 188 s = 0 then z.toInt8.toInt32 else z)) 191 (40 * s + y.toNatClampNeg) 0) 139 0 0, sh b)) : CM G mX12_cell (rl 2) [.ref 139, .int x, .int y, .int z] (σ, sh b) (QI K) := by
  obtain ⟨⟨⟨hq2, hn10, hnb, hnl, hnt, hnr⟩, ⟨vq, vns, vnb, vnl, vnt, vnr⟩, ⟨rq, rns, rnb, rnl, rnt, rnr⟩, hpd⟩, hH, hC, hS, hLD, hB, hA, hT, hU⟩ := hR
  refine CM.of (by decide) (Nat.le_of_ble_eq_true rfl) (cats1 rfl) ?_
  refine V_iload_n (pc := 0) d_X12_cell_0 rfl ?_
  refine V_iconst (pc := 1) (0) d_X12_cell_1 (by decide) ?_
  refine V_iconst (pc := 2) (nI 3) d_X12_cell_2 (by decide) ?_
  refine V_csI (pc := 3) (n := 1) [_, _, _] d_X12_cell_3 c_X12_174 k_X12_in rfl (Nat.le_of_ble_eq_true rfl) ⟨Nat.le_of_ble_eq_true rfl, Nat.le_of_ble_eq_true rfl⟩ ⟨Nat.le_refl _, Nat.le_refl _⟩ (ct_X12_in (lo := 0) (hi := 3) (by decide) (by decide) ?_)
  refine V_if_eq (pc := 6) 22 d_X12_cell_6 (by decide) (fun c6 => ?_) (fun c6 => ?_)
  · replace c6 := zf c6
    refine V_aload_n (pc := 22) d_X12_cell_22 rfl ?_
    refine V_iconst (pc := 23) (1) d_X12_cell_23 (by decide) ?_
    refine V_cvI (pc := 24) (n := 1) (c := 12) [_] d_X12_cell_24 c_X12_187 k_X12_refused ⟨rfl, rfl⟩ (tt_139 b) rfl (Nat.le_of_ble_eq_true rfl) ⟨Nat.le_of_ble_eq_true rfl, Nat.le_of_ble_eq_true rfl⟩ ⟨Nat.le_refl _, Nat.le_refl _⟩ (ct_X12_refused ?_)
    exact V_retI (pc := 27) d_X12_cell_27 rfl ⟨Nat.le_refl _, Nat.le_refl _⟩ (h1 (by
                        rintro ⟨s, gs, es, d0, d1⟩
                        try subst es
                        simp (disch := omega) only [nI_toInt, nI_eq] at *
                        omega))
  · replace c6 := zt c6
    refine V_iload_n (pc := 9) d_X12_cell_9 rfl ?_
    refine V_sipush (pc := 10) (-1000) d_X12_cell_10 (by decide) ?_
    refine V_sipush (pc := 13) (nI 1000) d_X12_cell_13 (by decide) ?_
    refine V_csI (pc := 16) (n := 1) [_, _, _] d_X12_cell_16 c_X12_174 k_X12_in rfl (Nat.le_of_ble_eq_true rfl) ⟨Nat.le_of_ble_eq_true rfl, Nat.le_of_ble_eq_true rfl⟩ ⟨Nat.le_refl _, Nat.le_refl _⟩ (ct_X12_in (lo := -1000) (hi := 1000) (by decide) (by decide) ?_)
    refine V_if_ne (pc := 19) 28 d_X12_cell_19 (by decide) (fun c19 => ?_) (fun c19 => ?_)
    · replace c19 := zt c19
      obtain ⟨s, hs, rfl, -⟩ := nat_of (n := 4) (x := x) (by omega) (by omega) (by omega)
      obtain ⟨n, hn, en⟩ := hQ s hs
      refine V_aload_n (pc := 28) d_X12_cell_28 rfl ?_
      refine P_getR (pc := 29) d_X12_cell_29 f_X12_155 (tt_139 b) (rr_139_60 b) ?_
      refine V_iload_n (pc := 32) d_X12_cell_32 rfl ?_
      refine P_iald (pc := 33) (s) d_X12_cell_33 (tt_188 b) rfl (ln_of (ll_188 b) ⟨by omega, by decide⟩) ?_
      refine V_iconst (pc := 34) (-1) d_X12_cell_34 (by decide) ?_
      refine V_icmp_ne (pc := 35) 45 d_X12_cell_35 (by decide) (fun c35 => ?_) (fun c35 => ?_)
      · refine V_iload_n (pc := 45) d_X12_cell_45 rfl ?_
        refine V_iconst (pc := 46) (0) d_X12_cell_46 (by decide) ?_
        refine V_aload_n (pc := 47) d_X12_cell_47 rfl ?_
        refine P_getR (pc := 48) d_X12_cell_48 f_X12_158 (tt_139 b) (rr_139_61 b) ?_
        refine V_iload_n (pc := 51) d_X12_cell_51 rfl ?_
        refine P_iald (pc := 52) (s) d_X12_cell_52 (tt_189 b) rfl (ln_of (ll_189 b) ⟨by omega, by decide⟩) ?_
        refine V_iconst (pc := 53) (1) d_X12_cell_53 (by decide) ?_
        refine V_isub (pc := 54) d_X12_cell_54 ?_
        refine V_csI (pc := 55) (n := 1) [_, _, _] d_X12_cell_55 c_X12_174 k_X12_in rfl (Nat.le_of_ble_eq_true rfl) ⟨Nat.le_of_ble_eq_true rfl, Nat.le_of_ble_eq_true rfl⟩ ⟨Nat.le_refl _, Nat.le_refl _⟩ (ct_X12_in (lo := 0) (hi := (n : Int) - 1) (by decide) (cntm1 en (by omega)) ?_)
        refine V_if_ne (pc := 58) 68 d_X12_cell_58 (by decide) (fun c58 => ?_) (fun c58 => ?_)
        · replace c58 := zt c58
          obtain ⟨j, hj, rfl, -⟩ := nat_of (n := n) (x := y) (by omega) (by omega) (by omega)
          refine V_aload_n (pc := 68) d_X12_cell_68 rfl ?_
          refine P_getR (pc := 69) d_X12_cell_69 f_X12_161 (tt_139 b) (rr_139_62 b) ?_
          refine V_bipush (pc := 72) (nI 40) d_X12_cell_72 (by decide) ?_
          refine V_iload_n (pc := 74) d_X12_cell_74 rfl ?_
          refine V_imul (pc := 75) d_X12_cell_75 ?_
          refine V_iload_n (pc := 76) d_X12_cell_76 rfl ?_
          refine V_iadd (pc := 77) d_X12_cell_77 ?_
          refine V_aload_n (pc := 78) d_X12_cell_78 rfl ?_
          refine P_getR (pc := 79) d_X12_cell_79 f_X12_155 (tt_139 b) (rr_139_60 b) ?_
          refine V_iload_n (pc := 82) d_X12_cell_82 rfl ?_
          refine P_iald (pc := 83) (s) d_X12_cell_83 (tt_188 b) rfl (ln_of (ll_188 b) ⟨by omega, by decide⟩) ?_
          refine V_if_ne (pc := 84) 92 d_X12_cell_84 (by decide) (fun c84 => ?_) (fun c84 => ?_)
          · refine V_iload_n (pc := 92) d_X12_cell_92 rfl ?_
            refine P_iast (pc := 93) (((40 * s) + j)) d_X12_cell_93 (tt_190 b) (by simp only [nI_add, pk_mul, nI_1]) (ln_of (ll_190 b) ⟨by omega, by decide⟩) ?_
            refine V_aload_n (pc := 94) d_X12_cell_94 rfl ?_
            refine P_getR (pc := 95) d_X12_cell_95 f_X12_164 (tt_139 b) (rr_139_63 b) ?_
            refine V_bipush (pc := 98) (nI 40) d_X12_cell_98 (by decide) ?_
            refine V_iload_n (pc := 100) d_X12_cell_100 rfl ?_
            refine V_imul (pc := 101) d_X12_cell_101 ?_
            refine V_iload_n (pc := 102) d_X12_cell_102 rfl ?_
            refine V_iadd (pc := 103) d_X12_cell_103 ?_
            refine V_iconst (pc := 104) (0) d_X12_cell_104 (by decide) ?_
            refine P_zast (pc := 105) (((40 * s) + j)) d_X12_cell_105 (tt_191 b) (by simp only [nI_add, pk_mul, nI_1]) (ln_of (ll_191 b) ⟨by omega, by decide⟩) (Or.inl rfl) ?_
            refine V_aload_n (pc := 106) d_X12_cell_106 rfl ?_
            refine V_iconst (pc := 107) (1) d_X12_cell_107 (by decide) ?_
            refine V_cvI (pc := 108) (n := 1) (c := 12) [_] d_X12_cell_108 c_X12_191 k_X12_done ⟨rfl, rfl⟩ (tt_139 b) rfl (Nat.le_of_ble_eq_true rfl) ⟨Nat.le_of_ble_eq_true rfl, Nat.le_of_ble_eq_true rfl⟩ ⟨Nat.le_refl _, Nat.le_refl _⟩ (ct_X12_done ?_)
            exact V_retI (pc := 111) d_X12_cell_111 rfl ⟨Nat.le_refl _, Nat.le_refl _⟩ (by have k := h2 s hs rfl (by omega) (by omega) ⟨c35, by rw [en, show (nI n).toInt = (n : Int) from nI_toInt (by omega)]; exact c58⟩; rw [nI_clamp (by omega)] at k; simp only [c84, if_true, if_false] at k; exact k)
          · refine V_iload_n (pc := 87) d_X12_cell_87 rfl ?_
            refine V_i2b (pc := 88) d_X12_cell_88 ?_
            refine V_goto (pc := 89) 93 d_X12_cell_89 (by decide) ?_
            refine P_iast (pc := 93) (((40 * s) + j)) d_X12_cell_93 (tt_190 b) (by simp only [nI_add, pk_mul, nI_1]) (ln_of (ll_190 b) ⟨by omega, by decide⟩) ?_
            refine V_aload_n (pc := 94) d_X12_cell_94 rfl ?_
            refine P_getR (pc := 95) d_X12_cell_95 f_X12_164 (tt_139 b) (rr_139_63 b) ?_
            refine V_bipush (pc := 98) (nI 40) d_X12_cell_98 (by decide) ?_
            refine V_iload_n (pc := 100) d_X12_cell_100 rfl ?_
            refine V_imul (pc := 101) d_X12_cell_101 ?_
            refine V_iload_n (pc := 102) d_X12_cell_102 rfl ?_
            refine V_iadd (pc := 103) d_X12_cell_103 ?_
            refine V_iconst (pc := 104) (0) d_X12_cell_104 (by decide) ?_
            refine P_zast (pc := 105) (((40 * s) + j)) d_X12_cell_105 (tt_191 b) (by simp only [nI_add, pk_mul, nI_1]) (ln_of (ll_191 b) ⟨by omega, by decide⟩) (Or.inl rfl) ?_
            refine V_aload_n (pc := 106) d_X12_cell_106 rfl ?_
            refine V_iconst (pc := 107) (1) d_X12_cell_107 (by decide) ?_
            refine V_cvI (pc := 108) (n := 1) (c := 12) [_] d_X12_cell_108 c_X12_191 k_X12_done ⟨rfl, rfl⟩ (tt_139 b) rfl (Nat.le_of_ble_eq_true rfl) ⟨Nat.le_of_ble_eq_true rfl, Nat.le_of_ble_eq_true rfl⟩ ⟨Nat.le_refl _, Nat.le_refl _⟩ (ct_X12_done ?_)
            exact V_retI (pc := 111) d_X12_cell_111 rfl ⟨Nat.le_refl _, Nat.le_refl _⟩ (by have k := h2 s hs rfl (by omega) (by omega) ⟨c35, by rw [en, show (nI n).toInt = (n : Int) from nI_toInt (by omega)]; exact c58⟩; rw [nI_clamp (by omega)] at k; simp only [c84, if_true, if_false] at k; exact k)
        · replace c58 := zf c58
          refine V_aload_n (pc := 61) d_X12_cell_61 rfl ?_
          refine V_bipush (pc := 62) (nI 12) d_X12_cell_62 (by decide) ?_
          refine V_cvI (pc := 64) (n := 1) (c := 12) [_] d_X12_cell_64 c_X12_187 k_X12_refused ⟨rfl, rfl⟩ (tt_139 b) rfl (Nat.le_of_ble_eq_true rfl) ⟨Nat.le_of_ble_eq_true rfl, Nat.le_of_ble_eq_true rfl⟩ ⟨Nat.le_refl _, Nat.le_refl _⟩ (ct_X12_refused ?_)
          exact V_retI (pc := 67) d_X12_cell_67 rfl ⟨Nat.le_refl _, Nat.le_refl _⟩ (h12 s hs rfl (by omega) (by omega) ⟨c35, fun z => c58 (by rw [en, nI_toInt (by omega)] at z; exact z)⟩)
      · refine V_aload_n (pc := 38) d_X12_cell_38 rfl ?_
        refine V_bipush (pc := 39) (nI 10) d_X12_cell_39 (by decide) ?_
        refine V_cvI (pc := 41) (n := 1) (c := 12) [_] d_X12_cell_41 c_X12_187 k_X12_refused ⟨rfl, rfl⟩ (tt_139 b) rfl (Nat.le_of_ble_eq_true rfl) ⟨Nat.le_of_ble_eq_true rfl, Nat.le_of_ble_eq_true rfl⟩ ⟨Nat.le_refl _, Nat.le_refl _⟩ (ct_X12_refused ?_)
        exact V_retI (pc := 44) d_X12_cell_44 rfl ⟨Nat.le_refl _, Nat.le_refl _⟩ (h10 s hs rfl (by omega) (by omega) c35)
    · replace c19 := zf c19
      refine V_aload_n (pc := 22) d_X12_cell_22 rfl ?_
      refine V_iconst (pc := 23) (1) d_X12_cell_23 (by decide) ?_
      refine V_cvI (pc := 24) (n := 1) (c := 12) [_] d_X12_cell_24 c_X12_187 k_X12_refused ⟨rfl, rfl⟩ (tt_139 b) rfl (Nat.le_of_ble_eq_true rfl) ⟨Nat.le_of_ble_eq_true rfl, Nat.le_of_ble_eq_true rfl⟩ ⟨Nat.le_refl _, Nat.le_refl _⟩ (ct_X12_refused ?_)
      exact V_retI (pc := 27) d_X12_cell_27 rfl ⟨Nat.le_refl _, Nat.le_refl _⟩ (h1 (by
                        rintro ⟨s, gs, es, d0, d1⟩
                        try subst es
                        simp (disch := omega) only [nI_toInt, nI_eq] at *
                        omega))
theorem pr_cell {x y z : Int32}  (h : Rel σ b)  : PR G mX11_cell mX12_cell 3 2 [.int x, .int y, .int z] σ b := by
  have h0 := h
  obtain ⟨q, ns, nb, nl, nt, nr, hR, hX, hP, hQ, hK⟩ := h
  have hbd := hR.1.1
  refine ct_X11_cell hR hQ (fun hv => ?_) (fun s hs es d0 d1 hv => ?_) (fun s hs es d0 d1 hv => ?_) (fun s hs es d0 d1 hv => ?_)
  · exact ⟨rfl, ct_X12_cell (RR_lo hR (fun a i _ _ => by simp (disch := omega) only [up2_n, filr_n, film_n])) (fun s hs => by simp (disch := omega) only [up2_n]; exact (hQ s hs).2.2.2.1) (fun _ => ⟨rfl, _, rfl, rel_ref h0⟩) (fun s hs es d0 d1 _ => absurd ⟨s, hs, es, d0, d1⟩ hv) (fun s hs es d0 d1 _ => absurd ⟨s, hs, es, d0, d1⟩ hv) (fun s hs es d0 d1 _ => absurd ⟨s, hs, es, d0, d1⟩ hv)⟩
  · refine ⟨rfl, ct_X12_cell (RR_lo hR (fun a i _ _ => by simp (disch := omega) only [up2_n, filr_n, film_n])) (fun s hs => by simp (disch := omega) only [up2_n]; exact (hQ s hs).2.2.2.1) (fun hv => absurd ⟨s, hs, es, d0, d1⟩ hv) (fun s' hs' es' d0' d1' hv' => ?_) (fun s' hs' es' d0' d1' hv' => ?_) (fun s' hs' es' d0' d1' hv' => ?_)⟩
    · obtain rfl : s' = s := (nI_eq (by omega) (by omega)).mp (es'.symm.trans es)
      exact ⟨rfl, _, rfl, rel_ref h0⟩
    · obtain rfl : s' = s := (nI_eq (by omega) (by omega)).mp (es'.symm.trans es)
      simp (disch := omega) only [up2_n] at hv'
      first | (exfalso; exact hv'.1 hv) | (exfalso; exact hv.1 hv') | exact absurd hv hv' | exact absurd hv' hv | exact absurd hv.1 hv' | exact absurd hv'.1 hv | exact absurd hv hv'.1 | exact absurd hv' hv.1 | exact absurd hv.2 hv'.2 | exact absurd hv'.2 hv.2 | exact absurd hv.1 hv'.2 | exact absurd hv'.1 hv.2 | exact absurd (hv.symm.trans hv'.1) (by decide) | exact absurd (hv'.symm.trans hv.1) (by decide)
    · obtain rfl : s' = s := (nI_eq (by omega) (by omega)).mp (es'.symm.trans es)
      simp (disch := omega) only [up2_n] at hv'
      first | (exfalso; exact hv'.1 hv) | (exfalso; exact hv.1 hv') | exact absurd hv hv' | exact absurd hv' hv | exact absurd hv.1 hv' | exact absurd hv'.1 hv | exact absurd hv hv'.1 | exact absurd hv' hv.1 | exact absurd hv.2 hv'.2 | exact absurd hv'.2 hv.2 | exact absurd hv.1 hv'.2 | exact absurd hv'.1 hv.2 | exact absurd (hv.symm.trans hv'.1) (by decide) | exact absurd (hv'.symm.trans hv.1) (by decide)
  · refine ⟨rfl, ct_X12_cell (RR_lo hR (fun a i _ _ => by simp (disch := omega) only [up2_n, filr_n, film_n])) (fun s hs => by simp (disch := omega) only [up2_n]; exact (hQ s hs).2.2.2.1) (fun hv => absurd ⟨s, hs, es, d0, d1⟩ hv) (fun s' hs' es' d0' d1' hv' => ?_) (fun s' hs' es' d0' d1' hv' => ?_) (fun s' hs' es' d0' d1' hv' => ?_)⟩
    · obtain rfl : s' = s := (nI_eq (by omega) (by omega)).mp (es'.symm.trans es)
      simp (disch := omega) only [up2_n] at hv'
      first | (exfalso; exact hv'.1 hv) | (exfalso; exact hv.1 hv') | exact absurd hv hv' | exact absurd hv' hv | exact absurd hv.1 hv' | exact absurd hv'.1 hv | exact absurd hv hv'.1 | exact absurd hv' hv.1 | exact absurd hv.2 hv'.2 | exact absurd hv'.2 hv.2 | exact absurd hv.1 hv'.2 | exact absurd hv'.1 hv.2 | exact absurd (hv.symm.trans hv'.1) (by decide) | exact absurd (hv'.symm.trans hv.1) (by decide)
    · obtain rfl : s' = s := (nI_eq (by omega) (by omega)).mp (es'.symm.trans es)
      exact ⟨rfl, _, rfl, rel_ref h0⟩
    · obtain rfl : s' = s := (nI_eq (by omega) (by omega)).mp (es'.symm.trans es)
      simp (disch := omega) only [up2_n] at hv'
      first | (exfalso; exact hv'.1 hv) | (exfalso; exact hv.1 hv') | exact absurd hv hv' | exact absurd hv' hv | exact absurd hv.1 hv' | exact absurd hv'.1 hv | exact absurd hv hv'.1 | exact absurd hv' hv.1 | exact absurd hv.2 hv'.2 | exact absurd hv'.2 hv.2 | exact absurd hv.1 hv'.2 | exact absurd hv'.1 hv.2 | exact absurd (hv.symm.trans hv'.1) (by decide) | exact absurd (hv'.symm.trans hv.1) (by decide)
  · obtain ⟨n, hn, en⟩ := (hQ s hs).2.2.2.1
    obtain ⟨j, hj, ej, ej2⟩ := nat_of (n := n) (x := y) hv.2.1 (by have := hv.2.2; rw [en, nI_toInt (by omega)] at this; omega) (by omega)
    rw [ej2]
    refine ⟨rfl, ct_X12_cell (RR_lo hR (fun a i _ _ => by simp (disch := omega) only [up2_n, filr_n, film_n])) (fun s hs => by simp (disch := omega) only [up2_n]; exact (hQ s hs).2.2.2.1) (fun hv => absurd ⟨s, hs, es, d0, d1⟩ hv) (fun s' hs' es' d0' d1' hv' => ?_) (fun s' hs' es' d0' d1' hv' => ?_) (fun s' hs' es' d0' d1' hv' => ?_)⟩
    · obtain rfl : s' = s := (nI_eq (by omega) (by omega)).mp (es'.symm.trans es)
      simp (disch := omega) only [up2_n] at hv'
      first | (exfalso; exact hv'.1 hv) | (exfalso; exact hv.1 hv') | exact absurd hv hv' | exact absurd hv' hv | exact absurd hv.1 hv' | exact absurd hv'.1 hv | exact absurd hv hv'.1 | exact absurd hv' hv.1 | exact absurd hv.2 hv'.2 | exact absurd hv'.2 hv.2 | exact absurd hv.1 hv'.2 | exact absurd hv'.1 hv.2 | exact absurd (hv.symm.trans hv'.1) (by decide) | exact absurd (hv'.symm.trans hv.1) (by decide)
    · obtain rfl : s' = s := (nI_eq (by omega) (by omega)).mp (es'.symm.trans es)
      simp (disch := omega) only [up2_n] at hv'
      first | (exfalso; exact hv'.1 hv) | (exfalso; exact hv.1 hv') | exact absurd hv hv' | exact absurd hv' hv | exact absurd hv.1 hv' | exact absurd hv'.1 hv | exact absurd hv hv'.1 | exact absurd hv' hv.1 | exact absurd hv.2 hv'.2 | exact absurd hv'.2 hv.2 | exact absurd hv.1 hv'.2 | exact absurd hv'.1 hv.2 | exact absurd (hv.symm.trans hv'.1) (by decide) | exact absurd (hv'.symm.trans hv.1) (by decide)
    · obtain rfl : s' = s := (nI_eq (by omega) (by omega)).mp (es'.symm.trans es)
      obtain ⟨hcn, hH, hC, hS, hLD, hB, hA, hT, hU⟩ := id hR
      have hbd := hcn.1
      rw [ej2]
      simp (disch := omega) only [up2_n, true_and]
      refine ⟨_, rfl, ?_⟩
      exact ⟨q, ns, nb, nl, nt, nr, ⟨cCnt_cg hcn (fun i _ _ => (by simp (disch := omega) only [up2_n, filr_n, film_n])) (fun i hi => by rcases hi with rfl | rfl | rfl | rfl | rfl | rfl | rfl <;> simp (disch := omega) only [up2_n, filr_n, film_n]), cH_cg hH (by simp (disch := omega) only [up2_n, filr_n, film_n]) (fun d _ => (by simp (disch := omega) only [up2_n, filr_n, film_n])) (fun d _ => ⟨(by simp (disch := omega) only [up2_n, filr_n, film_n]), (by simp (disch := omega) only [up2_n, filr_n, film_n])⟩), cC_cg hC (fun d _ => (by simp (disch := omega) only [up2_n, filr_n, film_n])) (fun d _ => (by simp (disch := omega) only [up2_n, filr_n, film_n])), cS_cg hS (fun k _ => ⟨fun j => (by simp (disch := omega) only [up2_n, filr_n, film_n]), fun d _ => (by simp (disch := omega) only [up2_n, filr_n, film_n])⟩) (fun k _ => ⟨(by simp (disch := omega) only [up2_n, filr_n, film_n]), (by simp (disch := omega) only [up2_n, filr_n, film_n]), (by simp (disch := omega) only [up2_n, filr_n, film_n]), (by simp (disch := omega) only [up2_n, filr_n, film_n])⟩) (fun i _ => ⟨(by simp (disch := omega) only [up2_n, filr_n, film_n]), (by simp (disch := omega) only [up2_n, filr_n, film_n])⟩), cL_cg hLD (fun l _ => ⟨(by simp (disch := omega) only [up2_n, filr_n, film_n]), fun k _ => ⟨(by simp (disch := omega) only [up2_n, filr_n, film_n]), (by simp (disch := omega) only [up2_n, filr_n, film_n])⟩⟩) (fun l _ => (by simp (disch := omega) only [up2_n, filr_n, film_n])) (fun m _ _ => ⟨(by simp (disch := omega) only [up2_n, filr_n, film_n]), (by simp (disch := omega) only [up2_n, filr_n, film_n])⟩), cB_cg hB (fun i _ => ⟨fun j => (by simp (disch := omega) only [up2_n, filr_n, film_n]), fun k _ => ⟨(by simp (disch := omega) only [up2_n, filr_n, film_n]), (by simp (disch := omega) only [up2_n, filr_n, film_n])⟩⟩) (fun i _ a _ _ => (by simp (disch := omega) only [up2_n, filr_n, film_n])) (fun m _ => ⟨(by simp (disch := omega) only [up2_n, filr_n, film_n]), (by simp (disch := omega) only [up2_n, filr_n, film_n])⟩) (fun j _ => ⟨(by simp (disch := omega) only [up2_n, filr_n, film_n]), (by simp (disch := omega) only [up2_n, filr_n, film_n]), (by simp (disch := omega) only [up2_n, filr_n, film_n])⟩), cA_cg hA (fun j _ i => (by simp (disch := omega) only [up2_n, filr_n, film_n])) (fun j _ a _ _ => (by simp (disch := omega) only [up2_n, filr_n, film_n])), cT_cg hT (fun j _ i => (by simp (disch := omega) only [up2_n, filr_n, film_n])) (fun j _ a _ _ => (by simp (disch := omega) only [up2_n, filr_n, film_n])), cU_cg hU (fun j _ i => (by simp (disch := omega) only [up2_n, filr_n, film_n])) (fun j _ a _ _ => (by simp (disch := omega) only [up2_n, filr_n, film_n]))⟩, cX_cg hX (by simp (disch := omega) only [up2_n, up2_e, filr_n, film_n]) ⟨(by simp (disch := omega) only [up2_n, filr_n, film_n]), (by simp (disch := omega) only [up2_n, filr_n, film_n])⟩, cP_cg hP ⟨(by simp (disch := omega) only [up2_n, filr_n, film_n]), (by simp (disch := omega) only [up2_n, filr_n, film_n])⟩ (fun j _ => ⟨(by simp (disch := omega) only [up2_n, filr_n, film_n]), (by simp (disch := omega) only [up2_n, filr_n, film_n])⟩), cQ_at (s0 := s') hQ (fun _ => by
              obtain ⟨g1, g2, g3, g4, g5⟩ := hQ s' hs
              refine ⟨?_, ?_, ?_, ?_, fun e he => ?_⟩
              · simp (disch := omega) only [up2_n]; exact g1
              · simp (disch := omega) only [up2_n]; exact g2
              · simp (disch := omega) only [up2_n]; exact g3
              · simp (disch := omega) only [up2_n]; exact g4
              · by_cases w : e = j
                · subst w
                  have bz := byte_rg z
                  refine ⟨?_, ?_, Or.inl ⟨?_, ?_⟩⟩
                  all_goals simp (disch := omega) only [up2_n, up2_e]
                  · split <;> omega
                  · split <;> omega
                · have := g5 e he
                  simp (disch := omega) only [up2_n, up2_e]
                  exact this) (fun s _ _ => ⟨fun j => (by simp (disch := omega) only [up2_n, filr_n, film_n]), fun j _ => (by simp (disch := omega) only [up2_n, filr_n, film_n]), (by simp (disch := omega) only [up2_n, filr_n, film_n]), (by simp (disch := omega) only [up2_n, filr_n, film_n]), fun j _ => ⟨(by simp (disch := omega) only [up2_n, filr_n, film_n]), (by simp (disch := omega) only [up2_n, filr_n, film_n])⟩⟩), cK_cg hK (by simp (disch := omega) only [up2_n, filr_n, film_n]) (fun a i _ => (by simp (disch := omega) only [up2_n, filr_n, film_n])) (fun a i _ => (by simp (disch := omega) only [up2_n, filr_n, film_n])) (by omega) (by omega) (by omega) (by omega) (by omega)⟩
theorem ct_X11_none {x y : Int32} {q ns nb nl nt nr : Nat} (hR : RR σ 4 σ q ns nb nl nt nr) (hQ : cQ σ) (h1 : ¬ (∃ s, s < 4 ∧ x = nI s) → K (-1) (up2 σ 3 3 1, sh b)) (h10 : ∀ (s : Nat), s < 4 → x = nI s → σ 188 s = -1 → K (-1) (up2 σ 3 3 (nI 10), sh b)) (h11 : ∀ (s : Nat), s < 4 → x = nI s → ¬ σ 188 s = -1 ∧ ¬ σ 188 s = nI 2 → K (-1) (up2 σ 3 3 (nI 11), sh b)) (h12 : ∀ (s : Nat), s < 4 → x = nI s → σ 188 s = nI 2 ∧ ¬ (0 ≤ y.toInt ∧ y.toInt ≤ (σ 189 s).toInt - 1) → K (-1) (up2 σ 3 3 (nI 12), sh b)) (h2 : ∀ (s : Nat), s < 4 → x = nI s → σ 188 s = nI 2 ∧ (0 ≤ y.toInt ∧ y.toInt ≤ (σ 189 s).toInt - 1) → K (1) (up2 (up2 σ (132 + 2 * s) y.toNatClampNeg (-9999)) 3 3 0, sh b)) : CM G mX11_none (rl 3) [.ref 3, .int x, .int y] (σ, sh b) (QI K) := by
  obtain ⟨⟨⟨hq2, hn10, hnb, hnl, hnt, hnr⟩, ⟨vq, vns, vnb, vnl, vnt, vnr⟩, ⟨rq, rns, rnb, rnl, rnt, rnr⟩, hpd⟩, hH, hC, hS, hLD, hB, hA, hT, hU⟩ := hR
  refine CM.of (by decide) (Nat.le_of_ble_eq_true rfl) (cats1 rfl) ?_
  refine V_iload_n (pc := 0) d_X11_none_0 rfl ?_
  refine V_csI (pc := 1) (n := 2) [_] d_X11_none_1 c_X11_325 k_X11_isSheet rfl (Nat.le_of_ble_eq_true rfl) ⟨Nat.le_of_ble_eq_true rfl, Nat.le_of_ble_eq_true rfl⟩ ⟨Nat.le_refl _, Nat.le_refl _⟩ (ct_X11_isSheet ?_)
  refine V_if_ne (pc := 4) 13 d_X11_none_4 (by decide) (fun c4 => ?_) (fun c4 => ?_)
  · replace c4 := zt c4
    obtain ⟨s, hs, rfl, -⟩ := nat_of (n := 4) (x := x) (by omega) (by omega) (by omega)
    obtain ⟨q1, q2, q3, ⟨n, hn, en⟩, q5⟩ := hQ s hs
    refine V_aload_n (pc := 13) d_X11_none_13 rfl ?_
    refine P_getR (pc := 14) d_X11_none_14 f_X11_28 (tt_3 b) (rr_3_4 b) ?_
    refine V_iload_n (pc := 17) d_X11_none_17 rfl ?_
    refine P_aald (pc := 18) (c := 6) (s) d_X11_none_18 (tt_123 b) (by decide) rfl (ln_of (ll_123 b) ⟨by omega, by decide⟩) (rSHT b (by omega)) ?_
    refine V_astore_n (pc := 19) d_X11_none_19 (by decide) ?_
    refine V_aload_n (pc := 20) d_X11_none_20 rfl ?_
    refine V_iconst (pc := 21) (nI 2) d_X11_none_21 (by decide) ?_
    refine V_cvI (pc := 22) (n := 2) (c := 6) [_] d_X11_none_22 c_X11_339 k_X6_faultAs ⟨rfl, rfl⟩ (tSHT b (by omega)) rfl (Nat.le_of_ble_eq_true rfl) ⟨Nat.le_of_ble_eq_true rfl, Nat.le_of_ble_eq_true rfl⟩ ⟨Nat.le_refl _, Nat.le_refl _⟩ (ct_X6_faultAs (tSHT b (by omega)) ?_)
    rw [q1]
    by_cases m1 : σ 188 s = -1
    · rw [if_pos m1]
      refine V_istore (pc := 25) d_X11_none_25 (by decide) ?_
      refine V_iload (pc := 27) d_X11_none_27 rfl ?_
      refine V_if_eq (pc := 29) 39 d_X11_none_29 (by decide) (fun c29 => ?_) (fun c29 => ?_)
      · exact absurd c29 (by decide)
      · refine V_aload_n (pc := 32) d_X11_none_32 rfl ?_
        refine V_iload (pc := 33) d_X11_none_33 rfl ?_
        refine V_cvI (pc := 35) (n := 1) (c := 11) [_] d_X11_none_35 c_X11_55 k_X11_refused ⟨rfl, rfl⟩ (tt_3 b) rfl (Nat.le_of_ble_eq_true rfl) ⟨Nat.le_of_ble_eq_true rfl, Nat.le_of_ble_eq_true rfl⟩ ⟨Nat.le_refl _, Nat.le_refl _⟩ (ct_X11_refused ?_)
        exact V_retI (pc := 38) d_X11_none_38 rfl ⟨Nat.le_refl _, Nat.le_refl _⟩ (by first | exact h10 s hs rfl m1 | exact h11 s hs rfl ⟨m1, m2⟩)
    by_cases m2 : σ 188 s = nI 2
    · rw [if_neg m1, if_pos m2]
      refine V_istore (pc := 25) d_X11_none_25 (by decide) ?_
      refine V_iload (pc := 27) d_X11_none_27 rfl ?_
      refine V_if_eq (pc := 29) 39 d_X11_none_29 (by decide) (fun c29 => ?_) (fun c29 => ?_)
      · refine V_aload_n (pc := 39) d_X11_none_39 rfl ?_
        refine V_iload_n (pc := 40) d_X11_none_40 rfl ?_
        refine V_cvI (pc := 41) (n := 2) (c := 6) [_] d_X11_none_41 c_X11_333 k_X6_hasPlace ⟨rfl, rfl⟩ (tSHT b (by omega)) rfl (Nat.le_of_ble_eq_true rfl) ⟨Nat.le_of_ble_eq_true rfl, Nat.le_of_ble_eq_true rfl⟩ ⟨Nat.le_refl _, Nat.le_refl _⟩ (ct_X6_hasPlace (tSHT b (by omega)) (q2.trans en) hn ?_)
        refine V_if_ne (pc := 44) 54 d_X11_none_44 (by decide) (fun c44 => ?_) (fun c44 => ?_)
        · replace c44 := zt c44
          obtain ⟨j, hj, rfl, -⟩ := nat_of (n := n) (x := y) (by omega) (by omega) (by omega)
          refine V_aload_n (pc := 54) d_X11_none_54 rfl ?_
          refine P_getR (pc := 55) d_X11_none_55 f_X11_342 (tSHT b (by omega)) (rSHT2 b (by omega)) ?_
          refine V_iload_n (pc := 58) d_X11_none_58 rfl ?_
          refine V_sipush (pc := 59) (-9999) d_X11_none_59 (by decide) ?_
          refine P_iast (pc := 62) (j) d_X11_none_62 (tNUM b (by omega)) rfl (ln_of (lNUM b (by omega)) ⟨by omega, by decide⟩) ?_
          refine V_aload_n (pc := 63) d_X11_none_63 rfl ?_
          refine V_iconst (pc := 64) (1) d_X11_none_64 (by decide) ?_
          refine V_cvI (pc := 65) (n := 1) (c := 11) [_] d_X11_none_65 c_X11_72 k_X11_done ⟨rfl, rfl⟩ (tt_3 b) rfl (Nat.le_of_ble_eq_true rfl) ⟨Nat.le_of_ble_eq_true rfl, Nat.le_of_ble_eq_true rfl⟩ ⟨Nat.le_refl _, Nat.le_refl _⟩ (ct_X11_done ?_)
          exact V_retI (pc := 68) d_X11_none_68 rfl ⟨Nat.le_refl _, Nat.le_refl _⟩ (by have k := h2 s hs rfl ⟨m2, by rw [en, show (nI n).toInt = (n : Int) from nI_toInt (by omega)]; exact c44⟩; rw [nI_clamp (by omega)] at k; exact k)
        · replace c44 := zf c44
          refine V_aload_n (pc := 47) d_X11_none_47 rfl ?_
          refine V_bipush (pc := 48) (nI 12) d_X11_none_48 (by decide) ?_
          refine V_cvI (pc := 50) (n := 1) (c := 11) [_] d_X11_none_50 c_X11_55 k_X11_refused ⟨rfl, rfl⟩ (tt_3 b) rfl (Nat.le_of_ble_eq_true rfl) ⟨Nat.le_of_ble_eq_true rfl, Nat.le_of_ble_eq_true rfl⟩ ⟨Nat.le_refl _, Nat.le_refl _⟩ (ct_X11_refused ?_)
          exact V_retI (pc := 53) d_X11_none_53 rfl ⟨Nat.le_refl _, Nat.le_refl _⟩ (h12 s hs rfl ⟨m2, fun z => c44 (by rw [en, nI_toInt (by omega)] at z; exact z)⟩)
      · exact absurd (by decide) c29
    rw [if_neg m1, if_neg m2]
    refine V_istore (pc := 25) d_X11_none_25 (by decide) ?_
    refine V_iload (pc := 27) d_X11_none_27 rfl ?_
    refine V_if_eq (pc := 29) 39 d_X11_none_29 (by decide) (fun c29 => ?_) (fun c29 => ?_)
    · exact absurd c29 (by decide)
    · refine V_aload_n (pc := 32) d_X11_none_32 rfl ?_
      refine V_iload (pc := 33) d_X11_none_33 rfl ?_
      refine V_cvI (pc := 35) (n := 1) (c := 11) [_] d_X11_none_35 c_X11_55 k_X11_refused ⟨rfl, rfl⟩ (tt_3 b) rfl (Nat.le_of_ble_eq_true rfl) ⟨Nat.le_of_ble_eq_true rfl, Nat.le_of_ble_eq_true rfl⟩ ⟨Nat.le_refl _, Nat.le_refl _⟩ (ct_X11_refused ?_)
      exact V_retI (pc := 38) d_X11_none_38 rfl ⟨Nat.le_refl _, Nat.le_refl _⟩ (by first | exact h10 s hs rfl m1 | exact h11 s hs rfl ⟨m1, m2⟩)
  · replace c4 := zf c4
    refine V_aload_n (pc := 7) d_X11_none_7 rfl ?_
    refine V_iconst (pc := 8) (1) d_X11_none_8 (by decide) ?_
    refine V_cvI (pc := 9) (n := 1) (c := 11) [_] d_X11_none_9 c_X11_55 k_X11_refused ⟨rfl, rfl⟩ (tt_3 b) rfl (Nat.le_of_ble_eq_true rfl) ⟨Nat.le_of_ble_eq_true rfl, Nat.le_of_ble_eq_true rfl⟩ ⟨Nat.le_refl _, Nat.le_refl _⟩ (ct_X11_refused ?_)
    exact V_retI (pc := 12) d_X11_none_12 rfl ⟨Nat.le_refl _, Nat.le_refl _⟩ (h1 (by
                        rintro ⟨s, gs, es⟩
                        try subst es
                        simp (disch := omega) only [nI_toInt, nI_eq] at *
                        omega))
theorem ct_X12_none {x y : Int32} {ρ : Sg} {q ns nb nl nt nr : Nat} (hR : RR ρ 4 σ q ns nb nl nt nr) (hQ : ∀ s, s < 4 → ∃ n, n ≤ 40 ∧ σ 189 s = nI n) (h1 : ¬ (∃ s, s < 4 ∧ x = nI s) → K (-1) (up2 σ 139 0 1, sh b)) (h10 : ∀ (s : Nat), s < 4 → x = nI s → σ 188 s = -1 → K (-1) (up2 σ 139 0 (nI 10), sh b)) (h11 : ∀ (s : Nat), s < 4 → x = nI s → ¬ σ 188 s = -1 ∧ ¬ σ 188 s = nI 2 → K (-1) (up2 σ 139 0 (nI 11), sh b)) (h12 : ∀ (s : Nat), s < 4 → x = nI s → σ 188 s = nI 2 ∧ ¬ (0 ≤ y.toInt ∧ y.toInt ≤ (σ 189 s).toInt - 1) → K (-1) (up2 σ 139 0 (nI 12), sh b)) (h2 : ∀ (s : Nat), s < 4 → x = nI s → σ 188 s = nI 2 ∧ (0 ≤ y.toInt ∧ y.toInt ≤ (σ 189 s).toInt - 1) → K (1) (up2 (up2 σ 191 (40 * s + y.toNatClampNeg) 1) 139 0 0, sh b)) : CM G mX12_none (rl 2) [.ref 139, .int x, .int y] (σ, sh b) (QI K) := by
  obtain ⟨⟨⟨hq2, hn10, hnb, hnl, hnt, hnr⟩, ⟨vq, vns, vnb, vnl, vnt, vnr⟩, ⟨rq, rns, rnb, rnl, rnt, rnr⟩, hpd⟩, hH, hC, hS, hLD, hB, hA, hT, hU⟩ := hR
  refine CM.of (by decide) (Nat.le_of_ble_eq_true rfl) (cats1 rfl) ?_
  refine V_iload_n (pc := 0) d_X12_none_0 rfl ?_
  refine V_iconst (pc := 1) (0) d_X12_none_1 (by decide) ?_
  refine V_iconst (pc := 2) (nI 3) d_X12_none_2 (by decide) ?_
  refine V_csI (pc := 3) (n := 1) [_, _, _] d_X12_none_3 c_X12_174 k_X12_in rfl (Nat.le_of_ble_eq_true rfl) ⟨Nat.le_of_ble_eq_true rfl, Nat.le_of_ble_eq_true rfl⟩ ⟨Nat.le_refl _, Nat.le_refl _⟩ (ct_X12_in (lo := 0) (hi := 3) (by decide) (by decide) ?_)
  refine V_if_ne (pc := 6) 15 d_X12_none_6 (by decide) (fun c6 => ?_) (fun c6 => ?_)
  · replace c6 := zt c6
    obtain ⟨s, hs, rfl, -⟩ := nat_of (n := 4) (x := x) (by omega) (by omega) (by omega)
    obtain ⟨n, hn, en⟩ := hQ s hs
    refine V_aload_n (pc := 15) d_X12_none_15 rfl ?_
    refine P_getR (pc := 16) d_X12_none_16 f_X12_155 (tt_139 b) (rr_139_60 b) ?_
    refine V_iload_n (pc := 19) d_X12_none_19 rfl ?_
    refine P_iald (pc := 20) (s) d_X12_none_20 (tt_188 b) rfl (ln_of (ll_188 b) ⟨by omega, by decide⟩) ?_
    refine V_iconst (pc := 21) (-1) d_X12_none_21 (by decide) ?_
    refine V_icmp_ne (pc := 22) 32 d_X12_none_22 (by decide) (fun c22 => ?_) (fun c22 => ?_)
    · refine V_aload_n (pc := 32) d_X12_none_32 rfl ?_
      refine P_getR (pc := 33) d_X12_none_33 f_X12_155 (tt_139 b) (rr_139_60 b) ?_
      refine V_iload_n (pc := 36) d_X12_none_36 rfl ?_
      refine P_iald (pc := 37) (s) d_X12_none_37 (tt_188 b) rfl (ln_of (ll_188 b) ⟨by omega, by decide⟩) ?_
      refine V_iconst (pc := 38) (nI 2) d_X12_none_38 (by decide) ?_
      refine V_icmp_eq (pc := 39) 49 d_X12_none_39 (by decide) (fun c39 => ?_) (fun c39 => ?_)
      · refine V_iload_n (pc := 49) d_X12_none_49 rfl ?_
        refine V_iconst (pc := 50) (0) d_X12_none_50 (by decide) ?_
        refine V_aload_n (pc := 51) d_X12_none_51 rfl ?_
        refine P_getR (pc := 52) d_X12_none_52 f_X12_158 (tt_139 b) (rr_139_61 b) ?_
        refine V_iload_n (pc := 55) d_X12_none_55 rfl ?_
        refine P_iald (pc := 56) (s) d_X12_none_56 (tt_189 b) rfl (ln_of (ll_189 b) ⟨by omega, by decide⟩) ?_
        refine V_iconst (pc := 57) (1) d_X12_none_57 (by decide) ?_
        refine V_isub (pc := 58) d_X12_none_58 ?_
        refine V_csI (pc := 59) (n := 1) [_, _, _] d_X12_none_59 c_X12_174 k_X12_in rfl (Nat.le_of_ble_eq_true rfl) ⟨Nat.le_of_ble_eq_true rfl, Nat.le_of_ble_eq_true rfl⟩ ⟨Nat.le_refl _, Nat.le_refl _⟩ (ct_X12_in (lo := 0) (hi := (n : Int) - 1) (by decide) (cntm1 en (by omega)) ?_)
        refine V_if_ne (pc := 62) 72 d_X12_none_62 (by decide) (fun c62 => ?_) (fun c62 => ?_)
        · replace c62 := zt c62
          obtain ⟨j, hj, rfl, -⟩ := nat_of (n := n) (x := y) (by omega) (by omega) (by omega)
          refine V_aload_n (pc := 72) d_X12_none_72 rfl ?_
          refine P_getR (pc := 73) d_X12_none_73 f_X12_164 (tt_139 b) (rr_139_63 b) ?_
          refine V_bipush (pc := 76) (nI 40) d_X12_none_76 (by decide) ?_
          refine V_iload_n (pc := 78) d_X12_none_78 rfl ?_
          refine V_imul (pc := 79) d_X12_none_79 ?_
          refine V_iload_n (pc := 80) d_X12_none_80 rfl ?_
          refine V_iadd (pc := 81) d_X12_none_81 ?_
          refine V_iconst (pc := 82) (1) d_X12_none_82 (by decide) ?_
          refine P_zast (pc := 83) (((40 * s) + j)) d_X12_none_83 (tt_191 b) (by simp only [nI_add, pk_mul, nI_1]) (ln_of (ll_191 b) ⟨by omega, by decide⟩) (Or.inr rfl) ?_
          refine V_aload_n (pc := 84) d_X12_none_84 rfl ?_
          refine V_iconst (pc := 85) (1) d_X12_none_85 (by decide) ?_
          refine V_cvI (pc := 86) (n := 1) (c := 12) [_] d_X12_none_86 c_X12_191 k_X12_done ⟨rfl, rfl⟩ (tt_139 b) rfl (Nat.le_of_ble_eq_true rfl) ⟨Nat.le_of_ble_eq_true rfl, Nat.le_of_ble_eq_true rfl⟩ ⟨Nat.le_refl _, Nat.le_refl _⟩ (ct_X12_done ?_)
          exact V_retI (pc := 89) d_X12_none_89 rfl ⟨Nat.le_refl _, Nat.le_refl _⟩ (by have k := h2 s hs rfl ⟨c39, by rw [en, show (nI n).toInt = (n : Int) from nI_toInt (by omega)]; exact c62⟩; rw [nI_clamp (by omega)] at k; exact k)
        · replace c62 := zf c62
          refine V_aload_n (pc := 65) d_X12_none_65 rfl ?_
          refine V_bipush (pc := 66) (nI 12) d_X12_none_66 (by decide) ?_
          refine V_cvI (pc := 68) (n := 1) (c := 12) [_] d_X12_none_68 c_X12_187 k_X12_refused ⟨rfl, rfl⟩ (tt_139 b) rfl (Nat.le_of_ble_eq_true rfl) ⟨Nat.le_of_ble_eq_true rfl, Nat.le_of_ble_eq_true rfl⟩ ⟨Nat.le_refl _, Nat.le_refl _⟩ (ct_X12_refused ?_)
          exact V_retI (pc := 71) d_X12_none_71 rfl ⟨Nat.le_refl _, Nat.le_refl _⟩ (h12 s hs rfl ⟨c39, fun z => c62 (by rw [en, nI_toInt (by omega)] at z; exact z)⟩)
      · refine V_aload_n (pc := 42) d_X12_none_42 rfl ?_
        refine V_bipush (pc := 43) (nI 11) d_X12_none_43 (by decide) ?_
        refine V_cvI (pc := 45) (n := 1) (c := 12) [_] d_X12_none_45 c_X12_187 k_X12_refused ⟨rfl, rfl⟩ (tt_139 b) rfl (Nat.le_of_ble_eq_true rfl) ⟨Nat.le_of_ble_eq_true rfl, Nat.le_of_ble_eq_true rfl⟩ ⟨Nat.le_refl _, Nat.le_refl _⟩ (ct_X12_refused ?_)
        exact V_retI (pc := 48) d_X12_none_48 rfl ⟨Nat.le_refl _, Nat.le_refl _⟩ (h11 s hs rfl ⟨c22, c39⟩)
    · refine V_aload_n (pc := 25) d_X12_none_25 rfl ?_
      refine V_bipush (pc := 26) (nI 10) d_X12_none_26 (by decide) ?_
      refine V_cvI (pc := 28) (n := 1) (c := 12) [_] d_X12_none_28 c_X12_187 k_X12_refused ⟨rfl, rfl⟩ (tt_139 b) rfl (Nat.le_of_ble_eq_true rfl) ⟨Nat.le_of_ble_eq_true rfl, Nat.le_of_ble_eq_true rfl⟩ ⟨Nat.le_refl _, Nat.le_refl _⟩ (ct_X12_refused ?_)
      exact V_retI (pc := 31) d_X12_none_31 rfl ⟨Nat.le_refl _, Nat.le_refl _⟩ (h10 s hs rfl c22)
  · replace c6 := zf c6
    refine V_aload_n (pc := 9) d_X12_none_9 rfl ?_
    refine V_iconst (pc := 10) (1) d_X12_none_10 (by decide) ?_
    refine V_cvI (pc := 11) (n := 1) (c := 12) [_] d_X12_none_11 c_X12_187 k_X12_refused ⟨rfl, rfl⟩ (tt_139 b) rfl (Nat.le_of_ble_eq_true rfl) ⟨Nat.le_of_ble_eq_true rfl, Nat.le_of_ble_eq_true rfl⟩ ⟨Nat.le_refl _, Nat.le_refl _⟩ (ct_X12_refused ?_)
    exact V_retI (pc := 14) d_X12_none_14 rfl ⟨Nat.le_refl _, Nat.le_refl _⟩ (h1 (by
                        rintro ⟨s, gs, es⟩
                        try subst es
                        simp (disch := omega) only [nI_toInt, nI_eq] at *
                        omega))
theorem pr_none {x y : Int32}  (h : Rel σ b)  : PR G mX11_none mX12_none 3 2 [.int x, .int y] σ b := by
  have h0 := h
  obtain ⟨q, ns, nb, nl, nt, nr, hR, hX, hP, hQ, hK⟩ := h
  have hbd := hR.1.1
  refine ct_X11_none hR hQ (fun hv => ?_) (fun s hs es hv => ?_) (fun s hs es hv => ?_) (fun s hs es hv => ?_) (fun s hs es hv => ?_)
  · exact ⟨rfl, ct_X12_none (RR_lo hR (fun a i _ _ => by simp (disch := omega) only [up2_n, filr_n, film_n])) (fun s hs => by simp (disch := omega) only [up2_n]; exact (hQ s hs).2.2.2.1) (fun _ => ⟨rfl, _, rfl, rel_ref h0⟩) (fun s hs es _ => absurd ⟨s, hs, es⟩ hv) (fun s hs es _ => absurd ⟨s, hs, es⟩ hv) (fun s hs es _ => absurd ⟨s, hs, es⟩ hv) (fun s hs es _ => absurd ⟨s, hs, es⟩ hv)⟩
  · refine ⟨rfl, ct_X12_none (RR_lo hR (fun a i _ _ => by simp (disch := omega) only [up2_n, filr_n, film_n])) (fun s hs => by simp (disch := omega) only [up2_n]; exact (hQ s hs).2.2.2.1) (fun hv => absurd ⟨s, hs, es⟩ hv) (fun s' hs' es' hv' => ?_) (fun s' hs' es' hv' => ?_) (fun s' hs' es' hv' => ?_) (fun s' hs' es' hv' => ?_)⟩
    · obtain rfl : s' = s := (nI_eq (by omega) (by omega)).mp (es'.symm.trans es)
      exact ⟨rfl, _, rfl, rel_ref h0⟩
    · obtain rfl : s' = s := (nI_eq (by omega) (by omega)).mp (es'.symm.trans es)
      simp (disch := omega) only [up2_n] at hv'
      first | (exfalso; exact hv'.1 hv) | (exfalso; exact hv.1 hv') | exact absurd hv hv' | exact absurd hv' hv | exact absurd hv.1 hv' | exact absurd hv'.1 hv | exact absurd hv hv'.1 | exact absurd hv' hv.1 | exact absurd hv.2 hv'.2 | exact absurd hv'.2 hv.2 | exact absurd hv.1 hv'.2 | exact absurd hv'.1 hv.2 | exact absurd (hv.symm.trans hv'.1) (by decide) | exact absurd (hv'.symm.trans hv.1) (by decide)
    · obtain rfl : s' = s := (nI_eq (by omega) (by omega)).mp (es'.symm.trans es)
      simp (disch := omega) only [up2_n] at hv'
      first | (exfalso; exact hv'.1 hv) | (exfalso; exact hv.1 hv') | exact absurd hv hv' | exact absurd hv' hv | exact absurd hv.1 hv' | exact absurd hv'.1 hv | exact absurd hv hv'.1 | exact absurd hv' hv.1 | exact absurd hv.2 hv'.2 | exact absurd hv'.2 hv.2 | exact absurd hv.1 hv'.2 | exact absurd hv'.1 hv.2 | exact absurd (hv.symm.trans hv'.1) (by decide) | exact absurd (hv'.symm.trans hv.1) (by decide)
    · obtain rfl : s' = s := (nI_eq (by omega) (by omega)).mp (es'.symm.trans es)
      simp (disch := omega) only [up2_n] at hv'
      first | (exfalso; exact hv'.1 hv) | (exfalso; exact hv.1 hv') | exact absurd hv hv' | exact absurd hv' hv | exact absurd hv.1 hv' | exact absurd hv'.1 hv | exact absurd hv hv'.1 | exact absurd hv' hv.1 | exact absurd hv.2 hv'.2 | exact absurd hv'.2 hv.2 | exact absurd hv.1 hv'.2 | exact absurd hv'.1 hv.2 | exact absurd (hv.symm.trans hv'.1) (by decide) | exact absurd (hv'.symm.trans hv.1) (by decide)
  · refine ⟨rfl, ct_X12_none (RR_lo hR (fun a i _ _ => by simp (disch := omega) only [up2_n, filr_n, film_n])) (fun s hs => by simp (disch := omega) only [up2_n]; exact (hQ s hs).2.2.2.1) (fun hv => absurd ⟨s, hs, es⟩ hv) (fun s' hs' es' hv' => ?_) (fun s' hs' es' hv' => ?_) (fun s' hs' es' hv' => ?_) (fun s' hs' es' hv' => ?_)⟩
    · obtain rfl : s' = s := (nI_eq (by omega) (by omega)).mp (es'.symm.trans es)
      simp (disch := omega) only [up2_n] at hv'
      first | (exfalso; exact hv'.1 hv) | (exfalso; exact hv.1 hv') | exact absurd hv hv' | exact absurd hv' hv | exact absurd hv.1 hv' | exact absurd hv'.1 hv | exact absurd hv hv'.1 | exact absurd hv' hv.1 | exact absurd hv.2 hv'.2 | exact absurd hv'.2 hv.2 | exact absurd hv.1 hv'.2 | exact absurd hv'.1 hv.2 | exact absurd (hv.symm.trans hv'.1) (by decide) | exact absurd (hv'.symm.trans hv.1) (by decide)
    · obtain rfl : s' = s := (nI_eq (by omega) (by omega)).mp (es'.symm.trans es)
      exact ⟨rfl, _, rfl, rel_ref h0⟩
    · obtain rfl : s' = s := (nI_eq (by omega) (by omega)).mp (es'.symm.trans es)
      simp (disch := omega) only [up2_n] at hv'
      first | (exfalso; exact hv'.1 hv) | (exfalso; exact hv.1 hv') | exact absurd hv hv' | exact absurd hv' hv | exact absurd hv.1 hv' | exact absurd hv'.1 hv | exact absurd hv hv'.1 | exact absurd hv' hv.1 | exact absurd hv.2 hv'.2 | exact absurd hv'.2 hv.2 | exact absurd hv.1 hv'.2 | exact absurd hv'.1 hv.2 | exact absurd (hv.symm.trans hv'.1) (by decide) | exact absurd (hv'.symm.trans hv.1) (by decide)
    · obtain rfl : s' = s := (nI_eq (by omega) (by omega)).mp (es'.symm.trans es)
      simp (disch := omega) only [up2_n] at hv'
      first | (exfalso; exact hv'.1 hv) | (exfalso; exact hv.1 hv') | exact absurd hv hv' | exact absurd hv' hv | exact absurd hv.1 hv' | exact absurd hv'.1 hv | exact absurd hv hv'.1 | exact absurd hv' hv.1 | exact absurd hv.2 hv'.2 | exact absurd hv'.2 hv.2 | exact absurd hv.1 hv'.2 | exact absurd hv'.1 hv.2 | exact absurd (hv.symm.trans hv'.1) (by decide) | exact absurd (hv'.symm.trans hv.1) (by decide)
  · refine ⟨rfl, ct_X12_none (RR_lo hR (fun a i _ _ => by simp (disch := omega) only [up2_n, filr_n, film_n])) (fun s hs => by simp (disch := omega) only [up2_n]; exact (hQ s hs).2.2.2.1) (fun hv => absurd ⟨s, hs, es⟩ hv) (fun s' hs' es' hv' => ?_) (fun s' hs' es' hv' => ?_) (fun s' hs' es' hv' => ?_) (fun s' hs' es' hv' => ?_)⟩
    · obtain rfl : s' = s := (nI_eq (by omega) (by omega)).mp (es'.symm.trans es)
      simp (disch := omega) only [up2_n] at hv'
      first | (exfalso; exact hv'.1 hv) | (exfalso; exact hv.1 hv') | exact absurd hv hv' | exact absurd hv' hv | exact absurd hv.1 hv' | exact absurd hv'.1 hv | exact absurd hv hv'.1 | exact absurd hv' hv.1 | exact absurd hv.2 hv'.2 | exact absurd hv'.2 hv.2 | exact absurd hv.1 hv'.2 | exact absurd hv'.1 hv.2 | exact absurd (hv.symm.trans hv'.1) (by decide) | exact absurd (hv'.symm.trans hv.1) (by decide)
    · obtain rfl : s' = s := (nI_eq (by omega) (by omega)).mp (es'.symm.trans es)
      simp (disch := omega) only [up2_n] at hv'
      first | (exfalso; exact hv'.1 hv) | (exfalso; exact hv.1 hv') | exact absurd hv hv' | exact absurd hv' hv | exact absurd hv.1 hv' | exact absurd hv'.1 hv | exact absurd hv hv'.1 | exact absurd hv' hv.1 | exact absurd hv.2 hv'.2 | exact absurd hv'.2 hv.2 | exact absurd hv.1 hv'.2 | exact absurd hv'.1 hv.2 | exact absurd (hv.symm.trans hv'.1) (by decide) | exact absurd (hv'.symm.trans hv.1) (by decide)
    · obtain rfl : s' = s := (nI_eq (by omega) (by omega)).mp (es'.symm.trans es)
      exact ⟨rfl, _, rfl, rel_ref h0⟩
    · obtain rfl : s' = s := (nI_eq (by omega) (by omega)).mp (es'.symm.trans es)
      simp (disch := omega) only [up2_n] at hv'
      first | (exfalso; exact hv'.1 hv) | (exfalso; exact hv.1 hv') | exact absurd hv hv' | exact absurd hv' hv | exact absurd hv.1 hv' | exact absurd hv'.1 hv | exact absurd hv hv'.1 | exact absurd hv' hv.1 | exact absurd hv.2 hv'.2 | exact absurd hv'.2 hv.2 | exact absurd hv.1 hv'.2 | exact absurd hv'.1 hv.2 | exact absurd (hv.symm.trans hv'.1) (by decide) | exact absurd (hv'.symm.trans hv.1) (by decide)
  · obtain ⟨n, hn, en⟩ := (hQ s hs).2.2.2.1
    obtain ⟨j, hj, ej, ej2⟩ := nat_of (n := n) (x := y) hv.2.1 (by have := hv.2.2; rw [en, nI_toInt (by omega)] at this; omega) (by omega)
    rw [ej2]
    refine ⟨rfl, ct_X12_none (RR_lo hR (fun a i _ _ => by simp (disch := omega) only [up2_n, filr_n, film_n])) (fun s hs => by simp (disch := omega) only [up2_n]; exact (hQ s hs).2.2.2.1) (fun hv => absurd ⟨s, hs, es⟩ hv) (fun s' hs' es' hv' => ?_) (fun s' hs' es' hv' => ?_) (fun s' hs' es' hv' => ?_) (fun s' hs' es' hv' => ?_)⟩
    · obtain rfl : s' = s := (nI_eq (by omega) (by omega)).mp (es'.symm.trans es)
      simp (disch := omega) only [up2_n] at hv'
      first | (exfalso; exact hv'.1 hv) | (exfalso; exact hv.1 hv') | exact absurd hv hv' | exact absurd hv' hv | exact absurd hv.1 hv' | exact absurd hv'.1 hv | exact absurd hv hv'.1 | exact absurd hv' hv.1 | exact absurd hv.2 hv'.2 | exact absurd hv'.2 hv.2 | exact absurd hv.1 hv'.2 | exact absurd hv'.1 hv.2 | exact absurd (hv.symm.trans hv'.1) (by decide) | exact absurd (hv'.symm.trans hv.1) (by decide)
    · obtain rfl : s' = s := (nI_eq (by omega) (by omega)).mp (es'.symm.trans es)
      simp (disch := omega) only [up2_n] at hv'
      first | (exfalso; exact hv'.1 hv) | (exfalso; exact hv.1 hv') | exact absurd hv hv' | exact absurd hv' hv | exact absurd hv.1 hv' | exact absurd hv'.1 hv | exact absurd hv hv'.1 | exact absurd hv' hv.1 | exact absurd hv.2 hv'.2 | exact absurd hv'.2 hv.2 | exact absurd hv.1 hv'.2 | exact absurd hv'.1 hv.2 | exact absurd (hv.symm.trans hv'.1) (by decide) | exact absurd (hv'.symm.trans hv.1) (by decide)
    · obtain rfl : s' = s := (nI_eq (by omega) (by omega)).mp (es'.symm.trans es)
      simp (disch := omega) only [up2_n] at hv'
      first | (exfalso; exact hv'.1 hv) | (exfalso; exact hv.1 hv') | exact absurd hv hv' | exact absurd hv' hv | exact absurd hv.1 hv' | exact absurd hv'.1 hv | exact absurd hv hv'.1 | exact absurd hv' hv.1 | exact absurd hv.2 hv'.2 | exact absurd hv'.2 hv.2 | exact absurd hv.1 hv'.2 | exact absurd hv'.1 hv.2 | exact absurd (hv.symm.trans hv'.1) (by decide) | exact absurd (hv'.symm.trans hv.1) (by decide)
    · obtain rfl : s' = s := (nI_eq (by omega) (by omega)).mp (es'.symm.trans es)
      obtain ⟨hcn, hH, hC, hS, hLD, hB, hA, hT, hU⟩ := id hR
      have hbd := hcn.1
      rw [ej2]
      refine ⟨rfl, _, rfl, ?_⟩
      exact ⟨q, ns, nb, nl, nt, nr, ⟨cCnt_cg hcn (fun i _ _ => (by simp (disch := omega) only [up2_n, filr_n, film_n])) (fun i hi => by rcases hi with rfl | rfl | rfl | rfl | rfl | rfl | rfl <;> simp (disch := omega) only [up2_n, filr_n, film_n]), cH_cg hH (by simp (disch := omega) only [up2_n, filr_n, film_n]) (fun d _ => (by simp (disch := omega) only [up2_n, filr_n, film_n])) (fun d _ => ⟨(by simp (disch := omega) only [up2_n, filr_n, film_n]), (by simp (disch := omega) only [up2_n, filr_n, film_n])⟩), cC_cg hC (fun d _ => (by simp (disch := omega) only [up2_n, filr_n, film_n])) (fun d _ => (by simp (disch := omega) only [up2_n, filr_n, film_n])), cS_cg hS (fun k _ => ⟨fun j => (by simp (disch := omega) only [up2_n, filr_n, film_n]), fun d _ => (by simp (disch := omega) only [up2_n, filr_n, film_n])⟩) (fun k _ => ⟨(by simp (disch := omega) only [up2_n, filr_n, film_n]), (by simp (disch := omega) only [up2_n, filr_n, film_n]), (by simp (disch := omega) only [up2_n, filr_n, film_n]), (by simp (disch := omega) only [up2_n, filr_n, film_n])⟩) (fun i _ => ⟨(by simp (disch := omega) only [up2_n, filr_n, film_n]), (by simp (disch := omega) only [up2_n, filr_n, film_n])⟩), cL_cg hLD (fun l _ => ⟨(by simp (disch := omega) only [up2_n, filr_n, film_n]), fun k _ => ⟨(by simp (disch := omega) only [up2_n, filr_n, film_n]), (by simp (disch := omega) only [up2_n, filr_n, film_n])⟩⟩) (fun l _ => (by simp (disch := omega) only [up2_n, filr_n, film_n])) (fun m _ _ => ⟨(by simp (disch := omega) only [up2_n, filr_n, film_n]), (by simp (disch := omega) only [up2_n, filr_n, film_n])⟩), cB_cg hB (fun i _ => ⟨fun j => (by simp (disch := omega) only [up2_n, filr_n, film_n]), fun k _ => ⟨(by simp (disch := omega) only [up2_n, filr_n, film_n]), (by simp (disch := omega) only [up2_n, filr_n, film_n])⟩⟩) (fun i _ a _ _ => (by simp (disch := omega) only [up2_n, filr_n, film_n])) (fun m _ => ⟨(by simp (disch := omega) only [up2_n, filr_n, film_n]), (by simp (disch := omega) only [up2_n, filr_n, film_n])⟩) (fun j _ => ⟨(by simp (disch := omega) only [up2_n, filr_n, film_n]), (by simp (disch := omega) only [up2_n, filr_n, film_n]), (by simp (disch := omega) only [up2_n, filr_n, film_n])⟩), cA_cg hA (fun j _ i => (by simp (disch := omega) only [up2_n, filr_n, film_n])) (fun j _ a _ _ => (by simp (disch := omega) only [up2_n, filr_n, film_n])), cT_cg hT (fun j _ i => (by simp (disch := omega) only [up2_n, filr_n, film_n])) (fun j _ a _ _ => (by simp (disch := omega) only [up2_n, filr_n, film_n])), cU_cg hU (fun j _ i => (by simp (disch := omega) only [up2_n, filr_n, film_n])) (fun j _ a _ _ => (by simp (disch := omega) only [up2_n, filr_n, film_n]))⟩, cX_cg hX (by simp (disch := omega) only [up2_n, up2_e, filr_n, film_n]) ⟨(by simp (disch := omega) only [up2_n, filr_n, film_n]), (by simp (disch := omega) only [up2_n, filr_n, film_n])⟩, cP_cg hP ⟨(by simp (disch := omega) only [up2_n, filr_n, film_n]), (by simp (disch := omega) only [up2_n, filr_n, film_n])⟩ (fun j _ => ⟨(by simp (disch := omega) only [up2_n, filr_n, film_n]), (by simp (disch := omega) only [up2_n, filr_n, film_n])⟩), cQ_at (s0 := s') hQ (fun _ => by
              obtain ⟨g1, g2, g3, g4, g5⟩ := hQ s' hs
              refine ⟨?_, ?_, ?_, ?_, fun e he => ?_⟩
              · simp (disch := omega) only [up2_n]; exact g1
              · simp (disch := omega) only [up2_n]; exact g2
              · simp (disch := omega) only [up2_n]; exact g3
              · simp (disch := omega) only [up2_n]; exact g4
              · have g := g5 e he
                by_cases w : e = j
                · subst w
                  refine ⟨?_, ?_, Or.inr ⟨?_, ?_, ?_⟩⟩
                  all_goals simp (disch := omega) only [up2_n, up2_e]
                  · exact g.1
                  · exact g.2.1
                  · exact hv.1
                · simp (disch := omega) only [up2_n, up2_e]
                  exact g) (fun s _ _ => ⟨fun j => (by simp (disch := omega) only [up2_n, filr_n, film_n]), fun j _ => (by simp (disch := omega) only [up2_n, filr_n, film_n]), (by simp (disch := omega) only [up2_n, filr_n, film_n]), (by simp (disch := omega) only [up2_n, filr_n, film_n]), fun j _ => ⟨(by simp (disch := omega) only [up2_n, filr_n, film_n]), (by simp (disch := omega) only [up2_n, filr_n, film_n])⟩⟩), cK_cg hK (by simp (disch := omega) only [up2_n, filr_n, film_n]) (fun a i _ => (by simp (disch := omega) only [up2_n, filr_n, film_n])) (fun a i _ => (by simp (disch := omega) only [up2_n, filr_n, film_n])) (by omega) (by omega) (by omega) (by omega) (by omega)⟩
end HC
