/-- cells m, .., m+n-1 of a row get v -/
def filr (f : Sg) (a m n : Nat) (v : Int32) : Sg := fun c i => if c = a ∧ m ≤ i ∧ i < m + n then v else f c i
/-- the places below 10 n that leave s at 10 get v -/
def film (f : Sg) (a s n : Nat) (v : Int32) : Sg := fun c i => if c = a ∧ i % 10 = s ∧ i < 10 * n then v else f c i
theorem filr_n {f : Sg} {a m n c i : Nat} {v : Int32} (h : ¬ (c = a ∧ m ≤ i ∧ i < m + n)) : filr f a m n v c i = f c i := if_neg h
theorem filr_e {f : Sg} {a m n c i : Nat} {v : Int32} (h : c = a ∧ m ≤ i ∧ i < m + n) : filr f a m n v c i = v := if_pos h
theorem film_n {f : Sg} {a s n c i : Nat} {v : Int32} (h : ¬ (c = a ∧ i % 10 = s ∧ i < 10 * n)) : film f a s n v c i = f c i := if_neg h
theorem film_e {f : Sg} {a s n c i : Nat} {v : Int32} (h : c = a ∧ i % 10 = s ∧ i < 10 * n) : film f a s n v c i = v := if_pos h
theorem filr_0 {f : Sg} {a m : Nat} {v : Int32} : filr f a m 0 v = f := by
  funext c i
  exact filr_n (by omega)
theorem film_0 {f : Sg} {a s : Nat} {v : Int32} : film f a s 0 v = f := by
  funext c i
  exact film_n (by omega)
theorem filr_s {f : Sg} {a m n i : Nat} {v : Int32} (hi : i = m + n) : up2 (filr f a m n v) a i v = filr f a m (n + 1) v := by
  subst hi
  funext c i
  by_cases z : c = a ∧ i = m + n
  · rw [up2_e z, filr_e (by omega)]
  · rw [up2_n z]
    by_cases y : c = a ∧ m ≤ i ∧ i < m + n
    · rw [filr_e y, filr_e (by omega)]
    · rw [filr_n y, filr_n (by omega)]
theorem film_s {f : Sg} {a s n i : Nat} {v : Int32} (hs : s < 10) (hi : i = 10 * n + s) : up2 (film f a s n v) a i v = film f a s (n + 1) v := by
  subst hi
  funext c i
  by_cases z : c = a ∧ i = 10 * n + s
  · rw [up2_e z, film_e (by omega)]
  · rw [up2_n z]
    by_cases y : c = a ∧ i % 10 = s ∧ i < 10 * n
    · rw [film_e y, film_e (by omega)]
    · rw [film_n y, film_n (by omega)]
def cB1 (σ : Sg) (r : Nat) (V : Sg) (ns nl i : Nat) : Prop :=
  (σ (r + 73 + 4 * i) 0 = V 149 i ∧ σ (r + 73 + 4 * i) 1 = V 150 i ∧ σ (r + 73 + 4 * i) 2 = V 151 i ∧ σ (r + 73 + 4 * i) 3 = V 156 i ∧ σ (r + 73 + 4 * i) 4 = aboS V i nl ∧ σ (r + 73 + 4 * i) 5 = V 152 i ∧ σ (r + 73 + 4 * i) 6 = V 153 i) ∧
  (∃ x, 1 ≤ x ∧ x ≤ 30 ∧ V 149 i = nI x) ∧ (∃ x, 1 ≤ x ∧ x ≤ 999 ∧ V 150 i = nI x) ∧ (∃ x y, 1 ≤ x ∧ x ≤ 99 ∧ y ≤ x ∧ V 151 i = nI x ∧ V 156 i = nI y) ∧
  ((V 152 i = 0 ∧ rg (V 153 i) (ns + 1) ∧ V 155 i = 0) ∨ ((V 152 i = 1 ∨ V 152 i = nI 2) ∧ rg (V 153 i) ns ∧ σ (r + 73 + 4 * i) 8 = V 155 i) ∨ (V 152 i = nI 3 ∧ rg (V 153 i) ns ∧ V 155 i = 0 ∧ rg (V 154 i) (ns + 1) ∧ σ (r + 73 + 4 * i) 7 = V 154 i)) ∧
  cW σ (r + 75 + 4 * i) (r + 76 + 4 * i) V (10 * i) ns
section CG2
variable {σ σ' V V' : Sg} {r ns nb nl nt nr q : Nat}
theorem cB1_cg {i : Nat} (h : cB1 σ r V ns nl i) (hs : (∀ j, σ' (r + 73 + 4 * i) j = σ (r + 73 + 4 * i) j) ∧ ∀ k, k < 10 → σ' (r + 75 + 4 * i) k = σ (r + 75 + 4 * i) k ∧ σ' (r + 76 + 4 * i) k = σ (r + 76 + 4 * i) k)
    (hv : ∀ a, 149 ≤ a → a ≤ 156 → V' a i = V a i) (hw : ∀ k, k < 10 → V' 157 (10 * i + k) = V 157 (10 * i + k) ∧ V' 158 (10 * i + k) = V 158 (10 * i + k)) (hl : aboS V' i nl = aboS V i nl) : cB1 σ' r V' ns nl i := by
  obtain ⟨h1, h2, h3, h4, h5, h6⟩ := h
  obtain ⟨a1, a2⟩ := hs
  unfold cB1
  rw [a1, a1, a1, a1, a1, a1, a1, a1, a1, hv 149 (by omega) (by omega), hv 150 (by omega) (by omega), hv 151 (by omega) (by omega), hv 152 (by omega) (by omega), hv 153 (by omega) (by omega), hv 154 (by omega) (by omega), hv 155 (by omega) (by omega), hv 156 (by omega) (by omega), hl]
  exact ⟨h1, h2, h3, h4, h5, cW_cg h6 a2 hw⟩
theorem cB_at {i0 : Nat} (h : cB σ r V ns nb nl) (h0 : i0 < nb → cB1 σ' r V' ns nl i0) (hs : ∀ i, i < nb → i ≠ i0 → (∀ j, σ' (r + 73 + 4 * i) j = σ (r + 73 + 4 * i) j) ∧ ∀ k, k < 10 → σ' (r + 75 + 4 * i) k = σ (r + 75 + 4 * i) k ∧ σ' (r + 76 + 4 * i) k = σ (r + 76 + 4 * i) k)
    (hv : ∀ i, i < nb → i ≠ i0 → ∀ a, 149 ≤ a → a ≤ 156 → V' a i = V a i) (hw : ∀ i, i < nb → i ≠ i0 → ∀ k, k < 10 → V' 157 (10 * i + k) = V 157 (10 * i + k) ∧ V' 158 (10 * i + k) = V 158 (10 * i + k)) (hl : ∀ i, i < nb → i ≠ i0 → aboS V' i nl = aboS V i nl) : cB σ' r V' ns nb nl := by
  intro i hi
  by_cases e : i = i0
  · subst e; exact h0 hi
  · exact cB1_cg (h i hi) (hs i hi e) (hv i hi e) (hw i hi e) (hl i hi e)
theorem cB_at0 {i : Nat} (h : cB σ r V ns nb nl) (hi : i < nb) (h0 : V 152 i = 0) : rg (V 153 i) (ns + 1) := by
  rcases (h i hi).2.2.2.2.1 with ⟨-, z, -⟩ | ⟨z, -⟩ | ⟨z, -⟩
  · exact z
  · rw [h0] at z; rcases z with z | z <;> exact absurd z (by decide)
  · rw [h0] at z; exact absurd z (by decide)
theorem cB_wt {i : Nat} (h : cB σ r V ns nb nl) (hi : i < nb) : ∃ x y, 1 ≤ x ∧ x ≤ 99 ∧ y ≤ x ∧ V 151 i = nI x ∧ V 156 i = nI y := (h i hi).2.2.2.1
end CG2
section HC
variable {G : Gl} {R : Room} {F : Fn} {K : Int32 → Hp → Prop} {KV : Hp → Prop} {σ : Nat → Nat → Int32} {b : Bool}
theorem ct_X11_wood {x y : Int32} {q ns nb nl nt nr : Nat} (hR : RR σ 4 σ q ns nb nl nt nr) (h1 : ¬ (∃ i m, i < nb ∧ m < 100 ∧ x = nI i ∧ y = nI m ∧ 1 ≤ m) → K (-1) (up2 σ 3 3 1, sh b)) (h3 : ∀ (i m : Nat), i < nb → m < 100 → x = nI i → y = nI m → 1 ≤ m → ¬ (σ 152 i = 0 ∧ ¬ σ 159 (σ 153 i).toNatClampNeg = 0 ∧ (σ 156 i).toInt + m ≤ (σ 151 i).toInt) → K (-1) (up2 σ 3 3 (nI 3), sh b)) (h2 : ∀ (i m : Nat), i < nb → m < 100 → x = nI i → y = nI m → 1 ≤ m → (σ 152 i = 0 ∧ ¬ σ 159 (σ 153 i).toNatClampNeg = 0 ∧ (σ 156 i).toInt + m ≤ (σ 151 i).toInt) → K (σ 156 i + nI m) (up2 (up2 σ (77 + 4 * i) 3 (σ 156 i + nI m)) 3 3 0, sh b)) : CM G mX11_wood (rl 3) [.ref 3, .int x, .int y] (σ, sh b) (QI K) := by
  obtain ⟨⟨⟨hq2, hn10, hnb, hnl, hnt, hnr⟩, ⟨vq, vns, vnb, vnl, vnt, vnr⟩, ⟨rq, rns, rnb, rnl, rnt, rnr⟩, hpd⟩, hH, hC, hS, hLD, hB, hA, hT, hU⟩ := hR
  refine CM.of (by decide) (Nat.le_of_ble_eq_true rfl) (cats1 rfl) ?_
  refine V_aload_n (pc := 0) d_X11_wood_0 rfl ?_
  refine P_getR (pc := 1) d_X11_wood_1 f_X11_10 (tt_3 b) (rr_3_0 b) ?_
  refine V_iload_n (pc := 4) d_X11_wood_4 rfl ?_
  refine V_cvI (pc := 5) (n := 2) (c := 4) [_] d_X11_wood_5 c_X11_136 k_X4_isBoat ⟨rfl, rfl⟩ (tt_4 b) rfl (Nat.le_of_ble_eq_true rfl) ⟨Nat.le_of_ble_eq_true rfl, Nat.le_of_ble_eq_true rfl⟩ ⟨Nat.le_refl _, Nat.le_refl _⟩ (ct_X4_isBoat rnb (by omega) ?_)
  refine V_if_eq (pc := 8) 21 d_X11_wood_8 (by decide) (fun c8 => ?_) (fun c8 => ?_)
  · replace c8 := zf c8
    refine V_aload_n (pc := 21) d_X11_wood_21 rfl ?_
    refine V_iconst (pc := 22) (1) d_X11_wood_22 (by decide) ?_
    refine V_cvI (pc := 23) (n := 1) (c := 11) [_] d_X11_wood_23 c_X11_55 k_X11_refused ⟨rfl, rfl⟩ (tt_3 b) rfl (Nat.le_of_ble_eq_true rfl) ⟨Nat.le_of_ble_eq_true rfl, Nat.le_of_ble_eq_true rfl⟩ ⟨Nat.le_refl _, Nat.le_refl _⟩ (ct_X11_refused ?_)
    exact V_retI (pc := 26) d_X11_wood_26 rfl ⟨Nat.le_refl _, Nat.le_refl _⟩ (h1 (by
                        rintro ⟨i, m, gi, gm, rfl, rfl, d0⟩
                        simp (disch := omega) only [nI_toInt] at *
                        omega))
  · replace c8 := zt c8
    refine V_iload_n (pc := 11) d_X11_wood_11 rfl ?_
    refine V_iconst (pc := 12) (1) d_X11_wood_12 (by decide) ?_
    refine V_bipush (pc := 13) (nI 99) d_X11_wood_13 (by decide) ?_
    refine V_csI (pc := 15) (n := 1) [_, _, _] d_X11_wood_15 c_X11_51 k_X11_isWithin rfl (Nat.le_of_ble_eq_true rfl) ⟨Nat.le_of_ble_eq_true rfl, Nat.le_of_ble_eq_true rfl⟩ ⟨Nat.le_refl _, Nat.le_refl _⟩ (ct_X11_isWithin (lo := 1) (hi := 99) (by decide) (by decide) ?_)
    refine V_if_ne (pc := 18) 27 d_X11_wood_18 (by decide) (fun c18 => ?_) (fun c18 => ?_)
    · replace c18 := zt c18
      obtain ⟨i, hi, rfl, -⟩ := nat_of (n := nb) c8.1 (by omega) (by omega)
      obtain ⟨m, hm, rfl, -⟩ := nat_of (n := 100) (x := y) (by omega) (by omega) (by omega)
      simp (disch := omega) only [nI_toInt] at c18
      refine V_aload_n (pc := 27) d_X11_wood_27 rfl ?_
      refine P_getR (pc := 28) d_X11_wood_28 f_X11_10 (tt_3 b) (rr_3_0 b) ?_
      refine P_getR (pc := 31) d_X11_wood_31 f_X11_113 (tt_4 b) (rr_4_12 b) ?_
      refine V_iload_n (pc := 34) d_X11_wood_34 rfl ?_
      refine P_aald (pc := 35) (c := 2) (i) d_X11_wood_35 (tt_9 b) (by decide) rfl (ln_of (ll_9 b) ⟨by omega, by decide⟩) (rB b (by omega)) ?_
      refine V_astore_n (pc := 36) d_X11_wood_36 (by decide) ?_
      refine V_aload_n (pc := 37) d_X11_wood_37 rfl ?_
      refine P_getI (pc := 38) d_X11_wood_38 f_X11_142 (tB b (by omega)) ?_
      rw [(cB_f hB (by omega : i < nb)).2.2.2.2.2.1]
      refine V_if_ne (pc := 41) 66 d_X11_wood_41 (by decide) (fun c41 => ?_) (fun c41 => ?_)
      · refine V_iconst (pc := 66) (0) d_X11_wood_66 (by decide) ?_
        refine V_istore (pc := 67) d_X11_wood_67 (by decide) ?_
        refine V_iload (pc := 69) d_X11_wood_69 rfl ?_
        refine V_if_eq (pc := 71) 87 d_X11_wood_71 (by decide) (fun c71 => ?_) (fun c71 => ?_)
        · refine V_aload_n (pc := 87) d_X11_wood_87 rfl ?_
          refine V_iconst (pc := 88) (nI 3) d_X11_wood_88 (by decide) ?_
          refine V_cvI (pc := 89) (n := 1) (c := 11) [_] d_X11_wood_89 c_X11_55 k_X11_refused ⟨rfl, rfl⟩ (tt_3 b) rfl (Nat.le_of_ble_eq_true rfl) ⟨Nat.le_of_ble_eq_true rfl, Nat.le_of_ble_eq_true rfl⟩ ⟨Nat.le_refl _, Nat.le_refl _⟩ (ct_X11_refused ?_)
          exact V_retI (pc := 92) d_X11_wood_92 rfl ⟨Nat.le_refl _, Nat.le_refl _⟩ (h3 i m hi hm rfl rfl (by omega) (by
            rintro ⟨z1, z2, z3⟩
            first | exact absurd z1 c41 | (rw [ea, nI_clamp (by omega), ep, nI_eq0 (by omega)] at z2; omega) | (rw [ec, et, nI_toInt (by omega), nI_toInt (by omega)] at z3; omega)))
        · exact absurd (by decide) c71
      · obtain ⟨a, ha, ea⟩ := cB_at0 hB (by omega : i < nb) c41
        refine V_aload_n (pc := 44) d_X11_wood_44 rfl ?_
        refine P_getR (pc := 45) d_X11_wood_45 f_X11_10 (tt_3 b) (rr_3_0 b) ?_
        refine P_getR (pc := 48) d_X11_wood_48 f_X11_200 (tt_4 b) (rr_4_11 b) ?_
        refine V_aload_n (pc := 51) d_X11_wood_51 rfl ?_
        refine P_getI (pc := 52) d_X11_wood_52 f_X11_146 (tB b (by omega)) ?_
        rw [(cB_f hB (by omega : i < nb)).2.2.2.2.2.2]
        rw [ea]
        refine P_aald (pc := 55) (c := 3) (a) d_X11_wood_55 (tt_8 b) (by decide) rfl (ln_of (ll_8 b) ⟨by omega, by decide⟩) (rLD b (by omega)) ?_
        refine P_getI (pc := 56) d_X11_wood_56 f_X11_204 (tLD b (by omega)) ?_
        obtain ⟨p, hp, ep⟩ := (hLD a (by omega)).2.1
        rw [(hLD a (by omega)).1, ep]
        refine B_if_le (pc := 59) 66 d_X11_wood_59 (by decide) (fun c59 => ?_) (fun c59 => ?_)
        · simp (disch := omega) only [nI_toInt, ti0, ti1, tim1, tim20, tim1000] at c59
          refine V_iconst (pc := 66) (0) d_X11_wood_66 (by decide) ?_
          refine V_istore (pc := 67) d_X11_wood_67 (by decide) ?_
          refine V_iload (pc := 69) d_X11_wood_69 rfl ?_
          refine V_if_eq (pc := 71) 87 d_X11_wood_71 (by decide) (fun c71 => ?_) (fun c71 => ?_)
          · refine V_aload_n (pc := 87) d_X11_wood_87 rfl ?_
            refine V_iconst (pc := 88) (nI 3) d_X11_wood_88 (by decide) ?_
            refine V_cvI (pc := 89) (n := 1) (c := 11) [_] d_X11_wood_89 c_X11_55 k_X11_refused ⟨rfl, rfl⟩ (tt_3 b) rfl (Nat.le_of_ble_eq_true rfl) ⟨Nat.le_of_ble_eq_true rfl, Nat.le_of_ble_eq_true rfl⟩ ⟨Nat.le_refl _, Nat.le_refl _⟩ (ct_X11_refused ?_)
            exact V_retI (pc := 92) d_X11_wood_92 rfl ⟨Nat.le_refl _, Nat.le_refl _⟩ (h3 i m hi hm rfl rfl (by omega) (by
            rintro ⟨z1, z2, z3⟩
            first | exact absurd z1 c41 | (rw [ea, nI_clamp (by omega), ep, nI_eq0 (by omega)] at z2; omega) | (rw [ec, et, nI_toInt (by omega), nI_toInt (by omega)] at z3; omega)))
          · exact absurd (by decide) c71
        · simp (disch := omega) only [nI_toInt, ti0, ti1, tim1, tim20, tim1000] at c59
          refine V_iconst (pc := 62) (1) d_X11_wood_62 (by decide) ?_
          refine V_goto (pc := 63) 67 d_X11_wood_63 (by decide) ?_
          refine V_istore (pc := 67) d_X11_wood_67 (by decide) ?_
          refine V_iload (pc := 69) d_X11_wood_69 rfl ?_
          refine V_if_eq (pc := 71) 87 d_X11_wood_71 (by decide) (fun c71 => ?_) (fun c71 => ?_)
          · exact absurd c71 (by decide)
          · refine V_aload_n (pc := 74) d_X11_wood_74 rfl ?_
            refine P_getI (pc := 75) d_X11_wood_75 f_X11_209 (tB b (by omega)) ?_
            rw [(cB_f hB (by omega : i < nb)).2.2.2.1]
            refine V_iload_n (pc := 78) d_X11_wood_78 rfl ?_
            refine V_iadd (pc := 79) d_X11_wood_79 ?_
            refine V_aload_n (pc := 80) d_X11_wood_80 rfl ?_
            refine P_getI (pc := 81) d_X11_wood_81 f_X11_212 (tB b (by omega)) ?_
            rw [(cB_f hB (by omega : i < nb)).2.2.1]
            obtain ⟨t, c, ht1, ht2, hc, et, ec⟩ := cB_wt hB (by omega : i < nb)
            rw [ec, et, nI_add]
            refine B_icmp_le (pc := 84) 93 d_X11_wood_84 (by decide) (fun c84 => ?_) (fun c84 => ?_)
            · simp (disch := omega) only [nI_toInt, ti0, ti1, tim1, tim20, tim1000] at c84
              refine V_aload_n (pc := 93) d_X11_wood_93 rfl ?_
              refine V_dup (pc := 94) d_X11_wood_94 rfl ?_
              refine P_getI (pc := 95) d_X11_wood_95 f_X11_209 (tB b (by omega)) ?_
              rw [(cB_f hB (by omega : i < nb)).2.2.2.1]
              refine V_iload_n (pc := 98) d_X11_wood_98 rfl ?_
              refine V_iadd (pc := 99) d_X11_wood_99 ?_
              refine P_putI (pc := 100) d_X11_wood_100 f_X11_209 (tB b (by omega)) ?_
              refine V_aload_n (pc := 103) d_X11_wood_103 rfl ?_
              refine V_aload_n (pc := 104) d_X11_wood_104 rfl ?_
              refine P_getI (pc := 105) d_X11_wood_105 f_X11_209 (tB b (by omega)) ?_
              simp (disch := omega) only [up2_n, up2_e]
              refine V_cvI (pc := 108) (n := 1) (c := 11) [_] d_X11_wood_108 c_X11_72 k_X11_done ⟨rfl, rfl⟩ (tt_3 b) rfl (Nat.le_of_ble_eq_true rfl) ⟨Nat.le_of_ble_eq_true rfl, Nat.le_of_ble_eq_true rfl⟩ ⟨Nat.le_refl _, Nat.le_refl _⟩ (ct_X11_done ?_)
              exact V_retI (pc := 111) d_X11_wood_111 rfl ⟨Nat.le_refl _, Nat.le_refl _⟩ (h2 i m hi hm rfl rfl (by omega) ⟨c41, by rw [ea, nI_clamp (by omega), ep, nI_eq0 (by omega)]; omega, by rw [ec, et, nI_toInt (by omega), nI_toInt (by omega)]; omega⟩)
            · simp (disch := omega) only [nI_toInt, ti0, ti1, tim1, tim20, tim1000] at c84
              refine V_aload_n (pc := 87) d_X11_wood_87 rfl ?_
              refine V_iconst (pc := 88) (nI 3) d_X11_wood_88 (by decide) ?_
              refine V_cvI (pc := 89) (n := 1) (c := 11) [_] d_X11_wood_89 c_X11_55 k_X11_refused ⟨rfl, rfl⟩ (tt_3 b) rfl (Nat.le_of_ble_eq_true rfl) ⟨Nat.le_of_ble_eq_true rfl, Nat.le_of_ble_eq_true rfl⟩ ⟨Nat.le_refl _, Nat.le_refl _⟩ (ct_X11_refused ?_)
              exact V_retI (pc := 92) d_X11_wood_92 rfl ⟨Nat.le_refl _, Nat.le_refl _⟩ (h3 i m hi hm rfl rfl (by omega) (by
            rintro ⟨z1, z2, z3⟩
            first | exact absurd z1 c41 | (rw [ea, nI_clamp (by omega), ep, nI_eq0 (by omega)] at z2; omega) | (rw [ec, et, nI_toInt (by omega), nI_toInt (by omega)] at z3; omega)))
    · replace c18 := zf c18
      refine V_aload_n (pc := 21) d_X11_wood_21 rfl ?_
      refine V_iconst (pc := 22) (1) d_X11_wood_22 (by decide) ?_
      refine V_cvI (pc := 23) (n := 1) (c := 11) [_] d_X11_wood_23 c_X11_55 k_X11_refused ⟨rfl, rfl⟩ (tt_3 b) rfl (Nat.le_of_ble_eq_true rfl) ⟨Nat.le_of_ble_eq_true rfl, Nat.le_of_ble_eq_true rfl⟩ ⟨Nat.le_refl _, Nat.le_refl _⟩ (ct_X11_refused ?_)
      exact V_retI (pc := 26) d_X11_wood_26 rfl ⟨Nat.le_refl _, Nat.le_refl _⟩ (h1 (by
                        rintro ⟨i, m, gi, gm, rfl, rfl, d0⟩
                        simp (disch := omega) only [nI_toInt] at *
                        omega))
theorem ct_X12_wood {x y : Int32} {ρ : Sg} {q ns nb nl nt nr : Nat} (hR : RR ρ 4 σ q ns nb nl nt nr) (h1 : ¬ (∃ i m, i < nb ∧ m < 100 ∧ x = nI i ∧ y = nI m ∧ 1 ≤ m) → K (-1) (up2 σ 139 0 1, sh b)) (h3 : ∀ (i m : Nat), i < nb → m < 100 → x = nI i → y = nI m → 1 ≤ m → ¬ (σ 152 i = 0 ∧ ¬ σ 159 (σ 153 i).toNatClampNeg = 0 ∧ (σ 156 i).toInt + m ≤ (σ 151 i).toInt) → K (-1) (up2 σ 139 0 (nI 3), sh b)) (h2 : ∀ (i m : Nat), i < nb → m < 100 → x = nI i → y = nI m → 1 ≤ m → (σ 152 i = 0 ∧ ¬ σ 159 (σ 153 i).toNatClampNeg = 0 ∧ (σ 156 i).toInt + m ≤ (σ 151 i).toInt) → K (σ 156 i + nI m) (up2 (up2 σ 156 i (σ 156 i + nI m)) 139 0 0, sh b)) : CM G mX12_wood (rl 3) [.ref 139, .int x, .int y] (σ, sh b) (QI K) := by
  obtain ⟨⟨⟨hq2, hn10, hnb, hnl, hnt, hnr⟩, ⟨vq, vns, vnb, vnl, vnt, vnr⟩, ⟨rq, rns, rnb, rnl, rnt, rnr⟩, hpd⟩, hH, hC, hS, hLD, hB, hA, hT, hU⟩ := hR
  refine CM.of (by decide) (Nat.le_of_ble_eq_true rfl) (cats1 rfl) ?_
  refine V_aload_n (pc := 0) d_X12_wood_0 rfl ?_
  refine V_iload_n (pc := 1) d_X12_wood_1 rfl ?_
  refine V_cvI (pc := 2) (n := 2) (c := 12) [_] d_X12_wood_2 c_X12_238 k_X12_isBoat ⟨rfl, rfl⟩ (tt_139 b) rfl (Nat.le_of_ble_eq_true rfl) ⟨Nat.le_of_ble_eq_true rfl, Nat.le_of_ble_eq_true rfl⟩ ⟨Nat.le_refl _, Nat.le_refl _⟩ (ct_X12_isBoat vnb (by omega) ?_)
  refine V_if_eq (pc := 5) 18 d_X12_wood_5 (by decide) (fun c5 => ?_) (fun c5 => ?_)
  · replace c5 := zf c5
    refine V_aload_n (pc := 18) d_X12_wood_18 rfl ?_
    refine V_iconst (pc := 19) (1) d_X12_wood_19 (by decide) ?_
    refine V_cvI (pc := 20) (n := 1) (c := 12) [_] d_X12_wood_20 c_X12_187 k_X12_refused ⟨rfl, rfl⟩ (tt_139 b) rfl (Nat.le_of_ble_eq_true rfl) ⟨Nat.le_of_ble_eq_true rfl, Nat.le_of_ble_eq_true rfl⟩ ⟨Nat.le_refl _, Nat.le_refl _⟩ (ct_X12_refused ?_)
    exact V_retI (pc := 23) d_X12_wood_23 rfl ⟨Nat.le_refl _, Nat.le_refl _⟩ (h1 (by
                        rintro ⟨i, m, gi, gm, rfl, rfl, d0⟩
                        simp (disch := omega) only [nI_toInt] at *
                        omega))
  · replace c5 := zt c5
    refine V_iload_n (pc := 8) d_X12_wood_8 rfl ?_
    refine V_iconst (pc := 9) (1) d_X12_wood_9 (by decide) ?_
    refine V_bipush (pc := 10) (nI 99) d_X12_wood_10 (by decide) ?_
    refine V_csI (pc := 12) (n := 1) [_, _, _] d_X12_wood_12 c_X12_174 k_X12_in rfl (Nat.le_of_ble_eq_true rfl) ⟨Nat.le_of_ble_eq_true rfl, Nat.le_of_ble_eq_true rfl⟩ ⟨Nat.le_refl _, Nat.le_refl _⟩ (ct_X12_in (lo := 1) (hi := 99) (by decide) (by decide) ?_)
    refine V_if_ne (pc := 15) 24 d_X12_wood_15 (by decide) (fun c15 => ?_) (fun c15 => ?_)
    · replace c15 := zt c15
      obtain ⟨i, hi, rfl, -⟩ := nat_of (n := nb) c5.1 (by omega) (by omega)
      obtain ⟨m, hm, rfl, -⟩ := nat_of (n := 100) (x := y) (by omega) (by omega) (by omega)
      simp (disch := omega) only [nI_toInt] at c15
      refine V_aload_n (pc := 24) d_X12_wood_24 rfl ?_
      refine P_getR (pc := 25) d_X12_wood_25 f_X12_47 (tt_139 b) (rr_139_16 b) ?_
      refine V_iload_n (pc := 28) d_X12_wood_28 rfl ?_
      refine P_iald (pc := 29) (i) d_X12_wood_29 (tt_152 b) rfl (ln_of (ll_152 b) ⟨by omega, by decide⟩) ?_
      refine V_if_ne (pc := 30) 64 d_X12_wood_30 (by decide) (fun c30 => ?_) (fun c30 => ?_)
      · refine V_aload_n (pc := 64) d_X12_wood_64 rfl ?_
        refine V_iconst (pc := 65) (nI 3) d_X12_wood_65 (by decide) ?_
        refine V_cvI (pc := 66) (n := 1) (c := 12) [_] d_X12_wood_66 c_X12_187 k_X12_refused ⟨rfl, rfl⟩ (tt_139 b) rfl (Nat.le_of_ble_eq_true rfl) ⟨Nat.le_of_ble_eq_true rfl, Nat.le_of_ble_eq_true rfl⟩ ⟨Nat.le_refl _, Nat.le_refl _⟩ (ct_X12_refused ?_)
        exact V_retI (pc := 69) d_X12_wood_69 rfl ⟨Nat.le_refl _, Nat.le_refl _⟩ (h3 i m hi hm rfl rfl (by omega) (by
            rintro ⟨z1, z2, z3⟩
            first | exact absurd z1 c30 | (rw [ea, nI_clamp (by omega), ep, nI_eq0 (by omega)] at z2; omega) | (rw [ec, et, nI_toInt (by omega), nI_toInt (by omega)] at z3; omega)))
      · obtain ⟨a, ha, ea⟩ := cB_at0 hB (by omega : i < nb) c30
        refine V_aload_n (pc := 33) d_X12_wood_33 rfl ?_
        refine P_getR (pc := 34) d_X12_wood_34 f_X12_68 (tt_139 b) (rr_139_23 b) ?_
        refine V_aload_n (pc := 37) d_X12_wood_37 rfl ?_
        refine P_getR (pc := 38) d_X12_wood_38 f_X12_50 (tt_139 b) (rr_139_17 b) ?_
        refine V_iload_n (pc := 41) d_X12_wood_41 rfl ?_
        refine P_iald (pc := 42) (i) d_X12_wood_42 (tt_153 b) rfl (ln_of (ll_153 b) ⟨by omega, by decide⟩) ?_
        rw [ea]
        refine P_iald (pc := 43) (a) d_X12_wood_43 (tt_159 b) rfl (ln_of (ll_159 b) ⟨by omega, by decide⟩) ?_
        obtain ⟨p, hp, ep⟩ := (hLD a (by omega)).2.1
        rw [ep]
        refine V_if_eq (pc := 44) 64 d_X12_wood_44 (by decide) (fun c44 => ?_) (fun c44 => ?_)
        · rw [nI_eq0 (by omega)] at c44
          refine V_aload_n (pc := 64) d_X12_wood_64 rfl ?_
          refine V_iconst (pc := 65) (nI 3) d_X12_wood_65 (by decide) ?_
          refine V_cvI (pc := 66) (n := 1) (c := 12) [_] d_X12_wood_66 c_X12_187 k_X12_refused ⟨rfl, rfl⟩ (tt_139 b) rfl (Nat.le_of_ble_eq_true rfl) ⟨Nat.le_of_ble_eq_true rfl, Nat.le_of_ble_eq_true rfl⟩ ⟨Nat.le_refl _, Nat.le_refl _⟩ (ct_X12_refused ?_)
          exact V_retI (pc := 69) d_X12_wood_69 rfl ⟨Nat.le_refl _, Nat.le_refl _⟩ (h3 i m hi hm rfl rfl (by omega) (by
            rintro ⟨z1, z2, z3⟩
            first | exact absurd z1 c30 | (rw [ea, nI_clamp (by omega), ep, nI_eq0 (by omega)] at z2; omega) | (rw [ec, et, nI_toInt (by omega), nI_toInt (by omega)] at z3; omega)))
        · rw [nI_eq0 (by omega)] at c44
          refine V_iload_n (pc := 47) d_X12_wood_47 rfl ?_
          refine V_aload_n (pc := 48) d_X12_wood_48 rfl ?_
          refine P_getR (pc := 49) d_X12_wood_49 f_X12_44 (tt_139 b) (rr_139_15 b) ?_
          refine V_iload_n (pc := 52) d_X12_wood_52 rfl ?_
          refine P_iald (pc := 53) (i) d_X12_wood_53 (tt_151 b) rfl (ln_of (ll_151 b) ⟨by omega, by decide⟩) ?_
          refine V_aload_n (pc := 54) d_X12_wood_54 rfl ?_
          refine P_getR (pc := 55) d_X12_wood_55 f_X12_59 (tt_139 b) (rr_139_20 b) ?_
          refine V_iload_n (pc := 58) d_X12_wood_58 rfl ?_
          refine P_iald (pc := 59) (i) d_X12_wood_59 (tt_156 b) rfl (ln_of (ll_156 b) ⟨by omega, by decide⟩) ?_
          refine V_isub (pc := 60) d_X12_wood_60 ?_
          obtain ⟨t, c, ht1, ht2, hc, et, ec⟩ := cB_wt hB (by omega : i < nb)
          rw [ec, et, show nI t - nI c = nI (t - c) from pk_sub (by omega)]
          refine B_icmp_le (pc := 61) 70 d_X12_wood_61 (by decide) (fun c61 => ?_) (fun c61 => ?_)
          · simp (disch := omega) only [nI_toInt, ti0, ti1, tim1, tim20, tim1000] at c61
            refine V_aload_n (pc := 70) d_X12_wood_70 rfl ?_
            refine P_getR (pc := 71) d_X12_wood_71 f_X12_59 (tt_139 b) (rr_139_20 b) ?_
            refine V_iload_n (pc := 74) d_X12_wood_74 rfl ?_
            refine V_dup2 (pc := 75) d_X12_wood_75 rfl rfl ?_
            refine P_iald (pc := 76) (i) d_X12_wood_76 (tt_156 b) rfl (ln_of (ll_156 b) ⟨by omega, by decide⟩) ?_
            refine V_iload_n (pc := 77) d_X12_wood_77 rfl ?_
            refine V_iadd (pc := 78) d_X12_wood_78 ?_
            refine P_iast (pc := 79) (i) d_X12_wood_79 (tt_156 b) rfl (ln_of (ll_156 b) ⟨by omega, by decide⟩) ?_
            refine V_aload_n (pc := 80) d_X12_wood_80 rfl ?_
            refine V_aload_n (pc := 81) d_X12_wood_81 rfl ?_
            refine P_getR (pc := 82) d_X12_wood_82 f_X12_59 (tt_139 b) (rr_139_20 b) ?_
            refine V_iload_n (pc := 85) d_X12_wood_85 rfl ?_
            refine P_iald (pc := 86) (i) d_X12_wood_86 (tt_156 b) rfl (ln_of (ll_156 b) ⟨by omega, by decide⟩) ?_
            simp (disch := omega) only [up2_n, up2_e]
            refine V_cvI (pc := 87) (n := 1) (c := 12) [_] d_X12_wood_87 c_X12_191 k_X12_done ⟨rfl, rfl⟩ (tt_139 b) rfl (Nat.le_of_ble_eq_true rfl) ⟨Nat.le_of_ble_eq_true rfl, Nat.le_of_ble_eq_true rfl⟩ ⟨Nat.le_refl _, Nat.le_refl _⟩ (ct_X12_done ?_)
            exact V_retI (pc := 90) d_X12_wood_90 rfl ⟨Nat.le_refl _, Nat.le_refl _⟩ (h2 i m hi hm rfl rfl (by omega) ⟨c30, by rw [ea, nI_clamp (by omega), ep, nI_eq0 (by omega)]; omega, by rw [ec, et, nI_toInt (by omega), nI_toInt (by omega)]; omega⟩)
          · simp (disch := omega) only [nI_toInt, ti0, ti1, tim1, tim20, tim1000] at c61
            refine V_aload_n (pc := 64) d_X12_wood_64 rfl ?_
            refine V_iconst (pc := 65) (nI 3) d_X12_wood_65 (by decide) ?_
            refine V_cvI (pc := 66) (n := 1) (c := 12) [_] d_X12_wood_66 c_X12_187 k_X12_refused ⟨rfl, rfl⟩ (tt_139 b) rfl (Nat.le_of_ble_eq_true rfl) ⟨Nat.le_of_ble_eq_true rfl, Nat.le_of_ble_eq_true rfl⟩ ⟨Nat.le_refl _, Nat.le_refl _⟩ (ct_X12_refused ?_)
            exact V_retI (pc := 69) d_X12_wood_69 rfl ⟨Nat.le_refl _, Nat.le_refl _⟩ (h3 i m hi hm rfl rfl (by omega) (by
            rintro ⟨z1, z2, z3⟩
            first | exact absurd z1 c30 | (rw [ea, nI_clamp (by omega), ep, nI_eq0 (by omega)] at z2; omega) | (rw [ec, et, nI_toInt (by omega), nI_toInt (by omega)] at z3; omega)))
    · replace c15 := zf c15
      refine V_aload_n (pc := 18) d_X12_wood_18 rfl ?_
      refine V_iconst (pc := 19) (1) d_X12_wood_19 (by decide) ?_
      refine V_cvI (pc := 20) (n := 1) (c := 12) [_] d_X12_wood_20 c_X12_187 k_X12_refused ⟨rfl, rfl⟩ (tt_139 b) rfl (Nat.le_of_ble_eq_true rfl) ⟨Nat.le_of_ble_eq_true rfl, Nat.le_of_ble_eq_true rfl⟩ ⟨Nat.le_refl _, Nat.le_refl _⟩ (ct_X12_refused ?_)
      exact V_retI (pc := 23) d_X12_wood_23 rfl ⟨Nat.le_refl _, Nat.le_refl _⟩ (h1 (by
                        rintro ⟨i, m, gi, gm, rfl, rfl, d0⟩
                        simp (disch := omega) only [nI_toInt] at *
                        omega))
theorem pr_wood {x y : Int32}  (h : Rel σ b)  : PR G mX11_wood mX12_wood 3 3 [.int x, .int y] σ b := by
  have h0 := h
  obtain ⟨q, ns, nb, nl, nt, nr, hR, hX, hP, hQ, hK⟩ := h
  have hbd := hR.1.1
  refine ct_X11_wood hR  (fun hv => ?_) (fun i m hi hm ei em d0 hv => ?_) (fun i m hi hm ei em d0 hv => ?_)
  · exact ⟨rfl, ct_X12_wood (RR_lo hR (fun a i _ _ => by simp (disch := omega) only [up2_n, filr_n, film_n]))  (fun _ => ⟨rfl, _, rfl, rel_ref h0⟩) (fun i m hi hm ei em d0 _ => absurd ⟨i, m, hi, hm, ei, em, d0⟩ hv) (fun i m hi hm ei em d0 _ => absurd ⟨i, m, hi, hm, ei, em, d0⟩ hv)⟩
  · refine ⟨rfl, ct_X12_wood (RR_lo hR (fun a i _ _ => by simp (disch := omega) only [up2_n, filr_n, film_n]))  (fun hv => absurd ⟨i, m, hi, hm, ei, em, d0⟩ hv) (fun i' m' hi' hm' ei' em' d0' hv' => ?_) (fun i' m' hi' hm' ei' em' d0' hv' => ?_)⟩
    · obtain rfl : i' = i := nI_inj (by omega) (by omega) (ei'.symm.trans ei)
      obtain rfl : m' = m := nI_inj (by omega) (by omega) (em'.symm.trans em)
      exact ⟨rfl, _, rfl, rel_ref h0⟩
    · obtain rfl : i' = i := nI_inj (by omega) (by omega) (ei'.symm.trans ei)
      obtain rfl : m' = m := nI_inj (by omega) (by omega) (em'.symm.trans em)
      simp (disch := omega) only [up2_n, filr_n, film_n] at hv'
      first | exact absurd hv hv' | exact absurd hv' hv | (exfalso; omega)
  · refine ⟨rfl, ct_X12_wood (RR_lo hR (fun a i _ _ => by simp (disch := omega) only [up2_n, filr_n, film_n]))  (fun hv => absurd ⟨i, m, hi, hm, ei, em, d0⟩ hv) (fun i' m' hi' hm' ei' em' d0' hv' => ?_) (fun i' m' hi' hm' ei' em' d0' hv' => ?_)⟩
    · obtain rfl : i' = i := nI_inj (by omega) (by omega) (ei'.symm.trans ei)
      obtain rfl : m' = m := nI_inj (by omega) (by omega) (em'.symm.trans em)
      simp (disch := omega) only [up2_n, filr_n, film_n] at hv'
      first | exact absurd hv hv' | exact absurd hv' hv | (exfalso; omega)
    · obtain rfl : i' = i := nI_inj (by omega) (by omega) (ei'.symm.trans ei)
      obtain rfl : m' = m := nI_inj (by omega) (by omega) (em'.symm.trans em)
      obtain ⟨hcn, hH, hC, hS, hLD, hB, hA, hT, hU⟩ := id hR
      have hbd := hcn.1
      refine ⟨by simp (disch := omega) only [up2_n, up2_e], _, rfl, ?_⟩
      exact ⟨q, ns, nb, nl, nt, nr, ⟨cCnt_cg hcn (fun i _ _ => (by simp (disch := omega) only [up2_n, filr_n, film_n])) (fun i hi => by rcases hi with rfl | rfl | rfl | rfl | rfl | rfl | rfl <;> simp (disch := omega) only [up2_n, filr_n, film_n]), cH_cg hH (by simp (disch := omega) only [up2_n, filr_n, film_n]) (fun d _ => (by simp (disch := omega) only [up2_n, filr_n, film_n])) (fun d _ => ⟨(by simp (disch := omega) only [up2_n, filr_n, film_n]), (by simp (disch := omega) only [up2_n, filr_n, film_n])⟩), cC_cg hC (fun d _ => (by simp (disch := omega) only [up2_n, filr_n, film_n])) (fun d _ => (by simp (disch := omega) only [up2_n, filr_n, film_n])), cS_cg hS (fun k _ => ⟨fun j => (by simp (disch := omega) only [up2_n, filr_n, film_n]), fun d _ => (by simp (disch := omega) only [up2_n, filr_n, film_n])⟩) (fun k _ => ⟨(by simp (disch := omega) only [up2_n, filr_n, film_n]), (by simp (disch := omega) only [up2_n, filr_n, film_n]), (by simp (disch := omega) only [up2_n, filr_n, film_n]), (by simp (disch := omega) only [up2_n, filr_n, film_n])⟩) (fun i _ => ⟨(by simp (disch := omega) only [up2_n, filr_n, film_n]), (by simp (disch := omega) only [up2_n, filr_n, film_n])⟩), cL_cg hLD (fun l _ => ⟨(by simp (disch := omega) only [up2_n, filr_n, film_n]), fun k _ => ⟨(by simp (disch := omega) only [up2_n, filr_n, film_n]), (by simp (disch := omega) only [up2_n, filr_n, film_n])⟩⟩) (fun l _ => (by simp (disch := omega) only [up2_n, filr_n, film_n])) (fun m _ _ => ⟨(by simp (disch := omega) only [up2_n, filr_n, film_n]), (by simp (disch := omega) only [up2_n, filr_n, film_n])⟩), cB_at (i0 := i') hB (fun _ => by
              obtain ⟨⟨a0, a1, a2, a3, a4, a5, a6⟩, b1, b2, b3, b4, b5⟩ := hB i' hi
              obtain ⟨t, c, u1, u2, u3, u4, u5⟩ := b3
              have hc3 := hv.2.2
              rw [u4, u5, nI_toInt (by omega), nI_toInt (by omega)] at hc3
              refine ⟨⟨?_, ?_, ?_, ?_, ?_, ?_, ?_⟩, ?_, ?_, ⟨t, c + m', u1, u2, by omega, ?_, ?_⟩, ?_, cW_cg b5 (fun k _ => ⟨(by simp (disch := omega) only [up2_n, filr_n, film_n]), (by simp (disch := omega) only [up2_n, filr_n, film_n])⟩) (fun k _ => ⟨(by simp (disch := omega) only [up2_n, filr_n, film_n]), (by simp (disch := omega) only [up2_n, filr_n, film_n])⟩)⟩
              · simp (disch := omega) only [up2_n]; exact a0
              · simp (disch := omega) only [up2_n]; exact a1
              · simp (disch := omega) only [up2_n]; exact a2
              · simp (disch := omega) only [up2_n, up2_e]
              · simp (disch := omega) only [up2_n]; exact a4.trans (aboS_cg (fun j _ => ⟨(by simp (disch := omega) only [up2_n, filr_n, film_n]), (by simp (disch := omega) only [up2_n, filr_n, film_n]), (by simp (disch := omega) only [up2_n, filr_n, film_n])⟩)).symm
              · simp (disch := omega) only [up2_n]; exact a5
              · simp (disch := omega) only [up2_n]; exact a6
              · simp (disch := omega) only [up2_n]; exact b1
              · simp (disch := omega) only [up2_n]; exact b2
              · simp (disch := omega) only [up2_n]; exact u4
              · simp (disch := omega) only [up2_n, up2_e]; rw [u5, nI_add]
              · simp (disch := omega) only [up2_n]; exact b4) (fun i _ _ => ⟨fun j => (by simp (disch := omega) only [up2_n, filr_n, film_n]), fun k _ => ⟨(by simp (disch := omega) only [up2_n, filr_n, film_n]), (by simp (disch := omega) only [up2_n, filr_n, film_n])⟩⟩) (fun i _ _ a _ _ => (by simp (disch := omega) only [up2_n, filr_n, film_n])) (fun i _ _ k _ => ⟨(by simp (disch := omega) only [up2_n, filr_n, film_n]), (by simp (disch := omega) only [up2_n, filr_n, film_n])⟩) (fun i _ _ => aboS_cg (fun j _ => ⟨(by simp (disch := omega) only [up2_n, filr_n, film_n]), (by simp (disch := omega) only [up2_n, filr_n, film_n]), (by simp (disch := omega) only [up2_n, filr_n, film_n])⟩)), cA_cg hA (fun j _ i => (by simp (disch := omega) only [up2_n, filr_n, film_n])) (fun j _ a _ _ => (by simp (disch := omega) only [up2_n, filr_n, film_n])), cT_cg hT (fun j _ i => (by simp (disch := omega) only [up2_n, filr_n, film_n])) (fun j _ a _ _ => (by simp (disch := omega) only [up2_n, filr_n, film_n])), cU_cg hU (fun j _ i => (by simp (disch := omega) only [up2_n, filr_n, film_n])) (fun j _ a _ _ => (by simp (disch := omega) only [up2_n, filr_n, film_n]))⟩, cX_cg hX (by simp [up2]) ⟨(by simp (disch := omega) only [up2_n, filr_n, film_n]), (by simp (disch := omega) only [up2_n, filr_n, film_n])⟩, cP_cg hP ⟨(by simp (disch := omega) only [up2_n, filr_n, film_n]), (by simp (disch := omega) only [up2_n, filr_n, film_n])⟩ (fun j _ => ⟨(by simp (disch := omega) only [up2_n, filr_n, film_n]), (by simp (disch := omega) only [up2_n, filr_n, film_n])⟩), cQ_cg hQ (fun a i _ => (by simp (disch := omega) only [up2_n, filr_n, film_n])), cK_cg hK (by simp (disch := omega) only [up2_n, filr_n, film_n]) (fun a i _ => (by simp (disch := omega) only [up2_n, filr_n, film_n])) (fun a i _ => (by simp (disch := omega) only [up2_n, filr_n, film_n])) (by omega) (by omega) (by omega) (by omega) (by omega)⟩
end HC
