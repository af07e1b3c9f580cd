def ctr (V : Sg) (i j : Nat) : Int32 := if V 163 j = 1 ∧ V 164 j = nI i then V 161 j else 0
theorem aboS_lo {V V' : Sg} {i j : Nat} (h : ∀ k, k ≠ j → V' 161 k = V 161 k ∧ V' 163 k = V 163 k ∧ V' 164 k = V 164 k) : ∀ {n : Nat}, n ≤ j → aboS V' i n = aboS V i n
  | n, hn => aboS_cg (fun k hk => h k (by omega))
theorem aboS_set {V V' : Sg} {i j : Nat} (h : ∀ k, k ≠ j → V' 161 k = V 161 k ∧ V' 163 k = V 163 k ∧ V' 164 k = V 164 k) : ∀ {n : Nat}, j < n → aboS V' i n = aboS V i n - ctr V i j + ctr V' i j
  | 0, hn => absurd hn (by omega)
  | n + 1, hn => by
    by_cases e : n = j
    · subst e
      rw [aboS_s, aboS_s, aboS_lo h (Nat.le_refl _)]
      show aboS V i n + ctr V' i n = aboS V i n + ctr V i n - ctr V i n + ctr V' i n
      rw [Int32.add_sub_cancel]
    · rw [aboS_s, aboS_s, aboS_set h (by omega), (h n e).1, (h n e).2.1, (h n e).2.2]
      generalize aboS V i n = p
      generalize ctr V i j = q
      generalize ctr V' i j = r
      generalize (if V 163 n = 1 ∧ V 164 n = nI i then V 161 n else 0) = t
      rw [Int32.sub_eq_add_neg, Int32.sub_eq_add_neg]
      ac_rfl
theorem up2_up2 {α : Type} {f : Nat → Nat → α} {a i : Nat} {x y : α} : up2 (up2 f a i x) a i y = up2 f a i y := by
  funext c k
  by_cases e : c = a ∧ k = i
  · rw [up2_e e, up2_e e]
  · rw [up2_n e, up2_n e, up2_n e]
section CG5
variable {σ σ' V V' : Sg} {r ns nb nl nt nr q : Nat}
def cA1 (σ : Sg) (r : Nat) (V : Sg) (ns nb j : Nat) : Prop :=
  (σ (r + 93 + j) 0 = V 160 j ∧ σ (r + 93 + j) 1 = V 161 j ∧ σ (r + 93 + j) 2 = V 162 j ∧ σ (r + 93 + j) 3 = V 163 j ∧ σ (r + 93 + j) 4 = V 164 j) ∧
  rg (V 160 j) (ns + 1) ∧ (∃ x, 1 ≤ x ∧ x ≤ 200 ∧ V 161 j = nI x) ∧ rg (V 162 j) 1000 ∧
  ((V 163 j = 0 ∧ rg (V 164 j) (ns + 1) ∧ V 164 j ≠ V 160 j) ∨ (V 163 j = 1 ∧ rg (V 164 j) nb) ∨ (V 163 j = nI 2 ∧ rg (V 164 j) (ns + 1)) ∨ (V 163 j = nI 3 ∧ V 164 j = -1))
theorem cA_at {j0 : Nat} (h : cA σ r V ns nb nl) (h0 : cA1 σ' r V' ns nb j0) (hs : ∀ j, j < nl → j ≠ j0 → ∀ i, σ' (r + 93 + j) i = σ (r + 93 + j) i) (hv : ∀ j, j < nl → j ≠ j0 → ∀ a, 160 ≤ a → a ≤ 164 → V' a j = V a j) : cA σ' r V' ns nb nl := by
  intro j hj
  by_cases e : j = j0
  · subst e; exact h0
  · have ev := hv j hj e
    rw [hs j hj e, hs j hj e, hs j hj e, hs j hj e, hs j hj e, ev 160 (by omega) (by omega), ev 161 (by omega) (by omega), ev 162 (by omega) (by omega), ev 163 (by omega) (by omega), ev 164 (by omega) (by omega)]
    exact h j hj
/-- boats: only the loads change, as the bales do -/
theorem cB_ld {i0 : Nat} {x : Int32} (h : cB σ r V ns nb nl) (hx : i0 < nb → σ' (r + 73 + 4 * i0) 4 = aboS V' i0 nl) (hs : ∀ i, i < nb → (∀ j, j ≠ 4 → σ' (r + 73 + 4 * i) j = σ (r + 73 + 4 * i) j) ∧ ∀ k, k < 10 → σ' (r + 75 + 4 * i) k = σ (r + 75 + 4 * i) k ∧ σ' (r + 76 + 4 * i) k = σ (r + 76 + 4 * i) k)
    (h4 : ∀ i, i < nb → i ≠ i0 → σ' (r + 73 + 4 * i) 4 = σ (r + 73 + 4 * i) 4 ∧ aboS V' i nl = aboS V i nl) (hv : ∀ i, i < nb → ∀ a, 149 ≤ a → a ≤ 156 → V' a i = V a i) (hw : ∀ m, m < 10 * nb → V' 157 m = V 157 m ∧ V' 158 m = V 158 m) : cB σ' r V' ns nb nl := by
  intro i hi
  obtain ⟨⟨g0, g1, g2, g3, g4, g5, g6⟩, h2, h3, h4', h5, h6⟩ := h i hi
  obtain ⟨a1, a2⟩ := hs i hi
  have e := hv i hi
  rw [a1 0 (by omega), a1 1 (by omega), a1 2 (by omega), a1 3 (by omega), a1 5 (by omega), a1 6 (by omega), a1 7 (by omega), a1 8 (by omega), e 149 (by omega) (by omega), e 150 (by omega) (by omega), e 151 (by omega) (by omega), e 152 (by omega) (by omega), e 153 (by omega) (by omega), e 154 (by omega) (by omega), e 155 (by omega) (by omega), e 156 (by omega) (by omega)]
  refine ⟨⟨g0, g1, g2, g3, ?_, g5, g6⟩, h2, h3, h4', h5, cW_cg h6 a2 (fun k hk => hw _ (by omega))⟩
  by_cases z : i = i0
  · subst z; exact hx hi
  · rw [(h4 i hi z).1, (h4 i hi z).2]; exact g4
end CG5
section HC
variable {G : Gl} {R : Room} {F : Fn} {K : Int32 → Hp → Prop} {KV : Hp → Prop} {σ : Nat → Nat → Int32} {b : Bool}
theorem ct_X11_lade {x y : Int32} {q ns nb nl nt nr : Nat} (hR : RR σ 4 σ q ns nb nl nt nr) (h1 : ¬ (∃ j i, j < nl ∧ i < nb ∧ x = nI j ∧ y = nI i) → K (-1) (up2 σ 3 3 1, sh b)) (h3 : ∀ (j i : Nat), j < nl → i < nb → x = nI j → y = nI i → ¬ (σ 163 j = 0 ∧ σ 152 i = 0 ∧ σ 164 j = σ 153 i ∧ (aboS σ i nl + σ 161 j).toInt ≤ (σ 150 i).toInt) → K (-1) (up2 σ 3 3 (nI 3), sh b)) (h2 : ∀ (j i : Nat), j < nl → i < nb → x = nI j → y = nI i → (σ 163 j = 0 ∧ σ 152 i = 0 ∧ σ 164 j = σ 153 i ∧ (aboS σ i nl + σ 161 j).toInt ≤ (σ 150 i).toInt) → K (σ 149 i + (aboS σ i nl + σ 161 j) / nI 10) (up2 (up2 (up2 (up2 σ (97 + j) 3 1) (97 + j) 4 (nI i)) (77 + 4 * i) 4 (aboS σ i nl + σ 161 j)) 3 3 0, sh b)) : CM G mX11_lade (rl 3) [.ref 3, .int x, .int y] (σ, sh b) (QI K) := by
  obtain ⟨⟨⟨hq2, hn10, hnb, hnl, hnt, hnr⟩, ⟨vq, vns, vnb, vnl, vnt, vnr⟩, ⟨rq, rns, rnb, rnl, rnt, rnr⟩, hpd⟩, hH, hC, hS, hLD, hB, hA, hT, hU⟩ := hR
  refine CM.of (by decide) (Nat.le_of_ble_eq_true rfl) (cats1 rfl) ?_
  refine V_aload_n (pc := 0) d_X11_lade_0 rfl ?_
  refine P_getR (pc := 1) d_X11_lade_1 f_X11_10 (tt_3 b) (rr_3_0 b) ?_
  refine V_iload_n (pc := 4) d_X11_lade_4 rfl ?_
  refine V_cvI (pc := 5) (n := 2) (c := 4) [_] d_X11_lade_5 c_X11_133 k_X4_isBale ⟨rfl, rfl⟩ (tt_4 b) rfl (Nat.le_of_ble_eq_true rfl) ⟨Nat.le_of_ble_eq_true rfl, Nat.le_of_ble_eq_true rfl⟩ ⟨Nat.le_refl _, Nat.le_refl _⟩ (ct_X4_isBale rnl (by omega) ?_)
  refine V_if_eq (pc := 8) 22 d_X11_lade_8 (by decide) (fun c8 => ?_) (fun c8 => ?_)
  · replace c8 := zf c8
    refine V_aload_n (pc := 22) d_X11_lade_22 rfl ?_
    refine V_iconst (pc := 23) (1) d_X11_lade_23 (by decide) ?_
    refine V_cvI (pc := 24) (n := 1) (c := 11) [_] d_X11_lade_24 c_X11_55 k_X11_refused ⟨rfl, rfl⟩ (tt_3 b) rfl (Nat.le_of_ble_eq_true rfl) ⟨Nat.le_of_ble_eq_true rfl, Nat.le_of_ble_eq_true rfl⟩ ⟨Nat.le_refl _, Nat.le_refl _⟩ (ct_X11_refused ?_)
    exact V_retI (pc := 27) d_X11_lade_27 rfl ⟨Nat.le_refl _, Nat.le_refl _⟩ (h1 (by
                        rintro ⟨j, i, gj, gi, ej, ei⟩
                        try subst ej
                        try subst ei
                        simp (disch := omega) only [nI_toInt, nI_eq] at *
                        omega))
  · replace c8 := zt c8
    refine V_aload_n (pc := 11) d_X11_lade_11 rfl ?_
    refine P_getR (pc := 12) d_X11_lade_12 f_X11_10 (tt_3 b) (rr_3_0 b) ?_
    refine V_iload_n (pc := 15) d_X11_lade_15 rfl ?_
    refine V_cvI (pc := 16) (n := 2) (c := 4) [_] d_X11_lade_16 c_X11_136 k_X4_isBoat ⟨rfl, rfl⟩ (tt_4 b) rfl (Nat.le_of_ble_eq_true rfl) ⟨Nat.le_of_ble_eq_true rfl, Nat.le_of_ble_eq_true rfl⟩ ⟨Nat.le_refl _, Nat.le_refl _⟩ (ct_X4_isBoat rnb (by omega) ?_)
    refine V_if_ne (pc := 19) 28 d_X11_lade_19 (by decide) (fun c19 => ?_) (fun c19 => ?_)
    · replace c19 := zt c19
      obtain ⟨j, hj, rfl, -⟩ := nat_of (n := nl) (x := x) (by omega) (by omega) (by omega)
      obtain ⟨i, hi, rfl, -⟩ := nat_of (n := nb) (x := y) (by omega) (by omega) (by omega)
      refine V_aload_n (pc := 28) d_X11_lade_28 rfl ?_
      refine P_getR (pc := 29) d_X11_lade_29 f_X11_10 (tt_3 b) (rr_3_0 b) ?_
      refine P_getR (pc := 32) d_X11_lade_32 f_X11_126 (tt_4 b) (rr_4_13 b) ?_
      refine V_iload_n (pc := 35) d_X11_lade_35 rfl ?_
      refine P_aald (pc := 36) (c := 1) (j) d_X11_lade_36 (tt_10 b) (by decide) rfl (ln_of (ll_10 b) ⟨by omega, by decide⟩) (rBA b (by omega)) ?_
      refine V_astore_n (pc := 37) d_X11_lade_37 (by decide) ?_
      refine V_aload_n (pc := 38) d_X11_lade_38 rfl ?_
      refine P_getR (pc := 39) d_X11_lade_39 f_X11_10 (tt_3 b) (rr_3_0 b) ?_
      refine P_getR (pc := 42) d_X11_lade_42 f_X11_113 (tt_4 b) (rr_4_12 b) ?_
      refine V_iload_n (pc := 45) d_X11_lade_45 rfl ?_
      refine P_aald (pc := 46) (c := 2) (i) d_X11_lade_46 (tt_9 b) (by decide) rfl (ln_of (ll_9 b) ⟨by omega, by decide⟩) (rB b (by omega)) ?_
      refine V_astore (pc := 47) d_X11_lade_47 (by decide) ?_
      refine V_aload_n (pc := 49) d_X11_lade_49 rfl ?_
      refine P_getI (pc := 50) d_X11_lade_50 f_X11_139 (tBA b (by omega)) ?_
      rw [(cA_f hA (by omega : j < nl)).2.2.2.1]
      refine V_if_ne (pc := 53) 80 d_X11_lade_53 (by decide) (fun c53 => ?_) (fun c53 => ?_)
      · refine V_iconst (pc := 80) (0) d_X11_lade_80 (by decide) ?_
        refine V_istore (pc := 81) d_X11_lade_81 (by decide) ?_
        refine V_iload (pc := 83) d_X11_lade_83 rfl ?_
        refine V_if_eq (pc := 85) 106 d_X11_lade_85 (by decide) (fun c85 => ?_) (fun c85 => ?_)
        · refine V_aload_n (pc := 106) d_X11_lade_106 rfl ?_
          refine V_iconst (pc := 107) (nI 3) d_X11_lade_107 (by decide) ?_
          refine V_cvI (pc := 108) (n := 1) (c := 11) [_] d_X11_lade_108 c_X11_55 k_X11_refused ⟨rfl, rfl⟩ (tt_3 b) rfl (Nat.le_of_ble_eq_true rfl) ⟨Nat.le_of_ble_eq_true rfl, Nat.le_of_ble_eq_true rfl⟩ ⟨Nat.le_refl _, Nat.le_refl _⟩ (ct_X11_refused ?_)
          exact V_retI (pc := 111) d_X11_lade_111 rfl ⟨Nat.le_refl _, Nat.le_refl _⟩ (h3 j i hj hi rfl rfl (by
            rintro ⟨z1, z2, z3, z4⟩
            first | exact absurd z1 c53 | exact absurd z2 c61 | exact absurd z3 c73 | exact absurd z4 c103))
        · exact absurd (by decide) c85
      · refine V_aload (pc := 56) d_X11_lade_56 rfl ?_
        refine P_getI (pc := 58) d_X11_lade_58 f_X11_142 (tB b (by omega)) ?_
        rw [(cB_f hB (by omega : i < nb)).2.2.2.2.2.1]
        refine V_if_ne (pc := 61) 80 d_X11_lade_61 (by decide) (fun c61 => ?_) (fun c61 => ?_)
        · refine V_iconst (pc := 80) (0) d_X11_lade_80 (by decide) ?_
          refine V_istore (pc := 81) d_X11_lade_81 (by decide) ?_
          refine V_iload (pc := 83) d_X11_lade_83 rfl ?_
          refine V_if_eq (pc := 85) 106 d_X11_lade_85 (by decide) (fun c85 => ?_) (fun c85 => ?_)
          · refine V_aload_n (pc := 106) d_X11_lade_106 rfl ?_
            refine V_iconst (pc := 107) (nI 3) d_X11_lade_107 (by decide) ?_
            refine V_cvI (pc := 108) (n := 1) (c := 11) [_] d_X11_lade_108 c_X11_55 k_X11_refused ⟨rfl, rfl⟩ (tt_3 b) rfl (Nat.le_of_ble_eq_true rfl) ⟨Nat.le_of_ble_eq_true rfl, Nat.le_of_ble_eq_true rfl⟩ ⟨Nat.le_refl _, Nat.le_refl _⟩ (ct_X11_refused ?_)
            exact V_retI (pc := 111) d_X11_lade_111 rfl ⟨Nat.le_refl _, Nat.le_refl _⟩ (h3 j i hj hi rfl rfl (by
            rintro ⟨z1, z2, z3, z4⟩
            first | exact absurd z1 c53 | exact absurd z2 c61 | exact absurd z3 c73 | exact absurd z4 c103))
          · exact absurd (by decide) c85
        · refine V_aload_n (pc := 64) d_X11_lade_64 rfl ?_
          refine P_getI (pc := 65) d_X11_lade_65 f_X11_143 (tBA b (by omega)) ?_
          rw [(cA_f hA (by omega : j < nl)).2.2.2.2]
          refine V_aload (pc := 68) d_X11_lade_68 rfl ?_
          refine P_getI (pc := 70) d_X11_lade_70 f_X11_146 (tB b (by omega)) ?_
          rw [(cB_f hB (by omega : i < nb)).2.2.2.2.2.2]
          refine V_icmp_ne (pc := 73) 80 d_X11_lade_73 (by decide) (fun c73 => ?_) (fun c73 => ?_)
          · refine V_iconst (pc := 80) (0) d_X11_lade_80 (by decide) ?_
            refine V_istore (pc := 81) d_X11_lade_81 (by decide) ?_
            refine V_iload (pc := 83) d_X11_lade_83 rfl ?_
            refine V_if_eq (pc := 85) 106 d_X11_lade_85 (by decide) (fun c85 => ?_) (fun c85 => ?_)
            · refine V_aload_n (pc := 106) d_X11_lade_106 rfl ?_
              refine V_iconst (pc := 107) (nI 3) d_X11_lade_107 (by decide) ?_
              refine V_cvI (pc := 108) (n := 1) (c := 11) [_] d_X11_lade_108 c_X11_55 k_X11_refused ⟨rfl, rfl⟩ (tt_3 b) rfl (Nat.le_of_ble_eq_true rfl) ⟨Nat.le_of_ble_eq_true rfl, Nat.le_of_ble_eq_true rfl⟩ ⟨Nat.le_refl _, Nat.le_refl _⟩ (ct_X11_refused ?_)
              exact V_retI (pc := 111) d_X11_lade_111 rfl ⟨Nat.le_refl _, Nat.le_refl _⟩ (h3 j i hj hi rfl rfl (by
            rintro ⟨z1, z2, z3, z4⟩
            first | exact absurd z1 c53 | exact absurd z2 c61 | exact absurd z3 c73 | exact absurd z4 c103))
            · exact absurd (by decide) c85
          · refine V_iconst (pc := 76) (1) d_X11_lade_76 (by decide) ?_
            refine V_goto (pc := 77) 81 d_X11_lade_77 (by decide) ?_
            refine V_istore (pc := 81) d_X11_lade_81 (by decide) ?_
            refine V_iload (pc := 83) d_X11_lade_83 rfl ?_
            refine V_if_eq (pc := 85) 106 d_X11_lade_85 (by decide) (fun c85 => ?_) (fun c85 => ?_)
            · exact absurd c85 (by decide)
            · refine V_aload (pc := 88) d_X11_lade_88 rfl ?_
              refine P_getI (pc := 90) d_X11_lade_90 f_X11_147 (tB b (by omega)) ?_
              rw [(cB_f hB (by omega : i < nb)).2.2.2.2.1]
              refine V_aload_n (pc := 93) d_X11_lade_93 rfl ?_
              refine P_getI (pc := 94) d_X11_lade_94 f_X11_150 (tBA b (by omega)) ?_
              rw [(cA_f hA (by omega : j < nl)).2.1]
              refine V_iadd (pc := 97) d_X11_lade_97 ?_
              refine V_aload (pc := 98) d_X11_lade_98 rfl ?_
              refine P_getI (pc := 100) d_X11_lade_100 f_X11_153 (tB b (by omega)) ?_
              rw [(cB_f hB (by omega : i < nb)).2.1]
              refine B_icmp_le (pc := 103) 112 d_X11_lade_103 (by decide) (fun c103 => ?_) (fun c103 => ?_)
              · refine V_aload_n (pc := 112) d_X11_lade_112 rfl ?_
                refine V_iconst (pc := 113) (1) d_X11_lade_113 (by decide) ?_
                refine P_putI (pc := 114) d_X11_lade_114 f_X11_139 (tBA b (by omega)) ?_
                refine V_aload_n (pc := 117) d_X11_lade_117 rfl ?_
                refine V_iload_n (pc := 118) d_X11_lade_118 rfl ?_
                refine P_putI (pc := 119) d_X11_lade_119 f_X11_143 (tBA b (by omega)) ?_
                refine V_aload (pc := 122) d_X11_lade_122 rfl ?_
                refine V_dup (pc := 124) d_X11_lade_124 rfl ?_
                refine P_getI (pc := 125) d_X11_lade_125 f_X11_147 (tB b (by omega)) ?_
                simp (disch := omega) only [up2_n, up2_e]
                rw [(cB_f hB (by omega : i < nb)).2.2.2.2.1]
                refine V_aload_n (pc := 128) d_X11_lade_128 rfl ?_
                refine P_getI (pc := 129) d_X11_lade_129 f_X11_150 (tBA b (by omega)) ?_
                simp (disch := omega) only [up2_n, up2_e]
                rw [(cA_f hA (by omega : j < nl)).2.1]
                refine V_iadd (pc := 132) d_X11_lade_132 ?_
                refine P_putI (pc := 133) d_X11_lade_133 f_X11_147 (tB b (by omega)) ?_
                refine V_aload_n (pc := 136) d_X11_lade_136 rfl ?_
                refine V_aload (pc := 137) d_X11_lade_137 rfl ?_
                refine V_cvI (pc := 139) (n := 2) (c := 2) [] d_X11_lade_139 c_X11_156 k_X2_draught ⟨rfl, rfl⟩ (tB b (by omega)) rfl (Nat.le_of_ble_eq_true rfl) ⟨Nat.le_of_ble_eq_true rfl, Nat.le_of_ble_eq_true rfl⟩ ⟨Nat.le_refl _, Nat.le_refl _⟩ (ct_X2_draught (tB b (by omega)) ?_)
                simp (disch := omega) only [up2_n, up2_e, Int32.add_zero]
                rw [(cB_f hB (by omega : i < nb)).1]
                refine V_cvI (pc := 142) (n := 1) (c := 11) [_] d_X11_lade_142 c_X11_72 k_X11_done ⟨rfl, rfl⟩ (tt_3 b) rfl (Nat.le_of_ble_eq_true rfl) ⟨Nat.le_of_ble_eq_true rfl, Nat.le_of_ble_eq_true rfl⟩ ⟨Nat.le_refl _, Nat.le_refl _⟩ (ct_X11_done ?_)
                exact V_retI (pc := 145) d_X11_lade_145 rfl ⟨Nat.le_refl _, Nat.le_refl _⟩ (h2 j i hj hi rfl rfl ⟨c53, c61, c73, c103⟩)
              · refine V_aload_n (pc := 106) d_X11_lade_106 rfl ?_
                refine V_iconst (pc := 107) (nI 3) d_X11_lade_107 (by decide) ?_
                refine V_cvI (pc := 108) (n := 1) (c := 11) [_] d_X11_lade_108 c_X11_55 k_X11_refused ⟨rfl, rfl⟩ (tt_3 b) rfl (Nat.le_of_ble_eq_true rfl) ⟨Nat.le_of_ble_eq_true rfl, Nat.le_of_ble_eq_true rfl⟩ ⟨Nat.le_refl _, Nat.le_refl _⟩ (ct_X11_refused ?_)
                exact V_retI (pc := 111) d_X11_lade_111 rfl ⟨Nat.le_refl _, Nat.le_refl _⟩ (h3 j i hj hi rfl rfl (by
            rintro ⟨z1, z2, z3, z4⟩
            first | exact absurd z1 c53 | exact absurd z2 c61 | exact absurd z3 c73 | exact absurd z4 c103))
    · replace c19 := zf c19
      refine V_aload_n (pc := 22) d_X11_lade_22 rfl ?_
      refine V_iconst (pc := 23) (1) d_X11_lade_23 (by decide) ?_
      refine V_cvI (pc := 24) (n := 1) (c := 11) [_] d_X11_lade_24 c_X11_55 k_X11_refused ⟨rfl, rfl⟩ (tt_3 b) rfl (Nat.le_of_ble_eq_true rfl) ⟨Nat.le_of_ble_eq_true rfl, Nat.le_of_ble_eq_true rfl⟩ ⟨Nat.le_refl _, Nat.le_refl _⟩ (ct_X11_refused ?_)
      exact V_retI (pc := 27) d_X11_lade_27 rfl ⟨Nat.le_refl _, Nat.le_refl _⟩ (h1 (by
                        rintro ⟨j, i, gj, gi, ej, ei⟩
                        try subst ej
                        try subst ei
                        simp (disch := omega) only [nI_toInt, nI_eq] at *
                        omega))
theorem ct_X12_lade {x y : Int32} {ρ : Sg} {q ns nb nl nt nr : Nat} (hR : RR ρ 4 σ q ns nb nl nt nr) (h1 : ¬ (∃ j i, j < nl ∧ i < nb ∧ x = nI j ∧ y = nI i) → K (-1) (up2 σ 139 0 1, sh b)) (h3 : ∀ (j i : Nat), j < nl → i < nb → x = nI j → y = nI i → ¬ (σ 163 j = 0 ∧ σ 152 i = 0 ∧ σ 164 j = σ 153 i ∧ (aboS σ i nl + σ 161 j).toInt ≤ (σ 150 i).toInt) → K (-1) (up2 σ 139 0 (nI 3), sh b)) (h2 : ∀ (j i : Nat), j < nl → i < nb → x = nI j → y = nI i → (σ 163 j = 0 ∧ σ 152 i = 0 ∧ σ 164 j = σ 153 i ∧ (aboS σ i nl + σ 161 j).toInt ≤ (σ 150 i).toInt) → K (σ 149 i + (aboS σ i nl + σ 161 j) / nI 10) (up2 (up2 (up2 σ 163 j 1) 164 j (nI i)) 139 0 0, sh b)) : CM G mX12_lade (rl 3) [.ref 139, .int x, .int y] (σ, sh b) (QI K) := by
  obtain ⟨⟨⟨hq2, hn10, hnb, hnl, hnt, hnr⟩, ⟨vq, vns, vnb, vnl, vnt, vnr⟩, ⟨rq, rns, rnb, rnl, rnt, rnr⟩, hpd⟩, hH, hC, hS, hLD, hB, hA, hT, hU⟩ := hR
  refine CM.of (by decide) (Nat.le_of_ble_eq_true rfl) (cats1 rfl) ?_
  refine V_aload_n (pc := 0) d_X12_lade_0 rfl ?_
  refine V_iload_n (pc := 1) d_X12_lade_1 rfl ?_
  refine V_cvI (pc := 2) (n := 2) (c := 12) [_] d_X12_lade_2 c_X12_235 k_X12_isBale ⟨rfl, rfl⟩ (tt_139 b) rfl (Nat.le_of_ble_eq_true rfl) ⟨Nat.le_of_ble_eq_true rfl, Nat.le_of_ble_eq_true rfl⟩ ⟨Nat.le_refl _, Nat.le_refl _⟩ (ct_X12_isBale vnl (by omega) ?_)
  refine V_if_eq (pc := 5) 16 d_X12_lade_5 (by decide) (fun c5 => ?_) (fun c5 => ?_)
  · replace c5 := zf c5
    refine V_aload_n (pc := 16) d_X12_lade_16 rfl ?_
    refine V_iconst (pc := 17) (1) d_X12_lade_17 (by decide) ?_
    refine V_cvI (pc := 18) (n := 1) (c := 12) [_] d_X12_lade_18 c_X12_187 k_X12_refused ⟨rfl, rfl⟩ (tt_139 b) rfl (Nat.le_of_ble_eq_true rfl) ⟨Nat.le_of_ble_eq_true rfl, Nat.le_of_ble_eq_true rfl⟩ ⟨Nat.le_refl _, Nat.le_refl _⟩ (ct_X12_refused ?_)
    exact V_retI (pc := 21) d_X12_lade_21 rfl ⟨Nat.le_refl _, Nat.le_refl _⟩ (h1 (by
                        rintro ⟨j, i, gj, gi, ej, ei⟩
                        try subst ej
                        try subst ei
                        simp (disch := omega) only [nI_toInt, nI_eq] at *
                        omega))
  · replace c5 := zt c5
    refine V_aload_n (pc := 8) d_X12_lade_8 rfl ?_
    refine V_iload_n (pc := 9) d_X12_lade_9 rfl ?_
    refine V_cvI (pc := 10) (n := 2) (c := 12) [_] d_X12_lade_10 c_X12_238 k_X12_isBoat ⟨rfl, rfl⟩ (tt_139 b) rfl (Nat.le_of_ble_eq_true rfl) ⟨Nat.le_of_ble_eq_true rfl, Nat.le_of_ble_eq_true rfl⟩ ⟨Nat.le_refl _, Nat.le_refl _⟩ (ct_X12_isBoat vnb (by omega) ?_)
    refine V_if_ne (pc := 13) 22 d_X12_lade_13 (by decide) (fun c13 => ?_) (fun c13 => ?_)
    · replace c13 := zt c13
      obtain ⟨j, hj, rfl, -⟩ := nat_of (n := nl) (x := x) (by omega) (by omega) (by omega)
      obtain ⟨i, hi, rfl, -⟩ := nat_of (n := nb) (x := y) (by omega) (by omega) (by omega)
      refine V_aload_n (pc := 22) d_X12_lade_22 rfl ?_
      refine P_getR (pc := 23) d_X12_lade_23 f_X12_80 (tt_139 b) (rr_139_28 b) ?_
      refine V_iload_n (pc := 26) d_X12_lade_26 rfl ?_
      refine P_iald (pc := 27) (j) d_X12_lade_27 (tt_163 b) rfl (ln_of (ll_163 b) ⟨by omega, by decide⟩) ?_
      refine V_if_ne (pc := 28) 76 d_X12_lade_28 (by decide) (fun c28 => ?_) (fun c28 => ?_)
      · refine V_aload_n (pc := 76) d_X12_lade_76 rfl ?_
        refine V_iconst (pc := 77) (nI 3) d_X12_lade_77 (by decide) ?_
        refine V_cvI (pc := 78) (n := 1) (c := 12) [_] d_X12_lade_78 c_X12_187 k_X12_refused ⟨rfl, rfl⟩ (tt_139 b) rfl (Nat.le_of_ble_eq_true rfl) ⟨Nat.le_of_ble_eq_true rfl, Nat.le_of_ble_eq_true rfl⟩ ⟨Nat.le_refl _, Nat.le_refl _⟩ (ct_X12_refused ?_)
        exact V_retI (pc := 81) d_X12_lade_81 rfl ⟨Nat.le_refl _, Nat.le_refl _⟩ (h3 j i hj hi rfl rfl (by
            rintro ⟨z1, z2, z3, z4⟩
            first | exact absurd z1 c28 | exact absurd z2 c37 | exact absurd z3 c52 | exact absurd z4 c73))
      · refine V_aload_n (pc := 31) d_X12_lade_31 rfl ?_
        refine P_getR (pc := 32) d_X12_lade_32 f_X12_47 (tt_139 b) (rr_139_16 b) ?_
        refine V_iload_n (pc := 35) d_X12_lade_35 rfl ?_
        refine P_iald (pc := 36) (i) d_X12_lade_36 (tt_152 b) rfl (ln_of (ll_152 b) ⟨by omega, by decide⟩) ?_
        refine V_if_ne (pc := 37) 76 d_X12_lade_37 (by decide) (fun c37 => ?_) (fun c37 => ?_)
        · refine V_aload_n (pc := 76) d_X12_lade_76 rfl ?_
          refine V_iconst (pc := 77) (nI 3) d_X12_lade_77 (by decide) ?_
          refine V_cvI (pc := 78) (n := 1) (c := 12) [_] d_X12_lade_78 c_X12_187 k_X12_refused ⟨rfl, rfl⟩ (tt_139 b) rfl (Nat.le_of_ble_eq_true rfl) ⟨Nat.le_of_ble_eq_true rfl, Nat.le_of_ble_eq_true rfl⟩ ⟨Nat.le_refl _, Nat.le_refl _⟩ (ct_X12_refused ?_)
          exact V_retI (pc := 81) d_X12_lade_81 rfl ⟨Nat.le_refl _, Nat.le_refl _⟩ (h3 j i hj hi rfl rfl (by
            rintro ⟨z1, z2, z3, z4⟩
            first | exact absurd z1 c28 | exact absurd z2 c37 | exact absurd z3 c52 | exact absurd z4 c73))
        · refine V_aload_n (pc := 40) d_X12_lade_40 rfl ?_
          refine P_getR (pc := 41) d_X12_lade_41 f_X12_83 (tt_139 b) (rr_139_29 b) ?_
          refine V_iload_n (pc := 44) d_X12_lade_44 rfl ?_
          refine P_iald (pc := 45) (j) d_X12_lade_45 (tt_164 b) rfl (ln_of (ll_164 b) ⟨by omega, by decide⟩) ?_
          refine V_aload_n (pc := 46) d_X12_lade_46 rfl ?_
          refine P_getR (pc := 47) d_X12_lade_47 f_X12_50 (tt_139 b) (rr_139_17 b) ?_
          refine V_iload_n (pc := 50) d_X12_lade_50 rfl ?_
          refine P_iald (pc := 51) (i) d_X12_lade_51 (tt_153 b) rfl (ln_of (ll_153 b) ⟨by omega, by decide⟩) ?_
          refine V_icmp_ne (pc := 52) 76 d_X12_lade_52 (by decide) (fun c52 => ?_) (fun c52 => ?_)
          · refine V_aload_n (pc := 76) d_X12_lade_76 rfl ?_
            refine V_iconst (pc := 77) (nI 3) d_X12_lade_77 (by decide) ?_
            refine V_cvI (pc := 78) (n := 1) (c := 12) [_] d_X12_lade_78 c_X12_187 k_X12_refused ⟨rfl, rfl⟩ (tt_139 b) rfl (Nat.le_of_ble_eq_true rfl) ⟨Nat.le_of_ble_eq_true rfl, Nat.le_of_ble_eq_true rfl⟩ ⟨Nat.le_refl _, Nat.le_refl _⟩ (ct_X12_refused ?_)
            exact V_retI (pc := 81) d_X12_lade_81 rfl ⟨Nat.le_refl _, Nat.le_refl _⟩ (h3 j i hj hi rfl rfl (by
            rintro ⟨z1, z2, z3, z4⟩
            first | exact absurd z1 c28 | exact absurd z2 c37 | exact absurd z3 c52 | exact absurd z4 c73))
          · refine V_aload_n (pc := 55) d_X12_lade_55 rfl ?_
            refine V_iload_n (pc := 56) d_X12_lade_56 rfl ?_
            refine V_cvI (pc := 57) (n := 1) (c := 12) [_] d_X12_lade_57 c_X12_232 k_X12_aboard ⟨rfl, rfl⟩ (tt_139 b) rfl (Nat.le_of_ble_eq_true rfl) ⟨Nat.le_of_ble_eq_true rfl, Nat.le_of_ble_eq_true rfl⟩ ⟨Nat.le_refl _, Nat.le_refl _⟩ (ct_X12_aboard vnl hnl (by omega) ?_)
            refine V_aload_n (pc := 60) d_X12_lade_60 rfl ?_
            refine P_getR (pc := 61) d_X12_lade_61 f_X12_74 (tt_139 b) (rr_139_26 b) ?_
            refine V_iload_n (pc := 64) d_X12_lade_64 rfl ?_
            refine P_iald (pc := 65) (j) d_X12_lade_65 (tt_161 b) rfl (ln_of (ll_161 b) ⟨by omega, by decide⟩) ?_
            refine V_iadd (pc := 66) d_X12_lade_66 ?_
            refine V_aload_n (pc := 67) d_X12_lade_67 rfl ?_
            refine P_getR (pc := 68) d_X12_lade_68 f_X12_41 (tt_139 b) (rr_139_14 b) ?_
            refine V_iload_n (pc := 71) d_X12_lade_71 rfl ?_
            refine P_iald (pc := 72) (i) d_X12_lade_72 (tt_150 b) rfl (ln_of (ll_150 b) ⟨by omega, by decide⟩) ?_
            refine B_icmp_le (pc := 73) 82 d_X12_lade_73 (by decide) (fun c73 => ?_) (fun c73 => ?_)
            · refine V_aload_n (pc := 82) d_X12_lade_82 rfl ?_
              refine P_getR (pc := 83) d_X12_lade_83 f_X12_80 (tt_139 b) (rr_139_28 b) ?_
              refine V_iload_n (pc := 86) d_X12_lade_86 rfl ?_
              refine V_iconst (pc := 87) (1) d_X12_lade_87 (by decide) ?_
              refine P_iast (pc := 88) (j) d_X12_lade_88 (tt_163 b) rfl (ln_of (ll_163 b) ⟨by omega, by decide⟩) ?_
              refine V_aload_n (pc := 89) d_X12_lade_89 rfl ?_
              refine P_getR (pc := 90) d_X12_lade_90 f_X12_83 (tt_139 b) (rr_139_29 b) ?_
              refine V_iload_n (pc := 93) d_X12_lade_93 rfl ?_
              refine V_iload_n (pc := 94) d_X12_lade_94 rfl ?_
              refine P_iast (pc := 95) (j) d_X12_lade_95 (tt_164 b) rfl (ln_of (ll_164 b) ⟨by omega, by decide⟩) ?_
              refine V_aload_n (pc := 96) d_X12_lade_96 rfl ?_
              refine V_aload_n (pc := 97) d_X12_lade_97 rfl ?_
              refine V_iload_n (pc := 98) d_X12_lade_98 rfl ?_
              refine V_cvI (pc := 99) (n := 2) (c := 12) [_] d_X12_lade_99 c_X12_241 k_X12_draught ⟨rfl, rfl⟩ (tt_139 b) rfl (Nat.le_of_ble_eq_true rfl) ⟨Nat.le_of_ble_eq_true rfl, Nat.le_of_ble_eq_true rfl⟩ ⟨Nat.le_refl _, Nat.le_refl _⟩ (ct_X12_draught (by simp (disch := omega) only [up2_n]; exact vnl) hnl (by omega) ?_)
              have ab : draS (up2 (up2 σ 163 j 1) 164 j (nI i)) i nl = σ 149 i + (aboS σ i nl + σ 161 j) / nI 10 := by
                rw [draS, aboS_set (V := σ) (j := j) (fun k hk => ⟨(by simp (disch := omega) only [up2_n, filr_n, film_n]), (by simp (disch := omega) only [up2_n, filr_n, film_n]), (by simp (disch := omega) only [up2_n, filr_n, film_n])⟩) (by omega), ctr, ctr, if_neg (fun q => by rw [c28] at q; exact absurd q.1 (by decide))]
                simp (disch := omega) only [up2_n, up2_e, and_self, if_true]
                rw [show ∀ p : Int32, p - 0 = p from fun p => by rw [Int32.sub_zero]]
              rw [ab]
              refine V_cvI (pc := 102) (n := 1) (c := 12) [_] d_X12_lade_102 c_X12_191 k_X12_done ⟨rfl, rfl⟩ (tt_139 b) rfl (Nat.le_of_ble_eq_true rfl) ⟨Nat.le_of_ble_eq_true rfl, Nat.le_of_ble_eq_true rfl⟩ ⟨Nat.le_refl _, Nat.le_refl _⟩ (ct_X12_done ?_)
              exact V_retI (pc := 105) d_X12_lade_105 rfl ⟨Nat.le_refl _, Nat.le_refl _⟩ (h2 j i hj hi rfl rfl ⟨c28, c37, c52, c73⟩)
            · refine V_aload_n (pc := 76) d_X12_lade_76 rfl ?_
              refine V_iconst (pc := 77) (nI 3) d_X12_lade_77 (by decide) ?_
              refine V_cvI (pc := 78) (n := 1) (c := 12) [_] d_X12_lade_78 c_X12_187 k_X12_refused ⟨rfl, rfl⟩ (tt_139 b) rfl (Nat.le_of_ble_eq_true rfl) ⟨Nat.le_of_ble_eq_true rfl, Nat.le_of_ble_eq_true rfl⟩ ⟨Nat.le_refl _, Nat.le_refl _⟩ (ct_X12_refused ?_)
              exact V_retI (pc := 81) d_X12_lade_81 rfl ⟨Nat.le_refl _, Nat.le_refl _⟩ (h3 j i hj hi rfl rfl (by
            rintro ⟨z1, z2, z3, z4⟩
            first | exact absurd z1 c28 | exact absurd z2 c37 | exact absurd z3 c52 | exact absurd z4 c73))
    · replace c13 := zf c13
      refine V_aload_n (pc := 16) d_X12_lade_16 rfl ?_
      refine V_iconst (pc := 17) (1) d_X12_lade_17 (by decide) ?_
      refine V_cvI (pc := 18) (n := 1) (c := 12) [_] d_X12_lade_18 c_X12_187 k_X12_refused ⟨rfl, rfl⟩ (tt_139 b) rfl (Nat.le_of_ble_eq_true rfl) ⟨Nat.le_of_ble_eq_true rfl, Nat.le_of_ble_eq_true rfl⟩ ⟨Nat.le_refl _, Nat.le_refl _⟩ (ct_X12_refused ?_)
      exact V_retI (pc := 21) d_X12_lade_21 rfl ⟨Nat.le_refl _, Nat.le_refl _⟩ (h1 (by
                        rintro ⟨j, i, gj, gi, ej, ei⟩
                        try subst ej
                        try subst ei
                        simp (disch := omega) only [nI_toInt, nI_eq] at *
                        omega))
theorem pr_lade {x y : Int32}  (h : Rel σ b)  : PR G mX11_lade mX12_lade 3 3 [.int x, .int y] σ b := by
  have h0 := h
  obtain ⟨q, ns, nb, nl, nt, nr, hR, hX, hP, hQ, hK⟩ := h
  have hbd := hR.1.1
  refine ct_X11_lade hR  (fun hv => ?_) (fun j i hj hi ej ei hv => ?_) (fun j i hj hi ej ei hv => ?_)
  · exact ⟨rfl, ct_X12_lade (RR_lo hR (fun a i _ _ => by simp (disch := omega) only [up2_n, filr_n, film_n]))  (fun _ => ⟨rfl, _, rfl, rel_ref h0⟩) (fun j i hj hi ej ei _ => absurd ⟨j, i, hj, hi, ej, ei⟩ hv) (fun j i hj hi ej ei _ => absurd ⟨j, i, hj, hi, ej, ei⟩ hv)⟩
  · refine ⟨rfl, ct_X12_lade (RR_lo hR (fun a i _ _ => by simp (disch := omega) only [up2_n, filr_n, film_n]))  (fun hv => absurd ⟨j, i, hj, hi, ej, ei⟩ hv) (fun j' i' hj' hi' ej' ei' hv' => ?_) (fun j' i' hj' hi' ej' ei' hv' => ?_)⟩
    · obtain rfl : j' = j := (nI_eq (by omega) (by omega)).mp (ej'.symm.trans ej)
      obtain rfl : i' = i := (nI_eq (by omega) (by omega)).mp (ei'.symm.trans ei)
      exact ⟨rfl, _, rfl, rel_ref h0⟩
    · obtain rfl : j' = j := (nI_eq (by omega) (by omega)).mp (ej'.symm.trans ej)
      obtain rfl : i' = i := (nI_eq (by omega) (by omega)).mp (ei'.symm.trans ei)
      try simp (disch := omega) only [up2_n] at hv'
      try rw [aboS_cg (V := σ) (fun k _ => ⟨(by simp (disch := omega) only [up2_n, filr_n, film_n]), (by simp (disch := omega) only [up2_n, filr_n, film_n]), (by simp (disch := omega) only [up2_n, filr_n, film_n])⟩)] at hv'
      first | exact absurd hv hv' | exact absurd hv' hv
  · refine ⟨rfl, ct_X12_lade (RR_lo hR (fun a i _ _ => by simp (disch := omega) only [up2_n, filr_n, film_n]))  (fun hv => absurd ⟨j, i, hj, hi, ej, ei⟩ hv) (fun j' i' hj' hi' ej' ei' hv' => ?_) (fun j' i' hj' hi' ej' ei' hv' => ?_)⟩
    · obtain rfl : j' = j := (nI_eq (by omega) (by omega)).mp (ej'.symm.trans ej)
      obtain rfl : i' = i := (nI_eq (by omega) (by omega)).mp (ei'.symm.trans ei)
      try simp (disch := omega) only [up2_n] at hv'
      try rw [aboS_cg (V := σ) (fun k _ => ⟨(by simp (disch := omega) only [up2_n, filr_n, film_n]), (by simp (disch := omega) only [up2_n, filr_n, film_n]), (by simp (disch := omega) only [up2_n, filr_n, film_n])⟩)] at hv'
      first | exact absurd hv hv' | exact absurd hv' hv
    · obtain rfl : j' = j := (nI_eq (by omega) (by omega)).mp (ej'.symm.trans ej)
      obtain rfl : i' = i := (nI_eq (by omega) (by omega)).mp (ei'.symm.trans ei)
      obtain ⟨hcn, hH, hC, hS, hLD, hB, hA, hT, hU⟩ := id hR
      have hbd := hcn.1
      refine ⟨by simp (disch := omega) only [up2_n]; rw [aboS_cg (V := σ) (fun k _ => ⟨(by simp (disch := omega) only [up2_n, filr_n, film_n]), (by simp (disch := omega) only [up2_n, filr_n, film_n]), (by simp (disch := omega) only [up2_n, filr_n, film_n])⟩)], _, rfl, ?_⟩
      exact ⟨q, ns, nb, nl, nt, nr, ⟨cCnt_cg hcn (fun i _ _ => (by simp (disch := omega) only [up2_n, filr_n, film_n])) (fun i hi => by rcases hi with rfl | rfl | rfl | rfl | rfl | rfl | rfl <;> simp (disch := omega) only [up2_n, filr_n, film_n]), cH_cg hH (by simp (disch := omega) only [up2_n, filr_n, film_n]) (fun d _ => (by simp (disch := omega) only [up2_n, filr_n, film_n])) (fun d _ => ⟨(by simp (disch := omega) only [up2_n, filr_n, film_n]), (by simp (disch := omega) only [up2_n, filr_n, film_n])⟩), cC_cg hC (fun d _ => (by simp (disch := omega) only [up2_n, filr_n, film_n])) (fun d _ => (by simp (disch := omega) only [up2_n, filr_n, film_n])), cS_cg hS (fun k _ => ⟨fun j => (by simp (disch := omega) only [up2_n, filr_n, film_n]), fun d _ => (by simp (disch := omega) only [up2_n, filr_n, film_n])⟩) (fun k _ => ⟨(by simp (disch := omega) only [up2_n, filr_n, film_n]), (by simp (disch := omega) only [up2_n, filr_n, film_n]), (by simp (disch := omega) only [up2_n, filr_n, film_n]), (by simp (disch := omega) only [up2_n, filr_n, film_n])⟩) (fun i _ => ⟨(by simp (disch := omega) only [up2_n, filr_n, film_n]), (by simp (disch := omega) only [up2_n, filr_n, film_n])⟩), cL_cg hLD (fun l _ => ⟨(by simp (disch := omega) only [up2_n, filr_n, film_n]), fun k _ => ⟨(by simp (disch := omega) only [up2_n, filr_n, film_n]), (by simp (disch := omega) only [up2_n, filr_n, film_n])⟩⟩) (fun l _ => (by simp (disch := omega) only [up2_n, filr_n, film_n])) (fun m _ _ => ⟨(by simp (disch := omega) only [up2_n, filr_n, film_n]), (by simp (disch := omega) only [up2_n, filr_n, film_n])⟩), cB_ld (i0 := i') (x := 0) hB (fun _ => by
            refine Eq.trans ?_ (aboS_set (V := σ) (j := j') (fun k hk => ⟨(by simp (disch := omega) only [up2_n, filr_n, film_n]), (by simp (disch := omega) only [up2_n, filr_n, film_n]), (by simp (disch := omega) only [up2_n, filr_n, film_n])⟩) (by omega)).symm
            rw [ctr, ctr, if_neg (fun q => by rw [hv.1] at q; exact absurd q.1 (by decide))]
            simp (disch := omega) only [up2_n, up2_e, and_self, if_true, Int32.sub_zero]) (fun e he => ⟨fun j hj => (by simp (disch := omega) only [up2_n, filr_n, film_n]), fun k _ => ⟨(by simp (disch := omega) only [up2_n, filr_n, film_n]), (by simp (disch := omega) only [up2_n, filr_n, film_n])⟩⟩) (fun e he ne => ⟨(by simp (disch := omega) only [up2_n, filr_n, film_n]), by
            refine (aboS_set (V := σ) (j := j') (fun k hk => ⟨(by simp (disch := omega) only [up2_n, filr_n, film_n]), (by simp (disch := omega) only [up2_n, filr_n, film_n]), (by simp (disch := omega) only [up2_n, filr_n, film_n])⟩) (by omega)).trans ?_
            rw [ctr, ctr, if_neg (fun q => by rw [hv.1] at q; exact absurd q.1 (by decide)), if_neg (fun q => by
              have q2 := q.2
              simp (disch := omega) only [up2_n, up2_e, nI_eq] at q2
              omega), Int32.sub_zero, Int32.add_zero]⟩) (fun e _ a _ _ => (by simp (disch := omega) only [up2_n, filr_n, film_n])) (fun m _ => ⟨(by simp (disch := omega) only [up2_n, filr_n, film_n]), (by simp (disch := omega) only [up2_n, filr_n, film_n])⟩), cA_at (j0 := j') hA (by
            obtain ⟨⟨a0, a1, a2, a3, a4⟩, b1, b2, b3, b4⟩ := hA j' (by omega)
            refine ⟨⟨?_, ?_, ?_, ?_, ?_⟩, ?_, ?_, ?_, Or.inr (Or.inl ⟨?_, i', hi, ?_⟩)⟩
            all_goals simp (disch := omega) only [up2_n, up2_e]
            · exact a0
            · exact a1
            · exact a2
            · exact b1
            · exact b2
            · exact b3) (fun e _ _ i => (by simp (disch := omega) only [up2_n, filr_n, film_n])) (fun e _ _ a _ _ => (by simp (disch := omega) only [up2_n, filr_n, film_n])), cT_cg hT (fun j _ i => (by simp (disch := omega) only [up2_n, filr_n, film_n])) (fun j _ a _ _ => (by simp (disch := omega) only [up2_n, filr_n, film_n])), cU_cg hU (fun j _ i => (by simp (disch := omega) only [up2_n, filr_n, film_n])) (fun j _ a _ _ => (by simp (disch := omega) only [up2_n, filr_n, film_n]))⟩, cX_cg hX (by simp (disch := omega) only [up2_n, up2_e, filr_n, film_n]) ⟨(by simp (disch := omega) only [up2_n, filr_n, film_n]), (by simp (disch := omega) only [up2_n, filr_n, film_n])⟩, cP_cg hP ⟨(by simp (disch := omega) only [up2_n, filr_n, film_n]), (by simp (disch := omega) only [up2_n, filr_n, film_n])⟩ (fun j _ => ⟨(by simp (disch := omega) only [up2_n, filr_n, film_n]), (by simp (disch := omega) only [up2_n, filr_n, film_n])⟩), cQ_cg hQ (fun a i _ => (by simp (disch := omega) only [up2_n, filr_n, film_n])), cK_cg hK (by simp (disch := omega) only [up2_n, filr_n, film_n]) (fun a i _ => (by simp (disch := omega) only [up2_n, filr_n, film_n])) (fun a i _ => (by simp (disch := omega) only [up2_n, filr_n, film_n])) (by omega) (by omega) (by omega) (by omega) (by omega)⟩
theorem ct_X4_carrierOf {j ns nb nl : Nat} {KA : Option Nat → Hp → Prop} (hA : cA σ 4 σ ns nb nl) (hj : j < nl) (hnl : nl ≤ 12) (hnb : nb ≤ 5) (rnb : σ 4 2 = nI nb) (hq1 : ∀ i, i < nb → σ 163 j = 1 → σ 164 j = nI i → KA (some (77 + 4 * i)) (σ, sh b)) (hq2 : ¬ σ 163 j = 1 → KA none (σ, sh b)) : CM G mX4_carrierOf (rl 3) [.ref 4, .ref (97 + j)] (σ, sh b) (QA KA) := by
  refine CM.of (by decide) (Nat.le_of_ble_eq_true rfl) (cats1 rfl) ?_
  refine V_aload_n (pc := 0) d_X4_carrierOf_0 rfl ?_
  refine P_getI (pc := 1) d_X4_carrierOf_1 f_X4_220 (tBA b (by omega)) ?_
  rw [(cA_f hA (by omega : j < nl)).2.2.2.1]
  refine V_iconst (pc := 4) (1) d_X4_carrierOf_4 (by decide) ?_
  refine V_icmp_ne (pc := 5) 31 d_X4_carrierOf_5 (by decide) (fun c5 => ?_) (fun c5 => ?_)
  · refine V_null (pc := 31) d_X4_carrierOf_31 ?_
    exact V_retA (r := none) (pc := 32) d_X4_carrierOf_32 rfl (Or.inl ⟨_, rfl⟩) ⟨Nat.le_refl _, Nat.le_refl _⟩ (hq2 c5)
  · obtain ⟨i, hi, ei⟩ : rg (σ 164 j) nb := by
      rcases (hA j hj).2.2.2.2 with z | z | z | z
      · rw [c5] at z; exact absurd z.1 (by decide)
      · exact z.2
      · rw [c5] at z; exact absurd z.1 (by decide)
      · rw [c5] at z; exact absurd z.1 (by decide)
    refine V_aload_n (pc := 8) d_X4_carrierOf_8 rfl ?_
    refine V_aload_n (pc := 9) d_X4_carrierOf_9 rfl ?_
    refine P_getI (pc := 10) d_X4_carrierOf_10 f_X4_221 (tBA b (by omega)) ?_
    rw [(cA_f hA (by omega : j < nl)).2.2.2.2]
    rw [ei]
    refine V_cvI (pc := 13) (n := 2) (c := 4) [_] d_X4_carrierOf_13 c_X4_222 k_X4_isBoat ⟨rfl, rfl⟩ (tt_4 b) rfl (Nat.le_of_ble_eq_true rfl) ⟨Nat.le_of_ble_eq_true rfl, Nat.le_of_ble_eq_true rfl⟩ ⟨Nat.le_refl _, Nat.le_refl _⟩ (ct_X4_isBoat rnb (by omega) ?_)
    refine V_if_eq (pc := 16) 31 d_X4_carrierOf_16 (by decide) (fun c16 => ?_) (fun c16 => ?_)
    · replace c16 := zf c16
      exact absurd ⟨by rw [nI_toInt (by omega)]; omega, by rw [nI_toInt (by omega)]; omega⟩ c16
    · replace c16 := zt c16
      refine V_aload_n (pc := 19) d_X4_carrierOf_19 rfl ?_
      refine P_getR (pc := 20) d_X4_carrierOf_20 f_X4_58 (tt_4 b) (rr_4_12 b) ?_
      refine V_aload_n (pc := 23) d_X4_carrierOf_23 rfl ?_
      refine P_getI (pc := 24) d_X4_carrierOf_24 f_X4_221 (tBA b (by omega)) ?_
      rw [(cA_f hA (by omega : j < nl)).2.2.2.2]
      rw [ei]
      refine P_aald (pc := 27) (c := 2) (i) d_X4_carrierOf_27 (tt_9 b) (by decide) rfl (ln_of (ll_9 b) ⟨by omega, by decide⟩) (rB b (by omega)) ?_
      refine V_goto (pc := 28) 32 d_X4_carrierOf_28 (by decide) ?_
      exact V_retA (r := some (77 + 4 * i)) (pc := 32) d_X4_carrierOf_32 rfl (Or.inl ⟨_, rfl⟩) ⟨Nat.le_refl _, Nat.le_refl _⟩ (hq1 i hi c5 ei)
theorem ct_X11_lose {x : Int32} {q ns nb nl nt nr : Nat} (hR : RR σ 4 σ q ns nb nl nt nr) (h1 : ¬ (∃ j, j < nl ∧ x = nI j) → K (-1) (up2 σ 3 3 1, sh b)) (h3 : ∀ (j : Nat), j < nl → x = nI j → ¬ σ 163 j = 1 → K (-1) (up2 σ 3 3 (nI 3), sh b)) (h2 : ∀ (j : Nat), j < nl → x = nI j → σ 163 j = 1 → K (1) (up2 (up2 (up2 (up2 σ (77 + 4 * (σ 164 j).toNatClampNeg) 4 (aboS σ (σ 164 j).toNatClampNeg nl - σ 161 j)) (97 + j) 3 (nI 3)) (97 + j) 4 (-1)) 3 3 0, sh b)) : CM G mX11_lose (rl 4) [.ref 3, .int x] (σ, sh b) (QI K) := by
  obtain ⟨⟨⟨hq2, hn10, hnb, hnl, hnt, hnr⟩, ⟨vq, vns, vnb, vnl, vnt, vnr⟩, ⟨rq, rns, rnb, rnl, rnt, rnr⟩, hpd⟩, hH, hC, hS, hLD, hB, hA, hT, hU⟩ := hR
  refine CM.of (by decide) (Nat.le_of_ble_eq_true rfl) (cats1 rfl) ?_
  refine V_aload_n (pc := 0) d_X11_lose_0 rfl ?_
  refine P_getR (pc := 1) d_X11_lose_1 f_X11_10 (tt_3 b) (rr_3_0 b) ?_
  refine V_iload_n (pc := 4) d_X11_lose_4 rfl ?_
  refine V_cvI (pc := 5) (n := 2) (c := 4) [_] d_X11_lose_5 c_X11_133 k_X4_isBale ⟨rfl, rfl⟩ (tt_4 b) rfl (Nat.le_of_ble_eq_true rfl) ⟨Nat.le_of_ble_eq_true rfl, Nat.le_of_ble_eq_true rfl⟩ ⟨Nat.le_refl _, Nat.le_refl _⟩ (ct_X4_isBale rnl (by omega) ?_)
  refine V_if_ne (pc := 8) 17 d_X11_lose_8 (by decide) (fun c8 => ?_) (fun c8 => ?_)
  · replace c8 := zt c8
    obtain ⟨j, hj, rfl, -⟩ := nat_of (n := nl) (x := x) (by omega) (by omega) (by omega)
    refine V_aload_n (pc := 17) d_X11_lose_17 rfl ?_
    refine P_getR (pc := 18) d_X11_lose_18 f_X11_10 (tt_3 b) (rr_3_0 b) ?_
    refine P_getR (pc := 21) d_X11_lose_21 f_X11_126 (tt_4 b) (rr_4_13 b) ?_
    refine V_iload_n (pc := 24) d_X11_lose_24 rfl ?_
    refine P_aald (pc := 25) (c := 1) (j) d_X11_lose_25 (tt_10 b) (by decide) rfl (ln_of (ll_10 b) ⟨by omega, by decide⟩) (rBA b (by omega)) ?_
    refine V_astore_n (pc := 26) d_X11_lose_26 (by decide) ?_
    refine V_aload_n (pc := 27) d_X11_lose_27 rfl ?_
    refine P_getR (pc := 28) d_X11_lose_28 f_X11_10 (tt_3 b) (rr_3_0 b) ?_
    refine V_aload_n (pc := 31) d_X11_lose_31 rfl ?_
    refine V_cvA (pc := 32) (n := 3) (c := 4) [_] d_X11_lose_32 c_X11_160 k_X4_carrierOf ⟨rfl, rfl⟩ (tt_4 b) rfl (Nat.le_of_ble_eq_true rfl) ⟨Nat.le_of_ble_eq_true rfl, Nat.le_of_ble_eq_true rfl⟩ ⟨Nat.le_refl _, Nat.le_refl _⟩ (ct_X4_carrierOf hA (by omega : j < nl) hnl hnb rnb (fun i hi e1 ei => ?_) (fun e1 => ?_))
    · change V _ _ _ _ _ _ _ _ (.ref (77 + 4 * i) :: _) _
      refine V_astore_n (pc := 35) d_X11_lose_35 (by decide) ?_
      refine V_aload_n (pc := 36) d_X11_lose_36 rfl ?_
      refine V_ifnonnull (pc := 37) 46 d_X11_lose_37 (by decide) ?_
      refine V_aload_n (pc := 46) d_X11_lose_46 rfl ?_
      refine V_dup (pc := 47) d_X11_lose_47 rfl ?_
      refine P_getI (pc := 48) d_X11_lose_48 f_X11_147 (tB b (by omega)) ?_
      rw [(cB_f hB (by omega : i < nb)).2.2.2.2.1]
      refine V_aload_n (pc := 51) d_X11_lose_51 rfl ?_
      refine P_getI (pc := 52) d_X11_lose_52 f_X11_150 (tBA b (by omega)) ?_
      rw [(cA_f hA (by omega : j < nl)).2.1]
      refine V_isub (pc := 55) d_X11_lose_55 ?_
      refine P_putI (pc := 56) d_X11_lose_56 f_X11_147 (tB b (by omega)) ?_
      refine V_aload_n (pc := 59) d_X11_lose_59 rfl ?_
      refine V_iconst (pc := 60) (nI 3) d_X11_lose_60 (by decide) ?_
      refine P_putI (pc := 61) d_X11_lose_61 f_X11_139 (tBA b (by omega)) ?_
      refine V_aload_n (pc := 64) d_X11_lose_64 rfl ?_
      refine V_iconst (pc := 65) (-1) d_X11_lose_65 (by decide) ?_
      refine P_putI (pc := 66) d_X11_lose_66 f_X11_143 (tBA b (by omega)) ?_
      refine V_aload_n (pc := 69) d_X11_lose_69 rfl ?_
      refine V_iconst (pc := 70) (1) d_X11_lose_70 (by decide) ?_
      refine V_cvI (pc := 71) (n := 1) (c := 11) [_] d_X11_lose_71 c_X11_72 k_X11_done ⟨rfl, rfl⟩ (tt_3 b) rfl (Nat.le_of_ble_eq_true rfl) ⟨Nat.le_of_ble_eq_true rfl, Nat.le_of_ble_eq_true rfl⟩ ⟨Nat.le_refl _, Nat.le_refl _⟩ (ct_X11_done ?_)
      exact V_retI (pc := 74) d_X11_lose_74 rfl ⟨Nat.le_refl _, Nat.le_refl _⟩ (by have k := h2 j hj rfl e1; rw [ei, nI_clamp (by omega)] at k; exact k)
    · change V _ _ _ _ _ _ _ _ (.null :: _) _
      refine V_astore_nN (pc := 35) d_X11_lose_35 (by decide) ?_
      refine V_aload_nN (pc := 36) d_X11_lose_36 rfl ?_
      refine V_ifnonnullN (pc := 37) d_X11_lose_37 ?_
      refine V_aload_n (pc := 40) d_X11_lose_40 rfl ?_
      refine V_iconst (pc := 41) (nI 3) d_X11_lose_41 (by decide) ?_
      refine V_cvI (pc := 42) (n := 1) (c := 11) [_] d_X11_lose_42 c_X11_55 k_X11_refused ⟨rfl, rfl⟩ (tt_3 b) rfl (Nat.le_of_ble_eq_true rfl) ⟨Nat.le_of_ble_eq_true rfl, Nat.le_of_ble_eq_true rfl⟩ ⟨Nat.le_refl _, Nat.le_refl _⟩ (ct_X11_refused ?_)
      exact V_retI (pc := 45) d_X11_lose_45 rfl ⟨Nat.le_refl _, Nat.le_refl _⟩ (h3 j hj rfl e1)
  · replace c8 := zf c8
    refine V_aload_n (pc := 11) d_X11_lose_11 rfl ?_
    refine V_iconst (pc := 12) (1) d_X11_lose_12 (by decide) ?_
    refine V_cvI (pc := 13) (n := 1) (c := 11) [_] d_X11_lose_13 c_X11_55 k_X11_refused ⟨rfl, rfl⟩ (tt_3 b) rfl (Nat.le_of_ble_eq_true rfl) ⟨Nat.le_of_ble_eq_true rfl, Nat.le_of_ble_eq_true rfl⟩ ⟨Nat.le_refl _, Nat.le_refl _⟩ (ct_X11_refused ?_)
    exact V_retI (pc := 16) d_X11_lose_16 rfl ⟨Nat.le_refl _, Nat.le_refl _⟩ (h1 (by
                        rintro ⟨j, gj, ej⟩
                        try subst ej
                        simp (disch := omega) only [nI_toInt, nI_eq] at *
                        omega))
theorem ct_X12_lose {x : Int32} {ρ : Sg} {q ns nb nl nt nr : Nat} (hR : RR ρ 4 σ q ns nb nl nt nr) (h1 : ¬ (∃ j, j < nl ∧ x = nI j) → K (-1) (up2 σ 139 0 1, sh b)) (h3 : ∀ (j : Nat), j < nl → x = nI j → ¬ σ 163 j = 1 → K (-1) (up2 σ 139 0 (nI 3), sh b)) (h2 : ∀ (j : Nat), j < nl → x = nI j → σ 163 j = 1 → K (1) (up2 (up2 (up2 σ 163 j (nI 3)) 164 j (-1)) 139 0 0, sh b)) : CM G mX12_lose (rl 3) [.ref 139, .int x] (σ, sh b) (QI K) := by
  obtain ⟨⟨⟨hq2, hn10, hnb, hnl, hnt, hnr⟩, ⟨vq, vns, vnb, vnl, vnt, vnr⟩, ⟨rq, rns, rnb, rnl, rnt, rnr⟩, hpd⟩, hH, hC, hS, hLD, hB, hA, hT, hU⟩ := hR
  refine CM.of (by decide) (Nat.le_of_ble_eq_true rfl) (cats1 rfl) ?_
  refine V_aload_n (pc := 0) d_X12_lose_0 rfl ?_
  refine V_iload_n (pc := 1) d_X12_lose_1 rfl ?_
  refine V_cvI (pc := 2) (n := 2) (c := 12) [_] d_X12_lose_2 c_X12_235 k_X12_isBale ⟨rfl, rfl⟩ (tt_139 b) rfl (Nat.le_of_ble_eq_true rfl) ⟨Nat.le_of_ble_eq_true rfl, Nat.le_of_ble_eq_true rfl⟩ ⟨Nat.le_refl _, Nat.le_refl _⟩ (ct_X12_isBale vnl (by omega) ?_)
  refine V_if_ne (pc := 5) 14 d_X12_lose_5 (by decide) (fun c5 => ?_) (fun c5 => ?_)
  · replace c5 := zt c5
    obtain ⟨j, hj, rfl, -⟩ := nat_of (n := nl) (x := x) (by omega) (by omega) (by omega)
    refine V_aload_n (pc := 14) d_X12_lose_14 rfl ?_
    refine P_getR (pc := 15) d_X12_lose_15 f_X12_80 (tt_139 b) (rr_139_28 b) ?_
    refine V_iload_n (pc := 18) d_X12_lose_18 rfl ?_
    refine P_iald (pc := 19) (j) d_X12_lose_19 (tt_163 b) rfl (ln_of (ll_163 b) ⟨by omega, by decide⟩) ?_
    refine V_iconst (pc := 20) (1) d_X12_lose_20 (by decide) ?_
    refine V_icmp_eq (pc := 21) 30 d_X12_lose_21 (by decide) (fun c21 => ?_) (fun c21 => ?_)
    · refine V_aload_n (pc := 30) d_X12_lose_30 rfl ?_
      refine P_getR (pc := 31) d_X12_lose_31 f_X12_80 (tt_139 b) (rr_139_28 b) ?_
      refine V_iload_n (pc := 34) d_X12_lose_34 rfl ?_
      refine V_iconst (pc := 35) (nI 3) d_X12_lose_35 (by decide) ?_
      refine P_iast (pc := 36) (j) d_X12_lose_36 (tt_163 b) rfl (ln_of (ll_163 b) ⟨by omega, by decide⟩) ?_
      refine V_aload_n (pc := 37) d_X12_lose_37 rfl ?_
      refine P_getR (pc := 38) d_X12_lose_38 f_X12_83 (tt_139 b) (rr_139_29 b) ?_
      refine V_iload_n (pc := 41) d_X12_lose_41 rfl ?_
      refine V_iconst (pc := 42) (-1) d_X12_lose_42 (by decide) ?_
      refine P_iast (pc := 43) (j) d_X12_lose_43 (tt_164 b) rfl (ln_of (ll_164 b) ⟨by omega, by decide⟩) ?_
      refine V_aload_n (pc := 44) d_X12_lose_44 rfl ?_
      refine V_iconst (pc := 45) (1) d_X12_lose_45 (by decide) ?_
      refine V_cvI (pc := 46) (n := 1) (c := 12) [_] d_X12_lose_46 c_X12_191 k_X12_done ⟨rfl, rfl⟩ (tt_139 b) rfl (Nat.le_of_ble_eq_true rfl) ⟨Nat.le_of_ble_eq_true rfl, Nat.le_of_ble_eq_true rfl⟩ ⟨Nat.le_refl _, Nat.le_refl _⟩ (ct_X12_done ?_)
      exact V_retI (pc := 49) d_X12_lose_49 rfl ⟨Nat.le_refl _, Nat.le_refl _⟩ (h2 j hj rfl c21)
    · refine V_aload_n (pc := 24) d_X12_lose_24 rfl ?_
      refine V_iconst (pc := 25) (nI 3) d_X12_lose_25 (by decide) ?_
      refine V_cvI (pc := 26) (n := 1) (c := 12) [_] d_X12_lose_26 c_X12_187 k_X12_refused ⟨rfl, rfl⟩ (tt_139 b) rfl (Nat.le_of_ble_eq_true rfl) ⟨Nat.le_of_ble_eq_true rfl, Nat.le_of_ble_eq_true rfl⟩ ⟨Nat.le_refl _, Nat.le_refl _⟩ (ct_X12_refused ?_)
      exact V_retI (pc := 29) d_X12_lose_29 rfl ⟨Nat.le_refl _, Nat.le_refl _⟩ (h3 j hj rfl c21)
  · replace c5 := zf c5
    refine V_aload_n (pc := 8) d_X12_lose_8 rfl ?_
    refine V_iconst (pc := 9) (1) d_X12_lose_9 (by decide) ?_
    refine V_cvI (pc := 10) (n := 1) (c := 12) [_] d_X12_lose_10 c_X12_187 k_X12_refused ⟨rfl, rfl⟩ (tt_139 b) rfl (Nat.le_of_ble_eq_true rfl) ⟨Nat.le_of_ble_eq_true rfl, Nat.le_of_ble_eq_true rfl⟩ ⟨Nat.le_refl _, Nat.le_refl _⟩ (ct_X12_refused ?_)
    exact V_retI (pc := 13) d_X12_lose_13 rfl ⟨Nat.le_refl _, Nat.le_refl _⟩ (h1 (by
                        rintro ⟨j, gj, ej⟩
                        try subst ej
                        simp (disch := omega) only [nI_toInt, nI_eq] at *
                        omega))
theorem pr_lose {x : Int32}  (h : Rel σ b)  : PR G mX11_lose mX12_lose 4 3 [.int x] σ b := by
  have h0 := h
  obtain ⟨q, ns, nb, nl, nt, nr, hR, hX, hP, hQ, hK⟩ := h
  have hbd := hR.1.1
  refine ct_X11_lose hR  (fun hv => ?_) (fun j hj ej hv => ?_) (fun j hj ej hv => ?_)
  · exact ⟨rfl, ct_X12_lose (RR_lo hR (fun a i _ _ => by simp (disch := omega) only [up2_n, filr_n, film_n]))  (fun _ => ⟨rfl, _, rfl, rel_ref h0⟩) (fun j hj ej _ => absurd ⟨j, hj, ej⟩ hv) (fun j hj ej _ => absurd ⟨j, hj, ej⟩ hv)⟩
  · refine ⟨rfl, ct_X12_lose (RR_lo hR (fun a i _ _ => by simp (disch := omega) only [up2_n, filr_n, film_n]))  (fun hv => absurd ⟨j, hj, ej⟩ hv) (fun j' hj' ej' hv' => ?_) (fun j' hj' ej' hv' => ?_)⟩
    · obtain rfl : j' = j := (nI_eq (by omega) (by omega)).mp (ej'.symm.trans ej)
      exact ⟨rfl, _, rfl, rel_ref h0⟩
    · obtain rfl : j' = j := (nI_eq (by omega) (by omega)).mp (ej'.symm.trans ej)
      try simp (disch := omega) only [up2_n, filr_n, film_n] at hv'
      first | exact absurd hv hv' | exact absurd hv' hv | (exfalso; omega) | exact absurd hv.2 hv'.2 | exact absurd hv'.2 hv.2 | exact absurd hv.1 hv' | exact absurd hv'.1 hv
  · obtain ⟨i, hi, ei⟩ : rg (σ 164 j) nb := by
      rcases (hR.2.2.2.2.2.2.1 j hj).2.2.2.2 with z | z | z | z
      · rw [hv] at z; exact absurd z.1 (by decide)
      · exact z.2
      · rw [hv] at z; exact absurd z.1 (by decide)
      · rw [hv] at z; exact absurd z.1 (by decide)
    rw [ei, nI_clamp (by omega)]
    refine ⟨rfl, ct_X12_lose (RR_lo hR (fun a i _ _ => by simp (disch := omega) only [up2_n, filr_n, film_n]))  (fun hv => absurd ⟨j, hj, ej⟩ hv) (fun j' hj' ej' hv' => ?_) (fun j' hj' ej' hv' => ?_)⟩
    · obtain rfl : j' = j := (nI_eq (by omega) (by omega)).mp (ej'.symm.trans ej)
      try simp (disch := omega) only [up2_n, filr_n, film_n] at hv'
      first | exact absurd hv hv' | exact absurd hv' hv | (exfalso; omega) | exact absurd hv.2 hv'.2 | exact absurd hv'.2 hv.2 | exact absurd hv.1 hv' | exact absurd hv'.1 hv
    · obtain rfl : j' = j := (nI_eq (by omega) (by omega)).mp (ej'.symm.trans ej)
      obtain ⟨hcn, hH, hC, hS, hLD, hB, hA, hT, hU⟩ := id hR
      have hbd := hcn.1
      refine ⟨rfl, _, rfl, ?_⟩
      exact ⟨q, ns, nb, nl, nt, nr, ⟨cCnt_cg hcn (fun i _ _ => (by simp (disch := omega) only [up2_n, filr_n, film_n])) (fun i hi => by rcases hi with rfl | rfl | rfl | rfl | rfl | rfl | rfl <;> simp (disch := omega) only [up2_n, filr_n, film_n]), cH_cg hH (by simp (disch := omega) only [up2_n, filr_n, film_n]) (fun d _ => (by simp (disch := omega) only [up2_n, filr_n, film_n])) (fun d _ => ⟨(by simp (disch := omega) only [up2_n, filr_n, film_n]), (by simp (disch := omega) only [up2_n, filr_n, film_n])⟩), cC_cg hC (fun d _ => (by simp (disch := omega) only [up2_n, filr_n, film_n])) (fun d _ => (by simp (disch := omega) only [up2_n, filr_n, film_n])), cS_cg hS (fun k _ => ⟨fun j => (by simp (disch := omega) only [up2_n, filr_n, film_n]), fun d _ => (by simp (disch := omega) only [up2_n, filr_n, film_n])⟩) (fun k _ => ⟨(by simp (disch := omega) only [up2_n, filr_n, film_n]), (by simp (disch := omega) only [up2_n, filr_n, film_n]), (by simp (disch := omega) only [up2_n, filr_n, film_n]), (by simp (disch := omega) only [up2_n, filr_n, film_n])⟩) (fun i _ => ⟨(by simp (disch := omega) only [up2_n, filr_n, film_n]), (by simp (disch := omega) only [up2_n, filr_n, film_n])⟩), cL_cg hLD (fun l _ => ⟨(by simp (disch := omega) only [up2_n, filr_n, film_n]), fun k _ => ⟨(by simp (disch := omega) only [up2_n, filr_n, film_n]), (by simp (disch := omega) only [up2_n, filr_n, film_n])⟩⟩) (fun l _ => (by simp (disch := omega) only [up2_n, filr_n, film_n])) (fun m _ _ => ⟨(by simp (disch := omega) only [up2_n, filr_n, film_n]), (by simp (disch := omega) only [up2_n, filr_n, film_n])⟩), cB_ld (i0 := i) (x := 0) hB (fun _ => by
            refine Eq.trans ?_ (aboS_set (V := σ) (j := j') (fun k hk => ⟨(by simp (disch := omega) only [up2_n, filr_n, film_n]), (by simp (disch := omega) only [up2_n, filr_n, film_n]), (by simp (disch := omega) only [up2_n, filr_n, film_n])⟩) (by omega)).symm
            rw [ctr, ctr, if_pos ⟨hv, ei⟩]
            simp (disch := omega) only [up2_n, up2_e]
            rw [if_neg (fun q => absurd q.1 (by decide)), Int32.add_zero]) (fun e he => ⟨fun j hj => (by simp (disch := omega) only [up2_n, filr_n, film_n]), fun k _ => ⟨(by simp (disch := omega) only [up2_n, filr_n, film_n]), (by simp (disch := omega) only [up2_n, filr_n, film_n])⟩⟩) (fun e he ne => ⟨(by simp (disch := omega) only [up2_n, filr_n, film_n]), by
            refine (aboS_set (V := σ) (j := j') (fun k hk => ⟨(by simp (disch := omega) only [up2_n, filr_n, film_n]), (by simp (disch := omega) only [up2_n, filr_n, film_n]), (by simp (disch := omega) only [up2_n, filr_n, film_n])⟩) (by omega)).trans ?_
            rw [ctr, ctr, if_neg (fun q => by
              have q2 := q.2
              rw [ei, nI_eq (by omega) (by omega)] at q2
              omega), if_neg (fun q => by
              have q1 := q.1
              simp (disch := omega) only [up2_n, up2_e] at q1
              exact absurd q1 (by decide)), Int32.sub_zero, Int32.add_zero]⟩) (fun e _ a _ _ => (by simp (disch := omega) only [up2_n, filr_n, film_n])) (fun m _ => ⟨(by simp (disch := omega) only [up2_n, filr_n, film_n]), (by simp (disch := omega) only [up2_n, filr_n, film_n])⟩), cA_at (j0 := j') hA (by
            obtain ⟨⟨a0, a1, a2, a3, a4⟩, b1, b2, b3, b4⟩ := hA j' (by omega)
            refine ⟨⟨?_, ?_, ?_, ?_, ?_⟩, ?_, ?_, ?_, Or.inr (Or.inr (Or.inr ⟨?_, ?_⟩))⟩
            all_goals simp (disch := omega) only [up2_n, up2_e]
            · exact a0
            · exact a1
            · exact a2
            · exact b1
            · exact b2
            · exact b3) (fun e _ _ i => (by simp (disch := omega) only [up2_n, filr_n, film_n])) (fun e _ _ a _ _ => (by simp (disch := omega) only [up2_n, filr_n, film_n])), cT_cg hT (fun j _ i => (by simp (disch := omega) only [up2_n, filr_n, film_n])) (fun j _ a _ _ => (by simp (disch := omega) only [up2_n, filr_n, film_n])), cU_cg hU (fun j _ i => (by simp (disch := omega) only [up2_n, filr_n, film_n])) (fun j _ a _ _ => (by simp (disch := omega) only [up2_n, filr_n, film_n]))⟩, cX_cg hX (by simp (disch := omega) only [up2_n, up2_e, filr_n, film_n]) ⟨(by simp (disch := omega) only [up2_n, filr_n, film_n]), (by simp (disch := omega) only [up2_n, filr_n, film_n])⟩, cP_cg hP ⟨(by simp (disch := omega) only [up2_n, filr_n, film_n]), (by simp (disch := omega) only [up2_n, filr_n, film_n])⟩ (fun j _ => ⟨(by simp (disch := omega) only [up2_n, filr_n, film_n]), (by simp (disch := omega) only [up2_n, filr_n, film_n])⟩), cQ_cg hQ (fun a i _ => (by simp (disch := omega) only [up2_n, filr_n, film_n])), cK_cg hK (by simp (disch := omega) only [up2_n, filr_n, film_n]) (fun a i _ => (by simp (disch := omega) only [up2_n, filr_n, film_n])) (fun a i _ => (by simp (disch := omega) only [up2_n, filr_n, film_n])) (by omega) (by omega) (by omega) (by omega) (by omega)⟩
end HC
