section AG
variable {τ σ : Sg}
theorem told_ag (h : ∀ a i, 139 ≤ a → a < 192 → τ a i = σ a i) : told τ = told σ := by
  funext d
  rw [told, told, h 147 d (by omega) (by omega)]
theorem shifted_ag (h : ∀ a i, 139 ≤ a → a < 192 → τ a i = σ a i) {k : Nat} : shifted τ k = shifted σ k := by
  funext d
  rw [shifted, shifted, h 145 _ (by omega) (by omega)]
theorem heightS_ag (h : ∀ a i, 139 ≤ a → a < 192 → τ a i = σ a i) {d : Nat} : heightS τ d = heightS σ d := by
  unfold heightS
  rw [told_ag h]
  simp (disch := omega) only [h]
theorem shiftS_ag (h : ∀ a i, 139 ≤ a → a < 192 → τ a i = σ a i) {k d : Nat} : shiftS τ k d = shiftS σ k d := by
  unfold shiftS
  rw [shifted_ag h]
  simp (disch := omega) only [h]
theorem waterS_ag (h : ∀ a i, 139 ≤ a → a < 192 → τ a i = σ a i) {k d : Nat} : waterS τ k d = waterS σ k d := by
  unfold waterS
  rw [heightS_ag h, shiftS_ag h]
  simp (disch := omega) only [h]
theorem longS_ag (h : ∀ a i, 139 ≤ a → a < 192 → τ a i = σ a i) {k d : Nat} {n : Int32} : longS τ k d n = longS σ k d n := by
  unfold longS baseS
  rw [heightS_ag h]
  simp (disch := omega) only [h]
theorem aboS_ag (h : ∀ a i, 139 ≤ a → a < 192 → τ a i = σ a i) {i n : Nat} : aboS τ i n = aboS σ i n := aboS_cg (fun j _ => ⟨h _ _ (by omega) (by omega), h _ _ (by omega) (by omega), h _ _ (by omega) (by omega)⟩)
theorem draS_ag (h : ∀ a i, 139 ≤ a → a < 192 → τ a i = σ a i) {i n : Nat} : draS τ i n = draS σ i n := by
  rw [draS, draS, aboS_ag h, h 149 _ (by omega) (by omega)]
theorem nxS_ag (h : ∀ a i, 139 ≤ a → a < 192 → τ a i = σ a i) {i : Nat} {y : Int32} : nxS τ i y = nxS σ i y := by
  rw [nxS, nxS, h 153 _ (by omega) (by omega)]
theorem whyS_ag (h : ∀ a i, 139 ≤ a → a < 192 → τ a i = σ a i) {i ns nl d : Nat} {y n : Int32} : whyS τ i ns nl d y n = whyS σ i ns nl d y n := by
  unfold whyS
  rw [nxS_ag h, draS_ag h, longS_ag h]
  simp (disch := omega) only [h]
end AG
theorem ne2 : ¬ nI 2 = 0 := by decide
theorem ne3 : ¬ nI 3 = 0 := by decide
theorem ne4 : ¬ nI 4 = 0 := by decide
theorem why0 {V : Sg} {i ns nl d : Nat} {y n : Int32} (hns : ns ≤ 10) (h : whyS V i ns nl d y n = 0) : V 152 i = 0 ∧ ∃ k, k < ns ∧ nxS V i y = nI k ∧ (longS V k d n).toInt ≤ (V 156 i).toInt := by
  unfold whyS at h
  split at h
  · exact absurd h (by decide)
  rename_i c1
  split at h
  · exact absurd h ne2
  rename_i c2
  split at h
  · exact absurd h ne3
  split at h
  · exact absurd h ne4
  rename_i c4
  obtain ⟨k, hk, e, e2⟩ := nat_of (n := ns) (Classical.not_not.mp c2).1 (Classical.not_not.mp c2).2 (by omega)
  rw [e2] at c4
  exact ⟨Classical.not_not.mp c1, k, hk, e, Classical.not_not.mp c4⟩
theorem longS_nat {σ V : Sg} {r ns k d : Nat} {n : Int32} (h : cS σ r V ns) (hk : k < ns) : ∃ l, l ≤ 32 ∧ longS V k d n = nI l := by
  obtain ⟨l, l1, l2, e⟩ := (h k hk).2.2.1
  unfold longS baseS
  rw [e]
  have p2 : (nI l + 1) / nI 2 = nI ((l + 1) / 2) := by rw [nI_1, pk_div (by omega) (by decide) (by decide)]
  rw [p2]
  have q : ∀ (a b c : Prop) [Decidable a] [Decidable b] [Decidable c] (x y : Nat), (if a then nI x else nI y) + (if b then nI 4 else 0) + (if c then nI 8 else 0) = nI ((if a then x else y) + (if b then 4 else 0) + (if c then 8 else 0)) := by
    intro a b c _ _ _ x y
    by_cases a <;> by_cases b <;> by_cases c <;> simp [*, nI_add]
  rw [q]
  refine ⟨_, ?_, rfl⟩
  have h1 : ∀ (a : Prop) [Decidable a] (x y z : Nat), x ≤ z → y ≤ z → (if a then x else y) ≤ z := by
    intro a _ x y z hx hy
    split <;> assumption
  have k1 := h1 (V 140 k = nI 2 ∧ ¬(heightS V d).toInt < 20) ((l + 1) / 2) l 20 (by omega) (by omega)
  have k2 := h1 (V 140 k = nI 4) 4 0 4 (by omega) (by omega)
  have k3 := h1 (V 140 k = nI 3 ∧ ¬n = 0 ∧ V 143 k = 0) 8 0 8 (by omega) (by omega)
  omega
section HC
variable {G : Gl} {R : Room} {F : Fn} {K : Int32 → Hp → Prop} {KV : Hp → Prop} {σ : Nat → Nat → Int32} {b : Bool}
theorem ct_X11_land {x : Int32} {q ns nb nl nt nr : Nat} (hR : RR σ 4 σ q ns nb nl nt nr) (h1 : ¬ (∃ j, j < nl ∧ x = nI j) → K (-1) (up2 σ 3 3 1, sh b)) (h3 : ∀ (j : Nat), j < nl → x = nI j → ¬ (σ 163 j = 1 ∧ σ 152 (σ 164 j).toNatClampNeg = 0) → K (-1) (up2 σ 3 3 (nI 3), sh b)) (h5 : ∀ (j : Nat), j < nl → x = nI j → (σ 163 j = 1 ∧ σ 152 (σ 164 j).toNatClampNeg = 0) ∧ ¬ σ 153 (σ 164 j).toNatClampNeg = σ 160 j → K (σ 153 (σ 164 j).toNatClampNeg) (up2 (up2 (up2 (up2 σ (77 + 4 * (σ 164 j).toNatClampNeg) 4 (aboS σ (σ 164 j).toNatClampNeg nl - σ 161 j)) (97 + j) 4 (σ 153 (σ 164 j).toNatClampNeg)) (97 + j) 3 0) 3 3 0, sh b)) (h2 : ∀ (j : Nat), j < nl → x = nI j → (σ 163 j = 1 ∧ σ 152 (σ 164 j).toNatClampNeg = 0) ∧ σ 153 (σ 164 j).toNatClampNeg = σ 160 j → K (σ 153 (σ 164 j).toNatClampNeg) (up2 (up2 (up2 (up2 (up2 σ (77 + 4 * (σ 164 j).toNatClampNeg) 4 (aboS σ (σ 164 j).toNatClampNeg nl - σ 161 j)) (97 + j) 4 (σ 153 (σ 164 j).toNatClampNeg)) (97 + j) 3 (nI 2)) 4 7 (σ 4 7 + σ 162 j)) 3 3 0, sh b)) : CM G mX11_land (rl 4) [.ref 3, .int x] (σ, sh b) (QI K) := by
  obtain ⟨⟨⟨hq2, hn10, hnb, hnl, hnt, hnr⟩, ⟨vq, vns, vnb, vnl, vnt, vnr⟩, ⟨rq, rns, rnb, rnl, rnt, rnr⟩, hpd⟩, hH, hC, hS, hLD, hB, hA, hT, hU⟩ := hR
  refine CM.of (by decide) (Nat.le_of_ble_eq_true rfl) (cats1 rfl) ?_
  refine V_aload_n (pc := 0) d_X11_land_0 rfl ?_
  refine P_getR (pc := 1) d_X11_land_1 f_X11_10 (tt_3 b) (rr_3_0 b) ?_
  refine V_iload_n (pc := 4) d_X11_land_4 rfl ?_
  refine V_cvI (pc := 5) (n := 2) (c := 4) [_] d_X11_land_5 c_X11_133 k_X4_isBale ⟨rfl, rfl⟩ (tt_4 b) rfl (Nat.le_of_ble_eq_true rfl) ⟨Nat.le_of_ble_eq_true rfl, Nat.le_of_ble_eq_true rfl⟩ ⟨Nat.le_refl _, Nat.le_refl _⟩ (ct_X4_isBale rnl (by omega) ?_)
  refine V_if_ne (pc := 8) 17 d_X11_land_8 (by decide) (fun c8 => ?_) (fun c8 => ?_)
  · replace c8 := zt c8
    obtain ⟨j, hj, rfl, -⟩ := nat_of (n := nl) (x := x) (by omega) (by omega) (by omega)
    refine V_aload_n (pc := 17) d_X11_land_17 rfl ?_
    refine P_getR (pc := 18) d_X11_land_18 f_X11_10 (tt_3 b) (rr_3_0 b) ?_
    refine P_getR (pc := 21) d_X11_land_21 f_X11_126 (tt_4 b) (rr_4_13 b) ?_
    refine V_iload_n (pc := 24) d_X11_land_24 rfl ?_
    refine P_aald (pc := 25) (c := 1) (j) d_X11_land_25 (tt_10 b) (by decide) rfl (ln_of (ll_10 b) ⟨by omega, by decide⟩) (rBA b (by omega)) ?_
    refine V_astore_n (pc := 26) d_X11_land_26 (by decide) ?_
    refine V_aload_n (pc := 27) d_X11_land_27 rfl ?_
    refine P_getR (pc := 28) d_X11_land_28 f_X11_10 (tt_3 b) (rr_3_0 b) ?_
    refine V_aload_n (pc := 31) d_X11_land_31 rfl ?_
    refine V_cvA (pc := 32) (n := 3) (c := 4) [_] d_X11_land_32 c_X11_160 k_X4_carrierOf ⟨rfl, rfl⟩ (tt_4 b) rfl (Nat.le_of_ble_eq_true rfl) ⟨Nat.le_of_ble_eq_true rfl, Nat.le_of_ble_eq_true rfl⟩ ⟨Nat.le_refl _, Nat.le_refl _⟩ (ct_X4_carrierOf hA (by omega : j < nl) hnl hnb rnb (fun i hi e1 ei => ?_) (fun e1 => ?_))
    · change V _ _ _ _ _ _ _ _ (.ref (77 + 4 * i) :: _) _
      refine V_astore_n (pc := 35) d_X11_land_35 (by decide) ?_
      refine V_aload_n (pc := 36) d_X11_land_36 rfl ?_
      refine V_ifnull (pc := 37) d_X11_land_37 ?_
      refine V_aload_n (pc := 40) d_X11_land_40 rfl ?_
      refine P_getI (pc := 41) d_X11_land_41 f_X11_142 (tB b (by omega)) ?_
      rw [(cB_f hB (by omega : i < nb)).2.2.2.2.2.1]
      refine V_if_eq (pc := 44) 53 d_X11_land_44 (by decide) (fun c44 => ?_) (fun c44 => ?_)
      · refine V_aload_n (pc := 53) d_X11_land_53 rfl ?_
        refine V_dup (pc := 54) d_X11_land_54 rfl ?_
        refine P_getI (pc := 55) d_X11_land_55 f_X11_147 (tB b (by omega)) ?_
        rw [(cB_f hB (by omega : i < nb)).2.2.2.2.1]
        refine V_aload_n (pc := 58) d_X11_land_58 rfl ?_
        refine P_getI (pc := 59) d_X11_land_59 f_X11_150 (tBA b (by omega)) ?_
        rw [(cA_f hA (by omega : j < nl)).2.1]
        refine V_isub (pc := 62) d_X11_land_62 ?_
        refine P_putI (pc := 63) d_X11_land_63 f_X11_147 (tB b (by omega)) ?_
        refine V_aload_n (pc := 66) d_X11_land_66 rfl ?_
        refine V_aload_n (pc := 67) d_X11_land_67 rfl ?_
        refine P_getI (pc := 68) d_X11_land_68 f_X11_146 (tB b (by omega)) ?_
        simp (disch := omega) only [up2_n, up2_e]
        rw [(cB_f hB (by omega : i < nb)).2.2.2.2.2.2]
        refine P_putI (pc := 71) d_X11_land_71 f_X11_143 (tBA b (by omega)) ?_
        refine V_aload_n (pc := 74) d_X11_land_74 rfl ?_
        refine V_iconst (pc := 75) (0) d_X11_land_75 (by decide) ?_
        refine P_putI (pc := 76) d_X11_land_76 f_X11_139 (tBA b (by omega)) ?_
        refine V_aload_n (pc := 79) d_X11_land_79 rfl ?_
        refine P_getI (pc := 80) d_X11_land_80 f_X11_143 (tBA b (by omega)) ?_
        simp (disch := omega) only [up2_n, up2_e]
        refine V_aload_n (pc := 83) d_X11_land_83 rfl ?_
        refine P_getI (pc := 84) d_X11_land_84 f_X11_164 (tBA b (by omega)) ?_
        simp (disch := omega) only [up2_n, up2_e]
        rw [(cA_f hA (by omega : j < nl)).1]
        refine V_icmp_ne (pc := 87) 111 d_X11_land_87 (by decide) (fun c87 => ?_) (fun c87 => ?_)
        · refine V_aload_n (pc := 111) d_X11_land_111 rfl ?_
          refine V_aload_n (pc := 112) d_X11_land_112 rfl ?_
          refine P_getI (pc := 113) d_X11_land_113 f_X11_143 (tBA b (by omega)) ?_
          simp (disch := omega) only [up2_n, up2_e]
          refine V_cvI (pc := 116) (n := 1) (c := 11) [_] d_X11_land_116 c_X11_72 k_X11_done ⟨rfl, rfl⟩ (tt_3 b) rfl (Nat.le_of_ble_eq_true rfl) ⟨Nat.le_of_ble_eq_true rfl, Nat.le_of_ble_eq_true rfl⟩ ⟨Nat.le_refl _, Nat.le_refl _⟩ (ct_X11_done ?_)
          exact V_retI (pc := 119) d_X11_land_119 rfl ⟨Nat.le_refl _, Nat.le_refl _⟩ (by first | (rw [up2_up2]; have k := h2 j hj rfl; rw [ei, nI_clamp (by omega)] at k; exact k ⟨⟨e1, c44⟩, c87⟩) | (have k := h5 j hj rfl; rw [ei, nI_clamp (by omega)] at k; exact k ⟨⟨e1, c44⟩, c87⟩))
        · refine V_aload_n (pc := 90) d_X11_land_90 rfl ?_
          refine V_iconst (pc := 91) (nI 2) d_X11_land_91 (by decide) ?_
          refine P_putI (pc := 92) d_X11_land_92 f_X11_139 (tBA b (by omega)) ?_
          refine V_aload_n (pc := 95) d_X11_land_95 rfl ?_
          refine P_getR (pc := 96) d_X11_land_96 f_X11_10 (tt_3 b) (rr_3_0 b) ?_
          refine V_dup (pc := 99) d_X11_land_99 rfl ?_
          refine P_getI (pc := 100) d_X11_land_100 f_X11_167 (tt_4 b) ?_
          simp (disch := omega) only [up2_n, up2_e]
          refine V_aload_n (pc := 103) d_X11_land_103 rfl ?_
          refine P_getI (pc := 104) d_X11_land_104 f_X11_170 (tBA b (by omega)) ?_
          simp (disch := omega) only [up2_n, up2_e]
          rw [(cA_f hA (by omega : j < nl)).2.2.1]
          refine V_iadd (pc := 107) d_X11_land_107 ?_
          refine P_putI (pc := 108) d_X11_land_108 f_X11_167 (tt_4 b) ?_
          refine V_aload_n (pc := 111) d_X11_land_111 rfl ?_
          refine V_aload_n (pc := 112) d_X11_land_112 rfl ?_
          refine P_getI (pc := 113) d_X11_land_113 f_X11_143 (tBA b (by omega)) ?_
          simp (disch := omega) only [up2_n, up2_e]
          refine V_cvI (pc := 116) (n := 1) (c := 11) [_] d_X11_land_116 c_X11_72 k_X11_done ⟨rfl, rfl⟩ (tt_3 b) rfl (Nat.le_of_ble_eq_true rfl) ⟨Nat.le_of_ble_eq_true rfl, Nat.le_of_ble_eq_true rfl⟩ ⟨Nat.le_refl _, Nat.le_refl _⟩ (ct_X11_done ?_)
          exact V_retI (pc := 119) d_X11_land_119 rfl ⟨Nat.le_refl _, Nat.le_refl _⟩ (by first | (rw [up2_up2]; have k := h2 j hj rfl; rw [ei, nI_clamp (by omega)] at k; exact k ⟨⟨e1, c44⟩, c87⟩) | (have k := h5 j hj rfl; rw [ei, nI_clamp (by omega)] at k; exact k ⟨⟨e1, c44⟩, c87⟩))
      · refine V_aload_n (pc := 47) d_X11_land_47 rfl ?_
        refine V_iconst (pc := 48) (nI 3) d_X11_land_48 (by decide) ?_
        refine V_cvI (pc := 49) (n := 1) (c := 11) [_] d_X11_land_49 c_X11_55 k_X11_refused ⟨rfl, rfl⟩ (tt_3 b) rfl (Nat.le_of_ble_eq_true rfl) ⟨Nat.le_of_ble_eq_true rfl, Nat.le_of_ble_eq_true rfl⟩ ⟨Nat.le_refl _, Nat.le_refl _⟩ (ct_X11_refused ?_)
        exact V_retI (pc := 52) d_X11_land_52 rfl ⟨Nat.le_refl _, Nat.le_refl _⟩ (h3 j hj rfl (fun q => by first | exact absurd q.1 e1 | (have q2 := q.2; rw [ei, nI_clamp (by omega)] at q2; exact absurd q2 c44)))
    · change V _ _ _ _ _ _ _ _ (.null :: _) _
      refine V_astore_nN (pc := 35) d_X11_land_35 (by decide) ?_
      refine V_aload_nN (pc := 36) d_X11_land_36 rfl ?_
      refine V_ifnullN (pc := 37) 47 d_X11_land_37 (by decide) ?_
      refine V_aload_n (pc := 47) d_X11_land_47 rfl ?_
      refine V_iconst (pc := 48) (nI 3) d_X11_land_48 (by decide) ?_
      refine V_cvI (pc := 49) (n := 1) (c := 11) [_] d_X11_land_49 c_X11_55 k_X11_refused ⟨rfl, rfl⟩ (tt_3 b) rfl (Nat.le_of_ble_eq_true rfl) ⟨Nat.le_of_ble_eq_true rfl, Nat.le_of_ble_eq_true rfl⟩ ⟨Nat.le_refl _, Nat.le_refl _⟩ (ct_X11_refused ?_)
      exact V_retI (pc := 52) d_X11_land_52 rfl ⟨Nat.le_refl _, Nat.le_refl _⟩ (h3 j hj rfl (fun q => by first | exact absurd q.1 e1 | (have q2 := q.2; rw [ei, nI_clamp (by omega)] at q2; exact absurd q2 c44)))
  · replace c8 := zf c8
    refine V_aload_n (pc := 11) d_X11_land_11 rfl ?_
    refine V_iconst (pc := 12) (1) d_X11_land_12 (by decide) ?_
    refine V_cvI (pc := 13) (n := 1) (c := 11) [_] d_X11_land_13 c_X11_55 k_X11_refused ⟨rfl, rfl⟩ (tt_3 b) rfl (Nat.le_of_ble_eq_true rfl) ⟨Nat.le_of_ble_eq_true rfl, Nat.le_of_ble_eq_true rfl⟩ ⟨Nat.le_refl _, Nat.le_refl _⟩ (ct_X11_refused ?_)
    exact V_retI (pc := 16) d_X11_land_16 rfl ⟨Nat.le_refl _, Nat.le_refl _⟩ (h1 (by
                        rintro ⟨j, gj, ej⟩
                        try subst ej
                        simp (disch := omega) only [nI_toInt, nI_eq] at *
                        omega))
theorem ct_X12_land {x : Int32} {ρ : Sg} {q ns nb nl nt nr : Nat} (hR : RR ρ 4 σ q ns nb nl nt nr) (h1 : ¬ (∃ j, j < nl ∧ x = nI j) → K (-1) (up2 σ 139 0 1, sh b)) (h3 : ∀ (j : Nat), j < nl → x = nI j → ¬ (σ 163 j = 1 ∧ σ 152 (σ 164 j).toNatClampNeg = 0) → K (-1) (up2 σ 139 0 (nI 3), sh b)) (h5 : ∀ (j : Nat), j < nl → x = nI j → (σ 163 j = 1 ∧ σ 152 (σ 164 j).toNatClampNeg = 0) ∧ ¬ σ 153 (σ 164 j).toNatClampNeg = σ 160 j → K (σ 153 (σ 164 j).toNatClampNeg) (up2 (up2 (up2 (up2 σ 164 j (σ 153 (σ 164 j).toNatClampNeg)) 163 j 0) 139 30 (σ 139 30 + 0)) 139 0 0, sh b)) (h2 : ∀ (j : Nat), j < nl → x = nI j → (σ 163 j = 1 ∧ σ 152 (σ 164 j).toNatClampNeg = 0) ∧ σ 153 (σ 164 j).toNatClampNeg = σ 160 j → K (σ 153 (σ 164 j).toNatClampNeg) (up2 (up2 (up2 (up2 σ 164 j (σ 153 (σ 164 j).toNatClampNeg)) 163 j (nI 2)) 139 30 (σ 139 30 + σ 162 j)) 139 0 0, sh b)) : CM G mX12_land (rl 3) [.ref 139, .int x] (σ, sh b) (QI K) := by
  obtain ⟨⟨⟨hq2, hn10, hnb, hnl, hnt, hnr⟩, ⟨vq, vns, vnb, vnl, vnt, vnr⟩, ⟨rq, rns, rnb, rnl, rnt, rnr⟩, hpd⟩, hH, hC, hS, hLD, hB, hA, hT, hU⟩ := hR
  refine CM.of (by decide) (Nat.le_of_ble_eq_true rfl) (cats1 rfl) ?_
  refine V_aload_n (pc := 0) d_X12_land_0 rfl ?_
  refine V_iload_n (pc := 1) d_X12_land_1 rfl ?_
  refine V_cvI (pc := 2) (n := 2) (c := 12) [_] d_X12_land_2 c_X12_235 k_X12_isBale ⟨rfl, rfl⟩ (tt_139 b) rfl (Nat.le_of_ble_eq_true rfl) ⟨Nat.le_of_ble_eq_true rfl, Nat.le_of_ble_eq_true rfl⟩ ⟨Nat.le_refl _, Nat.le_refl _⟩ (ct_X12_isBale vnl (by omega) ?_)
  refine V_if_ne (pc := 5) 14 d_X12_land_5 (by decide) (fun c5 => ?_) (fun c5 => ?_)
  · replace c5 := zt c5
    obtain ⟨j, hj, rfl, -⟩ := nat_of (n := nl) (x := x) (by omega) (by omega) (by omega)
    refine V_aload_n (pc := 14) d_X12_land_14 rfl ?_
    refine P_getR (pc := 15) d_X12_land_15 f_X12_80 (tt_139 b) (rr_139_28 b) ?_
    refine V_iload_n (pc := 18) d_X12_land_18 rfl ?_
    refine P_iald (pc := 19) (j) d_X12_land_19 (tt_163 b) rfl (ln_of (ll_163 b) ⟨by omega, by decide⟩) ?_
    refine V_iconst (pc := 20) (1) d_X12_land_20 (by decide) ?_
    refine V_icmp_ne (pc := 21) 38 d_X12_land_21 (by decide) (fun c21 => ?_) (fun c21 => ?_)
    · refine V_aload_n (pc := 38) d_X12_land_38 rfl ?_
      refine V_iconst (pc := 39) (nI 3) d_X12_land_39 (by decide) ?_
      refine V_cvI (pc := 40) (n := 1) (c := 12) [_] d_X12_land_40 c_X12_187 k_X12_refused ⟨rfl, rfl⟩ (tt_139 b) rfl (Nat.le_of_ble_eq_true rfl) ⟨Nat.le_of_ble_eq_true rfl, Nat.le_of_ble_eq_true rfl⟩ ⟨Nat.le_refl _, Nat.le_refl _⟩ (ct_X12_refused ?_)
      exact V_retI (pc := 43) d_X12_land_43 rfl ⟨Nat.le_refl _, Nat.le_refl _⟩ (h3 j hj rfl (fun q => by first | exact absurd q.1 c21 | (have q2 := q.2; rw [ei, nI_clamp (by omega)] at q2; exact absurd q2 c35)))
    · obtain ⟨i, hi, ei⟩ : rg (σ 164 j) nb := by
        rcases (hA j hj).2.2.2.2 with z | z | z | z
        · rw [c21] at z; exact absurd z.1 (by decide)
        · exact z.2
        · rw [c21] at z; exact absurd z.1 (by decide)
        · rw [c21] at z; exact absurd z.1 (by decide)
      refine V_aload_n (pc := 24) d_X12_land_24 rfl ?_
      refine P_getR (pc := 25) d_X12_land_25 f_X12_47 (tt_139 b) (rr_139_16 b) ?_
      refine V_aload_n (pc := 28) d_X12_land_28 rfl ?_
      refine P_getR (pc := 29) d_X12_land_29 f_X12_83 (tt_139 b) (rr_139_29 b) ?_
      refine V_iload_n (pc := 32) d_X12_land_32 rfl ?_
      refine P_iald (pc := 33) (j) d_X12_land_33 (tt_164 b) rfl (ln_of (ll_164 b) ⟨by omega, by decide⟩) ?_
      rw [ei]
      refine P_iald (pc := 34) (i) d_X12_land_34 (tt_152 b) rfl (ln_of (ll_152 b) ⟨by omega, by decide⟩) ?_
      refine V_if_eq (pc := 35) 44 d_X12_land_35 (by decide) (fun c35 => ?_) (fun c35 => ?_)
      · refine V_aload_n (pc := 44) d_X12_land_44 rfl ?_
        refine P_getR (pc := 45) d_X12_land_45 f_X12_50 (tt_139 b) (rr_139_17 b) ?_
        refine V_aload_n (pc := 48) d_X12_land_48 rfl ?_
        refine P_getR (pc := 49) d_X12_land_49 f_X12_83 (tt_139 b) (rr_139_29 b) ?_
        refine V_iload_n (pc := 52) d_X12_land_52 rfl ?_
        refine P_iald (pc := 53) (j) d_X12_land_53 (tt_164 b) rfl (ln_of (ll_164 b) ⟨by omega, by decide⟩) ?_
        rw [ei]
        refine P_iald (pc := 54) (i) d_X12_land_54 (tt_153 b) rfl (ln_of (ll_153 b) ⟨by omega, by decide⟩) ?_
        refine V_istore_n (pc := 55) d_X12_land_55 (by decide) ?_
        refine V_aload_n (pc := 56) d_X12_land_56 rfl ?_
        refine P_getR (pc := 57) d_X12_land_57 f_X12_83 (tt_139 b) (rr_139_29 b) ?_
        refine V_iload_n (pc := 60) d_X12_land_60 rfl ?_
        refine V_iload_n (pc := 61) d_X12_land_61 rfl ?_
        refine P_iast (pc := 62) (j) d_X12_land_62 (tt_164 b) rfl (ln_of (ll_164 b) ⟨by omega, by decide⟩) ?_
        refine V_aload_n (pc := 63) d_X12_land_63 rfl ?_
        refine P_getR (pc := 64) d_X12_land_64 f_X12_80 (tt_139 b) (rr_139_28 b) ?_
        refine V_iload_n (pc := 67) d_X12_land_67 rfl ?_
        refine V_iload_n (pc := 68) d_X12_land_68 rfl ?_
        refine V_aload_n (pc := 69) d_X12_land_69 rfl ?_
        refine P_getR (pc := 70) d_X12_land_70 f_X12_71 (tt_139 b) (rr_139_25 b) ?_
        refine V_iload_n (pc := 73) d_X12_land_73 rfl ?_
        refine P_iald (pc := 74) (j) d_X12_land_74 (tt_160 b) rfl (ln_of (ll_160 b) ⟨by omega, by decide⟩) ?_
        simp (disch := omega) only [up2_n, up2_e]
        refine V_icmp_ne (pc := 75) 82 d_X12_land_75 (by decide) (fun c75 => ?_) (fun c75 => ?_)
        · refine V_iconst (pc := 82) (0) d_X12_land_82 (by decide) ?_
          refine P_iast (pc := 83) (j) d_X12_land_83 (tt_163 b) rfl (ln_of (ll_163 b) ⟨by omega, by decide⟩) ?_
          refine V_aload_n (pc := 84) d_X12_land_84 rfl ?_
          refine V_dup (pc := 85) d_X12_land_85 rfl ?_
          refine P_getI (pc := 86) d_X12_land_86 f_X12_244 (tt_139 b) ?_
          simp (disch := omega) only [up2_n, up2_e]
          refine V_iload_n (pc := 89) d_X12_land_89 rfl ?_
          refine V_aload_n (pc := 90) d_X12_land_90 rfl ?_
          refine P_getR (pc := 91) d_X12_land_91 f_X12_71 (tt_139 b) (rr_139_25 b) ?_
          refine V_iload_n (pc := 94) d_X12_land_94 rfl ?_
          refine P_iald (pc := 95) (j) d_X12_land_95 (tt_160 b) rfl (ln_of (ll_160 b) ⟨by omega, by decide⟩) ?_
          simp (disch := omega) only [up2_n, up2_e]
          refine V_icmp_ne (pc := 96) 108 d_X12_land_96 (by decide) (fun c96 => ?_) (fun c96 => ?_)
          · refine V_iconst (pc := 108) (0) d_X12_land_108 (by decide) ?_
            refine V_iadd (pc := 109) d_X12_land_109 ?_
            refine P_putI (pc := 110) d_X12_land_110 f_X12_244 (tt_139 b) ?_
            refine V_aload_n (pc := 113) d_X12_land_113 rfl ?_
            refine V_iload_n (pc := 114) d_X12_land_114 rfl ?_
            refine V_cvI (pc := 115) (n := 1) (c := 12) [_] d_X12_land_115 c_X12_191 k_X12_done ⟨rfl, rfl⟩ (tt_139 b) rfl (Nat.le_of_ble_eq_true rfl) ⟨Nat.le_of_ble_eq_true rfl, Nat.le_of_ble_eq_true rfl⟩ ⟨Nat.le_refl _, Nat.le_refl _⟩ (ct_X12_done ?_)
            exact V_retI (pc := 118) d_X12_land_118 rfl ⟨Nat.le_refl _, Nat.le_refl _⟩ (by first | exact absurd c75 c96 | exact absurd c96 c75 | (have k := h2 j hj rfl; rw [ei, nI_clamp (by omega)] at k; exact k ⟨⟨c21, c35⟩, c96⟩) | (have k := h5 j hj rfl; rw [ei, nI_clamp (by omega)] at k; exact k ⟨⟨c21, c35⟩, c96⟩))
          · refine V_aload_n (pc := 99) d_X12_land_99 rfl ?_
            refine P_getR (pc := 100) d_X12_land_100 f_X12_77 (tt_139 b) (rr_139_27 b) ?_
            refine V_iload_n (pc := 103) d_X12_land_103 rfl ?_
            refine P_iald (pc := 104) (j) d_X12_land_104 (tt_162 b) rfl (ln_of (ll_162 b) ⟨by omega, by decide⟩) ?_
            simp (disch := omega) only [up2_n, up2_e]
            refine V_goto (pc := 105) 109 d_X12_land_105 (by decide) ?_
            refine V_iadd (pc := 109) d_X12_land_109 ?_
            refine P_putI (pc := 110) d_X12_land_110 f_X12_244 (tt_139 b) ?_
            refine V_aload_n (pc := 113) d_X12_land_113 rfl ?_
            refine V_iload_n (pc := 114) d_X12_land_114 rfl ?_
            refine V_cvI (pc := 115) (n := 1) (c := 12) [_] d_X12_land_115 c_X12_191 k_X12_done ⟨rfl, rfl⟩ (tt_139 b) rfl (Nat.le_of_ble_eq_true rfl) ⟨Nat.le_of_ble_eq_true rfl, Nat.le_of_ble_eq_true rfl⟩ ⟨Nat.le_refl _, Nat.le_refl _⟩ (ct_X12_done ?_)
            exact V_retI (pc := 118) d_X12_land_118 rfl ⟨Nat.le_refl _, Nat.le_refl _⟩ (by first | exact absurd c75 c96 | exact absurd c96 c75 | (have k := h2 j hj rfl; rw [ei, nI_clamp (by omega)] at k; exact k ⟨⟨c21, c35⟩, c96⟩) | (have k := h5 j hj rfl; rw [ei, nI_clamp (by omega)] at k; exact k ⟨⟨c21, c35⟩, c96⟩))
        · refine V_iconst (pc := 78) (nI 2) d_X12_land_78 (by decide) ?_
          refine V_goto (pc := 79) 83 d_X12_land_79 (by decide) ?_
          refine P_iast (pc := 83) (j) d_X12_land_83 (tt_163 b) rfl (ln_of (ll_163 b) ⟨by omega, by decide⟩) ?_
          refine V_aload_n (pc := 84) d_X12_land_84 rfl ?_
          refine V_dup (pc := 85) d_X12_land_85 rfl ?_
          refine P_getI (pc := 86) d_X12_land_86 f_X12_244 (tt_139 b) ?_
          simp (disch := omega) only [up2_n, up2_e]
          refine V_iload_n (pc := 89) d_X12_land_89 rfl ?_
          refine V_aload_n (pc := 90) d_X12_land_90 rfl ?_
          refine P_getR (pc := 91) d_X12_land_91 f_X12_71 (tt_139 b) (rr_139_25 b) ?_
          refine V_iload_n (pc := 94) d_X12_land_94 rfl ?_
          refine P_iald (pc := 95) (j) d_X12_land_95 (tt_160 b) rfl (ln_of (ll_160 b) ⟨by omega, by decide⟩) ?_
          simp (disch := omega) only [up2_n, up2_e]
          refine V_icmp_ne (pc := 96) 108 d_X12_land_96 (by decide) (fun c96 => ?_) (fun c96 => ?_)
          · refine V_iconst (pc := 108) (0) d_X12_land_108 (by decide) ?_
            refine V_iadd (pc := 109) d_X12_land_109 ?_
            refine P_putI (pc := 110) d_X12_land_110 f_X12_244 (tt_139 b) ?_
            refine V_aload_n (pc := 113) d_X12_land_113 rfl ?_
            refine V_iload_n (pc := 114) d_X12_land_114 rfl ?_
            refine V_cvI (pc := 115) (n := 1) (c := 12) [_] d_X12_land_115 c_X12_191 k_X12_done ⟨rfl, rfl⟩ (tt_139 b) rfl (Nat.le_of_ble_eq_true rfl) ⟨Nat.le_of_ble_eq_true rfl, Nat.le_of_ble_eq_true rfl⟩ ⟨Nat.le_refl _, Nat.le_refl _⟩ (ct_X12_done ?_)
            exact V_retI (pc := 118) d_X12_land_118 rfl ⟨Nat.le_refl _, Nat.le_refl _⟩ (by first | exact absurd c75 c96 | exact absurd c96 c75 | (have k := h2 j hj rfl; rw [ei, nI_clamp (by omega)] at k; exact k ⟨⟨c21, c35⟩, c96⟩) | (have k := h5 j hj rfl; rw [ei, nI_clamp (by omega)] at k; exact k ⟨⟨c21, c35⟩, c96⟩))
          · refine V_aload_n (pc := 99) d_X12_land_99 rfl ?_
            refine P_getR (pc := 100) d_X12_land_100 f_X12_77 (tt_139 b) (rr_139_27 b) ?_
            refine V_iload_n (pc := 103) d_X12_land_103 rfl ?_
            refine P_iald (pc := 104) (j) d_X12_land_104 (tt_162 b) rfl (ln_of (ll_162 b) ⟨by omega, by decide⟩) ?_
            simp (disch := omega) only [up2_n, up2_e]
            refine V_goto (pc := 105) 109 d_X12_land_105 (by decide) ?_
            refine V_iadd (pc := 109) d_X12_land_109 ?_
            refine P_putI (pc := 110) d_X12_land_110 f_X12_244 (tt_139 b) ?_
            refine V_aload_n (pc := 113) d_X12_land_113 rfl ?_
            refine V_iload_n (pc := 114) d_X12_land_114 rfl ?_
            refine V_cvI (pc := 115) (n := 1) (c := 12) [_] d_X12_land_115 c_X12_191 k_X12_done ⟨rfl, rfl⟩ (tt_139 b) rfl (Nat.le_of_ble_eq_true rfl) ⟨Nat.le_of_ble_eq_true rfl, Nat.le_of_ble_eq_true rfl⟩ ⟨Nat.le_refl _, Nat.le_refl _⟩ (ct_X12_done ?_)
            exact V_retI (pc := 118) d_X12_land_118 rfl ⟨Nat.le_refl _, Nat.le_refl _⟩ (by first | exact absurd c75 c96 | exact absurd c96 c75 | (have k := h2 j hj rfl; rw [ei, nI_clamp (by omega)] at k; exact k ⟨⟨c21, c35⟩, c96⟩) | (have k := h5 j hj rfl; rw [ei, nI_clamp (by omega)] at k; exact k ⟨⟨c21, c35⟩, c96⟩))
      · refine V_aload_n (pc := 38) d_X12_land_38 rfl ?_
        refine V_iconst (pc := 39) (nI 3) d_X12_land_39 (by decide) ?_
        refine V_cvI (pc := 40) (n := 1) (c := 12) [_] d_X12_land_40 c_X12_187 k_X12_refused ⟨rfl, rfl⟩ (tt_139 b) rfl (Nat.le_of_ble_eq_true rfl) ⟨Nat.le_of_ble_eq_true rfl, Nat.le_of_ble_eq_true rfl⟩ ⟨Nat.le_refl _, Nat.le_refl _⟩ (ct_X12_refused ?_)
        exact V_retI (pc := 43) d_X12_land_43 rfl ⟨Nat.le_refl _, Nat.le_refl _⟩ (h3 j hj rfl (fun q => by first | exact absurd q.1 c21 | (have q2 := q.2; rw [ei, nI_clamp (by omega)] at q2; exact absurd q2 c35)))
  · replace c5 := zf c5
    refine V_aload_n (pc := 8) d_X12_land_8 rfl ?_
    refine V_iconst (pc := 9) (1) d_X12_land_9 (by decide) ?_
    refine V_cvI (pc := 10) (n := 1) (c := 12) [_] d_X12_land_10 c_X12_187 k_X12_refused ⟨rfl, rfl⟩ (tt_139 b) rfl (Nat.le_of_ble_eq_true rfl) ⟨Nat.le_of_ble_eq_true rfl, Nat.le_of_ble_eq_true rfl⟩ ⟨Nat.le_refl _, Nat.le_refl _⟩ (ct_X12_refused ?_)
    exact V_retI (pc := 13) d_X12_land_13 rfl ⟨Nat.le_refl _, Nat.le_refl _⟩ (h1 (by
                        rintro ⟨j, gj, ej⟩
                        try subst ej
                        simp (disch := omega) only [nI_toInt, nI_eq] at *
                        omega))
theorem pr_land {x : Int32}  (h : Rel σ b)  : PR G mX11_land mX12_land 4 3 [.int x] σ b := by
  have h0 := h
  obtain ⟨q, ns, nb, nl, nt, nr, hR, hX, hP, hQ, hK⟩ := h
  have hbd := hR.1.1
  refine ct_X11_land hR  (fun hv => ?_) (fun j hj ej hv => ?_) (fun j hj ej hv => ?_) (fun j hj ej hv => ?_)
  · exact ⟨rfl, ct_X12_land (RR_lo hR (fun a i _ _ => by simp (disch := omega) only [up2_n, filr_n, film_n]))  (fun _ => ⟨rfl, _, rfl, rel_ref h0⟩) (fun j hj ej _ => absurd ⟨j, hj, ej⟩ hv) (fun j hj ej _ => absurd ⟨j, hj, ej⟩ hv) (fun j hj ej _ => absurd ⟨j, hj, ej⟩ hv)⟩
  · refine ⟨rfl, ct_X12_land (RR_lo hR (fun a i _ _ => by simp (disch := omega) only [up2_n, filr_n, film_n]))  (fun hv => absurd ⟨j, hj, ej⟩ hv) (fun j' hj' ej' hv' => ?_) (fun j' hj' ej' hv' => ?_) (fun j' hj' ej' hv' => ?_)⟩
    · obtain rfl : j' = j := (nI_eq (by omega) (by omega)).mp (ej'.symm.trans ej)
      exact ⟨rfl, _, rfl, rel_ref h0⟩
    · obtain rfl : j' = j := (nI_eq (by omega) (by omega)).mp (ej'.symm.trans ej)
      simp (disch := omega) only [up2_n] at hv'
      first | exact absurd hv hv' | exact absurd hv' hv | exact absurd hv.1 hv' | exact absurd hv'.1 hv | exact absurd hv.2 hv'.2 | exact absurd hv'.2 hv.2
    · obtain rfl : j' = j := (nI_eq (by omega) (by omega)).mp (ej'.symm.trans ej)
      simp (disch := omega) only [up2_n] at hv'
      first | exact absurd hv hv' | exact absurd hv' hv | exact absurd hv.1 hv' | exact absurd hv'.1 hv | exact absurd hv.2 hv'.2 | exact absurd hv'.2 hv.2
  · obtain ⟨i, hi, ei⟩ : rg (σ 164 j) nb := by
      rcases (hR.2.2.2.2.2.2.1 j hj).2.2.2.2 with z | z | z | z
      · rw [hv.1.1] at z; exact absurd z.1 (by decide)
      · exact z.2
      · rw [hv.1.1] at z; exact absurd z.1 (by decide)
      · rw [hv.1.1] at z; exact absurd z.1 (by decide)
    obtain ⟨⟨hv1, hv2⟩, hv3⟩ := id hv
    rw [ei, nI_clamp (by omega)] at hv2 hv3
    rw [ei, nI_clamp (by omega)]
    refine ⟨rfl, ct_X12_land (RR_lo hR (fun a i _ _ => by simp (disch := omega) only [up2_n, filr_n, film_n]))  (fun hv => absurd ⟨j, hj, ej⟩ hv) (fun j' hj' ej' hv' => ?_) (fun j' hj' ej' hv' => ?_) (fun j' hj' ej' hv' => ?_)⟩
    · obtain rfl : j' = j := (nI_eq (by omega) (by omega)).mp (ej'.symm.trans ej)
      simp (disch := omega) only [up2_n] at hv'
      first | exact absurd hv hv' | exact absurd hv' hv | exact absurd hv.1 hv' | exact absurd hv'.1 hv | exact absurd hv.2 hv'.2 | exact absurd hv'.2 hv.2
    · obtain rfl : j' = j := (nI_eq (by omega) (by omega)).mp (ej'.symm.trans ej)
      obtain ⟨hcn, hH, hC, hS, hLD, hB, hA, hT, hU⟩ := id hR
      have hbd := hcn.1
      simp (disch := omega) only [up2_n, ei, nI_clamp, true_and]
      refine ⟨_, rfl, ?_⟩
      exact ⟨q, ns, nb, nl, nt, nr, ⟨by
            obtain ⟨z1, z2, ⟨r1, r2, r3, r4, r5, r6⟩, hp⟩ := hcn
            refine ⟨z1, ?_, ⟨?_, ?_, ?_, ?_, ?_, ?_⟩, ?_⟩ <;> simp (disch := omega) only [up2_n, up2_e]
            · exact z2
            · exact r1
            · exact r2
            · exact r3
            · exact r4
            · exact r5
            · exact r6
            · rw [hp, Int32.add_zero], cH_cg hH (by simp (disch := omega) only [up2_n, filr_n, film_n]) (fun d _ => (by simp (disch := omega) only [up2_n, filr_n, film_n])) (fun d _ => ⟨(by simp (disch := omega) only [up2_n, filr_n, film_n]), (by simp (disch := omega) only [up2_n, filr_n, film_n])⟩), cC_cg hC (fun d _ => (by simp (disch := omega) only [up2_n, filr_n, film_n])) (fun d _ => (by simp (disch := omega) only [up2_n, filr_n, film_n])), cS_cg hS (fun k _ => ⟨fun j => (by simp (disch := omega) only [up2_n, filr_n, film_n]), fun d _ => (by simp (disch := omega) only [up2_n, filr_n, film_n])⟩) (fun k _ => ⟨(by simp (disch := omega) only [up2_n, filr_n, film_n]), (by simp (disch := omega) only [up2_n, filr_n, film_n]), (by simp (disch := omega) only [up2_n, filr_n, film_n]), (by simp (disch := omega) only [up2_n, filr_n, film_n])⟩) (fun i _ => ⟨(by simp (disch := omega) only [up2_n, filr_n, film_n]), (by simp (disch := omega) only [up2_n, filr_n, film_n])⟩), cL_cg hLD (fun l _ => ⟨(by simp (disch := omega) only [up2_n, filr_n, film_n]), fun k _ => ⟨(by simp (disch := omega) only [up2_n, filr_n, film_n]), (by simp (disch := omega) only [up2_n, filr_n, film_n])⟩⟩) (fun l _ => (by simp (disch := omega) only [up2_n, filr_n, film_n])) (fun m _ _ => ⟨(by simp (disch := omega) only [up2_n, filr_n, film_n]), (by simp (disch := omega) only [up2_n, filr_n, film_n])⟩), cB_ld (i0 := i) (x := 0) hB (fun _ => by
            refine Eq.trans ?_ (aboS_set (V := σ) (j := j') (fun k hk => ⟨(by simp (disch := omega) only [up2_n, filr_n, film_n]), (by simp (disch := omega) only [up2_n, filr_n, film_n]), (by simp (disch := omega) only [up2_n, filr_n, film_n])⟩) (by omega)).symm
            rw [ctr, ctr, if_pos ⟨hv.1.1, ei⟩]
            simp (disch := omega) only [up2_n, up2_e]
            rw [if_neg (fun q => absurd q.1 (by decide)), Int32.add_zero]) (fun e he => ⟨fun j hj => (by simp (disch := omega) only [up2_n, filr_n, film_n]), fun k _ => ⟨(by simp (disch := omega) only [up2_n, filr_n, film_n]), (by simp (disch := omega) only [up2_n, filr_n, film_n])⟩⟩) (fun e he ne => ⟨(by simp (disch := omega) only [up2_n, filr_n, film_n]), by
            refine (aboS_set (V := σ) (j := j') (fun k hk => ⟨(by simp (disch := omega) only [up2_n, filr_n, film_n]), (by simp (disch := omega) only [up2_n, filr_n, film_n]), (by simp (disch := omega) only [up2_n, filr_n, film_n])⟩) (by omega)).trans ?_
            rw [ctr, ctr, if_neg (fun q => by
              have q2 := q.2
              rw [ei, nI_eq (by omega) (by omega)] at q2
              omega), if_neg (fun q => by
              have q1 := q.1
              simp (disch := omega) only [up2_n, up2_e] at q1
              exact absurd q1 (by decide)), Int32.sub_zero, Int32.add_zero]⟩) (fun e _ a _ _ => (by simp (disch := omega) only [up2_n, filr_n, film_n])) (fun m _ => ⟨(by simp (disch := omega) only [up2_n, filr_n, film_n]), (by simp (disch := omega) only [up2_n, filr_n, film_n])⟩), cA_at (j0 := j') hA (by
            obtain ⟨⟨a0, a1, a2, a3, a4⟩, b1, b2, b3, b4⟩ := hA j' (by omega)
            refine ⟨⟨?_, ?_, ?_, ?_, ?_⟩, ?_, ?_, ?_, Or.inl ⟨?_, ?_, ?_⟩⟩
            all_goals simp (disch := omega) only [up2_n, up2_e]
            · exact a0
            · exact a1
            · exact a2
            · exact b1
            · exact b2
            · exact b3
            · exact cB_at0 hB hi hv2
            · exact hv3) (fun e _ _ i => (by simp (disch := omega) only [up2_n, filr_n, film_n])) (fun e _ _ a _ _ => (by simp (disch := omega) only [up2_n, filr_n, film_n])), cT_cg hT (fun j _ i => (by simp (disch := omega) only [up2_n, filr_n, film_n])) (fun j _ a _ _ => (by simp (disch := omega) only [up2_n, filr_n, film_n])), cU_cg hU (fun j _ i => (by simp (disch := omega) only [up2_n, filr_n, film_n])) (fun j _ a _ _ => (by simp (disch := omega) only [up2_n, filr_n, film_n]))⟩, cX_cg hX (by simp (disch := omega) only [up2_n, up2_e, filr_n, film_n]) ⟨(by simp (disch := omega) only [up2_n, filr_n, film_n]), (by simp (disch := omega) only [up2_n, filr_n, film_n])⟩, cP_cg hP ⟨(by simp (disch := omega) only [up2_n, filr_n, film_n]), (by simp (disch := omega) only [up2_n, filr_n, film_n])⟩ (fun j _ => ⟨(by simp (disch := omega) only [up2_n, filr_n, film_n]), (by simp (disch := omega) only [up2_n, filr_n, film_n])⟩), cQ_cg hQ (fun a i _ => (by simp (disch := omega) only [up2_n, filr_n, film_n])), cK_cg hK (by simp (disch := omega) only [up2_n, filr_n, film_n]) (fun a i _ => (by simp (disch := omega) only [up2_n, filr_n, film_n])) (fun a i _ => (by simp (disch := omega) only [up2_n, filr_n, film_n])) (by omega) (by omega) (by omega) (by omega) (by omega)⟩
    · obtain rfl : j' = j := (nI_eq (by omega) (by omega)).mp (ej'.symm.trans ej)
      simp (disch := omega) only [up2_n] at hv'
      first | exact absurd hv hv' | exact absurd hv' hv | exact absurd hv.1 hv' | exact absurd hv'.1 hv | exact absurd hv.2 hv'.2 | exact absurd hv'.2 hv.2
  · obtain ⟨i, hi, ei⟩ : rg (σ 164 j) nb := by
      rcases (hR.2.2.2.2.2.2.1 j hj).2.2.2.2 with z | z | z | z
      · rw [hv.1.1] at z; exact absurd z.1 (by decide)
      · exact z.2
      · rw [hv.1.1] at z; exact absurd z.1 (by decide)
      · rw [hv.1.1] at z; exact absurd z.1 (by decide)
    obtain ⟨⟨hv1, hv2⟩, hv3⟩ := id hv
    rw [ei, nI_clamp (by omega)] at hv2 hv3
    rw [ei, nI_clamp (by omega)]
    refine ⟨rfl, ct_X12_land (RR_lo hR (fun a i _ _ => by simp (disch := omega) only [up2_n, filr_n, film_n]))  (fun hv => absurd ⟨j, hj, ej⟩ hv) (fun j' hj' ej' hv' => ?_) (fun j' hj' ej' hv' => ?_) (fun j' hj' ej' hv' => ?_)⟩
    · obtain rfl : j' = j := (nI_eq (by omega) (by omega)).mp (ej'.symm.trans ej)
      simp (disch := omega) only [up2_n] at hv'
      first | exact absurd hv hv' | exact absurd hv' hv | exact absurd hv.1 hv' | exact absurd hv'.1 hv | exact absurd hv.2 hv'.2 | exact absurd hv'.2 hv.2
    · obtain rfl : j' = j := (nI_eq (by omega) (by omega)).mp (ej'.symm.trans ej)
      simp (disch := omega) only [up2_n] at hv'
      first | exact absurd hv hv' | exact absurd hv' hv | exact absurd hv.1 hv' | exact absurd hv'.1 hv | exact absurd hv.2 hv'.2 | exact absurd hv'.2 hv.2
    · obtain rfl : j' = j := (nI_eq (by omega) (by omega)).mp (ej'.symm.trans ej)
      obtain ⟨hcn, hH, hC, hS, hLD, hB, hA, hT, hU⟩ := id hR
      have hbd := hcn.1
      simp (disch := omega) only [up2_n, ei, nI_clamp, true_and]
      refine ⟨_, rfl, ?_⟩
      exact ⟨q, ns, nb, nl, nt, nr, ⟨by
            obtain ⟨z1, z2, ⟨r1, r2, r3, r4, r5, r6⟩, hp⟩ := hcn
            refine ⟨z1, ?_, ⟨?_, ?_, ?_, ?_, ?_, ?_⟩, ?_⟩ <;> simp (disch := omega) only [up2_n, up2_e]
            · exact z2
            · exact r1
            · exact r2
            · exact r3
            · exact r4
            · exact r5
            · exact r6
            · rw [hp], cH_cg hH (by simp (disch := omega) only [up2_n, filr_n, film_n]) (fun d _ => (by simp (disch := omega) only [up2_n, filr_n, film_n])) (fun d _ => ⟨(by simp (disch := omega) only [up2_n, filr_n, film_n]), (by simp (disch := omega) only [up2_n, filr_n, film_n])⟩), cC_cg hC (fun d _ => (by simp (disch := omega) only [up2_n, filr_n, film_n])) (fun d _ => (by simp (disch := omega) only [up2_n, filr_n, film_n])), cS_cg hS (fun k _ => ⟨fun j => (by simp (disch := omega) only [up2_n, filr_n, film_n]), fun d _ => (by simp (disch := omega) only [up2_n, filr_n, film_n])⟩) (fun k _ => ⟨(by simp (disch := omega) only [up2_n, filr_n, film_n]), (by simp (disch := omega) only [up2_n, filr_n, film_n]), (by simp (disch := omega) only [up2_n, filr_n, film_n]), (by simp (disch := omega) only [up2_n, filr_n, film_n])⟩) (fun i _ => ⟨(by simp (disch := omega) only [up2_n, filr_n, film_n]), (by simp (disch := omega) only [up2_n, filr_n, film_n])⟩), cL_cg hLD (fun l _ => ⟨(by simp (disch := omega) only [up2_n, filr_n, film_n]), fun k _ => ⟨(by simp (disch := omega) only [up2_n, filr_n, film_n]), (by simp (disch := omega) only [up2_n, filr_n, film_n])⟩⟩) (fun l _ => (by simp (disch := omega) only [up2_n, filr_n, film_n])) (fun m _ _ => ⟨(by simp (disch := omega) only [up2_n, filr_n, film_n]), (by simp (disch := omega) only [up2_n, filr_n, film_n])⟩), cB_ld (i0 := i) (x := 0) hB (fun _ => by
            refine Eq.trans ?_ (aboS_set (V := σ) (j := j') (fun k hk => ⟨(by simp (disch := omega) only [up2_n, filr_n, film_n]), (by simp (disch := omega) only [up2_n, filr_n, film_n]), (by simp (disch := omega) only [up2_n, filr_n, film_n])⟩) (by omega)).symm
            rw [ctr, ctr, if_pos ⟨hv.1.1, ei⟩]
            simp (disch := omega) only [up2_n, up2_e]
            rw [if_neg (fun q => absurd q.1 (by decide)), Int32.add_zero]) (fun e he => ⟨fun j hj => (by simp (disch := omega) only [up2_n, filr_n, film_n]), fun k _ => ⟨(by simp (disch := omega) only [up2_n, filr_n, film_n]), (by simp (disch := omega) only [up2_n, filr_n, film_n])⟩⟩) (fun e he ne => ⟨(by simp (disch := omega) only [up2_n, filr_n, film_n]), by
            refine (aboS_set (V := σ) (j := j') (fun k hk => ⟨(by simp (disch := omega) only [up2_n, filr_n, film_n]), (by simp (disch := omega) only [up2_n, filr_n, film_n]), (by simp (disch := omega) only [up2_n, filr_n, film_n])⟩) (by omega)).trans ?_
            rw [ctr, ctr, if_neg (fun q => by
              have q2 := q.2
              rw [ei, nI_eq (by omega) (by omega)] at q2
              omega), if_neg (fun q => by
              have q1 := q.1
              simp (disch := omega) only [up2_n, up2_e] at q1
              exact absurd q1 (by decide)), Int32.sub_zero, Int32.add_zero]⟩) (fun e _ a _ _ => (by simp (disch := omega) only [up2_n, filr_n, film_n])) (fun m _ => ⟨(by simp (disch := omega) only [up2_n, filr_n, film_n]), (by simp (disch := omega) only [up2_n, filr_n, film_n])⟩), cA_at (j0 := j') hA (by
            obtain ⟨⟨a0, a1, a2, a3, a4⟩, b1, b2, b3, b4⟩ := hA j' (by omega)
            refine ⟨⟨?_, ?_, ?_, ?_, ?_⟩, ?_, ?_, ?_, Or.inr (Or.inr (Or.inl ⟨?_, ?_⟩))⟩
            all_goals simp (disch := omega) only [up2_n, up2_e]
            · exact a0
            · exact a1
            · exact a2
            · exact b1
            · exact b2
            · exact b3
            · exact cB_at0 hB hi hv2) (fun e _ _ i => (by simp (disch := omega) only [up2_n, filr_n, film_n])) (fun e _ _ a _ _ => (by simp (disch := omega) only [up2_n, filr_n, film_n])), cT_cg hT (fun j _ i => (by simp (disch := omega) only [up2_n, filr_n, film_n])) (fun j _ a _ _ => (by simp (disch := omega) only [up2_n, filr_n, film_n])), cU_cg hU (fun j _ i => (by simp (disch := omega) only [up2_n, filr_n, film_n])) (fun j _ a _ _ => (by simp (disch := omega) only [up2_n, filr_n, film_n]))⟩, cX_cg hX (by simp (disch := omega) only [up2_n, up2_e, filr_n, film_n]) ⟨(by simp (disch := omega) only [up2_n, filr_n, film_n]), (by simp (disch := omega) only [up2_n, filr_n, film_n])⟩, cP_cg hP ⟨(by simp (disch := omega) only [up2_n, filr_n, film_n]), (by simp (disch := omega) only [up2_n, filr_n, film_n])⟩ (fun j _ => ⟨(by simp (disch := omega) only [up2_n, filr_n, film_n]), (by simp (disch := omega) only [up2_n, filr_n, film_n])⟩), cQ_cg hQ (fun a i _ => (by simp (disch := omega) only [up2_n, filr_n, film_n])), cK_cg hK (by simp (disch := omega) only [up2_n, filr_n, film_n]) (fun a i _ => (by simp (disch := omega) only [up2_n, filr_n, film_n])) (fun a i _ => (by simp (disch := omega) only [up2_n, filr_n, film_n])) (by omega) (by omega) (by omega) (by omega) (by omega)⟩
end HC
