theorem comeC_o {σ : Sg} {i l a k : Nat} (h : a ≠ 77 + 4 * i ∧ a ≠ 79 + 4 * i ∧ a ≠ 80 + 4 * i ∧ a ≠ 35 + 4 * l ∧ a ≠ 36 + 4 * l) : comeC σ i l a k = σ a k := by
  rw [comeC, exC_o (by omega), up2_n (by omega), up2_n (by omega)]
theorem comeM_o {V : Sg} {i l ns a k : Nat} (h : a ≠ 152 ∧ a ≠ 153 ∧ a ≠ 155 ∧ a ≠ 157 ∧ a ≠ 158) : comeM V i l ns a k = V a k := by
  rw [comeM, exM_a (by omega), up2_n (by omega), up2_n (by omega), up2_n (by omega)]
theorem comeM_k {V : Sg} {i l ns a k : Nat} (ha : a ≠ 157 ∧ a ≠ 158) (h : k ≠ i) : comeM V i l ns a k = V a k := by
  rw [comeM, exM_a (by omega), up2_n (by omega), up2_n (by omega), up2_n (by omega)]
theorem exM_ag {τ σ : Sg} (h : ∀ a i, 139 ≤ a → a < 192 → τ a i = σ a i) {m1 m2 n : Nat} : ∀ a i, 139 ≤ a → a < 192 → exM τ m1 m2 n a i = exM σ m1 m2 n a i := by
  intro a i h1 h2
  unfold exM
  simp (disch := omega) only [h]
theorem up2_ag {τ σ : Sg} {a j : Nat} {x : Int32} (h : ∀ a i, 139 ≤ a → a < 192 → τ a i = σ a i) : ∀ b i, 139 ≤ b → b < 192 → up2 τ a j x b i = up2 σ a j x b i := by
  intro b i h1 h2
  unfold up2
  simp (disch := omega) only [h]
theorem comeM_ag {τ σ : Sg} (h : ∀ a i, 139 ≤ a → a < 192 → τ a i = σ a i) {i l ns : Nat} : ∀ a k, 139 ≤ a → a < 192 → comeM τ i l ns a k = comeM σ i l ns a k :=
  exM_ag (up2_ag (up2_ag (up2_ag h)))
/-- a boat comes to a landing: class and reference stay alike -/
theorem RR_come {σ V : Sg} {q ns nb nl nt nr i l : Nat} (h : RR σ 4 V q ns nb nl nt nr) (hi : i < nb) (hl : l ≤ ns) : RR (comeC σ i l) 4 (comeM V i l ns) q ns nb nl nt nr := by
  obtain ⟨hcn, hH, hC, hS, hLD, hB, hA, hT, hU⟩ := h
  have hbd := hcn.1
  have bW : ∀ i', i' < nb → i' ≠ i → ∀ k, k < 10 → ∀ a, comeM V i l ns a (10 * i' + k) = up2 (up2 (up2 V 152 i 0) 153 i (nI l)) 155 i 0 a (10 * i' + k) := fun i' h1 h2 k hk a => exM_i (by omega)
  have lW : ∀ l', l' < 11 → l' ≠ l → ∀ k, k < 10 → ∀ a, comeM V i l ns a (10 * (5 + l') + k) = up2 (up2 (up2 V 152 i 0) 153 i (nI l)) 155 i 0 a (10 * (5 + l') + k) := fun l' h1 h2 k hk a => exM_i (by omega)
  have hw1 := cB_w hB hi
  have hw2 := cL_w hLD (by omega : l < 11)
  have toI : ∀ x : Int32, rg x 9600 → 0 ≤ x.toInt := by
    intro x hx
    obtain ⟨k, hk, rfl⟩ := hx
    rw [nI_toInt (by omega)]
    omega
  have ge : ∀ (w p m k : Nat), cW σ w p V m ns → k < 10 → -1 ≤ (V 158 (m + k)).toInt := by
    intro w p m k hc hk
    rcases (hc k hk).2 with z | ⟨-, z, -⟩
    · rw [z, tim1]; omega
    · have := toI _ z; omega
  -- the words of boat i
  have w1 : cW (comeC σ i l) (79 + 4 * i) (80 + 4 * i) (comeM V i l ns) (10 * i) ns := by
    intro k hk
    obtain ⟨a1, a2⟩ := hw1 k hk
    obtain ⟨b1, b2⟩ := hw2 k hk
    rw [comeC, exC_q1 hk, exC_w1 hk]
    simp (disch := omega) only [up2_n]
    rw [a1, b1]
    by_cases z : k < ns
    · rw [comeM, exM_1 (Or.inr rfl) z, exM_1 (Or.inl rfl) z]
      simp (disch := omega) only [up2_n]
      by_cases c : (V 158 (10 * i + k)).toInt < (V 158 (10 * (5 + l) + k)).toInt
      · rw [if_pos c, if_pos c, if_pos c]
        refine ⟨trivial, ?_⟩
        rcases b2 with y | y
        · have := ge _ _ _ k hw1 hk
          rw [y, tim1] at c
          omega
        · exact Or.inr ⟨z, y.2.1, y.2.2⟩
      · rw [if_neg c, if_neg c, if_neg c]
        exact ⟨trivial, a2⟩
    · have v1 : V 158 (10 * i + k) = -1 := a2.resolve_right (fun y => z y.1)
      have v2 : V 158 (10 * (5 + l) + k) = -1 := b2.resolve_right (fun y => z y.1)
      rw [comeM, exM_i (by omega)]
      simp (disch := omega) only [up2_n]
      rw [v1, v2]
      exact ⟨by rw [if_neg (by omega)], Or.inl rfl⟩
  have w2 : cW (comeC σ i l) (35 + 4 * l) (36 + 4 * l) (comeM V i l ns) (10 * (5 + l)) ns := by
    intro k hk
    obtain ⟨a1, a2⟩ := hw1 k hk
    obtain ⟨b1, b2⟩ := hw2 k hk
    rw [comeC, exC_q2 (by omega) hk, exC_w2 (by omega) hk]
    simp (disch := omega) only [up2_n]
    rw [a1, b1]
    by_cases z : k < ns
    · rw [comeM, exM_2 (Or.inr rfl) z (by omega), exM_2 (Or.inl rfl) z (by omega)]
      simp (disch := omega) only [up2_n]
      by_cases c : (V 158 (10 * (5 + l) + k)).toInt < (V 158 (10 * i + k)).toInt
      · rw [if_pos c, if_pos c, if_pos c]
        refine ⟨trivial, ?_⟩
        rcases a2 with y | y
        · have := ge _ _ _ k hw2 hk
          rw [y, tim1] at c
          omega
        · exact Or.inr ⟨z, y.2.1, y.2.2⟩
      · rw [if_neg c, if_neg c, if_neg c]
        exact ⟨trivial, b2⟩
    · have v1 : V 158 (10 * i + k) = -1 := a2.resolve_right (fun y => z y.1)
      have v2 : V 158 (10 * (5 + l) + k) = -1 := b2.resolve_right (fun y => z y.1)
      rw [comeM, exM_i (by omega)]
      simp (disch := omega) only [up2_n]
      rw [v1, v2]
      exact ⟨by rw [if_neg (by omega)], Or.inl rfl⟩
  have C : ∀ a k, (a < 33 ∨ 97 ≤ a) → comeC σ i l a k = σ a k := fun a k ha => comeC_o (by omega)
  refine ⟨cCnt_cg hcn (fun j _ _ => C _ _ (by omega)) (fun j _ => comeM_o (by omega)), cH_cg hH (C _ _ (by omega)) (fun d _ => C _ _ (by omega)) (fun d _ => ⟨comeM_o (by omega), comeM_o (by omega)⟩), cC_cg hC (fun d _ => C _ _ (by omega)) (fun d _ => comeM_o (by omega)),
    cS_cg hS (fun k hk => ⟨fun j => C _ _ (by omega), fun d _ => C _ _ (by omega)⟩) (fun k _ => ⟨comeM_o (by omega), comeM_o (by omega), comeM_o (by omega), comeM_o (by omega)⟩) (fun j _ => ⟨comeM_o (by omega), comeM_o (by omega)⟩), ?_, ?_,
    cA_cg hA (fun j hj k => C _ _ (by omega)) (fun j _ a _ _ => comeM_o (by omega)), cT_cg hT (fun j hj k => C _ _ (by omega)) (fun j _ a _ _ => comeM_o (by omega)), cU_cg hU (fun j hj k => C _ _ (by omega)) (fun j _ a _ _ => comeM_o (by omega))⟩
  · intro e he
    obtain ⟨c1, c2, c3, c4⟩ := hLD e he
    refine ⟨?_, ?_, ?_, fun z => ⟨?_, fun k hk => ?_⟩⟩
    · rw [comeC_o (by omega), comeM_o (by omega)]; exact c1
    · rw [comeM_o (by omega)]; exact c2
    · by_cases z : e = l
      · subst z
        rw [show 4 + 31 + 4 * e = 35 + 4 * e by omega, show 4 + 32 + 4 * e = 36 + 4 * e by omega]
        exact w2
      · refine cW_cg c3 (fun k hk => ⟨comeC_o (by omega), comeC_o (by omega)⟩) (fun k hk => ⟨?_, ?_⟩)
        · rw [lW e he z k hk]; simp (disch := omega) only [up2_n]
        · rw [lW e he z k hk]; simp (disch := omega) only [up2_n]
    · rw [comeM_o (by omega)]; exact (c4 z).1
    · rw [lW e he (by omega) k hk]; simp (disch := omega) only [up2_n]; exact (c4 z).2 k hk
  · refine cB_at (i0 := i) hB (fun _ => ?_) (fun e he ne => ⟨fun j => comeC_o (by omega), fun k hk => ⟨comeC_o (by omega), comeC_o (by omega)⟩⟩) (fun e he ne a h1 h2 => comeM_k (by omega) ne) (fun e he ne k hk => ⟨?_, ?_⟩) (fun e he ne => aboS_cg (fun j _ => ⟨comeM_o (by omega), comeM_o (by omega), comeM_o (by omega)⟩))
    · obtain ⟨⟨a0, a1, a2, a3, a4, a5, a6⟩, b1, b2, b3, b4, b5⟩ := hB i hi
      have ca : ∀ j, comeC σ i l (4 + 73 + 4 * i) j = up2 (up2 σ (77 + 4 * i) 5 0) (77 + 4 * i) 6 (nI l) (4 + 73 + 4 * i) j := fun j => exC_o (by omega)
      have cm : ∀ a, a ≠ 157 ∧ a ≠ 158 → comeM V i l ns a i = up2 (up2 (up2 V 152 i 0) 153 i (nI l)) 155 i 0 a i := fun a ha => exM_a (by omega)
      have ab : aboS (comeM V i l ns) i nl = aboS V i nl := aboS_cg (fun j _ => ⟨comeM_o (by omega), comeM_o (by omega), comeM_o (by omega)⟩)
      unfold cB1
      rw [show 4 + 75 + 4 * i = 79 + 4 * i by omega, show 4 + 76 + 4 * i = 80 + 4 * i by omega]
      simp (disch := omega) only [ca, cm, ab, up2_n, up2_e]
      exact ⟨⟨a0, a1, a2, a3, a4, trivial, trivial⟩, b1, b2, b3, Or.inl ⟨trivial, ⟨l, by omega, rfl⟩, trivial⟩, w1⟩
    · rw [bW e he ne k hk]; simp (disch := omega) only [up2_n]
    · rw [bW e he ne k hk]; simp (disch := omega) only [up2_n]
section HC
variable {G : Gl} {R : Room} {F : Fn} {K : Int32 → Hp → Prop} {KV : Hp → Prop} {σ : Nat → Nat → Int32} {b : Bool}
theorem ct_X11_off {x : Int32} {q ns nb nl nt nr : Nat} (hR : RR σ 4 σ q ns nb nl nt nr) (h1 : ¬ (∃ i, i < nb ∧ x = nI i) → K (-1) (up2 σ 3 3 1, sh b)) (h3 : ∀ (i : Nat), i < nb → x = nI i → ¬ (σ 152 i = nI 3 ∧ ¬ (waterS σ (σ 153 i).toNatClampNeg (q / 96)).toInt < (draS σ i nl).toInt) → K (-1) (up2 σ 3 3 (nI 3), sh b)) (h2 : ∀ (i : Nat), i < nb → x = nI i → (σ 152 i = nI 3 ∧ ¬ (waterS σ (σ 153 i).toNatClampNeg (q / 96)).toInt < (draS σ i nl).toInt) → K (σ 154 i) (up2 (comeC σ i (σ 154 i).toNatClampNeg) 3 3 0, sh b)) : CM G mX11_off (rl 4) [.ref 3, .int x] (σ, sh b) (QI K) := by
  obtain ⟨⟨⟨hq2, hn10, hnb, hnl, hnt, hnr⟩, ⟨vq, vns, vnb, vnl, vnt, vnr⟩, ⟨rq, rns, rnb, rnl, rnt, rnr⟩, hpd⟩, hH, hC, hS, hLD, hB, hA, hT, hU⟩ := id hR
  refine CM.of (by decide) (Nat.le_of_ble_eq_true rfl) (cats1 rfl) ?_
  refine V_aload_n (pc := 0) d_X11_off_0 rfl ?_
  refine P_getR (pc := 1) d_X11_off_1 f_X11_10 (tt_3 b) (rr_3_0 b) ?_
  refine V_iload_n (pc := 4) d_X11_off_4 rfl ?_
  refine V_cvI (pc := 5) (n := 2) (c := 4) [_] d_X11_off_5 c_X11_136 k_X4_isBoat ⟨rfl, rfl⟩ (tt_4 b) rfl (Nat.le_of_ble_eq_true rfl) ⟨Nat.le_of_ble_eq_true rfl, Nat.le_of_ble_eq_true rfl⟩ ⟨Nat.le_refl _, Nat.le_refl _⟩ (ct_X4_isBoat rnb (by omega) ?_)
  refine V_if_ne (pc := 8) 17 d_X11_off_8 (by decide) (fun c8 => ?_) (fun c8 => ?_)
  · replace c8 := zt c8
    obtain ⟨i, hi, rfl, -⟩ := nat_of (n := nb) (x := x) (by omega) (by omega) (by omega)
    refine V_aload_n (pc := 17) d_X11_off_17 rfl ?_
    refine P_getR (pc := 18) d_X11_off_18 f_X11_10 (tt_3 b) (rr_3_0 b) ?_
    refine P_getR (pc := 21) d_X11_off_21 f_X11_113 (tt_4 b) (rr_4_12 b) ?_
    refine V_iload_n (pc := 24) d_X11_off_24 rfl ?_
    refine P_aald (pc := 25) (c := 2) (i) d_X11_off_25 (tt_9 b) (by decide) rfl (ln_of (ll_9 b) ⟨by omega, by decide⟩) (rB b (by omega)) ?_
    refine V_astore_n (pc := 26) d_X11_off_26 (by decide) ?_
    refine V_aload_n (pc := 27) d_X11_off_27 rfl ?_
    refine P_getI (pc := 28) d_X11_off_28 f_X11_142 (tB b (by omega)) ?_
    rw [(cB_f hB (by omega : i < nb)).2.2.2.2.2.1]
    refine V_iconst (pc := 31) (nI 3) d_X11_off_31 (by decide) ?_
    refine V_icmp_ne (pc := 32) 60 d_X11_off_32 (by decide) (fun c32 => ?_) (fun c32 => ?_)
    · refine V_aload_n (pc := 60) d_X11_off_60 rfl ?_
      refine V_iconst (pc := 61) (nI 3) d_X11_off_61 (by decide) ?_
      refine V_cvI (pc := 62) (n := 1) (c := 11) [_] d_X11_off_62 c_X11_55 k_X11_refused ⟨rfl, rfl⟩ (tt_3 b) rfl (Nat.le_of_ble_eq_true rfl) ⟨Nat.le_of_ble_eq_true rfl, Nat.le_of_ble_eq_true rfl⟩ ⟨Nat.le_refl _, Nat.le_refl _⟩ (ct_X11_refused ?_)
      exact V_retI (pc := 65) d_X11_off_65 rfl ⟨Nat.le_refl _, Nat.le_refl _⟩ (h3 i hi rfl (fun z => by first | exact absurd z.1 c32 | (have z2 := z.2; rw [ek, nI_clamp (by omega)] at z2; omega)))
    · obtain ⟨k, hk, ek⟩ : rg (σ 153 i) ns := by
        rcases (hB i hi).2.2.2.2.1 with z | z | z
        · rw [c32] at z; exact absurd z.1 (by decide)
        · rw [c32] at z; rcases z.1 with z | z <;> exact absurd z (by decide)
        · exact z.2.1
      obtain ⟨⟨l, hl, el⟩, e7⟩ : rg (σ 154 i) (ns + 1) ∧ σ (77 + 4 * i) 7 = σ 154 i := by
        rcases (hB i hi).2.2.2.2.1 with z | z | z
        · rw [c32] at z; exact absurd z.1 (by decide)
        · rw [c32] at z; rcases z.1 with z | z <;> exact absurd z (by decide)
        · exact ⟨z.2.2.2.1, z.2.2.2.2⟩
      refine V_aload_n (pc := 35) d_X11_off_35 rfl ?_
      refine V_cvI (pc := 36) (n := 2) (c := 2) [] d_X11_off_36 c_X11_156 k_X2_draught ⟨rfl, rfl⟩ (tB b (by omega)) rfl (Nat.le_of_ble_eq_true rfl) ⟨Nat.le_of_ble_eq_true rfl, Nat.le_of_ble_eq_true rfl⟩ ⟨Nat.le_refl _, Nat.le_refl _⟩ (ct_B_draught hB hi hnb ?_)
      refine V_aload_n (pc := 39) d_X11_off_39 rfl ?_
      refine P_getR (pc := 40) d_X11_off_40 f_X11_10 (tt_3 b) (rr_3_0 b) ?_
      refine V_aload_n (pc := 43) d_X11_off_43 rfl ?_
      refine P_getI (pc := 44) d_X11_off_44 f_X11_146 (tB b (by omega)) ?_
      rw [(cB_f hB (by omega : i < nb)).2.2.2.2.2.2]
      rw [ek]
      refine V_aload_n (pc := 47) d_X11_off_47 rfl ?_
      refine P_getR (pc := 48) d_X11_off_48 f_X11_10 (tt_3 b) (rr_3_0 b) ?_
      refine V_cvI (pc := 51) (n := 1) (c := 4) [] d_X11_off_51 c_X11_180 k_X4_today ⟨rfl, rfl⟩ (tt_4 b) rfl (Nat.le_of_ble_eq_true rfl) ⟨Nat.le_of_ble_eq_true rfl, Nat.le_of_ble_eq_true rfl⟩ ⟨Nat.le_refl _, Nat.le_refl _⟩ (ct_X4_today rq hq2 ?_)
      refine V_cvI (pc := 54) (n := 2) (c := 4) [_, _] d_X11_off_54 c_X11_183 k_X4_waterOn ⟨rfl, rfl⟩ (tt_4 b) rfl (Nat.le_of_ble_eq_true rfl) ⟨Nat.le_of_ble_eq_true rfl, Nat.le_of_ble_eq_true rfl⟩ ⟨Nat.le_refl _, Nat.le_refl _⟩ (ct_X4_waterOn hH hC hS (by omega) hn10 (by omega) ?_)
      refine B_icmp_le (pc := 57) 66 d_X11_off_57 (by decide) (fun c57 => ?_) (fun c57 => ?_)
      · refine V_aload_n (pc := 66) d_X11_off_66 rfl ?_
        refine P_getR (pc := 67) d_X11_off_67 f_X11_10 (tt_3 b) (rr_3_0 b) ?_
        refine V_aload_n (pc := 70) d_X11_off_70 rfl ?_
        refine V_aload_n (pc := 71) d_X11_off_71 rfl ?_
        refine P_getI (pc := 72) d_X11_off_72 f_X11_187 (tB b (by omega)) ?_
        rw [e7, el]
        refine V_cvV (pc := 75) (n := 3) (c := 4) [_, _] d_X11_off_75 c_X11_190 k_X4_comeTo ⟨rfl, rfl⟩ (tt_4 b) rfl (Nat.le_of_ble_eq_true rfl) ⟨Nat.le_of_ble_eq_true rfl, Nat.le_of_ble_eq_true rfl⟩ ⟨Nat.le_refl _, Nat.le_refl _⟩ (ct_X4_comeTo (by omega) (by omega : l < 11) ?_)
        refine V_aload_n (pc := 78) d_X11_off_78 rfl ?_
        refine V_aload_n (pc := 79) d_X11_off_79 rfl ?_
        refine P_getI (pc := 80) d_X11_off_80 f_X11_146 (tB b (by omega)) ?_
        rw [show comeC σ i l (77 + 4 * i) 6 = nI l from by rw [comeC, exC_o (by omega)]; exact up2_y]
        refine V_cvI (pc := 83) (n := 1) (c := 11) [_] d_X11_off_83 c_X11_72 k_X11_done ⟨rfl, rfl⟩ (tt_3 b) rfl (Nat.le_of_ble_eq_true rfl) ⟨Nat.le_of_ble_eq_true rfl, Nat.le_of_ble_eq_true rfl⟩ ⟨Nat.le_refl _, Nat.le_refl _⟩ (ct_X11_done ?_)
        exact V_retI (pc := 86) d_X11_off_86 rfl ⟨Nat.le_refl _, Nat.le_refl _⟩ (by have z := h2 i hi rfl; rw [ek, nI_clamp (by omega), el, nI_clamp (by omega)] at z; exact z ⟨c32, by omega⟩)
      · refine V_aload_n (pc := 60) d_X11_off_60 rfl ?_
        refine V_iconst (pc := 61) (nI 3) d_X11_off_61 (by decide) ?_
        refine V_cvI (pc := 62) (n := 1) (c := 11) [_] d_X11_off_62 c_X11_55 k_X11_refused ⟨rfl, rfl⟩ (tt_3 b) rfl (Nat.le_of_ble_eq_true rfl) ⟨Nat.le_of_ble_eq_true rfl, Nat.le_of_ble_eq_true rfl⟩ ⟨Nat.le_refl _, Nat.le_refl _⟩ (ct_X11_refused ?_)
        exact V_retI (pc := 65) d_X11_off_65 rfl ⟨Nat.le_refl _, Nat.le_refl _⟩ (h3 i hi rfl (fun z => by first | exact absurd z.1 c32 | (have z2 := z.2; rw [ek, nI_clamp (by omega)] at z2; omega)))
  · replace c8 := zf c8
    refine V_aload_n (pc := 11) d_X11_off_11 rfl ?_
    refine V_iconst (pc := 12) (1) d_X11_off_12 (by decide) ?_
    refine V_cvI (pc := 13) (n := 1) (c := 11) [_] d_X11_off_13 c_X11_55 k_X11_refused ⟨rfl, rfl⟩ (tt_3 b) rfl (Nat.le_of_ble_eq_true rfl) ⟨Nat.le_of_ble_eq_true rfl, Nat.le_of_ble_eq_true rfl⟩ ⟨Nat.le_refl _, Nat.le_refl _⟩ (ct_X11_refused ?_)
    exact V_retI (pc := 16) d_X11_off_16 rfl ⟨Nat.le_refl _, Nat.le_refl _⟩ (h1 (by
                        rintro ⟨i, gi, ei⟩
                        try subst ei
                        simp (disch := omega) only [nI_toInt, nI_eq] at *
                        omega))
theorem ct_X12_off {x : Int32} {ρ : Sg} {q ns nb nl nt nr : Nat} (hR : RR ρ 4 σ q ns nb nl nt nr) (h1 : ¬ (∃ i, i < nb ∧ x = nI i) → K (-1) (up2 σ 139 0 1, sh b)) (h3 : ∀ (i : Nat), i < nb → x = nI i → ¬ (σ 152 i = nI 3 ∧ ¬ (waterS σ (σ 153 i).toNatClampNeg (q / 96)).toInt < (draS σ i nl).toInt) → K (-1) (up2 σ 139 0 (nI 3), sh b)) (h2 : ∀ (i : Nat), i < nb → x = nI i → (σ 152 i = nI 3 ∧ ¬ (waterS σ (σ 153 i).toNatClampNeg (q / 96)).toInt < (draS σ i nl).toInt) → K (σ 154 i) (up2 (comeM σ i (σ 154 i).toNatClampNeg ns) 139 0 0, sh b)) : CM G mX12_off (rl 4) [.ref 139, .int x] (σ, sh b) (QI K) := by
  obtain ⟨⟨⟨hq2, hn10, hnb, hnl, hnt, hnr⟩, ⟨vq, vns, vnb, vnl, vnt, vnr⟩, ⟨rq, rns, rnb, rnl, rnt, rnr⟩, hpd⟩, hH, hC, hS, hLD, hB, hA, hT, hU⟩ := id hR
  refine CM.of (by decide) (Nat.le_of_ble_eq_true rfl) (cats1 rfl) ?_
  refine V_aload_n (pc := 0) d_X12_off_0 rfl ?_
  refine V_iload_n (pc := 1) d_X12_off_1 rfl ?_
  refine V_cvI (pc := 2) (n := 2) (c := 12) [_] d_X12_off_2 c_X12_238 k_X12_isBoat ⟨rfl, rfl⟩ (tt_139 b) rfl (Nat.le_of_ble_eq_true rfl) ⟨Nat.le_of_ble_eq_true rfl, Nat.le_of_ble_eq_true rfl⟩ ⟨Nat.le_refl _, Nat.le_refl _⟩ (ct_X12_isBoat vnb (by omega) ?_)
  refine V_if_ne (pc := 5) 14 d_X12_off_5 (by decide) (fun c5 => ?_) (fun c5 => ?_)
  · replace c5 := zt c5
    obtain ⟨i, hi, rfl, -⟩ := nat_of (n := nb) (x := x) (by omega) (by omega) (by omega)
    refine V_aload_n (pc := 14) d_X12_off_14 rfl ?_
    refine P_getR (pc := 15) d_X12_off_15 f_X12_47 (tt_139 b) (rr_139_16 b) ?_
    refine V_iload_n (pc := 18) d_X12_off_18 rfl ?_
    refine P_iald (pc := 19) (i) d_X12_off_19 (tt_152 b) rfl (ln_of (ll_152 b) ⟨by omega, by decide⟩) ?_
    refine V_iconst (pc := 20) (nI 3) d_X12_off_20 (by decide) ?_
    refine V_icmp_ne (pc := 21) 46 d_X12_off_21 (by decide) (fun c21 => ?_) (fun c21 => ?_)
    · refine V_aload_n (pc := 46) d_X12_off_46 rfl ?_
      refine V_iconst (pc := 47) (nI 3) d_X12_off_47 (by decide) ?_
      refine V_cvI (pc := 48) (n := 1) (c := 12) [_] d_X12_off_48 c_X12_187 k_X12_refused ⟨rfl, rfl⟩ (tt_139 b) rfl (Nat.le_of_ble_eq_true rfl) ⟨Nat.le_of_ble_eq_true rfl, Nat.le_of_ble_eq_true rfl⟩ ⟨Nat.le_refl _, Nat.le_refl _⟩ (ct_X12_refused ?_)
      exact V_retI (pc := 51) d_X12_off_51 rfl ⟨Nat.le_refl _, Nat.le_refl _⟩ (h3 i hi rfl (fun z => by first | exact absurd z.1 c21 | (have z2 := z.2; rw [ek, nI_clamp (by omega)] at z2; omega)))
    · obtain ⟨k, hk, ek⟩ : rg (σ 153 i) ns := by
        rcases (hB i hi).2.2.2.2.1 with z | z | z
        · rw [c21] at z; exact absurd z.1 (by decide)
        · rw [c21] at z; rcases z.1 with z | z <;> exact absurd z (by decide)
        · exact z.2.1
      obtain ⟨l, hl, el⟩ : rg (σ 154 i) (ns + 1) := by
        rcases (hB i hi).2.2.2.2.1 with z | z | z
        · rw [c21] at z; exact absurd z.1 (by decide)
        · rw [c21] at z; rcases z.1 with z | z <;> exact absurd z (by decide)
        · exact z.2.2.2.1
      refine V_aload_n (pc := 24) d_X12_off_24 rfl ?_
      refine V_iload_n (pc := 25) d_X12_off_25 rfl ?_
      refine V_cvI (pc := 26) (n := 2) (c := 12) [_] d_X12_off_26 c_X12_241 k_X12_draught ⟨rfl, rfl⟩ (tt_139 b) rfl (Nat.le_of_ble_eq_true rfl) ⟨Nat.le_of_ble_eq_true rfl, Nat.le_of_ble_eq_true rfl⟩ ⟨Nat.le_refl _, Nat.le_refl _⟩ (ct_X12_draught vnl hnl (by omega) ?_)
      refine V_aload_n (pc := 29) d_X12_off_29 rfl ?_
      refine V_aload_n (pc := 30) d_X12_off_30 rfl ?_
      refine P_getR (pc := 31) d_X12_off_31 f_X12_50 (tt_139 b) (rr_139_17 b) ?_
      refine V_iload_n (pc := 34) d_X12_off_34 rfl ?_
      refine P_iald (pc := 35) (i) d_X12_off_35 (tt_153 b) rfl (ln_of (ll_153 b) ⟨by omega, by decide⟩) ?_
      rw [ek]
      refine V_aload_n (pc := 36) d_X12_off_36 rfl ?_
      refine V_cvI (pc := 37) (n := 1) (c := 12) [] d_X12_off_37 c_X12_218 k_X12_today ⟨rfl, rfl⟩ (tt_139 b) rfl (Nat.le_of_ble_eq_true rfl) ⟨Nat.le_of_ble_eq_true rfl, Nat.le_of_ble_eq_true rfl⟩ ⟨Nat.le_refl _, Nat.le_refl _⟩ (ct_X12_today vq hq2 ?_)
      refine V_cvI (pc := 40) (n := 3) (c := 12) [_, _] d_X12_off_40 c_X12_215 k_X12_waterOf ⟨rfl, rfl⟩ (tt_139 b) rfl (Nat.le_of_ble_eq_true rfl) ⟨Nat.le_of_ble_eq_true rfl, Nat.le_of_ble_eq_true rfl⟩ ⟨Nat.le_refl _, Nat.le_refl _⟩ (ct_X12_waterOf hH hC hS (by omega) hn10 (by omega) ?_)
      refine B_icmp_le (pc := 43) 52 d_X12_off_43 (by decide) (fun c43 => ?_) (fun c43 => ?_)
      · refine V_aload_n (pc := 52) d_X12_off_52 rfl ?_
        refine V_iload_n (pc := 53) d_X12_off_53 rfl ?_
        refine V_aload_n (pc := 54) d_X12_off_54 rfl ?_
        refine P_getR (pc := 55) d_X12_off_55 f_X12_53 (tt_139 b) (rr_139_18 b) ?_
        refine V_iload_n (pc := 58) d_X12_off_58 rfl ?_
        refine P_iald (pc := 59) (i) d_X12_off_59 (tt_154 b) rfl (ln_of (ll_154 b) ⟨by omega, by decide⟩) ?_
        rw [el]
        refine V_cvV (pc := 60) (n := 2) (c := 12) [_, _] d_X12_off_60 c_X12_257 k_X12_comes ⟨rfl, rfl⟩ (tt_139 b) rfl (Nat.le_of_ble_eq_true rfl) ⟨Nat.le_of_ble_eq_true rfl, Nat.le_of_ble_eq_true rfl⟩ ⟨Nat.le_refl _, Nat.le_refl _⟩ (ct_X12_comes (by omega) (by omega : l < 11) hn10 vns ?_)
        refine V_aload_n (pc := 63) d_X12_off_63 rfl ?_
        refine V_aload_n (pc := 64) d_X12_off_64 rfl ?_
        refine P_getR (pc := 65) d_X12_off_65 f_X12_50 (tt_139 b) (rr_139_17 b) ?_
        refine V_iload_n (pc := 68) d_X12_off_68 rfl ?_
        refine P_iald (pc := 69) (i) d_X12_off_69 (tt_153 b) rfl (ln_of (ll_153 b) ⟨by omega, by decide⟩) ?_
        rw [show comeM σ i l ns 153 i = nI l from by rw [comeM, exM_a (by omega), up2_n (by omega)]; exact up2_y]
        refine V_cvI (pc := 70) (n := 1) (c := 12) [_] d_X12_off_70 c_X12_191 k_X12_done ⟨rfl, rfl⟩ (tt_139 b) rfl (Nat.le_of_ble_eq_true rfl) ⟨Nat.le_of_ble_eq_true rfl, Nat.le_of_ble_eq_true rfl⟩ ⟨Nat.le_refl _, Nat.le_refl _⟩ (ct_X12_done ?_)
        exact V_retI (pc := 73) d_X12_off_73 rfl ⟨Nat.le_refl _, Nat.le_refl _⟩ (by have z := h2 i hi rfl; rw [ek, nI_clamp (by omega), el, nI_clamp (by omega)] at z; exact z ⟨c21, by omega⟩)
      · refine V_aload_n (pc := 46) d_X12_off_46 rfl ?_
        refine V_iconst (pc := 47) (nI 3) d_X12_off_47 (by decide) ?_
        refine V_cvI (pc := 48) (n := 1) (c := 12) [_] d_X12_off_48 c_X12_187 k_X12_refused ⟨rfl, rfl⟩ (tt_139 b) rfl (Nat.le_of_ble_eq_true rfl) ⟨Nat.le_of_ble_eq_true rfl, Nat.le_of_ble_eq_true rfl⟩ ⟨Nat.le_refl _, Nat.le_refl _⟩ (ct_X12_refused ?_)
        exact V_retI (pc := 51) d_X12_off_51 rfl ⟨Nat.le_refl _, Nat.le_refl _⟩ (h3 i hi rfl (fun z => by first | exact absurd z.1 c21 | (have z2 := z.2; rw [ek, nI_clamp (by omega)] at z2; omega)))
  · replace c5 := zf c5
    refine V_aload_n (pc := 8) d_X12_off_8 rfl ?_
    refine V_iconst (pc := 9) (1) d_X12_off_9 (by decide) ?_
    refine V_cvI (pc := 10) (n := 1) (c := 12) [_] d_X12_off_10 c_X12_187 k_X12_refused ⟨rfl, rfl⟩ (tt_139 b) rfl (Nat.le_of_ble_eq_true rfl) ⟨Nat.le_of_ble_eq_true rfl, Nat.le_of_ble_eq_true rfl⟩ ⟨Nat.le_refl _, Nat.le_refl _⟩ (ct_X12_refused ?_)
    exact V_retI (pc := 13) d_X12_off_13 rfl ⟨Nat.le_refl _, Nat.le_refl _⟩ (h1 (by
                        rintro ⟨i, gi, ei⟩
                        try subst ei
                        simp (disch := omega) only [nI_toInt, nI_eq] at *
                        omega))
theorem pr_off {x : Int32}  (h : Rel σ b)  : PR G mX11_off mX12_off 4 4 [.int x] σ b := by
  have h0 := h
  obtain ⟨q, ns, nb, nl, nt, nr, hR, hX, hP, hQ, hK⟩ := h
  have hbd := hR.1.1
  refine ct_X11_off hR  (fun hv => ?_) (fun i hi ei hv => ?_) (fun i hi ei hv => ?_)
  · exact ⟨rfl, ct_X12_off (RR_lo hR (fun a i _ _ => by simp (disch := omega) only [up2_n, filr_n, film_n]))  (fun _ => ⟨rfl, _, rfl, rel_ref h0⟩) (fun i hi ei _ => absurd ⟨i, hi, ei⟩ hv) (fun i hi ei _ => absurd ⟨i, hi, ei⟩ hv)⟩
  · refine ⟨rfl, ct_X12_off (RR_lo hR (fun a i _ _ => by simp (disch := omega) only [up2_n, filr_n, film_n]))  (fun hv => absurd ⟨i, hi, ei⟩ hv) (fun i' hi' ei' hv' => ?_) (fun i' hi' ei' hv' => ?_)⟩
    · obtain rfl : i' = i := (nI_eq (by omega) (by omega)).mp (ei'.symm.trans ei)
      exact ⟨rfl, _, rfl, rel_ref h0⟩
    · obtain rfl : i' = i := (nI_eq (by omega) (by omega)).mp (ei'.symm.trans ei)
      simp (disch := omega) only [up2_n] at hv'
      rw [waterS_ag (τ := (up2 σ 3 3 (nI 3))) (σ := σ) (fun a i _ _ => by simp (disch := omega) only [up2_n]), draS_ag (τ := (up2 σ 3 3 (nI 3))) (σ := σ) (fun a i _ _ => by simp (disch := omega) only [up2_n])] at hv'
      first | exact absurd hv hv' | exact absurd hv' hv
  · have hB := hR.2.2.2.2.2.1
    obtain ⟨k, hk, ek⟩ : rg (σ 153 i) ns := by
      rcases (hB i hi).2.2.2.2.1 with z | z | z
      · rw [hv.1] at z; exact absurd z.1 (by decide)
      · rw [hv.1] at z; rcases z.1 with z | z <;> exact absurd z (by decide)
      · exact z.2.1
    obtain ⟨⟨l, hl, el⟩, e7⟩ : rg (σ 154 i) (ns + 1) ∧ σ (77 + 4 * i) 7 = σ 154 i := by
      rcases (hB i hi).2.2.2.2.1 with z | z | z
      · rw [hv.1] at z; exact absurd z.1 (by decide)
      · rw [hv.1] at z; rcases z.1 with z | z <;> exact absurd z (by decide)
      · exact ⟨z.2.2.2.1, z.2.2.2.2⟩
    rw [el, nI_clamp (by omega)]
    have RC := RR_come hR hi (by omega : l ≤ ns)
    refine ⟨rfl, ct_X12_off (RR_lo hR (fun a k _ _ => by rw [up2_n (by omega), comeC_o (by omega)]))  (fun hv => absurd ⟨i, hi, ei⟩ hv) (fun i' hi' ei' hv' => ?_) (fun i' hi' ei' hv' => ?_)⟩
    · obtain rfl : i' = i := (nI_eq (by omega) (by omega)).mp (ei'.symm.trans ei)
      have ag : ∀ a k, 139 ≤ a → a < 192 → up2 (comeC σ i' l) 3 3 0 a k = σ a k := fun a k _ _ => by rw [up2_n (by omega), comeC_o (by omega)]
      simp (disch := omega) only [ag] at hv'
      rw [waterS_ag ag, draS_ag ag] at hv'
      exact absurd hv hv'
    · obtain rfl : i' = i := (nI_eq (by omega) (by omega)).mp (ei'.symm.trans ei)
      obtain ⟨hcn, hH, hC, hS, hLD, hB, hA, hT, hU⟩ := id hR
      have hbd := hcn.1
      have ag : ∀ a k, 139 ≤ a → a < 192 → up2 (comeC σ i' l) 3 3 0 a k = σ a k := fun a k _ _ => by rw [up2_n (by omega), comeC_o (by omega)]
      rw [ag 154 _ (by omega) (by omega), el, nI_clamp (by omega)]
      refine ⟨rfl, _, rfl, ?_⟩
      have m0 : ∀ a k, ¬ (139 ≤ a ∧ a < 192) → up2 (comeM (up2 (comeC σ i' l) 3 3 0) i' l ns) 139 0 0 a k = up2 (comeC σ i' l) 3 3 0 a k := fun a k ha => by rw [up2_n (by omega), comeM_o (by omega)]
      have m1 : ∀ a k, 139 ≤ a → a < 192 → ¬ (a = 139 ∧ k = 0) → up2 (comeM (up2 (comeC σ i' l) 3 3 0) i' l ns) 139 0 0 a k = comeM σ i' l ns a k := fun a k h1 h2 h3 => by rw [up2_n h3, comeM_ag ag _ _ h1 h2]
      exact ⟨q, ns, nb, nl, nt, nr, RR_cg RC (fun a k h1 h2 => by rw [m0 _ _ (by omega), up2_n (by omega)]) (fun a k hk => m1 _ _ (by omega) (by omega) (by omega)),
        cX_cg hX (by rw [up2_y, m0 _ _ (by omega), up2_y]) ⟨by rw [m0 _ _ (by omega), up2_n (by omega), comeC_o (by omega)], by rw [m1 _ _ (by omega) (by omega) (by omega), comeM_o (by omega)]⟩,
        cP_cg hP ⟨by rw [m0 _ _ (by omega), up2_n (by omega), comeC_o (by omega)], by rw [m1 _ _ (by omega) (by omega) (by omega), comeM_o (by omega)]⟩ (fun j _ => ⟨by rw [m0 _ _ (by omega), up2_n (by omega), comeC_o (by omega)], by rw [m1 _ _ (by omega) (by omega) (by omega), comeM_o (by omega)]⟩),
        cQ_cg hQ (fun a k hk => by
          rcases hk with hk | hk
          · rw [m0 _ _ (by omega), up2_n (by omega), comeC_o (by omega)]
          · rw [m1 _ _ (by omega) (by omega) (by omega), comeM_o (by omega)]),
        cK_cg hK (by rw [m1 _ _ (by omega) (by omega) (by omega), comeM_o (by omega)]) (fun a k hk => by
          rcases hk with hk | hk
          · rw [m0 _ _ (by omega), up2_n (by omega), comeC_o (by omega)]
          · rw [m1 _ _ (by omega) (by omega) (by omega), comeM_o (by omega)]) (fun a k hk => by rw [m1 _ _ (by omega) (by omega) (by omega), comeM_o (by omega)]) (by omega) (by omega) (by omega) (by omega) (by omega)⟩
end HC
