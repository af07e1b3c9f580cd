section HC
variable {G : Gl} {R : Room} {F : Fn} {K : Int32 → Hp → Prop} {KV : Hp → Prop} {σ : Nat → Nat → Int32} {b : Bool}
theorem ct_X11_image_t (hk : ∀ σ1 κ : Sg, (∀ a j, a < 192 → σ1 a j = σ a j) → CPI σ1 κ 192 4 119 → K 1 (up2 κ 3 3 0, sh true)) : CM G mX11_image (rm 5 119 1862) [.ref 3] (σ, sh true) (QI K) := by
  refine CM.of (by decide) (Nat.le_of_ble_eq_true rfl) (cats1 rfl) ?_
  have hs : ∀ a j, a < 192 → σ a j = σ a j := fun _ _ _ => rfl
  refine V_aload_n (pc := 0) d_X11_image_0 rfl ?_
  refine P_getR (pc := 1) d_X11_image_1 f_X11_16 (tt_3 true) (show (sh true).1 3 1 = some 192 from rfl) ?_
  refine V_ifnonnull (pc := 4) 18 d_X11_image_4 (by decide) ?_
  refine V_hr (P := ∀ j, j < 10 → zo (σ (4 + (9 + 2 * j)) 4)) (fun H hH j hj => hH.z7 (uTS (RV4 true) hj)) (fun hz => ?_)
  refine V_aload_n (pc := 18) d_X11_image_18 rfl ?_
  refine P_getR (pc := 19) d_X11_image_19 f_X11_16 (tt_3 true) (show (sh true).1 3 1 = some 192 from rfl) ?_
  refine V_aload_n (pc := 22) d_X11_image_22 rfl ?_
  refine P_getR (pc := 23) d_X11_image_23 f_X11_10 (tt_3 true) (rr_3_0 true) ?_
  refine V_cvV (pc := 26) (n := 4) (c := 4) [_] d_X11_image_26 c_X11_237 k_X4_copyFrom ⟨rfl, rfl⟩ (uT0 RV192 (i := 0) (by decide)) rfl (Nat.le_of_ble_eq_true rfl) ⟨Nat.le_of_ble_eq_true rfl, Nat.le_of_ble_eq_true rfl⟩ ⟨by decide, by decide⟩ (ct_X4_copyFrom RV192 (RV4 true) (Or.inr (by decide)) (fun j hj τ hτ => by rw [hτ _ _ (by omega)]; exact hz j hj) (fun κ g => ?_))
  refine V_aload_n (pc := 29) d_X11_image_29 rfl ?_
  refine V_iconst (pc := 30) (1) d_X11_image_30 (by decide) ?_
  refine V_cvI (pc := 31) (n := 1) (c := 11) [_] d_X11_image_31 c_X11_72 k_X11_done ⟨rfl, rfl⟩ (tt_3 true) rfl (Nat.le_of_ble_eq_true rfl) ⟨Nat.le_of_ble_eq_true rfl, Nat.le_of_ble_eq_true rfl⟩ ⟨by decide, by decide⟩ (ct_X11_done ?_)
  exact V_retI (pc := 34) d_X11_image_34 rfl ⟨by decide, by decide⟩ (hk _ κ hs g)
theorem ct_X11_image_f (hk : ∀ σ1 κ : Sg, (∀ a j, a < 192 → σ1 a j = σ a j) → CPI σ1 κ 192 4 119 → K 1 (up2 κ 3 3 0, sh true)) : CM G mX11_image (rm 5 119 1862) [.ref 3] (σ, sh false) (QI K) := by
  refine CM.of (by decide) (Nat.le_of_ble_eq_true rfl) (cats1 rfl) ?_
  obtain ⟨σ1, e1⟩ : ∃ σ1 : Sg, σ1 = fun a j => if 192 ≤ a then rI (a - 192) j else σ a j := ⟨_, rfl⟩
  have hs : ∀ a j, a < 192 → σ1 a j = σ a j := fun a j ha => by rw [e1]; exact if_neg (by omega)
  have hI : RI σ1 192 := fun o ho j => by
    rw [e1]
    show (if 192 ≤ 192 + o then rI (192 + o - 192) j else σ (192 + o) j) = _
    rw [if_pos (by omega), Nat.add_sub_cancel_left]
  refine V_wk (h' := (σ1, stg 192 [])) (fun H hH => by
    rw [sh_stg_f] at hH
    refine HR_row (fun k hk => ?_) hH
    have hk2 : k < 192 := Classical.byContradiction fun w => hk (if_neg w)
    exact funext fun j => hs k j hk2) ?_
  refine V_aload_n (pc := 0) d_X11_image_0 rfl ?_
  refine P_getQ (pc := 1) d_X11_image_1 f_X11_16 (stg_T (by decide) (by decide +kernel : TF 3 = 12)) ?_
  rw [show (stg 192 []).1 3 1 = none from (stg_r (by decide +kernel : RF 3 1 = some 192)).trans (if_neg (by omega))]
  show V G mX11_image (rm 5 119 1862) _ 0 0 4 _ [.null] _
  refine V_ifnonnullN (pc := 4) d_X11_image_4 ?_
  refine V_aload_n (pc := 7) d_X11_image_7 rfl ?_
  refine S_newC0 (pc := 8) (c := 4) 193 d_X11_image_8 rfl g_X11_7 n_X4 z_X4 (by constructor <;> simp only [rm] <;> omega) (jc0 (r := 192) (Or.inr rfl) (i := 0) (by decide)).1 (jc0 (r := 192) (Or.inr rfl) (i := 0) (by decide)).2 rfl (RI_z hI 0 rfl (by decide) (by decide) (by decide)) ?_
  refine V_dup (pc := 11) d_X11_image_11 rfl ?_
  refine V_ciV (pc := 12) d_X11_image_12 c_X11_9 k_X4_init ⟨rfl, rfl⟩ (Nat.le_of_ble_eq_true rfl) ⟨Nat.le_of_ble_eq_true rfl, Nat.le_of_ble_eq_true rfl⟩ (by constructor <;> simp only [rm] <;> omega) (ct_X4_init (r := 192) (U := []) (Or.inr rfl) hI (fun u hu => absurd hu List.not_mem_nil) ?_)
  refine S_put (pc := 15) d_X11_image_15 f_X11_16 (fun h => by cases h) (by decide +kernel : TF 3 = 12) (by omega) ⟨tyX11 1, tyX11_ok 1 (by decide), Or.inl ⟨_, rfl⟩⟩ (by decide +kernel : RF 3 1 = some 192) (by omega) List.not_mem_nil ?_
  rw [show stg (192 + 119) [] = sh true from sh_stg_t.symm]
  refine V_hr (P := ∀ j, j < 10 → zo (σ1 (4 + (9 + 2 * j)) 4)) (fun H hH j hj => hH.z7 (uTS (RV4 true) hj)) (fun hz => ?_)
  refine V_aload_n (pc := 18) d_X11_image_18 rfl ?_
  refine P_getR (pc := 19) d_X11_image_19 f_X11_16 (tt_3 true) (show (sh true).1 3 1 = some 192 from rfl) ?_
  refine V_aload_n (pc := 22) d_X11_image_22 rfl ?_
  refine P_getR (pc := 23) d_X11_image_23 f_X11_10 (tt_3 true) (rr_3_0 true) ?_
  refine V_cvV (pc := 26) (n := 4) (c := 4) [_] d_X11_image_26 c_X11_237 k_X4_copyFrom ⟨rfl, rfl⟩ (uT0 RV192 (i := 0) (by decide)) rfl (Nat.le_of_ble_eq_true rfl) ⟨Nat.le_of_ble_eq_true rfl, Nat.le_of_ble_eq_true rfl⟩ ⟨by decide, by decide⟩ (ct_X4_copyFrom RV192 (RV4 true) (Or.inr (by decide)) (fun j hj τ hτ => by rw [hτ _ _ (by omega)]; exact hz j hj) (fun κ g => ?_))
  refine V_aload_n (pc := 29) d_X11_image_29 rfl ?_
  refine V_iconst (pc := 30) (1) d_X11_image_30 (by decide) ?_
  refine V_cvI (pc := 31) (n := 1) (c := 11) [_] d_X11_image_31 c_X11_72 k_X11_done ⟨rfl, rfl⟩ (tt_3 true) rfl (Nat.le_of_ble_eq_true rfl) ⟨Nat.le_of_ble_eq_true rfl, Nat.le_of_ble_eq_true rfl⟩ ⟨by decide, by decide⟩ (ct_X11_done ?_)
  exact V_retI (pc := 34) d_X11_image_34 rfl ⟨by decide, by decide⟩ (hk _ κ hs g)
def PRI (G : Gl) (σ : Sg) (b : Bool) : Prop := CM G mX11_image (rm 5 119 1862) [.ref 3] (σ, sh b) (QI (fun r h1 => h1.2 = sh true ∧ CM G mX12_image (rl 2) [.ref 139] h1 (QI (fun r' h2 => r' = r ∧ ∃ σ', h2 = (σ', sh true) ∧ Rel σ' true))))
theorem pr_image (h : Rel σ b) : PRI G σ b := by
  obtain ⟨q, ns, nb, nl, nt, nr, hR, hX, hP, hQ, hK⟩ := h
  have hbd := hR.1.1
  have key : ∀ σ1 κ : Sg, (∀ a j, a < 192 → σ1 a j = σ a j) → CPI σ1 κ 192 4 119 → (up2 κ 3 3 0, sh true).2 = sh true ∧ CM G mX12_image (rl 2) [.ref 139] (up2 κ 3 3 0, sh true) (QI (fun r' h2 => r' = 1 ∧ ∃ σ', h2 = (σ', sh true) ∧ Rel σ' true)) := fun σ1 κ hs hκ => by
    have kO : ∀ a i, a < 192 → ¬ (a = 3 ∧ i = 3) → up2 κ 3 3 0 a i = σ a i := fun a i g1 g2 => by rw [up2_n (by omega), hκ.1 a i (by omega), hs a i g1]
    refine ⟨rfl, ct_X12_image (fun τ hτ => ?_)⟩
    generalize hω : up2 (up2 τ 139 44 1) 139 0 0 = ω
    have w1 : ∀ a i, ¬ (a = 139 ∧ (i = 0 ∨ i = 44)) → ω a i = τ a i := fun a i g => by rw [← hω, up2_n (by omega), up2_n (by omega)]
    have w2 : ∀ a i, ¬ (a = 139 ∧ (i = 0 ∨ i = 44)) → ¬ (175 ≤ a ∧ a ≤ 186) → a < 192 → ¬ (a = 3 ∧ i = 3) → ω a i = σ a i := fun a i g1 g2 g3 g4 => by rw [w1 a i g1, hτ.1 a i g2, kO a i g3 g4]
    refine ⟨rfl, ω, rfl, q, ns, nb, nl, nt, nr, RR_cg hR (fun a i _ _ => w2 a i (by omega) (by omega) (by omega) (by omega)) (fun a i ha => w2 a i (by omega) (by omega) (by omega) (by omega)), cX_cg hX ?_ ⟨w2 _ _ (by omega) (by omega) (by omega) (by omega), w2 _ _ (by omega) (by omega) (by omega) (by omega)⟩, cP_cg hP ⟨w2 _ _ (by omega) (by omega) (by omega) (by omega), w2 _ _ (by omega) (by omega) (by omega) (by omega)⟩ (fun j _ => ⟨w2 _ _ (by omega) (by omega) (by omega) (by omega), w2 _ _ (by omega) (by omega) (by omega) (by omega)⟩), cQ_cg hQ (fun a i g => w2 a i (by omega) (by omega) (by omega) (by omega)), ⟨fun e => (by cases e), fun _ => ⟨?_, q, ns, nb, nl, nt, nr, Nat.le_refl _, Nat.le_refl _, Nat.le_refl _, Nat.le_refl _, Nat.le_refl _, RR_mv hR (fun o j ho hj => ?_) (im_view (σ := σ) (fun a i g1 g2 => kO a i g2 (by omega)) hτ (fun a i g => w1 a i (by omega)))⟩⟩⟩
    · rw [w1 3 3 (by omega), hτ.1 3 3 (by omega), up2_y, ← hω, up2_y]
    · rw [← hω, up2_n (by omega), up2_y]
    · rw [w1 _ _ (by omega), hτ.1 _ _ (by omega), up2_n (by omega), hκ.2 o j ho hj, hs _ _ (by omega)]
  cases b with
  | false => exact ct_X11_image_f key
  | true => exact ct_X11_image_t key
end HC
