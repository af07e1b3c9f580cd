theorem up2_n {α : Type} {f : Nat → Nat → α} {a i b j : Nat} {x : α} (h : ¬ (b = a ∧ j = i)) : up2 f a i x b j = f b j := by
  simp [up2, h]
theorem up2_y {α : Type} {f : Nat → Nat → α} {a i : Nat} {x : α} : up2 f a i x a i = x := by simp [up2]
/-- the pair: class and reference answer alike, and what they have in common stays -/
def PR (G : Gl) (Y1 Y2 : MI) (n1 n2 : Nat) (as : List Value) (σ : Sg) (b : Bool) : Prop :=
  CM G Y1 (rl n1) (.ref 3 :: as) (σ, sh b) (QI (fun r h1 => h1.2 = sh b ∧ CM G Y2 (rl n2) (.ref 139 :: as) h1 (QI (fun r' h2 => r' = r ∧ ∃ σ', h2 = (σ', sh b) ∧ Rel σ' b))))
theorem rel_ref {σ : Sg} {b : Bool} {v : Int32} (h : Rel σ b) : Rel (up2 (up2 σ 3 3 v) 139 0 v) b := by
  obtain ⟨q, ns, nb, nl, nt, nr, hR, hX, hP, hQ, hK⟩ := h
  obtain ⟨hcn, hH, hC, hS, hLD, hB, hA, hT, hU⟩ := id hR
  have hbd := hcn.1
  exact ⟨q, ns, nb, nl, nt, nr, ⟨cCnt_cg hcn (fun i _ _ => (by rw [up2_n (by omega), up2_n (by omega)])) (fun i _ => (by rw [up2_n (by omega), up2_n (by omega)])), cH_cg hH (by rw [up2_n (by omega), up2_n (by omega)]) (fun d _ => (by rw [up2_n (by omega), up2_n (by omega)])) (fun d _ => ⟨(by rw [up2_n (by omega), up2_n (by omega)]), (by rw [up2_n (by omega), up2_n (by omega)])⟩), cC_cg hC (fun d _ => (by rw [up2_n (by omega), up2_n (by omega)])) (fun d _ => (by rw [up2_n (by omega), up2_n (by omega)])), cS_cg hS (fun k _ => ⟨fun j => (by rw [up2_n (by omega), up2_n (by omega)]), fun d _ => (by rw [up2_n (by omega), up2_n (by omega)])⟩) (fun k _ => ⟨(by rw [up2_n (by omega), up2_n (by omega)]), (by rw [up2_n (by omega), up2_n (by omega)]), (by rw [up2_n (by omega), up2_n (by omega)]), (by rw [up2_n (by omega), up2_n (by omega)])⟩) (fun i _ => ⟨(by rw [up2_n (by omega), up2_n (by omega)]), (by rw [up2_n (by omega), up2_n (by omega)])⟩), cL_cg hLD (fun l _ => ⟨(by rw [up2_n (by omega), up2_n (by omega)]), fun k _ => ⟨(by rw [up2_n (by omega), up2_n (by omega)]), (by rw [up2_n (by omega), up2_n (by omega)])⟩⟩) (fun l _ => (by rw [up2_n (by omega), up2_n (by omega)])) (fun m _ _ => ⟨(by rw [up2_n (by omega), up2_n (by omega)]), (by rw [up2_n (by omega), up2_n (by omega)])⟩), cB_cg hB (fun i _ => ⟨fun j => (by rw [up2_n (by omega), up2_n (by omega)]), fun k _ => ⟨(by rw [up2_n (by omega), up2_n (by omega)]), (by rw [up2_n (by omega), up2_n (by omega)])⟩⟩) (fun i _ a _ _ => (by rw [up2_n (by omega), up2_n (by omega)])) (fun m _ => ⟨(by rw [up2_n (by omega), up2_n (by omega)]), (by rw [up2_n (by omega), up2_n (by omega)])⟩) (fun j _ => ⟨(by rw [up2_n (by omega), up2_n (by omega)]), (by rw [up2_n (by omega), up2_n (by omega)]), (by rw [up2_n (by omega), up2_n (by omega)])⟩), cA_cg hA (fun j _ i => (by rw [up2_n (by omega), up2_n (by omega)])) (fun j _ a _ _ => (by rw [up2_n (by omega), up2_n (by omega)])), cT_cg hT (fun j _ i => (by rw [up2_n (by omega), up2_n (by omega)])) (fun j _ a _ _ => (by rw [up2_n (by omega), up2_n (by omega)])), cU_cg hU (fun j _ i => (by rw [up2_n (by omega), up2_n (by omega)])) (fun j _ a _ _ => (by rw [up2_n (by omega), up2_n (by omega)]))⟩, cX_cg hX (by simp [up2]) ⟨(by rw [up2_n (by omega), up2_n (by omega)]), (by rw [up2_n (by omega), up2_n (by omega)])⟩, cP_cg hP ⟨(by rw [up2_n (by omega), up2_n (by omega)]), (by rw [up2_n (by omega), up2_n (by omega)])⟩ (fun j _ => ⟨(by rw [up2_n (by omega), up2_n (by omega)]), (by rw [up2_n (by omega), up2_n (by omega)])⟩), cQ_cg hQ (fun a i _ => (by rw [up2_n (by omega), up2_n (by omega)])), cK_cg hK (by rw [up2_n (by omega), up2_n (by omega)]) (fun a i _ => (by rw [up2_n (by omega), up2_n (by omega)])) (fun a i _ => (by rw [up2_n (by omega), up2_n (by omega)])) (by omega) (by omega) (by omega) (by omega) (by omega)⟩
/-- the view of the reference is not touched by the class -/
theorem RR_lo {σ σ1 : Sg} {q ns nb nl nt nr : Nat} (h : RR σ 4 σ q ns nb nl nt nr) (hs : ∀ a i, 139 ≤ a → a < 192 → σ1 a i = σ a i) : RR σ 4 σ1 q ns nb nl nt nr := by
  have hb := h.1.1
  exact RR_cg h (fun _ _ _ _ => rfl) (fun a i _ => hs a i (by omega) (by omega))
section HC
variable {G : Gl} {R : Room} {F : Fn} {K : Int32 → Hp → Prop} {KV : Hp → Prop} {σ : Nat → Nat → Int32} {b : Bool}
theorem pr_height {x : Int32} (h : Rel σ b) : PR G mX11_height mX12_height 3 3 [.int x] σ b := by
  obtain ⟨q, ns, nb, nl, nt, nr, hR, hX, hP, hQ, hK⟩ := h
  exact ct_X11_height hR (⟨rfl, ct_X12_height hR ⟨rfl, σ, rfl, q, ns, nb, nl, nt, nr, hR, hX, hP, hQ, hK⟩⟩)
theorem pr_water {x y : Int32} (h : Rel σ b) : PR G mX11_water mX12_water 3 4 [.int x, .int y] σ b := by
  obtain ⟨q, ns, nb, nl, nt, nr, hR, hX, hP, hQ, hK⟩ := h
  exact ct_X11_water hR (⟨rfl, ct_X12_water hR ⟨rfl, σ, rfl, q, ns, nb, nl, nt, nr, hR, hX, hP, hQ, hK⟩⟩)
theorem pr_why {x y : Int32} (h : Rel σ b) : PR G mX11_why mX12_why 5 5 [.int x, .int y] σ b := by
  obtain ⟨q, ns, nb, nl, nt, nr, hR, hX, hP, hQ, hK⟩ := h
  exact ct_X11_why hR (⟨rfl, ct_X12_why hR ⟨rfl, σ, rfl, q, ns, nb, nl, nt, nr, hR, hX, hP, hQ, hK⟩⟩)
theorem pr_knows {x y z : Int32} (h : Rel σ b) : PR G mX11_knows mX12_knows 3 3 [.int x, .int y, .int z] σ b := by
  obtain ⟨q, ns, nb, nl, nt, nr, hR, hX, hP, hQ, hK⟩ := h
  exact ct_X11_knows hR (⟨rfl, ct_X12_knows hR ⟨rfl, σ, rfl, q, ns, nb, nl, nt, nr, hR, hX, hP, hQ, hK⟩⟩)
theorem pr_box {x y z : Int32} (h : Rel σ b) : PR G mX11_box mX12_box 3 3 [.int x, .int y, .int z] σ b := by
  obtain ⟨q, ns, nb, nl, nt, nr, hR, hX, hP, hQ, hK⟩ := h
  exact ct_X11_box hR (⟨rfl, ct_X12_box hR ⟨rfl, σ, rfl, q, ns, nb, nl, nt, nr, hR, hX, hP, hQ, hK⟩⟩)
theorem pr_stretchTold {x z : Int32} (h : Rel σ b) : PR G mX11_stretchTold mX12_stretchTold 4 3 [.int x, .int z] σ b := by
  obtain ⟨q, ns, nb, nl, nt, nr, hR, hX, hP, hQ, hK⟩ := h
  exact ct_X11_stretchTold hR (⟨rfl, ct_X12_stretchTold hR ⟨rfl, σ, rfl, q, ns, nb, nl, nt, nr, hR, hX, hP, hQ, hK⟩⟩)
theorem pr_boatTold {x z : Int32} (h : Rel σ b) : PR G mX11_boatTold mX12_boatTold 3 3 [.int x, .int z] σ b := by
  obtain ⟨q, ns, nb, nl, nt, nr, hR, hX, hP, hQ, hK⟩ := h
  exact ct_X11_boatTold hR (⟨rfl, ct_X12_boatTold hR ⟨rfl, σ, rfl, q, ns, nb, nl, nt, nr, hR, hX, hP, hQ, hK⟩⟩)
theorem pr_baleTold {x z : Int32} (h : Rel σ b) : PR G mX11_baleTold mX12_baleTold 3 3 [.int x, .int z] σ b := by
  obtain ⟨q, ns, nb, nl, nt, nr, hR, hX, hP, hQ, hK⟩ := h
  exact ct_X11_baleTold hR (⟨rfl, ct_X12_baleTold hR ⟨rfl, σ, rfl, q, ns, nb, nl, nt, nr, hR, hX, hP, hQ, hK⟩⟩)
theorem pr_status (h : Rel σ b) : PR G mX11_status mX12_status 1 1 [] σ b := by
  obtain ⟨q, ns, nb, nl, nt, nr, hR, hX, hP, hQ, hK⟩ := h
  exact ct_X11_status (⟨rfl, ct_X12_status ⟨hX.1.symm, σ, rfl, q, ns, nb, nl, nt, nr, hR, hX, hP, hQ, hK⟩⟩)
theorem ct_X11_cold {x y : Int32} {q ns nb nl nt nr : Nat} (hR : RR σ 4 σ q ns nb nl nt nr) (hy : y = 0 ∨ y = 1) (h1 : ¬ (0 ≤ x.toInt ∧ x.toInt ≤ 99) → K (-1) (up2 σ 3 3 1, sh b)) (h2 : ∀ d, d < 100 → x = nI d → K (if σ 6 d = y then 0 else 1) (up2 (up2 σ 6 d y) 3 3 0, sh b)) : CM G mX11_cold (rl 3) [.ref 3, .int x, .int y] (σ, sh b) (QI K) := by
  obtain ⟨⟨⟨hq2, hn10, hnb, hnl, hnt, hnr⟩, ⟨vq, vns, vnb, vnl, vnt, vnr⟩, ⟨rq, rns, rnb, rnl, rnt, rnr⟩, hpd⟩, hH, hC, hS, hLD, hB, hA, hT, hU⟩ := hR
  refine CM.of (by decide) (Nat.le_of_ble_eq_true rfl) (cats1 rfl) ?_
  refine V_iload_n (pc := 0) d_X11_cold_0 rfl ?_
  refine V_csI (pc := 1) (n := 2) [_] d_X11_cold_1 c_X11_75 k_X11_isDay rfl (Nat.le_of_ble_eq_true rfl) ⟨Nat.le_of_ble_eq_true rfl, Nat.le_of_ble_eq_true rfl⟩ ⟨Nat.le_refl _, Nat.le_refl _⟩ (ct_X11_isDay ?_)
  refine V_if_ne (pc := 4) 13 d_X11_cold_4 (by decide) (fun c4 => ?_) (fun c4 => ?_)
  · replace c4 := zt c4
    obtain ⟨d, hd, rfl, -⟩ := nat_of (n := 100) c4.1 (by omega) (by omega)
    refine V_aload_n (pc := 13) d_X11_cold_13 rfl ?_
    refine P_getR (pc := 14) d_X11_cold_14 f_X11_10 (tt_3 b) (rr_3_0 b) ?_
    refine P_getR (pc := 17) d_X11_cold_17 f_X11_99 (tt_4 b) (rr_4_9 b) ?_
    refine V_iload_n (pc := 20) d_X11_cold_20 rfl ?_
    refine P_zald (pc := 21) (d) d_X11_cold_21 (tt_6 b) rfl (ln_of (ll_6 b) ⟨by omega, by decide⟩) ?_
    refine V_iload_n (pc := 22) d_X11_cold_22 rfl ?_
    refine V_icmp_ne (pc := 23) 30 d_X11_cold_23 (by decide) (fun c23 => ?_) (fun c23 => ?_)
    · refine V_iconst (pc := 30) (1) d_X11_cold_30 (by decide) ?_
      refine V_istore_n (pc := 31) d_X11_cold_31 (by decide) ?_
      refine V_aload_n (pc := 32) d_X11_cold_32 rfl ?_
      refine P_getR (pc := 33) d_X11_cold_33 f_X11_10 (tt_3 b) (rr_3_0 b) ?_
      refine P_getR (pc := 36) d_X11_cold_36 f_X11_99 (tt_4 b) (rr_4_9 b) ?_
      refine V_iload_n (pc := 39) d_X11_cold_39 rfl ?_
      refine V_iload_n (pc := 40) d_X11_cold_40 rfl ?_
      refine P_zast (pc := 41) (d) d_X11_cold_41 (tt_6 b) rfl (ln_of (ll_6 b) ⟨by omega, by decide⟩) hy ?_
      refine V_aload_n (pc := 42) d_X11_cold_42 rfl ?_
      refine V_iload_n (pc := 43) d_X11_cold_43 rfl ?_
      refine V_cvI (pc := 44) (n := 1) (c := 11) [_] d_X11_cold_44 c_X11_72 k_X11_done ⟨rfl, rfl⟩ (tt_3 b) rfl (Nat.le_of_ble_eq_true rfl) ⟨Nat.le_of_ble_eq_true rfl, Nat.le_of_ble_eq_true rfl⟩ ⟨Nat.le_refl _, Nat.le_refl _⟩ (ct_X11_done ?_)
      exact V_retI (pc := 47) d_X11_cold_47 rfl ⟨Nat.le_refl _, Nat.le_refl _⟩ (by have k := h2 d hd rfl; simp (disch := omega) only [c4, c23, if_true, if_false, and_self, and_true, true_and, and_false, false_and, not_true_eq_false, not_false_eq_true, reduceIte] at k; exact k)
    · refine V_iconst (pc := 26) (0) d_X11_cold_26 (by decide) ?_
      refine V_goto (pc := 27) 31 d_X11_cold_27 (by decide) ?_
      refine V_istore_n (pc := 31) d_X11_cold_31 (by decide) ?_
      refine V_aload_n (pc := 32) d_X11_cold_32 rfl ?_
      refine P_getR (pc := 33) d_X11_cold_33 f_X11_10 (tt_3 b) (rr_3_0 b) ?_
      refine P_getR (pc := 36) d_X11_cold_36 f_X11_99 (tt_4 b) (rr_4_9 b) ?_
      refine V_iload_n (pc := 39) d_X11_cold_39 rfl ?_
      refine V_iload_n (pc := 40) d_X11_cold_40 rfl ?_
      refine P_zast (pc := 41) (d) d_X11_cold_41 (tt_6 b) rfl (ln_of (ll_6 b) ⟨by omega, by decide⟩) hy ?_
      refine V_aload_n (pc := 42) d_X11_cold_42 rfl ?_
      refine V_iload_n (pc := 43) d_X11_cold_43 rfl ?_
      refine V_cvI (pc := 44) (n := 1) (c := 11) [_] d_X11_cold_44 c_X11_72 k_X11_done ⟨rfl, rfl⟩ (tt_3 b) rfl (Nat.le_of_ble_eq_true rfl) ⟨Nat.le_of_ble_eq_true rfl, Nat.le_of_ble_eq_true rfl⟩ ⟨Nat.le_refl _, Nat.le_refl _⟩ (ct_X11_done ?_)
      exact V_retI (pc := 47) d_X11_cold_47 rfl ⟨Nat.le_refl _, Nat.le_refl _⟩ (by have k := h2 d hd rfl; simp (disch := omega) only [c4, c23, if_true, if_false, and_self, and_true, true_and, and_false, false_and, not_true_eq_false, not_false_eq_true, reduceIte] at k; exact k)
  · replace c4 := zf c4
    refine V_aload_n (pc := 7) d_X11_cold_7 rfl ?_
    refine V_iconst (pc := 8) (1) d_X11_cold_8 (by decide) ?_
    refine V_cvI (pc := 9) (n := 1) (c := 11) [_] d_X11_cold_9 c_X11_55 k_X11_refused ⟨rfl, rfl⟩ (tt_3 b) rfl (Nat.le_of_ble_eq_true rfl) ⟨Nat.le_of_ble_eq_true rfl, Nat.le_of_ble_eq_true rfl⟩ ⟨Nat.le_refl _, Nat.le_refl _⟩ (ct_X11_refused ?_)
    exact V_retI (pc := 12) d_X11_cold_12 rfl ⟨Nat.le_refl _, Nat.le_refl _⟩ (h1 c4)
theorem ct_X12_cold {x y : Int32} {ρ : Sg} {q ns nb nl nt nr : Nat} (hR : RR ρ 4 σ q ns nb nl nt nr) (hy : y = 0 ∨ y = 1) (h1 : ¬ (0 ≤ x.toInt ∧ x.toInt ≤ 99) → K (-1) (up2 σ 139 0 1, sh b)) (h2 : ∀ d, d < 100 → x = nI d → K (if σ 148 d = y then 0 else 1) (up2 (up2 σ 148 d y) 139 0 0, sh b)) : CM G mX12_cold (rl 3) [.ref 139, .int x, .int y] (σ, sh b) (QI K) := by
  obtain ⟨⟨⟨hq2, hn10, hnb, hnl, hnt, hnr⟩, ⟨vq, vns, vnb, vnl, vnt, vnr⟩, ⟨rq, rns, rnb, rnl, rnt, rnr⟩, hpd⟩, hH, hC, hS, hLD, hB, hA, hT, hU⟩ := hR
  refine CM.of (by decide) (Nat.le_of_ble_eq_true rfl) (cats1 rfl) ?_
  refine V_iload_n (pc := 0) d_X12_cold_0 rfl ?_
  refine V_csI (pc := 1) (n := 2) [_] d_X12_cold_1 c_X12_194 k_X12_isDay rfl (Nat.le_of_ble_eq_true rfl) ⟨Nat.le_of_ble_eq_true rfl, Nat.le_of_ble_eq_true rfl⟩ ⟨Nat.le_refl _, Nat.le_refl _⟩ (ct_X12_isDay ?_)
  refine V_if_ne (pc := 4) 13 d_X12_cold_4 (by decide) (fun c4 => ?_) (fun c4 => ?_)
  · replace c4 := zt c4
    obtain ⟨d, hd, rfl, -⟩ := nat_of (n := 100) c4.1 (by omega) (by omega)
    refine V_aload_n (pc := 13) d_X12_cold_13 rfl ?_
    refine P_getR (pc := 14) d_X12_cold_14 f_X12_35 (tt_139 b) (rr_139_11 b) ?_
    refine V_iload_n (pc := 17) d_X12_cold_17 rfl ?_
    refine P_zald (pc := 18) (d) d_X12_cold_18 (tt_148 b) rfl (ln_of (ll_148 b) ⟨by omega, by decide⟩) ?_
    refine V_istore_n (pc := 19) d_X12_cold_19 (by decide) ?_
    refine V_aload_n (pc := 20) d_X12_cold_20 rfl ?_
    refine P_getR (pc := 21) d_X12_cold_21 f_X12_35 (tt_139 b) (rr_139_11 b) ?_
    refine V_iload_n (pc := 24) d_X12_cold_24 rfl ?_
    refine V_iload_n (pc := 25) d_X12_cold_25 rfl ?_
    refine P_zast (pc := 26) (d) d_X12_cold_26 (tt_148 b) rfl (ln_of (ll_148 b) ⟨by omega, by decide⟩) hy ?_
    refine V_aload_n (pc := 27) d_X12_cold_27 rfl ?_
    refine V_iload_n (pc := 28) d_X12_cold_28 rfl ?_
    refine V_iload_n (pc := 29) d_X12_cold_29 rfl ?_
    refine V_icmp_eq (pc := 30) 37 d_X12_cold_30 (by decide) (fun c30 => ?_) (fun c30 => ?_)
    · refine V_iconst (pc := 37) (0) d_X12_cold_37 (by decide) ?_
      refine V_cvI (pc := 38) (n := 1) (c := 12) [_] d_X12_cold_38 c_X12_191 k_X12_done ⟨rfl, rfl⟩ (tt_139 b) rfl (Nat.le_of_ble_eq_true rfl) ⟨Nat.le_of_ble_eq_true rfl, Nat.le_of_ble_eq_true rfl⟩ ⟨Nat.le_refl _, Nat.le_refl _⟩ (ct_X12_done ?_)
      exact V_retI (pc := 41) d_X12_cold_41 rfl ⟨Nat.le_refl _, Nat.le_refl _⟩ (by have k := h2 d hd rfl; simp (disch := omega) only [c4, c30, if_true, if_false, and_self, and_true, true_and, and_false, false_and, not_true_eq_false, not_false_eq_true, reduceIte] at k; exact k)
    · refine V_iconst (pc := 33) (1) d_X12_cold_33 (by decide) ?_
      refine V_goto (pc := 34) 38 d_X12_cold_34 (by decide) ?_
      refine V_cvI (pc := 38) (n := 1) (c := 12) [_] d_X12_cold_38 c_X12_191 k_X12_done ⟨rfl, rfl⟩ (tt_139 b) rfl (Nat.le_of_ble_eq_true rfl) ⟨Nat.le_of_ble_eq_true rfl, Nat.le_of_ble_eq_true rfl⟩ ⟨Nat.le_refl _, Nat.le_refl _⟩ (ct_X12_done ?_)
      exact V_retI (pc := 41) d_X12_cold_41 rfl ⟨Nat.le_refl _, Nat.le_refl _⟩ (by have k := h2 d hd rfl; simp (disch := omega) only [c4, c30, if_true, if_false, and_self, and_true, true_and, and_false, false_and, not_true_eq_false, not_false_eq_true, reduceIte] at k; exact k)
  · replace c4 := zf c4
    refine V_aload_n (pc := 7) d_X12_cold_7 rfl ?_
    refine V_iconst (pc := 8) (1) d_X12_cold_8 (by decide) ?_
    refine V_cvI (pc := 9) (n := 1) (c := 12) [_] d_X12_cold_9 c_X12_187 k_X12_refused ⟨rfl, rfl⟩ (tt_139 b) rfl (Nat.le_of_ble_eq_true rfl) ⟨Nat.le_of_ble_eq_true rfl, Nat.le_of_ble_eq_true rfl⟩ ⟨Nat.le_refl _, Nat.le_refl _⟩ (ct_X12_refused ?_)
    exact V_retI (pc := 12) d_X12_cold_12 rfl ⟨Nat.le_refl _, Nat.le_refl _⟩ (h1 c4)
theorem bad99 {x : Int32} {d : Nat} (hd : d < 100) (e : x = nI d) : 0 ≤ x.toInt ∧ x.toInt ≤ 99 := by
  rw [e, nI_toInt (by omega)]
  omega
theorem nI_inj {a b : Nat} (ha : a < 1000) (hb : b < 1000) (h : nI a = nI b) : a = b := (nI_eq (by omega) (by omega)).mp h
theorem pr_cold {x y : Int32} (h : Rel σ b) (hy : y = 0 ∨ y = 1) : PR G mX11_cold mX12_cold 3 3 [.int x, .int y] σ b := by
  have h0 := h
  obtain ⟨q, ns, nb, nl, nt, nr, hR, hX, hP, hQ, hK⟩ := h
  refine ct_X11_cold hR hy (fun hv => ?_) (fun d hd e => ?_)
  · refine ⟨rfl, ct_X12_cold (RR_lo hR (fun a i _ _ => (by rw [up2_n (by omega)]))) hy (fun _ => ⟨rfl, _, rfl, rel_ref h0⟩) (fun d hd e => absurd (bad99 hd e) hv)⟩
  · refine ⟨rfl, ct_X12_cold (RR_lo hR (fun a i _ _ => (by rw [up2_n (by omega), up2_n (by omega)]))) hy (fun hv => absurd (bad99 hd e) hv) (fun d' hd' e' => ?_)⟩
    obtain rfl : d' = d := nI_inj (by omega) (by omega) (e'.symm.trans e)
    obtain ⟨hcn, hH, hC, hS, hLD, hB, hA, hT, hU⟩ := id hR
    have hbd := hcn.1
    have ed := hC d' hd
    refine ⟨by rw [show σ 6 d' = σ 148 d' from ed.1, up2_n (by omega), up2_n (by omega)], _, rfl, ?_⟩
    exact ⟨q, ns, nb, nl, nt, nr, ⟨cCnt_cg hcn (fun i _ _ => (by rw [up2_n (by omega), up2_n (by omega), up2_n (by omega), up2_n (by omega)])) (fun i _ => (by rw [up2_n (by omega), up2_n (by omega), up2_n (by omega), up2_n (by omega)])), cH_cg hH (by rw [up2_n (by omega), up2_n (by omega), up2_n (by omega), up2_n (by omega)]) (fun d _ => (by rw [up2_n (by omega), up2_n (by omega), up2_n (by omega), up2_n (by omega)])) (fun d _ => ⟨(by rw [up2_n (by omega), up2_n (by omega), up2_n (by omega), up2_n (by omega)]), (by rw [up2_n (by omega), up2_n (by omega), up2_n (by omega), up2_n (by omega)])⟩), by
      intro e he
      by_cases z : e = d'
      · subst z; simp [up2]; exact hy
      · have := hC e he; simp [up2, z]; exact this, cS_cg hS (fun k _ => ⟨fun j => (by rw [up2_n (by omega), up2_n (by omega), up2_n (by omega), up2_n (by omega)]), fun d _ => (by rw [up2_n (by omega), up2_n (by omega), up2_n (by omega), up2_n (by omega)])⟩) (fun k _ => ⟨(by rw [up2_n (by omega), up2_n (by omega), up2_n (by omega), up2_n (by omega)]), (by rw [up2_n (by omega), up2_n (by omega), up2_n (by omega), up2_n (by omega)]), (by rw [up2_n (by omega), up2_n (by omega), up2_n (by omega), up2_n (by omega)]), (by rw [up2_n (by omega), up2_n (by omega), up2_n (by omega), up2_n (by omega)])⟩) (fun i _ => ⟨(by rw [up2_n (by omega), up2_n (by omega), up2_n (by omega), up2_n (by omega)]), (by rw [up2_n (by omega), up2_n (by omega), up2_n (by omega), up2_n (by omega)])⟩), cL_cg hLD (fun l _ => ⟨(by rw [up2_n (by omega), up2_n (by omega), up2_n (by omega), up2_n (by omega)]), fun k _ => ⟨(by rw [up2_n (by omega), up2_n (by omega), up2_n (by omega), up2_n (by omega)]), (by rw [up2_n (by omega), up2_n (by omega), up2_n (by omega), up2_n (by omega)])⟩⟩) (fun l _ => (by rw [up2_n (by omega), up2_n (by omega), up2_n (by omega), up2_n (by omega)])) (fun m _ _ => ⟨(by rw [up2_n (by omega), up2_n (by omega), up2_n (by omega), up2_n (by omega)]), (by rw [up2_n (by omega), up2_n (by omega), up2_n (by omega), up2_n (by omega)])⟩), cB_cg hB (fun i _ => ⟨fun j => (by rw [up2_n (by omega), up2_n (by omega), up2_n (by omega), up2_n (by omega)]), fun k _ => ⟨(by rw [up2_n (by omega), up2_n (by omega), up2_n (by omega), up2_n (by omega)]), (by rw [up2_n (by omega), up2_n (by omega), up2_n (by omega), up2_n (by omega)])⟩⟩) (fun i _ a _ _ => (by rw [up2_n (by omega), up2_n (by omega), up2_n (by omega), up2_n (by omega)])) (fun m _ => ⟨(by rw [up2_n (by omega), up2_n (by omega), up2_n (by omega), up2_n (by omega)]), (by rw [up2_n (by omega), up2_n (by omega), up2_n (by omega), up2_n (by omega)])⟩) (fun j _ => ⟨(by rw [up2_n (by omega), up2_n (by omega), up2_n (by omega), up2_n (by omega)]), (by rw [up2_n (by omega), up2_n (by omega), up2_n (by omega), up2_n (by omega)]), (by rw [up2_n (by omega), up2_n (by omega), up2_n (by omega), up2_n (by omega)])⟩), cA_cg hA (fun j _ i => (by rw [up2_n (by omega), up2_n (by omega), up2_n (by omega), up2_n (by omega)])) (fun j _ a _ _ => (by rw [up2_n (by omega), up2_n (by omega), up2_n (by omega), up2_n (by omega)])), cT_cg hT (fun j _ i => (by rw [up2_n (by omega), up2_n (by omega), up2_n (by omega), up2_n (by omega)])) (fun j _ a _ _ => (by rw [up2_n (by omega), up2_n (by omega), up2_n (by omega), up2_n (by omega)])), cU_cg hU (fun j _ i => (by rw [up2_n (by omega), up2_n (by omega), up2_n (by omega), up2_n (by omega)])) (fun j _ a _ _ => (by rw [up2_n (by omega), up2_n (by omega), up2_n (by omega), up2_n (by omega)]))⟩, cX_cg hX (by simp [up2]) ⟨(by rw [up2_n (by omega), up2_n (by omega), up2_n (by omega), up2_n (by omega)]), (by rw [up2_n (by omega), up2_n (by omega), up2_n (by omega), up2_n (by omega)])⟩, cP_cg hP ⟨(by rw [up2_n (by omega), up2_n (by omega), up2_n (by omega), up2_n (by omega)]), (by rw [up2_n (by omega), up2_n (by omega), up2_n (by omega), up2_n (by omega)])⟩ (fun j _ => ⟨(by rw [up2_n (by omega), up2_n (by omega), up2_n (by omega), up2_n (by omega)]), (by rw [up2_n (by omega), up2_n (by omega), up2_n (by omega), up2_n (by omega)])⟩), cQ_cg hQ (fun a i _ => (by rw [up2_n (by omega), up2_n (by omega), up2_n (by omega), up2_n (by omega)])), cK_cg hK (by rw [up2_n (by omega), up2_n (by omega), up2_n (by omega), up2_n (by omega)]) (fun a i _ => (by rw [up2_n (by omega), up2_n (by omega), up2_n (by omega), up2_n (by omega)])) (fun a i _ => (by rw [up2_n (by omega), up2_n (by omega), up2_n (by omega), up2_n (by omega)])) (by omega) (by omega) (by omega) (by omega) (by omega)⟩
end HC
