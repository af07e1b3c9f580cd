section HC
variable {G : Gl} {R : Room} {F : Fn} {K : Int32 → Hp → Prop} {KV : Hp → Prop} {σ : Nat → Nat → Int32} {b : Bool}
theorem up2_e {α : Type} {f : Nat → Nat → α} {a i b j : Nat} {x : α} (h : b = a ∧ j = i) : up2 f a i x b j = x := by simp [up2, h.1, h.2]
theorem badN {x : Int32} {k n : Nat} {m : Int} (hk : k < n) (hn : n ≤ 100) (hm : (n : Int) - 1 ≤ m) (e : x = nI k) : 0 ≤ x.toInt ∧ x.toInt ≤ m := by
  rw [e, nI_toInt (by omega)]
  omega
theorem ct_X11_light {x y : Int32} {q ns nb nl nt nr : Nat} (hR : RR σ 4 σ q ns nb nl nt nr) (hy : y = 0 ∨ y = 1) (h1 : ¬ (0 ≤ x.toInt ∧ x.toInt ≤ (ns : Int) - 1) → K (-1) (up2 σ 3 3 1, sh b)) (h3 : ∀ k, k < ns → x = nI k → ¬ σ 140 k = nI 3 → K (-1) (up2 σ 3 3 (nI 3), sh b)) (h2 : ∀ k, k < ns → x = nI k → σ 140 k = nI 3 → K (if σ 143 k = y then 0 else 1) (up2 (up2 σ (13 + 2 * k) 4 y) 3 3 0, sh b)) : CM G mX11_light (rl 3) [.ref 3, .int x, .int y] (σ, sh b) (QI K) := by
  obtain ⟨⟨⟨hq2, hn10, hnb, hnl, hnt, hnr⟩, ⟨vq, vns, vnb, vnl, vnt, vnr⟩, ⟨rq, rns, rnb, rnl, rnt, rnr⟩, hpd⟩, hH, hC, hS, hLD, hB, hA, hT, hU⟩ := hR
  refine CM.of (by decide) (Nat.le_of_ble_eq_true rfl) (cats1 rfl) ?_
  refine V_aload_n (pc := 0) d_X11_light_0 rfl ?_
  refine P_getR (pc := 1) d_X11_light_1 f_X11_10 (tt_3 b) (rr_3_0 b) ?_
  refine V_iload_n (pc := 4) d_X11_light_4 rfl ?_
  refine V_cvI (pc := 5) (n := 2) (c := 4) [_] d_X11_light_5 c_X11_86 k_X4_isStretch ⟨rfl, rfl⟩ (tt_4 b) rfl (Nat.le_of_ble_eq_true rfl) ⟨Nat.le_of_ble_eq_true rfl, Nat.le_of_ble_eq_true rfl⟩ ⟨Nat.le_refl _, Nat.le_refl _⟩ (ct_X4_isStretch rns (by omega) ?_)
  refine V_if_ne (pc := 8) 17 d_X11_light_8 (by decide) (fun c8 => ?_) (fun c8 => ?_)
  · replace c8 := zt c8
    obtain ⟨k, hk, rfl, -⟩ := nat_of (n := ns) c8.1 (by omega) (by omega)
    refine V_aload_n (pc := 17) d_X11_light_17 rfl ?_
    refine P_getR (pc := 18) d_X11_light_18 f_X11_10 (tt_3 b) (rr_3_0 b) ?_
    refine P_getR (pc := 21) d_X11_light_21 f_X11_62 (tt_4 b) (rr_4_10 b) ?_
    refine V_iload_n (pc := 24) d_X11_light_24 rfl ?_
    refine P_aald (pc := 25) (c := 7) (k) d_X11_light_25 (tt_7 b) (by decide) rfl (ln_of (ll_7 b) ⟨by omega, by decide⟩) (rS b (by omega)) ?_
    refine V_astore_n (pc := 26) d_X11_light_26 (by decide) ?_
    refine V_aload_n (pc := 27) d_X11_light_27 rfl ?_
    refine P_getI (pc := 28) d_X11_light_28 f_X11_89 (tS b (by omega)) ?_
    rw [(cS_f hS (by omega : k < ns)).2.1]
    refine V_iconst (pc := 31) (nI 3) d_X11_light_31 (by decide) ?_
    refine V_icmp_eq (pc := 32) 41 d_X11_light_32 (by decide) (fun c32 => ?_) (fun c32 => ?_)
    · refine V_aload_n (pc := 41) d_X11_light_41 rfl ?_
      refine P_getI (pc := 42) d_X11_light_42 f_X11_103 (tS b (by omega)) ?_
      rw [(cS_f hS (by omega : k < ns)).2.2.2.2]
      refine V_iload_n (pc := 45) d_X11_light_45 rfl ?_
      refine V_icmp_ne (pc := 46) 53 d_X11_light_46 (by decide) (fun c46 => ?_) (fun c46 => ?_)
      · refine V_iconst (pc := 53) (1) d_X11_light_53 (by decide) ?_
        refine V_istore (pc := 54) d_X11_light_54 (by decide) ?_
        refine V_aload_n (pc := 56) d_X11_light_56 rfl ?_
        refine V_iload_n (pc := 57) d_X11_light_57 rfl ?_
        refine P_putZ (pc := 58) d_X11_light_58 f_X11_103 (tS b (by omega)) hy ?_
        refine V_aload_n (pc := 61) d_X11_light_61 rfl ?_
        refine V_iload (pc := 62) d_X11_light_62 rfl ?_
        refine V_cvI (pc := 64) (n := 1) (c := 11) [_] d_X11_light_64 c_X11_72 k_X11_done ⟨rfl, rfl⟩ (tt_3 b) rfl (Nat.le_of_ble_eq_true rfl) ⟨Nat.le_of_ble_eq_true rfl, Nat.le_of_ble_eq_true rfl⟩ ⟨Nat.le_refl _, Nat.le_refl _⟩ (ct_X11_done ?_)
        exact V_retI (pc := 67) d_X11_light_67 rfl ⟨Nat.le_refl _, Nat.le_refl _⟩ (by have k := h2 k hk rfl c32; simp (disch := omega) only [c8, c32, c46, if_true, if_false, and_self, and_true, true_and, and_false, false_and, not_true_eq_false, not_false_eq_true, reduceIte] at k; exact k)
      · refine V_iconst (pc := 49) (0) d_X11_light_49 (by decide) ?_
        refine V_goto (pc := 50) 54 d_X11_light_50 (by decide) ?_
        refine V_istore (pc := 54) d_X11_light_54 (by decide) ?_
        refine V_aload_n (pc := 56) d_X11_light_56 rfl ?_
        refine V_iload_n (pc := 57) d_X11_light_57 rfl ?_
        refine P_putZ (pc := 58) d_X11_light_58 f_X11_103 (tS b (by omega)) hy ?_
        refine V_aload_n (pc := 61) d_X11_light_61 rfl ?_
        refine V_iload (pc := 62) d_X11_light_62 rfl ?_
        refine V_cvI (pc := 64) (n := 1) (c := 11) [_] d_X11_light_64 c_X11_72 k_X11_done ⟨rfl, rfl⟩ (tt_3 b) rfl (Nat.le_of_ble_eq_true rfl) ⟨Nat.le_of_ble_eq_true rfl, Nat.le_of_ble_eq_true rfl⟩ ⟨Nat.le_refl _, Nat.le_refl _⟩ (ct_X11_done ?_)
        exact V_retI (pc := 67) d_X11_light_67 rfl ⟨Nat.le_refl _, Nat.le_refl _⟩ (by have k := h2 k hk rfl c32; simp (disch := omega) only [c8, c32, c46, if_true, if_false, and_self, and_true, true_and, and_false, false_and, not_true_eq_false, not_false_eq_true, reduceIte] at k; exact k)
    · refine V_aload_n (pc := 35) d_X11_light_35 rfl ?_
      refine V_iconst (pc := 36) (nI 3) d_X11_light_36 (by decide) ?_
      refine V_cvI (pc := 37) (n := 1) (c := 11) [_] d_X11_light_37 c_X11_55 k_X11_refused ⟨rfl, rfl⟩ (tt_3 b) rfl (Nat.le_of_ble_eq_true rfl) ⟨Nat.le_of_ble_eq_true rfl, Nat.le_of_ble_eq_true rfl⟩ ⟨Nat.le_refl _, Nat.le_refl _⟩ (ct_X11_refused ?_)
      exact V_retI (pc := 40) d_X11_light_40 rfl ⟨Nat.le_refl _, Nat.le_refl _⟩ (h3 k hk rfl c32)
  · replace c8 := zf c8
    refine V_aload_n (pc := 11) d_X11_light_11 rfl ?_
    refine V_iconst (pc := 12) (1) d_X11_light_12 (by decide) ?_
    refine V_cvI (pc := 13) (n := 1) (c := 11) [_] d_X11_light_13 c_X11_55 k_X11_refused ⟨rfl, rfl⟩ (tt_3 b) rfl (Nat.le_of_ble_eq_true rfl) ⟨Nat.le_of_ble_eq_true rfl, Nat.le_of_ble_eq_true rfl⟩ ⟨Nat.le_refl _, Nat.le_refl _⟩ (ct_X11_refused ?_)
    exact V_retI (pc := 16) d_X11_light_16 rfl ⟨Nat.le_refl _, Nat.le_refl _⟩ (h1 c8)
theorem ct_X12_light {x y : Int32} {ρ : Sg} {q ns nb nl nt nr : Nat} (hR : RR ρ 4 σ q ns nb nl nt nr) (hy : y = 0 ∨ y = 1) (h1 : ¬ (0 ≤ x.toInt ∧ x.toInt ≤ (ns : Int) - 1) → K (-1) (up2 σ 139 0 1, sh b)) (h3 : ∀ k, k < ns → x = nI k → ¬ σ 140 k = nI 3 → K (-1) (up2 σ 139 0 (nI 3), sh b)) (h2 : ∀ k, k < ns → x = nI k → σ 140 k = nI 3 → K (if σ 143 k = y then 0 else 1) (up2 (up2 σ 143 k y) 139 0 0, sh b)) : CM G mX12_light (rl 3) [.ref 139, .int x, .int y] (σ, sh b) (QI K) := by
  obtain ⟨⟨⟨hq2, hn10, hnb, hnl, hnt, hnr⟩, ⟨vq, vns, vnb, vnl, vnt, vnr⟩, ⟨rq, rns, rnb, rnl, rnt, rnr⟩, hpd⟩, hH, hC, hS, hLD, hB, hA, hT, hU⟩ := hR
  refine CM.of (by decide) (Nat.le_of_ble_eq_true rfl) (cats1 rfl) ?_
  refine V_aload_n (pc := 0) d_X12_light_0 rfl ?_
  refine V_iload_n (pc := 1) d_X12_light_1 rfl ?_
  refine V_cvI (pc := 2) (n := 2) (c := 12) [_] d_X12_light_2 c_X12_202 k_X12_isStretch ⟨rfl, rfl⟩ (tt_139 b) rfl (Nat.le_of_ble_eq_true rfl) ⟨Nat.le_of_ble_eq_true rfl, Nat.le_of_ble_eq_true rfl⟩ ⟨Nat.le_refl _, Nat.le_refl _⟩ (ct_X12_isStretch vns (by omega) ?_)
  refine V_if_ne (pc := 5) 14 d_X12_light_5 (by decide) (fun c5 => ?_) (fun c5 => ?_)
  · replace c5 := zt c5
    obtain ⟨k, hk, rfl, -⟩ := nat_of (n := ns) c5.1 (by omega) (by omega)
    refine V_aload_n (pc := 14) d_X12_light_14 rfl ?_
    refine P_getR (pc := 15) d_X12_light_15 f_X12_7 (tt_139 b) (rr_139_3 b) ?_
    refine V_iload_n (pc := 18) d_X12_light_18 rfl ?_
    refine P_iald (pc := 19) (k) d_X12_light_19 (tt_140 b) rfl (ln_of (ll_140 b) ⟨by omega, by decide⟩) ?_
    refine V_iconst (pc := 20) (nI 3) d_X12_light_20 (by decide) ?_
    refine V_icmp_eq (pc := 21) 30 d_X12_light_21 (by decide) (fun c21 => ?_) (fun c21 => ?_)
    · refine V_aload_n (pc := 30) d_X12_light_30 rfl ?_
      refine P_getR (pc := 31) d_X12_light_31 f_X12_19 (tt_139 b) (rr_139_6 b) ?_
      refine V_iload_n (pc := 34) d_X12_light_34 rfl ?_
      refine P_zald (pc := 35) (k) d_X12_light_35 (tt_143 b) rfl (ln_of (ll_143 b) ⟨by omega, by decide⟩) ?_
      refine V_istore_n (pc := 36) d_X12_light_36 (by decide) ?_
      refine V_aload_n (pc := 37) d_X12_light_37 rfl ?_
      refine P_getR (pc := 38) d_X12_light_38 f_X12_19 (tt_139 b) (rr_139_6 b) ?_
      refine V_iload_n (pc := 41) d_X12_light_41 rfl ?_
      refine V_iload_n (pc := 42) d_X12_light_42 rfl ?_
      refine P_zast (pc := 43) (k) d_X12_light_43 (tt_143 b) rfl (ln_of (ll_143 b) ⟨by omega, by decide⟩) hy ?_
      refine V_aload_n (pc := 44) d_X12_light_44 rfl ?_
      refine V_iload_n (pc := 45) d_X12_light_45 rfl ?_
      refine V_iload_n (pc := 46) d_X12_light_46 rfl ?_
      refine V_icmp_eq (pc := 47) 54 d_X12_light_47 (by decide) (fun c47 => ?_) (fun c47 => ?_)
      · refine V_iconst (pc := 54) (0) d_X12_light_54 (by decide) ?_
        refine V_cvI (pc := 55) (n := 1) (c := 12) [_] d_X12_light_55 c_X12_191 k_X12_done ⟨rfl, rfl⟩ (tt_139 b) rfl (Nat.le_of_ble_eq_true rfl) ⟨Nat.le_of_ble_eq_true rfl, Nat.le_of_ble_eq_true rfl⟩ ⟨Nat.le_refl _, Nat.le_refl _⟩ (ct_X12_done ?_)
        exact V_retI (pc := 58) d_X12_light_58 rfl ⟨Nat.le_refl _, Nat.le_refl _⟩ (by have k := h2 k hk rfl c21; simp (disch := omega) only [c5, c21, c47, if_true, if_false, and_self, and_true, true_and, and_false, false_and, not_true_eq_false, not_false_eq_true, reduceIte] at k; exact k)
      · refine V_iconst (pc := 50) (1) d_X12_light_50 (by decide) ?_
        refine V_goto (pc := 51) 55 d_X12_light_51 (by decide) ?_
        refine V_cvI (pc := 55) (n := 1) (c := 12) [_] d_X12_light_55 c_X12_191 k_X12_done ⟨rfl, rfl⟩ (tt_139 b) rfl (Nat.le_of_ble_eq_true rfl) ⟨Nat.le_of_ble_eq_true rfl, Nat.le_of_ble_eq_true rfl⟩ ⟨Nat.le_refl _, Nat.le_refl _⟩ (ct_X12_done ?_)
        exact V_retI (pc := 58) d_X12_light_58 rfl ⟨Nat.le_refl _, Nat.le_refl _⟩ (by have k := h2 k hk rfl c21; simp (disch := omega) only [c5, c21, c47, if_true, if_false, and_self, and_true, true_and, and_false, false_and, not_true_eq_false, not_false_eq_true, reduceIte] at k; exact k)
    · refine V_aload_n (pc := 24) d_X12_light_24 rfl ?_
      refine V_iconst (pc := 25) (nI 3) d_X12_light_25 (by decide) ?_
      refine V_cvI (pc := 26) (n := 1) (c := 12) [_] d_X12_light_26 c_X12_187 k_X12_refused ⟨rfl, rfl⟩ (tt_139 b) rfl (Nat.le_of_ble_eq_true rfl) ⟨Nat.le_of_ble_eq_true rfl, Nat.le_of_ble_eq_true rfl⟩ ⟨Nat.le_refl _, Nat.le_refl _⟩ (ct_X12_refused ?_)
      exact V_retI (pc := 29) d_X12_light_29 rfl ⟨Nat.le_refl _, Nat.le_refl _⟩ (h3 k hk rfl c21)
  · replace c5 := zf c5
    refine V_aload_n (pc := 8) d_X12_light_8 rfl ?_
    refine V_iconst (pc := 9) (1) d_X12_light_9 (by decide) ?_
    refine V_cvI (pc := 10) (n := 1) (c := 12) [_] d_X12_light_10 c_X12_187 k_X12_refused ⟨rfl, rfl⟩ (tt_139 b) rfl (Nat.le_of_ble_eq_true rfl) ⟨Nat.le_of_ble_eq_true rfl, Nat.le_of_ble_eq_true rfl⟩ ⟨Nat.le_refl _, Nat.le_refl _⟩ (ct_X12_refused ?_)
    exact V_retI (pc := 13) d_X12_light_13 rfl ⟨Nat.le_refl _, Nat.le_refl _⟩ (h1 c5)
theorem pr_light {x y : Int32} (h : Rel σ b) (hy : y = 0 ∨ y = 1) : PR G mX11_light mX12_light 3 3 [.int x, .int y] σ b := by
  have h0 := h
  obtain ⟨q, ns, nb, nl, nt, nr, hR, hX, hP, hQ, hK⟩ := h
  have hbd := hR.1.1
  refine ct_X11_light hR hy (fun hv => ?_) (fun k hk e hv => ?_) (fun k hk e hv => ?_)
  · exact ⟨rfl, ct_X12_light (RR_lo hR (fun a i _ _ => (by rw [up2_n (by omega)]))) hy (fun _ => ⟨rfl, _, rfl, rel_ref h0⟩) (fun k hk e => absurd (badN hk (by omega) (by omega) e) hv) (fun k hk e => absurd (badN hk (by omega) (by omega) e) hv)⟩
  · refine ⟨rfl, ct_X12_light (RR_lo hR (fun a i _ _ => (by rw [up2_n (by omega)]))) hy (fun hv => absurd (badN hk (by omega) (by omega) e) hv) (fun k' hk' e' _ => ⟨rfl, _, rfl, rel_ref h0⟩) (fun k' hk' e' hv' => absurd ?_ hv)⟩
    obtain rfl : k' = k := nI_inj (by omega) (by omega) (e'.symm.trans e)
    rwa [up2_n (by omega)] at hv'
  · refine ⟨rfl, ct_X12_light (RR_lo hR (fun a i _ _ => (by rw [up2_n (by omega), up2_n (by omega)]))) hy (fun hv => absurd (badN hk (by omega) (by omega) e) hv) (fun k' hk' e' hv' => absurd ?_ hv') (fun k' hk' e' hv' => ?_)⟩
    · obtain rfl : k' = k := nI_inj (by omega) (by omega) (e'.symm.trans e)
      rw [up2_n (by omega), up2_n (by omega)]; exact hv
    · obtain rfl : k' = k := nI_inj (by omega) (by omega) (e'.symm.trans e)
      obtain ⟨hcn, hH, hC, hS, hLD, hB, hA, hT, hU⟩ := id hR
      have hbd := hcn.1
      refine ⟨by rw [up2_n (by omega), up2_n (by omega)], _, rfl, ?_⟩
      exact ⟨q, ns, nb, nl, nt, nr, ⟨cCnt_cg hcn (fun i _ _ => (by rw [up2_n (by omega), up2_n (by omega), up2_n (by omega), up2_n (by omega)])) (fun i _ => (by rw [up2_n (by omega), up2_n (by omega), up2_n (by omega), up2_n (by omega)])), cH_cg hH (by rw [up2_n (by omega), up2_n (by omega), up2_n (by omega), up2_n (by omega)]) (fun d _ => (by rw [up2_n (by omega), up2_n (by omega), up2_n (by omega), up2_n (by omega)])) (fun d _ => ⟨(by rw [up2_n (by omega), up2_n (by omega), up2_n (by omega), up2_n (by omega)]), (by rw [up2_n (by omega), up2_n (by omega), up2_n (by omega), up2_n (by omega)])⟩), cC_cg hC (fun d _ => (by rw [up2_n (by omega), up2_n (by omega), up2_n (by omega), up2_n (by omega)])) (fun d _ => (by rw [up2_n (by omega), up2_n (by omega), up2_n (by omega), up2_n (by omega)])), by
        intro e he
        obtain ⟨⟨a0, a1, a2, a3, a4⟩, b1, b2, b3, b4, b5⟩ := hS e he
        by_cases z : e = k'
        · subst z
          refine ⟨?_, ?_, ?_, ?_, ?_, fun d hd => ?_⟩
          · exact ⟨by rw [up2_n (by omega), up2_n (by omega), up2_n (by omega), up2_n (by omega)]; exact a0, by rw [up2_n (by omega), up2_n (by omega), up2_n (by omega), up2_n (by omega), up2_n (by omega), up2_n (by omega), up2_n (by omega), up2_n (by omega)]; exact a1, by rw [up2_n (by omega), up2_n (by omega), up2_n (by omega), up2_n (by omega), up2_n (by omega), up2_n (by omega), up2_n (by omega), up2_n (by omega)]; exact a2, by rw [up2_n (by omega), up2_n (by omega), up2_n (by omega), up2_n (by omega), up2_n (by omega), up2_n (by omega), up2_n (by omega), up2_n (by omega)]; exact a3, by rw [up2_n (by omega), up2_n (by omega), up2_n (by omega), up2_e (by omega), up2_n (by omega), up2_e (by omega)]⟩
          · rw [up2_n (by omega), up2_n (by omega), up2_n (by omega), up2_n (by omega)]; exact b1
          · rw [up2_n (by omega), up2_n (by omega), up2_n (by omega), up2_n (by omega)]; exact b2
          · rw [up2_n (by omega), up2_n (by omega), up2_n (by omega), up2_n (by omega)]; exact b3
          · rw [up2_n (by omega), up2_e (by omega)]; exact hy
          · rw [up2_n (by omega), up2_n (by omega), up2_n (by omega), up2_n (by omega), up2_n (by omega), up2_n (by omega), up2_n (by omega), up2_n (by omega), up2_n (by omega), up2_n (by omega), up2_n (by omega), up2_n (by omega), up2_n (by omega), up2_n (by omega), up2_n (by omega), up2_n (by omega)]; exact b5 d hd
        · have z1 : ¬ 4 + 9 + 2 * e = 13 + 2 * k' := by omega
          refine ⟨?_, ?_, ?_, ?_, ?_, fun d hd => ?_⟩
          · rw [up2_n (by omega), up2_n (by omega), up2_n (by omega), up2_n (by omega), up2_n (by omega), up2_n (by omega), up2_n (by omega), up2_n (by omega), up2_n (by omega), up2_n (by omega), up2_n (by omega), up2_n (by omega), up2_n (by omega), up2_n (by omega), up2_n (by omega), up2_n (by omega), up2_n (by omega), up2_n (by omega), up2_n (by omega), up2_n (by omega), up2_n (by omega), up2_n (by omega), up2_n (by omega), up2_n (by omega), up2_n (by omega), up2_n (by omega), up2_n (by omega), up2_n (by omega), up2_n (by omega), up2_n (by omega), up2_n (by omega), up2_n (by omega), up2_n (by omega), up2_n (by omega), up2_n (by omega), up2_n (by omega)]; exact ⟨a0, a1, a2, a3, a4⟩
          · rw [up2_n (by omega), up2_n (by omega), up2_n (by omega), up2_n (by omega)]; exact b1
          · rw [up2_n (by omega), up2_n (by omega), up2_n (by omega), up2_n (by omega)]; exact b2
          · rw [up2_n (by omega), up2_n (by omega), up2_n (by omega), up2_n (by omega)]; exact b3
          · rw [up2_n (by omega), up2_n (by omega), up2_n (by omega), up2_n (by omega)]; exact b4
          · rw [up2_n (by omega), up2_n (by omega), up2_n (by omega), up2_n (by omega), up2_n (by omega), up2_n (by omega), up2_n (by omega), up2_n (by omega), up2_n (by omega), up2_n (by omega), up2_n (by omega), up2_n (by omega), up2_n (by omega), up2_n (by omega), up2_n (by omega), up2_n (by omega)]; exact b5 d hd, cL_cg hLD (fun l _ => ⟨(by rw [up2_n (by omega), up2_n (by omega), up2_n (by omega), up2_n (by omega)]), fun k _ => ⟨(by rw [up2_n (by omega), up2_n (by omega), up2_n (by omega), up2_n (by omega)]), (by rw [up2_n (by omega), up2_n (by omega), up2_n (by omega), up2_n (by omega)])⟩⟩) (fun l _ => (by rw [up2_n (by omega), up2_n (by omega), up2_n (by omega), up2_n (by omega)])) (fun m _ _ => ⟨(by rw [up2_n (by omega), up2_n (by omega), up2_n (by omega), up2_n (by omega)]), (by rw [up2_n (by omega), up2_n (by omega), up2_n (by omega), up2_n (by omega)])⟩), cB_cg hB (fun i _ => ⟨fun j => (by rw [up2_n (by omega), up2_n (by omega), up2_n (by omega), up2_n (by omega)]), fun k _ => ⟨(by rw [up2_n (by omega), up2_n (by omega), up2_n (by omega), up2_n (by omega)]), (by rw [up2_n (by omega), up2_n (by omega), up2_n (by omega), up2_n (by omega)])⟩⟩) (fun i _ a _ _ => (by rw [up2_n (by omega), up2_n (by omega), up2_n (by omega), up2_n (by omega)])) (fun m _ => ⟨(by rw [up2_n (by omega), up2_n (by omega), up2_n (by omega), up2_n (by omega)]), (by rw [up2_n (by omega), up2_n (by omega), up2_n (by omega), up2_n (by omega)])⟩) (fun j _ => ⟨(by rw [up2_n (by omega), up2_n (by omega), up2_n (by omega), up2_n (by omega)]), (by rw [up2_n (by omega), up2_n (by omega), up2_n (by omega), up2_n (by omega)]), (by rw [up2_n (by omega), up2_n (by omega), up2_n (by omega), up2_n (by omega)])⟩), cA_cg hA (fun j _ i => (by rw [up2_n (by omega), up2_n (by omega), up2_n (by omega), up2_n (by omega)])) (fun j _ a _ _ => (by rw [up2_n (by omega), up2_n (by omega), up2_n (by omega), up2_n (by omega)])), cT_cg hT (fun j _ i => (by rw [up2_n (by omega), up2_n (by omega), up2_n (by omega), up2_n (by omega)])) (fun j _ a _ _ => (by rw [up2_n (by omega), up2_n (by omega), up2_n (by omega), up2_n (by omega)])), cU_cg hU (fun j _ i => (by rw [up2_n (by omega), up2_n (by omega), up2_n (by omega), up2_n (by omega)])) (fun j _ a _ _ => (by rw [up2_n (by omega), up2_n (by omega), up2_n (by omega), up2_n (by omega)]))⟩, cX_cg hX (by simp [up2]) ⟨(by rw [up2_n (by omega), up2_n (by omega), up2_n (by omega), up2_n (by omega)]), (by rw [up2_n (by omega), up2_n (by omega), up2_n (by omega), up2_n (by omega)])⟩, cP_cg hP ⟨(by rw [up2_n (by omega), up2_n (by omega), up2_n (by omega), up2_n (by omega)]), (by rw [up2_n (by omega), up2_n (by omega), up2_n (by omega), up2_n (by omega)])⟩ (fun j _ => ⟨(by rw [up2_n (by omega), up2_n (by omega), up2_n (by omega), up2_n (by omega)]), (by rw [up2_n (by omega), up2_n (by omega), up2_n (by omega), up2_n (by omega)])⟩), cQ_cg hQ (fun a i _ => (by rw [up2_n (by omega), up2_n (by omega), up2_n (by omega), up2_n (by omega)])), cK_cg hK (by rw [up2_n (by omega), up2_n (by omega), up2_n (by omega), up2_n (by omega)]) (fun a i _ => (by rw [up2_n (by omega), up2_n (by omega), up2_n (by omega), up2_n (by omega)])) (fun a i _ => (by rw [up2_n (by omega), up2_n (by omega), up2_n (by omega), up2_n (by omega)])) (by omega) (by omega) (by omega) (by omega) (by omega)⟩
theorem ct_X11_yard {x y : Int32} {q ns nb nl nt nr : Nat} (hR : RR σ 4 σ q ns nb nl nt nr) (h1 : ¬ ((0 ≤ x.toInt ∧ x.toInt ≤ (ns : Int)) ∧ 0 ≤ y.toInt ∧ y.toInt ≤ 99) → K (-1) (up2 σ 3 3 1, sh b)) (h2 : ∀ l, l < ns + 1 → x = nI l → 0 ≤ y.toInt → y.toInt ≤ 99 → K (σ (33 + 4 * l) 0) (up2 (up2 σ (33 + 4 * l) 0 y) 3 3 0, sh b)) : CM G mX11_yard (rl 3) [.ref 3, .int x, .int y] (σ, sh b) (QI K) := by
  obtain ⟨⟨⟨hq2, hn10, hnb, hnl, hnt, hnr⟩, ⟨vq, vns, vnb, vnl, vnt, vnr⟩, ⟨rq, rns, rnb, rnl, rnt, rnr⟩, hpd⟩, hH, hC, hS, hLD, hB, hA, hT, hU⟩ := hR
  refine CM.of (by decide) (Nat.le_of_ble_eq_true rfl) (cats1 rfl) ?_
  refine V_aload_n (pc := 0) d_X11_yard_0 rfl ?_
  refine P_getR (pc := 1) d_X11_yard_1 f_X11_10 (tt_3 b) (rr_3_0 b) ?_
  refine V_iload_n (pc := 4) d_X11_yard_4 rfl ?_
  refine V_cvI (pc := 5) (n := 2) (c := 4) [_] d_X11_yard_5 c_X11_107 k_X4_isLanding ⟨rfl, rfl⟩ (tt_4 b) rfl (Nat.le_of_ble_eq_true rfl) ⟨Nat.le_of_ble_eq_true rfl, Nat.le_of_ble_eq_true rfl⟩ ⟨Nat.le_refl _, Nat.le_refl _⟩ (ct_X4_isLanding rns (by omega) ?_)
  refine V_if_eq (pc := 8) 21 d_X11_yard_8 (by decide) (fun c8 => ?_) (fun c8 => ?_)
  · replace c8 := zf c8
    refine V_aload_n (pc := 21) d_X11_yard_21 rfl ?_
    refine V_iconst (pc := 22) (1) d_X11_yard_22 (by decide) ?_
    refine V_cvI (pc := 23) (n := 1) (c := 11) [_] d_X11_yard_23 c_X11_55 k_X11_refused ⟨rfl, rfl⟩ (tt_3 b) rfl (Nat.le_of_ble_eq_true rfl) ⟨Nat.le_of_ble_eq_true rfl, Nat.le_of_ble_eq_true rfl⟩ ⟨Nat.le_refl _, Nat.le_refl _⟩ (ct_X11_refused ?_)
    exact V_retI (pc := 26) d_X11_yard_26 rfl ⟨Nat.le_refl _, Nat.le_refl _⟩ (h1 (fun z => by omega))
  · replace c8 := zt c8
    refine V_iload_n (pc := 11) d_X11_yard_11 rfl ?_
    refine V_iconst (pc := 12) (0) d_X11_yard_12 (by decide) ?_
    refine V_bipush (pc := 13) (nI 99) d_X11_yard_13 (by decide) ?_
    refine V_csI (pc := 15) (n := 1) [_, _, _] d_X11_yard_15 c_X11_51 k_X11_isWithin rfl (Nat.le_of_ble_eq_true rfl) ⟨Nat.le_of_ble_eq_true rfl, Nat.le_of_ble_eq_true rfl⟩ ⟨Nat.le_refl _, Nat.le_refl _⟩ (ct_X11_isWithin (lo := 0) (hi := 99) (by decide) (by decide) ?_)
    refine V_if_ne (pc := 18) 27 d_X11_yard_18 (by decide) (fun c18 => ?_) (fun c18 => ?_)
    · replace c18 := zt c18
      obtain ⟨l, hl, rfl, -⟩ := nat_of (n := (ns + 1)) c8.1 (by omega) (by omega)
      refine V_aload_n (pc := 27) d_X11_yard_27 rfl ?_
      refine P_getR (pc := 28) d_X11_yard_28 f_X11_10 (tt_3 b) (rr_3_0 b) ?_
      refine P_getR (pc := 31) d_X11_yard_31 f_X11_200 (tt_4 b) (rr_4_11 b) ?_
      refine V_iload_n (pc := 34) d_X11_yard_34 rfl ?_
      refine P_aald (pc := 35) (c := 3) (l) d_X11_yard_35 (tt_8 b) (by decide) rfl (ln_of (ll_8 b) ⟨by omega, by decide⟩) (rLD b (by omega)) ?_
      refine V_astore_n (pc := 36) d_X11_yard_36 (by decide) ?_
      refine V_aload_n (pc := 37) d_X11_yard_37 rfl ?_
      refine P_getI (pc := 38) d_X11_yard_38 f_X11_204 (tLD b (by omega)) ?_
      refine V_istore (pc := 41) d_X11_yard_41 (by decide) ?_
      refine V_aload_n (pc := 43) d_X11_yard_43 rfl ?_
      refine V_iload_n (pc := 44) d_X11_yard_44 rfl ?_
      refine P_putI (pc := 45) d_X11_yard_45 f_X11_204 (tLD b (by omega)) ?_
      refine V_aload_n (pc := 48) d_X11_yard_48 rfl ?_
      refine V_iload (pc := 49) d_X11_yard_49 rfl ?_
      refine V_cvI (pc := 51) (n := 1) (c := 11) [_] d_X11_yard_51 c_X11_72 k_X11_done ⟨rfl, rfl⟩ (tt_3 b) rfl (Nat.le_of_ble_eq_true rfl) ⟨Nat.le_of_ble_eq_true rfl, Nat.le_of_ble_eq_true rfl⟩ ⟨Nat.le_refl _, Nat.le_refl _⟩ (ct_X11_done ?_)
      exact V_retI (pc := 54) d_X11_yard_54 rfl ⟨Nat.le_refl _, Nat.le_refl _⟩ (h2 l hl rfl c18.1 c18.2)
    · replace c18 := zf c18
      refine V_aload_n (pc := 21) d_X11_yard_21 rfl ?_
      refine V_iconst (pc := 22) (1) d_X11_yard_22 (by decide) ?_
      refine V_cvI (pc := 23) (n := 1) (c := 11) [_] d_X11_yard_23 c_X11_55 k_X11_refused ⟨rfl, rfl⟩ (tt_3 b) rfl (Nat.le_of_ble_eq_true rfl) ⟨Nat.le_of_ble_eq_true rfl, Nat.le_of_ble_eq_true rfl⟩ ⟨Nat.le_refl _, Nat.le_refl _⟩ (ct_X11_refused ?_)
      exact V_retI (pc := 26) d_X11_yard_26 rfl ⟨Nat.le_refl _, Nat.le_refl _⟩ (h1 (fun z => by omega))
theorem ct_X12_yard {x y : Int32} {ρ : Sg} {q ns nb nl nt nr : Nat} (hR : RR ρ 4 σ q ns nb nl nt nr) (h1 : ¬ ((0 ≤ x.toInt ∧ x.toInt ≤ (ns : Int)) ∧ 0 ≤ y.toInt ∧ y.toInt ≤ 99) → K (-1) (up2 σ 139 0 1, sh b)) (h2 : ∀ l, l < ns + 1 → x = nI l → 0 ≤ y.toInt → y.toInt ≤ 99 → K (σ 159 l) (up2 (up2 σ 159 l y) 139 0 0, sh b)) : CM G mX12_yard (rl 3) [.ref 139, .int x, .int y] (σ, sh b) (QI K) := by
  obtain ⟨⟨⟨hq2, hn10, hnb, hnl, hnt, hnr⟩, ⟨vq, vns, vnb, vnl, vnt, vnr⟩, ⟨rq, rns, rnb, rnl, rnt, rnr⟩, hpd⟩, hH, hC, hS, hLD, hB, hA, hT, hU⟩ := hR
  refine CM.of (by decide) (Nat.le_of_ble_eq_true rfl) (cats1 rfl) ?_
  refine V_aload_n (pc := 0) d_X12_yard_0 rfl ?_
  refine V_iload_n (pc := 1) d_X12_yard_1 rfl ?_
  refine V_cvI (pc := 2) (n := 2) (c := 12) [_] d_X12_yard_2 c_X12_229 k_X12_isLanding ⟨rfl, rfl⟩ (tt_139 b) rfl (Nat.le_of_ble_eq_true rfl) ⟨Nat.le_of_ble_eq_true rfl, Nat.le_of_ble_eq_true rfl⟩ ⟨Nat.le_refl _, Nat.le_refl _⟩ (ct_X12_isLanding vns (by omega) ?_)
  refine V_if_eq (pc := 5) 18 d_X12_yard_5 (by decide) (fun c5 => ?_) (fun c5 => ?_)
  · replace c5 := zf c5
    refine V_aload_n (pc := 18) d_X12_yard_18 rfl ?_
    refine V_iconst (pc := 19) (1) d_X12_yard_19 (by decide) ?_
    refine V_cvI (pc := 20) (n := 1) (c := 12) [_] d_X12_yard_20 c_X12_187 k_X12_refused ⟨rfl, rfl⟩ (tt_139 b) rfl (Nat.le_of_ble_eq_true rfl) ⟨Nat.le_of_ble_eq_true rfl, Nat.le_of_ble_eq_true rfl⟩ ⟨Nat.le_refl _, Nat.le_refl _⟩ (ct_X12_refused ?_)
    exact V_retI (pc := 23) d_X12_yard_23 rfl ⟨Nat.le_refl _, Nat.le_refl _⟩ (h1 (fun z => by omega))
  · replace c5 := zt c5
    refine V_iload_n (pc := 8) d_X12_yard_8 rfl ?_
    refine V_iconst (pc := 9) (0) d_X12_yard_9 (by decide) ?_
    refine V_bipush (pc := 10) (nI 99) d_X12_yard_10 (by decide) ?_
    refine V_csI (pc := 12) (n := 1) [_, _, _] d_X12_yard_12 c_X12_174 k_X12_in rfl (Nat.le_of_ble_eq_true rfl) ⟨Nat.le_of_ble_eq_true rfl, Nat.le_of_ble_eq_true rfl⟩ ⟨Nat.le_refl _, Nat.le_refl _⟩ (ct_X12_in (lo := 0) (hi := 99) (by decide) (by decide) ?_)
    refine V_if_ne (pc := 15) 24 d_X12_yard_15 (by decide) (fun c15 => ?_) (fun c15 => ?_)
    · replace c15 := zt c15
      obtain ⟨l, hl, rfl, -⟩ := nat_of (n := (ns + 1)) c5.1 (by omega) (by omega)
      refine V_aload_n (pc := 24) d_X12_yard_24 rfl ?_
      refine P_getR (pc := 25) d_X12_yard_25 f_X12_68 (tt_139 b) (rr_139_23 b) ?_
      refine V_iload_n (pc := 28) d_X12_yard_28 rfl ?_
      refine P_iald (pc := 29) (l) d_X12_yard_29 (tt_159 b) rfl (ln_of (ll_159 b) ⟨by omega, by decide⟩) ?_
      refine V_istore_n (pc := 30) d_X12_yard_30 (by decide) ?_
      refine V_aload_n (pc := 31) d_X12_yard_31 rfl ?_
      refine P_getR (pc := 32) d_X12_yard_32 f_X12_68 (tt_139 b) (rr_139_23 b) ?_
      refine V_iload_n (pc := 35) d_X12_yard_35 rfl ?_
      refine V_iload_n (pc := 36) d_X12_yard_36 rfl ?_
      refine P_iast (pc := 37) (l) d_X12_yard_37 (tt_159 b) rfl (ln_of (ll_159 b) ⟨by omega, by decide⟩) ?_
      refine V_aload_n (pc := 38) d_X12_yard_38 rfl ?_
      refine V_iload_n (pc := 39) d_X12_yard_39 rfl ?_
      refine V_cvI (pc := 40) (n := 1) (c := 12) [_] d_X12_yard_40 c_X12_191 k_X12_done ⟨rfl, rfl⟩ (tt_139 b) rfl (Nat.le_of_ble_eq_true rfl) ⟨Nat.le_of_ble_eq_true rfl, Nat.le_of_ble_eq_true rfl⟩ ⟨Nat.le_refl _, Nat.le_refl _⟩ (ct_X12_done ?_)
      exact V_retI (pc := 43) d_X12_yard_43 rfl ⟨Nat.le_refl _, Nat.le_refl _⟩ (h2 l hl rfl c15.1 c15.2)
    · replace c15 := zf c15
      refine V_aload_n (pc := 18) d_X12_yard_18 rfl ?_
      refine V_iconst (pc := 19) (1) d_X12_yard_19 (by decide) ?_
      refine V_cvI (pc := 20) (n := 1) (c := 12) [_] d_X12_yard_20 c_X12_187 k_X12_refused ⟨rfl, rfl⟩ (tt_139 b) rfl (Nat.le_of_ble_eq_true rfl) ⟨Nat.le_of_ble_eq_true rfl, Nat.le_of_ble_eq_true rfl⟩ ⟨Nat.le_refl _, Nat.le_refl _⟩ (ct_X12_refused ?_)
      exact V_retI (pc := 23) d_X12_yard_23 rfl ⟨Nat.le_refl _, Nat.le_refl _⟩ (h1 (fun z => by omega))
theorem rg_of {x : Int32} {n : Nat} (h0 : 0 ≤ x.toInt) (h1 : x.toInt ≤ (n : Int)) (hn : n < 10000) : rg x (n + 1) := by
  obtain ⟨k, hk, e, -⟩ := nat_of (n := n + 1) h0 (by omega) (by omega)
  exact ⟨k, hk, e⟩
theorem pr_yard {x y : Int32} (h : Rel σ b) : PR G mX11_yard mX12_yard 3 3 [.int x, .int y] σ b := by
  have h0 := h
  obtain ⟨q, ns, nb, nl, nt, nr, hR, hX, hP, hQ, hK⟩ := h
  have hbd := hR.1.1
  refine ct_X11_yard hR (fun hv => ?_) (fun l hl e y0 y1 => ?_)
  · exact ⟨rfl, ct_X12_yard (RR_lo hR (fun a i _ _ => (by rw [up2_n (by omega)]))) (fun _ => ⟨rfl, _, rfl, rel_ref h0⟩) (fun k hk e y0 y1 => absurd ⟨badN hk (by omega) (by omega) e, y0, y1⟩ hv)⟩
  · refine ⟨rfl, ct_X12_yard (RR_lo hR (fun a i _ _ => (by rw [up2_n (by omega), up2_n (by omega)]))) (fun hv => absurd ⟨badN hl (by omega) (by omega) e, y0, y1⟩ hv) (fun l' hl' e' _ _ => ?_)⟩
    obtain rfl : l' = l := nI_inj (by omega) (by omega) (e'.symm.trans e)
    obtain ⟨hcn, hH, hC, hS, hLD, hB, hA, hT, hU⟩ := id hR
    have hbd := hcn.1
    have hyr : rg y 100 := rg_of (n := 99) y0 y1 (by omega)
    refine ⟨by rw [up2_n (by omega), up2_n (by omega)]; exact (hLD l' (by omega)).1.symm, _, rfl, ?_⟩
    exact ⟨q, ns, nb, nl, nt, nr, ⟨cCnt_cg hcn (fun i _ _ => (by rw [up2_n (by omega), up2_n (by omega), up2_n (by omega), up2_n (by omega)])) (fun i _ => (by rw [up2_n (by omega), up2_n (by omega), up2_n (by omega), up2_n (by omega)])), cH_cg hH (by rw [up2_n (by omega), up2_n (by omega), up2_n (by omega), up2_n (by omega)]) (fun d _ => (by rw [up2_n (by omega), up2_n (by omega), up2_n (by omega), up2_n (by omega)])) (fun d _ => ⟨(by rw [up2_n (by omega), up2_n (by omega), up2_n (by omega), up2_n (by omega)]), (by rw [up2_n (by omega), up2_n (by omega), up2_n (by omega), up2_n (by omega)])⟩), cC_cg hC (fun d _ => (by rw [up2_n (by omega), up2_n (by omega), up2_n (by omega), up2_n (by omega)])) (fun d _ => (by rw [up2_n (by omega), up2_n (by omega), up2_n (by omega), up2_n (by omega)])), cS_cg hS (fun k _ => ⟨fun j => (by rw [up2_n (by omega), up2_n (by omega), up2_n (by omega), up2_n (by omega)]), fun d _ => (by rw [up2_n (by omega), up2_n (by omega), up2_n (by omega), up2_n (by omega)])⟩) (fun k _ => ⟨(by rw [up2_n (by omega), up2_n (by omega), up2_n (by omega), up2_n (by omega)]), (by rw [up2_n (by omega), up2_n (by omega), up2_n (by omega), up2_n (by omega)]), (by rw [up2_n (by omega), up2_n (by omega), up2_n (by omega), up2_n (by omega)]), (by rw [up2_n (by omega), up2_n (by omega), up2_n (by omega), up2_n (by omega)])⟩) (fun i _ => ⟨(by rw [up2_n (by omega), up2_n (by omega), up2_n (by omega), up2_n (by omega)]), (by rw [up2_n (by omega), up2_n (by omega), up2_n (by omega), up2_n (by omega)])⟩), by
      intro e he
      obtain ⟨a0, a1, a2, a3⟩ := hLD e he
      have hw := cW_cg (σ' := up2 (up2 (up2 (up2 σ (33 + 4 * l') 0 y) 3 3 0) 159 l' y) 139 0 0) (V' := up2 (up2 (up2 (up2 σ (33 + 4 * l') 0 y) 3 3 0) 159 l' y) 139 0 0) a2 (fun k _ => ⟨by rw [up2_n (by omega), up2_n (by omega), up2_n (by omega), up2_n (by omega)], by rw [up2_n (by omega), up2_n (by omega), up2_n (by omega), up2_n (by omega)]⟩) (fun k _ => ⟨by rw [up2_n (by omega), up2_n (by omega), up2_n (by omega), up2_n (by omega)], by rw [up2_n (by omega), up2_n (by omega), up2_n (by omega), up2_n (by omega)]⟩)
      by_cases z : e = l'
      · subst z
        refine ⟨by rw [up2_n (by omega), up2_n (by omega), up2_n (by omega), up2_e (by omega), up2_n (by omega), up2_e (by omega)], ?_, hw, fun q => absurd q (by omega)⟩
        rw [up2_n (by omega), up2_e (by omega)]; exact hyr
      · refine ⟨?_, ?_, hw, fun q => ?_⟩
        · rw [up2_n (by omega), up2_n (by omega), up2_n (by omega), up2_n (by omega), up2_n (by omega), up2_n (by omega), up2_n (by omega), up2_n (by omega)]; exact a0
        · rw [up2_n (by omega), up2_n (by omega), up2_n (by omega), up2_n (by omega)]; exact a1
        · refine ⟨by rw [up2_n (by omega), up2_n (by omega), up2_n (by omega), up2_n (by omega)]; exact (a3 q).1, fun k hk => by rw [up2_n (by omega), up2_n (by omega), up2_n (by omega), up2_n (by omega)]; exact (a3 q).2 k hk⟩, cB_cg hB (fun i _ => ⟨fun j => (by rw [up2_n (by omega), up2_n (by omega), up2_n (by omega), up2_n (by omega)]), fun k _ => ⟨(by rw [up2_n (by omega), up2_n (by omega), up2_n (by omega), up2_n (by omega)]), (by rw [up2_n (by omega), up2_n (by omega), up2_n (by omega), up2_n (by omega)])⟩⟩) (fun i _ a _ _ => (by rw [up2_n (by omega), up2_n (by omega), up2_n (by omega), up2_n (by omega)])) (fun m _ => ⟨(by rw [up2_n (by omega), up2_n (by omega), up2_n (by omega), up2_n (by omega)]), (by rw [up2_n (by omega), up2_n (by omega), up2_n (by omega), up2_n (by omega)])⟩) (fun j _ => ⟨(by rw [up2_n (by omega), up2_n (by omega), up2_n (by omega), up2_n (by omega)]), (by rw [up2_n (by omega), up2_n (by omega), up2_n (by omega), up2_n (by omega)]), (by rw [up2_n (by omega), up2_n (by omega), up2_n (by omega), up2_n (by omega)])⟩), cA_cg hA (fun j _ i => (by rw [up2_n (by omega), up2_n (by omega), up2_n (by omega), up2_n (by omega)])) (fun j _ a _ _ => (by rw [up2_n (by omega), up2_n (by omega), up2_n (by omega), up2_n (by omega)])), cT_cg hT (fun j _ i => (by rw [up2_n (by omega), up2_n (by omega), up2_n (by omega), up2_n (by omega)])) (fun j _ a _ _ => (by rw [up2_n (by omega), up2_n (by omega), up2_n (by omega), up2_n (by omega)])), cU_cg hU (fun j _ i => (by rw [up2_n (by omega), up2_n (by omega), up2_n (by omega), up2_n (by omega)])) (fun j _ a _ _ => (by rw [up2_n (by omega), up2_n (by omega), up2_n (by omega), up2_n (by omega)]))⟩, cX_cg hX (by simp [up2]) ⟨(by rw [up2_n (by omega), up2_n (by omega), up2_n (by omega), up2_n (by omega)]), (by rw [up2_n (by omega), up2_n (by omega), up2_n (by omega), up2_n (by omega)])⟩, cP_cg hP ⟨(by rw [up2_n (by omega), up2_n (by omega), up2_n (by omega), up2_n (by omega)]), (by rw [up2_n (by omega), up2_n (by omega), up2_n (by omega), up2_n (by omega)])⟩ (fun j _ => ⟨(by rw [up2_n (by omega), up2_n (by omega), up2_n (by omega), up2_n (by omega)]), (by rw [up2_n (by omega), up2_n (by omega), up2_n (by omega), up2_n (by omega)])⟩), cQ_cg hQ (fun a i _ => (by rw [up2_n (by omega), up2_n (by omega), up2_n (by omega), up2_n (by omega)])), cK_cg hK (by rw [up2_n (by omega), up2_n (by omega), up2_n (by omega), up2_n (by omega)]) (fun a i _ => (by rw [up2_n (by omega), up2_n (by omega), up2_n (by omega), up2_n (by omega)])) (fun a i _ => (by rw [up2_n (by omega), up2_n (by omega), up2_n (by omega), up2_n (by omega)])) (by omega) (by omega) (by omega) (by omega) (by omega)⟩
end HC
