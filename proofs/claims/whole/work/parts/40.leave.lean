section HB
variable {G : Gl} {KV : Hp → Prop} {σ : Nat → Nat → Int32} {s : (Nat → Nat → Option Nat) × (Nat → Nat) × (Nat → Nat) × Nat} {a w q : Nat}
theorem ct_X10_learn {k : Nat} {x y : Int32} (hT : s.2.1 a = 11) (hR0 : s.1 a 0 = some w) (hR1 : s.1 a 1 = some q) (hTw : s.2.1 w = 20) (hTq : s.2.1 q = 20) (hLw : s.2.2.1 w = 10) (hLq : s.2.2.1 q = 10) (hk : k < 10) (hq : KV (up2 (up2 σ w k x) q k y, s)) : CM G mX10_learn (rl 1) [.ref a, .int (nI k), .int x, .int y] (σ, s) (QV KV) := by
  refine CM.of (by decide) (Nat.le_of_ble_eq_true rfl) (cats1 rfl) ?_
  refine V_aload_n (pc := 0) d_X10_learn_0 rfl ?_
  refine P_getR (pc := 1) d_X10_learn_1 f_X10_9 hT hR0 ?_
  refine V_iload_n (pc := 4) d_X10_learn_4 rfl ?_
  refine V_iload_n (pc := 5) d_X10_learn_5 rfl ?_
  refine P_iast (pc := 6) (k) d_X10_learn_6 hTw rfl (ln_of hLw ⟨by omega, by decide⟩) ?_
  refine V_aload_n (pc := 7) d_X10_learn_7 rfl ?_
  refine P_getR (pc := 8) d_X10_learn_8 f_X10_15 hT hR1 ?_
  refine V_iload_n (pc := 11) d_X10_learn_11 rfl ?_
  refine V_iload_n (pc := 12) d_X10_learn_12 rfl ?_
  refine P_iast (pc := 13) (k) d_X10_learn_13 hTq rfl (ln_of hLq ⟨by omega, by decide⟩) ?_
  exact V_retV (pc := 14) d_X10_learn_14 rfl ⟨Nat.le_refl _, Nat.le_refl _⟩ hq
end HB
section HC
variable {G : Gl} {R : Room} {F : Fn} {K : Int32 → Hp → Prop} {KV : Hp → Prop} {σ : Nat → Nat → Int32} {b : Bool}
theorem ct_X4_setOut {i k : Nat} {y : Int32} {q ns nb nl nt nr : Nat} (hR : RR σ 4 σ q ns nb nl nt nr) (hi : i < nb) (hk : k < ns) (hy : y = 0 ∨ y = 1) (ex : nxS σ i y = nI k) (hq5 : (waterS σ k (q / 96)).toInt < (draS σ i nl).toInt → K 0 (up2 (up2 (up2 (up2 (up2 σ (79 + 4 * i) k (waterS σ k (q / 96))) (80 + 4 * i) k (nI q)) (77 + 4 * i) 7 (σ 153 i)) (77 + 4 * i) 6 (nI k)) (77 + 4 * i) 5 (nI 3), sh b)) (hk2 : ¬ (waterS σ k (q / 96)).toInt < (draS σ i nl).toInt → K (longS σ k (q / 96) (if q % 96 < 24 ∨ 72 ≤ q % 96 then 1 else 0)) (up2 (up2 (up2 (up2 (up2 (up2 (up2 σ (79 + 4 * i) k (waterS σ k (q / 96))) (80 + 4 * i) k (nI q)) (77 + 4 * i) 7 (σ 153 i)) (77 + 4 * i) 6 (nI k)) (77 + 4 * i) 5 (if y = 0 then nI 2 else 1)) (77 + 4 * i) 8 (nI q + longS σ k (q / 96) (if q % 96 < 24 ∨ 72 ≤ q % 96 then 1 else 0))) (77 + 4 * i) 3 (σ 156 i - longS σ k (q / 96) (if q % 96 < 24 ∨ 72 ≤ q % 96 then 1 else 0)), sh b)) : CM G mX4_setOut (rl 4) [.ref 4, .ref (77 + 4 * i), .int y] (σ, sh b) (QI K) := by
  obtain ⟨⟨⟨hq2, hn10, hnb, hnl, hnt, hnr⟩, ⟨vq, vns, vnb, vnl, vnt, vnr⟩, ⟨rq, rns, rnb, rnl, rnt, rnr⟩, hpd⟩, hH, hC, hS, hLD, hB, hA, hT, hU⟩ := id hR
  refine CM.of (by decide) (Nat.le_of_ble_eq_true rfl) (cats1 rfl) ?_
  refine V_aload_n (pc := 0) d_X4_setOut_0 rfl ?_
  refine V_iload_n (pc := 1) d_X4_setOut_1 rfl ?_
  refine V_cvI (pc := 2) (n := 1) (c := 2) [_] d_X4_setOut_2 c_X4_163 k_X2_stretchToward ⟨rfl, rfl⟩ (tB b (by omega)) rfl (Nat.le_of_ble_eq_true rfl) ⟨Nat.le_of_ble_eq_true rfl, Nat.le_of_ble_eq_true rfl⟩ ⟨Nat.le_refl _, Nat.le_refl _⟩ (ct_X2_stretchToward (tB b (by omega)) ?_)
  rw [show (if y = 0 then σ (77 + 4 * i) 6 - 1 else σ (77 + 4 * i) 6) = nI k from by rw [(cB_f hB hi).2.2.2.2.2.2]; exact ex]
  refine V_istore_n (pc := 5) d_X4_setOut_5 (by decide) ?_
  refine V_aload_n (pc := 6) d_X4_setOut_6 rfl ?_
  refine V_iload_n (pc := 7) d_X4_setOut_7 rfl ?_
  refine V_aload_n (pc := 8) d_X4_setOut_8 rfl ?_
  refine V_cvI (pc := 9) (n := 1) (c := 4) [] d_X4_setOut_9 c_X4_156 k_X4_today ⟨rfl, rfl⟩ (tt_4 b) rfl (Nat.le_of_ble_eq_true rfl) ⟨Nat.le_of_ble_eq_true rfl, Nat.le_of_ble_eq_true rfl⟩ ⟨Nat.le_refl _, Nat.le_refl _⟩ (ct_X4_today rq hq2 ?_)
  refine V_cvI (pc := 12) (n := 2) (c := 4) [_, _] d_X4_setOut_12 c_X4_191 k_X4_waterOn ⟨rfl, rfl⟩ (tt_4 b) rfl (Nat.le_of_ble_eq_true rfl) ⟨Nat.le_of_ble_eq_true rfl, Nat.le_of_ble_eq_true rfl⟩ ⟨Nat.le_refl _, Nat.le_refl _⟩ (ct_X4_waterOn hH hC hS (by omega) hn10 (by omega) ?_)
  refine V_istore (pc := 15) d_X4_setOut_15 (by decide) ?_
  refine V_aload_n (pc := 17) d_X4_setOut_17 rfl ?_
  refine P_getR (pc := 18) d_X4_setOut_18 f_X4_170 (tB b (by omega)) (rB9 b (by omega)) ?_
  refine V_iload_n (pc := 21) d_X4_setOut_21 rfl ?_
  refine V_iload (pc := 22) d_X4_setOut_22 rfl ?_
  refine V_aload_n (pc := 24) d_X4_setOut_24 rfl ?_
  refine P_getI (pc := 25) d_X4_setOut_25 f_X4_9 (tt_4 b) ?_
  rw [rq]
  refine V_cvV (pc := 28) (n := 1) (c := 10) [_, _, _] d_X4_setOut_28 c_X4_195 k_X10_learn ⟨rfl, rfl⟩ (tBW b (by omega)) rfl (Nat.le_of_ble_eq_true rfl) ⟨Nat.le_of_ble_eq_true rfl, Nat.le_of_ble_eq_true rfl⟩ ⟨Nat.le_refl _, Nat.le_refl _⟩ (ct_X10_learn (tBW b (by omega)) (rBW0 b (by omega)) (rBW1 b (by omega)) (tBW0 b (by omega)) (tBW1 b (by omega)) (lBW0 b (by omega)) (lBW1 b (by omega)) (by omega) ?_)
  refine V_aload_n (pc := 31) d_X4_setOut_31 rfl ?_
  refine V_aload_n (pc := 32) d_X4_setOut_32 rfl ?_
  refine P_getI (pc := 33) d_X4_setOut_33 f_X4_199 (tB b (by omega)) ?_
  simp (disch := omega) only [up2_n, up2_e]
  rw [(cB_f hB (by omega : i < nb)).2.2.2.2.2.2]
  refine P_putI (pc := 36) d_X4_setOut_36 f_X4_202 (tB b (by omega)) ?_
  refine V_aload_n (pc := 39) d_X4_setOut_39 rfl ?_
  refine V_iload_n (pc := 40) d_X4_setOut_40 rfl ?_
  refine P_putI (pc := 41) d_X4_setOut_41 f_X4_199 (tB b (by omega)) ?_
  refine V_aload_n (pc := 44) d_X4_setOut_44 rfl ?_
  refine V_cvI (pc := 45) (n := 2) (c := 2) [] d_X4_setOut_45 c_X4_182 k_X2_draught ⟨rfl, rfl⟩ (tB b (by omega)) rfl (Nat.le_of_ble_eq_true rfl) ⟨Nat.le_of_ble_eq_true rfl, Nat.le_of_ble_eq_true rfl⟩ ⟨Nat.le_refl _, Nat.le_refl _⟩ (ct_X2_draught (tB b (by omega)) ?_)
  simp (disch := omega) only [up2_n, Int32.add_zero]
  rw [(cB_f hB hi).1, (cB_f hB hi).2.2.2.2.1, show σ 149 i + aboS σ i nl / nI 10 = draS σ i nl from rfl]
  refine V_iload (pc := 48) d_X4_setOut_48 rfl ?_
  refine B_icmp_le (pc := 50) 60 d_X4_setOut_50 (by decide) (fun c50 => ?_) (fun c50 => ?_)
  · refine V_aload_n (pc := 60) d_X4_setOut_60 rfl ?_
    refine V_iload_n (pc := 61) d_X4_setOut_61 rfl ?_
    refine V_cvI (pc := 62) (n := 3) (c := 4) [_] d_X4_setOut_62 c_X4_188 k_X4_longNow ⟨rfl, rfl⟩ (tt_4 b) rfl (Nat.le_of_ble_eq_true rfl) ⟨Nat.le_of_ble_eq_true rfl, Nat.le_of_ble_eq_true rfl⟩ ⟨Nat.le_refl _, Nat.le_refl _⟩ (ct_X4_longNow (q := q) (ns := ns) (cH_cg hH (by simp (disch := omega) only [up2_n, filr_n, film_n]) (fun d _ => (by simp (disch := omega) only [up2_n, filr_n, film_n])) (fun d _ => ⟨(by simp (disch := omega) only [up2_n, filr_n, film_n]), (by simp (disch := omega) only [up2_n, filr_n, film_n])⟩)) (cC_cg hC (fun d _ => (by simp (disch := omega) only [up2_n, filr_n, film_n])) (fun d _ => (by simp (disch := omega) only [up2_n, filr_n, film_n]))) (cS_cg hS (fun k _ => ⟨fun j => (by simp (disch := omega) only [up2_n, filr_n, film_n]), fun d _ => (by simp (disch := omega) only [up2_n, filr_n, film_n])⟩) (fun k _ => ⟨(by simp (disch := omega) only [up2_n, filr_n, film_n]), (by simp (disch := omega) only [up2_n, filr_n, film_n]), (by simp (disch := omega) only [up2_n, filr_n, film_n]), (by simp (disch := omega) only [up2_n, filr_n, film_n])⟩) (fun i _ => ⟨(by simp (disch := omega) only [up2_n, filr_n, film_n]), (by simp (disch := omega) only [up2_n, filr_n, film_n])⟩)) (by omega) (by omega) (by simp (disch := omega) only [up2_n]; exact rq) (by omega) ?_)
    rw [longS_ag (σ := σ) (fun a i _ _ => by simp (disch := omega) only [up2_n])]
    refine V_istore (pc := 65) d_X4_setOut_65 (by decide) ?_
    refine V_aload_n (pc := 67) d_X4_setOut_67 rfl ?_
    refine V_iload_n (pc := 68) d_X4_setOut_68 rfl ?_
    refine V_if_eq (pc := 69) 76 d_X4_setOut_69 (by decide) (fun c69 => ?_) (fun c69 => ?_)
    · refine V_iconst (pc := 76) (nI 2) d_X4_setOut_76 (by decide) ?_
      refine P_putI (pc := 77) d_X4_setOut_77 f_X4_160 (tB b (by omega)) ?_
      refine V_aload_n (pc := 80) d_X4_setOut_80 rfl ?_
      refine V_aload_n (pc := 81) d_X4_setOut_81 rfl ?_
      refine P_getI (pc := 82) d_X4_setOut_82 f_X4_9 (tt_4 b) ?_
      simp (disch := omega) only [up2_n, up2_e]
      rw [rq]
      refine V_iload (pc := 85) d_X4_setOut_85 rfl ?_
      refine V_iadd (pc := 87) d_X4_setOut_87 ?_
      refine P_putI (pc := 88) d_X4_setOut_88 f_X4_205 (tB b (by omega)) ?_
      refine V_aload_n (pc := 91) d_X4_setOut_91 rfl ?_
      refine V_dup (pc := 92) d_X4_setOut_92 rfl ?_
      refine P_getI (pc := 93) d_X4_setOut_93 f_X4_185 (tB b (by omega)) ?_
      simp (disch := omega) only [up2_n, up2_e]
      rw [(cB_f hB (by omega : i < nb)).2.2.2.1]
      refine V_iload (pc := 96) d_X4_setOut_96 rfl ?_
      refine V_isub (pc := 98) d_X4_setOut_98 ?_
      refine P_putI (pc := 99) d_X4_setOut_99 f_X4_185 (tB b (by omega)) ?_
      refine V_iload (pc := 102) d_X4_setOut_102 rfl ?_
      exact V_retI (pc := 104) d_X4_setOut_104 rfl ⟨Nat.le_refl _, Nat.le_refl _⟩ (by have k := hk2 (by omega); simp only [c69, if_true, if_false] at k; exact k)
    · refine V_iconst (pc := 72) (1) d_X4_setOut_72 (by decide) ?_
      refine V_goto (pc := 73) 77 d_X4_setOut_73 (by decide) ?_
      refine P_putI (pc := 77) d_X4_setOut_77 f_X4_160 (tB b (by omega)) ?_
      refine V_aload_n (pc := 80) d_X4_setOut_80 rfl ?_
      refine V_aload_n (pc := 81) d_X4_setOut_81 rfl ?_
      refine P_getI (pc := 82) d_X4_setOut_82 f_X4_9 (tt_4 b) ?_
      simp (disch := omega) only [up2_n, up2_e]
      rw [rq]
      refine V_iload (pc := 85) d_X4_setOut_85 rfl ?_
      refine V_iadd (pc := 87) d_X4_setOut_87 ?_
      refine P_putI (pc := 88) d_X4_setOut_88 f_X4_205 (tB b (by omega)) ?_
      refine V_aload_n (pc := 91) d_X4_setOut_91 rfl ?_
      refine V_dup (pc := 92) d_X4_setOut_92 rfl ?_
      refine P_getI (pc := 93) d_X4_setOut_93 f_X4_185 (tB b (by omega)) ?_
      simp (disch := omega) only [up2_n, up2_e]
      rw [(cB_f hB (by omega : i < nb)).2.2.2.1]
      refine V_iload (pc := 96) d_X4_setOut_96 rfl ?_
      refine V_isub (pc := 98) d_X4_setOut_98 ?_
      refine P_putI (pc := 99) d_X4_setOut_99 f_X4_185 (tB b (by omega)) ?_
      refine V_iload (pc := 102) d_X4_setOut_102 rfl ?_
      exact V_retI (pc := 104) d_X4_setOut_104 rfl ⟨Nat.le_refl _, Nat.le_refl _⟩ (by have k := hk2 (by omega); simp only [c69, if_true, if_false] at k; exact k)
  · refine V_aload_n (pc := 53) d_X4_setOut_53 rfl ?_
    refine V_iconst (pc := 54) (nI 3) d_X4_setOut_54 (by decide) ?_
    refine P_putI (pc := 55) d_X4_setOut_55 f_X4_160 (tB b (by omega)) ?_
    refine V_iconst (pc := 58) (0) d_X4_setOut_58 (by decide) ?_
    exact V_retI (pc := 59) d_X4_setOut_59 rfl ⟨Nat.le_refl _, Nat.le_refl _⟩ (hq5 (by omega))
theorem ct_X11_leave {x y : Int32} {q ns nb nl nt nr : Nat} (hR : RR σ 4 σ q ns nb nl nt nr) (hy : y = 0 ∨ y = 1) (h1 : ¬ (∃ i, i < nb ∧ x = nI i) → K (-1) (up2 σ 3 3 1, sh b)) (h3 : ∀ (i : Nat), i < nb → x = nI i → ¬ whyS σ i ns nl (q / 96) y (if q % 96 < 24 ∨ 72 ≤ q % 96 then 1 else 0) = 0 → K (-1) (up2 σ 3 3 (nI 20 + whyS σ i ns nl (q / 96) y (if q % 96 < 24 ∨ 72 ≤ q % 96 then 1 else 0)), sh b)) (h5 : ∀ (i : Nat), i < nb → x = nI i → whyS σ i ns nl (q / 96) y (if q % 96 < 24 ∨ 72 ≤ q % 96 then 1 else 0) = 0 ∧ (waterS σ (nxS σ i y).toNatClampNeg (q / 96)).toInt < (draS σ i nl).toInt → K (0) (up2 (up2 (up2 (up2 (up2 (up2 σ (79 + 4 * i) (nxS σ i y).toNatClampNeg (waterS σ (nxS σ i y).toNatClampNeg (q / 96))) (80 + 4 * i) (nxS σ i y).toNatClampNeg (nI q)) (77 + 4 * i) 7 (σ 153 i)) (77 + 4 * i) 6 (nxS σ i y)) (77 + 4 * i) 5 (nI 3)) 3 3 0, sh b)) (h2 : ∀ (i : Nat), i < nb → x = nI i → whyS σ i ns nl (q / 96) y (if q % 96 < 24 ∨ 72 ≤ q % 96 then 1 else 0) = 0 ∧ ¬ (waterS σ (nxS σ i y).toNatClampNeg (q / 96)).toInt < (draS σ i nl).toInt → K (longS σ (nxS σ i y).toNatClampNeg (q / 96) (if q % 96 < 24 ∨ 72 ≤ q % 96 then 1 else 0)) (up2 (up2 (up2 (up2 (up2 (up2 (up2 (up2 σ (79 + 4 * i) (nxS σ i y).toNatClampNeg (waterS σ (nxS σ i y).toNatClampNeg (q / 96))) (80 + 4 * i) (nxS σ i y).toNatClampNeg (nI q)) (77 + 4 * i) 7 (σ 153 i)) (77 + 4 * i) 6 (nxS σ i y)) (77 + 4 * i) 5 (if y = 0 then nI 2 else 1)) (77 + 4 * i) 8 (nI q + longS σ (nxS σ i y).toNatClampNeg (q / 96) (if q % 96 < 24 ∨ 72 ≤ q % 96 then 1 else 0))) (77 + 4 * i) 3 (σ 156 i - longS σ (nxS σ i y).toNatClampNeg (q / 96) (if q % 96 < 24 ∨ 72 ≤ q % 96 then 1 else 0))) 3 3 0, sh b)) : CM G mX11_leave (rl 5) [.ref 3, .int x, .int y] (σ, sh b) (QI K) := by
  obtain ⟨⟨⟨hq2, hn10, hnb, hnl, hnt, hnr⟩, ⟨vq, vns, vnb, vnl, vnt, vnr⟩, ⟨rq, rns, rnb, rnl, rnt, rnr⟩, hpd⟩, hH, hC, hS, hLD, hB, hA, hT, hU⟩ := id hR
  refine CM.of (by decide) (Nat.le_of_ble_eq_true rfl) (cats1 rfl) ?_
  refine V_aload_n (pc := 0) d_X11_leave_0 rfl ?_
  refine P_getR (pc := 1) d_X11_leave_1 f_X11_10 (tt_3 b) (rr_3_0 b) ?_
  refine V_iload_n (pc := 4) d_X11_leave_4 rfl ?_
  refine V_cvI (pc := 5) (n := 2) (c := 4) [_] d_X11_leave_5 c_X11_136 k_X4_isBoat ⟨rfl, rfl⟩ (tt_4 b) rfl (Nat.le_of_ble_eq_true rfl) ⟨Nat.le_of_ble_eq_true rfl, Nat.le_of_ble_eq_true rfl⟩ ⟨Nat.le_refl _, Nat.le_refl _⟩ (ct_X4_isBoat rnb (by omega) ?_)
  refine V_if_ne (pc := 8) 17 d_X11_leave_8 (by decide) (fun c8 => ?_) (fun c8 => ?_)
  · replace c8 := zt c8
    obtain ⟨i, hi, rfl, -⟩ := nat_of (n := nb) (x := x) (by omega) (by omega) (by omega)
    refine V_aload_n (pc := 17) d_X11_leave_17 rfl ?_
    refine P_getR (pc := 18) d_X11_leave_18 f_X11_10 (tt_3 b) (rr_3_0 b) ?_
    refine P_getR (pc := 21) d_X11_leave_21 f_X11_113 (tt_4 b) (rr_4_12 b) ?_
    refine V_iload_n (pc := 24) d_X11_leave_24 rfl ?_
    refine P_aald (pc := 25) (c := 2) (i) d_X11_leave_25 (tt_9 b) (by decide) rfl (ln_of (ll_9 b) ⟨by omega, by decide⟩) (rB b (by omega)) ?_
    refine V_astore_n (pc := 26) d_X11_leave_26 (by decide) ?_
    refine V_aload_n (pc := 27) d_X11_leave_27 rfl ?_
    refine P_getR (pc := 28) d_X11_leave_28 f_X11_10 (tt_3 b) (rr_3_0 b) ?_
    refine V_aload_n (pc := 31) d_X11_leave_31 rfl ?_
    refine V_iload_n (pc := 32) d_X11_leave_32 rfl ?_
    refine V_cvI (pc := 33) (n := 4) (c := 4) [_, _] d_X11_leave_33 c_X11_173 k_X4_whyNot ⟨rfl, rfl⟩ (tt_4 b) rfl (Nat.le_of_ble_eq_true rfl) ⟨Nat.le_of_ble_eq_true rfl, Nat.le_of_ble_eq_true rfl⟩ ⟨Nat.le_refl _, Nat.le_refl _⟩ (ct_X4_whyNot hH hC hS hn10 rns rq hq2 hB (by omega) hnb ?_)
    refine V_istore (pc := 36) d_X11_leave_36 (by decide) ?_
    refine V_iload (pc := 38) d_X11_leave_38 rfl ?_
    refine V_if_eq (pc := 40) 53 d_X11_leave_40 (by decide) (fun c40 => ?_) (fun c40 => ?_)
    · obtain ⟨w0, k, hk, ex, wl⟩ := why0 (by omega) c40
      have ek : (nxS σ i y).toNatClampNeg = k := by rw [ex, nI_clamp (by omega)]
      have g5 := h5 i hi rfl
      have g2 := h2 i hi rfl
      rw [ek, ex] at g5 g2
      refine V_aload_n (pc := 53) d_X11_leave_53 rfl ?_
      refine V_aload_n (pc := 54) d_X11_leave_54 rfl ?_
      refine P_getR (pc := 55) d_X11_leave_55 f_X11_10 (tt_3 b) (rr_3_0 b) ?_
      refine V_aload_n (pc := 58) d_X11_leave_58 rfl ?_
      refine V_iload_n (pc := 59) d_X11_leave_59 rfl ?_
      refine V_cvI (pc := 60) (n := 4) (c := 4) [_, _] d_X11_leave_60 c_X11_177 k_X4_setOut ⟨rfl, rfl⟩ (tt_4 b) rfl (Nat.le_of_ble_eq_true rfl) ⟨Nat.le_of_ble_eq_true rfl, Nat.le_of_ble_eq_true rfl⟩ ⟨Nat.le_refl _, Nat.le_refl _⟩ (ct_X4_setOut hR (by omega) hk hy ex (fun ha => ?_) (fun ha => ?_))
      · refine V_cvI (pc := 63) (n := 1) (c := 11) [_] d_X11_leave_63 c_X11_72 k_X11_done ⟨rfl, rfl⟩ (tt_3 b) rfl (Nat.le_of_ble_eq_true rfl) ⟨Nat.le_of_ble_eq_true rfl, Nat.le_of_ble_eq_true rfl⟩ ⟨Nat.le_refl _, Nat.le_refl _⟩ (ct_X11_done ?_)
        exact V_retI (pc := 66) d_X11_leave_66 rfl ⟨Nat.le_refl _, Nat.le_refl _⟩ (g5 ⟨c40, ha⟩)
      · refine V_cvI (pc := 63) (n := 1) (c := 11) [_] d_X11_leave_63 c_X11_72 k_X11_done ⟨rfl, rfl⟩ (tt_3 b) rfl (Nat.le_of_ble_eq_true rfl) ⟨Nat.le_of_ble_eq_true rfl, Nat.le_of_ble_eq_true rfl⟩ ⟨Nat.le_refl _, Nat.le_refl _⟩ (ct_X11_done ?_)
        exact V_retI (pc := 66) d_X11_leave_66 rfl ⟨Nat.le_refl _, Nat.le_refl _⟩ (g2 ⟨c40, ha⟩)
    · refine V_aload_n (pc := 43) d_X11_leave_43 rfl ?_
      refine V_bipush (pc := 44) (nI 20) d_X11_leave_44 (by decide) ?_
      refine V_iload (pc := 46) d_X11_leave_46 rfl ?_
      refine V_iadd (pc := 48) d_X11_leave_48 ?_
      refine V_cvI (pc := 49) (n := 1) (c := 11) [_] d_X11_leave_49 c_X11_55 k_X11_refused ⟨rfl, rfl⟩ (tt_3 b) rfl (Nat.le_of_ble_eq_true rfl) ⟨Nat.le_of_ble_eq_true rfl, Nat.le_of_ble_eq_true rfl⟩ ⟨Nat.le_refl _, Nat.le_refl _⟩ (ct_X11_refused ?_)
      exact V_retI (pc := 52) d_X11_leave_52 rfl ⟨Nat.le_refl _, Nat.le_refl _⟩ (h3 i hi rfl c40)
  · replace c8 := zf c8
    refine V_aload_n (pc := 11) d_X11_leave_11 rfl ?_
    refine V_iconst (pc := 12) (1) d_X11_leave_12 (by decide) ?_
    refine V_cvI (pc := 13) (n := 1) (c := 11) [_] d_X11_leave_13 c_X11_55 k_X11_refused ⟨rfl, rfl⟩ (tt_3 b) rfl (Nat.le_of_ble_eq_true rfl) ⟨Nat.le_of_ble_eq_true rfl, Nat.le_of_ble_eq_true rfl⟩ ⟨Nat.le_refl _, Nat.le_refl _⟩ (ct_X11_refused ?_)
    exact V_retI (pc := 16) d_X11_leave_16 rfl ⟨Nat.le_refl _, Nat.le_refl _⟩ (h1 (by
                        rintro ⟨i, gi, ei⟩
                        try subst ei
                        simp (disch := omega) only [nI_toInt, nI_eq] at *
                        omega))
theorem ct_X12_leave {x y : Int32} {ρ : Sg} {q ns nb nl nt nr : Nat} (hR : RR ρ 4 σ q ns nb nl nt nr) (hy : y = 0 ∨ y = 1) (h1 : ¬ (∃ i, i < nb ∧ x = nI i) → K (-1) (up2 σ 139 0 1, sh b)) (h3 : ∀ (i : Nat), i < nb → x = nI i → ¬ whyS σ i ns nl (q / 96) y (if q % 96 < 24 ∨ 72 ≤ q % 96 then 1 else 0) = 0 → K (-1) (up2 σ 139 0 (nI 20 + whyS σ i ns nl (q / 96) y (if q % 96 < 24 ∨ 72 ≤ q % 96 then 1 else 0)), sh b)) (h5 : ∀ (i : Nat), i < nb → x = nI i → whyS σ i ns nl (q / 96) y (if q % 96 < 24 ∨ 72 ≤ q % 96 then 1 else 0) = 0 ∧ (waterS σ (nxS σ i y).toNatClampNeg (q / 96)).toInt < (draS σ i nl).toInt → K (0) (up2 (up2 (up2 (up2 (up2 (up2 σ 157 (10 * i + (nxS σ i y).toNatClampNeg) (waterS σ (nxS σ i y).toNatClampNeg (q / 96))) 158 (10 * i + (nxS σ i y).toNatClampNeg) (nI q)) 154 i (σ 153 i)) 153 i (nxS σ i y)) 152 i (nI 3)) 139 0 0, sh b)) (h2 : ∀ (i : Nat), i < nb → x = nI i → whyS σ i ns nl (q / 96) y (if q % 96 < 24 ∨ 72 ≤ q % 96 then 1 else 0) = 0 ∧ ¬ (waterS σ (nxS σ i y).toNatClampNeg (q / 96)).toInt < (draS σ i nl).toInt → K (longS σ (nxS σ i y).toNatClampNeg (q / 96) (if q % 96 < 24 ∨ 72 ≤ q % 96 then 1 else 0)) (up2 (up2 (up2 (up2 (up2 (up2 (up2 (up2 σ 157 (10 * i + (nxS σ i y).toNatClampNeg) (waterS σ (nxS σ i y).toNatClampNeg (q / 96))) 158 (10 * i + (nxS σ i y).toNatClampNeg) (nI q)) 154 i (σ 153 i)) 153 i (nxS σ i y)) 152 i (if y = 0 then nI 2 else 1)) 155 i (nI q + longS σ (nxS σ i y).toNatClampNeg (q / 96) (if q % 96 < 24 ∨ 72 ≤ q % 96 then 1 else 0))) 156 i (σ 156 i - longS σ (nxS σ i y).toNatClampNeg (q / 96) (if q % 96 < 24 ∨ 72 ≤ q % 96 then 1 else 0))) 139 0 0, sh b)) : CM G mX12_leave (rl 5) [.ref 139, .int x, .int y] (σ, sh b) (QI K) := by
  obtain ⟨⟨⟨hq2, hn10, hnb, hnl, hnt, hnr⟩, ⟨vq, vns, vnb, vnl, vnt, vnr⟩, ⟨rq, rns, rnb, rnl, rnt, rnr⟩, hpd⟩, hH, hC, hS, hLD, hB, hA, hT, hU⟩ := id hR
  refine CM.of (by decide) (Nat.le_of_ble_eq_true rfl) (cats1 rfl) ?_
  refine V_aload_n (pc := 0) d_X12_leave_0 rfl ?_
  refine V_iload_n (pc := 1) d_X12_leave_1 rfl ?_
  refine V_cvI (pc := 2) (n := 2) (c := 12) [_] d_X12_leave_2 c_X12_238 k_X12_isBoat ⟨rfl, rfl⟩ (tt_139 b) rfl (Nat.le_of_ble_eq_true rfl) ⟨Nat.le_of_ble_eq_true rfl, Nat.le_of_ble_eq_true rfl⟩ ⟨Nat.le_refl _, Nat.le_refl _⟩ (ct_X12_isBoat vnb (by omega) ?_)
  refine V_if_ne (pc := 5) 14 d_X12_leave_5 (by decide) (fun c5 => ?_) (fun c5 => ?_)
  · replace c5 := zt c5
    obtain ⟨i, hi, rfl, -⟩ := nat_of (n := nb) (x := x) (by omega) (by omega) (by omega)
    refine V_aload_n (pc := 14) d_X12_leave_14 rfl ?_
    refine V_iload_n (pc := 15) d_X12_leave_15 rfl ?_
    refine V_iload_n (pc := 16) d_X12_leave_16 rfl ?_
    refine V_cvI (pc := 17) (n := 4) (c := 12) [_, _] d_X12_leave_17 c_X12_254 k_X12_whyNot ⟨rfl, rfl⟩ (tt_139 b) rfl (Nat.le_of_ble_eq_true rfl) ⟨Nat.le_of_ble_eq_true rfl, Nat.le_of_ble_eq_true rfl⟩ ⟨Nat.le_refl _, Nat.le_refl _⟩ (ct_X12_whyNot hH hC hS hn10 vns vq hq2 vnl hnl (by omega) ?_)
    refine V_istore_n (pc := 20) d_X12_leave_20 (by decide) ?_
    refine V_iload_n (pc := 21) d_X12_leave_21 rfl ?_
    refine V_if_eq (pc := 22) 34 d_X12_leave_22 (by decide) (fun c22 => ?_) (fun c22 => ?_)
    · obtain ⟨w0, k, hk, ex, wl⟩ := why0 (by omega) c22
      have ek : (nxS σ i y).toNatClampNeg = k := by rw [ex, nI_clamp (by omega)]
      have g5 := h5 i hi rfl
      have g2 := h2 i hi rfl
      rw [ek, ex] at g5 g2
      refine V_aload_n (pc := 34) d_X12_leave_34 rfl ?_
      refine V_iload_n (pc := 35) d_X12_leave_35 rfl ?_
      refine V_iload_n (pc := 36) d_X12_leave_36 rfl ?_
      refine V_cvI (pc := 37) (n := 3) (c := 12) [_, _] d_X12_leave_37 c_X12_251 k_X12_ahead ⟨rfl, rfl⟩ (tt_139 b) rfl (Nat.le_of_ble_eq_true rfl) ⟨Nat.le_of_ble_eq_true rfl, Nat.le_of_ble_eq_true rfl⟩ ⟨Nat.le_refl _, Nat.le_refl _⟩ (ct_X12_ahead (by omega) vns hn10 ?_)
      rw [ex, show (if 0 ≤ (nI k).toInt ∧ (nI k).toInt ≤ (ns : Int) - 1 then nI k else -1) = nI k from if_pos ⟨by rw [nI_toInt (by omega)]; omega, by rw [nI_toInt (by omega)]; omega⟩]
      refine V_istore (pc := 40) d_X12_leave_40 (by decide) ?_
      refine V_aload_n (pc := 42) d_X12_leave_42 rfl ?_
      refine V_iload (pc := 43) d_X12_leave_43 rfl ?_
      refine V_aload_n (pc := 45) d_X12_leave_45 rfl ?_
      refine V_cvI (pc := 46) (n := 1) (c := 12) [] d_X12_leave_46 c_X12_221 k_X12_isNight ⟨rfl, rfl⟩ (tt_139 b) rfl (Nat.le_of_ble_eq_true rfl) ⟨Nat.le_of_ble_eq_true rfl, Nat.le_of_ble_eq_true rfl⟩ ⟨Nat.le_refl _, Nat.le_refl _⟩ (ct_X12_isNight vq hq2 ?_)
      refine V_cvI (pc := 49) (n := 2) (c := 12) [_, _] d_X12_leave_49 c_X12_225 k_X12_longOf ⟨rfl, rfl⟩ (tt_139 b) rfl (Nat.le_of_ble_eq_true rfl) ⟨Nat.le_of_ble_eq_true rfl, Nat.le_of_ble_eq_true rfl⟩ ⟨Nat.le_refl _, Nat.le_refl _⟩ (ct_X12_longOf hH hC hS (by omega) hn10 vq hq2 ?_)
      refine V_istore (pc := 52) d_X12_leave_52 (by decide) ?_
      refine V_aload_n (pc := 54) d_X12_leave_54 rfl ?_
      refine V_iload (pc := 55) d_X12_leave_55 rfl ?_
      refine V_aload_n (pc := 57) d_X12_leave_57 rfl ?_
      refine V_cvI (pc := 58) (n := 1) (c := 12) [] d_X12_leave_58 c_X12_218 k_X12_today ⟨rfl, rfl⟩ (tt_139 b) rfl (Nat.le_of_ble_eq_true rfl) ⟨Nat.le_of_ble_eq_true rfl, Nat.le_of_ble_eq_true rfl⟩ ⟨Nat.le_refl _, Nat.le_refl _⟩ (ct_X12_today vq hq2 ?_)
      refine V_cvI (pc := 61) (n := 3) (c := 12) [_, _] d_X12_leave_61 c_X12_215 k_X12_waterOf ⟨rfl, rfl⟩ (tt_139 b) rfl (Nat.le_of_ble_eq_true rfl) ⟨Nat.le_of_ble_eq_true rfl, Nat.le_of_ble_eq_true rfl⟩ ⟨Nat.le_refl _, Nat.le_refl _⟩ (ct_X12_waterOf hH hC hS (by omega) hn10 (by omega) ?_)
      refine V_istore (pc := 64) d_X12_leave_64 (by decide) ?_
      refine V_aload_n (pc := 66) d_X12_leave_66 rfl ?_
      refine P_getR (pc := 67) d_X12_leave_67 f_X12_62 (tt_139 b) (rr_139_21 b) ?_
      refine V_bipush (pc := 70) (nI 10) d_X12_leave_70 (by decide) ?_
      refine V_iload_n (pc := 72) d_X12_leave_72 rfl ?_
      refine V_imul (pc := 73) d_X12_leave_73 ?_
      refine V_iload (pc := 74) d_X12_leave_74 rfl ?_
      refine V_iadd (pc := 76) d_X12_leave_76 ?_
      refine V_iload (pc := 77) d_X12_leave_77 rfl ?_
      refine P_iast (pc := 79) (((10 * i) + k)) d_X12_leave_79 (tt_157 b) (by simp only [nI_add, pk_mul, nI_1]) (ln_of (ll_157 b) ⟨by omega, by decide⟩) ?_
      refine V_aload_n (pc := 80) d_X12_leave_80 rfl ?_
      refine P_getR (pc := 81) d_X12_leave_81 f_X12_65 (tt_139 b) (rr_139_22 b) ?_
      refine V_bipush (pc := 84) (nI 10) d_X12_leave_84 (by decide) ?_
      refine V_iload_n (pc := 86) d_X12_leave_86 rfl ?_
      refine V_imul (pc := 87) d_X12_leave_87 ?_
      refine V_iload (pc := 88) d_X12_leave_88 rfl ?_
      refine V_iadd (pc := 90) d_X12_leave_90 ?_
      refine V_aload_n (pc := 91) d_X12_leave_91 rfl ?_
      refine P_getI (pc := 92) d_X12_leave_92 f_X12_184 (tt_139 b) ?_
      simp (disch := omega) only [up2_n, up2_e]
      rw [vq]
      refine P_iast (pc := 95) (((10 * i) + k)) d_X12_leave_95 (tt_158 b) (by simp only [nI_add, pk_mul, nI_1]) (ln_of (ll_158 b) ⟨by omega, by decide⟩) ?_
      refine V_aload_n (pc := 96) d_X12_leave_96 rfl ?_
      refine P_getR (pc := 97) d_X12_leave_97 f_X12_53 (tt_139 b) (rr_139_18 b) ?_
      refine V_iload_n (pc := 100) d_X12_leave_100 rfl ?_
      refine V_aload_n (pc := 101) d_X12_leave_101 rfl ?_
      refine P_getR (pc := 102) d_X12_leave_102 f_X12_50 (tt_139 b) (rr_139_17 b) ?_
      refine V_iload_n (pc := 105) d_X12_leave_105 rfl ?_
      refine P_iald (pc := 106) (i) d_X12_leave_106 (tt_153 b) rfl (ln_of (ll_153 b) ⟨by omega, by decide⟩) ?_
      simp (disch := omega) only [up2_n, up2_e]
      refine P_iast (pc := 107) (i) d_X12_leave_107 (tt_154 b) rfl (ln_of (ll_154 b) ⟨by omega, by decide⟩) ?_
      refine V_aload_n (pc := 108) d_X12_leave_108 rfl ?_
      refine P_getR (pc := 109) d_X12_leave_109 f_X12_50 (tt_139 b) (rr_139_17 b) ?_
      refine V_iload_n (pc := 112) d_X12_leave_112 rfl ?_
      refine V_iload (pc := 113) d_X12_leave_113 rfl ?_
      refine P_iast (pc := 115) (i) d_X12_leave_115 (tt_153 b) rfl (ln_of (ll_153 b) ⟨by omega, by decide⟩) ?_
      refine V_aload_n (pc := 116) d_X12_leave_116 rfl ?_
      refine V_iload_n (pc := 117) d_X12_leave_117 rfl ?_
      refine V_cvI (pc := 118) (n := 2) (c := 12) [_] d_X12_leave_118 c_X12_241 k_X12_draught ⟨rfl, rfl⟩ (tt_139 b) rfl (Nat.le_of_ble_eq_true rfl) ⟨Nat.le_of_ble_eq_true rfl, Nat.le_of_ble_eq_true rfl⟩ ⟨Nat.le_refl _, Nat.le_refl _⟩ (ct_X12_draught (by simp (disch := omega) only [up2_n]; exact vnl) hnl (by omega) ?_)
      rw [show draS (up2 (up2 (up2 (up2 σ 157 (10 * i + k) (waterS σ k (q / 96))) 158 (10 * i + k) (nI q)) 154 i (σ 153 i)) 153 i (nI k)) i nl = draS σ i nl from by rw [draS, aboS_cg (V := σ) (fun j _ => ⟨(by simp (disch := omega) only [up2_n, filr_n, film_n]), (by simp (disch := omega) only [up2_n, filr_n, film_n]), (by simp (disch := omega) only [up2_n, filr_n, film_n])⟩), up2_n (by omega), up2_n (by omega), up2_n (by omega), up2_n (by omega)]; rfl]
      refine V_iload (pc := 121) d_X12_leave_121 rfl ?_
      refine B_icmp_le (pc := 123) 139 d_X12_leave_123 (by decide) (fun c123 => ?_) (fun c123 => ?_)
      · refine V_aload_n (pc := 139) d_X12_leave_139 rfl ?_
        refine P_getR (pc := 140) d_X12_leave_140 f_X12_47 (tt_139 b) (rr_139_16 b) ?_
        refine V_iload_n (pc := 143) d_X12_leave_143 rfl ?_
        refine V_iload_n (pc := 144) d_X12_leave_144 rfl ?_
        refine V_if_eq (pc := 145) 152 d_X12_leave_145 (by decide) (fun c145 => ?_) (fun c145 => ?_)
        · refine V_iconst (pc := 152) (nI 2) d_X12_leave_152 (by decide) ?_
          refine P_iast (pc := 153) (i) d_X12_leave_153 (tt_152 b) rfl (ln_of (ll_152 b) ⟨by omega, by decide⟩) ?_
          refine V_aload_n (pc := 154) d_X12_leave_154 rfl ?_
          refine P_getR (pc := 155) d_X12_leave_155 f_X12_56 (tt_139 b) (rr_139_19 b) ?_
          refine V_iload_n (pc := 158) d_X12_leave_158 rfl ?_
          refine V_aload_n (pc := 159) d_X12_leave_159 rfl ?_
          refine P_getI (pc := 160) d_X12_leave_160 f_X12_184 (tt_139 b) ?_
          simp (disch := omega) only [up2_n, up2_e]
          rw [vq]
          refine V_iload (pc := 163) d_X12_leave_163 rfl ?_
          refine V_iadd (pc := 165) d_X12_leave_165 ?_
          refine P_iast (pc := 166) (i) d_X12_leave_166 (tt_155 b) rfl (ln_of (ll_155 b) ⟨by omega, by decide⟩) ?_
          refine V_aload_n (pc := 167) d_X12_leave_167 rfl ?_
          refine P_getR (pc := 168) d_X12_leave_168 f_X12_59 (tt_139 b) (rr_139_20 b) ?_
          refine V_iload_n (pc := 171) d_X12_leave_171 rfl ?_
          refine V_dup2 (pc := 172) d_X12_leave_172 rfl rfl ?_
          refine P_iald (pc := 173) (i) d_X12_leave_173 (tt_156 b) rfl (ln_of (ll_156 b) ⟨by omega, by decide⟩) ?_
          simp (disch := omega) only [up2_n, up2_e]
          refine V_iload (pc := 174) d_X12_leave_174 rfl ?_
          refine V_isub (pc := 176) d_X12_leave_176 ?_
          refine P_iast (pc := 177) (i) d_X12_leave_177 (tt_156 b) rfl (ln_of (ll_156 b) ⟨by omega, by decide⟩) ?_
          refine V_aload_n (pc := 178) d_X12_leave_178 rfl ?_
          refine V_iload (pc := 179) d_X12_leave_179 rfl ?_
          refine V_cvI (pc := 181) (n := 1) (c := 12) [_] d_X12_leave_181 c_X12_191 k_X12_done ⟨rfl, rfl⟩ (tt_139 b) rfl (Nat.le_of_ble_eq_true rfl) ⟨Nat.le_of_ble_eq_true rfl, Nat.le_of_ble_eq_true rfl⟩ ⟨Nat.le_refl _, Nat.le_refl _⟩ (ct_X12_done ?_)
          exact V_retI (pc := 184) d_X12_leave_184 rfl ⟨Nat.le_refl _, Nat.le_refl _⟩ (by have z := g2 ⟨c22, by omega⟩; simp only [c145, if_true, if_false] at z; exact z)
        · refine V_iconst (pc := 148) (1) d_X12_leave_148 (by decide) ?_
          refine V_goto (pc := 149) 153 d_X12_leave_149 (by decide) ?_
          refine P_iast (pc := 153) (i) d_X12_leave_153 (tt_152 b) rfl (ln_of (ll_152 b) ⟨by omega, by decide⟩) ?_
          refine V_aload_n (pc := 154) d_X12_leave_154 rfl ?_
          refine P_getR (pc := 155) d_X12_leave_155 f_X12_56 (tt_139 b) (rr_139_19 b) ?_
          refine V_iload_n (pc := 158) d_X12_leave_158 rfl ?_
          refine V_aload_n (pc := 159) d_X12_leave_159 rfl ?_
          refine P_getI (pc := 160) d_X12_leave_160 f_X12_184 (tt_139 b) ?_
          simp (disch := omega) only [up2_n, up2_e]
          rw [vq]
          refine V_iload (pc := 163) d_X12_leave_163 rfl ?_
          refine V_iadd (pc := 165) d_X12_leave_165 ?_
          refine P_iast (pc := 166) (i) d_X12_leave_166 (tt_155 b) rfl (ln_of (ll_155 b) ⟨by omega, by decide⟩) ?_
          refine V_aload_n (pc := 167) d_X12_leave_167 rfl ?_
          refine P_getR (pc := 168) d_X12_leave_168 f_X12_59 (tt_139 b) (rr_139_20 b) ?_
          refine V_iload_n (pc := 171) d_X12_leave_171 rfl ?_
          refine V_dup2 (pc := 172) d_X12_leave_172 rfl rfl ?_
          refine P_iald (pc := 173) (i) d_X12_leave_173 (tt_156 b) rfl (ln_of (ll_156 b) ⟨by omega, by decide⟩) ?_
          simp (disch := omega) only [up2_n, up2_e]
          refine V_iload (pc := 174) d_X12_leave_174 rfl ?_
          refine V_isub (pc := 176) d_X12_leave_176 ?_
          refine P_iast (pc := 177) (i) d_X12_leave_177 (tt_156 b) rfl (ln_of (ll_156 b) ⟨by omega, by decide⟩) ?_
          refine V_aload_n (pc := 178) d_X12_leave_178 rfl ?_
          refine V_iload (pc := 179) d_X12_leave_179 rfl ?_
          refine V_cvI (pc := 181) (n := 1) (c := 12) [_] d_X12_leave_181 c_X12_191 k_X12_done ⟨rfl, rfl⟩ (tt_139 b) rfl (Nat.le_of_ble_eq_true rfl) ⟨Nat.le_of_ble_eq_true rfl, Nat.le_of_ble_eq_true rfl⟩ ⟨Nat.le_refl _, Nat.le_refl _⟩ (ct_X12_done ?_)
          exact V_retI (pc := 184) d_X12_leave_184 rfl ⟨Nat.le_refl _, Nat.le_refl _⟩ (by have z := g2 ⟨c22, by omega⟩; simp only [c145, if_true, if_false] at z; exact z)
      · refine V_aload_n (pc := 126) d_X12_leave_126 rfl ?_
        refine P_getR (pc := 127) d_X12_leave_127 f_X12_47 (tt_139 b) (rr_139_16 b) ?_
        refine V_iload_n (pc := 130) d_X12_leave_130 rfl ?_
        refine V_iconst (pc := 131) (nI 3) d_X12_leave_131 (by decide) ?_
        refine P_iast (pc := 132) (i) d_X12_leave_132 (tt_152 b) rfl (ln_of (ll_152 b) ⟨by omega, by decide⟩) ?_
        refine V_aload_n (pc := 133) d_X12_leave_133 rfl ?_
        refine V_iconst (pc := 134) (0) d_X12_leave_134 (by decide) ?_
        refine V_cvI (pc := 135) (n := 1) (c := 12) [_] d_X12_leave_135 c_X12_191 k_X12_done ⟨rfl, rfl⟩ (tt_139 b) rfl (Nat.le_of_ble_eq_true rfl) ⟨Nat.le_of_ble_eq_true rfl, Nat.le_of_ble_eq_true rfl⟩ ⟨Nat.le_refl _, Nat.le_refl _⟩ (ct_X12_done ?_)
        exact V_retI (pc := 138) d_X12_leave_138 rfl ⟨Nat.le_refl _, Nat.le_refl _⟩ (g5 ⟨c22, by omega⟩)
    · refine V_aload_n (pc := 25) d_X12_leave_25 rfl ?_
      refine V_bipush (pc := 26) (nI 20) d_X12_leave_26 (by decide) ?_
      refine V_iload_n (pc := 28) d_X12_leave_28 rfl ?_
      refine V_iadd (pc := 29) d_X12_leave_29 ?_
      refine V_cvI (pc := 30) (n := 1) (c := 12) [_] d_X12_leave_30 c_X12_187 k_X12_refused ⟨rfl, rfl⟩ (tt_139 b) rfl (Nat.le_of_ble_eq_true rfl) ⟨Nat.le_of_ble_eq_true rfl, Nat.le_of_ble_eq_true rfl⟩ ⟨Nat.le_refl _, Nat.le_refl _⟩ (ct_X12_refused ?_)
      exact V_retI (pc := 33) d_X12_leave_33 rfl ⟨Nat.le_refl _, Nat.le_refl _⟩ (h3 i hi rfl c22)
  · replace c5 := zf c5
    refine V_aload_n (pc := 8) d_X12_leave_8 rfl ?_
    refine V_iconst (pc := 9) (1) d_X12_leave_9 (by decide) ?_
    refine V_cvI (pc := 10) (n := 1) (c := 12) [_] d_X12_leave_10 c_X12_187 k_X12_refused ⟨rfl, rfl⟩ (tt_139 b) rfl (Nat.le_of_ble_eq_true rfl) ⟨Nat.le_of_ble_eq_true rfl, Nat.le_of_ble_eq_true rfl⟩ ⟨Nat.le_refl _, Nat.le_refl _⟩ (ct_X12_refused ?_)
    exact V_retI (pc := 13) d_X12_leave_13 rfl ⟨Nat.le_refl _, Nat.le_refl _⟩ (h1 (by
                        rintro ⟨i, gi, ei⟩
                        try subst ei
                        simp (disch := omega) only [nI_toInt, nI_eq] at *
                        omega))
theorem pr_leave {x : Int32} {y : Int32} (h : Rel σ b) (hy : y = 0 ∨ y = 1) : PR G mX11_leave mX12_leave 5 5 [.int x, .int y] σ b := by
  have h0 := h
  obtain ⟨q, ns, nb, nl, nt, nr, hR, hX, hP, hQ, hK⟩ := h
  have hbd := hR.1.1
  refine ct_X11_leave hR hy (fun hv => ?_) (fun i hi ei hv => ?_) (fun i hi ei hv => ?_) (fun i hi ei hv => ?_)
  · exact ⟨rfl, ct_X12_leave (RR_lo hR (fun a i _ _ => by simp (disch := omega) only [up2_n, filr_n, film_n])) hy (fun _ => ⟨rfl, _, rfl, rel_ref h0⟩) (fun i hi ei _ => absurd ⟨i, hi, ei⟩ hv) (fun i hi ei _ => absurd ⟨i, hi, ei⟩ hv) (fun i hi ei _ => absurd ⟨i, hi, ei⟩ hv)⟩
  · refine ⟨rfl, ct_X12_leave (RR_lo hR (fun a i _ _ => by simp (disch := omega) only [up2_n, filr_n, film_n])) hy (fun hv => absurd ⟨i, hi, ei⟩ hv) (fun i' hi' ei' hv' => ?_) (fun i' hi' ei' hv' => ?_) (fun i' hi' ei' hv' => ?_)⟩
    · obtain rfl : i' = i := (nI_eq (by omega) (by omega)).mp (ei'.symm.trans ei)
      rw [whyS_ag (τ := (up2 σ 3 3 (nI 20 + whyS σ i' ns nl (q / 96) y (if q % 96 < 24 ∨ 72 ≤ q % 96 then 1 else 0)))) (σ := σ) (fun a i _ _ => by simp (disch := omega) only [up2_n])]
      exact ⟨rfl, _, rfl, rel_ref h0⟩
    · obtain rfl : i' = i := (nI_eq (by omega) (by omega)).mp (ei'.symm.trans ei)
      try rw [whyS_ag (τ := (up2 σ 3 3 (nI 20 + whyS σ i' ns nl (q / 96) y (if q % 96 < 24 ∨ 72 ≤ q % 96 then 1 else 0)))) (σ := σ) (fun a i _ _ => by simp (disch := omega) only [up2_n])] at hv'
      try rw [nxS_ag (τ := (up2 σ 3 3 (nI 20 + whyS σ i' ns nl (q / 96) y (if q % 96 < 24 ∨ 72 ≤ q % 96 then 1 else 0)))) (σ := σ) (fun a i _ _ => by simp (disch := omega) only [up2_n]), waterS_ag (τ := (up2 σ 3 3 (nI 20 + whyS σ i' ns nl (q / 96) y (if q % 96 < 24 ∨ 72 ≤ q % 96 then 1 else 0)))) (σ := σ) (fun a i _ _ => by simp (disch := omega) only [up2_n]), draS_ag (τ := (up2 σ 3 3 (nI 20 + whyS σ i' ns nl (q / 96) y (if q % 96 < 24 ∨ 72 ≤ q % 96 then 1 else 0)))) (σ := σ) (fun a i _ _ => by simp (disch := omega) only [up2_n])] at hv'
      try rw [ek] at hv'
      try rw [ek] at hv
      first | exact absurd hv hv' | exact absurd hv' hv | exact absurd hv.1 hv' | exact absurd hv'.1 hv | exact absurd hv.2 hv'.2 | exact absurd hv'.2 hv.2
    · obtain rfl : i' = i := (nI_eq (by omega) (by omega)).mp (ei'.symm.trans ei)
      try rw [whyS_ag (τ := (up2 σ 3 3 (nI 20 + whyS σ i' ns nl (q / 96) y (if q % 96 < 24 ∨ 72 ≤ q % 96 then 1 else 0)))) (σ := σ) (fun a i _ _ => by simp (disch := omega) only [up2_n])] at hv'
      try rw [nxS_ag (τ := (up2 σ 3 3 (nI 20 + whyS σ i' ns nl (q / 96) y (if q % 96 < 24 ∨ 72 ≤ q % 96 then 1 else 0)))) (σ := σ) (fun a i _ _ => by simp (disch := omega) only [up2_n]), waterS_ag (τ := (up2 σ 3 3 (nI 20 + whyS σ i' ns nl (q / 96) y (if q % 96 < 24 ∨ 72 ≤ q % 96 then 1 else 0)))) (σ := σ) (fun a i _ _ => by simp (disch := omega) only [up2_n]), draS_ag (τ := (up2 σ 3 3 (nI 20 + whyS σ i' ns nl (q / 96) y (if q % 96 < 24 ∨ 72 ≤ q % 96 then 1 else 0)))) (σ := σ) (fun a i _ _ => by simp (disch := omega) only [up2_n])] at hv'
      try rw [ek] at hv'
      try rw [ek] at hv
      first | exact absurd hv hv' | exact absurd hv' hv | exact absurd hv.1 hv' | exact absurd hv'.1 hv | exact absurd hv.2 hv'.2 | exact absurd hv'.2 hv.2
  · obtain ⟨w0, k, hk, ex, wl⟩ := why0 (by omega) hv.1
    have ek : (nxS σ i y).toNatClampNeg = k := by rw [ex, nI_clamp (by omega)]
    rw [ek, ex]
    refine ⟨rfl, ct_X12_leave (RR_lo hR (fun a i _ _ => by simp (disch := omega) only [up2_n, filr_n, film_n])) hy (fun hv => absurd ⟨i, hi, ei⟩ hv) (fun i' hi' ei' hv' => ?_) (fun i' hi' ei' hv' => ?_) (fun i' hi' ei' hv' => ?_)⟩
    · obtain rfl : i' = i := (nI_eq (by omega) (by omega)).mp (ei'.symm.trans ei)
      try rw [whyS_ag (τ := (up2 (up2 (up2 (up2 (up2 (up2 σ (79 + 4 * i') k (waterS σ k (q / 96))) (80 + 4 * i') k (nI q)) (77 + 4 * i') 7 (σ 153 i')) (77 + 4 * i') 6 (nI k)) (77 + 4 * i') 5 (nI 3)) 3 3 0)) (σ := σ) (fun a i _ _ => by simp (disch := omega) only [up2_n])] at hv'
      try rw [nxS_ag (τ := (up2 (up2 (up2 (up2 (up2 (up2 σ (79 + 4 * i') k (waterS σ k (q / 96))) (80 + 4 * i') k (nI q)) (77 + 4 * i') 7 (σ 153 i')) (77 + 4 * i') 6 (nI k)) (77 + 4 * i') 5 (nI 3)) 3 3 0)) (σ := σ) (fun a i _ _ => by simp (disch := omega) only [up2_n]), waterS_ag (τ := (up2 (up2 (up2 (up2 (up2 (up2 σ (79 + 4 * i') k (waterS σ k (q / 96))) (80 + 4 * i') k (nI q)) (77 + 4 * i') 7 (σ 153 i')) (77 + 4 * i') 6 (nI k)) (77 + 4 * i') 5 (nI 3)) 3 3 0)) (σ := σ) (fun a i _ _ => by simp (disch := omega) only [up2_n]), draS_ag (τ := (up2 (up2 (up2 (up2 (up2 (up2 σ (79 + 4 * i') k (waterS σ k (q / 96))) (80 + 4 * i') k (nI q)) (77 + 4 * i') 7 (σ 153 i')) (77 + 4 * i') 6 (nI k)) (77 + 4 * i') 5 (nI 3)) 3 3 0)) (σ := σ) (fun a i _ _ => by simp (disch := omega) only [up2_n])] at hv'
      try rw [ek] at hv'
      try rw [ek] at hv
      first | exact absurd hv hv' | exact absurd hv' hv | exact absurd hv.1 hv' | exact absurd hv'.1 hv | exact absurd hv.2 hv'.2 | exact absurd hv'.2 hv.2
    · obtain rfl : i' = i := (nI_eq (by omega) (by omega)).mp (ei'.symm.trans ei)
      obtain ⟨hcn, hH, hC, hS, hLD, hB, hA, hT, hU⟩ := id hR
      have hbd := hcn.1
      rw [nxS_ag (τ := (up2 (up2 (up2 (up2 (up2 (up2 σ (79 + 4 * i') k (waterS σ k (q / 96))) (80 + 4 * i') k (nI q)) (77 + 4 * i') 7 (σ 153 i')) (77 + 4 * i') 6 (nI k)) (77 + 4 * i') 5 (nI 3)) 3 3 0)) (σ := σ) (fun a i _ _ => by simp (disch := omega) only [up2_n]), ek, ex, waterS_ag (τ := (up2 (up2 (up2 (up2 (up2 (up2 σ (79 + 4 * i') k (waterS σ k (q / 96))) (80 + 4 * i') k (nI q)) (77 + 4 * i') 7 (σ 153 i')) (77 + 4 * i') 6 (nI k)) (77 + 4 * i') 5 (nI 3)) 3 3 0)) (σ := σ) (fun a i _ _ => by simp (disch := omega) only [up2_n])]
      refine ⟨rfl, _, rfl, ?_⟩
      have t0 : σ 155 i' = 0 := by
        rcases (hB i' hi).2.2.2.2.1 with z | z | z
        · exact z.2.2
        · rw [w0] at z; rcases z.1 with z | z <;> exact absurd z (by decide)
        · rw [w0] at z; exact absurd z.1 (by decide)
      exact ⟨q, ns, nb, nl, nt, nr, ⟨cCnt_cg hcn (fun i _ _ => (by simp (disch := omega) only [up2_n, filr_n, film_n])) (fun i hi => by rcases hi with rfl | rfl | rfl | rfl | rfl | rfl | rfl <;> simp (disch := omega) only [up2_n, filr_n, film_n]), cH_cg hH (by simp (disch := omega) only [up2_n, filr_n, film_n]) (fun d _ => (by simp (disch := omega) only [up2_n, filr_n, film_n])) (fun d _ => ⟨(by simp (disch := omega) only [up2_n, filr_n, film_n]), (by simp (disch := omega) only [up2_n, filr_n, film_n])⟩), cC_cg hC (fun d _ => (by simp (disch := omega) only [up2_n, filr_n, film_n])) (fun d _ => (by simp (disch := omega) only [up2_n, filr_n, film_n])), cS_cg hS (fun k _ => ⟨fun j => (by simp (disch := omega) only [up2_n, filr_n, film_n]), fun d _ => (by simp (disch := omega) only [up2_n, filr_n, film_n])⟩) (fun k _ => ⟨(by simp (disch := omega) only [up2_n, filr_n, film_n]), (by simp (disch := omega) only [up2_n, filr_n, film_n]), (by simp (disch := omega) only [up2_n, filr_n, film_n]), (by simp (disch := omega) only [up2_n, filr_n, film_n])⟩) (fun i _ => ⟨(by simp (disch := omega) only [up2_n, filr_n, film_n]), (by simp (disch := omega) only [up2_n, filr_n, film_n])⟩), cL_cg hLD (fun l _ => ⟨(by simp (disch := omega) only [up2_n, filr_n, film_n]), fun k _ => ⟨(by simp (disch := omega) only [up2_n, filr_n, film_n]), (by simp (disch := omega) only [up2_n, filr_n, film_n])⟩⟩) (fun l _ => (by simp (disch := omega) only [up2_n, filr_n, film_n])) (fun m _ _ => ⟨(by simp (disch := omega) only [up2_n, filr_n, film_n]), (by simp (disch := omega) only [up2_n, filr_n, film_n])⟩), cB_at (i0 := i') hB (fun _ => by
              obtain ⟨⟨a0, a1, a2, a3, a4, a5, a6⟩, b1, b2, ⟨t, c, u1, u2, u3, u4, u5⟩, b4, b5⟩ := hB i' hi
              refine ⟨⟨?_, ?_, ?_, ?_, ?_, ?_, ?_⟩, ?_, ?_, ⟨t, c, u1, u2, u3, ?_, ?_⟩, Or.inr (Or.inr ⟨?_, ⟨k, hk, ?_⟩, ?_, ?_, ?_⟩), ?_⟩
              · simp (disch := omega) only [up2_n]; exact a0
              · simp (disch := omega) only [up2_n]; exact a1
              · simp (disch := omega) only [up2_n]; exact a2
              · simp (disch := omega) only [up2_n, up2_e]; exact a3
              · simp (disch := omega) only [up2_n]; exact a4.trans (aboS_cg (fun j _ => ⟨(by simp (disch := omega) only [up2_n, filr_n, film_n]), (by simp (disch := omega) only [up2_n, filr_n, film_n]), (by simp (disch := omega) only [up2_n, filr_n, film_n])⟩)).symm
              · simp (disch := omega) only [up2_n, up2_e]
              · simp (disch := omega) only [up2_n, up2_e]
              · simp (disch := omega) only [up2_n]; exact b1
              · simp (disch := omega) only [up2_n]; exact b2
              · simp (disch := omega) only [up2_n]; exact u4
              · simp (disch := omega) only [up2_n, up2_e]; exact u5
              · simp (disch := omega) only [up2_n, up2_e]
              · simp (disch := omega) only [up2_n, up2_e]
              · simp (disch := omega) only [up2_n]; exact t0
              · simp (disch := omega) only [up2_n, up2_e]; exact cB_at0 hB hi w0
              · simp (disch := omega) only [up2_n, up2_e]
              · intro e he
                by_cases z : e = k
                · subst z
                  refine ⟨?_, Or.inr ⟨hk, ⟨q, by omega, ?_⟩, ?_⟩⟩ <;> simp (disch := omega) only [up2_n, up2_e]
                · have := b5 e he
                  simp (disch := omega) only [up2_n]
                  exact this) (fun i _ _ => ⟨fun j => (by simp (disch := omega) only [up2_n, filr_n, film_n]), fun k _ => ⟨(by simp (disch := omega) only [up2_n, filr_n, film_n]), (by simp (disch := omega) only [up2_n, filr_n, film_n])⟩⟩) (fun i _ _ a _ _ => (by simp (disch := omega) only [up2_n, filr_n, film_n])) (fun i _ _ k _ => ⟨(by simp (disch := omega) only [up2_n, filr_n, film_n]), (by simp (disch := omega) only [up2_n, filr_n, film_n])⟩) (fun i _ _ => aboS_cg (fun j _ => ⟨(by simp (disch := omega) only [up2_n, filr_n, film_n]), (by simp (disch := omega) only [up2_n, filr_n, film_n]), (by simp (disch := omega) only [up2_n, filr_n, film_n])⟩)), cA_cg hA (fun j _ i => (by simp (disch := omega) only [up2_n, filr_n, film_n])) (fun j _ a _ _ => (by simp (disch := omega) only [up2_n, filr_n, film_n])), cT_cg hT (fun j _ i => (by simp (disch := omega) only [up2_n, filr_n, film_n])) (fun j _ a _ _ => (by simp (disch := omega) only [up2_n, filr_n, film_n])), cU_cg hU (fun j _ i => (by simp (disch := omega) only [up2_n, filr_n, film_n])) (fun j _ a _ _ => (by simp (disch := omega) only [up2_n, filr_n, film_n]))⟩, cX_cg hX (by simp (disch := omega) only [up2_n, up2_e, filr_n, film_n]) ⟨(by simp (disch := omega) only [up2_n, filr_n, film_n]), (by simp (disch := omega) only [up2_n, filr_n, film_n])⟩, cP_cg hP ⟨(by simp (disch := omega) only [up2_n, filr_n, film_n]), (by simp (disch := omega) only [up2_n, filr_n, film_n])⟩ (fun j _ => ⟨(by simp (disch := omega) only [up2_n, filr_n, film_n]), (by simp (disch := omega) only [up2_n, filr_n, film_n])⟩), cQ_cg hQ (fun a i _ => (by simp (disch := omega) only [up2_n, filr_n, film_n])), cK_cg hK (by simp (disch := omega) only [up2_n, filr_n, film_n]) (fun a i _ => (by simp (disch := omega) only [up2_n, filr_n, film_n])) (fun a i _ => (by simp (disch := omega) only [up2_n, filr_n, film_n])) (by omega) (by omega) (by omega) (by omega) (by omega)⟩
    · obtain rfl : i' = i := (nI_eq (by omega) (by omega)).mp (ei'.symm.trans ei)
      try rw [whyS_ag (τ := (up2 (up2 (up2 (up2 (up2 (up2 σ (79 + 4 * i') k (waterS σ k (q / 96))) (80 + 4 * i') k (nI q)) (77 + 4 * i') 7 (σ 153 i')) (77 + 4 * i') 6 (nI k)) (77 + 4 * i') 5 (nI 3)) 3 3 0)) (σ := σ) (fun a i _ _ => by simp (disch := omega) only [up2_n])] at hv'
      try rw [nxS_ag (τ := (up2 (up2 (up2 (up2 (up2 (up2 σ (79 + 4 * i') k (waterS σ k (q / 96))) (80 + 4 * i') k (nI q)) (77 + 4 * i') 7 (σ 153 i')) (77 + 4 * i') 6 (nI k)) (77 + 4 * i') 5 (nI 3)) 3 3 0)) (σ := σ) (fun a i _ _ => by simp (disch := omega) only [up2_n]), waterS_ag (τ := (up2 (up2 (up2 (up2 (up2 (up2 σ (79 + 4 * i') k (waterS σ k (q / 96))) (80 + 4 * i') k (nI q)) (77 + 4 * i') 7 (σ 153 i')) (77 + 4 * i') 6 (nI k)) (77 + 4 * i') 5 (nI 3)) 3 3 0)) (σ := σ) (fun a i _ _ => by simp (disch := omega) only [up2_n]), draS_ag (τ := (up2 (up2 (up2 (up2 (up2 (up2 σ (79 + 4 * i') k (waterS σ k (q / 96))) (80 + 4 * i') k (nI q)) (77 + 4 * i') 7 (σ 153 i')) (77 + 4 * i') 6 (nI k)) (77 + 4 * i') 5 (nI 3)) 3 3 0)) (σ := σ) (fun a i _ _ => by simp (disch := omega) only [up2_n])] at hv'
      try rw [ek] at hv'
      try rw [ek] at hv
      first | exact absurd hv hv' | exact absurd hv' hv | exact absurd hv.1 hv' | exact absurd hv'.1 hv | exact absurd hv.2 hv'.2 | exact absurd hv'.2 hv.2
  · obtain ⟨w0, k, hk, ex, wl⟩ := why0 (by omega) hv.1
    have ek : (nxS σ i y).toNatClampNeg = k := by rw [ex, nI_clamp (by omega)]
    rw [ek, ex]
    refine ⟨rfl, ct_X12_leave (RR_lo hR (fun a i _ _ => by simp (disch := omega) only [up2_n, filr_n, film_n])) hy (fun hv => absurd ⟨i, hi, ei⟩ hv) (fun i' hi' ei' hv' => ?_) (fun i' hi' ei' hv' => ?_) (fun i' hi' ei' hv' => ?_)⟩
    · obtain rfl : i' = i := (nI_eq (by omega) (by omega)).mp (ei'.symm.trans ei)
      try rw [whyS_ag (τ := (up2 (up2 (up2 (up2 (up2 (up2 (up2 (up2 σ (79 + 4 * i') k (waterS σ k (q / 96))) (80 + 4 * i') k (nI q)) (77 + 4 * i') 7 (σ 153 i')) (77 + 4 * i') 6 (nI k)) (77 + 4 * i') 5 (if y = 0 then nI 2 else 1)) (77 + 4 * i') 8 (nI q + longS σ k (q / 96) (if q % 96 < 24 ∨ 72 ≤ q % 96 then 1 else 0))) (77 + 4 * i') 3 (σ 156 i' - longS σ k (q / 96) (if q % 96 < 24 ∨ 72 ≤ q % 96 then 1 else 0))) 3 3 0)) (σ := σ) (fun a i _ _ => by simp (disch := omega) only [up2_n])] at hv'
      try rw [nxS_ag (τ := (up2 (up2 (up2 (up2 (up2 (up2 (up2 (up2 σ (79 + 4 * i') k (waterS σ k (q / 96))) (80 + 4 * i') k (nI q)) (77 + 4 * i') 7 (σ 153 i')) (77 + 4 * i') 6 (nI k)) (77 + 4 * i') 5 (if y = 0 then nI 2 else 1)) (77 + 4 * i') 8 (nI q + longS σ k (q / 96) (if q % 96 < 24 ∨ 72 ≤ q % 96 then 1 else 0))) (77 + 4 * i') 3 (σ 156 i' - longS σ k (q / 96) (if q % 96 < 24 ∨ 72 ≤ q % 96 then 1 else 0))) 3 3 0)) (σ := σ) (fun a i _ _ => by simp (disch := omega) only [up2_n]), waterS_ag (τ := (up2 (up2 (up2 (up2 (up2 (up2 (up2 (up2 σ (79 + 4 * i') k (waterS σ k (q / 96))) (80 + 4 * i') k (nI q)) (77 + 4 * i') 7 (σ 153 i')) (77 + 4 * i') 6 (nI k)) (77 + 4 * i') 5 (if y = 0 then nI 2 else 1)) (77 + 4 * i') 8 (nI q + longS σ k (q / 96) (if q % 96 < 24 ∨ 72 ≤ q % 96 then 1 else 0))) (77 + 4 * i') 3 (σ 156 i' - longS σ k (q / 96) (if q % 96 < 24 ∨ 72 ≤ q % 96 then 1 else 0))) 3 3 0)) (σ := σ) (fun a i _ _ => by simp (disch := omega) only [up2_n]), draS_ag (τ := (up2 (up2 (up2 (up2 (up2 (up2 (up2 (up2 σ (79 + 4 * i') k (waterS σ k (q / 96))) (80 + 4 * i') k (nI q)) (77 + 4 * i') 7 (σ 153 i')) (77 + 4 * i') 6 (nI k)) (77 + 4 * i') 5 (if y = 0 then nI 2 else 1)) (77 + 4 * i') 8 (nI q + longS σ k (q / 96) (if q % 96 < 24 ∨ 72 ≤ q % 96 then 1 else 0))) (77 + 4 * i') 3 (σ 156 i' - longS σ k (q / 96) (if q % 96 < 24 ∨ 72 ≤ q % 96 then 1 else 0))) 3 3 0)) (σ := σ) (fun a i _ _ => by simp (disch := omega) only [up2_n])] at hv'
      try rw [ek] at hv'
      try rw [ek] at hv
      first | exact absurd hv hv' | exact absurd hv' hv | exact absurd hv.1 hv' | exact absurd hv'.1 hv | exact absurd hv.2 hv'.2 | exact absurd hv'.2 hv.2
    · obtain rfl : i' = i := (nI_eq (by omega) (by omega)).mp (ei'.symm.trans ei)
      try rw [whyS_ag (τ := (up2 (up2 (up2 (up2 (up2 (up2 (up2 (up2 σ (79 + 4 * i') k (waterS σ k (q / 96))) (80 + 4 * i') k (nI q)) (77 + 4 * i') 7 (σ 153 i')) (77 + 4 * i') 6 (nI k)) (77 + 4 * i') 5 (if y = 0 then nI 2 else 1)) (77 + 4 * i') 8 (nI q + longS σ k (q / 96) (if q % 96 < 24 ∨ 72 ≤ q % 96 then 1 else 0))) (77 + 4 * i') 3 (σ 156 i' - longS σ k (q / 96) (if q % 96 < 24 ∨ 72 ≤ q % 96 then 1 else 0))) 3 3 0)) (σ := σ) (fun a i _ _ => by simp (disch := omega) only [up2_n])] at hv'
      try rw [nxS_ag (τ := (up2 (up2 (up2 (up2 (up2 (up2 (up2 (up2 σ (79 + 4 * i') k (waterS σ k (q / 96))) (80 + 4 * i') k (nI q)) (77 + 4 * i') 7 (σ 153 i')) (77 + 4 * i') 6 (nI k)) (77 + 4 * i') 5 (if y = 0 then nI 2 else 1)) (77 + 4 * i') 8 (nI q + longS σ k (q / 96) (if q % 96 < 24 ∨ 72 ≤ q % 96 then 1 else 0))) (77 + 4 * i') 3 (σ 156 i' - longS σ k (q / 96) (if q % 96 < 24 ∨ 72 ≤ q % 96 then 1 else 0))) 3 3 0)) (σ := σ) (fun a i _ _ => by simp (disch := omega) only [up2_n]), waterS_ag (τ := (up2 (up2 (up2 (up2 (up2 (up2 (up2 (up2 σ (79 + 4 * i') k (waterS σ k (q / 96))) (80 + 4 * i') k (nI q)) (77 + 4 * i') 7 (σ 153 i')) (77 + 4 * i') 6 (nI k)) (77 + 4 * i') 5 (if y = 0 then nI 2 else 1)) (77 + 4 * i') 8 (nI q + longS σ k (q / 96) (if q % 96 < 24 ∨ 72 ≤ q % 96 then 1 else 0))) (77 + 4 * i') 3 (σ 156 i' - longS σ k (q / 96) (if q % 96 < 24 ∨ 72 ≤ q % 96 then 1 else 0))) 3 3 0)) (σ := σ) (fun a i _ _ => by simp (disch := omega) only [up2_n]), draS_ag (τ := (up2 (up2 (up2 (up2 (up2 (up2 (up2 (up2 σ (79 + 4 * i') k (waterS σ k (q / 96))) (80 + 4 * i') k (nI q)) (77 + 4 * i') 7 (σ 153 i')) (77 + 4 * i') 6 (nI k)) (77 + 4 * i') 5 (if y = 0 then nI 2 else 1)) (77 + 4 * i') 8 (nI q + longS σ k (q / 96) (if q % 96 < 24 ∨ 72 ≤ q % 96 then 1 else 0))) (77 + 4 * i') 3 (σ 156 i' - longS σ k (q / 96) (if q % 96 < 24 ∨ 72 ≤ q % 96 then 1 else 0))) 3 3 0)) (σ := σ) (fun a i _ _ => by simp (disch := omega) only [up2_n])] at hv'
      try rw [ek] at hv'
      try rw [ek] at hv
      first | exact absurd hv hv' | exact absurd hv' hv | exact absurd hv.1 hv' | exact absurd hv'.1 hv | exact absurd hv.2 hv'.2 | exact absurd hv'.2 hv.2
    · obtain rfl : i' = i := (nI_eq (by omega) (by omega)).mp (ei'.symm.trans ei)
      obtain ⟨hcn, hH, hC, hS, hLD, hB, hA, hT, hU⟩ := id hR
      have hbd := hcn.1
      rw [nxS_ag (τ := (up2 (up2 (up2 (up2 (up2 (up2 (up2 (up2 σ (79 + 4 * i') k (waterS σ k (q / 96))) (80 + 4 * i') k (nI q)) (77 + 4 * i') 7 (σ 153 i')) (77 + 4 * i') 6 (nI k)) (77 + 4 * i') 5 (if y = 0 then nI 2 else 1)) (77 + 4 * i') 8 (nI q + longS σ k (q / 96) (if q % 96 < 24 ∨ 72 ≤ q % 96 then 1 else 0))) (77 + 4 * i') 3 (σ 156 i' - longS σ k (q / 96) (if q % 96 < 24 ∨ 72 ≤ q % 96 then 1 else 0))) 3 3 0)) (σ := σ) (fun a i _ _ => by simp (disch := omega) only [up2_n]), ek, ex, waterS_ag (τ := (up2 (up2 (up2 (up2 (up2 (up2 (up2 (up2 σ (79 + 4 * i') k (waterS σ k (q / 96))) (80 + 4 * i') k (nI q)) (77 + 4 * i') 7 (σ 153 i')) (77 + 4 * i') 6 (nI k)) (77 + 4 * i') 5 (if y = 0 then nI 2 else 1)) (77 + 4 * i') 8 (nI q + longS σ k (q / 96) (if q % 96 < 24 ∨ 72 ≤ q % 96 then 1 else 0))) (77 + 4 * i') 3 (σ 156 i' - longS σ k (q / 96) (if q % 96 < 24 ∨ 72 ≤ q % 96 then 1 else 0))) 3 3 0)) (σ := σ) (fun a i _ _ => by simp (disch := omega) only [up2_n]), longS_ag (τ := (up2 (up2 (up2 (up2 (up2 (up2 (up2 (up2 σ (79 + 4 * i') k (waterS σ k (q / 96))) (80 + 4 * i') k (nI q)) (77 + 4 * i') 7 (σ 153 i')) (77 + 4 * i') 6 (nI k)) (77 + 4 * i') 5 (if y = 0 then nI 2 else 1)) (77 + 4 * i') 8 (nI q + longS σ k (q / 96) (if q % 96 < 24 ∨ 72 ≤ q % 96 then 1 else 0))) (77 + 4 * i') 3 (σ 156 i' - longS σ k (q / 96) (if q % 96 < 24 ∨ 72 ≤ q % 96 then 1 else 0))) 3 3 0)) (σ := σ) (fun a i _ _ => by simp (disch := omega) only [up2_n])]
      refine ⟨rfl, _, rfl, ?_⟩
      obtain ⟨l, hl, el⟩ := longS_nat (d := q / 96) (n := (if q % 96 < 24 ∨ 72 ≤ q % 96 then 1 else 0)) hS hk
      have hlc : ∀ c : Nat, σ 156 i' = nI c → c < 1000 → l ≤ c := fun c h1 h2 => by
        rw [h1, el, nI_toInt (by omega), nI_toInt (by omega)] at wl
        omega
      exact ⟨q, ns, nb, nl, nt, nr, ⟨cCnt_cg hcn (fun i _ _ => (by simp (disch := omega) only [up2_n, filr_n, film_n])) (fun i hi => by rcases hi with rfl | rfl | rfl | rfl | rfl | rfl | rfl <;> simp (disch := omega) only [up2_n, filr_n, film_n]), cH_cg hH (by simp (disch := omega) only [up2_n, filr_n, film_n]) (fun d _ => (by simp (disch := omega) only [up2_n, filr_n, film_n])) (fun d _ => ⟨(by simp (disch := omega) only [up2_n, filr_n, film_n]), (by simp (disch := omega) only [up2_n, filr_n, film_n])⟩), cC_cg hC (fun d _ => (by simp (disch := omega) only [up2_n, filr_n, film_n])) (fun d _ => (by simp (disch := omega) only [up2_n, filr_n, film_n])), cS_cg hS (fun k _ => ⟨fun j => (by simp (disch := omega) only [up2_n, filr_n, film_n]), fun d _ => (by simp (disch := omega) only [up2_n, filr_n, film_n])⟩) (fun k _ => ⟨(by simp (disch := omega) only [up2_n, filr_n, film_n]), (by simp (disch := omega) only [up2_n, filr_n, film_n]), (by simp (disch := omega) only [up2_n, filr_n, film_n]), (by simp (disch := omega) only [up2_n, filr_n, film_n])⟩) (fun i _ => ⟨(by simp (disch := omega) only [up2_n, filr_n, film_n]), (by simp (disch := omega) only [up2_n, filr_n, film_n])⟩), cL_cg hLD (fun l _ => ⟨(by simp (disch := omega) only [up2_n, filr_n, film_n]), fun k _ => ⟨(by simp (disch := omega) only [up2_n, filr_n, film_n]), (by simp (disch := omega) only [up2_n, filr_n, film_n])⟩⟩) (fun l _ => (by simp (disch := omega) only [up2_n, filr_n, film_n])) (fun m _ _ => ⟨(by simp (disch := omega) only [up2_n, filr_n, film_n]), (by simp (disch := omega) only [up2_n, filr_n, film_n])⟩), cB_at (i0 := i') hB (fun _ => by
              obtain ⟨⟨a0, a1, a2, a3, a4, a5, a6⟩, b1, b2, ⟨t, c, u1, u2, u3, u4, u5⟩, b4, b5⟩ := hB i' hi
              have hlc := hlc c u5 (by omega)
              refine ⟨⟨?_, ?_, ?_, ?_, ?_, ?_, ?_⟩, ?_, ?_, ⟨t, c - l, u1, u2, by omega, ?_, ?_⟩, Or.inr (Or.inl ⟨?_, ⟨k, hk, ?_⟩, ?_⟩), ?_⟩
              · simp (disch := omega) only [up2_n]; exact a0
              · simp (disch := omega) only [up2_n]; exact a1
              · simp (disch := omega) only [up2_n]; exact a2
              · simp (disch := omega) only [up2_n, up2_e]
              · simp (disch := omega) only [up2_n]; exact a4.trans (aboS_cg (fun j _ => ⟨(by simp (disch := omega) only [up2_n, filr_n, film_n]), (by simp (disch := omega) only [up2_n, filr_n, film_n]), (by simp (disch := omega) only [up2_n, filr_n, film_n])⟩)).symm
              · simp (disch := omega) only [up2_n, up2_e]
              · simp (disch := omega) only [up2_n, up2_e]
              · simp (disch := omega) only [up2_n]; exact b1
              · simp (disch := omega) only [up2_n]; exact b2
              · simp (disch := omega) only [up2_n]; exact u4
              · simp (disch := omega) only [up2_n, up2_e]; rw [u5, el, pk_sub (by omega)]
              · simp (disch := omega) only [up2_n, up2_e]; by_cases y0 : y = 0; exact Or.inr (if_pos y0); exact Or.inl (if_neg y0)
              · simp (disch := omega) only [up2_n, up2_e]
              · simp (disch := omega) only [up2_n, up2_e]
              · intro e he
                by_cases z : e = k
                · subst z
                  refine ⟨?_, Or.inr ⟨hk, ⟨q, by omega, ?_⟩, ?_⟩⟩ <;> simp (disch := omega) only [up2_n, up2_e]
                · have := b5 e he
                  simp (disch := omega) only [up2_n]
                  exact this) (fun i _ _ => ⟨fun j => (by simp (disch := omega) only [up2_n, filr_n, film_n]), fun k _ => ⟨(by simp (disch := omega) only [up2_n, filr_n, film_n]), (by simp (disch := omega) only [up2_n, filr_n, film_n])⟩⟩) (fun i _ _ a _ _ => (by simp (disch := omega) only [up2_n, filr_n, film_n])) (fun i _ _ k _ => ⟨(by simp (disch := omega) only [up2_n, filr_n, film_n]), (by simp (disch := omega) only [up2_n, filr_n, film_n])⟩) (fun i _ _ => aboS_cg (fun j _ => ⟨(by simp (disch := omega) only [up2_n, filr_n, film_n]), (by simp (disch := omega) only [up2_n, filr_n, film_n]), (by simp (disch := omega) only [up2_n, filr_n, film_n])⟩)), cA_cg hA (fun j _ i => (by simp (disch := omega) only [up2_n, filr_n, film_n])) (fun j _ a _ _ => (by simp (disch := omega) only [up2_n, filr_n, film_n])), cT_cg hT (fun j _ i => (by simp (disch := omega) only [up2_n, filr_n, film_n])) (fun j _ a _ _ => (by simp (disch := omega) only [up2_n, filr_n, film_n])), cU_cg hU (fun j _ i => (by simp (disch := omega) only [up2_n, filr_n, film_n])) (fun j _ a _ _ => (by simp (disch := omega) only [up2_n, filr_n, film_n]))⟩, cX_cg hX (by simp (disch := omega) only [up2_n, up2_e, filr_n, film_n]) ⟨(by simp (disch := omega) only [up2_n, filr_n, film_n]), (by simp (disch := omega) only [up2_n, filr_n, film_n])⟩, cP_cg hP ⟨(by simp (disch := omega) only [up2_n, filr_n, film_n]), (by simp (disch := omega) only [up2_n, filr_n, film_n])⟩ (fun j _ => ⟨(by simp (disch := omega) only [up2_n, filr_n, film_n]), (by simp (disch := omega) only [up2_n, filr_n, film_n])⟩), cQ_cg hQ (fun a i _ => (by simp (disch := omega) only [up2_n, filr_n, film_n])), cK_cg hK (by simp (disch := omega) only [up2_n, filr_n, film_n]) (fun a i _ => (by simp (disch := omega) only [up2_n, filr_n, film_n])) (fun a i _ => (by simp (disch := omega) only [up2_n, filr_n, film_n])) (by omega) (by omega) (by omega) (by omega) (by omega)⟩
end HC
