theorem ne0T {x : Int32} (h : ¬ x = 0) : x.toInt ≠ 0 := fun z => h (Int32.toInt_inj.mp (by rw [ti0]; exact z))
theorem eq1T {x : Int32} (h : x.toInt = 1) : x = 1 := Int32.toInt_inj.mp (by rw [ti1]; exact h)
theorem cB_f {σ V : Sg} {ns nb nl i : Nat} (h : cB σ 4 V ns nb nl) (hi : i < nb) : σ (77 + 4 * i) 0 = V 149 i ∧ σ (77 + 4 * i) 1 = V 150 i ∧ σ (77 + 4 * i) 2 = V 151 i ∧ σ (77 + 4 * i) 3 = V 156 i ∧ σ (77 + 4 * i) 4 = aboS V i nl ∧ σ (77 + 4 * i) 5 = V 152 i ∧ σ (77 + 4 * i) 6 = V 153 i := (h i hi).1
theorem cB_w {σ V : Sg} {ns nb nl i : Nat} (h : cB σ 4 V ns nb nl) (hi : i < nb) : cW σ (79 + 4 * i) (80 + 4 * i) V (10 * i) ns := (h i hi).2.2.2.2.2
theorem cL_w {σ V : Sg} {ns l : Nat} (h : cL σ 4 V ns) (hl : l < 11) : cW σ (35 + 4 * l) (36 + 4 * l) V (10 * (5 + l)) ns := (h l hl).2.2.1
def wrdS (V : Sg) (m : Nat) (x : Int32) : Int32 := if V 158 m = -1 then -1000 else if x = 0 then V 157 m else if x = 1 then V 158 m else -1000
section HB
variable {G : Gl} {K : Int32 → Hp → Prop} {σ : Nat → Nat → Int32} {s : (Nat → Nat → Option Nat) × (Nat → Nat) × (Nat → Nat) × Nat} {a w q : Nat}
theorem ct_X10_isKnown {k : Nat} (hT : s.2.1 a = 11) (hR0 : s.1 a 0 = some w) (hR1 : s.1 a 1 = some q) (hTw : s.2.1 w = 20) (hTq : s.2.1 q = 20) (hLw : s.2.2.1 w = 10) (hLq : s.2.2.1 q = 10) (hk : k < 10) (hq : K (if σ q k = -1 then 0 else 1) (σ, s)) : CM G mX10_isKnown (rl 1) [.ref a, .int (nI k)] (σ, s) (QI K) := by
  refine CM.of (by decide) (Nat.le_of_ble_eq_true rfl) (cats1 rfl) ?_
  refine V_aload_n (pc := 0) d_X10_isKnown_0 rfl ?_
  refine P_getR (pc := 1) d_X10_isKnown_1 f_X10_15 hT hR1 ?_
  refine V_iload_n (pc := 4) d_X10_isKnown_4 rfl ?_
  refine P_iald (pc := 5) (k) d_X10_isKnown_5 hTq rfl (ln_of hLq ⟨by omega, by decide⟩) ?_
  refine V_iconst (pc := 6) (-1) d_X10_isKnown_6 (by decide) ?_
  refine V_icmp_eq (pc := 7) 14 d_X10_isKnown_7 (by decide) (fun c7 => ?_) (fun c7 => ?_)
  · refine V_iconst (pc := 14) (0) d_X10_isKnown_14 (by decide) ?_
    exact V_retZ (pc := 15) d_X10_isKnown_15 rfl (by first | exact Or.inl rfl | exact Or.inr rfl | exact z01) ⟨Nat.le_refl _, Nat.le_refl _⟩ (by simpa [c7] using hq)
  · refine V_iconst (pc := 10) (1) d_X10_isKnown_10 (by decide) ?_
    refine V_goto (pc := 11) 15 d_X10_isKnown_11 (by decide) ?_
    exact V_retZ (pc := 15) d_X10_isKnown_15 rfl (by first | exact Or.inl rfl | exact Or.inr rfl | exact z01) ⟨Nat.le_refl _, Nat.le_refl _⟩ (by simpa [c7] using hq)
theorem ct_X10_toldOf {k : Nat} {x : Int32} (hT : s.2.1 a = 11) (hR0 : s.1 a 0 = some w) (hR1 : s.1 a 1 = some q) (hTw : s.2.1 w = 20) (hTq : s.2.1 q = 20) (hLw : s.2.2.1 w = 10) (hLq : s.2.2.1 q = 10) (hk : k < 10) (hq : K (if σ q k = -1 then -1000 else if x = 0 then σ w k else if x = 1 then σ q k else -1000) (σ, s)) : CM G mX10_toldOf (rl 2) [.ref a, .int (nI k), .int x] (σ, s) (QI K) := by
  refine CM.of (by decide) (Nat.le_of_ble_eq_true rfl) (cats1 rfl) ?_
  refine V_aload_n (pc := 0) d_X10_toldOf_0 rfl ?_
  refine V_iload_n (pc := 1) d_X10_toldOf_1 rfl ?_
  refine V_cvI (pc := 2) (n := 1) (c := 10) [_] d_X10_toldOf_2 c_X10_34 k_X10_isKnown ⟨rfl, rfl⟩ hT rfl (Nat.le_of_ble_eq_true rfl) ⟨Nat.le_of_ble_eq_true rfl, Nat.le_of_ble_eq_true rfl⟩ ⟨Nat.le_refl _, Nat.le_refl _⟩ (ct_X10_isKnown hT hR0 hR1 hTw hTq hLw hLq (by omega) ?_)
  refine V_if_eq (pc := 5) 17 d_X10_toldOf_5 (by decide) (fun c5 => ?_) (fun c5 => ?_)
  · skip
    replace c5 : σ q k = -1 := by
      by_cases z : σ q k = -1
      · exact z
      · rw [if_neg z] at c5; exact absurd c5 (by decide)
    refine V_sipush (pc := 17) (-1000) d_X10_toldOf_17 (by decide) ?_
    exact V_retI (pc := 20) d_X10_toldOf_20 rfl ⟨Nat.le_refl _, Nat.le_refl _⟩ (by first | (rw [if_pos c5] at hq; exact hq) | (rw [if_neg c5] at hq; rw [if_pos c22] at hq; exact hq) | (rw [if_neg c5, if_neg c22, if_pos (eq1T (by have := ne0T c22; omega))] at hq; exact hq) | (rw [if_neg c5, if_neg (fun z => c14 (by rw [z, ti0]; decide)), if_neg (fun z => c14 (by rw [z, ti1]; decide))] at hq; exact hq))
  · skip
    replace c5 : ¬ σ q k = -1 := fun z => by rw [if_pos z] at c5; exact c5 rfl
    refine V_iload_n (pc := 8) d_X10_toldOf_8 rfl ?_
    refine V_iconst (pc := 9) (0) d_X10_toldOf_9 (by decide) ?_
    refine V_iconst (pc := 10) (1) d_X10_toldOf_10 (by decide) ?_
    refine V_csI (pc := 11) (n := 1) [_, _, _] d_X10_toldOf_11 c_X10_38 k_X11_isWithin rfl (Nat.le_of_ble_eq_true rfl) ⟨Nat.le_of_ble_eq_true rfl, Nat.le_of_ble_eq_true rfl⟩ ⟨Nat.le_refl _, Nat.le_refl _⟩ (ct_X11_isWithin (lo := 0) (hi := 1) (by decide) (by decide) ?_)
    refine V_if_ne (pc := 14) 21 d_X10_toldOf_14 (by decide) (fun c14 => ?_) (fun c14 => ?_)
    · replace c14 := zt c14
      refine V_iload_n (pc := 21) d_X10_toldOf_21 rfl ?_
      refine V_if_ne (pc := 22) 34 d_X10_toldOf_22 (by decide) (fun c22 => ?_) (fun c22 => ?_)
      · refine V_aload_n (pc := 34) d_X10_toldOf_34 rfl ?_
        refine P_getR (pc := 35) d_X10_toldOf_35 f_X10_15 hT hR1 ?_
        refine V_iload_n (pc := 38) d_X10_toldOf_38 rfl ?_
        refine P_iald (pc := 39) (k) d_X10_toldOf_39 hTq rfl (ln_of hLq ⟨by omega, by decide⟩) ?_
        exact V_retI (pc := 40) d_X10_toldOf_40 rfl ⟨Nat.le_refl _, Nat.le_refl _⟩ (by first | (rw [if_pos c5] at hq; exact hq) | (rw [if_neg c5] at hq; rw [if_pos c22] at hq; exact hq) | (rw [if_neg c5, if_neg c22, if_pos (eq1T (by have := ne0T c22; omega))] at hq; exact hq) | (rw [if_neg c5, if_neg (fun z => c14 (by rw [z, ti0]; decide)), if_neg (fun z => c14 (by rw [z, ti1]; decide))] at hq; exact hq))
      · refine V_aload_n (pc := 25) d_X10_toldOf_25 rfl ?_
        refine P_getR (pc := 26) d_X10_toldOf_26 f_X10_9 hT hR0 ?_
        refine V_iload_n (pc := 29) d_X10_toldOf_29 rfl ?_
        refine P_iald (pc := 30) (k) d_X10_toldOf_30 hTw rfl (ln_of hLw ⟨by omega, by decide⟩) ?_
        refine V_goto (pc := 31) 40 d_X10_toldOf_31 (by decide) ?_
        exact V_retI (pc := 40) d_X10_toldOf_40 rfl ⟨Nat.le_refl _, Nat.le_refl _⟩ (by first | (rw [if_pos c5] at hq; exact hq) | (rw [if_neg c5] at hq; rw [if_pos c22] at hq; exact hq) | (rw [if_neg c5, if_neg c22, if_pos (eq1T (by have := ne0T c22; omega))] at hq; exact hq) | (rw [if_neg c5, if_neg (fun z => c14 (by rw [z, ti0]; decide)), if_neg (fun z => c14 (by rw [z, ti1]; decide))] at hq; exact hq))
    · replace c14 := zf c14
      refine V_sipush (pc := 17) (-1000) d_X10_toldOf_17 (by decide) ?_
      exact V_retI (pc := 20) d_X10_toldOf_20 rfl ⟨Nat.le_refl _, Nat.le_refl _⟩ (by first | (rw [if_pos c5] at hq; exact hq) | (rw [if_neg c5] at hq; rw [if_pos c22] at hq; exact hq) | (rw [if_neg c5, if_neg c22, if_pos (eq1T (by have := ne0T c22; omega))] at hq; exact hq) | (rw [if_neg c5, if_neg (fun z => c14 (by rw [z, ti0]; decide)), if_neg (fun z => c14 (by rw [z, ti1]; decide))] at hq; exact hq))
end HB
section HC
variable {G : Gl} {R : Room} {F : Fn} {K : Int32 → Hp → Prop} {KV : Hp → Prop} {σ : Nat → Nat → Int32} {b : Bool}
theorem ct_B_draught {i ns nb nl : Nat} (hB : cB σ 4 σ ns nb nl) (hi : i < nb) (hnb : nb ≤ 5) (hq : K (draS σ i nl) (σ, sh b)) : CM G mX2_draught (rl 2) [.ref (77 + 4 * i)] (σ, sh b) (QI K) := by
  refine ct_X2_draught (tB b (by omega)) ?_
  rw [(cB_f hB hi).1, (cB_f hB hi).2.2.2.2.1, Int32.add_zero]
  exact hq
theorem ct_X4_whyNot {dw : Int32} {i q ns nb nl : Nat} (hH : cH σ 4 σ) (hC : cC σ 4 σ) (hS : cS σ 4 σ ns) (hn10 : ns ≤ 10) (hns : σ 4 1 = nI ns) (hq0 : σ 4 0 = nI q) (hq2 : q ≤ 9599) (hB : cB σ 4 σ ns nb nl) (hi : i < nb) (hnb : nb ≤ 5) (hq : K (whyS σ i ns nl (q / 96) dw (if q % 96 < 24 ∨ 72 ≤ q % 96 then 1 else 0)) (σ, sh b)) : CM G mX4_whyNot (rl 4) [.ref 4, .ref (77 + 4 * i), .int dw] (σ, sh b) (QI K) := by
  refine CM.of (by decide) (Nat.le_of_ble_eq_true rfl) (cats1 rfl) ?_
  refine V_aload_n (pc := 0) d_X4_whyNot_0 rfl ?_
  refine P_getI (pc := 1) d_X4_whyNot_1 f_X4_160 (tB b (by omega)) ?_
  rw [(cB_f hB hi).2.2.2.2.2.1]
  refine V_if_eq (pc := 4) 9 d_X4_whyNot_4 (by decide) (fun c4 => ?_) (fun c4 => ?_)
  · refine V_aload_n (pc := 9) d_X4_whyNot_9 rfl ?_
    refine V_iload_n (pc := 10) d_X4_whyNot_10 rfl ?_
    refine V_cvI (pc := 11) (n := 1) (c := 2) [_] d_X4_whyNot_11 c_X4_163 k_X2_stretchToward ⟨rfl, rfl⟩ (tB b (by omega)) rfl (Nat.le_of_ble_eq_true rfl) ⟨Nat.le_of_ble_eq_true rfl, Nat.le_of_ble_eq_true rfl⟩ ⟨Nat.le_refl _, Nat.le_refl _⟩ (ct_X2_stretchToward (tB b (by omega)) ?_)
    rw [(cB_f hB hi).2.2.2.2.2.2]
    change V G mX4_whyNot _ _ _ _ _ _ [.int (nxS σ i dw)] _
    by_cases hr : 0 ≤ (nxS σ i dw).toInt ∧ (nxS σ i dw).toInt ≤ (ns : Int) - 1
    · obtain ⟨k, hk, e, e2⟩ := nat_of hr.1 hr.2 (by omega)
      rw [e]
      refine V_istore_n (pc := 14) d_X4_whyNot_14 (by decide) ?_
      refine V_aload_n (pc := 15) d_X4_whyNot_15 rfl ?_
      refine V_iload_n (pc := 16) d_X4_whyNot_16 rfl ?_
      refine V_cvI (pc := 17) (n := 2) (c := 4) [_] d_X4_whyNot_17 c_X4_167 k_X4_isStretch ⟨rfl, rfl⟩ (tt_4 b) rfl (Nat.le_of_ble_eq_true rfl) ⟨Nat.le_of_ble_eq_true rfl, Nat.le_of_ble_eq_true rfl⟩ ⟨Nat.le_refl _, Nat.le_refl _⟩ (ct_X4_isStretch hns (by omega) ?_)
      refine V_if_ne (pc := 20) 25 d_X4_whyNot_20 (by decide) (fun c20 => ?_) (fun c20 => ?_)
      · replace c20 := zt c20
        refine V_aload_n (pc := 25) d_X4_whyNot_25 rfl ?_
        refine P_getR (pc := 26) d_X4_whyNot_26 f_X4_170 (tB b (by omega)) (rB9 b (by omega)) ?_
        refine V_iload_n (pc := 29) d_X4_whyNot_29 rfl ?_
        refine V_cvI (pc := 30) (n := 1) (c := 10) [_] d_X4_whyNot_30 c_X4_174 k_X10_isKnown ⟨rfl, rfl⟩ (tBW b (by omega)) rfl (Nat.le_of_ble_eq_true rfl) ⟨Nat.le_of_ble_eq_true rfl, Nat.le_of_ble_eq_true rfl⟩ ⟨Nat.le_refl _, Nat.le_refl _⟩ (ct_X10_isKnown (tBW b (by omega)) (rBW0 b (by omega)) (rBW1 b (by omega)) (tBW0 b (by omega)) (tBW1 b (by omega)) (lBW0 b (by omega)) (lBW1 b (by omega)) (by omega) ?_)
        refine V_if_eq (pc := 33) 54 d_X4_whyNot_33 (by decide) (fun c33 => ?_) (fun c33 => ?_)
        · skip
          replace c33 : σ 158 (10 * i + k) = -1 := by
            by_cases z : σ (80 + 4 * i) k = -1
            · exact (cW_q (k := k) (cB_w hB hi) (by omega)).symm.trans z
            · rw [if_neg z] at c33; exact absurd c33 (by decide)
          refine V_aload_n (pc := 54) d_X4_whyNot_54 rfl ?_
          refine P_getI (pc := 55) d_X4_whyNot_55 f_X4_185 (tB b (by omega)) ?_
          rw [(cB_f hB hi).2.2.2.1]
          refine V_aload_n (pc := 58) d_X4_whyNot_58 rfl ?_
          refine V_iload_n (pc := 59) d_X4_whyNot_59 rfl ?_
          refine V_cvI (pc := 60) (n := 3) (c := 4) [_] d_X4_whyNot_60 c_X4_188 k_X4_longNow ⟨rfl, rfl⟩ (tt_4 b) rfl (Nat.le_of_ble_eq_true rfl) ⟨Nat.le_of_ble_eq_true rfl, Nat.le_of_ble_eq_true rfl⟩ ⟨Nat.le_refl _, Nat.le_refl _⟩ (ct_X4_longNow hH hC hS hk hn10 hq0 hq2 ?_)
          refine B_icmp_ge (pc := 63) 70 d_X4_whyNot_63 (by decide) (fun c63 => ?_) (fun c63 => ?_)
          · refine V_iconst (pc := 70) (0) d_X4_whyNot_70 (by decide) ?_
            exact V_retI (pc := 71) d_X4_whyNot_71 rfl ⟨Nat.le_refl _, Nat.le_refl _⟩ (by first | simpa (disch := omega) [-Int.not_lt, -Int.not_le, nI_eq, nI_eq0, nI_eq1, nI_e0n, nI_e1n, whyS, e2, hr.1, hr.2, c4, c20, c33, c63] using hq | (exfalso; simp_all [show nI 2 = (2 : Int32) from rfl, show nI 3 = (3 : Int32) from rfl, show nI 4 = (4 : Int32) from rfl, show nI 5 = (5 : Int32) from rfl, show nI 6 = (6 : Int32) from rfl, show nI 7 = (7 : Int32) from rfl, show nI 8 = (8 : Int32) from rfl, show nI 9 = (9 : Int32) from rfl]; done))
          · refine V_iconst (pc := 66) (nI 4) d_X4_whyNot_66 (by decide) ?_
            refine V_goto (pc := 67) 71 d_X4_whyNot_67 (by decide) ?_
            exact V_retI (pc := 71) d_X4_whyNot_71 rfl ⟨Nat.le_refl _, Nat.le_refl _⟩ (by first | simpa (disch := omega) [-Int.not_lt, -Int.not_le, nI_eq, nI_eq0, nI_eq1, nI_e0n, nI_e1n, whyS, e2, hr.1, hr.2, c4, c20, c33, c63] using hq | (exfalso; simp_all [show nI 2 = (2 : Int32) from rfl, show nI 3 = (3 : Int32) from rfl, show nI 4 = (4 : Int32) from rfl, show nI 5 = (5 : Int32) from rfl, show nI 6 = (6 : Int32) from rfl, show nI 7 = (7 : Int32) from rfl, show nI 8 = (8 : Int32) from rfl, show nI 9 = (9 : Int32) from rfl]; done))
        · skip
          replace c33 : ¬ σ 158 (10 * i + k) = -1 := fun z => by rw [if_pos ((cW_q (k := k) (cB_w hB hi) (by omega)).trans z)] at c33; exact c33 rfl
          have ew := cW_w (k := k) (cB_w hB hi) (by omega) c33
          refine V_aload_n (pc := 36) d_X4_whyNot_36 rfl ?_
          refine P_getR (pc := 37) d_X4_whyNot_37 f_X4_170 (tB b (by omega)) (rB9 b (by omega)) ?_
          refine P_getR (pc := 40) d_X4_whyNot_40 f_X4_179 (tBW b (by omega)) (rBW0 b (by omega)) ?_
          refine V_iload_n (pc := 43) d_X4_whyNot_43 rfl ?_
          refine P_iald (pc := 44) (k) d_X4_whyNot_44 (tBW0 b (by omega)) rfl (ln_of (lBW0 b (by omega)) ⟨by omega, by decide⟩) ?_
          rw [ew]
          refine V_aload_n (pc := 45) d_X4_whyNot_45 rfl ?_
          refine V_cvI (pc := 46) (n := 2) (c := 2) [] d_X4_whyNot_46 c_X4_182 k_X2_draught ⟨rfl, rfl⟩ (tB b (by omega)) rfl (Nat.le_of_ble_eq_true rfl) ⟨Nat.le_of_ble_eq_true rfl, Nat.le_of_ble_eq_true rfl⟩ ⟨Nat.le_refl _, Nat.le_refl _⟩ (ct_B_draught hB hi hnb ?_)
          refine B_icmp_ge (pc := 49) 54 d_X4_whyNot_49 (by decide) (fun c49 => ?_) (fun c49 => ?_)
          · refine V_aload_n (pc := 54) d_X4_whyNot_54 rfl ?_
            refine P_getI (pc := 55) d_X4_whyNot_55 f_X4_185 (tB b (by omega)) ?_
            rw [(cB_f hB hi).2.2.2.1]
            refine V_aload_n (pc := 58) d_X4_whyNot_58 rfl ?_
            refine V_iload_n (pc := 59) d_X4_whyNot_59 rfl ?_
            refine V_cvI (pc := 60) (n := 3) (c := 4) [_] d_X4_whyNot_60 c_X4_188 k_X4_longNow ⟨rfl, rfl⟩ (tt_4 b) rfl (Nat.le_of_ble_eq_true rfl) ⟨Nat.le_of_ble_eq_true rfl, Nat.le_of_ble_eq_true rfl⟩ ⟨Nat.le_refl _, Nat.le_refl _⟩ (ct_X4_longNow hH hC hS hk hn10 hq0 hq2 ?_)
            refine B_icmp_ge (pc := 63) 70 d_X4_whyNot_63 (by decide) (fun c63 => ?_) (fun c63 => ?_)
            · refine V_iconst (pc := 70) (0) d_X4_whyNot_70 (by decide) ?_
              exact V_retI (pc := 71) d_X4_whyNot_71 rfl ⟨Nat.le_refl _, Nat.le_refl _⟩ (by first | simpa (disch := omega) [-Int.not_lt, -Int.not_le, nI_eq, nI_eq0, nI_eq1, nI_e0n, nI_e1n, whyS, e2, hr.1, hr.2, c4, c20, c33, c49, c63] using hq | (exfalso; simp_all [show nI 2 = (2 : Int32) from rfl, show nI 3 = (3 : Int32) from rfl, show nI 4 = (4 : Int32) from rfl, show nI 5 = (5 : Int32) from rfl, show nI 6 = (6 : Int32) from rfl, show nI 7 = (7 : Int32) from rfl, show nI 8 = (8 : Int32) from rfl, show nI 9 = (9 : Int32) from rfl]; done))
            · refine V_iconst (pc := 66) (nI 4) d_X4_whyNot_66 (by decide) ?_
              refine V_goto (pc := 67) 71 d_X4_whyNot_67 (by decide) ?_
              exact V_retI (pc := 71) d_X4_whyNot_71 rfl ⟨Nat.le_refl _, Nat.le_refl _⟩ (by first | simpa (disch := omega) [-Int.not_lt, -Int.not_le, nI_eq, nI_eq0, nI_eq1, nI_e0n, nI_e1n, whyS, e2, hr.1, hr.2, c4, c20, c33, c49, c63] using hq | (exfalso; simp_all [show nI 2 = (2 : Int32) from rfl, show nI 3 = (3 : Int32) from rfl, show nI 4 = (4 : Int32) from rfl, show nI 5 = (5 : Int32) from rfl, show nI 6 = (6 : Int32) from rfl, show nI 7 = (7 : Int32) from rfl, show nI 8 = (8 : Int32) from rfl, show nI 9 = (9 : Int32) from rfl]; done))
          · refine V_iconst (pc := 52) (nI 3) d_X4_whyNot_52 (by decide) ?_
            exact V_retI (pc := 53) d_X4_whyNot_53 rfl ⟨Nat.le_refl _, Nat.le_refl _⟩ (by first | simpa (disch := omega) [-Int.not_lt, -Int.not_le, nI_eq, nI_eq0, nI_eq1, nI_e0n, nI_e1n, whyS, e2, hr.1, hr.2, c4, c20, c33, c49] using hq | (exfalso; simp_all [show nI 2 = (2 : Int32) from rfl, show nI 3 = (3 : Int32) from rfl, show nI 4 = (4 : Int32) from rfl, show nI 5 = (5 : Int32) from rfl, show nI 6 = (6 : Int32) from rfl, show nI 7 = (7 : Int32) from rfl, show nI 8 = (8 : Int32) from rfl, show nI 9 = (9 : Int32) from rfl]; done))
      · replace c20 := zf c20
        exact absurd (by rw [nI_toInt (by omega)]; omega) c20
    · skip
      refine V_istore_n (pc := 14) d_X4_whyNot_14 (by decide) ?_
      refine V_aload_n (pc := 15) d_X4_whyNot_15 rfl ?_
      refine V_iload_n (pc := 16) d_X4_whyNot_16 rfl ?_
      refine V_cvI (pc := 17) (n := 2) (c := 4) [_] d_X4_whyNot_17 c_X4_167 k_X4_isStretch ⟨rfl, rfl⟩ (tt_4 b) rfl (Nat.le_of_ble_eq_true rfl) ⟨Nat.le_of_ble_eq_true rfl, Nat.le_of_ble_eq_true rfl⟩ ⟨Nat.le_refl _, Nat.le_refl _⟩ (ct_X4_isStretch hns (by omega) ?_)
      refine V_if_ne (pc := 20) 25 d_X4_whyNot_20 (by decide) (fun c20 => ?_) (fun c20 => ?_)
      · replace c20 := zt c20
        exact absurd c20 hr
      · replace c20 := zf c20
        refine V_iconst (pc := 23) (nI 2) d_X4_whyNot_23 (by decide) ?_
        exact V_retI (pc := 24) d_X4_whyNot_24 rfl ⟨Nat.le_refl _, Nat.le_refl _⟩ (by first | simpa (disch := omega) [-Int.not_lt, -Int.not_le, nI_eq, nI_eq0, nI_eq1, nI_e0n, nI_e1n, whyS, hr, c4, c20] using hq | (exfalso; simp_all [show nI 2 = (2 : Int32) from rfl, show nI 3 = (3 : Int32) from rfl, show nI 4 = (4 : Int32) from rfl, show nI 5 = (5 : Int32) from rfl, show nI 6 = (6 : Int32) from rfl, show nI 7 = (7 : Int32) from rfl, show nI 8 = (8 : Int32) from rfl, show nI 9 = (9 : Int32) from rfl]; done))
  · refine V_iconst (pc := 7) (1) d_X4_whyNot_7 (by decide) ?_
    exact V_retI (pc := 8) d_X4_whyNot_8 rfl ⟨Nat.le_refl _, Nat.le_refl _⟩ (by first | simpa (disch := omega) [-Int.not_lt, -Int.not_le, nI_eq, nI_eq0, nI_eq1, nI_e0n, nI_e1n, whyS, c4] using hq | (exfalso; simp_all [show nI 2 = (2 : Int32) from rfl, show nI 3 = (3 : Int32) from rfl, show nI 4 = (4 : Int32) from rfl, show nI 5 = (5 : Int32) from rfl, show nI 6 = (6 : Int32) from rfl, show nI 7 = (7 : Int32) from rfl, show nI 8 = (8 : Int32) from rfl, show nI 9 = (9 : Int32) from rfl]; done))
end HC
