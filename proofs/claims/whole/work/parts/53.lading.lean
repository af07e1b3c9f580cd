section HC
variable {G : Gl} {R : Room} {F : Fn} {K : Int32 → Hp → Prop} {KV : Hp → Prop} {σ : Nat → Nat → Int32} {b : Bool}
theorem lp_lb {y : Int32} {ns nb nl : Nat} (hA : cA σ 4 σ ns nb nl) (rnl : σ 4 3 = nI nl) (hnl : nl ≤ 12) (hE : ∀ z : Option Value, V G mX11_listBalesAt (rl 1) F 0 0 59 [some (.ref 3), some (.int y), some (.int (nI (cnt (tp σ y) nl))), some (.int (nI nl)), z] [] (chF σ (tp σ y) nl, sh b)) : ∀ n, n ≤ nl → ∀ j, j + n = nl → ∀ z : Option Value, V G mX11_listBalesAt (rl 1) F 0 0 4 [some (.ref 3), some (.int y), some (.int (nI (cnt (tp σ y) j))), some (.int (nI j)), z] [] (chF σ (tp σ y) j, sh b) := by
  intro n
  induction n with
  | zero =>
    intro _ j hj z
    obtain rfl : j = nl := by omega
    refine V_iload_n (pc := 4) d_X11_listBalesAt_4 rfl ?_
    refine V_aload_n (pc := 5) d_X11_listBalesAt_5 rfl ?_
    refine P_getR (pc := 6) d_X11_listBalesAt_6 f_X11_10 (tt_3 b) (rr_3_0 b) ?_
    refine P_getI (pc := 9) d_X11_listBalesAt_9 f_X11_123 (tt_4 b) ?_
    simp (disch := omega) only [up2_n, up2_e, chF_o]
    rw [rnl]
    refine B_icmp_ge (pc := 12) 59 d_X11_listBalesAt_12 (by decide) (fun c12 => ?_) (fun c12 => ?_)
    · simp (disch := omega) only [nI_toInt, ti0, ti1, tim1, tim20, tim1000] at c12
      exact hE _
    · simp (disch := omega) only [nI_toInt, ti0, ti1, tim1, tim20, tim1000] at c12
      all_goals omega
  | succ n ih =>
    intro _ j hj z
    have hc := @cnt_le (tp σ y) j
    refine V_iload_n (pc := 4) d_X11_listBalesAt_4 rfl ?_
    refine V_aload_n (pc := 5) d_X11_listBalesAt_5 rfl ?_
    refine P_getR (pc := 6) d_X11_listBalesAt_6 f_X11_10 (tt_3 b) (rr_3_0 b) ?_
    refine P_getI (pc := 9) d_X11_listBalesAt_9 f_X11_123 (tt_4 b) ?_
    simp (disch := omega) only [up2_n, up2_e, chF_o]
    rw [rnl]
    refine B_icmp_ge (pc := 12) 59 d_X11_listBalesAt_12 (by decide) (fun c12 => ?_) (fun c12 => ?_)
    · simp (disch := omega) only [nI_toInt, ti0, ti1, tim1, tim20, tim1000] at c12
      all_goals omega
    · simp (disch := omega) only [nI_toInt, ti0, ti1, tim1, tim20, tim1000] at c12
      refine V_aload_n (pc := 15) d_X11_listBalesAt_15 rfl ?_
      refine P_getR (pc := 16) d_X11_listBalesAt_16 f_X11_10 (tt_3 b) (rr_3_0 b) ?_
      refine P_getR (pc := 19) d_X11_listBalesAt_19 f_X11_126 (tt_4 b) (rr_4_13 b) ?_
      refine V_iload_n (pc := 22) d_X11_listBalesAt_22 rfl ?_
      refine P_aald (pc := 23) (c := 1) (j) d_X11_listBalesAt_23 (tt_10 b) (by decide) rfl (ln_of (ll_10 b) ⟨by omega, by decide⟩) (rBA b (by omega)) ?_
      refine V_astore (pc := 24) d_X11_listBalesAt_24 (by decide) ?_
      refine V_aload (pc := 26) d_X11_listBalesAt_26 rfl ?_
      refine P_getI (pc := 28) d_X11_listBalesAt_28 f_X11_139 (tBA b (by omega)) ?_
      simp (disch := omega) only [up2_n, up2_e, chF_o]
      rw [(cA_f hA (by omega : j < nl)).2.2.2.1]
      refine V_if_ne (pc := 31) 53 d_X11_listBalesAt_31 (by decide) (fun c31 => ?_) (fun c31 => ?_)
      · refine V_iinc (pc := 53) d_X11_listBalesAt_53 rfl (by decide) ?_
        refine V_goto (pc := 56) 4 d_X11_listBalesAt_56 (by decide) ?_
        rw [show nI j + Int32.ofInt 1 = nI (j + 1) from nI_1 j]
        first | (rw [p1_s, chF_y (σ := σ) (p := tp σ y) (n := j) (decide_eq_true ⟨c31, c40⟩), ← cnt_s1 (p := tp σ y) (n := j) (decide_eq_true ⟨c31, c40⟩)]) | (rw [chF_no (σ := σ) (p := tp σ y) (n := j) (fun w => c40 (of_decide_eq_true w).2), ← cnt_s0 (p := tp σ y) (n := j) (fun w => c40 (of_decide_eq_true w).2)]) | (rw [chF_no (σ := σ) (p := tp σ y) (n := j) (fun w => c31 (of_decide_eq_true w).1), ← cnt_s0 (p := tp σ y) (n := j) (fun w => c31 (of_decide_eq_true w).1)])
        exact ih (by omega) (j + 1) (by omega) _
      · refine V_aload (pc := 34) d_X11_listBalesAt_34 rfl ?_
        refine P_getI (pc := 36) d_X11_listBalesAt_36 f_X11_143 (tBA b (by omega)) ?_
        simp (disch := omega) only [up2_n, up2_e, chF_o]
        rw [(cA_f hA (by omega : j < nl)).2.2.2.2]
        refine V_iload_n (pc := 39) d_X11_listBalesAt_39 rfl ?_
        refine V_icmp_ne (pc := 40) 53 d_X11_listBalesAt_40 (by decide) (fun c40 => ?_) (fun c40 => ?_)
        · refine V_iinc (pc := 53) d_X11_listBalesAt_53 rfl (by decide) ?_
          refine V_goto (pc := 56) 4 d_X11_listBalesAt_56 (by decide) ?_
          rw [show nI j + Int32.ofInt 1 = nI (j + 1) from nI_1 j]
          first | (rw [p1_s, chF_y (σ := σ) (p := tp σ y) (n := j) (decide_eq_true ⟨c31, c40⟩), ← cnt_s1 (p := tp σ y) (n := j) (decide_eq_true ⟨c31, c40⟩)]) | (rw [chF_no (σ := σ) (p := tp σ y) (n := j) (fun w => c40 (of_decide_eq_true w).2), ← cnt_s0 (p := tp σ y) (n := j) (fun w => c40 (of_decide_eq_true w).2)]) | (rw [chF_no (σ := σ) (p := tp σ y) (n := j) (fun w => c31 (of_decide_eq_true w).1), ← cnt_s0 (p := tp σ y) (n := j) (fun w => c31 (of_decide_eq_true w).1)])
          exact ih (by omega) (j + 1) (by omega) _
        · refine V_aload_n (pc := 43) d_X11_listBalesAt_43 rfl ?_
          refine P_getR (pc := 44) d_X11_listBalesAt_44 f_X11_46 (tt_3 b) (rr_3_7 b) ?_
          refine V_iload_n (pc := 47) d_X11_listBalesAt_47 rfl ?_
          refine V_iload_n (pc := 48) d_X11_listBalesAt_48 rfl ?_
          refine P_iast (pc := 49) (cnt (tp σ y) j) d_X11_listBalesAt_49 (tt_130 b) rfl (ln_of (ll_130 b) ⟨by omega, by decide⟩) ?_
          refine V_iinc (pc := 50) d_X11_listBalesAt_50 rfl (by decide) ?_
          refine V_iinc (pc := 53) d_X11_listBalesAt_53 rfl (by decide) ?_
          refine V_goto (pc := 56) 4 d_X11_listBalesAt_56 (by decide) ?_
          rw [show nI j + Int32.ofInt 1 = nI (j + 1) from nI_1 j]
          first | (rw [p1_s, chF_y (σ := σ) (p := tp σ y) (n := j) (decide_eq_true ⟨c31, c40⟩), ← cnt_s1 (p := tp σ y) (n := j) (decide_eq_true ⟨c31, c40⟩)]) | (rw [chF_no (σ := σ) (p := tp σ y) (n := j) (fun w => c40 (of_decide_eq_true w).2), ← cnt_s0 (p := tp σ y) (n := j) (fun w => c40 (of_decide_eq_true w).2)]) | (rw [chF_no (σ := σ) (p := tp σ y) (n := j) (fun w => c31 (of_decide_eq_true w).1), ← cnt_s0 (p := tp σ y) (n := j) (fun w => c31 (of_decide_eq_true w).1)])
          exact ih (by omega) (j + 1) (by omega) _
theorem ct_X11_listBalesAt {y : Int32} {ns nb nl : Nat} (hA : cA σ 4 σ ns nb nl) (rnl : σ 4 3 = nI nl) (hnl : nl ≤ 12) (hq : K (nI (cnt (tp σ y) nl)) (chF σ (tp σ y) nl, sh b)) : CM G mX11_listBalesAt (rl 1) [.ref 3, .int y] (σ, sh b) (QI K) := by
  refine CM.of (by decide) (Nat.le_of_ble_eq_true rfl) (cats1 rfl) ?_
  refine V_iconst (pc := 0) (0) d_X11_listBalesAt_0 (by decide) ?_
  refine V_istore_n (pc := 1) d_X11_listBalesAt_1 (by decide) ?_
  refine V_iconst (pc := 2) (0) d_X11_listBalesAt_2 (by decide) ?_
  refine V_istore_n (pc := 3) d_X11_listBalesAt_3 (by decide) ?_
  refine lp_lb (F := FM G (rl 1) (QI K)) hA rnl hnl (fun z => ?_) nl (Nat.le_refl _) 0 (by omega) _
  refine V_iload_n (pc := 59) d_X11_listBalesAt_59 rfl ?_
  exact V_retI (pc := 60) d_X11_listBalesAt_60 rfl ⟨Nat.le_refl _, Nat.le_refl _⟩ hq
theorem lp_bi {v w : Nat → Nat} {p : Nat → Bool} {i m nl : Nat} {z : Int32} {k : Nat} (hm : m = cnt p nl) (hnl : nl ≤ 12) (hc : ∀ e, e < m → σ 130 e = nI (ch p nl e)) (hv : ∀ k, k < nl → BK σ v w k) (h1k : 1 ≤ k) (hk : k < 4096) (x4 x5 x6 : Option Value) (hE : ∀ x12 x13 x14 : Option Value, V G mX11_bestSet (rl 3) F 0 0 161 [some (.ref 3), some (.ref (77 + 4 * i)), some (.int z), some (.int (nI m)), x4, x5, x6, some (.int (nI (sn v nl (pd p nl k)))), some (.int (nI (sn w nl (pd p nl k)))), some (.int (nI (pd p nl k))), some (.int (nI k)), some (.int (nI (k ^^^ (k - 1)))), x12, x13, x14] [] (σ, sh b)) : ∀ n, n ≤ m → ∀ j, j + n = m → ∀ x13 x14 : Option Value, V G mX11_bestSet (rl 3) F 0 0 41 [some (.ref 3), some (.ref (77 + 4 * i)), some (.int z), some (.int (nI m)), x4, x5, x6, some (.int (nI (sm (fun e => v (ch p nl e)) (mx k j) m))), some (.int (nI (sm (fun e => w (ch p nl e)) (mx k j) m))), some (.int (nI (xs (fun e => 2 ^ (ch p nl e)) (mx k j) m))), some (.int (nI k)), some (.int (nI (k ^^^ (k - 1)))), some (.int (nI j)), x13, x14] [] (σ, sh b) := by
  have hm12 : m ≤ 12 := by have := @cnt_le p nl; omega
  have hk2 : k ^^^ (k - 1) < 65536 := Nat.lt_of_lt_of_le (Nat.xor_lt_two_pow (n := 12) hk (by omega)) (by decide)
  intro n
  induction n with
  | zero =>
    intro _ j hj x13 x14
    obtain rfl : m = j := by omega
    refine V_iload (pc := 41) d_X11_bestSet_41 rfl ?_
    refine V_iload_n (pc := 43) d_X11_bestSet_43 rfl ?_
    refine B_icmp_ge (pc := 44) 161 d_X11_bestSet_44 (by decide) (fun c44 => ?_) (fun c44 => ?_)
    · simp (disch := omega) only [nI_toInt, ti0, ti1, tim1, tim20, tim1000] at c44
      have en1 : sm (fun e => v (ch p nl e)) (mx k m) m = sn v nl (pd p nl k) := by rw [sm_cg (q := mx k m) (q' := fun i => k.testBit i) (fun i hi => if_pos hi), hm]; exact sm_pd (Nat.le_refl _)
      have en2 : sm (fun e => w (ch p nl e)) (mx k m) m = sn w nl (pd p nl k) := by rw [sm_cg (q := mx k m) (q' := fun i => k.testBit i) (fun i hi => if_pos hi), hm]; exact sm_pd (Nat.le_refl _)
      have en3 : xs (fun e => 2 ^ (ch p nl e)) (mx k m) m = pd p nl k := by rw [xs_cg (q := mx k m) (q' := fun i => k.testBit i) (fun i hi => if_pos hi), hm]; exact xs_pd (Nat.le_refl _)
      rw [en1, en2, en3]
      exact hE _ _ _
    · simp (disch := omega) only [nI_toInt, ti0, ti1, tim1, tim20, tim1000] at c44
      all_goals omega
  | succ n ih =>
    intro _ j hj x13 x14
    refine V_iload (pc := 41) d_X11_bestSet_41 rfl ?_
    refine V_iload_n (pc := 43) d_X11_bestSet_43 rfl ?_
    refine B_icmp_ge (pc := 44) 161 d_X11_bestSet_44 (by decide) (fun c44 => ?_) (fun c44 => ?_)
    · simp (disch := omega) only [nI_toInt, ti0, ti1, tim1, tim20, tim1000] at c44
      all_goals omega
    · simp (disch := omega) only [nI_toInt, ti0, ti1, tim1, tim20, tim1000] at c44
      refine V_iload (pc := 47) d_X11_bestSet_47 rfl ?_
      refine V_iload (pc := 49) d_X11_bestSet_49 rfl ?_
      refine V_ishr (pc := 51) d_X11_bestSet_51 ?_
      refine V_iconst (pc := 52) (1) d_X11_bestSet_52 (by decide) ?_
      refine V_iand (pc := 53) d_X11_bestSet_53 ?_
      refine V_iconst (pc := 54) (1) d_X11_bestSet_54 (by decide) ?_
      refine V_icmp_ne (pc := 55) 161 d_X11_bestSet_55 (by decide) (fun c55 => ?_) (fun c55 => ?_)
      · rw [bn_bit1 hk2 (by omega)] at c55
        have en1 : sm (fun e => v (ch p nl e)) (mx k j) m = sn v nl (pd p nl k) := by rw [sm_cg (q := mx k j) (q' := fun i => k.testBit i) (fun i _ => mx_end h1k c55), hm]; exact sm_pd (Nat.le_refl _)
        have en2 : sm (fun e => w (ch p nl e)) (mx k j) m = sn w nl (pd p nl k) := by rw [sm_cg (q := mx k j) (q' := fun i => k.testBit i) (fun i _ => mx_end h1k c55), hm]; exact sm_pd (Nat.le_refl _)
        have en3 : xs (fun e => 2 ^ (ch p nl e)) (mx k j) m = pd p nl k := by rw [xs_cg (q := mx k j) (q' := fun i => k.testBit i) (fun i _ => mx_end h1k c55), hm]; exact xs_pd (Nat.le_refl _)
        rw [en1, en2, en3]
        exact hE _ _ _
      · rw [bn_bit1 hk2 (by omega)] at c55
        have hcb := ch_bit c55
        have hch : ch p nl j < nl := ch_lt (by omega)
        refine V_aload_n (pc := 58) d_X11_bestSet_58 rfl ?_
        refine P_getR (pc := 59) d_X11_bestSet_59 f_X11_10 (tt_3 b) (rr_3_0 b) ?_
        refine P_getR (pc := 62) d_X11_bestSet_62 f_X11_126 (tt_4 b) (rr_4_13 b) ?_
        refine V_aload_n (pc := 65) d_X11_bestSet_65 rfl ?_
        refine P_getR (pc := 66) d_X11_bestSet_66 f_X11_46 (tt_3 b) (rr_3_7 b) ?_
        refine V_iload (pc := 69) d_X11_bestSet_69 rfl ?_
        refine P_iald (pc := 71) (j) d_X11_bestSet_71 (tt_130 b) rfl (ln_of (ll_130 b) ⟨by omega, by decide⟩) ?_
        rw [hc j (by omega)]
        refine P_aald (pc := 72) (c := 1) (ch p nl j) d_X11_bestSet_72 (tt_10 b) (by decide) rfl (ln_of (ll_10 b) ⟨by omega, by decide⟩) (rBA b (by omega)) ?_
        refine V_astore (pc := 73) d_X11_bestSet_73 (by decide) ?_
        refine V_iload (pc := 75) d_X11_bestSet_75 rfl ?_
        refine V_iload (pc := 77) d_X11_bestSet_77 rfl ?_
        refine V_ishr (pc := 79) d_X11_bestSet_79 ?_
        refine V_iconst (pc := 80) (1) d_X11_bestSet_80 (by decide) ?_
        refine V_iand (pc := 81) d_X11_bestSet_81 ?_
        refine V_iconst (pc := 82) (1) d_X11_bestSet_82 (by decide) ?_
        refine V_icmp_ne (pc := 83) 90 d_X11_bestSet_83 (by decide) (fun c83 => ?_) (fun c83 => ?_)
        · rw [bn_bit1 (by omega) (by omega)] at c83
          have b0 : ¬ mx k (j + 1) j = true := by rw [mx_n]; exact c83
          have b1 : mx k j j = true := by
            rw [mx_o]
            cases h9 : (k - 1).testBit j
            · rw [h9] at hcb; exact absurd hcb c83
            · rfl
          refine V_iconst (pc := 90) (0) d_X11_bestSet_90 (by decide) ?_
          refine V_istore (pc := 91) d_X11_bestSet_91 (by decide) ?_
          refine V_iload (pc := 93) d_X11_bestSet_93 rfl ?_
          refine V_iload (pc := 95) d_X11_bestSet_95 rfl ?_
          refine V_if_eq (pc := 97) 108 d_X11_bestSet_97 (by decide) (fun c97 => ?_) (fun c97 => ?_)
          · refine V_aload (pc := 108) d_X11_bestSet_108 rfl ?_
            refine P_getI (pc := 110) d_X11_bestSet_110 f_X11_170 (tBA b (by omega)) ?_
            rw [(hv _ hch).1]
            refine V_ineg (pc := 113) d_X11_bestSet_113 ?_
            refine V_iadd (pc := 114) d_X11_bestSet_114 ?_
            refine V_istore (pc := 115) d_X11_bestSet_115 (by decide) ?_
            refine V_iload (pc := 117) d_X11_bestSet_117 rfl ?_
            refine V_iload (pc := 119) d_X11_bestSet_119 rfl ?_
            refine V_if_eq (pc := 121) 132 d_X11_bestSet_121 (by decide) (fun c121 => ?_) (fun c121 => ?_)
            · refine V_aload (pc := 132) d_X11_bestSet_132 rfl ?_
              refine P_getI (pc := 134) d_X11_bestSet_134 f_X11_150 (tBA b (by omega)) ?_
              rw [(hv _ hch).2.2.1]
              refine V_ineg (pc := 137) d_X11_bestSet_137 ?_
              refine V_iadd (pc := 138) d_X11_bestSet_138 ?_
              refine V_istore (pc := 139) d_X11_bestSet_139 (by decide) ?_
              refine V_iload (pc := 141) d_X11_bestSet_141 rfl ?_
              refine V_iconst (pc := 143) (1) d_X11_bestSet_143 (by decide) ?_
              refine V_aload_n (pc := 144) d_X11_bestSet_144 rfl ?_
              refine P_getR (pc := 145) d_X11_bestSet_145 f_X11_46 (tt_3 b) (rr_3_7 b) ?_
              refine V_iload (pc := 148) d_X11_bestSet_148 rfl ?_
              refine P_iald (pc := 150) (j) d_X11_bestSet_150 (tt_130 b) rfl (ln_of (ll_130 b) ⟨by omega, by decide⟩) ?_
              rw [hc j (by omega)]
              refine V_ishl (pc := 151) d_X11_bestSet_151 ?_
              refine V_ixor (pc := 152) d_X11_bestSet_152 ?_
              refine V_istore (pc := 153) d_X11_bestSet_153 (by decide) ?_
              refine V_iinc (pc := 155) d_X11_bestSet_155 rfl (by decide) ?_
              refine V_goto (pc := 158) 41 d_X11_bestSet_158 (by decide) ?_
              rw [p1_s]
              rw [sm_fl (v := (fun e => v (ch p nl e))) (q := mx k (j + 1)) (q' := mx k j) (fun i hi => (mx_ne hi).symm) b0 b1 (by omega), sm_fl (v := (fun e => w (ch p nl e))) (q := mx k (j + 1)) (q' := mx k j) (fun i hi => (mx_ne hi).symm) b0 b1 (by omega), ng_nI, ng_nI]
              rw [bn_shl _ (by omega), bn_xor, ← xs_fl (v := (fun e => 2 ^ (ch p nl e))) (q := mx k j) (q' := mx k (j + 1)) (fun i hi => mx_ne hi) (by rw [mx_n, mx_o]; exact hcb) (by omega)]
              exact ih (by omega) (j + 1) (by omega) _ _
            · exact absurd (by decide) c121
          · exact absurd (by decide) c97
        · rw [bn_bit1 (by omega) (by omega)] at c83
          have b1 : mx k (j + 1) j = true := by rw [mx_n]; exact c83
          have b0 : ¬ mx k j j = true := by
            rw [mx_o]
            intro w
            rw [c83, w] at hcb
            cases hcb
          refine V_iconst (pc := 86) (1) d_X11_bestSet_86 (by decide) ?_
          refine V_goto (pc := 87) 91 d_X11_bestSet_87 (by decide) ?_
          refine V_istore (pc := 91) d_X11_bestSet_91 (by decide) ?_
          refine V_iload (pc := 93) d_X11_bestSet_93 rfl ?_
          refine V_iload (pc := 95) d_X11_bestSet_95 rfl ?_
          refine V_if_eq (pc := 97) 108 d_X11_bestSet_97 (by decide) (fun c97 => ?_) (fun c97 => ?_)
          · exact absurd c97 (by decide)
          · refine V_aload (pc := 100) d_X11_bestSet_100 rfl ?_
            refine P_getI (pc := 102) d_X11_bestSet_102 f_X11_170 (tBA b (by omega)) ?_
            rw [(hv _ hch).1]
            refine V_goto (pc := 105) 114 d_X11_bestSet_105 (by decide) ?_
            refine V_iadd (pc := 114) d_X11_bestSet_114 ?_
            refine V_istore (pc := 115) d_X11_bestSet_115 (by decide) ?_
            refine V_iload (pc := 117) d_X11_bestSet_117 rfl ?_
            refine V_iload (pc := 119) d_X11_bestSet_119 rfl ?_
            refine V_if_eq (pc := 121) 132 d_X11_bestSet_121 (by decide) (fun c121 => ?_) (fun c121 => ?_)
            · exact absurd c121 (by decide)
            · refine V_aload (pc := 124) d_X11_bestSet_124 rfl ?_
              refine P_getI (pc := 126) d_X11_bestSet_126 f_X11_150 (tBA b (by omega)) ?_
              rw [(hv _ hch).2.2.1]
              refine V_goto (pc := 129) 138 d_X11_bestSet_129 (by decide) ?_
              refine V_iadd (pc := 138) d_X11_bestSet_138 ?_
              refine V_istore (pc := 139) d_X11_bestSet_139 (by decide) ?_
              refine V_iload (pc := 141) d_X11_bestSet_141 rfl ?_
              refine V_iconst (pc := 143) (1) d_X11_bestSet_143 (by decide) ?_
              refine V_aload_n (pc := 144) d_X11_bestSet_144 rfl ?_
              refine P_getR (pc := 145) d_X11_bestSet_145 f_X11_46 (tt_3 b) (rr_3_7 b) ?_
              refine V_iload (pc := 148) d_X11_bestSet_148 rfl ?_
              refine P_iald (pc := 150) (j) d_X11_bestSet_150 (tt_130 b) rfl (ln_of (ll_130 b) ⟨by omega, by decide⟩) ?_
              rw [hc j (by omega)]
              refine V_ishl (pc := 151) d_X11_bestSet_151 ?_
              refine V_ixor (pc := 152) d_X11_bestSet_152 ?_
              refine V_istore (pc := 153) d_X11_bestSet_153 (by decide) ?_
              refine V_iinc (pc := 155) d_X11_bestSet_155 rfl (by decide) ?_
              refine V_goto (pc := 158) 41 d_X11_bestSet_158 (by decide) ?_
              rw [p1_s]
              rw [nI_add, nI_add, ← sm_fl (v := (fun e => v (ch p nl e))) (q := mx k j) (q' := mx k (j + 1)) (fun i hi => mx_ne hi) b0 b1 (by omega), ← sm_fl (v := (fun e => w (ch p nl e))) (q := mx k j) (q' := mx k (j + 1)) (fun i hi => mx_ne hi) b0 b1 (by omega)]
              rw [bn_shl _ (by omega), bn_xor, ← xs_fl (v := (fun e => 2 ^ (ch p nl e))) (q := mx k j) (q' := mx k (j + 1)) (fun i hi => mx_ne hi) (by rw [mx_n, mx_o]; exact hcb) (by omega)]
              exact ih (by omega) (j + 1) (by omega) _ _
theorem lp_bo {v w : Nat → Nat} {p : Nat → Bool} {i m nl A rm hl : Nat} {z : Int32} (hm : m = cnt p nl) (hnl : nl ≤ 12) (hc : ∀ e, e < m → σ 130 e = nI (ch p nl e)) (hv : ∀ k, k < nl → BK σ v w k) (hi : i < 5) (e0 : σ (77 + 4 * i) 0 = nI hl) (e1 : σ (77 + 4 * i) 1 = nI rm) (e4 : σ (77 + 4 * i) 4 = nI A) (hA : A ≤ 3000) (hr : rm ≤ 999) (hh : hl ≤ 30) (hE : ∀ x11 x12 x13 x14 : Option Value, V G mX11_bestSet (rl 3) F 0 0 222 [some (.ref 3), some (.ref (77 + 4 * i)), some (.int z), some (.int (nI m)), some (.int (nI (bC v w p nl A rm hl z (2 ^ m)))), some (.int (nI (sn v nl (bC v w p nl A rm hl z (2 ^ m))))), some (.int (nI (sn w nl (bC v w p nl A rm hl z (2 ^ m))))), some (.int (nI (sn v nl (pd p nl (2 ^ m - 1))))), some (.int (nI (sn w nl (pd p nl (2 ^ m - 1))))), some (.int (nI (pd p nl (2 ^ m - 1)))), some (.int (nI (2 ^ m))), x11, x12, x13, x14] [] (σ, sh b)) : ∀ n, n ≤ 2 ^ m → ∀ k, k + n = 2 ^ m → 1 ≤ k → ∀ x11 x12 x13 x14 : Option Value, V G mX11_bestSet (rl 3) F 0 0 21 [some (.ref 3), some (.ref (77 + 4 * i)), some (.int z), some (.int (nI m)), some (.int (nI (bC v w p nl A rm hl z k))), some (.int (nI (sn v nl (bC v w p nl A rm hl z k)))), some (.int (nI (sn w nl (bC v w p nl A rm hl z k)))), some (.int (nI (sn v nl (pd p nl (k - 1))))), some (.int (nI (sn w nl (pd p nl (k - 1))))), some (.int (nI (pd p nl (k - 1)))), some (.int (nI k)), x11, x12, x13, x14] [] (σ, sh b) := by
  have hm12 : m ≤ 12 := by have := @cnt_le p nl; omega
  have hp := p2_12 hm12
  have bv : ∀ s, sn v nl s ≤ 999 * nl := fun s => sm_le (fun e he => (hv e he).2.1)
  have bw : ∀ s, sn w nl s ≤ 200 * nl := fun s => sm_le (fun e he => (hv e he).2.2.2)
  intro n
  induction n with
  | zero =>
    intro _ k hk h1k x11 x12 x13 x14
    obtain rfl : k = 2 ^ m := by omega
    refine V_iload (pc := 21) d_X11_bestSet_21 rfl ?_
    refine V_iconst (pc := 23) (1) d_X11_bestSet_23 (by decide) ?_
    refine V_iload_n (pc := 24) d_X11_bestSet_24 rfl ?_
    refine V_ishl (pc := 25) d_X11_bestSet_25 ?_
    rw [bn_shl _ (by omega)]
    refine B_icmp_ge (pc := 26) 222 d_X11_bestSet_26 (by decide) (fun c26 => ?_) (fun c26 => ?_)
    · simp (disch := omega) only [nI_toInt, ti0, ti1, tim1, tim20, tim1000] at c26
      exact hE _ _ _ _
    · simp (disch := omega) only [nI_toInt, ti0, ti1, tim1, tim20, tim1000] at c26
      all_goals omega
  | succ n ih =>
    intro _ k hk h1k x11 x12 x13 x14
    have r1 := bv (pd p nl k)
    have r2 := bv (bC v w p nl A rm hl z k)
    have r3 := bw (pd p nl k)
    have r4 := bw (bC v w p nl A rm hl z k)
    have stp : ∀ c, bC v w p nl A rm hl z (k + 1) = c → ∀ x11 x12 x13 x14 : Option Value, V G mX11_bestSet (rl 3) F 0 0 21 [some (.ref 3), some (.ref (77 + 4 * i)), some (.int z), some (.int (nI m)), some (.int (nI c)), some (.int (nI (sn v nl c))), some (.int (nI (sn w nl c))), some (.int (nI (sn v nl (pd p nl k)))), some (.int (nI (sn w nl (pd p nl k)))), some (.int (nI (pd p nl k))), some (.int (nI (k + 1))), x11, x12, x13, x14] [] (σ, sh b) := fun c e x11 x12 x13 x14 => by
      have q := ih (by omega) (k + 1) (by omega) (by omega) x11 x12 x13 x14
      rw [e] at q
      exact q
    refine V_iload (pc := 21) d_X11_bestSet_21 rfl ?_
    refine V_iconst (pc := 23) (1) d_X11_bestSet_23 (by decide) ?_
    refine V_iload_n (pc := 24) d_X11_bestSet_24 rfl ?_
    refine V_ishl (pc := 25) d_X11_bestSet_25 ?_
    rw [bn_shl _ (by omega)]
    refine B_icmp_ge (pc := 26) 222 d_X11_bestSet_26 (by decide) (fun c26 => ?_) (fun c26 => ?_)
    · simp (disch := omega) only [nI_toInt, ti0, ti1, tim1, tim20, tim1000] at c26
      all_goals omega
    · simp (disch := omega) only [nI_toInt, ti0, ti1, tim1, tim20, tim1000] at c26
      refine V_iload (pc := 29) d_X11_bestSet_29 rfl ?_
      refine V_iload (pc := 31) d_X11_bestSet_31 rfl ?_
      refine V_iconst (pc := 33) (1) d_X11_bestSet_33 (by decide) ?_
      refine V_isub (pc := 34) d_X11_bestSet_34 ?_
      refine V_ixor (pc := 35) d_X11_bestSet_35 ?_
      rw [show nI k - 1 = nI (k - 1) from wy_sub (c := 1) h1k (by omega), bn_xor]
      refine V_istore (pc := 36) d_X11_bestSet_36 (by decide) ?_
      refine V_iconst (pc := 38) (0) d_X11_bestSet_38 (by decide) ?_
      refine V_istore (pc := 39) d_X11_bestSet_39 (by decide) ?_
      have z1 : sn v nl (pd p nl (k - 1)) = sm (fun e => v (ch p nl e)) (mx k 0) m := by rw [mx_0, hm]; exact (sm_pd (Nat.le_refl _)).symm
      have z2 : sn w nl (pd p nl (k - 1)) = sm (fun e => w (ch p nl e)) (mx k 0) m := by rw [mx_0, hm]; exact (sm_pd (Nat.le_refl _)).symm
      have z3 : pd p nl (k - 1) = xs (fun e => 2 ^ (ch p nl e)) (mx k 0) m := by rw [mx_0, hm]; exact (xs_pd (Nat.le_refl _)).symm
      rw [z1, z2, z3]
      refine lp_bi hm hnl hc hv h1k (by omega) _ _ _ (fun y12 y13 y14 => ?_) m (Nat.le_refl _) 0 (by omega) _ _
      refine V_iload (pc := 161) d_X11_bestSet_161 rfl ?_
      refine V_iload (pc := 163) d_X11_bestSet_163 rfl ?_
      refine B_icmp_gt (pc := 165) 182 d_X11_bestSet_165 (by decide) (fun c165 => ?_) (fun c165 => ?_)
      · rw [nI_toInt (by omega), nI_toInt (by omega)] at c165
        refine V_iconst (pc := 182) (1) d_X11_bestSet_182 (by decide) ?_
        refine V_goto (pc := 183) 187 d_X11_bestSet_183 (by decide) ?_
        refine V_istore (pc := 187) d_X11_bestSet_187 (by decide) ?_
        refine V_iload (pc := 189) d_X11_bestSet_189 rfl ?_
        refine V_if_eq (pc := 191) 216 d_X11_bestSet_191 (by decide) (fun c191 => ?_) (fun c191 => ?_)
        · exact absurd c191 (by decide)
        · refine V_aload_n (pc := 194) d_X11_bestSet_194 rfl ?_
          refine V_iload (pc := 195) d_X11_bestSet_195 rfl ?_
          refine V_iload_n (pc := 197) d_X11_bestSet_197 rfl ?_
          refine V_cvI (pc := 198) (n := 2) (c := 2) [_, _] d_X11_bestSet_198 c_X11_369 k_X2_canTake ⟨rfl, rfl⟩ (tB b (by omega)) rfl (Nat.le_of_ble_eq_true rfl) ⟨Nat.le_of_ble_eq_true rfl, Nat.le_of_ble_eq_true rfl⟩ ⟨Nat.le_refl _, Nat.le_refl _⟩ (ct_X2_canTake (tB b hi) ?_)
          refine V_if_eq (pc := 201) 216 d_X11_bestSet_201 (by decide) (fun c201 => ?_) (fun c201 => ?_)
          · replace c201 := zf c201
            rw [fit_iff e4 e1 e0 hA hr hh (by omega)] at c201
            refine V_iinc (pc := 216) d_X11_bestSet_216 rfl (by decide) ?_
            refine V_goto (pc := 219) 21 d_X11_bestSet_219 (by decide) ?_
            rw [p1_s]
            first | exact stp _ (bC_s (lf_n2 (by omega))) _ _ _ _ | exact stp _ (bC_s (lf_n1 c201)) _ _ _ _ | exact stp _ (bC_s (lf_y c201 (by omega))) _ _ _ _
          · replace c201 := zt c201
            rw [fit_iff e4 e1 e0 hA hr hh (by omega)] at c201
            refine V_iload (pc := 204) d_X11_bestSet_204 rfl ?_
            refine V_istore (pc := 206) d_X11_bestSet_206 (by decide) ?_
            refine V_iload (pc := 208) d_X11_bestSet_208 rfl ?_
            refine V_istore (pc := 210) d_X11_bestSet_210 (by decide) ?_
            refine V_iload (pc := 212) d_X11_bestSet_212 rfl ?_
            refine V_istore (pc := 214) d_X11_bestSet_214 (by decide) ?_
            refine V_iinc (pc := 216) d_X11_bestSet_216 rfl (by decide) ?_
            refine V_goto (pc := 219) 21 d_X11_bestSet_219 (by decide) ?_
            rw [p1_s]
            first | exact stp _ (bC_s (lf_n2 (by omega))) _ _ _ _ | exact stp _ (bC_s (lf_n1 c201)) _ _ _ _ | exact stp _ (bC_s (lf_y c201 (by omega))) _ _ _ _
      · rw [nI_toInt (by omega), nI_toInt (by omega)] at c165
        refine V_iload (pc := 168) d_X11_bestSet_168 rfl ?_
        refine V_iload (pc := 170) d_X11_bestSet_170 rfl ?_
        refine V_icmp_ne (pc := 172) 186 d_X11_bestSet_172 (by decide) (fun c172 => ?_) (fun c172 => ?_)
        · rw [nI_eq (by omega) (by omega)] at c172
          refine V_iconst (pc := 186) (0) d_X11_bestSet_186 (by decide) ?_
          refine V_istore (pc := 187) d_X11_bestSet_187 (by decide) ?_
          refine V_iload (pc := 189) d_X11_bestSet_189 rfl ?_
          refine V_if_eq (pc := 191) 216 d_X11_bestSet_191 (by decide) (fun c191 => ?_) (fun c191 => ?_)
          · refine V_iinc (pc := 216) d_X11_bestSet_216 rfl (by decide) ?_
            refine V_goto (pc := 219) 21 d_X11_bestSet_219 (by decide) ?_
            rw [p1_s]
            first | exact stp _ (bC_s (lf_n2 (by omega))) _ _ _ _ | exact stp _ (bC_s (lf_n1 c201)) _ _ _ _ | exact stp _ (bC_s (lf_y c201 (by omega))) _ _ _ _
          · exact absurd (by decide) c191
        · rw [nI_eq (by omega) (by omega)] at c172
          refine V_iload (pc := 175) d_X11_bestSet_175 rfl ?_
          refine V_iload (pc := 177) d_X11_bestSet_177 rfl ?_
          refine B_icmp_ge (pc := 179) 186 d_X11_bestSet_179 (by decide) (fun c179 => ?_) (fun c179 => ?_)
          · rw [nI_toInt (by omega), nI_toInt (by omega)] at c179
            refine V_iconst (pc := 186) (0) d_X11_bestSet_186 (by decide) ?_
            refine V_istore (pc := 187) d_X11_bestSet_187 (by decide) ?_
            refine V_iload (pc := 189) d_X11_bestSet_189 rfl ?_
            refine V_if_eq (pc := 191) 216 d_X11_bestSet_191 (by decide) (fun c191 => ?_) (fun c191 => ?_)
            · refine V_iinc (pc := 216) d_X11_bestSet_216 rfl (by decide) ?_
              refine V_goto (pc := 219) 21 d_X11_bestSet_219 (by decide) ?_
              rw [p1_s]
              first | exact stp _ (bC_s (lf_n2 (by omega))) _ _ _ _ | exact stp _ (bC_s (lf_n1 c201)) _ _ _ _ | exact stp _ (bC_s (lf_y c201 (by omega))) _ _ _ _
            · exact absurd (by decide) c191
          · rw [nI_toInt (by omega), nI_toInt (by omega)] at c179
            refine V_iconst (pc := 182) (1) d_X11_bestSet_182 (by decide) ?_
            refine V_goto (pc := 183) 187 d_X11_bestSet_183 (by decide) ?_
            refine V_istore (pc := 187) d_X11_bestSet_187 (by decide) ?_
            refine V_iload (pc := 189) d_X11_bestSet_189 rfl ?_
            refine V_if_eq (pc := 191) 216 d_X11_bestSet_191 (by decide) (fun c191 => ?_) (fun c191 => ?_)
            · exact absurd c191 (by decide)
            · refine V_aload_n (pc := 194) d_X11_bestSet_194 rfl ?_
              refine V_iload (pc := 195) d_X11_bestSet_195 rfl ?_
              refine V_iload_n (pc := 197) d_X11_bestSet_197 rfl ?_
              refine V_cvI (pc := 198) (n := 2) (c := 2) [_, _] d_X11_bestSet_198 c_X11_369 k_X2_canTake ⟨rfl, rfl⟩ (tB b (by omega)) rfl (Nat.le_of_ble_eq_true rfl) ⟨Nat.le_of_ble_eq_true rfl, Nat.le_of_ble_eq_true rfl⟩ ⟨Nat.le_refl _, Nat.le_refl _⟩ (ct_X2_canTake (tB b hi) ?_)
              refine V_if_eq (pc := 201) 216 d_X11_bestSet_201 (by decide) (fun c201 => ?_) (fun c201 => ?_)
              · replace c201 := zf c201
                rw [fit_iff e4 e1 e0 hA hr hh (by omega)] at c201
                refine V_iinc (pc := 216) d_X11_bestSet_216 rfl (by decide) ?_
                refine V_goto (pc := 219) 21 d_X11_bestSet_219 (by decide) ?_
                rw [p1_s]
                first | exact stp _ (bC_s (lf_n2 (by omega))) _ _ _ _ | exact stp _ (bC_s (lf_n1 c201)) _ _ _ _ | exact stp _ (bC_s (lf_y c201 (by omega))) _ _ _ _
              · replace c201 := zt c201
                rw [fit_iff e4 e1 e0 hA hr hh (by omega)] at c201
                refine V_iload (pc := 204) d_X11_bestSet_204 rfl ?_
                refine V_istore (pc := 206) d_X11_bestSet_206 (by decide) ?_
                refine V_iload (pc := 208) d_X11_bestSet_208 rfl ?_
                refine V_istore (pc := 210) d_X11_bestSet_210 (by decide) ?_
                refine V_iload (pc := 212) d_X11_bestSet_212 rfl ?_
                refine V_istore (pc := 214) d_X11_bestSet_214 (by decide) ?_
                refine V_iinc (pc := 216) d_X11_bestSet_216 rfl (by decide) ?_
                refine V_goto (pc := 219) 21 d_X11_bestSet_219 (by decide) ?_
                rw [p1_s]
                first | exact stp _ (bC_s (lf_n2 (by omega))) _ _ _ _ | exact stp _ (bC_s (lf_n1 c201)) _ _ _ _ | exact stp _ (bC_s (lf_y c201 (by omega))) _ _ _ _
theorem ct_X11_bestSet {v w : Nat → Nat} {p : Nat → Bool} {i m nl A rm hl : Nat} {z : Int32} (hm : m = cnt p nl) (hnl : nl ≤ 12) (hc : ∀ e, e < m → σ 130 e = nI (ch p nl e)) (hv : ∀ k, k < nl → BK σ v w k) (hi : i < 5) (e0 : σ (77 + 4 * i) 0 = nI hl) (e1 : σ (77 + 4 * i) 1 = nI rm) (e4 : σ (77 + 4 * i) 4 = nI A) (hA : A ≤ 3000) (hr : rm ≤ 999) (hh : hl ≤ 30) (hq : K (nI (bC v w p nl A rm hl z (2 ^ m))) (σ, sh b)) : CM G mX11_bestSet (rl 3) [.ref 3, .ref (77 + 4 * i), .int z, .int (nI m)] (σ, sh b) (QI K) := by
  refine CM.of (by decide) (Nat.le_of_ble_eq_true rfl) (cats1 rfl) ?_
  refine V_iconst (pc := 0) (0) d_X11_bestSet_0 (by decide) ?_
  refine V_istore (pc := 1) d_X11_bestSet_1 (by decide) ?_
  refine V_iconst (pc := 3) (0) d_X11_bestSet_3 (by decide) ?_
  refine V_istore (pc := 4) d_X11_bestSet_4 (by decide) ?_
  refine V_iconst (pc := 6) (0) d_X11_bestSet_6 (by decide) ?_
  refine V_istore (pc := 7) d_X11_bestSet_7 (by decide) ?_
  refine V_iconst (pc := 9) (0) d_X11_bestSet_9 (by decide) ?_
  refine V_istore (pc := 10) d_X11_bestSet_10 (by decide) ?_
  refine V_iconst (pc := 12) (0) d_X11_bestSet_12 (by decide) ?_
  refine V_istore (pc := 13) d_X11_bestSet_13 (by decide) ?_
  refine V_iconst (pc := 15) (0) d_X11_bestSet_15 (by decide) ?_
  refine V_istore (pc := 16) d_X11_bestSet_16 (by decide) ?_
  refine V_iconst (pc := 18) (1) d_X11_bestSet_18 (by decide) ?_
  refine V_istore (pc := 19) d_X11_bestSet_19 (by decide) ?_
  have hp : 1 ≤ 2 ^ m := Nat.one_le_two_pow
  have q := fun hE => lp_bo (G := G) (b := b) (F := FM G (rl 3) (QI K)) (z := z) hm hnl hc hv hi e0 e1 e4 hA hr hh hE (2 ^ m - 1) (by omega) 1 (by omega) (Nat.le_refl _) none none none none
  rw [bC_1, show pd p nl (1 - 1) = 0 from pd_0 p nl, sn_0, sn_0] at q
  refine q (fun x11 x12 x13 x14 => ?_)
  refine V_iload (pc := 222) d_X11_bestSet_222 rfl ?_
  exact V_retI (pc := 224) d_X11_bestSet_224 rfl ⟨Nat.le_refl _, Nat.le_refl _⟩ hq
theorem ct_X11_lading {x z : Int32} {q ns nb nl nt nr : Nat} (hR : RR σ 4 σ q ns nb nl nt nr) (h1 : ¬ (∃ i : Nat, i < nb ∧ x = nI i ∧ σ 152 i = 0 ∧ (draS σ i nl).toInt ≤ z.toInt) → K (-1) (σ, sh b)) (h2 : ∀ i : Nat, i < nb → x = nI i → σ 152 i = 0 → (draS σ i nl).toInt ≤ z.toInt → K (nI (ldR σ i nl z)) (chF σ (tp σ (σ 153 i)) nl, sh b)) : CM G mX11_lading (rl 4) [.ref 3, .int x, .int z] (σ, sh b) (QI K) := by
  obtain ⟨⟨⟨hq2, hn10, hnb, hnl, hnt, hnr⟩, ⟨vq, vns, vnb, vnl, vnt, vnr⟩, ⟨rq, rns, rnb, rnl, rnt, rnr⟩, hpd⟩, hH, hC, hS, hLD, hB, hA, hT, hU⟩ := id hR
  refine CM.of (by decide) (Nat.le_of_ble_eq_true rfl) (cats1 rfl) ?_
  refine V_aload_n (pc := 0) d_X11_lading_0 rfl ?_
  refine P_getR (pc := 1) d_X11_lading_1 f_X11_10 (tt_3 b) (rr_3_0 b) ?_
  refine V_iload_n (pc := 4) d_X11_lading_4 rfl ?_
  refine V_cvI (pc := 5) (n := 2) (c := 4) [_] d_X11_lading_5 c_X11_136 k_X4_isBoat ⟨rfl, rfl⟩ (tt_4 b) rfl (Nat.le_of_ble_eq_true rfl) ⟨Nat.le_of_ble_eq_true rfl, Nat.le_of_ble_eq_true rfl⟩ ⟨Nat.le_refl _, Nat.le_refl _⟩ (ct_X4_isBoat rnb (by omega) ?_)
  refine V_if_ne (pc := 8) 13 d_X11_lading_8 (by decide) (fun c8 => ?_) (fun c8 => ?_)
  · replace c8 := zt c8
    obtain ⟨i, hi, rfl, -⟩ := nat_of (n := nb) (x := x) (by omega) (by omega) (by omega)
    refine V_aload_n (pc := 13) d_X11_lading_13 rfl ?_
    refine P_getR (pc := 14) d_X11_lading_14 f_X11_10 (tt_3 b) (rr_3_0 b) ?_
    refine P_getR (pc := 17) d_X11_lading_17 f_X11_113 (tt_4 b) (rr_4_12 b) ?_
    refine V_iload_n (pc := 20) d_X11_lading_20 rfl ?_
    refine P_aald (pc := 21) (c := 2) (i) d_X11_lading_21 (tt_9 b) (by decide) rfl (ln_of (ll_9 b) ⟨by omega, by decide⟩) (rB b (by omega)) ?_
    refine V_astore_n (pc := 22) d_X11_lading_22 (by decide) ?_
    refine V_aload_n (pc := 23) d_X11_lading_23 rfl ?_
    refine P_getI (pc := 24) d_X11_lading_24 f_X11_142 (tB b (by omega)) ?_
    rw [(cB_f hB (by omega : i < nb)).2.2.2.2.2.1]
    refine V_if_ne (pc := 27) 38 d_X11_lading_27 (by decide) (fun c27 => ?_) (fun c27 => ?_)
    · refine V_iconst (pc := 38) (-1) d_X11_lading_38 (by decide) ?_
      exact V_retI (pc := 39) d_X11_lading_39 rfl ⟨Nat.le_refl _, Nat.le_refl _⟩ (h1 (by
            rintro ⟨i', g1, g2, g3, g4⟩
            obtain rfl : i = i' := (nI_eq (by omega) (by omega)).mp g2
            first | exact c27 g3 | omega))
    · refine V_aload_n (pc := 30) d_X11_lading_30 rfl ?_
      refine V_cvI (pc := 31) (n := 2) (c := 2) [] d_X11_lading_31 c_X11_156 k_X2_draught ⟨rfl, rfl⟩ (tB b (by omega)) rfl (Nat.le_of_ble_eq_true rfl) ⟨Nat.le_of_ble_eq_true rfl, Nat.le_of_ble_eq_true rfl⟩ ⟨Nat.le_refl _, Nat.le_refl _⟩ (ct_B_draught hB hi (by omega) ?_)
      refine V_iload_n (pc := 34) d_X11_lading_34 rfl ?_
      refine B_icmp_le (pc := 35) 40 d_X11_lading_35 (by decide) (fun c35 => ?_) (fun c35 => ?_)
      · obtain ⟨A, hA2, eA⟩ := aboS_nat (i := i) hA nl (Nat.le_refl _)
        obtain ⟨hl, hl1, hl2, ehl⟩ := (hB i hi).2.1
        obtain ⟨rm, rm1, rm2, erm⟩ := (hB i hi).2.2.1
        have eL : ldR σ i nl z = bC (rtv σ) (wtv σ) (tp σ (σ 153 i)) nl A rm hl z (2 ^ (cnt (tp σ (σ 153 i)) nl)) := by rw [ldR, bMC, eA, erm, ehl, nI_clamp (by omega), nI_clamp (by omega), nI_clamp (by omega)]
        refine V_aload_n (pc := 40) d_X11_lading_40 rfl ?_
        refine V_aload_n (pc := 41) d_X11_lading_41 rfl ?_
        refine V_iload_n (pc := 42) d_X11_lading_42 rfl ?_
        refine V_aload_n (pc := 43) d_X11_lading_43 rfl ?_
        refine V_aload_n (pc := 44) d_X11_lading_44 rfl ?_
        refine P_getI (pc := 45) d_X11_lading_45 f_X11_146 (tB b (by omega)) ?_
        rw [(cB_f hB (by omega : i < nb)).2.2.2.2.2.2]
        refine V_cvI (pc := 48) (n := 1) (c := 11) [_] d_X11_lading_48 c_X11_273 k_X11_listBalesAt ⟨rfl, rfl⟩ (tt_3 b) rfl (Nat.le_of_ble_eq_true rfl) ⟨Nat.le_of_ble_eq_true rfl, Nat.le_of_ble_eq_true rfl⟩ ⟨Nat.le_refl _, Nat.le_refl _⟩ (ct_X11_listBalesAt hA rnl hnl ?_)
        refine V_cvI (pc := 51) (n := 3) (c := 11) [_, _, _] d_X11_lading_51 c_X11_276 k_X11_bestSet ⟨rfl, rfl⟩ (tt_3 b) rfl (Nat.le_of_ble_eq_true rfl) ⟨Nat.le_of_ble_eq_true rfl, Nat.le_of_ble_eq_true rfl⟩ ⟨Nat.le_refl _, Nat.le_refl _⟩ (ct_X11_bestSet (v := rtv σ) (w := wtv σ) (p := tp σ (σ 153 i)) (nl := nl) (A := A) (rm := rm) (hl := hl) rfl hnl (fun e he => chF_c he) (fun k hk => (by unfold BK; rw [chF_o (by omega), chF_o (by omega)]; exact BK_of hA k hk)) (by omega) ((chF_o (by omega)).trans ((cB_f hB hi).1.trans ehl)) ((chF_o (by omega)).trans ((cB_f hB hi).2.1.trans erm)) ((chF_o (by omega)).trans ((cB_f hB hi).2.2.2.2.1.trans eA)) (by omega) (by omega) (by omega) ?_)
        exact V_retI (pc := 54) d_X11_lading_54 rfl ⟨Nat.le_refl _, Nat.le_refl _⟩ (by have g := h2 i hi rfl c27 c35; rw [eL] at g; exact g)
      · refine V_iconst (pc := 38) (-1) d_X11_lading_38 (by decide) ?_
        exact V_retI (pc := 39) d_X11_lading_39 rfl ⟨Nat.le_refl _, Nat.le_refl _⟩ (h1 (by
            rintro ⟨i', g1, g2, g3, g4⟩
            obtain rfl : i = i' := (nI_eq (by omega) (by omega)).mp g2
            first | exact c27 g3 | omega))
  · replace c8 := zf c8
    refine V_iconst (pc := 11) (-1) d_X11_lading_11 (by decide) ?_
    exact V_retI (pc := 12) d_X11_lading_12 rfl ⟨Nat.le_refl _, Nat.le_refl _⟩ (h1 (by
            rintro ⟨i', g1, g2, g3, g4⟩
            first
              | (subst g2; rw [nI_toInt (by omega)] at c8; omega)
              | (obtain rfl : i = i' := (nI_eq (by omega) (by omega)).mp g2; first | exact absurd g3 c8 | omega)))
theorem lp_su0 {v w : Nat → Nat} {s nl : Nat} (vnl : σ 139 24 = nI nl) (hnl : nl ≤ 12) (hs : s < 65536) (hv : ∀ k, k < nl → BN σ v w k) (hE : V G mX12_sumOf (rl 1) F 0 0 57 [some (.ref 139), some (.int (nI s)), some (.int 0), some (.int (nI (sm w (fun i => s.testBit i) nl))), some (.int (nI nl))] [] (σ, sh b)) : ∀ n, n ≤ nl → ∀ j, j + n = nl → V G mX12_sumOf (rl 1) F 0 0 5 [some (.ref 139), some (.int (nI s)), some (.int 0), some (.int (nI (sm w (fun i => s.testBit i) j))), some (.int (nI j))] [] (σ, sh b) := by
  intro n
  induction n with
  | zero =>
    intro _ j hj
    obtain rfl : j = nl := by omega
    refine V_iload (pc := 5) d_X12_sumOf_5 rfl ?_
    refine V_aload_n (pc := 7) d_X12_sumOf_7 rfl ?_
    refine P_getI (pc := 8) d_X12_sumOf_8 f_X12_181 (tt_139 b) ?_
    rw [vnl]
    refine B_icmp_ge (pc := 11) 57 d_X12_sumOf_11 (by decide) (fun c11 => ?_) (fun c11 => ?_)
    · simp (disch := omega) only [nI_toInt, ti0, ti1, tim1, tim20, tim1000] at c11
      exact hE
    · simp (disch := omega) only [nI_toInt, ti0, ti1, tim1, tim20, tim1000] at c11
      all_goals omega
  | succ n ih =>
    intro _ j hj
    refine V_iload (pc := 5) d_X12_sumOf_5 rfl ?_
    refine V_aload_n (pc := 7) d_X12_sumOf_7 rfl ?_
    refine P_getI (pc := 8) d_X12_sumOf_8 f_X12_181 (tt_139 b) ?_
    rw [vnl]
    refine B_icmp_ge (pc := 11) 57 d_X12_sumOf_11 (by decide) (fun c11 => ?_) (fun c11 => ?_)
    · simp (disch := omega) only [nI_toInt, ti0, ti1, tim1, tim20, tim1000] at c11
      all_goals omega
    · simp (disch := omega) only [nI_toInt, ti0, ti1, tim1, tim20, tim1000] at c11
      refine V_iload_n (pc := 14) d_X12_sumOf_14 rfl ?_
      refine V_iload_n (pc := 15) d_X12_sumOf_15 rfl ?_
      refine V_iload (pc := 16) d_X12_sumOf_16 rfl ?_
      refine V_ishr (pc := 18) d_X12_sumOf_18 ?_
      refine V_iconst (pc := 19) (1) d_X12_sumOf_19 (by decide) ?_
      refine V_iand (pc := 20) d_X12_sumOf_20 ?_
      refine V_if_ne (pc := 21) 28 d_X12_sumOf_21 (by decide) (fun c21 => ?_) (fun c21 => ?_)
      · rw [bn_bit0 (by omega) (by omega), Classical.not_not] at c21
        refine V_iload_n (pc := 28) d_X12_sumOf_28 rfl ?_
        refine V_if_eq (pc := 29) 42 d_X12_sumOf_29 (by decide) (fun c29 => ?_) (fun c29 => ?_)
        · refine V_aload_n (pc := 42) d_X12_sumOf_42 rfl ?_
          refine P_getR (pc := 43) d_X12_sumOf_43 f_X12_74 (tt_139 b) (rr_139_26 b) ?_
          refine V_iload (pc := 46) d_X12_sumOf_46 rfl ?_
          refine P_iald (pc := 48) (j) d_X12_sumOf_48 (tt_161 b) rfl (ln_of (ll_161 b) ⟨by omega, by decide⟩) ?_
          rw [(hv j (by omega)).2.2.1]
          refine V_iadd (pc := 49) d_X12_sumOf_49 ?_
          refine V_istore_n (pc := 50) d_X12_sumOf_50 (by decide) ?_
          refine V_iinc (pc := 51) d_X12_sumOf_51 rfl (by decide) ?_
          refine V_goto (pc := 54) 5 d_X12_sumOf_54 (by decide) ?_
          rw [p1_s]
          first | (rw [show nI (sm w (fun i => s.testBit i) j) + nI (w j) = nI (sm w (fun i => s.testBit i) (j + 1)) by rw [nI_add, sm, if_pos c21]]) | (rw [show nI (sm w (fun i => s.testBit i) j) + 0 = nI (sm w (fun i => s.testBit i) (j + 1)) by rw [Int32.add_zero, sm, if_neg c21, Nat.add_zero]])
          exact ih (by omega) (j + 1) (by omega)
        · exact absurd (by decide) c29
      · rw [bn_bit0 (by omega) (by omega)] at c21
        refine V_iconst (pc := 24) (0) d_X12_sumOf_24 (by decide) ?_
        refine V_goto (pc := 25) 49 d_X12_sumOf_25 (by decide) ?_
        refine V_iadd (pc := 49) d_X12_sumOf_49 ?_
        refine V_istore_n (pc := 50) d_X12_sumOf_50 (by decide) ?_
        refine V_iinc (pc := 51) d_X12_sumOf_51 rfl (by decide) ?_
        refine V_goto (pc := 54) 5 d_X12_sumOf_54 (by decide) ?_
        rw [p1_s]
        first | (rw [show nI (sm w (fun i => s.testBit i) j) + nI (w j) = nI (sm w (fun i => s.testBit i) (j + 1)) by rw [nI_add, sm, if_pos c21]]) | (rw [show nI (sm w (fun i => s.testBit i) j) + 0 = nI (sm w (fun i => s.testBit i) (j + 1)) by rw [Int32.add_zero, sm, if_neg c21, Nat.add_zero]])
        exact ih (by omega) (j + 1) (by omega)
theorem ct_X12_sumOf0 {v w : Nat → Nat} {s nl : Nat} (vnl : σ 139 24 = nI nl) (hnl : nl ≤ 12) (hs : s < 65536) (hv : ∀ k, k < nl → BN σ v w k) (hq : K (nI (sn w nl s)) (σ, sh b)) : CM G mX12_sumOf (rl 1) [.ref 139, .int (nI s), .int 0] (σ, sh b) (QI K) := by
  refine CM.of (by decide) (Nat.le_of_ble_eq_true rfl) (cats1 rfl) ?_
  refine V_iconst (pc := 0) (0) d_X12_sumOf_0 (by decide) ?_
  refine V_istore_n (pc := 1) d_X12_sumOf_1 (by decide) ?_
  refine V_iconst (pc := 2) (0) d_X12_sumOf_2 (by decide) ?_
  refine V_istore (pc := 3) d_X12_sumOf_3 (by decide) ?_
  refine lp_su0 (F := FM G (rl 1) (QI K)) vnl hnl hs hv ?_ nl (Nat.le_refl _) 0 (by omega)
  refine V_iload_n (pc := 57) d_X12_sumOf_57 rfl ?_
  exact V_retI (pc := 58) d_X12_sumOf_58 rfl ⟨Nat.le_refl _, Nat.le_refl _⟩ hq
theorem lp_su1 {v w : Nat → Nat} {s nl : Nat} (vnl : σ 139 24 = nI nl) (hnl : nl ≤ 12) (hs : s < 65536) (hv : ∀ k, k < nl → BN σ v w k) (hE : V G mX12_sumOf (rl 1) F 0 0 57 [some (.ref 139), some (.int (nI s)), some (.int 1), some (.int (nI (sm v (fun i => s.testBit i) nl))), some (.int (nI nl))] [] (σ, sh b)) : ∀ n, n ≤ nl → ∀ j, j + n = nl → V G mX12_sumOf (rl 1) F 0 0 5 [some (.ref 139), some (.int (nI s)), some (.int 1), some (.int (nI (sm v (fun i => s.testBit i) j))), some (.int (nI j))] [] (σ, sh b) := by
  intro n
  induction n with
  | zero =>
    intro _ j hj
    obtain rfl : j = nl := by omega
    refine V_iload (pc := 5) d_X12_sumOf_5 rfl ?_
    refine V_aload_n (pc := 7) d_X12_sumOf_7 rfl ?_
    refine P_getI (pc := 8) d_X12_sumOf_8 f_X12_181 (tt_139 b) ?_
    rw [vnl]
    refine B_icmp_ge (pc := 11) 57 d_X12_sumOf_11 (by decide) (fun c11 => ?_) (fun c11 => ?_)
    · simp (disch := omega) only [nI_toInt, ti0, ti1, tim1, tim20, tim1000] at c11
      exact hE
    · simp (disch := omega) only [nI_toInt, ti0, ti1, tim1, tim20, tim1000] at c11
      all_goals omega
  | succ n ih =>
    intro _ j hj
    refine V_iload (pc := 5) d_X12_sumOf_5 rfl ?_
    refine V_aload_n (pc := 7) d_X12_sumOf_7 rfl ?_
    refine P_getI (pc := 8) d_X12_sumOf_8 f_X12_181 (tt_139 b) ?_
    rw [vnl]
    refine B_icmp_ge (pc := 11) 57 d_X12_sumOf_11 (by decide) (fun c11 => ?_) (fun c11 => ?_)
    · simp (disch := omega) only [nI_toInt, ti0, ti1, tim1, tim20, tim1000] at c11
      all_goals omega
    · simp (disch := omega) only [nI_toInt, ti0, ti1, tim1, tim20, tim1000] at c11
      refine V_iload_n (pc := 14) d_X12_sumOf_14 rfl ?_
      refine V_iload_n (pc := 15) d_X12_sumOf_15 rfl ?_
      refine V_iload (pc := 16) d_X12_sumOf_16 rfl ?_
      refine V_ishr (pc := 18) d_X12_sumOf_18 ?_
      refine V_iconst (pc := 19) (1) d_X12_sumOf_19 (by decide) ?_
      refine V_iand (pc := 20) d_X12_sumOf_20 ?_
      refine V_if_ne (pc := 21) 28 d_X12_sumOf_21 (by decide) (fun c21 => ?_) (fun c21 => ?_)
      · rw [bn_bit0 (by omega) (by omega), Classical.not_not] at c21
        refine V_iload_n (pc := 28) d_X12_sumOf_28 rfl ?_
        refine V_if_eq (pc := 29) 42 d_X12_sumOf_29 (by decide) (fun c29 => ?_) (fun c29 => ?_)
        · exact absurd c29 (by decide)
        · refine V_aload_n (pc := 32) d_X12_sumOf_32 rfl ?_
          refine P_getR (pc := 33) d_X12_sumOf_33 f_X12_77 (tt_139 b) (rr_139_27 b) ?_
          refine V_iload (pc := 36) d_X12_sumOf_36 rfl ?_
          refine P_iald (pc := 38) (j) d_X12_sumOf_38 (tt_162 b) rfl (ln_of (ll_162 b) ⟨by omega, by decide⟩) ?_
          rw [(hv j (by omega)).1]
          refine V_goto (pc := 39) 49 d_X12_sumOf_39 (by decide) ?_
          refine V_iadd (pc := 49) d_X12_sumOf_49 ?_
          refine V_istore_n (pc := 50) d_X12_sumOf_50 (by decide) ?_
          refine V_iinc (pc := 51) d_X12_sumOf_51 rfl (by decide) ?_
          refine V_goto (pc := 54) 5 d_X12_sumOf_54 (by decide) ?_
          rw [p1_s]
          first | (rw [show nI (sm v (fun i => s.testBit i) j) + nI (v j) = nI (sm v (fun i => s.testBit i) (j + 1)) by rw [nI_add, sm, if_pos c21]]) | (rw [show nI (sm v (fun i => s.testBit i) j) + 0 = nI (sm v (fun i => s.testBit i) (j + 1)) by rw [Int32.add_zero, sm, if_neg c21, Nat.add_zero]])
          exact ih (by omega) (j + 1) (by omega)
      · rw [bn_bit0 (by omega) (by omega)] at c21
        refine V_iconst (pc := 24) (0) d_X12_sumOf_24 (by decide) ?_
        refine V_goto (pc := 25) 49 d_X12_sumOf_25 (by decide) ?_
        refine V_iadd (pc := 49) d_X12_sumOf_49 ?_
        refine V_istore_n (pc := 50) d_X12_sumOf_50 (by decide) ?_
        refine V_iinc (pc := 51) d_X12_sumOf_51 rfl (by decide) ?_
        refine V_goto (pc := 54) 5 d_X12_sumOf_54 (by decide) ?_
        rw [p1_s]
        first | (rw [show nI (sm v (fun i => s.testBit i) j) + nI (v j) = nI (sm v (fun i => s.testBit i) (j + 1)) by rw [nI_add, sm, if_pos c21]]) | (rw [show nI (sm v (fun i => s.testBit i) j) + 0 = nI (sm v (fun i => s.testBit i) (j + 1)) by rw [Int32.add_zero, sm, if_neg c21, Nat.add_zero]])
        exact ih (by omega) (j + 1) (by omega)
theorem ct_X12_sumOf1 {v w : Nat → Nat} {s nl : Nat} (vnl : σ 139 24 = nI nl) (hnl : nl ≤ 12) (hs : s < 65536) (hv : ∀ k, k < nl → BN σ v w k) (hq : K (nI (sn v nl s)) (σ, sh b)) : CM G mX12_sumOf (rl 1) [.ref 139, .int (nI s), .int 1] (σ, sh b) (QI K) := by
  refine CM.of (by decide) (Nat.le_of_ble_eq_true rfl) (cats1 rfl) ?_
  refine V_iconst (pc := 0) (0) d_X12_sumOf_0 (by decide) ?_
  refine V_istore_n (pc := 1) d_X12_sumOf_1 (by decide) ?_
  refine V_iconst (pc := 2) (0) d_X12_sumOf_2 (by decide) ?_
  refine V_istore (pc := 3) d_X12_sumOf_3 (by decide) ?_
  refine lp_su1 (F := FM G (rl 1) (QI K)) vnl hnl hs hv ?_ nl (Nat.le_refl _) 0 (by omega)
  refine V_iload_n (pc := 57) d_X12_sumOf_57 rfl ?_
  exact V_retI (pc := 58) d_X12_sumOf_58 rfl ⟨Nat.le_refl _, Nat.le_refl _⟩ hq
theorem lp_lt {ρ : Sg} {i ns nb nl : Nat} {z : Int32} (hA : cA ρ 4 σ ns nb nl) (hi : i < 5) (vnl : σ 139 24 = nI nl) (hnl : nl ≤ 12) (hE : V G mX12_lading (rl 3) F 0 0 101 [some (.ref 139), some (.int (nI i)), some (.int z), some (.int (nI (bS (tp σ (σ 153 i)) nl))), some (.int (nI nl)), none, none, none, none] [] (σ, sh b)) : ∀ n, n ≤ nl → ∀ j, j + n = nl → V G mX12_lading (rl 3) F 0 0 33 [some (.ref 139), some (.int (nI i)), some (.int z), some (.int (nI (bS (tp σ (σ 153 i)) j))), some (.int (nI j)), none, none, none, none] [] (σ, sh b) := by
  intro n
  induction n with
  | zero =>
    intro _ j hj
    obtain rfl : j = nl := by omega
    refine V_iload (pc := 33) d_X12_lading_33 rfl ?_
    refine V_aload_n (pc := 35) d_X12_lading_35 rfl ?_
    refine P_getI (pc := 36) d_X12_lading_36 f_X12_181 (tt_139 b) ?_
    rw [vnl]
    refine B_icmp_ge (pc := 39) 101 d_X12_lading_39 (by decide) (fun c39 => ?_) (fun c39 => ?_)
    · simp (disch := omega) only [nI_toInt, ti0, ti1, tim1, tim20, tim1000] at c39
      exact hE
    · simp (disch := omega) only [nI_toInt, ti0, ti1, tim1, tim20, tim1000] at c39
      all_goals omega
  | succ n ih =>
    intro _ j hj
    refine V_iload (pc := 33) d_X12_lading_33 rfl ?_
    refine V_aload_n (pc := 35) d_X12_lading_35 rfl ?_
    refine P_getI (pc := 36) d_X12_lading_36 f_X12_181 (tt_139 b) ?_
    rw [vnl]
    refine B_icmp_ge (pc := 39) 101 d_X12_lading_39 (by decide) (fun c39 => ?_) (fun c39 => ?_)
    · simp (disch := omega) only [nI_toInt, ti0, ti1, tim1, tim20, tim1000] at c39
      all_goals omega
    · simp (disch := omega) only [nI_toInt, ti0, ti1, tim1, tim20, tim1000] at c39
      refine V_iload_n (pc := 42) d_X12_lading_42 rfl ?_
      refine V_aload_n (pc := 43) d_X12_lading_43 rfl ?_
      refine P_getR (pc := 44) d_X12_lading_44 f_X12_80 (tt_139 b) (rr_139_28 b) ?_
      refine V_iload (pc := 47) d_X12_lading_47 rfl ?_
      refine P_iald (pc := 49) (j) d_X12_lading_49 (tt_163 b) rfl (ln_of (ll_163 b) ⟨by omega, by decide⟩) ?_
      refine V_if_ne (pc := 50) 92 d_X12_lading_50 (by decide) (fun c50 => ?_) (fun c50 => ?_)
      · refine V_iconst (pc := 92) (0) d_X12_lading_92 (by decide) ?_
        refine V_ior (pc := 93) d_X12_lading_93 ?_
        refine V_istore_n (pc := 94) d_X12_lading_94 (by decide) ?_
        refine V_iinc (pc := 95) d_X12_lading_95 rfl (by decide) ?_
        refine V_goto (pc := 98) 33 d_X12_lading_98 (by decide) ?_
        rw [p1_s]
        first | rw [bS_y (p := (tp σ (σ 153 i))) (by omega) (decide_eq_true ⟨c50, c66⟩)] | rw [bS_no (p := (tp σ (σ 153 i))) (fun w => c66 (of_decide_eq_true w).2)] | rw [bS_no (p := (tp σ (σ 153 i))) (fun w => c50 (of_decide_eq_true w).1)]
        exact ih (by omega) (j + 1) (by omega)
      · refine V_aload_n (pc := 53) d_X12_lading_53 rfl ?_
        refine P_getR (pc := 54) d_X12_lading_54 f_X12_83 (tt_139 b) (rr_139_29 b) ?_
        refine V_iload (pc := 57) d_X12_lading_57 rfl ?_
        refine P_iald (pc := 59) (j) d_X12_lading_59 (tt_164 b) rfl (ln_of (ll_164 b) ⟨by omega, by decide⟩) ?_
        refine V_aload_n (pc := 60) d_X12_lading_60 rfl ?_
        refine P_getR (pc := 61) d_X12_lading_61 f_X12_50 (tt_139 b) (rr_139_17 b) ?_
        refine V_iload_n (pc := 64) d_X12_lading_64 rfl ?_
        refine P_iald (pc := 65) (i) d_X12_lading_65 (tt_153 b) rfl (ln_of (ll_153 b) ⟨by omega, by decide⟩) ?_
        refine V_icmp_ne (pc := 66) 92 d_X12_lading_66 (by decide) (fun c66 => ?_) (fun c66 => ?_)
        · refine V_iconst (pc := 92) (0) d_X12_lading_92 (by decide) ?_
          refine V_ior (pc := 93) d_X12_lading_93 ?_
          refine V_istore_n (pc := 94) d_X12_lading_94 (by decide) ?_
          refine V_iinc (pc := 95) d_X12_lading_95 rfl (by decide) ?_
          refine V_goto (pc := 98) 33 d_X12_lading_98 (by decide) ?_
          rw [p1_s]
          first | rw [bS_y (p := (tp σ (σ 153 i))) (by omega) (decide_eq_true ⟨c50, c66⟩)] | rw [bS_no (p := (tp σ (σ 153 i))) (fun w => c66 (of_decide_eq_true w).2)] | rw [bS_no (p := (tp σ (σ 153 i))) (fun w => c50 (of_decide_eq_true w).1)]
          exact ih (by omega) (j + 1) (by omega)
        · refine V_aload_n (pc := 69) d_X12_lading_69 rfl ?_
          refine P_getR (pc := 70) d_X12_lading_70 f_X12_71 (tt_139 b) (rr_139_25 b) ?_
          refine V_iload (pc := 73) d_X12_lading_73 rfl ?_
          refine P_iald (pc := 75) (j) d_X12_lading_75 (tt_160 b) rfl (ln_of (ll_160 b) ⟨by omega, by decide⟩) ?_
          refine V_aload_n (pc := 76) d_X12_lading_76 rfl ?_
          refine P_getR (pc := 77) d_X12_lading_77 f_X12_50 (tt_139 b) (rr_139_17 b) ?_
          refine V_iload_n (pc := 80) d_X12_lading_80 rfl ?_
          refine P_iald (pc := 81) (i) d_X12_lading_81 (tt_153 b) rfl (ln_of (ll_153 b) ⟨by omega, by decide⟩) ?_
          refine V_icmp_eq (pc := 82) 92 d_X12_lading_82 (by decide) (fun c82 => ?_) (fun c82 => ?_)
          · exfalso
            obtain ⟨-, -, -, -, g⟩ := hA j (by omega)
            rcases g with g | g | g | g
            · exact g.2.2 (c66.trans c82.symm)
            · rw [c50] at g; exact absurd g.1 (by decide)
            · rw [c50] at g; exact absurd g.1 (by decide)
            · rw [c50] at g; exact absurd g.1 (by decide)
          · refine V_iconst (pc := 85) (1) d_X12_lading_85 (by decide) ?_
            refine V_iload (pc := 86) d_X12_lading_86 rfl ?_
            refine V_ishl (pc := 88) d_X12_lading_88 ?_
            refine V_goto (pc := 89) 93 d_X12_lading_89 (by decide) ?_
            refine V_ior (pc := 93) d_X12_lading_93 ?_
            refine V_istore_n (pc := 94) d_X12_lading_94 (by decide) ?_
            refine V_iinc (pc := 95) d_X12_lading_95 rfl (by decide) ?_
            refine V_goto (pc := 98) 33 d_X12_lading_98 (by decide) ?_
            rw [p1_s]
            first | rw [bS_y (p := (tp σ (σ 153 i))) (by omega) (decide_eq_true ⟨c50, c66⟩)] | rw [bS_no (p := (tp σ (σ 153 i))) (fun w => c66 (of_decide_eq_true w).2)] | rw [bS_no (p := (tp σ (σ 153 i))) (fun w => c50 (of_decide_eq_true w).1)]
            exact ih (by omega) (j + 1) (by omega)
theorem lp_lo {v w : Nat → Nat} {p : Nat → Bool} {i nl A rm hl T : Nat} {z : Int32} (hT : T = bS p nl) (vnl : σ 139 24 = nI nl) (hnl : nl ≤ 12) (hv : ∀ k, k < nl → BN σ v w k) (hi : i < 5) (e0 : σ 149 i = nI hl) (e1 : σ 150 i = nI rm) (hA : A ≤ 3000) (hr : rm ≤ 999) (hh : hl ≤ 30) (hE : ∀ x7 x8 : Option Value, V G mX12_lading (rl 3) F 0 0 230 [some (.ref 139), some (.int (nI i)), some (.int z), some (.int (nI T)), some (.int (nI A)), some (.int (nI (bM v w p nl A rm hl z (2 ^ nl)))), some (.int (nI (2 ^ nl))), x7, x8] [] (σ, sh b)) : ∀ n, n ≤ 2 ^ nl → ∀ k, k + n = 2 ^ nl → ∀ x7 x8 : Option Value, V G mX12_lading (rl 3) F 0 0 114 [some (.ref 139), some (.int (nI i)), some (.int z), some (.int (nI T)), some (.int (nI A)), some (.int (nI (bM v w p nl A rm hl z k))), some (.int (nI k)), x7, x8] [] (σ, sh b) := by
  have hp := p2_12 hnl
  have bv : ∀ s, sn v nl s ≤ 999 * nl := fun s => sm_le (fun e he => (hv e he).2.1)
  have bw : ∀ s, sn w nl s ≤ 200 * nl := fun s => sm_le (fun e he => (hv e he).2.2.2)
  intro n
  induction n with
  | zero =>
    intro _ k hk x7 x8
    obtain rfl : k = 2 ^ nl := by omega
    refine V_iload (pc := 114) d_X12_lading_114 rfl ?_
    refine V_iconst (pc := 116) (1) d_X12_lading_116 (by decide) ?_
    refine V_aload_n (pc := 117) d_X12_lading_117 rfl ?_
    refine P_getI (pc := 118) d_X12_lading_118 f_X12_181 (tt_139 b) ?_
    refine V_ishl (pc := 121) d_X12_lading_121 ?_
    rw [vnl, bn_shl _ (by omega)]
    refine B_icmp_ge (pc := 122) 230 d_X12_lading_122 (by decide) (fun c122 => ?_) (fun c122 => ?_)
    · exact hE _ _
    · all_goals omega
  | succ n ih =>
    intro _ k hk x7 x8
    have hb := bM_le (v := v) (w := w) (p := p) (n := nl) (A := A) (rm := rm) (hl := hl) (z := z) k
    have r1 := bv k
    have r2 := bv (bM v w p nl A rm hl z k)
    have r3 := bw k
    have r4 := bw (bM v w p nl A rm hl z k)
    have stp : ∀ c, bM v w p nl A rm hl z (k + 1) = c → ∀ x7 x8 : Option Value, V G mX12_lading (rl 3) F 0 0 114 [some (.ref 139), some (.int (nI i)), some (.int z), some (.int (nI T)), some (.int (nI A)), some (.int (nI c)), some (.int (nI (k + 1))), x7, x8] [] (σ, sh b) := fun c e x7 x8 => by
      have q := ih (by omega) (k + 1) (by omega) x7 x8
      rw [e] at q
      exact q
    refine V_iload (pc := 114) d_X12_lading_114 rfl ?_
    refine V_iconst (pc := 116) (1) d_X12_lading_116 (by decide) ?_
    refine V_aload_n (pc := 117) d_X12_lading_117 rfl ?_
    refine P_getI (pc := 118) d_X12_lading_118 f_X12_181 (tt_139 b) ?_
    refine V_ishl (pc := 121) d_X12_lading_121 ?_
    rw [vnl, bn_shl _ (by omega)]
    refine B_icmp_ge (pc := 122) 230 d_X12_lading_122 (by decide) (fun c122 => ?_) (fun c122 => ?_)
    · simp (disch := omega) only [nI_toInt, ti0, ti1, tim1, tim20, tim1000] at c122
      all_goals omega
    · simp (disch := omega) only [nI_toInt, ti0, ti1, tim1, tim20, tim1000] at c122
      refine V_iload (pc := 125) d_X12_lading_125 rfl ?_
      refine V_iload_n (pc := 127) d_X12_lading_127 rfl ?_
      refine V_iconst (pc := 128) (-1) d_X12_lading_128 (by decide) ?_
      refine V_ixor (pc := 129) d_X12_lading_129 ?_
      refine V_iand (pc := 130) d_X12_lading_130 ?_
      rw [bn_an]
      refine V_if_ne (pc := 131) 224 d_X12_lading_131 (by decide) (fun c131 => ?_) (fun c131 => ?_)
      · rw [nI_eq0 (by have := an_lt (n := 12) (a := k) (b := T) (by omega); omega)] at c131
        rw [hT] at c131
        refine V_iinc (pc := 224) d_X12_lading_224 rfl (by decide) ?_
        refine V_goto (pc := 227) 114 d_X12_lading_227 (by decide) ?_
        rw [p1_s]
        first | exact stp _ (bM_n c131) _ _ | exact stp _ (bM_y c131 (lf_n1 (by omega))) _ _ | exact stp _ (bM_y c131 (lf_n2 (by omega))) _ _ | exact stp _ (bM_y c131 (lf_y (by omega) (by omega))) _ _
      · rw [nI_eq0 (by have := an_lt (n := 12) (a := k) (b := T) (by omega); omega)] at c131
        rw [hT] at c131
        refine V_iload (pc := 134) d_X12_lading_134 rfl ?_
        refine V_aload_n (pc := 136) d_X12_lading_136 rfl ?_
        refine V_iload (pc := 137) d_X12_lading_137 rfl ?_
        refine V_iconst (pc := 139) (0) d_X12_lading_139 (by decide) ?_
        refine V_cvI (pc := 140) (n := 1) (c := 12) [_, _] d_X12_lading_140 c_X12_263 k_X12_sumOf ⟨rfl, rfl⟩ (tt_139 b) rfl (Nat.le_of_ble_eq_true rfl) ⟨Nat.le_of_ble_eq_true rfl, Nat.le_of_ble_eq_true rfl⟩ ⟨Nat.le_refl _, Nat.le_refl _⟩ (ct_X12_sumOf0 vnl hnl (by omega) hv ?_)
        refine V_iadd (pc := 143) d_X12_lading_143 ?_
        rw [nI_add]
        refine V_istore (pc := 144) d_X12_lading_144 (by decide) ?_
        refine V_iload (pc := 146) d_X12_lading_146 rfl ?_
        refine V_aload_n (pc := 148) d_X12_lading_148 rfl ?_
        refine P_getR (pc := 149) d_X12_lading_149 f_X12_41 (tt_139 b) (rr_139_14 b) ?_
        refine V_iload_n (pc := 152) d_X12_lading_152 rfl ?_
        refine P_iald (pc := 153) (i) d_X12_lading_153 (tt_150 b) rfl (ln_of (ll_150 b) ⟨by omega, by decide⟩) ?_
        rw [e1]
        refine B_icmp_gt (pc := 154) 224 d_X12_lading_154 (by decide) (fun c154 => ?_) (fun c154 => ?_)
        · rw [nI_toInt (by omega), nI_toInt (by omega)] at c154
          refine V_iinc (pc := 224) d_X12_lading_224 rfl (by decide) ?_
          refine V_goto (pc := 227) 114 d_X12_lading_227 (by decide) ?_
          rw [p1_s]
          first | exact stp _ (bM_n c131) _ _ | exact stp _ (bM_y c131 (lf_n1 (by omega))) _ _ | exact stp _ (bM_y c131 (lf_n2 (by omega))) _ _ | exact stp _ (bM_y c131 (lf_y (by omega) (by omega))) _ _
        · rw [nI_toInt (by omega), nI_toInt (by omega)] at c154
          refine V_aload_n (pc := 157) d_X12_lading_157 rfl ?_
          refine P_getR (pc := 158) d_X12_lading_158 f_X12_38 (tt_139 b) (rr_139_13 b) ?_
          refine V_iload_n (pc := 161) d_X12_lading_161 rfl ?_
          refine P_iald (pc := 162) (i) d_X12_lading_162 (tt_149 b) rfl (ln_of (ll_149 b) ⟨by omega, by decide⟩) ?_
          rw [e0]
          refine V_iload (pc := 163) d_X12_lading_163 rfl ?_
          refine V_bipush (pc := 165) (nI 10) d_X12_lading_165 (by decide) ?_
          refine V_idiv (pc := 167) d_X12_lading_167 (by decide) ?_
          rw [pk_div (by omega) (by decide) (by decide)]
          refine V_iadd (pc := 168) d_X12_lading_168 ?_
          rw [nI_add]
          refine V_iload_n (pc := 169) d_X12_lading_169 rfl ?_
          refine B_icmp_gt (pc := 170) 224 d_X12_lading_170 (by decide) (fun c170 => ?_) (fun c170 => ?_)
          · rw [nI_toInt (by omega)] at c170
            refine V_iinc (pc := 224) d_X12_lading_224 rfl (by decide) ?_
            refine V_goto (pc := 227) 114 d_X12_lading_227 (by decide) ?_
            rw [p1_s]
            first | exact stp _ (bM_n c131) _ _ | exact stp _ (bM_y c131 (lf_n1 (by omega))) _ _ | exact stp _ (bM_y c131 (lf_n2 (by omega))) _ _ | exact stp _ (bM_y c131 (lf_y (by omega) (by omega))) _ _
          · rw [nI_toInt (by omega)] at c170
            refine V_aload_n (pc := 173) d_X12_lading_173 rfl ?_
            refine V_iload (pc := 174) d_X12_lading_174 rfl ?_
            refine V_iconst (pc := 176) (1) d_X12_lading_176 (by decide) ?_
            refine V_cvI (pc := 177) (n := 1) (c := 12) [_, _] d_X12_lading_177 c_X12_263 k_X12_sumOf ⟨rfl, rfl⟩ (tt_139 b) rfl (Nat.le_of_ble_eq_true rfl) ⟨Nat.le_of_ble_eq_true rfl, Nat.le_of_ble_eq_true rfl⟩ ⟨Nat.le_refl _, Nat.le_refl _⟩ (ct_X12_sumOf1 vnl hnl (by omega) hv ?_)
            refine V_aload_n (pc := 180) d_X12_lading_180 rfl ?_
            refine V_iload (pc := 181) d_X12_lading_181 rfl ?_
            refine V_iconst (pc := 183) (1) d_X12_lading_183 (by decide) ?_
            refine V_cvI (pc := 184) (n := 1) (c := 12) [_, _] d_X12_lading_184 c_X12_263 k_X12_sumOf ⟨rfl, rfl⟩ (tt_139 b) rfl (Nat.le_of_ble_eq_true rfl) ⟨Nat.le_of_ble_eq_true rfl, Nat.le_of_ble_eq_true rfl⟩ ⟨Nat.le_refl _, Nat.le_refl _⟩ (ct_X12_sumOf1 vnl hnl (by omega) hv ?_)
            refine V_isub (pc := 187) d_X12_lading_187 ?_
            refine V_istore (pc := 188) d_X12_lading_188 (by decide) ?_
            refine V_iload (pc := 190) d_X12_lading_190 rfl ?_
            refine B_if_gt (pc := 192) 215 d_X12_lading_192 (by decide) (fun c192 => ?_) (fun c192 => ?_)
            · rw [pk_sub_toInt (by omega) (by omega)] at c192
              refine V_iload (pc := 215) d_X12_lading_215 rfl ?_
              refine V_goto (pc := 217) 222 d_X12_lading_217 (by decide) ?_
              refine V_istore (pc := 222) d_X12_lading_222 (by decide) ?_
              refine V_iinc (pc := 224) d_X12_lading_224 rfl (by decide) ?_
              refine V_goto (pc := 227) 114 d_X12_lading_227 (by decide) ?_
              rw [p1_s]
              first | exact stp _ (bM_n c131) _ _ | exact stp _ (bM_y c131 (lf_n1 (by omega))) _ _ | exact stp _ (bM_y c131 (lf_n2 (by omega))) _ _ | exact stp _ (bM_y c131 (lf_y (by omega) (by omega))) _ _
            · rw [pk_sub_toInt (by omega) (by omega)] at c192
              refine V_iload (pc := 195) d_X12_lading_195 rfl ?_
              refine V_if_ne (pc := 197) 220 d_X12_lading_197 (by decide) (fun c197 => ?_) (fun c197 => ?_)
              · rw [sub_0 (by omega) (by omega)] at c197
                refine V_iload (pc := 220) d_X12_lading_220 rfl ?_
                refine V_istore (pc := 222) d_X12_lading_222 (by decide) ?_
                refine V_iinc (pc := 224) d_X12_lading_224 rfl (by decide) ?_
                refine V_goto (pc := 227) 114 d_X12_lading_227 (by decide) ?_
                rw [p1_s]
                first | exact stp _ (bM_n c131) _ _ | exact stp _ (bM_y c131 (lf_n1 (by omega))) _ _ | exact stp _ (bM_y c131 (lf_n2 (by omega))) _ _ | exact stp _ (bM_y c131 (lf_y (by omega) (by omega))) _ _
              · rw [sub_0 (by omega) (by omega)] at c197
                refine V_iload (pc := 200) d_X12_lading_200 rfl ?_
                refine V_iload (pc := 202) d_X12_lading_202 rfl ?_
                refine V_isub (pc := 204) d_X12_lading_204 ?_
                rw [as_nI]
                refine V_aload_n (pc := 205) d_X12_lading_205 rfl ?_
                refine V_iload (pc := 206) d_X12_lading_206 rfl ?_
                refine V_iconst (pc := 208) (0) d_X12_lading_208 (by decide) ?_
                refine V_cvI (pc := 209) (n := 1) (c := 12) [_, _] d_X12_lading_209 c_X12_263 k_X12_sumOf ⟨rfl, rfl⟩ (tt_139 b) rfl (Nat.le_of_ble_eq_true rfl) ⟨Nat.le_of_ble_eq_true rfl, Nat.le_of_ble_eq_true rfl⟩ ⟨Nat.le_refl _, Nat.le_refl _⟩ (ct_X12_sumOf0 vnl hnl (by omega) hv ?_)
                refine B_icmp_ge (pc := 212) 220 d_X12_lading_212 (by decide) (fun c212 => ?_) (fun c212 => ?_)
                · rw [nI_toInt (by omega), nI_toInt (by omega)] at c212
                  refine V_iload (pc := 220) d_X12_lading_220 rfl ?_
                  refine V_istore (pc := 222) d_X12_lading_222 (by decide) ?_
                  refine V_iinc (pc := 224) d_X12_lading_224 rfl (by decide) ?_
                  refine V_goto (pc := 227) 114 d_X12_lading_227 (by decide) ?_
                  rw [p1_s]
                  first | exact stp _ (bM_n c131) _ _ | exact stp _ (bM_y c131 (lf_n1 (by omega))) _ _ | exact stp _ (bM_y c131 (lf_n2 (by omega))) _ _ | exact stp _ (bM_y c131 (lf_y (by omega) (by omega))) _ _
                · rw [nI_toInt (by omega), nI_toInt (by omega)] at c212
                  refine V_iload (pc := 215) d_X12_lading_215 rfl ?_
                  refine V_goto (pc := 217) 222 d_X12_lading_217 (by decide) ?_
                  refine V_istore (pc := 222) d_X12_lading_222 (by decide) ?_
                  refine V_iinc (pc := 224) d_X12_lading_224 rfl (by decide) ?_
                  refine V_goto (pc := 227) 114 d_X12_lading_227 (by decide) ?_
                  rw [p1_s]
                  first | exact stp _ (bM_n c131) _ _ | exact stp _ (bM_y c131 (lf_n1 (by omega))) _ _ | exact stp _ (bM_y c131 (lf_n2 (by omega))) _ _ | exact stp _ (bM_y c131 (lf_y (by omega) (by omega))) _ _
theorem ct_X12_lading {x z : Int32} {ρ : Sg} {q ns nb nl nt nr : Nat} (hR : RR ρ 4 σ q ns nb nl nt nr) (h1 : ¬ (∃ i : Nat, i < nb ∧ x = nI i ∧ σ 152 i = 0 ∧ (draS σ i nl).toInt ≤ z.toInt) → K (-1) (σ, sh b)) (h2 : ∀ i : Nat, i < nb → x = nI i → σ 152 i = 0 → (draS σ i nl).toInt ≤ z.toInt → K (nI (ldR σ i nl z)) (σ, sh b)) : CM G mX12_lading (rl 3) [.ref 139, .int x, .int z] (σ, sh b) (QI K) := by
  obtain ⟨⟨⟨hq2, hn10, hnb, hnl, hnt, hnr⟩, ⟨vq, vns, vnb, vnl, vnt, vnr⟩, ⟨rq, rns, rnb, rnl, rnt, rnr⟩, hpd⟩, hH, hC, hS, hLD, hB, hA, hT, hU⟩ := id hR
  refine CM.of (by decide) (Nat.le_of_ble_eq_true rfl) (cats1 rfl) ?_
  refine V_aload_n (pc := 0) d_X12_lading_0 rfl ?_
  refine V_iload_n (pc := 1) d_X12_lading_1 rfl ?_
  refine V_cvI (pc := 2) (n := 2) (c := 12) [_] d_X12_lading_2 c_X12_238 k_X12_isBoat ⟨rfl, rfl⟩ (tt_139 b) rfl (Nat.le_of_ble_eq_true rfl) ⟨Nat.le_of_ble_eq_true rfl, Nat.le_of_ble_eq_true rfl⟩ ⟨Nat.le_refl _, Nat.le_refl _⟩ (ct_X12_isBoat vnb (by omega) ?_)
  refine V_if_eq (pc := 5) 26 d_X12_lading_5 (by decide) (fun c5 => ?_) (fun c5 => ?_)
  · replace c5 := zf c5
    refine V_iconst (pc := 26) (-1) d_X12_lading_26 (by decide) ?_
    exact V_retI (pc := 27) d_X12_lading_27 rfl ⟨Nat.le_refl _, Nat.le_refl _⟩ (h1 (by
            rintro ⟨i', g1, g2, g3, g4⟩
            first
              | (subst g2; rw [nI_toInt (by omega)] at c5; omega)
              | (obtain rfl : i = i' := (nI_eq (by omega) (by omega)).mp g2; first | exact absurd g3 c14 | omega)))
  · replace c5 := zt c5
    obtain ⟨i, hi, rfl, -⟩ := nat_of (n := nb) (x := x) (by omega) (by omega) (by omega)
    refine V_aload_n (pc := 8) d_X12_lading_8 rfl ?_
    refine P_getR (pc := 9) d_X12_lading_9 f_X12_47 (tt_139 b) (rr_139_16 b) ?_
    refine V_iload_n (pc := 12) d_X12_lading_12 rfl ?_
    refine P_iald (pc := 13) (i) d_X12_lading_13 (tt_152 b) rfl (ln_of (ll_152 b) ⟨by omega, by decide⟩) ?_
    refine V_if_ne (pc := 14) 26 d_X12_lading_14 (by decide) (fun c14 => ?_) (fun c14 => ?_)
    · refine V_iconst (pc := 26) (-1) d_X12_lading_26 (by decide) ?_
      exact V_retI (pc := 27) d_X12_lading_27 rfl ⟨Nat.le_refl _, Nat.le_refl _⟩ (h1 (by
            rintro ⟨i', g1, g2, g3, g4⟩
            first
              | (subst g2; rw [nI_toInt (by omega)] at c5; omega)
              | (obtain rfl : i = i' := (nI_eq (by omega) (by omega)).mp g2; first | exact absurd g3 c14 | omega)))
    · refine V_aload_n (pc := 17) d_X12_lading_17 rfl ?_
      refine V_iload_n (pc := 18) d_X12_lading_18 rfl ?_
      refine V_cvI (pc := 19) (n := 2) (c := 12) [_] d_X12_lading_19 c_X12_241 k_X12_draught ⟨rfl, rfl⟩ (tt_139 b) rfl (Nat.le_of_ble_eq_true rfl) ⟨Nat.le_of_ble_eq_true rfl, Nat.le_of_ble_eq_true rfl⟩ ⟨Nat.le_refl _, Nat.le_refl _⟩ (ct_X12_draught vnl hnl (by omega) ?_)
      refine V_iload_n (pc := 22) d_X12_lading_22 rfl ?_
      refine B_icmp_le (pc := 23) 28 d_X12_lading_23 (by decide) (fun c23 => ?_) (fun c23 => ?_)
      · refine V_iconst (pc := 28) (0) d_X12_lading_28 (by decide) ?_
        refine V_istore_n (pc := 29) d_X12_lading_29 (by decide) ?_
        refine V_iconst (pc := 30) (0) d_X12_lading_30 (by decide) ?_
        refine V_istore (pc := 31) d_X12_lading_31 (by decide) ?_
        obtain ⟨A, hA2, eA⟩ := aboS_nat (i := i) hA nl (Nat.le_refl _)
        obtain ⟨hl, hl1, hl2, ehl⟩ := (hB i hi).2.1
        obtain ⟨rm, rm1, rm2, erm⟩ := (hB i hi).2.2.1
        have eL : ldR σ i nl z = bM (rtv σ) (wtv σ) (tp σ (σ 153 i)) nl A rm hl z (2 ^ nl) := by rw [ldR, eA, erm, ehl, nI_clamp (by omega), nI_clamp (by omega), nI_clamp (by omega)]
        refine lp_lt (F := FM G (rl 3) (QI K)) hA (by omega) vnl hnl ?_ nl (Nat.le_refl _) 0 (by omega)
        refine V_aload_n (pc := 101) d_X12_lading_101 rfl ?_
        refine V_iload_n (pc := 102) d_X12_lading_102 rfl ?_
        refine V_cvI (pc := 103) (n := 1) (c := 12) [_] d_X12_lading_103 c_X12_232 k_X12_aboard ⟨rfl, rfl⟩ (tt_139 b) rfl (Nat.le_of_ble_eq_true rfl) ⟨Nat.le_of_ble_eq_true rfl, Nat.le_of_ble_eq_true rfl⟩ ⟨Nat.le_refl _, Nat.le_refl _⟩ (ct_X12_aboard vnl hnl (by omega) ?_)
        rw [eA]
        refine V_istore (pc := 106) d_X12_lading_106 (by decide) ?_
        refine V_iconst (pc := 108) (0) d_X12_lading_108 (by decide) ?_
        refine V_istore (pc := 109) d_X12_lading_109 (by decide) ?_
        refine V_iconst (pc := 111) (1) d_X12_lading_111 (by decide) ?_
        refine V_istore (pc := 112) d_X12_lading_112 (by decide) ?_
        have hp : 1 ≤ 2 ^ nl := Nat.one_le_two_pow
        have q := fun hE => lp_lo (G := G) (b := b) (F := FM G (rl 3) (QI K)) (v := rtv σ) (w := wtv σ) (p := tp σ (σ 153 i)) (A := A) (rm := rm) (hl := hl) (z := z) rfl vnl hnl (BN_of hA) (by omega) ehl erm (by omega) (by omega) (by omega) hE (2 ^ nl - 1) (by omega) 1 (by omega) none none
        rw [bM_1] at q
        refine q (fun x7 x8 => ?_)
        refine V_iload (pc := 230) d_X12_lading_230 rfl ?_
        exact V_retI (pc := 232) d_X12_lading_232 rfl ⟨Nat.le_refl _, Nat.le_refl _⟩ (by have g := h2 i hi rfl c14 c23; rw [eL] at g; exact g)
      · refine V_iconst (pc := 26) (-1) d_X12_lading_26 (by decide) ?_
        exact V_retI (pc := 27) d_X12_lading_27 rfl ⟨Nat.le_refl _, Nat.le_refl _⟩ (h1 (by
            rintro ⟨i', g1, g2, g3, g4⟩
            first
              | (subst g2; rw [nI_toInt (by omega)] at c5; omega)
              | (obtain rfl : i = i' := (nI_eq (by omega) (by omega)).mp g2; first | exact absurd g3 c14 | omega)))
theorem pr_lading {x z : Int32} (h : Rel σ b) : PR G mX11_lading mX12_lading 4 3 [.int x, .int z] σ b := by
  have h0 := h
  obtain ⟨q, ns, nb, nl, nt, nr, hR, hX, hP, hQ, hK⟩ := h
  have hbd := hR.1.1
  refine ct_X11_lading hR (fun hv => ?_) (fun i hi e c1 c2 => ?_)
  · exact ⟨rfl, ct_X12_lading hR (fun _ => ⟨rfl, σ, rfl, h0⟩) (fun i hi e c1 c2 => absurd ⟨i, hi, e, c1, c2⟩ hv)⟩
  · generalize hτ : chF σ (tp σ (σ 153 i)) nl = τ
    have lo : ∀ a j, a ≠ 130 → τ a j = σ a j := fun a j ha => by rw [← hτ]; exact chF_o ha
    have ag : ∀ a j, 139 ≤ a → a < 192 → τ a j = σ a j := fun a j h1 h2 => lo a j (by omega)
    have ea := aboS_ag ag (i := i) (n := nl)
    have ed := draS_ag ag (i := i) (n := nl)
    refine ⟨rfl, ct_X12_lading (RR_lo hR ag) (fun hv => ?_) (fun i' hi' e' c1' c2' => ?_)⟩
    · refine absurd ⟨i, hi, e, ?_, ?_⟩ hv
      · rw [ag _ _ (by decide) (by decide)]; exact c1
      · rw [ed]; exact c2
    · obtain rfl : i' = i := (nI_eq (by omega) (by omega)).mp (e'.symm.trans e)
      have el : ldR τ i' nl z = ldR σ i' nl z := by
        have t1 : rtv τ = rtv σ := funext fun k => by rw [rtv, rtv, ag _ _ (by decide) (by decide)]
        have t2 : wtv τ = wtv σ := funext fun k => by rw [wtv, wtv, ag _ _ (by decide) (by decide)]
        have t3 : tp τ (τ 153 i') = tp σ (σ 153 i') := funext fun k => by rw [tp, tp, ag _ _ (by decide) (by decide), ag _ _ (by decide) (by decide), ag _ _ (by decide) (by decide)]
        rw [ldR, ldR, t1, t2, t3, ea, ag _ _ (by decide) (by decide), ag _ _ (by decide) (by decide)]
      rw [el]
      obtain ⟨hcn, hH, hC, hS, hLD, hB, hA, hT, hU⟩ := id hR
      have hbd := hcn.1
      refine ⟨rfl, τ, rfl, ?_⟩
      exact ⟨q, ns, nb, nl, nt, nr, ⟨cCnt_cg hcn (fun i _ _ => lo _ _ (by omega)) (fun i _ => lo _ _ (by omega)), cH_cg hH (lo _ _ (by omega)) (fun d _ => (lo _ _ (by omega))) (fun d _ => ⟨(lo _ _ (by omega)), (lo _ _ (by omega))⟩), cC_cg hC (fun d _ => (lo _ _ (by omega))) (fun d _ => (lo _ _ (by omega))), cS_cg hS (fun k _ => ⟨fun j => (lo _ _ (by omega)), fun d _ => (lo _ _ (by omega))⟩) (fun k _ => ⟨(lo _ _ (by omega)), (lo _ _ (by omega)), (lo _ _ (by omega)), (lo _ _ (by omega))⟩) (fun i _ => ⟨(lo _ _ (by omega)), (lo _ _ (by omega))⟩), cL_cg hLD (fun l _ => ⟨(lo _ _ (by omega)), fun k _ => ⟨(lo _ _ (by omega)), (lo _ _ (by omega))⟩⟩) (fun l _ => (lo _ _ (by omega))) (fun m _ _ => ⟨(lo _ _ (by omega)), (lo _ _ (by omega))⟩), cB_cg hB (fun i _ => ⟨fun j => (lo _ _ (by omega)), fun k _ => ⟨(lo _ _ (by omega)), (lo _ _ (by omega))⟩⟩) (fun i _ a _ _ => (lo _ _ (by omega))) (fun m _ => ⟨(lo _ _ (by omega)), (lo _ _ (by omega))⟩) (fun j _ => ⟨(lo _ _ (by omega)), (lo _ _ (by omega)), (lo _ _ (by omega))⟩), cA_cg hA (fun j _ i => (lo _ _ (by omega))) (fun j _ a _ _ => (lo _ _ (by omega))), cT_cg hT (fun j _ i => (lo _ _ (by omega))) (fun j _ a _ _ => (lo _ _ (by omega))), cU_cg hU (fun j _ i => (lo _ _ (by omega))) (fun j _ a _ _ => (lo _ _ (by omega)))⟩, cX_cg hX (by rw [lo _ _ (by omega), lo _ _ (by omega)]; exact hX.1) ⟨lo _ _ (by omega), lo _ _ (by omega)⟩, cP_cg hP ⟨(lo _ _ (by omega)), (lo _ _ (by omega))⟩ (fun j _ => ⟨(lo _ _ (by omega)), (lo _ _ (by omega))⟩), cQ_cg hQ (fun a i _ => (lo _ _ (by omega))), cK_cg hK (lo _ _ (by omega)) (fun a i _ => (lo _ _ (by omega))) (fun a i _ => (lo _ _ (by omega))) (by omega) (by omega) (by omega) (by omega) (by omega)⟩
end HC
