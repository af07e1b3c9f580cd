section HC
variable {G : Gl} {R : Room} {F : Fn} {K : Int32 → Hp → Prop} {KV : Hp → Prop} {σ : Nat → Nat → Int32} {b : Bool}
theorem up2_id {α : Type} {f : Nat → Nat → α} {a i : Nat} {x : α} (h : f a i = x) : up2 f a i x = f := by
  funext c j
  by_cases e : c = a ∧ j = i
  · rw [up2_e e, e.1, e.2, h]
  · rw [up2_n e]
def setp (p : Nat → Bool) (d : Nat) : Nat → Bool := fun e => e == d || p e
theorem cnt_lo {p : Nat → Bool} {d : Nat} : ∀ {n : Nat}, n ≤ d → cnt (setp p d) n = cnt p n
  | 0, _ => rfl
  | n + 1, h => by
    rw [cnt, cnt, cnt_lo (by omega), show setp p d n = p n by simp [setp]; omega]
theorem cnt_set {p : Nat → Bool} {d : Nat} : ∀ {n : Nat}, d < n → cnt (setp p d) n = cnt p n + (if p d = true then 0 else 1)
  | 0, h => absurd h (by omega)
  | n + 1, h => by
    rw [cnt, cnt]
    by_cases e : n = d
    · subst e
      rw [cnt_lo (Nat.le_refl _), if_pos (show setp p n n = true by simp [setp])]
      by_cases z : p n = true
      · simp [z]
      · simp [z]
    · rw [cnt_set (by omega), show setp p d n = p n by simp [setp, e]]
      omega
theorem cnt_le {p : Nat → Bool} : ∀ {n : Nat}, cnt p n ≤ n
  | 0 => Nat.le_refl _
  | n + 1 => by
    rw [cnt]
    have := cnt_le (p := p) (n := n)
    split <;> omega
theorem lp_told  (h01 : ∀ d, d < 100 → σ 147 d = 0 ∨ σ 147 d = 1) (hE : V G mX12_told (rl 1) F 0 0 33 [some (.ref 139), some (.int (nI (cnt (told σ) 100))), some (.int (nI 100))] [] (σ, sh b)) : ∀ n, n ≤ 100 → ∀ j, j + n = 100 → V G mX12_told (rl 1) F 0 0 4 [some (.ref 139), some (.int (nI (cnt (told σ) j))), some (.int (nI j))] [] (σ, sh b) := by
  intro n
  induction n with
  | zero =>
    intro hx j hj
    obtain rfl : j = 100 := by omega
    refine V_iload_n (pc := 4) d_X12_told_4 rfl ?_
    refine V_bipush (pc := 5) (nI 100) d_X12_told_5 (by decide) ?_
    refine B_icmp_ge (pc := 7) 33 d_X12_told_7 (by decide) (fun c7 => ?_) (fun c7 => ?_)
    · simp (disch := omega) only [show (nI 100).toInt = 100 from by decide, nI_toInt, ti0, ti1, tim1, tim20, tim1000] at c7
      exact hE
    · simp (disch := omega) only [show (nI 100).toInt = 100 from by decide, nI_toInt, ti0, ti1, tim1, tim20, tim1000] at c7
      all_goals omega
  | succ n ih =>
    intro hx j hj
    refine V_iload_n (pc := 4) d_X12_told_4 rfl ?_
    refine V_bipush (pc := 5) (nI 100) d_X12_told_5 (by decide) ?_
    refine B_icmp_ge (pc := 7) 33 d_X12_told_7 (by decide) (fun c7 => ?_) (fun c7 => ?_)
    · simp (disch := omega) only [show (nI 100).toInt = 100 from by decide, nI_toInt, ti0, ti1, tim1, tim20, tim1000] at c7
      all_goals omega
    · simp (disch := omega) only [show (nI 100).toInt = 100 from by decide, nI_toInt, ti0, ti1, tim1, tim20, tim1000] at c7
      refine V_iload_n (pc := 10) d_X12_told_10 rfl ?_
      refine V_aload_n (pc := 11) d_X12_told_11 rfl ?_
      refine P_getR (pc := 12) d_X12_told_12 f_X12_32 (tt_139 b) (rr_139_10 b) ?_
      refine V_iload_n (pc := 15) d_X12_told_15 rfl ?_
      refine P_zald (pc := 16) (j) d_X12_told_16 (tt_147 b) rfl (ln_of (ll_147 b) ⟨by omega, by decide⟩) ?_
      refine V_if_eq (pc := 17) 24 d_X12_told_17 (by decide) (fun c17 => ?_) (fun c17 => ?_)
      · refine V_iconst (pc := 24) (0) d_X12_told_24 (by decide) ?_
        refine V_iadd (pc := 25) d_X12_told_25 ?_
        refine V_istore_n (pc := 26) d_X12_told_26 (by decide) ?_
        refine V_iinc (pc := 27) d_X12_told_27 rfl (by decide) ?_
        refine V_goto (pc := 30) 4 d_X12_told_30 (by decide) ?_
        have e : nI (cnt (told σ) (j + 1)) = nI (cnt (told σ) j) + (if σ 147 j = 0 then 0 else 1) := by
          rcases h01 j (by omega) with z | z
          · rw [if_pos z, cnt, if_neg (by simp [told, z]), Int32.add_zero, Nat.add_zero]
          · rw [if_neg (by rw [z]; decide), cnt, if_pos (by simp [told, z]), nI_1]
        simp only [c17, if_true, if_false] at e
        rw [p1_s, ← e]
        exact ih (by omega) (j + 1) (by omega)
      · refine V_iconst (pc := 20) (1) d_X12_told_20 (by decide) ?_
        refine V_goto (pc := 21) 25 d_X12_told_21 (by decide) ?_
        refine V_iadd (pc := 25) d_X12_told_25 ?_
        refine V_istore_n (pc := 26) d_X12_told_26 (by decide) ?_
        refine V_iinc (pc := 27) d_X12_told_27 rfl (by decide) ?_
        refine V_goto (pc := 30) 4 d_X12_told_30 (by decide) ?_
        have e : nI (cnt (told σ) (j + 1)) = nI (cnt (told σ) j) + (if σ 147 j = 0 then 0 else 1) := by
          rcases h01 j (by omega) with z | z
          · rw [if_pos z, cnt, if_neg (by simp [told, z]), Int32.add_zero, Nat.add_zero]
          · rw [if_neg (by rw [z]; decide), cnt, if_pos (by simp [told, z]), nI_1]
        simp only [c17, if_true, if_false] at e
        rw [p1_s, ← e]
        exact ih (by omega) (j + 1) (by omega)
theorem ct_X12_told  (h01 : ∀ d, d < 100 → σ 147 d = 0 ∨ σ 147 d = 1) (hq : K (nI (cnt (told σ) 100)) (σ, sh b)) : CM G mX12_told (rl 1) [.ref 139] (σ, sh b) (QI K) := by
  refine CM.of (by decide) (Nat.le_of_ble_eq_true rfl) (cats1 rfl) ?_
  refine V_iconst (pc := 0) (0) d_X12_told_0 (by decide) ?_
  refine V_istore_n (pc := 1) d_X12_told_1 (by decide) ?_
  refine V_iconst (pc := 2) (0) d_X12_told_2 (by decide) ?_
  refine V_istore_n (pc := 3) d_X12_told_3 (by decide) ?_
  refine lp_told h01 ?_ 100 (Nat.le_refl _) 0 (by omega)
  refine V_iload_n (pc := 33) d_X12_told_33 rfl ?_
  exact V_retI (pc := 34) d_X12_told_34 rfl ⟨Nat.le_refl _, Nat.le_refl _⟩ hq
theorem ct_X4_tellHeight {V : Sg} {d : Nat} {y : Int32} (hH : cH σ 4 V) (hd : d < 100) (hq : KV (up2 (up2 σ 4 6 (nI (cnt (setp (told V) d) 100))) 5 d y, sh b)) : CM G mX4_tellHeight (rl 1) [.ref 4, .int (nI d), .int y] (σ, sh b) (QV KV) := by
  refine CM.of (by decide) (Nat.le_of_ble_eq_true rfl) (cats1 rfl) ?_
  refine V_aload_n (pc := 0) d_X4_tellHeight_0 rfl ?_
  refine P_getR (pc := 1) d_X4_tellHeight_1 f_X4_36 (tt_4 b) (rr_4_8 b) ?_
  refine V_iload_n (pc := 4) d_X4_tellHeight_4 rfl ?_
  refine P_iald (pc := 5) (d) d_X4_tellHeight_5 (tt_5 b) rfl (ln_of (ll_5 b) ⟨by omega, by decide⟩) ?_
  refine V_sipush (pc := 6) (-1000) d_X4_tellHeight_6 (by decide) ?_
  refine V_icmp_ne (pc := 9) 22 d_X4_tellHeight_9 (by decide) (fun c9 => ?_) (fun c9 => ?_)
  · rw [show σ 5 d = σ (4 + 1) d from rfl, cH_no hH hd] at c9
    have ec : up2 σ 4 6 (nI (cnt (setp (told V) d) 100)) = σ := up2_id (by rw [cnt_set hd, if_pos (Classical.not_not.mp c9), Nat.add_zero]; exact hH.2)
    rw [ec] at hq
    refine V_aload_n (pc := 22) d_X4_tellHeight_22 rfl ?_
    refine P_getR (pc := 23) d_X4_tellHeight_23 f_X4_36 (tt_4 b) (rr_4_8 b) ?_
    refine V_iload_n (pc := 26) d_X4_tellHeight_26 rfl ?_
    refine V_iload_n (pc := 27) d_X4_tellHeight_27 rfl ?_
    refine P_iast (pc := 28) (d) d_X4_tellHeight_28 (tt_5 b) rfl (ln_of (ll_5 b) ⟨by omega, by decide⟩) ?_
    exact V_retV (pc := 29) d_X4_tellHeight_29 rfl ⟨Nat.le_refl _, Nat.le_refl _⟩ hq
  · rw [show σ 5 d = σ (4 + 1) d from rfl, cH_no hH hd] at c9
    have ec : nI (cnt (setp (told V) d) 100) = σ 4 6 + 1 := by
      rw [cnt_set hd, if_neg c9, hH.2, nI_1]; rfl
    rw [ec] at hq
    refine V_aload_n (pc := 12) d_X4_tellHeight_12 rfl ?_
    refine V_dup (pc := 13) d_X4_tellHeight_13 rfl ?_
    refine P_getI (pc := 14) d_X4_tellHeight_14 f_X4_30 (tt_4 b) ?_
    refine V_iconst (pc := 17) (1) d_X4_tellHeight_17 (by decide) ?_
    refine V_iadd (pc := 18) d_X4_tellHeight_18 ?_
    refine P_putI (pc := 19) d_X4_tellHeight_19 f_X4_30 (tt_4 b) ?_
    refine V_aload_n (pc := 22) d_X4_tellHeight_22 rfl ?_
    refine P_getR (pc := 23) d_X4_tellHeight_23 f_X4_36 (tt_4 b) (rr_4_8 b) ?_
    refine V_iload_n (pc := 26) d_X4_tellHeight_26 rfl ?_
    refine V_iload_n (pc := 27) d_X4_tellHeight_27 rfl ?_
    refine P_iast (pc := 28) (d) d_X4_tellHeight_28 (tt_5 b) rfl (ln_of (ll_5 b) ⟨by omega, by decide⟩) ?_
    exact V_retV (pc := 29) d_X4_tellHeight_29 rfl ⟨Nat.le_refl _, Nat.le_refl _⟩ hq
theorem told_01 {r : Nat} {V : Sg} (h : cH σ r V) : ∀ d, d < 100 → V 147 d = 0 ∨ V 147 d = 1 := fun d hd => by
  rcases h.1 d hd with z | z
  · exact Or.inl z.1
  · exact Or.inr z.1
theorem told_up {V : Sg} {d : Nat} {y : Int32} : told (up2 (up2 V 146 d y) 147 d 1) = setp (told V) d := by
  funext e
  by_cases z : e = d
  · simp [told, setp, z, up2]
  · simp [told, setp, z, up2]
theorem ct_X11_gauge {x y : Int32} {q ns nb nl nt nr : Nat} (hR : RR σ 4 σ q ns nb nl nt nr) (h1 : ¬ ((0 ≤ x.toInt ∧ x.toInt ≤ 99) ∧ -20 ≤ y.toInt ∧ y.toInt ≤ 40) → K (-1) (up2 σ 3 3 1, sh b)) (h2 : ∀ d, d < 100 → x = nI d → -20 ≤ y.toInt → y.toInt ≤ 40 → K (nI (cnt (setp (told σ) d) 100)) (up2 (up2 (up2 σ 4 6 (nI (cnt (setp (told σ) d) 100))) 5 d y) 3 3 0, sh b)) : CM G mX11_gauge (rl 3) [.ref 3, .int x, .int y] (σ, sh b) (QI K) := by
  obtain ⟨⟨⟨hq2, hn10, hnb, hnl, hnt, hnr⟩, ⟨vq, vns, vnb, vnl, vnt, vnr⟩, ⟨rq, rns, rnb, rnl, rnt, rnr⟩, hpd⟩, hH, hC, hS, hLD, hB, hA, hT, hU⟩ := hR
  refine CM.of (by decide) (Nat.le_of_ble_eq_true rfl) (cats1 rfl) ?_
  refine V_iload_n (pc := 0) d_X11_gauge_0 rfl ?_
  refine V_csI (pc := 1) (n := 2) [_] d_X11_gauge_1 c_X11_75 k_X11_isDay rfl (Nat.le_of_ble_eq_true rfl) ⟨Nat.le_of_ble_eq_true rfl, Nat.le_of_ble_eq_true rfl⟩ ⟨Nat.le_refl _, Nat.le_refl _⟩ (ct_X11_isDay ?_)
  refine V_if_eq (pc := 4) 18 d_X11_gauge_4 (by decide) (fun c4 => ?_) (fun c4 => ?_)
  · replace c4 := zf c4
    refine V_aload_n (pc := 18) d_X11_gauge_18 rfl ?_
    refine V_iconst (pc := 19) (1) d_X11_gauge_19 (by decide) ?_
    refine V_cvI (pc := 20) (n := 1) (c := 11) [_] d_X11_gauge_20 c_X11_55 k_X11_refused ⟨rfl, rfl⟩ (tt_3 b) rfl (Nat.le_of_ble_eq_true rfl) ⟨Nat.le_of_ble_eq_true rfl, Nat.le_of_ble_eq_true rfl⟩ ⟨Nat.le_refl _, Nat.le_refl _⟩ (ct_X11_refused ?_)
    exact V_retI (pc := 23) d_X11_gauge_23 rfl ⟨Nat.le_refl _, Nat.le_refl _⟩ (h1 (fun z => by omega))
  · replace c4 := zt c4
    refine V_iload_n (pc := 7) d_X11_gauge_7 rfl ?_
    refine V_bipush (pc := 8) (-20) d_X11_gauge_8 (by decide) ?_
    refine V_bipush (pc := 10) (nI 40) d_X11_gauge_10 (by decide) ?_
    refine V_csI (pc := 12) (n := 1) [_, _, _] d_X11_gauge_12 c_X11_51 k_X11_isWithin rfl (Nat.le_of_ble_eq_true rfl) ⟨Nat.le_of_ble_eq_true rfl, Nat.le_of_ble_eq_true rfl⟩ ⟨Nat.le_refl _, Nat.le_refl _⟩ (ct_X11_isWithin (lo := -20) (hi := 40) (by decide) (by decide) ?_)
    refine V_if_ne (pc := 15) 24 d_X11_gauge_15 (by decide) (fun c15 => ?_) (fun c15 => ?_)
    · replace c15 := zt c15
      obtain ⟨d, hd, rfl, -⟩ := nat_of (n := 100) c4.1 (by omega) (by omega)
      refine V_aload_n (pc := 24) d_X11_gauge_24 rfl ?_
      refine P_getR (pc := 25) d_X11_gauge_25 f_X11_10 (tt_3 b) (rr_3_0 b) ?_
      refine V_iload_n (pc := 28) d_X11_gauge_28 rfl ?_
      refine V_iload_n (pc := 29) d_X11_gauge_29 rfl ?_
      refine V_cvV (pc := 30) (n := 1) (c := 4) [_, _] d_X11_gauge_30 c_X11_79 k_X4_tellHeight ⟨rfl, rfl⟩ (tt_4 b) rfl (Nat.le_of_ble_eq_true rfl) ⟨Nat.le_of_ble_eq_true rfl, Nat.le_of_ble_eq_true rfl⟩ ⟨Nat.le_refl _, Nat.le_refl _⟩ (ct_X4_tellHeight hH hd ?_)
      refine V_aload_n (pc := 33) d_X11_gauge_33 rfl ?_
      refine V_aload_n (pc := 34) d_X11_gauge_34 rfl ?_
      refine P_getR (pc := 35) d_X11_gauge_35 f_X11_10 (tt_3 b) (rr_3_0 b) ?_
      refine P_getI (pc := 38) d_X11_gauge_38 f_X11_83 (tt_4 b) ?_
      rw [up2_n (by omega), up2_e ⟨rfl, rfl⟩]
      refine V_cvI (pc := 41) (n := 1) (c := 11) [_] d_X11_gauge_41 c_X11_72 k_X11_done ⟨rfl, rfl⟩ (tt_3 b) rfl (Nat.le_of_ble_eq_true rfl) ⟨Nat.le_of_ble_eq_true rfl, Nat.le_of_ble_eq_true rfl⟩ ⟨Nat.le_refl _, Nat.le_refl _⟩ (ct_X11_done ?_)
      exact V_retI (pc := 44) d_X11_gauge_44 rfl ⟨Nat.le_refl _, Nat.le_refl _⟩ (h2 d hd rfl c15.1 c15.2)
    · replace c15 := zf c15
      refine V_aload_n (pc := 18) d_X11_gauge_18 rfl ?_
      refine V_iconst (pc := 19) (1) d_X11_gauge_19 (by decide) ?_
      refine V_cvI (pc := 20) (n := 1) (c := 11) [_] d_X11_gauge_20 c_X11_55 k_X11_refused ⟨rfl, rfl⟩ (tt_3 b) rfl (Nat.le_of_ble_eq_true rfl) ⟨Nat.le_of_ble_eq_true rfl, Nat.le_of_ble_eq_true rfl⟩ ⟨Nat.le_refl _, Nat.le_refl _⟩ (ct_X11_refused ?_)
      exact V_retI (pc := 23) d_X11_gauge_23 rfl ⟨Nat.le_refl _, Nat.le_refl _⟩ (h1 (fun z => by omega))
theorem ct_X12_gauge {x y : Int32} {ρ : Sg} {q ns nb nl nt nr : Nat} (hR : RR ρ 4 σ q ns nb nl nt nr) (h1 : ¬ ((0 ≤ x.toInt ∧ x.toInt ≤ 99) ∧ -20 ≤ y.toInt ∧ y.toInt ≤ 40) → K (-1) (up2 σ 139 0 1, sh b)) (h2 : ∀ d, d < 100 → x = nI d → -20 ≤ y.toInt → y.toInt ≤ 40 → K (nI (cnt (setp (told σ) d) 100)) (up2 (up2 (up2 σ 146 d y) 147 d 1) 139 0 0, sh b)) : CM G mX12_gauge (rl 3) [.ref 139, .int x, .int y] (σ, sh b) (QI K) := by
  obtain ⟨⟨⟨hq2, hn10, hnb, hnl, hnt, hnr⟩, ⟨vq, vns, vnb, vnl, vnt, vnr⟩, ⟨rq, rns, rnb, rnl, rnt, rnr⟩, hpd⟩, hH, hC, hS, hLD, hB, hA, hT, hU⟩ := hR
  refine CM.of (by decide) (Nat.le_of_ble_eq_true rfl) (cats1 rfl) ?_
  refine V_iload_n (pc := 0) d_X12_gauge_0 rfl ?_
  refine V_csI (pc := 1) (n := 2) [_] d_X12_gauge_1 c_X12_194 k_X12_isDay rfl (Nat.le_of_ble_eq_true rfl) ⟨Nat.le_of_ble_eq_true rfl, Nat.le_of_ble_eq_true rfl⟩ ⟨Nat.le_refl _, Nat.le_refl _⟩ (ct_X12_isDay ?_)
  refine V_if_eq (pc := 4) 18 d_X12_gauge_4 (by decide) (fun c4 => ?_) (fun c4 => ?_)
  · replace c4 := zf c4
    refine V_aload_n (pc := 18) d_X12_gauge_18 rfl ?_
    refine V_iconst (pc := 19) (1) d_X12_gauge_19 (by decide) ?_
    refine V_cvI (pc := 20) (n := 1) (c := 12) [_] d_X12_gauge_20 c_X12_187 k_X12_refused ⟨rfl, rfl⟩ (tt_139 b) rfl (Nat.le_of_ble_eq_true rfl) ⟨Nat.le_of_ble_eq_true rfl, Nat.le_of_ble_eq_true rfl⟩ ⟨Nat.le_refl _, Nat.le_refl _⟩ (ct_X12_refused ?_)
    exact V_retI (pc := 23) d_X12_gauge_23 rfl ⟨Nat.le_refl _, Nat.le_refl _⟩ (h1 (fun z => by omega))
  · replace c4 := zt c4
    refine V_iload_n (pc := 7) d_X12_gauge_7 rfl ?_
    refine V_bipush (pc := 8) (-20) d_X12_gauge_8 (by decide) ?_
    refine V_bipush (pc := 10) (nI 40) d_X12_gauge_10 (by decide) ?_
    refine V_csI (pc := 12) (n := 1) [_, _, _] d_X12_gauge_12 c_X12_174 k_X12_in rfl (Nat.le_of_ble_eq_true rfl) ⟨Nat.le_of_ble_eq_true rfl, Nat.le_of_ble_eq_true rfl⟩ ⟨Nat.le_refl _, Nat.le_refl _⟩ (ct_X12_in (lo := -20) (hi := 40) (by decide) (by decide) ?_)
    refine V_if_ne (pc := 15) 24 d_X12_gauge_15 (by decide) (fun c15 => ?_) (fun c15 => ?_)
    · replace c15 := zt c15
      obtain ⟨d, hd, rfl, -⟩ := nat_of (n := 100) c4.1 (by omega) (by omega)
      refine V_aload_n (pc := 24) d_X12_gauge_24 rfl ?_
      refine P_getR (pc := 25) d_X12_gauge_25 f_X12_29 (tt_139 b) (rr_139_9 b) ?_
      refine V_iload_n (pc := 28) d_X12_gauge_28 rfl ?_
      refine V_iload_n (pc := 29) d_X12_gauge_29 rfl ?_
      refine P_iast (pc := 30) (d) d_X12_gauge_30 (tt_146 b) rfl (ln_of (ll_146 b) ⟨by omega, by decide⟩) ?_
      refine V_aload_n (pc := 31) d_X12_gauge_31 rfl ?_
      refine P_getR (pc := 32) d_X12_gauge_32 f_X12_32 (tt_139 b) (rr_139_10 b) ?_
      refine V_iload_n (pc := 35) d_X12_gauge_35 rfl ?_
      refine V_iconst (pc := 36) (1) d_X12_gauge_36 (by decide) ?_
      refine P_zast (pc := 37) (d) d_X12_gauge_37 (tt_147 b) rfl (ln_of (ll_147 b) ⟨by omega, by decide⟩) (Or.inr rfl) ?_
      refine V_aload_n (pc := 38) d_X12_gauge_38 rfl ?_
      refine V_aload_n (pc := 39) d_X12_gauge_39 rfl ?_
      refine V_cvI (pc := 40) (n := 1) (c := 12) [] d_X12_gauge_40 c_X12_198 k_X12_told ⟨rfl, rfl⟩ (tt_139 b) rfl (Nat.le_of_ble_eq_true rfl) ⟨Nat.le_of_ble_eq_true rfl, Nat.le_of_ble_eq_true rfl⟩ ⟨Nat.le_refl _, Nat.le_refl _⟩ (ct_X12_told (fun e he => by
      by_cases z : e = d
      · exact Or.inr (up2_e ⟨rfl, z⟩)
      · rw [up2_n (by omega), up2_n (by omega)]; exact told_01 hH e he) ?_)
      refine V_cvI (pc := 43) (n := 1) (c := 12) [_] d_X12_gauge_43 c_X12_191 k_X12_done ⟨rfl, rfl⟩ (tt_139 b) rfl (Nat.le_of_ble_eq_true rfl) ⟨Nat.le_of_ble_eq_true rfl, Nat.le_of_ble_eq_true rfl⟩ ⟨Nat.le_refl _, Nat.le_refl _⟩ (ct_X12_done ?_)
      exact V_retI (pc := 46) d_X12_gauge_46 rfl ⟨Nat.le_refl _, Nat.le_refl _⟩ (by rw [told_up]; exact h2 d hd rfl c15.1 c15.2)
    · replace c15 := zf c15
      refine V_aload_n (pc := 18) d_X12_gauge_18 rfl ?_
      refine V_iconst (pc := 19) (1) d_X12_gauge_19 (by decide) ?_
      refine V_cvI (pc := 20) (n := 1) (c := 12) [_] d_X12_gauge_20 c_X12_187 k_X12_refused ⟨rfl, rfl⟩ (tt_139 b) rfl (Nat.le_of_ble_eq_true rfl) ⟨Nat.le_of_ble_eq_true rfl, Nat.le_of_ble_eq_true rfl⟩ ⟨Nat.le_refl _, Nat.le_refl _⟩ (ct_X12_refused ?_)
      exact V_retI (pc := 23) d_X12_gauge_23 rfl ⟨Nat.le_refl _, Nat.le_refl _⟩ (h1 (fun z => by omega))
theorem pr_gauge {x y : Int32} (h : Rel σ b) : PR G mX11_gauge mX12_gauge 3 3 [.int x, .int y] σ b := by
  have h0 := h
  obtain ⟨q, ns, nb, nl, nt, nr, hR, hX, hP, hQ, hK⟩ := h
  have hbd := hR.1.1
  refine ct_X11_gauge hR (fun hv => ?_) (fun d hd e y0 y1 => ?_)
  · refine ⟨rfl, ct_X12_gauge (RR_lo hR (fun a i _ _ => (by rw [up2_n (by omega)]))) (fun _ => ⟨rfl, _, rfl, rel_ref h0⟩) (fun d hd e y0 y1 => absurd ⟨bad99 hd e, y0, y1⟩ hv)⟩
  · refine ⟨rfl, ct_X12_gauge (RR_lo hR (fun a i _ _ => (by rw [up2_n (by omega), up2_n (by omega), up2_n (by omega)]))) (fun hv => absurd ⟨bad99 hd e, y0, y1⟩ hv) (fun d' hd' e' _ _ => ?_)⟩
    obtain rfl : d' = d := nI_inj (by omega) (by omega) (e'.symm.trans e)
    obtain ⟨hcn, hH, hC, hS, hLD, hB, hA, hT, hU⟩ := id hR
    have hbd := hcn.1
    refine ⟨congrArg nI (congrArg (fun p => cnt (setp p d') 100) (funext fun e => by rw [told, told, up2_n (by omega), up2_n (by omega), up2_n (by omega)])), _, rfl, ?_⟩
    exact ⟨q, ns, nb, nl, nt, nr, ⟨cCnt_cg hcn (fun i _ _ => (by rw [up2_n (by omega), up2_n (by omega), up2_n (by omega), up2_n (by omega), up2_n (by omega), up2_n (by omega)])) (fun i _ => (by rw [up2_n (by omega), up2_n (by omega), up2_n (by omega), up2_n (by omega), up2_n (by omega), up2_n (by omega)])), ⟨fun e he => by
      rw [show (4 : Nat) + 1 = 5 from rfl]
      by_cases z : e = d'
      · subst z
        refine Or.inr ⟨?_, ?_, ?_, ?_⟩
        · rw [up2_n (by omega), up2_e ⟨rfl, rfl⟩]
        · rw [up2_n (by omega), up2_n (by omega), up2_n (by omega), up2_n (by omega), up2_e ⟨rfl, rfl⟩, up2_n (by omega), up2_n (by omega), up2_e ⟨rfl, rfl⟩]
        · rw [up2_n (by omega), up2_n (by omega), up2_e ⟨rfl, rfl⟩]; exact y0
        · rw [up2_n (by omega), up2_n (by omega), up2_e ⟨rfl, rfl⟩]; exact y1
      · rw [up2_n (by omega), up2_n (by omega), up2_n (by omega), up2_n (by omega), up2_n (by omega), up2_n (by omega), up2_n (by omega), up2_n (by omega), up2_n (by omega), up2_n (by omega), up2_n (by omega), up2_n (by omega), up2_n (by omega), up2_n (by omega), up2_n (by omega), up2_n (by omega), up2_n (by omega), up2_n (by omega)]; exact hH.1 e he, by
      rw [up2_n (by omega), up2_n (by omega), up2_n (by omega), up2_n (by omega), up2_n (by omega), up2_e ⟨rfl, rfl⟩]
      refine congrArg nI (congrArg (fun p => cnt p 100) ?_)
      funext e
      rw [up2_n (by omega)]
      by_cases z : e = d'
      · subst z; rw [up2_e ⟨rfl, rfl⟩]; simp [setp]
      · rw [up2_n (by omega), up2_n (by omega), up2_n (by omega), up2_n (by omega), up2_n (by omega)]; simp [setp, told, z]⟩, cC_cg hC (fun d _ => (by rw [up2_n (by omega), up2_n (by omega), up2_n (by omega), up2_n (by omega), up2_n (by omega), up2_n (by omega)])) (fun d _ => (by rw [up2_n (by omega), up2_n (by omega), up2_n (by omega), up2_n (by omega), up2_n (by omega), up2_n (by omega)])), cS_cg hS (fun k _ => ⟨fun j => (by rw [up2_n (by omega), up2_n (by omega), up2_n (by omega), up2_n (by omega), up2_n (by omega), up2_n (by omega)]), fun d _ => (by rw [up2_n (by omega), up2_n (by omega), up2_n (by omega), up2_n (by omega), up2_n (by omega), up2_n (by omega)])⟩) (fun k _ => ⟨(by rw [up2_n (by omega), up2_n (by omega), up2_n (by omega), up2_n (by omega), up2_n (by omega), up2_n (by omega)]), (by rw [up2_n (by omega), up2_n (by omega), up2_n (by omega), up2_n (by omega), up2_n (by omega), up2_n (by omega)]), (by rw [up2_n (by omega), up2_n (by omega), up2_n (by omega), up2_n (by omega), up2_n (by omega), up2_n (by omega)]), (by rw [up2_n (by omega), up2_n (by omega), up2_n (by omega), up2_n (by omega), up2_n (by omega), up2_n (by omega)])⟩) (fun i _ => ⟨(by rw [up2_n (by omega), up2_n (by omega), up2_n (by omega), up2_n (by omega), up2_n (by omega), up2_n (by omega)]), (by rw [up2_n (by omega), up2_n (by omega), up2_n (by omega), up2_n (by omega), up2_n (by omega), up2_n (by omega)])⟩), cL_cg hLD (fun l _ => ⟨(by rw [up2_n (by omega), up2_n (by omega), up2_n (by omega), up2_n (by omega), up2_n (by omega), up2_n (by omega)]), fun k _ => ⟨(by rw [up2_n (by omega), up2_n (by omega), up2_n (by omega), up2_n (by omega), up2_n (by omega), up2_n (by omega)]), (by rw [up2_n (by omega), up2_n (by omega), up2_n (by omega), up2_n (by omega), up2_n (by omega), up2_n (by omega)])⟩⟩) (fun l _ => (by rw [up2_n (by omega), up2_n (by omega), up2_n (by omega), up2_n (by omega), up2_n (by omega), up2_n (by omega)])) (fun m _ _ => ⟨(by rw [up2_n (by omega), up2_n (by omega), up2_n (by omega), up2_n (by omega), up2_n (by omega), up2_n (by omega)]), (by rw [up2_n (by omega), up2_n (by omega), up2_n (by omega), up2_n (by omega), up2_n (by omega), up2_n (by omega)])⟩), cB_cg hB (fun i _ => ⟨fun j => (by rw [up2_n (by omega), up2_n (by omega), up2_n (by omega), up2_n (by omega), up2_n (by omega), up2_n (by omega)]), fun k _ => ⟨(by rw [up2_n (by omega), up2_n (by omega), up2_n (by omega), up2_n (by omega), up2_n (by omega), up2_n (by omega)]), (by rw [up2_n (by omega), up2_n (by omega), up2_n (by omega), up2_n (by omega), up2_n (by omega), up2_n (by omega)])⟩⟩) (fun i _ a _ _ => (by rw [up2_n (by omega), up2_n (by omega), up2_n (by omega), up2_n (by omega), up2_n (by omega), up2_n (by omega)])) (fun m _ => ⟨(by rw [up2_n (by omega), up2_n (by omega), up2_n (by omega), up2_n (by omega), up2_n (by omega), up2_n (by omega)]), (by rw [up2_n (by omega), up2_n (by omega), up2_n (by omega), up2_n (by omega), up2_n (by omega), up2_n (by omega)])⟩) (fun j _ => ⟨(by rw [up2_n (by omega), up2_n (by omega), up2_n (by omega), up2_n (by omega), up2_n (by omega), up2_n (by omega)]), (by rw [up2_n (by omega), up2_n (by omega), up2_n (by omega), up2_n (by omega), up2_n (by omega), up2_n (by omega)]), (by rw [up2_n (by omega), up2_n (by omega), up2_n (by omega), up2_n (by omega), up2_n (by omega), up2_n (by omega)])⟩), cA_cg hA (fun j _ i => (by rw [up2_n (by omega), up2_n (by omega), up2_n (by omega), up2_n (by omega), up2_n (by omega), up2_n (by omega)])) (fun j _ a _ _ => (by rw [up2_n (by omega), up2_n (by omega), up2_n (by omega), up2_n (by omega), up2_n (by omega), up2_n (by omega)])), cT_cg hT (fun j _ i => (by rw [up2_n (by omega), up2_n (by omega), up2_n (by omega), up2_n (by omega), up2_n (by omega), up2_n (by omega)])) (fun j _ a _ _ => (by rw [up2_n (by omega), up2_n (by omega), up2_n (by omega), up2_n (by omega), up2_n (by omega), up2_n (by omega)])), cU_cg hU (fun j _ i => (by rw [up2_n (by omega), up2_n (by omega), up2_n (by omega), up2_n (by omega), up2_n (by omega), up2_n (by omega)])) (fun j _ a _ _ => (by rw [up2_n (by omega), up2_n (by omega), up2_n (by omega), up2_n (by omega), up2_n (by omega), up2_n (by omega)]))⟩, cX_cg hX (by simp [up2]) ⟨(by rw [up2_n (by omega), up2_n (by omega), up2_n (by omega), up2_n (by omega), up2_n (by omega), up2_n (by omega)]), (by rw [up2_n (by omega), up2_n (by omega), up2_n (by omega), up2_n (by omega), up2_n (by omega), up2_n (by omega)])⟩, cP_cg hP ⟨(by rw [up2_n (by omega), up2_n (by omega), up2_n (by omega), up2_n (by omega), up2_n (by omega), up2_n (by omega)]), (by rw [up2_n (by omega), up2_n (by omega), up2_n (by omega), up2_n (by omega), up2_n (by omega), up2_n (by omega)])⟩ (fun j _ => ⟨(by rw [up2_n (by omega), up2_n (by omega), up2_n (by omega), up2_n (by omega), up2_n (by omega), up2_n (by omega)]), (by rw [up2_n (by omega), up2_n (by omega), up2_n (by omega), up2_n (by omega), up2_n (by omega), up2_n (by omega)])⟩), cQ_cg hQ (fun a i _ => (by rw [up2_n (by omega), up2_n (by omega), up2_n (by omega), up2_n (by omega), up2_n (by omega), up2_n (by omega)])), cK_cg hK (by rw [up2_n (by omega), up2_n (by omega), up2_n (by omega), up2_n (by omega), up2_n (by omega), up2_n (by omega)]) (fun a i _ => (by rw [up2_n (by omega), up2_n (by omega), up2_n (by omega), up2_n (by omega), up2_n (by omega), up2_n (by omega)])) (fun a i _ => (by rw [up2_n (by omega), up2_n (by omega), up2_n (by omega), up2_n (by omega), up2_n (by omega), up2_n (by omega)])) (by omega) (by omega) (by omega) (by omega) (by omega)⟩
theorem agS_s (V : Sg) (n : Nat) : agS V (n + 1) = agS V n + (if V 152 n = nI 3 then 1 else 0) := rfl
theorem lp_ag {ns nb nl : Nat} (hB : cB σ 4 σ ns nb nl) (hn : σ 4 2 = nI nb) (hnb : nb ≤ 5) (hE : V G mX4_boatsAground (rl 1) F 0 0 39 [some (.ref 4), some (.int (agS σ nb)), some (.int (nI nb))] [] (σ, sh b)) : ∀ n, n ≤ nb → ∀ j, j + n = nb → V G mX4_boatsAground (rl 1) F 0 0 4 [some (.ref 4), some (.int (agS σ j)), some (.int (nI j))] [] (σ, sh b) := by
  intro n
  induction n with
  | zero =>
    intro hx j hj
    obtain rfl : j = nb := by omega
    refine V_iload_n (pc := 4) d_X4_boatsAground_4 rfl ?_
    refine V_aload_n (pc := 5) d_X4_boatsAground_5 rfl ?_
    refine P_getI (pc := 6) d_X4_boatsAground_6 f_X4_18 (tt_4 b) ?_
    rw [hn]
    refine B_icmp_ge (pc := 9) 39 d_X4_boatsAground_9 (by decide) (fun c9 => ?_) (fun c9 => ?_)
    · simp (disch := omega) only [nI_toInt, ti0, ti1, tim1, tim20, tim1000] at c9
      exact hE
    · simp (disch := omega) only [nI_toInt, ti0, ti1, tim1, tim20, tim1000] at c9
      all_goals omega
  | succ n ih =>
    intro hx j hj
    refine V_iload_n (pc := 4) d_X4_boatsAground_4 rfl ?_
    refine V_aload_n (pc := 5) d_X4_boatsAground_5 rfl ?_
    refine P_getI (pc := 6) d_X4_boatsAground_6 f_X4_18 (tt_4 b) ?_
    rw [hn]
    refine B_icmp_ge (pc := 9) 39 d_X4_boatsAground_9 (by decide) (fun c9 => ?_) (fun c9 => ?_)
    · simp (disch := omega) only [nI_toInt, ti0, ti1, tim1, tim20, tim1000] at c9
      all_goals omega
    · simp (disch := omega) only [nI_toInt, ti0, ti1, tim1, tim20, tim1000] at c9
      refine V_iload_n (pc := 12) d_X4_boatsAground_12 rfl ?_
      refine V_aload_n (pc := 13) d_X4_boatsAground_13 rfl ?_
      refine P_getR (pc := 14) d_X4_boatsAground_14 f_X4_58 (tt_4 b) (rr_4_12 b) ?_
      refine V_iload_n (pc := 17) d_X4_boatsAground_17 rfl ?_
      refine P_aald (pc := 18) (c := 2) (j) d_X4_boatsAground_18 (tt_9 b) (by decide) rfl (ln_of (ll_9 b) ⟨by omega, by decide⟩) (rB b (by omega)) ?_
      refine P_getI (pc := 19) d_X4_boatsAground_19 f_X4_160 (tB b (by omega)) ?_
      rw [(cB_f hB (by omega : j < nb)).2.2.2.2.2.1]
      refine V_iconst (pc := 22) (nI 3) d_X4_boatsAground_22 (by decide) ?_
      refine V_icmp_ne (pc := 23) 30 d_X4_boatsAground_23 (by decide) (fun c23 => ?_) (fun c23 => ?_)
      · refine V_iconst (pc := 30) (0) d_X4_boatsAground_30 (by decide) ?_
        refine V_iadd (pc := 31) d_X4_boatsAground_31 ?_
        refine V_istore_n (pc := 32) d_X4_boatsAground_32 (by decide) ?_
        refine V_iinc (pc := 33) d_X4_boatsAground_33 rfl (by decide) ?_
        refine V_goto (pc := 36) 4 d_X4_boatsAground_36 (by decide) ?_
        have e := agS_s σ j
        simp only [c23, if_true, if_false] at e
        rw [p1_s, ← e]
        exact ih (by omega) (j + 1) (by omega)
      · refine V_iconst (pc := 26) (1) d_X4_boatsAground_26 (by decide) ?_
        refine V_goto (pc := 27) 31 d_X4_boatsAground_27 (by decide) ?_
        refine V_iadd (pc := 31) d_X4_boatsAground_31 ?_
        refine V_istore_n (pc := 32) d_X4_boatsAground_32 (by decide) ?_
        refine V_iinc (pc := 33) d_X4_boatsAground_33 rfl (by decide) ?_
        refine V_goto (pc := 36) 4 d_X4_boatsAground_36 (by decide) ?_
        have e := agS_s σ j
        simp only [c23, if_true, if_false] at e
        rw [p1_s, ← e]
        exact ih (by omega) (j + 1) (by omega)
theorem ct_X4_boatsAground {ns nb nl : Nat} (hB : cB σ 4 σ ns nb nl) (hn : σ 4 2 = nI nb) (hnb : nb ≤ 5) (hq : K (agS σ nb) (σ, sh b)) : CM G mX4_boatsAground (rl 1) [.ref 4] (σ, sh b) (QI K) := by
  refine CM.of (by decide) (Nat.le_of_ble_eq_true rfl) (cats1 rfl) ?_
  refine V_iconst (pc := 0) (0) d_X4_boatsAground_0 (by decide) ?_
  refine V_istore_n (pc := 1) d_X4_boatsAground_1 (by decide) ?_
  refine V_iconst (pc := 2) (0) d_X4_boatsAground_2 (by decide) ?_
  refine V_istore_n (pc := 3) d_X4_boatsAground_3 (by decide) ?_
  refine lp_ag hB hn hnb ?_ nb (Nat.le_refl _) 0 (by omega)
  refine V_iload_n (pc := 39) d_X4_boatsAground_39 rfl ?_
  exact V_retI (pc := 40) d_X4_boatsAground_40 rfl ⟨Nat.le_refl _, Nat.le_refl _⟩ hq
theorem lp_agM {nb : Nat} {x : Int32} (hn : σ 139 12 = nI nb) (hnb : nb ≤ 5) (hE : V G mX12_count (rl 2) F 0 0 125 [some (.ref 139), some (.int x), some (.int (agS σ nb)), some (.int (nI nb))] [] (σ, sh b)) : ∀ n, n ≤ nb → ∀ j, j + n = nb → V G mX12_count (rl 2) F 0 0 93 [some (.ref 139), some (.int x), some (.int (agS σ j)), some (.int (nI j))] [] (σ, sh b) := by
  intro n
  induction n with
  | zero =>
    intro hx j hj
    obtain rfl : j = nb := by omega
    refine V_iload_n (pc := 93) d_X12_count_93 rfl ?_
    refine V_aload_n (pc := 94) d_X12_count_94 rfl ?_
    refine P_getI (pc := 95) d_X12_count_95 f_X12_178 (tt_139 b) ?_
    rw [hn]
    refine B_icmp_ge (pc := 98) 125 d_X12_count_98 (by decide) (fun c98 => ?_) (fun c98 => ?_)
    · simp (disch := omega) only [nI_toInt, ti0, ti1, tim1, tim20, tim1000] at c98
      exact hE
    · simp (disch := omega) only [nI_toInt, ti0, ti1, tim1, tim20, tim1000] at c98
      all_goals omega
  | succ n ih =>
    intro hx j hj
    refine V_iload_n (pc := 93) d_X12_count_93 rfl ?_
    refine V_aload_n (pc := 94) d_X12_count_94 rfl ?_
    refine P_getI (pc := 95) d_X12_count_95 f_X12_178 (tt_139 b) ?_
    rw [hn]
    refine B_icmp_ge (pc := 98) 125 d_X12_count_98 (by decide) (fun c98 => ?_) (fun c98 => ?_)
    · simp (disch := omega) only [nI_toInt, ti0, ti1, tim1, tim20, tim1000] at c98
      all_goals omega
    · simp (disch := omega) only [nI_toInt, ti0, ti1, tim1, tim20, tim1000] at c98
      refine V_iload_n (pc := 101) d_X12_count_101 rfl ?_
      refine V_aload_n (pc := 102) d_X12_count_102 rfl ?_
      refine P_getR (pc := 103) d_X12_count_103 f_X12_47 (tt_139 b) (rr_139_16 b) ?_
      refine V_iload_n (pc := 106) d_X12_count_106 rfl ?_
      refine P_iald (pc := 107) (j) d_X12_count_107 (tt_152 b) rfl (ln_of (ll_152 b) ⟨by omega, by decide⟩) ?_
      refine V_iconst (pc := 108) (nI 3) d_X12_count_108 (by decide) ?_
      refine V_icmp_ne (pc := 109) 116 d_X12_count_109 (by decide) (fun c109 => ?_) (fun c109 => ?_)
      · refine V_iconst (pc := 116) (0) d_X12_count_116 (by decide) ?_
        refine V_iadd (pc := 117) d_X12_count_117 ?_
        refine V_istore_n (pc := 118) d_X12_count_118 (by decide) ?_
        refine V_iinc (pc := 119) d_X12_count_119 rfl (by decide) ?_
        refine V_goto (pc := 122) 93 d_X12_count_122 (by decide) ?_
        have e := agS_s σ j
        simp only [c109, if_true, if_false] at e
        rw [p1_s, ← e]
        exact ih (by omega) (j + 1) (by omega)
      · refine V_iconst (pc := 112) (1) d_X12_count_112 (by decide) ?_
        refine V_goto (pc := 113) 117 d_X12_count_113 (by decide) ?_
        refine V_iadd (pc := 117) d_X12_count_117 ?_
        refine V_istore_n (pc := 118) d_X12_count_118 (by decide) ?_
        refine V_iinc (pc := 119) d_X12_count_119 rfl (by decide) ?_
        refine V_goto (pc := 122) 93 d_X12_count_122 (by decide) ?_
        have e := agS_s σ j
        simp only [c109, if_true, if_false] at e
        rw [p1_s, ← e]
        exact ih (by omega) (j + 1) (by omega)
theorem ct_X11_count {x : Int32} {q ns nb nl nt nr : Nat} (hR : RR σ 4 σ q ns nb nl nt nr) (h9 : σ 124 0 = σ 139 59) (h30 : σ 4 7 = σ 139 30) (hq : K (cntQ σ q ns nb nl nt nr x) (σ, sh b)) : CM G mX11_count (rl 3) [.ref 3, .int x] (σ, sh b) (QI K) := by
  obtain ⟨⟨⟨hq2, hn10, hnb, hnl, hnt, hnr⟩, ⟨vq, vns, vnb, vnl, vnt, vnr⟩, ⟨rq, rns, rnb, rnl, rnt, rnr⟩, hpd⟩, hH, hC, hS, hLD, hB, hA, hT, hU⟩ := hR
  refine CM.of (by decide) (Nat.le_of_ble_eq_true rfl) (cats1 rfl) ?_
  refine V_iload_n (pc := 0) d_X11_count_0 rfl ?_
  by_cases w1_0 : x = 0
  · have hT1 : (x).toInt = 0 := by rw [w1_0]; decide
    refine V_tableIn (pc := 1) 56 d_X11_count_1 (by omega) (by omega) (by rw [hT1]; rfl) (by decide) ?_
    refine V_aload_n (pc := 56) d_X11_count_56 rfl ?_
    refine P_getR (pc := 57) d_X11_count_57 f_X11_10 (tt_3 b) (rr_3_0 b) ?_
    refine P_getI (pc := 60) d_X11_count_60 f_X11_59 (tt_4 b) ?_
    exact V_retI (pc := 63) d_X11_count_63 rfl ⟨Nat.le_refl _, Nat.le_refl _⟩ (by first | simpa (disch := omega) [-Int.not_lt, -Int.not_le, nI_eq, nI_eq0, nI_eq1, nI_e0n, nI_e1n, cntQ, rns, rnb, rnl, rnt, rnr, rq, h9, h30, w1_0] using hq | (exfalso; simp_all [show nI 2 = (2 : Int32) from rfl, show nI 3 = (3 : Int32) from rfl, show nI 4 = (4 : Int32) from rfl, show nI 5 = (5 : Int32) from rfl, show nI 6 = (6 : Int32) from rfl, show nI 7 = (7 : Int32) from rfl, show nI 8 = (8 : Int32) from rfl, show nI 9 = (9 : Int32) from rfl]; done))
  have v1_0 := neT (n := 0) (by decide) w1_0
  by_cases w1_1 : x = 1
  · have hT1 : (x).toInt = 1 := by rw [w1_1]; decide
    refine V_tableIn (pc := 1) 64 d_X11_count_1 (by omega) (by omega) (by rw [hT1]; rfl) (by decide) ?_
    refine V_aload_n (pc := 64) d_X11_count_64 rfl ?_
    refine P_getR (pc := 65) d_X11_count_65 f_X11_10 (tt_3 b) (rr_3_0 b) ?_
    refine P_getI (pc := 68) d_X11_count_68 f_X11_110 (tt_4 b) ?_
    exact V_retI (pc := 71) d_X11_count_71 rfl ⟨Nat.le_refl _, Nat.le_refl _⟩ (by first | simpa (disch := omega) [-Int.not_lt, -Int.not_le, nI_eq, nI_eq0, nI_eq1, nI_e0n, nI_e1n, cntQ, rns, rnb, rnl, rnt, rnr, rq, h9, h30, w1_0, w1_1] using hq | (exfalso; simp_all [show nI 2 = (2 : Int32) from rfl, show nI 3 = (3 : Int32) from rfl, show nI 4 = (4 : Int32) from rfl, show nI 5 = (5 : Int32) from rfl, show nI 6 = (6 : Int32) from rfl, show nI 7 = (7 : Int32) from rfl, show nI 8 = (8 : Int32) from rfl, show nI 9 = (9 : Int32) from rfl]; done))
  have v1_1 := neT (n := 1) (by decide) w1_1
  by_cases w1_2 : x = nI 2
  · have hT1 : (x).toInt = 2 := by rw [w1_2]; decide
    refine V_tableIn (pc := 1) 72 d_X11_count_1 (by omega) (by omega) (by rw [hT1]; rfl) (by decide) ?_
    refine V_aload_n (pc := 72) d_X11_count_72 rfl ?_
    refine P_getR (pc := 73) d_X11_count_73 f_X11_10 (tt_3 b) (rr_3_0 b) ?_
    refine P_getI (pc := 76) d_X11_count_76 f_X11_123 (tt_4 b) ?_
    exact V_retI (pc := 79) d_X11_count_79 rfl ⟨Nat.le_refl _, Nat.le_refl _⟩ (by first | simpa (disch := omega) [-Int.not_lt, -Int.not_le, nI_eq, nI_eq0, nI_eq1, nI_e0n, nI_e1n, cntQ, rns, rnb, rnl, rnt, rnr, rq, h9, h30, w1_0, w1_1, w1_2] using hq | (exfalso; simp_all [show nI 2 = (2 : Int32) from rfl, show nI 3 = (3 : Int32) from rfl, show nI 4 = (4 : Int32) from rfl, show nI 5 = (5 : Int32) from rfl, show nI 6 = (6 : Int32) from rfl, show nI 7 = (7 : Int32) from rfl, show nI 8 = (8 : Int32) from rfl, show nI 9 = (9 : Int32) from rfl]; done))
  have v1_2 := neT (n := 2) (by decide) w1_2
  by_cases w1_3 : x = nI 3
  · have hT1 : (x).toInt = 3 := by rw [w1_3]; decide
    refine V_tableIn (pc := 1) 80 d_X11_count_1 (by omega) (by omega) (by rw [hT1]; rfl) (by decide) ?_
    refine V_aload_n (pc := 80) d_X11_count_80 rfl ?_
    refine P_getR (pc := 81) d_X11_count_81 f_X11_10 (tt_3 b) (rr_3_0 b) ?_
    refine P_getI (pc := 84) d_X11_count_84 f_X11_215 (tt_4 b) ?_
    exact V_retI (pc := 87) d_X11_count_87 rfl ⟨Nat.le_refl _, Nat.le_refl _⟩ (by first | simpa (disch := omega) [-Int.not_lt, -Int.not_le, nI_eq, nI_eq0, nI_eq1, nI_e0n, nI_e1n, cntQ, rns, rnb, rnl, rnt, rnr, rq, h9, h30, w1_0, w1_1, w1_2, w1_3] using hq | (exfalso; simp_all [show nI 2 = (2 : Int32) from rfl, show nI 3 = (3 : Int32) from rfl, show nI 4 = (4 : Int32) from rfl, show nI 5 = (5 : Int32) from rfl, show nI 6 = (6 : Int32) from rfl, show nI 7 = (7 : Int32) from rfl, show nI 8 = (8 : Int32) from rfl, show nI 9 = (9 : Int32) from rfl]; done))
  have v1_3 := neT (n := 3) (by decide) w1_3
  by_cases w1_4 : x = nI 4
  · have hT1 : (x).toInt = 4 := by rw [w1_4]; decide
    refine V_tableIn (pc := 1) 88 d_X11_count_1 (by omega) (by omega) (by rw [hT1]; rfl) (by decide) ?_
    refine V_aload_n (pc := 88) d_X11_count_88 rfl ?_
    refine P_getR (pc := 89) d_X11_count_89 f_X11_10 (tt_3 b) (rr_3_0 b) ?_
    refine P_getI (pc := 92) d_X11_count_92 f_X11_227 (tt_4 b) ?_
    exact V_retI (pc := 95) d_X11_count_95 rfl ⟨Nat.le_refl _, Nat.le_refl _⟩ (by first | simpa (disch := omega) [-Int.not_lt, -Int.not_le, nI_eq, nI_eq0, nI_eq1, nI_e0n, nI_e1n, cntQ, rns, rnb, rnl, rnt, rnr, rq, h9, h30, w1_0, w1_1, w1_2, w1_3, w1_4] using hq | (exfalso; simp_all [show nI 2 = (2 : Int32) from rfl, show nI 3 = (3 : Int32) from rfl, show nI 4 = (4 : Int32) from rfl, show nI 5 = (5 : Int32) from rfl, show nI 6 = (6 : Int32) from rfl, show nI 7 = (7 : Int32) from rfl, show nI 8 = (8 : Int32) from rfl, show nI 9 = (9 : Int32) from rfl]; done))
  have v1_4 := neT (n := 4) (by decide) w1_4
  by_cases w1_5 : x = nI 5
  · have hT1 : (x).toInt = 5 := by rw [w1_5]; decide
    refine V_tableIn (pc := 1) 96 d_X11_count_1 (by omega) (by omega) (by rw [hT1]; rfl) (by decide) ?_
    refine V_aload_n (pc := 96) d_X11_count_96 rfl ?_
    refine P_getR (pc := 97) d_X11_count_97 f_X11_10 (tt_3 b) (rr_3_0 b) ?_
    refine P_getI (pc := 100) d_X11_count_100 f_X11_194 (tt_4 b) ?_
    exact V_retI (pc := 103) d_X11_count_103 rfl ⟨Nat.le_refl _, Nat.le_refl _⟩ (by first | simpa (disch := omega) [-Int.not_lt, -Int.not_le, nI_eq, nI_eq0, nI_eq1, nI_e0n, nI_e1n, cntQ, rns, rnb, rnl, rnt, rnr, rq, h9, h30, w1_0, w1_1, w1_2, w1_3, w1_4, w1_5] using hq | (exfalso; simp_all [show nI 2 = (2 : Int32) from rfl, show nI 3 = (3 : Int32) from rfl, show nI 4 = (4 : Int32) from rfl, show nI 5 = (5 : Int32) from rfl, show nI 6 = (6 : Int32) from rfl, show nI 7 = (7 : Int32) from rfl, show nI 8 = (8 : Int32) from rfl, show nI 9 = (9 : Int32) from rfl]; done))
  have v1_5 := neT (n := 5) (by decide) w1_5
  by_cases w1_6 : x = nI 6
  · have hT1 : (x).toInt = 6 := by rw [w1_6]; decide
    refine V_tableIn (pc := 1) 104 d_X11_count_1 (by omega) (by omega) (by rw [hT1]; rfl) (by decide) ?_
    refine V_aload_n (pc := 104) d_X11_count_104 rfl ?_
    refine P_getR (pc := 105) d_X11_count_105 f_X11_10 (tt_3 b) (rr_3_0 b) ?_
    refine P_getI (pc := 108) d_X11_count_108 f_X11_167 (tt_4 b) ?_
    exact V_retI (pc := 111) d_X11_count_111 rfl ⟨Nat.le_refl _, Nat.le_refl _⟩ (by first | simpa (disch := omega) [-Int.not_lt, -Int.not_le, nI_eq, nI_eq0, nI_eq1, nI_e0n, nI_e1n, cntQ, rns, rnb, rnl, rnt, rnr, rq, h9, h30, w1_0, w1_1, w1_2, w1_3, w1_4, w1_5, w1_6] using hq | (exfalso; simp_all [show nI 2 = (2 : Int32) from rfl, show nI 3 = (3 : Int32) from rfl, show nI 4 = (4 : Int32) from rfl, show nI 5 = (5 : Int32) from rfl, show nI 6 = (6 : Int32) from rfl, show nI 7 = (7 : Int32) from rfl, show nI 8 = (8 : Int32) from rfl, show nI 9 = (9 : Int32) from rfl]; done))
  have v1_6 := neT (n := 6) (by decide) w1_6
  by_cases w1_7 : x = nI 7
  · have hT1 : (x).toInt = 7 := by rw [w1_7]; decide
    refine V_tableIn (pc := 1) 112 d_X11_count_1 (by omega) (by omega) (by rw [hT1]; rfl) (by decide) ?_
    refine V_aload_n (pc := 112) d_X11_count_112 rfl ?_
    refine P_getR (pc := 113) d_X11_count_113 f_X11_10 (tt_3 b) (rr_3_0 b) ?_
    refine V_cvI (pc := 116) (n := 1) (c := 4) [] d_X11_count_116 c_X11_310 k_X4_boatsAground ⟨rfl, rfl⟩ (tt_4 b) rfl (Nat.le_of_ble_eq_true rfl) ⟨Nat.le_of_ble_eq_true rfl, Nat.le_of_ble_eq_true rfl⟩ ⟨Nat.le_refl _, Nat.le_refl _⟩ (ct_X4_boatsAground hB rnb (by omega) ?_)
    exact V_retI (pc := 119) d_X11_count_119 rfl ⟨Nat.le_refl _, Nat.le_refl _⟩ (by first | simpa (disch := omega) [-Int.not_lt, -Int.not_le, nI_eq, nI_eq0, nI_eq1, nI_e0n, nI_e1n, cntQ, rns, rnb, rnl, rnt, rnr, rq, h9, h30, w1_0, w1_1, w1_2, w1_3, w1_4, w1_5, w1_6, w1_7] using hq | (exfalso; simp_all [show nI 2 = (2 : Int32) from rfl, show nI 3 = (3 : Int32) from rfl, show nI 4 = (4 : Int32) from rfl, show nI 5 = (5 : Int32) from rfl, show nI 6 = (6 : Int32) from rfl, show nI 7 = (7 : Int32) from rfl, show nI 8 = (8 : Int32) from rfl, show nI 9 = (9 : Int32) from rfl]; done))
  have v1_7 := neT (n := 7) (by decide) w1_7
  by_cases w1_8 : x = nI 8
  · have hT1 : (x).toInt = 8 := by rw [w1_8]; decide
    refine V_tableIn (pc := 1) 120 d_X11_count_1 (by omega) (by omega) (by rw [hT1]; rfl) (by decide) ?_
    refine V_aload_n (pc := 120) d_X11_count_120 rfl ?_
    refine P_getR (pc := 121) d_X11_count_121 f_X11_10 (tt_3 b) (rr_3_0 b) ?_
    refine V_cvI (pc := 124) (n := 2) (c := 4) [] d_X11_count_124 c_X11_313 k_X4_isNight ⟨rfl, rfl⟩ (tt_4 b) rfl (Nat.le_of_ble_eq_true rfl) ⟨Nat.le_of_ble_eq_true rfl, Nat.le_of_ble_eq_true rfl⟩ ⟨Nat.le_refl _, Nat.le_refl _⟩ (ct_X4_isNight rq hq2 ?_)
    refine V_if_eq (pc := 127) 134 d_X11_count_127 (by decide) (fun c127 => ?_) (fun c127 => ?_)
    · replace c127 := zf c127
      refine V_iconst (pc := 134) (0) d_X11_count_134 (by decide) ?_
      exact V_retI (pc := 135) d_X11_count_135 rfl ⟨Nat.le_refl _, Nat.le_refl _⟩ (by first | simpa (disch := omega) [-Int.not_lt, -Int.not_le, nI_eq, nI_eq0, nI_eq1, nI_e0n, nI_e1n, cntQ, rns, rnb, rnl, rnt, rnr, rq, h9, h30, w1_0, w1_1, w1_2, w1_3, w1_4, w1_5, w1_6, w1_7, w1_8, c127] using hq | (exfalso; simp_all [show nI 2 = (2 : Int32) from rfl, show nI 3 = (3 : Int32) from rfl, show nI 4 = (4 : Int32) from rfl, show nI 5 = (5 : Int32) from rfl, show nI 6 = (6 : Int32) from rfl, show nI 7 = (7 : Int32) from rfl, show nI 8 = (8 : Int32) from rfl, show nI 9 = (9 : Int32) from rfl]; done))
    · replace c127 := zt c127
      refine V_iconst (pc := 130) (1) d_X11_count_130 (by decide) ?_
      refine V_goto (pc := 131) 135 d_X11_count_131 (by decide) ?_
      exact V_retI (pc := 135) d_X11_count_135 rfl ⟨Nat.le_refl _, Nat.le_refl _⟩ (by first | simpa (disch := omega) [-Int.not_lt, -Int.not_le, nI_eq, nI_eq0, nI_eq1, nI_e0n, nI_e1n, cntQ, rns, rnb, rnl, rnt, rnr, rq, h9, h30, w1_0, w1_1, w1_2, w1_3, w1_4, w1_5, w1_6, w1_7, w1_8, c127] using hq | (exfalso; simp_all [show nI 2 = (2 : Int32) from rfl, show nI 3 = (3 : Int32) from rfl, show nI 4 = (4 : Int32) from rfl, show nI 5 = (5 : Int32) from rfl, show nI 6 = (6 : Int32) from rfl, show nI 7 = (7 : Int32) from rfl, show nI 8 = (8 : Int32) from rfl, show nI 9 = (9 : Int32) from rfl]; done))
  have v1_8 := neT (n := 8) (by decide) w1_8
  by_cases w1_9 : x = nI 9
  · have hT1 : (x).toInt = 9 := by rw [w1_9]; decide
    refine V_tableIn (pc := 1) 136 d_X11_count_1 (by omega) (by omega) (by rw [hT1]; rfl) (by decide) ?_
    refine V_aload_n (pc := 136) d_X11_count_136 rfl ?_
    refine P_getR (pc := 137) d_X11_count_137 f_X11_35 (tt_3 b) (rr_3_5 b) ?_
    refine P_getI (pc := 140) d_X11_count_140 f_X11_316 (tt_124 b) ?_
    exact V_retI (pc := 143) d_X11_count_143 rfl ⟨Nat.le_refl _, Nat.le_refl _⟩ (by first | simpa (disch := omega) [-Int.not_lt, -Int.not_le, nI_eq, nI_eq0, nI_eq1, nI_e0n, nI_e1n, cntQ, rns, rnb, rnl, rnt, rnr, rq, h9, h30, w1_0, w1_1, w1_2, w1_3, w1_4, w1_5, w1_6, w1_7, w1_8, w1_9] using hq | (exfalso; simp_all [show nI 2 = (2 : Int32) from rfl, show nI 3 = (3 : Int32) from rfl, show nI 4 = (4 : Int32) from rfl, show nI 5 = (5 : Int32) from rfl, show nI 6 = (6 : Int32) from rfl, show nI 7 = (7 : Int32) from rfl, show nI 8 = (8 : Int32) from rfl, show nI 9 = (9 : Int32) from rfl]; done))
  have v1_9 := neT (n := 9) (by decide) w1_9
  refine V_tableOut (pc := 1) 144 d_X11_count_1 (by omega) (by decide) ?_
  refine V_iconst (pc := 144) (-1) d_X11_count_144 (by decide) ?_
  exact V_retI (pc := 145) d_X11_count_145 rfl ⟨Nat.le_refl _, Nat.le_refl _⟩ (by first | simpa (disch := omega) [-Int.not_lt, -Int.not_le, nI_eq, nI_eq0, nI_eq1, nI_e0n, nI_e1n, cntQ, rns, rnb, rnl, rnt, rnr, rq, h9, h30, w1_0, w1_1, w1_2, w1_3, w1_4, w1_5, w1_6, w1_7, w1_8, w1_9] using hq | (exfalso; simp_all [show nI 2 = (2 : Int32) from rfl, show nI 3 = (3 : Int32) from rfl, show nI 4 = (4 : Int32) from rfl, show nI 5 = (5 : Int32) from rfl, show nI 6 = (6 : Int32) from rfl, show nI 7 = (7 : Int32) from rfl, show nI 8 = (8 : Int32) from rfl, show nI 9 = (9 : Int32) from rfl]; done))
theorem ct_X12_count {x : Int32} {ρ : Sg} {q ns nb nl nt nr : Nat} (hR : RR ρ 4 σ q ns nb nl nt nr) (hq : K (cntQ σ q ns nb nl nt nr x) (σ, sh b)) : CM G mX12_count (rl 2) [.ref 139, .int x] (σ, sh b) (QI K) := by
  obtain ⟨⟨⟨hq2, hn10, hnb, hnl, hnt, hnr⟩, ⟨vq, vns, vnb, vnl, vnt, vnr⟩, ⟨rq, rns, rnb, rnl, rnt, rnr⟩, hpd⟩, hH, hC, hS, hLD, hB, hA, hT, hU⟩ := hR
  refine CM.of (by decide) (Nat.le_of_ble_eq_true rfl) (cats1 rfl) ?_
  refine V_iconst (pc := 0) (0) d_X12_count_0 (by decide) ?_
  refine V_istore_n (pc := 1) d_X12_count_1 (by decide) ?_
  refine V_iload_n (pc := 2) d_X12_count_2 rfl ?_
  by_cases w3_0 : x = 0
  · have hT3 : (x).toInt = 0 := by rw [w3_0]; decide
    refine V_tableIn (pc := 3) 56 d_X12_count_3 (by omega) (by omega) (by rw [hT3]; rfl) (by decide) ?_
    refine V_aload_n (pc := 56) d_X12_count_56 rfl ?_
    refine P_getI (pc := 57) d_X12_count_57 f_X12_171 (tt_139 b) ?_
    exact V_retI (pc := 60) d_X12_count_60 rfl ⟨Nat.le_refl _, Nat.le_refl _⟩ (by first | simpa (disch := omega) [-Int.not_lt, -Int.not_le, nI_eq, nI_eq0, nI_eq1, nI_e0n, nI_e1n, cntQ, vns, vnb, vnl, vnt, vnr, vq, w3_0] using hq | (exfalso; simp_all [show nI 2 = (2 : Int32) from rfl, show nI 3 = (3 : Int32) from rfl, show nI 4 = (4 : Int32) from rfl, show nI 5 = (5 : Int32) from rfl, show nI 6 = (6 : Int32) from rfl, show nI 7 = (7 : Int32) from rfl, show nI 8 = (8 : Int32) from rfl, show nI 9 = (9 : Int32) from rfl]; done))
  have v3_0 := neT (n := 0) (by decide) w3_0
  by_cases w3_1 : x = 1
  · have hT3 : (x).toInt = 1 := by rw [w3_1]; decide
    refine V_tableIn (pc := 3) 61 d_X12_count_3 (by omega) (by omega) (by rw [hT3]; rfl) (by decide) ?_
    refine V_aload_n (pc := 61) d_X12_count_61 rfl ?_
    refine P_getI (pc := 62) d_X12_count_62 f_X12_178 (tt_139 b) ?_
    exact V_retI (pc := 65) d_X12_count_65 rfl ⟨Nat.le_refl _, Nat.le_refl _⟩ (by first | simpa (disch := omega) [-Int.not_lt, -Int.not_le, nI_eq, nI_eq0, nI_eq1, nI_e0n, nI_e1n, cntQ, vns, vnb, vnl, vnt, vnr, vq, w3_0, w3_1] using hq | (exfalso; simp_all [show nI 2 = (2 : Int32) from rfl, show nI 3 = (3 : Int32) from rfl, show nI 4 = (4 : Int32) from rfl, show nI 5 = (5 : Int32) from rfl, show nI 6 = (6 : Int32) from rfl, show nI 7 = (7 : Int32) from rfl, show nI 8 = (8 : Int32) from rfl, show nI 9 = (9 : Int32) from rfl]; done))
  have v3_1 := neT (n := 1) (by decide) w3_1
  by_cases w3_2 : x = nI 2
  · have hT3 : (x).toInt = 2 := by rw [w3_2]; decide
    refine V_tableIn (pc := 3) 66 d_X12_count_3 (by omega) (by omega) (by rw [hT3]; rfl) (by decide) ?_
    refine V_aload_n (pc := 66) d_X12_count_66 rfl ?_
    refine P_getI (pc := 67) d_X12_count_67 f_X12_181 (tt_139 b) ?_
    exact V_retI (pc := 70) d_X12_count_70 rfl ⟨Nat.le_refl _, Nat.le_refl _⟩ (by first | simpa (disch := omega) [-Int.not_lt, -Int.not_le, nI_eq, nI_eq0, nI_eq1, nI_e0n, nI_e1n, cntQ, vns, vnb, vnl, vnt, vnr, vq, w3_0, w3_1, w3_2] using hq | (exfalso; simp_all [show nI 2 = (2 : Int32) from rfl, show nI 3 = (3 : Int32) from rfl, show nI 4 = (4 : Int32) from rfl, show nI 5 = (5 : Int32) from rfl, show nI 6 = (6 : Int32) from rfl, show nI 7 = (7 : Int32) from rfl, show nI 8 = (8 : Int32) from rfl, show nI 9 = (9 : Int32) from rfl]; done))
  have v3_2 := neT (n := 2) (by decide) w3_2
  by_cases w3_3 : x = nI 3
  · have hT3 : (x).toInt = 3 := by rw [w3_3]; decide
    refine V_tableIn (pc := 3) 71 d_X12_count_3 (by omega) (by omega) (by rw [hT3]; rfl) (by decide) ?_
    refine V_aload_n (pc := 71) d_X12_count_71 rfl ?_
    refine P_getI (pc := 72) d_X12_count_72 f_X12_287 (tt_139 b) ?_
    exact V_retI (pc := 75) d_X12_count_75 rfl ⟨Nat.le_refl _, Nat.le_refl _⟩ (by first | simpa (disch := omega) [-Int.not_lt, -Int.not_le, nI_eq, nI_eq0, nI_eq1, nI_e0n, nI_e1n, cntQ, vns, vnb, vnl, vnt, vnr, vq, w3_0, w3_1, w3_2, w3_3] using hq | (exfalso; simp_all [show nI 2 = (2 : Int32) from rfl, show nI 3 = (3 : Int32) from rfl, show nI 4 = (4 : Int32) from rfl, show nI 5 = (5 : Int32) from rfl, show nI 6 = (6 : Int32) from rfl, show nI 7 = (7 : Int32) from rfl, show nI 8 = (8 : Int32) from rfl, show nI 9 = (9 : Int32) from rfl]; done))
  have v3_3 := neT (n := 3) (by decide) w3_3
  by_cases w3_4 : x = nI 4
  · have hT3 : (x).toInt = 4 := by rw [w3_4]; decide
    refine V_tableIn (pc := 3) 76 d_X12_count_3 (by omega) (by omega) (by rw [hT3]; rfl) (by decide) ?_
    refine V_aload_n (pc := 76) d_X12_count_76 rfl ?_
    refine P_getI (pc := 77) d_X12_count_77 f_X12_296 (tt_139 b) ?_
    exact V_retI (pc := 80) d_X12_count_80 rfl ⟨Nat.le_refl _, Nat.le_refl _⟩ (by first | simpa (disch := omega) [-Int.not_lt, -Int.not_le, nI_eq, nI_eq0, nI_eq1, nI_e0n, nI_e1n, cntQ, vns, vnb, vnl, vnt, vnr, vq, w3_0, w3_1, w3_2, w3_3, w3_4] using hq | (exfalso; simp_all [show nI 2 = (2 : Int32) from rfl, show nI 3 = (3 : Int32) from rfl, show nI 4 = (4 : Int32) from rfl, show nI 5 = (5 : Int32) from rfl, show nI 6 = (6 : Int32) from rfl, show nI 7 = (7 : Int32) from rfl, show nI 8 = (8 : Int32) from rfl, show nI 9 = (9 : Int32) from rfl]; done))
  have v3_4 := neT (n := 4) (by decide) w3_4
  by_cases w3_5 : x = nI 5
  · have hT3 : (x).toInt = 5 := by rw [w3_5]; decide
    refine V_tableIn (pc := 3) 81 d_X12_count_3 (by omega) (by omega) (by rw [hT3]; rfl) (by decide) ?_
    refine V_aload_n (pc := 81) d_X12_count_81 rfl ?_
    refine P_getI (pc := 82) d_X12_count_82 f_X12_184 (tt_139 b) ?_
    exact V_retI (pc := 85) d_X12_count_85 rfl ⟨Nat.le_refl _, Nat.le_refl _⟩ (by first | simpa (disch := omega) [-Int.not_lt, -Int.not_le, nI_eq, nI_eq0, nI_eq1, nI_e0n, nI_e1n, cntQ, vns, vnb, vnl, vnt, vnr, vq, w3_0, w3_1, w3_2, w3_3, w3_4, w3_5] using hq | (exfalso; simp_all [show nI 2 = (2 : Int32) from rfl, show nI 3 = (3 : Int32) from rfl, show nI 4 = (4 : Int32) from rfl, show nI 5 = (5 : Int32) from rfl, show nI 6 = (6 : Int32) from rfl, show nI 7 = (7 : Int32) from rfl, show nI 8 = (8 : Int32) from rfl, show nI 9 = (9 : Int32) from rfl]; done))
  have v3_5 := neT (n := 5) (by decide) w3_5
  by_cases w3_6 : x = nI 6
  · have hT3 : (x).toInt = 6 := by rw [w3_6]; decide
    refine V_tableIn (pc := 3) 86 d_X12_count_3 (by omega) (by omega) (by rw [hT3]; rfl) (by decide) ?_
    refine V_aload_n (pc := 86) d_X12_count_86 rfl ?_
    refine P_getI (pc := 87) d_X12_count_87 f_X12_244 (tt_139 b) ?_
    exact V_retI (pc := 90) d_X12_count_90 rfl ⟨Nat.le_refl _, Nat.le_refl _⟩ (by first | simpa (disch := omega) [-Int.not_lt, -Int.not_le, nI_eq, nI_eq0, nI_eq1, nI_e0n, nI_e1n, cntQ, vns, vnb, vnl, vnt, vnr, vq, w3_0, w3_1, w3_2, w3_3, w3_4, w3_5, w3_6] using hq | (exfalso; simp_all [show nI 2 = (2 : Int32) from rfl, show nI 3 = (3 : Int32) from rfl, show nI 4 = (4 : Int32) from rfl, show nI 5 = (5 : Int32) from rfl, show nI 6 = (6 : Int32) from rfl, show nI 7 = (7 : Int32) from rfl, show nI 8 = (8 : Int32) from rfl, show nI 9 = (9 : Int32) from rfl]; done))
  have v3_6 := neT (n := 6) (by decide) w3_6
  by_cases w3_7 : x = nI 7
  · have hT3 : (x).toInt = 7 := by rw [w3_7]; decide
    refine V_tableIn (pc := 3) 91 d_X12_count_3 (by omega) (by omega) (by rw [hT3]; rfl) (by decide) ?_
    refine V_iconst (pc := 91) (0) d_X12_count_91 (by decide) ?_
    refine V_istore_n (pc := 92) d_X12_count_92 (by decide) ?_
    refine lp_agM vnb (by omega) ?_ nb (Nat.le_refl _) 0 (by omega)
    refine V_iload_n (pc := 125) d_X12_count_125 rfl ?_
    exact V_retI (pc := 126) d_X12_count_126 rfl ⟨Nat.le_refl _, Nat.le_refl _⟩ (by first | simpa (disch := omega) [-Int.not_lt, -Int.not_le, nI_eq, nI_eq0, nI_eq1, nI_e0n, nI_e1n, cntQ, w3_0, w3_1, w3_2, w3_3, w3_4, w3_5, w3_6, w3_7] using hq | (exfalso; simp_all [show nI 2 = (2 : Int32) from rfl, show nI 3 = (3 : Int32) from rfl, show nI 4 = (4 : Int32) from rfl, show nI 5 = (5 : Int32) from rfl, show nI 6 = (6 : Int32) from rfl, show nI 7 = (7 : Int32) from rfl, show nI 8 = (8 : Int32) from rfl, show nI 9 = (9 : Int32) from rfl]; done))
  have v3_7 := neT (n := 7) (by decide) w3_7
  by_cases w3_8 : x = nI 8
  · have hT3 : (x).toInt = 8 := by rw [w3_8]; decide
    refine V_tableIn (pc := 3) 127 d_X12_count_3 (by omega) (by omega) (by rw [hT3]; rfl) (by decide) ?_
    refine V_aload_n (pc := 127) d_X12_count_127 rfl ?_
    refine V_cvI (pc := 128) (n := 1) (c := 12) [] d_X12_count_128 c_X12_221 k_X12_isNight ⟨rfl, rfl⟩ (tt_139 b) rfl (Nat.le_of_ble_eq_true rfl) ⟨Nat.le_of_ble_eq_true rfl, Nat.le_of_ble_eq_true rfl⟩ ⟨Nat.le_refl _, Nat.le_refl _⟩ (ct_X12_isNight vq hq2 ?_)
    refine V_if_eq (pc := 131) 138 d_X12_count_131 (by decide) (fun c131 => ?_) (fun c131 => ?_)
    · replace c131 := zf c131
      refine V_iconst (pc := 138) (0) d_X12_count_138 (by decide) ?_
      exact V_retI (pc := 139) d_X12_count_139 rfl ⟨Nat.le_refl _, Nat.le_refl _⟩ (by first | simpa (disch := omega) [-Int.not_lt, -Int.not_le, nI_eq, nI_eq0, nI_eq1, nI_e0n, nI_e1n, cntQ, vns, vnb, vnl, vnt, vnr, vq, w3_0, w3_1, w3_2, w3_3, w3_4, w3_5, w3_6, w3_7, w3_8, c131] using hq | (exfalso; simp_all [show nI 2 = (2 : Int32) from rfl, show nI 3 = (3 : Int32) from rfl, show nI 4 = (4 : Int32) from rfl, show nI 5 = (5 : Int32) from rfl, show nI 6 = (6 : Int32) from rfl, show nI 7 = (7 : Int32) from rfl, show nI 8 = (8 : Int32) from rfl, show nI 9 = (9 : Int32) from rfl]; done))
    · replace c131 := zt c131
      refine V_iconst (pc := 134) (1) d_X12_count_134 (by decide) ?_
      refine V_goto (pc := 135) 139 d_X12_count_135 (by decide) ?_
      exact V_retI (pc := 139) d_X12_count_139 rfl ⟨Nat.le_refl _, Nat.le_refl _⟩ (by first | simpa (disch := omega) [-Int.not_lt, -Int.not_le, nI_eq, nI_eq0, nI_eq1, nI_e0n, nI_e1n, cntQ, vns, vnb, vnl, vnt, vnr, vq, w3_0, w3_1, w3_2, w3_3, w3_4, w3_5, w3_6, w3_7, w3_8, c131] using hq | (exfalso; simp_all [show nI 2 = (2 : Int32) from rfl, show nI 3 = (3 : Int32) from rfl, show nI 4 = (4 : Int32) from rfl, show nI 5 = (5 : Int32) from rfl, show nI 6 = (6 : Int32) from rfl, show nI 7 = (7 : Int32) from rfl, show nI 8 = (8 : Int32) from rfl, show nI 9 = (9 : Int32) from rfl]; done))
  have v3_8 := neT (n := 8) (by decide) w3_8
  by_cases w3_9 : x = nI 9
  · have hT3 : (x).toInt = 9 := by rw [w3_9]; decide
    refine V_tableIn (pc := 3) 140 d_X12_count_3 (by omega) (by omega) (by rw [hT3]; rfl) (by decide) ?_
    refine V_aload_n (pc := 140) d_X12_count_140 rfl ?_
    refine P_getI (pc := 141) d_X12_count_141 f_X12_317 (tt_139 b) ?_
    exact V_retI (pc := 144) d_X12_count_144 rfl ⟨Nat.le_refl _, Nat.le_refl _⟩ (by first | simpa (disch := omega) [-Int.not_lt, -Int.not_le, nI_eq, nI_eq0, nI_eq1, nI_e0n, nI_e1n, cntQ, vns, vnb, vnl, vnt, vnr, vq, w3_0, w3_1, w3_2, w3_3, w3_4, w3_5, w3_6, w3_7, w3_8, w3_9] using hq | (exfalso; simp_all [show nI 2 = (2 : Int32) from rfl, show nI 3 = (3 : Int32) from rfl, show nI 4 = (4 : Int32) from rfl, show nI 5 = (5 : Int32) from rfl, show nI 6 = (6 : Int32) from rfl, show nI 7 = (7 : Int32) from rfl, show nI 8 = (8 : Int32) from rfl, show nI 9 = (9 : Int32) from rfl]; done))
  have v3_9 := neT (n := 9) (by decide) w3_9
  refine V_tableOut (pc := 3) 145 d_X12_count_3 (by omega) (by decide) ?_
  refine V_iconst (pc := 145) (-1) d_X12_count_145 (by decide) ?_
  exact V_retI (pc := 146) d_X12_count_146 rfl ⟨Nat.le_refl _, Nat.le_refl _⟩ (by first | simpa (disch := omega) [-Int.not_lt, -Int.not_le, nI_eq, nI_eq0, nI_eq1, nI_e0n, nI_e1n, cntQ, vns, vnb, vnl, vnt, vnr, vq, w3_0, w3_1, w3_2, w3_3, w3_4, w3_5, w3_6, w3_7, w3_8, w3_9] using hq | (exfalso; simp_all [show nI 2 = (2 : Int32) from rfl, show nI 3 = (3 : Int32) from rfl, show nI 4 = (4 : Int32) from rfl, show nI 5 = (5 : Int32) from rfl, show nI 6 = (6 : Int32) from rfl, show nI 7 = (7 : Int32) from rfl, show nI 8 = (8 : Int32) from rfl, show nI 9 = (9 : Int32) from rfl]; done))
theorem pr_count {x : Int32} (h : Rel σ b) : PR G mX11_count mX12_count 3 2 [.int x] σ b := by
  have h0 := h
  obtain ⟨q, ns, nb, nl, nt, nr, hR, hX, hP, hQ, hK⟩ := h
  obtain ⟨n, p0, p1, p2, p3⟩ := id hP
  exact ct_X11_count hR (p1.trans p2.symm) hR.1.2.2.2 (⟨rfl, ct_X12_count hR ⟨rfl, σ, rfl, h0⟩⟩)
theorem ct_X11_trace {x : Int32} {n : Nat} (hn : n ≤ 50) (h0 : σ 124 0 = nI n) (h1 : ∀ j, j < n → σ 125 j = σ 187 j) (hq : K (trcQ σ n x) (σ, sh b)) : CM G mX11_trace (rl 2) [.ref 3, .int x] (σ, sh b) (QI K) := by
  refine CM.of (by decide) (Nat.le_of_ble_eq_true rfl) (cats1 rfl) ?_
  refine V_iload_n (pc := 0) d_X11_trace_0 rfl ?_
  refine V_iconst (pc := 1) (0) d_X11_trace_1 (by decide) ?_
  refine V_aload_n (pc := 2) d_X11_trace_2 rfl ?_
  refine P_getR (pc := 3) d_X11_trace_3 f_X11_35 (tt_3 b) (rr_3_5 b) ?_
  refine P_getI (pc := 6) d_X11_trace_6 f_X11_316 (tt_124 b) ?_
  refine V_iconst (pc := 9) (1) d_X11_trace_9 (by decide) ?_
  refine V_isub (pc := 10) d_X11_trace_10 ?_
  refine V_csI (pc := 11) (n := 1) [_, _, _] d_X11_trace_11 c_X11_51 k_X11_isWithin rfl (Nat.le_of_ble_eq_true rfl) ⟨Nat.le_of_ble_eq_true rfl, Nat.le_of_ble_eq_true rfl⟩ ⟨Nat.le_refl _, Nat.le_refl _⟩ (ct_X11_isWithin (lo := 0) (hi := (n : Int) - 1) (by decide) (cntm1 h0 (by omega)) ?_)
  refine V_if_eq (pc := 14) 29 d_X11_trace_14 (by decide) (fun c14 => ?_) (fun c14 => ?_)
  · replace c14 := zf c14
    refine V_iconst (pc := 29) (-1) d_X11_trace_29 (by decide) ?_
    exact V_retI (pc := 30) d_X11_trace_30 rfl ⟨Nat.le_refl _, Nat.le_refl _⟩ (by simp (disch := omega) only [trcQ, c14, nI_clamp, if_true, if_false, and_self, and_true, true_and, and_false, false_and, not_true_eq_false, not_false_eq_true, reduceIte] at hq; exact hq)
  · replace c14 := zt c14
    obtain ⟨j, hj, rfl, -⟩ := nat_of (n := n) c14.1 (by omega) (by omega)
    refine V_aload_n (pc := 17) d_X11_trace_17 rfl ?_
    refine P_getR (pc := 18) d_X11_trace_18 f_X11_35 (tt_3 b) (rr_3_5 b) ?_
    refine P_getR (pc := 21) d_X11_trace_21 f_X11_322 (tt_124 b) (rr_124_1 b) ?_
    refine V_iload_n (pc := 24) d_X11_trace_24 rfl ?_
    refine P_iald (pc := 25) (j) d_X11_trace_25 (tt_125 b) rfl (ln_of (ll_125 b) ⟨by omega, by decide⟩) ?_
    rw [h1 j hj]
    refine V_goto (pc := 26) 30 d_X11_trace_26 (by decide) ?_
    exact V_retI (pc := 30) d_X11_trace_30 rfl ⟨Nat.le_refl _, Nat.le_refl _⟩ (by simp (disch := omega) only [trcQ, c14, nI_clamp, if_true, if_false, and_self, and_true, true_and, and_false, false_and, not_true_eq_false, not_false_eq_true, reduceIte] at hq; exact hq)
theorem ct_X12_trace {x : Int32} {n : Nat} (hn : n ≤ 50) (h0 : σ 139 59 = nI n) (hq : K (trcQ σ n x) (σ, sh b)) : CM G mX12_trace (rl 2) [.ref 139, .int x] (σ, sh b) (QI K) := by
  refine CM.of (by decide) (Nat.le_of_ble_eq_true rfl) (cats1 rfl) ?_
  refine V_iload_n (pc := 0) d_X12_trace_0 rfl ?_
  refine V_iconst (pc := 1) (0) d_X12_trace_1 (by decide) ?_
  refine V_aload_n (pc := 2) d_X12_trace_2 rfl ?_
  refine P_getI (pc := 3) d_X12_trace_3 f_X12_317 (tt_139 b) ?_
  rw [h0]
  refine V_bipush (pc := 6) (nI 50) d_X12_trace_6 (by decide) ?_
  refine B_icmp_ge (pc := 8) 18 d_X12_trace_8 (by decide) (fun c8 => ?_) (fun c8 => ?_)
  · simp (disch := omega) only [show (nI 50).toInt = 50 from by decide, nI_toInt, ti0, ti1, tim1, tim20, tim1000] at c8
    refine V_bipush (pc := 18) (nI 50) d_X12_trace_18 (by decide) ?_
    refine V_iconst (pc := 20) (1) d_X12_trace_20 (by decide) ?_
    refine V_isub (pc := 21) d_X12_trace_21 ?_
    refine V_csI (pc := 22) (n := 1) [_, _, _] d_X12_trace_22 c_X12_174 k_X12_in rfl (Nat.le_of_ble_eq_true rfl) ⟨Nat.le_of_ble_eq_true rfl, Nat.le_of_ble_eq_true rfl⟩ ⟨Nat.le_refl _, Nat.le_refl _⟩ (ct_X12_in (lo := 0) (hi := (n : Int) - 1) (by decide) (by first | exact cntm1 rfl (by omega) | (cases (show n = 50 from by omega); decide)) ?_)
    refine V_if_eq (pc := 25) 37 d_X12_trace_25 (by decide) (fun c25 => ?_) (fun c25 => ?_)
    · replace c25 := zf c25
      refine V_iconst (pc := 37) (-1) d_X12_trace_37 (by decide) ?_
      exact V_retI (pc := 38) d_X12_trace_38 rfl ⟨Nat.le_refl _, Nat.le_refl _⟩ (by simp (disch := omega) only [trcQ, c8, c25, nI_clamp, if_true, if_false, and_self, and_true, true_and, and_false, false_and, not_true_eq_false, not_false_eq_true, reduceIte] at hq; exact hq)
    · replace c25 := zt c25
      obtain ⟨j, hj, rfl, -⟩ := nat_of (n := n) c25.1 (by omega) (by omega)
      refine V_aload_n (pc := 28) d_X12_trace_28 rfl ?_
      refine P_getR (pc := 29) d_X12_trace_29 f_X12_152 (tt_139 b) (rr_139_58 b) ?_
      refine V_iload_n (pc := 32) d_X12_trace_32 rfl ?_
      refine P_iald (pc := 33) (j) d_X12_trace_33 (tt_187 b) rfl (ln_of (ll_187 b) ⟨by omega, by decide⟩) ?_
      refine V_goto (pc := 34) 38 d_X12_trace_34 (by decide) ?_
      exact V_retI (pc := 38) d_X12_trace_38 rfl ⟨Nat.le_refl _, Nat.le_refl _⟩ (by simp (disch := omega) only [trcQ, c8, c25, nI_clamp, if_true, if_false, and_self, and_true, true_and, and_false, false_and, not_true_eq_false, not_false_eq_true, reduceIte] at hq; exact hq)
  · simp (disch := omega) only [show (nI 50).toInt = 50 from by decide, nI_toInt, ti0, ti1, tim1, tim20, tim1000] at c8
    refine V_aload_n (pc := 11) d_X12_trace_11 rfl ?_
    refine P_getI (pc := 12) d_X12_trace_12 f_X12_317 (tt_139 b) ?_
    rw [h0]
    refine V_goto (pc := 15) 20 d_X12_trace_15 (by decide) ?_
    refine V_iconst (pc := 20) (1) d_X12_trace_20 (by decide) ?_
    refine V_isub (pc := 21) d_X12_trace_21 ?_
    refine V_csI (pc := 22) (n := 1) [_, _, _] d_X12_trace_22 c_X12_174 k_X12_in rfl (Nat.le_of_ble_eq_true rfl) ⟨Nat.le_of_ble_eq_true rfl, Nat.le_of_ble_eq_true rfl⟩ ⟨Nat.le_refl _, Nat.le_refl _⟩ (ct_X12_in (lo := 0) (hi := (n : Int) - 1) (by decide) (by first | exact cntm1 rfl (by omega) | (cases (show n = 50 from by omega); decide)) ?_)
    refine V_if_eq (pc := 25) 37 d_X12_trace_25 (by decide) (fun c25 => ?_) (fun c25 => ?_)
    · replace c25 := zf c25
      refine V_iconst (pc := 37) (-1) d_X12_trace_37 (by decide) ?_
      exact V_retI (pc := 38) d_X12_trace_38 rfl ⟨Nat.le_refl _, Nat.le_refl _⟩ (by simp (disch := omega) only [trcQ, c8, c25, nI_clamp, if_true, if_false, and_self, and_true, true_and, and_false, false_and, not_true_eq_false, not_false_eq_true, reduceIte] at hq; exact hq)
    · replace c25 := zt c25
      obtain ⟨j, hj, rfl, -⟩ := nat_of (n := n) c25.1 (by omega) (by omega)
      refine V_aload_n (pc := 28) d_X12_trace_28 rfl ?_
      refine P_getR (pc := 29) d_X12_trace_29 f_X12_152 (tt_139 b) (rr_139_58 b) ?_
      refine V_iload_n (pc := 32) d_X12_trace_32 rfl ?_
      refine P_iald (pc := 33) (j) d_X12_trace_33 (tt_187 b) rfl (ln_of (ll_187 b) ⟨by omega, by decide⟩) ?_
      refine V_goto (pc := 34) 38 d_X12_trace_34 (by decide) ?_
      exact V_retI (pc := 38) d_X12_trace_38 rfl ⟨Nat.le_refl _, Nat.le_refl _⟩ (by simp (disch := omega) only [trcQ, c8, c25, nI_clamp, if_true, if_false, and_self, and_true, true_and, and_false, false_and, not_true_eq_false, not_false_eq_true, reduceIte] at hq; exact hq)
theorem pr_trace {x : Int32} (h : Rel σ b) : PR G mX11_trace mX12_trace 2 2 [.int x] σ b := by
  have h0 := h
  obtain ⟨q, ns, nb, nl, nt, nr, hR, hX, hP, hQ, hK⟩ := h
  obtain ⟨n, p0, p1, p2, p3⟩ := id hP
  exact ct_X11_trace p0 p1 p3 (⟨rfl, ct_X12_trace p0 p2 ⟨rfl, σ, rfl, h0⟩⟩)
end HC
