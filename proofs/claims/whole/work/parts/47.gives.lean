theorem aboS_nat {σ V : Sg} {ns nb nl i : Nat} (h : cA σ 4 V ns nb nl) : ∀ n, n ≤ nl → ∃ m, m ≤ 200 * n ∧ aboS V i n = nI m
  | 0, _ => ⟨0, by omega, rfl⟩
  | n + 1, hn => by
    obtain ⟨m, hm, em⟩ := aboS_nat h n (by omega)
    obtain ⟨x, h1, h2, e⟩ := (h n (by omega)).2.2.1
    rw [aboS_s, em, e]
    by_cases c : V 163 n = 1 ∧ V 164 n = nI i
    · rw [if_pos c, nI_add]; exact ⟨_, by omega, rfl⟩
    · rw [if_neg c, Int32.add_zero]; exact ⟨_, by omega, rfl⟩
theorem draS_nat {σ V : Sg} {ns nb nl i : Nat} (hA : cA σ 4 V ns nb nl) (hB : cB σ 4 V ns nb nl) (hi : i < nb) (hl : nl ≤ 12) : ∃ m, m < 1000 ∧ draS V i nl = nI m := by
  obtain ⟨m, hm, em⟩ := aboS_nat (i := i) hA nl (Nat.le_refl _)
  obtain ⟨x, h1, h2, e⟩ := (hB i hi).2.1
  rw [draS, em, e, pk_div (by omega) (by decide) (by decide), nI_add]
  exact ⟨_, by omega, rfl⟩
def tlS (V : Sg) (nl r a c : Nat) (u w : Int32) : Int32 := if V 169 r = 0 then (if u = w then -1 else if u = 0 then nI c else nI a) else if V 169 r = 1 then (if draS V a nl = draS V c nl then -1 else if (draS V a nl).toInt < (draS V c nl).toInt then nI a else nI c) else (if a < c then nI c else nI a)
def inR (V : Sg) (d k r : Nat) : Prop := ((V 170 r).toInt ≤ (nI d).toInt ∧ (nI d).toInt ≤ (V 171 r).toInt) ∧ (V 168 r = 0 ∨ V 140 k = V 168 r ∨ (V 168 r = 1 ∧ V 140 k = nI 3))
/-- the rules from place m - n on -/
def gvS (V : Sg) (nl d k a c m : Nat) (u w : Int32) : Nat → Int32
  | 0 => -1
  | n + 1 => if ((V 170 (m - (n + 1))).toInt ≤ (nI d).toInt ∧ (nI d).toInt ≤ (V 171 (m - (n + 1))).toInt) ∧ (V 168 (m - (n + 1)) = 0 ∨ V 140 k = V 168 (m - (n + 1)) ∨ (V 168 (m - (n + 1)) = 1 ∧ V 140 k = nI 3)) then (if tlS V nl (m - (n + 1)) a c u w = -1 then gvS V nl d k a c m u w n else tlS V nl (m - (n + 1)) a c u w) else gvS V nl d k a c m u w n
theorem gvS_no {V : Sg} {nl d k a c m n r : Nat} {u w : Int32} (hr : r + (n + 1) = m) (h : ¬ inR V d k r) : gvS V nl d k a c m u w (n + 1) = gvS V nl d k a c m u w n := by
  rw [gvS, show m - (n + 1) = r by omega]
  exact if_neg h
theorem gvS_y {V : Sg} {nl d k a c m n r : Nat} {u w : Int32} (hr : r + (n + 1) = m) (h : inR V d k r) : gvS V nl d k a c m u w (n + 1) = if tlS V nl r a c u w = -1 then gvS V nl d k a c m u w n else tlS V nl r a c u w := by
  rw [gvS, show m - (n + 1) = r by omega]
  exact if_pos h
def giQ (V : Sg) (q ns nb nl nr : Nat) (x y z u w : Int32) : Int32 := if (0 ≤ x.toInt ∧ x.toInt ≤ (nb : Int) - 1) ∧ (0 ≤ y.toInt ∧ y.toInt ≤ (nb : Int) - 1) ∧ ¬ x = y ∧ (0 ≤ z.toInt ∧ z.toInt ≤ (ns : Int) - 1) then gvS V nl (q / 96) z.toNatClampNeg x.toNatClampNeg y.toNatClampNeg nr u w nr else -1
section FA
variable {τ σ : Sg}
theorem tlS_ag (h : ∀ a i, 139 ≤ a → a < 192 → τ a i = σ a i) {nl r a c : Nat} {u w : Int32} : tlS τ nl r a c u w = tlS σ nl r a c u w := by
  rw [tlS, tlS, draS_ag h, draS_ag h, h 169 r (by omega) (by omega)]
theorem gvS_ag (h : ∀ a i, 139 ≤ a → a < 192 → τ a i = σ a i) {nl d k a c m : Nat} {u w : Int32} : ∀ n, gvS τ nl d k a c m u w n = gvS σ nl d k a c m u w n
  | 0 => rfl
  | n + 1 => by
    rw [gvS, gvS, gvS_ag h n, tlS_ag h, h 170 _ (by omega) (by omega), h 171 _ (by omega) (by omega), h 168 _ (by omega) (by omega), h 140 _ (by omega) (by omega)]
end FA
theorem cU_f {σ V : Sg} {nr r : Nat} (h : cU σ 4 V nr) (hr : r < nr) : σ (115 + r) 0 = V 168 r ∧ σ (115 + r) 1 = V 169 r ∧ σ (115 + r) 2 = V 170 r ∧ σ (115 + r) 3 = V 171 r := (h r hr).1
theorem nd_eq {p q : Nat} (hp : p < 1000) (hq : q < 1000) : nI p - nI q = 0 ↔ p = q := by
  rw [← Int32.toInt_inj, pk_sub_toInt (by omega) (by omega), ti0]
  omega
section HB
variable {G : Gl} {K : Int32 → Hp → Prop} {σ : Nat → Nat → Int32} {s : (Nat → Nat → Option Nat) × (Nat → Nat) × (Nat → Nat) × Nat} {a : Nat}
theorem ct_X5_isInForce {x : Int32} (hT : s.2.1 a = 6) (hq : K (if (σ a 2).toInt ≤ x.toInt ∧ x.toInt ≤ (σ a 3).toInt then 1 else 0) (σ, s)) : CM G mX5_isInForce (rl 2) [.ref a, .int x] (σ, s) (QI K) := by
  refine CM.of (by decide) (Nat.le_of_ble_eq_true rfl) (cats1 rfl) ?_
  refine V_iload_n (pc := 0) d_X5_isInForce_0 rfl ?_
  refine V_aload_n (pc := 1) d_X5_isInForce_1 rfl ?_
  refine P_getI (pc := 2) d_X5_isInForce_2 f_X5_16 hT ?_
  refine V_aload_n (pc := 5) d_X5_isInForce_5 rfl ?_
  refine P_getI (pc := 6) d_X5_isInForce_6 f_X5_19 hT ?_
  refine V_csI (pc := 9) (n := 1) [_, _, _] d_X5_isInForce_9 c_X5_26 k_X11_isWithin rfl (Nat.le_of_ble_eq_true rfl) ⟨Nat.le_of_ble_eq_true rfl, Nat.le_of_ble_eq_true rfl⟩ ⟨Nat.le_refl _, Nat.le_refl _⟩ (ct_X11_isWithin rfl rfl ?_)
  exact V_retZ (pc := 12) d_X5_isInForce_12 rfl (by first | exact Or.inl rfl | exact Or.inr rfl | exact z01) ⟨Nat.le_refl _, Nat.le_refl _⟩ hq
end HB
section HC
variable {G : Gl} {R : Room} {F : Fn} {K : Int32 → Hp → Prop} {KV : Hp → Prop} {σ : Nat → Nat → Int32} {b : Bool}
theorem ct_X11_yieldingBy {r a c : Nat} {u w : Int32} {q ns nb nl nt nr : Nat} (hR : RR σ 4 σ q ns nb nl nt nr) (ha : a < nb) (hc : c < nb) (hq : K (tlS σ nl r a c u w) (σ, sh b)) : CM G mX11_yieldingBy (rl 3) [.ref 3, .int (σ 169 r), .int (nI a), .int (nI c), .int u, .int w] (σ, sh b) (QI K) := by
  obtain ⟨⟨⟨hq2, hn10, hnb, hnl, hnt, hnr⟩, ⟨vq, vns, vnb, vnl, vnt, vnr⟩, ⟨rq, rns, rnb, rnl, rnt, rnr⟩, hpd⟩, hH, hC, hS, hLD, hB, hA, hT, hU⟩ := id hR
  refine CM.of (by decide) (Nat.le_of_ble_eq_true rfl) (cats1 rfl) ?_
  refine V_iload_n (pc := 0) d_X11_yieldingBy_0 rfl ?_
  refine V_if_ne (pc := 1) 26 d_X11_yieldingBy_1 (by decide) (fun c1 => ?_) (fun c1 => ?_)
  · refine V_iload_n (pc := 26) d_X11_yieldingBy_26 rfl ?_
    refine V_iconst (pc := 27) (1) d_X11_yieldingBy_27 (by decide) ?_
    refine V_icmp_ne (pc := 28) 83 d_X11_yieldingBy_28 (by decide) (fun c28 => ?_) (fun c28 => ?_)
    · refine V_iload_n (pc := 83) d_X11_yieldingBy_83 rfl ?_
      refine V_iload_n (pc := 84) d_X11_yieldingBy_84 rfl ?_
      refine V_csI (pc := 85) (n := 1) [_, _] d_X11_yieldingBy_85 c_X11_372 k_J_max rfl (Nat.le_of_ble_eq_true rfl) ⟨Nat.le_of_ble_eq_true rfl, Nat.le_of_ble_eq_true rfl⟩ ⟨Nat.le_refl _, Nat.le_refl _⟩ (ct_J_max ?_)
      exact V_retI (pc := 88) d_X11_yieldingBy_88 rfl ⟨Nat.le_refl _, Nat.le_refl _⟩ (by rw [tlS, if_neg c1, if_neg c28] at hq; rw [nI_toInt (by omega), nI_toInt (by omega)]; by_cases z : a < c; rw [if_pos z] at hq; rw [if_pos (by omega)]; exact hq; rw [if_neg z] at hq; rw [if_neg (by omega)]; exact hq)
    · refine V_aload_n (pc := 31) d_X11_yieldingBy_31 rfl ?_
      refine P_getR (pc := 32) d_X11_yieldingBy_32 f_X11_10 (tt_3 b) (rr_3_0 b) ?_
      refine P_getR (pc := 35) d_X11_yieldingBy_35 f_X11_113 (tt_4 b) (rr_4_12 b) ?_
      refine V_iload_n (pc := 38) d_X11_yieldingBy_38 rfl ?_
      refine P_aald (pc := 39) (c := 2) (a) d_X11_yieldingBy_39 (tt_9 b) (by decide) rfl (ln_of (ll_9 b) ⟨by omega, by decide⟩) (rB b (by omega)) ?_
      refine V_cvI (pc := 40) (n := 2) (c := 2) [] d_X11_yieldingBy_40 c_X11_156 k_X2_draught ⟨rfl, rfl⟩ (tB b (by omega)) rfl (Nat.le_of_ble_eq_true rfl) ⟨Nat.le_of_ble_eq_true rfl, Nat.le_of_ble_eq_true rfl⟩ ⟨Nat.le_refl _, Nat.le_refl _⟩ (ct_B_draught hB (by omega) hnb ?_)
      refine V_istore (pc := 43) d_X11_yieldingBy_43 (by decide) ?_
      refine V_aload_n (pc := 45) d_X11_yieldingBy_45 rfl ?_
      refine P_getR (pc := 46) d_X11_yieldingBy_46 f_X11_10 (tt_3 b) (rr_3_0 b) ?_
      refine P_getR (pc := 49) d_X11_yieldingBy_49 f_X11_113 (tt_4 b) (rr_4_12 b) ?_
      refine V_iload_n (pc := 52) d_X11_yieldingBy_52 rfl ?_
      refine P_aald (pc := 53) (c := 2) (c) d_X11_yieldingBy_53 (tt_9 b) (by decide) rfl (ln_of (ll_9 b) ⟨by omega, by decide⟩) (rB b (by omega)) ?_
      refine V_cvI (pc := 54) (n := 2) (c := 2) [] d_X11_yieldingBy_54 c_X11_156 k_X2_draught ⟨rfl, rfl⟩ (tB b (by omega)) rfl (Nat.le_of_ble_eq_true rfl) ⟨Nat.le_of_ble_eq_true rfl, Nat.le_of_ble_eq_true rfl⟩ ⟨Nat.le_refl _, Nat.le_refl _⟩ (ct_B_draught hB (by omega) hnb ?_)
      refine V_istore (pc := 57) d_X11_yieldingBy_57 (by decide) ?_
      refine V_iload (pc := 59) d_X11_yieldingBy_59 rfl ?_
      refine V_iload (pc := 61) d_X11_yieldingBy_61 rfl ?_
      refine V_icmp_ne (pc := 63) 70 d_X11_yieldingBy_63 (by decide) (fun c63 => ?_) (fun c63 => ?_)
      · refine V_iload (pc := 70) d_X11_yieldingBy_70 rfl ?_
        refine V_iload (pc := 72) d_X11_yieldingBy_72 rfl ?_
        refine B_icmp_ge (pc := 74) 81 d_X11_yieldingBy_74 (by decide) (fun c74 => ?_) (fun c74 => ?_)
        · refine V_iload_n (pc := 81) d_X11_yieldingBy_81 rfl ?_
          exact V_retI (pc := 82) d_X11_yieldingBy_82 rfl ⟨Nat.le_refl _, Nat.le_refl _⟩ (by rw [tlS, if_neg c1, if_pos c28] at hq; first | (rw [if_pos c63] at hq; exact hq) | (rw [if_neg c63, if_pos (by omega)] at hq; exact hq) | (rw [if_neg c63, if_neg (by omega)] at hq; exact hq))
        · refine V_iload_n (pc := 77) d_X11_yieldingBy_77 rfl ?_
          refine V_goto (pc := 78) 82 d_X11_yieldingBy_78 (by decide) ?_
          exact V_retI (pc := 82) d_X11_yieldingBy_82 rfl ⟨Nat.le_refl _, Nat.le_refl _⟩ (by rw [tlS, if_neg c1, if_pos c28] at hq; first | (rw [if_pos c63] at hq; exact hq) | (rw [if_neg c63, if_pos (by omega)] at hq; exact hq) | (rw [if_neg c63, if_neg (by omega)] at hq; exact hq))
      · refine V_iconst (pc := 66) (-1) d_X11_yieldingBy_66 (by decide) ?_
        refine V_goto (pc := 67) 82 d_X11_yieldingBy_67 (by decide) ?_
        exact V_retI (pc := 82) d_X11_yieldingBy_82 rfl ⟨Nat.le_refl _, Nat.le_refl _⟩ (by rw [tlS, if_neg c1, if_pos c28] at hq; first | (rw [if_pos c63] at hq; exact hq) | (rw [if_neg c63, if_pos (by omega)] at hq; exact hq) | (rw [if_neg c63, if_neg (by omega)] at hq; exact hq))
  · refine V_iload (pc := 4) d_X11_yieldingBy_4 rfl ?_
    refine V_iload (pc := 6) d_X11_yieldingBy_6 rfl ?_
    refine V_icmp_ne (pc := 8) 15 d_X11_yieldingBy_8 (by decide) (fun c8 => ?_) (fun c8 => ?_)
    · refine V_iload (pc := 15) d_X11_yieldingBy_15 rfl ?_
      refine V_if_eq (pc := 17) 24 d_X11_yieldingBy_17 (by decide) (fun c17 => ?_) (fun c17 => ?_)
      · refine V_iload_n (pc := 24) d_X11_yieldingBy_24 rfl ?_
        exact V_retI (pc := 25) d_X11_yieldingBy_25 rfl ⟨Nat.le_refl _, Nat.le_refl _⟩ (by rw [tlS, if_pos c1] at hq; first | (rw [if_pos c8] at hq; exact hq) | (rw [if_neg c8, if_pos c17] at hq; exact hq) | (rw [if_neg c8, if_neg c17] at hq; exact hq))
      · refine V_iload_n (pc := 20) d_X11_yieldingBy_20 rfl ?_
        refine V_goto (pc := 21) 25 d_X11_yieldingBy_21 (by decide) ?_
        exact V_retI (pc := 25) d_X11_yieldingBy_25 rfl ⟨Nat.le_refl _, Nat.le_refl _⟩ (by rw [tlS, if_pos c1] at hq; first | (rw [if_pos c8] at hq; exact hq) | (rw [if_neg c8, if_pos c17] at hq; exact hq) | (rw [if_neg c8, if_neg c17] at hq; exact hq))
    · refine V_iconst (pc := 11) (-1) d_X11_yieldingBy_11 (by decide) ?_
      refine V_goto (pc := 12) 25 d_X11_yieldingBy_12 (by decide) ?_
      exact V_retI (pc := 25) d_X11_yieldingBy_25 rfl ⟨Nat.le_refl _, Nat.le_refl _⟩ (by rw [tlS, if_pos c1] at hq; first | (rw [if_pos c8] at hq; exact hq) | (rw [if_neg c8, if_pos c17] at hq; exact hq) | (rw [if_neg c8, if_neg c17] at hq; exact hq))
theorem ct_X12_tells {ρ : Sg} {r a c : Nat} {u w : Int32} {q ns nb nl nt nr : Nat} (hR : RR ρ 4 σ q ns nb nl nt nr) (hr : r < nr) (ha : a < nb) (hc : c < nb) (hq : K (tlS σ nl r a c u w) (σ, sh b)) : CM G mX12_tells (rl 3) [.ref 139, .int (nI r), .int (nI a), .int (nI c), .int u, .int w] (σ, sh b) (QI K) := by
  obtain ⟨⟨⟨hq2, hn10, hnb, hnl, hnt, hnr⟩, ⟨vq, vns, vnb, vnl, vnt, vnr⟩, ⟨rq, rns, rnb, rnl, rnt, rnr⟩, hpd⟩, hH, hC, hS, hLD, hB, hA, hT, hU⟩ := id hR
  refine CM.of (by decide) (Nat.le_of_ble_eq_true rfl) (cats1 rfl) ?_
  refine V_aload_n (pc := 0) d_X12_tells_0 rfl ?_
  refine P_getR (pc := 1) d_X12_tells_1 f_X12_98 (tt_139 b) (rr_139_37 b) ?_
  refine V_iload_n (pc := 4) d_X12_tells_4 rfl ?_
  refine P_iald (pc := 5) (r) d_X12_tells_5 (tt_169 b) rfl (ln_of (ll_169 b) ⟨by omega, by decide⟩) ?_
  refine V_if_ne (pc := 6) 31 d_X12_tells_6 (by decide) (fun c6 => ?_) (fun c6 => ?_)
  · refine V_aload_n (pc := 31) d_X12_tells_31 rfl ?_
    refine P_getR (pc := 32) d_X12_tells_32 f_X12_98 (tt_139 b) (rr_139_37 b) ?_
    refine V_iload_n (pc := 35) d_X12_tells_35 rfl ?_
    refine P_iald (pc := 36) (r) d_X12_tells_36 (tt_169 b) rfl (ln_of (ll_169 b) ⟨by omega, by decide⟩) ?_
    refine V_iconst (pc := 37) (1) d_X12_tells_37 (by decide) ?_
    refine V_icmp_ne (pc := 38) 74 d_X12_tells_38 (by decide) (fun c38 => ?_) (fun c38 => ?_)
    · refine V_iload_n (pc := 74) d_X12_tells_74 rfl ?_
      refine V_iload_n (pc := 75) d_X12_tells_75 rfl ?_
      refine B_icmp_le (pc := 76) 83 d_X12_tells_76 (by decide) (fun c76 => ?_) (fun c76 => ?_)
      · simp (disch := omega) only [nI_toInt, ti0, ti1, tim1, tim20, tim1000] at c76
        refine V_iload_n (pc := 83) d_X12_tells_83 rfl ?_
        exact V_retI (pc := 84) d_X12_tells_84 rfl ⟨Nat.le_refl _, Nat.le_refl _⟩ (by rw [tlS, if_neg c6, if_neg c38] at hq; by_cases z : a < c; (rw [if_pos z] at hq; first | exact hq | (exfalso; omega)); (rw [if_neg z] at hq; first | exact hq | exact (show a = c by omega) ▸ hq))
      · simp (disch := omega) only [nI_toInt, ti0, ti1, tim1, tim20, tim1000] at c76
        refine V_iload_n (pc := 79) d_X12_tells_79 rfl ?_
        refine V_goto (pc := 80) 84 d_X12_tells_80 (by decide) ?_
        exact V_retI (pc := 84) d_X12_tells_84 rfl ⟨Nat.le_refl _, Nat.le_refl _⟩ (by rw [tlS, if_neg c6, if_neg c38] at hq; by_cases z : a < c; (rw [if_pos z] at hq; first | exact hq | (exfalso; omega)); (rw [if_neg z] at hq; first | exact hq | exact (show a = c by omega) ▸ hq))
    · refine V_aload_n (pc := 41) d_X12_tells_41 rfl ?_
      refine V_iload_n (pc := 42) d_X12_tells_42 rfl ?_
      refine V_cvI (pc := 43) (n := 2) (c := 12) [_] d_X12_tells_43 c_X12_241 k_X12_draught ⟨rfl, rfl⟩ (tt_139 b) rfl (Nat.le_of_ble_eq_true rfl) ⟨Nat.le_of_ble_eq_true rfl, Nat.le_of_ble_eq_true rfl⟩ ⟨Nat.le_refl _, Nat.le_refl _⟩ (ct_X12_draught vnl hnl (by omega) ?_)
      refine V_aload_n (pc := 46) d_X12_tells_46 rfl ?_
      refine V_iload_n (pc := 47) d_X12_tells_47 rfl ?_
      refine V_cvI (pc := 48) (n := 2) (c := 12) [_] d_X12_tells_48 c_X12_241 k_X12_draught ⟨rfl, rfl⟩ (tt_139 b) rfl (Nat.le_of_ble_eq_true rfl) ⟨Nat.le_of_ble_eq_true rfl, Nat.le_of_ble_eq_true rfl⟩ ⟨Nat.le_refl _, Nat.le_refl _⟩ (ct_X12_draught vnl hnl (by omega) ?_)
      obtain ⟨p, hp, ep⟩ := draS_nat hA hB (by omega : a < nb) hnl
      obtain ⟨g, hg, eg⟩ := draS_nat hA hB (by omega : c < nb) hnl
      rw [ep, eg]
      refine V_isub (pc := 51) d_X12_tells_51 ?_
      refine V_istore (pc := 52) d_X12_tells_52 (by decide) ?_
      refine V_iload (pc := 54) d_X12_tells_54 rfl ?_
      refine V_if_ne (pc := 56) 63 d_X12_tells_56 (by decide) (fun c56 => ?_) (fun c56 => ?_)
      · rw [nd_eq hp hg] at c56
        refine V_iload (pc := 63) d_X12_tells_63 rfl ?_
        refine B_if_ge (pc := 65) 72 d_X12_tells_65 (by decide) (fun c65 => ?_) (fun c65 => ?_)
        · rw [pk_sub_toInt (by omega) (by omega)] at c65
          refine V_iload_n (pc := 72) d_X12_tells_72 rfl ?_
          exact V_retI (pc := 73) d_X12_tells_73 rfl ⟨Nat.le_refl _, Nat.le_refl _⟩ (by rw [tlS, if_neg c6, if_pos c38, ep, eg] at hq; first | (rw [if_pos (congrArg nI c56)] at hq; exact hq) | (rw [if_neg (fun q => c56 ((nI_eq (by omega) (by omega)).mp q)), if_pos (by rw [nI_toInt (by omega), nI_toInt (by omega)]; omega)] at hq; exact hq) | (rw [if_neg (fun q => c56 ((nI_eq (by omega) (by omega)).mp q)), if_neg (by rw [nI_toInt (by omega), nI_toInt (by omega)]; omega)] at hq; exact hq))
        · rw [pk_sub_toInt (by omega) (by omega)] at c65
          refine V_iload_n (pc := 68) d_X12_tells_68 rfl ?_
          refine V_goto (pc := 69) 73 d_X12_tells_69 (by decide) ?_
          exact V_retI (pc := 73) d_X12_tells_73 rfl ⟨Nat.le_refl _, Nat.le_refl _⟩ (by rw [tlS, if_neg c6, if_pos c38, ep, eg] at hq; first | (rw [if_pos (congrArg nI c56)] at hq; exact hq) | (rw [if_neg (fun q => c56 ((nI_eq (by omega) (by omega)).mp q)), if_pos (by rw [nI_toInt (by omega), nI_toInt (by omega)]; omega)] at hq; exact hq) | (rw [if_neg (fun q => c56 ((nI_eq (by omega) (by omega)).mp q)), if_neg (by rw [nI_toInt (by omega), nI_toInt (by omega)]; omega)] at hq; exact hq))
      · rw [nd_eq hp hg] at c56
        refine V_iconst (pc := 59) (-1) d_X12_tells_59 (by decide) ?_
        refine V_goto (pc := 60) 73 d_X12_tells_60 (by decide) ?_
        exact V_retI (pc := 73) d_X12_tells_73 rfl ⟨Nat.le_refl _, Nat.le_refl _⟩ (by rw [tlS, if_neg c6, if_pos c38, ep, eg] at hq; first | (rw [if_pos (congrArg nI c56)] at hq; exact hq) | (rw [if_neg (fun q => c56 ((nI_eq (by omega) (by omega)).mp q)), if_pos (by rw [nI_toInt (by omega), nI_toInt (by omega)]; omega)] at hq; exact hq) | (rw [if_neg (fun q => c56 ((nI_eq (by omega) (by omega)).mp q)), if_neg (by rw [nI_toInt (by omega), nI_toInt (by omega)]; omega)] at hq; exact hq))
  · refine V_iload (pc := 9) d_X12_tells_9 rfl ?_
    refine V_iload (pc := 11) d_X12_tells_11 rfl ?_
    refine V_icmp_ne (pc := 13) 20 d_X12_tells_13 (by decide) (fun c13 => ?_) (fun c13 => ?_)
    · refine V_iload (pc := 20) d_X12_tells_20 rfl ?_
      refine V_if_eq (pc := 22) 29 d_X12_tells_22 (by decide) (fun c22 => ?_) (fun c22 => ?_)
      · refine V_iload_n (pc := 29) d_X12_tells_29 rfl ?_
        exact V_retI (pc := 30) d_X12_tells_30 rfl ⟨Nat.le_refl _, Nat.le_refl _⟩ (by rw [tlS, if_pos c6] at hq; first | (rw [if_pos c13] at hq; exact hq) | (rw [if_neg c13, if_pos c22] at hq; exact hq) | (rw [if_neg c13, if_neg c22] at hq; exact hq))
      · refine V_iload_n (pc := 25) d_X12_tells_25 rfl ?_
        refine V_goto (pc := 26) 30 d_X12_tells_26 (by decide) ?_
        exact V_retI (pc := 30) d_X12_tells_30 rfl ⟨Nat.le_refl _, Nat.le_refl _⟩ (by rw [tlS, if_pos c6] at hq; first | (rw [if_pos c13] at hq; exact hq) | (rw [if_neg c13, if_pos c22] at hq; exact hq) | (rw [if_neg c13, if_neg c22] at hq; exact hq))
    · refine V_iconst (pc := 16) (-1) d_X12_tells_16 (by decide) ?_
      refine V_goto (pc := 17) 30 d_X12_tells_17 (by decide) ?_
      exact V_retI (pc := 30) d_X12_tells_30 rfl ⟨Nat.le_refl _, Nat.le_refl _⟩ (by rw [tlS, if_pos c6] at hq; first | (rw [if_pos c13] at hq; exact hq) | (rw [if_neg c13, if_pos c22] at hq; exact hq) | (rw [if_neg c13, if_neg c22] at hq; exact hq))
theorem lp_gi {a c k : Nat} {u w : Int32} {q ns nb nl nt nr : Nat} (hR : RR σ 4 σ q ns nb nl nt nr) (ha : a < nb) (hc : c < nb) (hk : k < ns) : ∀ n, n ≤ nr → ∀ j, j + n = nr → ∀ z, K (gvS σ nl (q / 96) k a c nr u w n) (σ, sh b) → V G mX11_gives (rl 4) (FM G (rl 4) (QI K)) 0 0 60 [some (.ref 3), some (.int (nI a)), some (.int (nI c)), some (.int (nI k)), some (.int u), some (.int w), some (.int (σ 140 k)), some (.int (-1)), some (.int (nI j)), z] [] (σ, sh b) := by
  obtain ⟨⟨⟨hq2, hn10, hnb, hnl, hnt, hnr⟩, ⟨vq, vns, vnb, vnl, vnt, vnr⟩, ⟨rq, rns, rnb, rnl, rnt, rnr⟩, hpd⟩, hH, hC, hS, hLD, hB, hA, hT, hU⟩ := id hR
  obtain ⟨kd, hkd, ekd⟩ : rg (σ 140 k) 6 := (hS k hk).2.1
  intro n
  induction n with
  | zero =>
    intro hx j hj z hq
    obtain rfl : j = nr := by omega
    refine V_iload (pc := 60) d_X11_gives_60 rfl ?_
    refine V_aload_n (pc := 62) d_X11_gives_62 rfl ?_
    refine P_getR (pc := 63) d_X11_gives_63 f_X11_10 (tt_3 b) (rr_3_0 b) ?_
    refine P_getI (pc := 66) d_X11_gives_66 f_X11_227 (tt_4 b) ?_
    rw [rnr]
    refine B_icmp_ge (pc := 69) 141 d_X11_gives_69 (by decide) (fun c69 => ?_) (fun c69 => ?_)
    · simp (disch := omega) only [nI_toInt, ti0, ti1, tim1, tim20, tim1000] at c69
      refine V_iload (pc := 141) d_X11_gives_141 rfl ?_
      exact V_retI (pc := 143) d_X11_gives_143 rfl ⟨Nat.le_refl _, Nat.le_refl _⟩ hq
    · simp (disch := omega) only [nI_toInt, ti0, ti1, tim1, tim20, tim1000] at c69
      all_goals omega
  | succ n ih =>
    intro hx j hj z hq
    refine V_iload (pc := 60) d_X11_gives_60 rfl ?_
    refine V_aload_n (pc := 62) d_X11_gives_62 rfl ?_
    refine P_getR (pc := 63) d_X11_gives_63 f_X11_10 (tt_3 b) (rr_3_0 b) ?_
    refine P_getI (pc := 66) d_X11_gives_66 f_X11_227 (tt_4 b) ?_
    rw [rnr]
    refine B_icmp_ge (pc := 69) 141 d_X11_gives_69 (by decide) (fun c69 => ?_) (fun c69 => ?_)
    · simp (disch := omega) only [nI_toInt, ti0, ti1, tim1, tim20, tim1000] at c69
      all_goals omega
    · simp (disch := omega) only [nI_toInt, ti0, ti1, tim1, tim20, tim1000] at c69
      refine V_iload (pc := 72) d_X11_gives_72 rfl ?_
      refine V_iconst (pc := 74) (-1) d_X11_gives_74 (by decide) ?_
      refine V_icmp_ne (pc := 75) 141 d_X11_gives_75 (by decide) (fun c75 => ?_) (fun c75 => ?_)
      · exact absurd rfl c75
      · refine V_aload_n (pc := 78) d_X11_gives_78 rfl ?_
        refine P_getR (pc := 79) d_X11_gives_79 f_X11_10 (tt_3 b) (rr_3_0 b) ?_
        refine P_getR (pc := 82) d_X11_gives_82 f_X11_230 (tt_4 b) (rr_4_15 b) ?_
        refine V_iload (pc := 85) d_X11_gives_85 rfl ?_
        refine P_aald (pc := 87) (c := 5) (j) d_X11_gives_87 (tt_12 b) (by decide) rfl (ln_of (ll_12 b) ⟨by omega, by decide⟩) (rRU b (by omega)) ?_
        refine V_astore (pc := 88) d_X11_gives_88 (by decide) ?_
        refine V_aload (pc := 90) d_X11_gives_90 rfl ?_
        refine V_aload_n (pc := 92) d_X11_gives_92 rfl ?_
        refine P_getR (pc := 93) d_X11_gives_93 f_X11_10 (tt_3 b) (rr_3_0 b) ?_
        refine V_cvI (pc := 96) (n := 1) (c := 4) [] d_X11_gives_96 c_X11_180 k_X4_today ⟨rfl, rfl⟩ (tt_4 b) rfl (Nat.le_of_ble_eq_true rfl) ⟨Nat.le_of_ble_eq_true rfl, Nat.le_of_ble_eq_true rfl⟩ ⟨Nat.le_refl _, Nat.le_refl _⟩ (ct_X4_today rq hq2 ?_)
        refine V_cvI (pc := 99) (n := 2) (c := 5) [_] d_X11_gives_99 c_X11_301 k_X5_isInForce ⟨rfl, rfl⟩ (tRU b (by omega)) rfl (Nat.le_of_ble_eq_true rfl) ⟨Nat.le_of_ble_eq_true rfl, Nat.le_of_ble_eq_true rfl⟩ ⟨Nat.le_refl _, Nat.le_refl _⟩ (ct_X5_isInForce (tRU b (by omega)) ?_)
        rw [(cU_f hU (by omega : j < nr)).2.2.1, (cU_f hU (by omega : j < nr)).2.2.2]
        refine V_if_eq (pc := 102) 135 d_X11_gives_102 (by decide) (fun c102 => ?_) (fun c102 => ?_)
        · replace c102 := zf c102
          refine V_iinc (pc := 135) d_X11_gives_135 rfl (by decide) ?_
          refine V_goto (pc := 138) 60 d_X11_gives_138 (by decide) ?_
          rw [p1_s]
          first | exact ih (by omega) (j + 1) (by omega) _ (by rw [gvS_no (r := j) (by omega) (fun q => c102 q.1)] at hq; exact hq) | exact ih (by omega) (j + 1) (by omega) _ (by rw [gvS_no (r := j) (by omega) (fun q => c115 (hun.mpr q.2))] at hq; exact hq)
        · replace c102 := zt c102
          obtain ⟨m0, hm0, em0⟩ : rg (σ 168 j) 6 := (hU j (by omega)).2.1
          have hun : (m0 = 0 ∨ kd = m0 ∨ (m0 = 1 ∧ kd = 3)) ↔ (σ 168 j = 0 ∨ σ 140 k = σ 168 j ∨ (σ 168 j = 1 ∧ σ 140 k = nI 3)) := by
            rw [ekd, em0, nI_eq0 (by omega), nI_eq (by omega) (by omega), nI_eq1 (by omega), nI_eq (by omega) (by omega)]
          refine V_iload (pc := 105) d_X11_gives_105 rfl ?_
          refine V_aload (pc := 107) d_X11_gives_107 rfl ?_
          refine P_getI (pc := 109) d_X11_gives_109 f_X11_304 (tRU b (by omega)) ?_
          rw [(cU_f hU (by omega : j < nr)).1]
          rw [ekd, em0]
          refine V_csI (pc := 112) (n := 1) [_, _] d_X11_gives_112 c_X11_92 k_X11_isUnder rfl (Nat.le_of_ble_eq_true rfl) ⟨Nat.le_of_ble_eq_true rfl, Nat.le_of_ble_eq_true rfl⟩ ⟨Nat.le_refl _, Nat.le_refl _⟩ (ct_X11_isUnder hkd hm0 ?_)
          rw [← ekd]
          refine V_if_eq (pc := 115) 135 d_X11_gives_115 (by decide) (fun c115 => ?_) (fun c115 => ?_)
          · replace c115 := zf c115
            refine V_iinc (pc := 135) d_X11_gives_135 rfl (by decide) ?_
            refine V_goto (pc := 138) 60 d_X11_gives_138 (by decide) ?_
            rw [p1_s]
            first | exact ih (by omega) (j + 1) (by omega) _ (by rw [gvS_no (r := j) (by omega) (fun q => c102 q.1)] at hq; exact hq) | exact ih (by omega) (j + 1) (by omega) _ (by rw [gvS_no (r := j) (by omega) (fun q => c115 (hun.mpr q.2))] at hq; exact hq)
          · replace c115 := zt c115
            refine V_aload_n (pc := 118) d_X11_gives_118 rfl ?_
            refine V_aload (pc := 119) d_X11_gives_119 rfl ?_
            refine P_getI (pc := 121) d_X11_gives_121 f_X11_305 (tRU b (by omega)) ?_
            rw [(cU_f hU (by omega : j < nr)).2.1]
            refine V_iload_n (pc := 124) d_X11_gives_124 rfl ?_
            refine V_iload_n (pc := 125) d_X11_gives_125 rfl ?_
            refine V_iload (pc := 126) d_X11_gives_126 rfl ?_
            refine V_iload (pc := 128) d_X11_gives_128 rfl ?_
            refine V_cvI (pc := 130) (n := 3) (c := 11) [_, _, _, _, _] d_X11_gives_130 c_X11_306 k_X11_yieldingBy ⟨rfl, rfl⟩ (tt_3 b) rfl (Nat.le_of_ble_eq_true rfl) ⟨Nat.le_of_ble_eq_true rfl, Nat.le_of_ble_eq_true rfl⟩ ⟨Nat.le_refl _, Nat.le_refl _⟩ (ct_X11_yieldingBy (r := j) hR ha hc ?_)
            rw [gvS_y (r := j) (by omega) ⟨c102, hun.mp c115⟩] at hq
            by_cases t1 : tlS σ nl j a c u w = -1
            · rw [if_pos t1] at hq
              rw [t1]
              refine V_istore (pc := 133) d_X11_gives_133 (by decide) ?_
              refine V_iinc (pc := 135) d_X11_gives_135 rfl (by decide) ?_
              refine V_goto (pc := 138) 60 d_X11_gives_138 (by decide) ?_
              rw [p1_s]
              exact ih (by omega) (j + 1) (by omega) _ hq
            rw [if_neg t1] at hq
            refine V_istore (pc := 133) d_X11_gives_133 (by decide) ?_
            refine V_iinc (pc := 135) d_X11_gives_135 rfl (by decide) ?_
            refine V_goto (pc := 138) 60 d_X11_gives_138 (by decide) ?_
            rw [p1_s]
            refine V_iload (pc := 60) d_X11_gives_60 rfl ?_
            refine V_aload_n (pc := 62) d_X11_gives_62 rfl ?_
            refine P_getR (pc := 63) d_X11_gives_63 f_X11_10 (tt_3 b) (rr_3_0 b) ?_
            refine P_getI (pc := 66) d_X11_gives_66 f_X11_227 (tt_4 b) ?_
            rw [rnr]
            refine B_icmp_ge (pc := 69) 141 d_X11_gives_69 (by decide) (fun c69 => ?_) (fun c69 => ?_)
            · simp (disch := omega) only [nI_toInt, ti0, ti1, tim1, tim20, tim1000] at c69
              refine V_iload (pc := 141) d_X11_gives_141 rfl ?_
              exact V_retI (pc := 143) d_X11_gives_143 rfl ⟨Nat.le_refl _, Nat.le_refl _⟩ hq
            · simp (disch := omega) only [nI_toInt, ti0, ti1, tim1, tim20, tim1000] at c69
              refine V_iload (pc := 72) d_X11_gives_72 rfl ?_
              refine V_iconst (pc := 74) (-1) d_X11_gives_74 (by decide) ?_
              refine V_icmp_ne (pc := 75) 141 d_X11_gives_75 (by decide) (fun c75 => ?_) (fun c75 => ?_)
              · refine V_iload (pc := 141) d_X11_gives_141 rfl ?_
                exact V_retI (pc := 143) d_X11_gives_143 rfl ⟨Nat.le_refl _, Nat.le_refl _⟩ hq
              · exact absurd c75 t1
theorem ct_X11_gives {x y z u w : Int32} {q ns nb nl nt nr : Nat} (hR : RR σ 4 σ q ns nb nl nt nr) (hq : K (giQ σ q ns nb nl nr x y z u w) (σ, sh b)) : CM G mX11_gives (rl 4) [.ref 3, .int x, .int y, .int z, .int u, .int w] (σ, sh b) (QI K) := by
  obtain ⟨⟨⟨hq2, hn10, hnb, hnl, hnt, hnr⟩, ⟨vq, vns, vnb, vnl, vnt, vnr⟩, ⟨rq, rns, rnb, rnl, rnt, rnr⟩, hpd⟩, hH, hC, hS, hLD, hB, hA, hT, hU⟩ := id hR
  refine CM.of (by decide) (Nat.le_of_ble_eq_true rfl) (cats1 rfl) ?_
  refine V_aload_n (pc := 0) d_X11_gives_0 rfl ?_
  refine P_getR (pc := 1) d_X11_gives_1 f_X11_10 (tt_3 b) (rr_3_0 b) ?_
  refine V_iload_n (pc := 4) d_X11_gives_4 rfl ?_
  refine V_cvI (pc := 5) (n := 2) (c := 4) [_] d_X11_gives_5 c_X11_136 k_X4_isBoat ⟨rfl, rfl⟩ (tt_4 b) rfl (Nat.le_of_ble_eq_true rfl) ⟨Nat.le_of_ble_eq_true rfl, Nat.le_of_ble_eq_true rfl⟩ ⟨Nat.le_refl _, Nat.le_refl _⟩ (ct_X4_isBoat rnb (by omega) ?_)
  refine V_if_eq (pc := 8) 38 d_X11_gives_8 (by decide) (fun c8 => ?_) (fun c8 => ?_)
  · replace c8 := zf c8
    refine V_iconst (pc := 38) (-1) d_X11_gives_38 (by decide) ?_
    exact V_retI (pc := 39) d_X11_gives_39 rfl ⟨Nat.le_refl _, Nat.le_refl _⟩ (by rw [giQ, if_neg (fun g => by first | exact c8 g.1 | exact c19 g.2.1 | exact g.2.2.1 c24 | exact c35 g.2.2.2)] at hq; exact hq)
  · replace c8 := zt c8
    refine V_aload_n (pc := 11) d_X11_gives_11 rfl ?_
    refine P_getR (pc := 12) d_X11_gives_12 f_X11_10 (tt_3 b) (rr_3_0 b) ?_
    refine V_iload_n (pc := 15) d_X11_gives_15 rfl ?_
    refine V_cvI (pc := 16) (n := 2) (c := 4) [_] d_X11_gives_16 c_X11_136 k_X4_isBoat ⟨rfl, rfl⟩ (tt_4 b) rfl (Nat.le_of_ble_eq_true rfl) ⟨Nat.le_of_ble_eq_true rfl, Nat.le_of_ble_eq_true rfl⟩ ⟨Nat.le_refl _, Nat.le_refl _⟩ (ct_X4_isBoat rnb (by omega) ?_)
    refine V_if_eq (pc := 19) 38 d_X11_gives_19 (by decide) (fun c19 => ?_) (fun c19 => ?_)
    · replace c19 := zf c19
      refine V_iconst (pc := 38) (-1) d_X11_gives_38 (by decide) ?_
      exact V_retI (pc := 39) d_X11_gives_39 rfl ⟨Nat.le_refl _, Nat.le_refl _⟩ (by rw [giQ, if_neg (fun g => by first | exact c8 g.1 | exact c19 g.2.1 | exact g.2.2.1 c24 | exact c35 g.2.2.2)] at hq; exact hq)
    · replace c19 := zt c19
      refine V_iload_n (pc := 22) d_X11_gives_22 rfl ?_
      refine V_iload_n (pc := 23) d_X11_gives_23 rfl ?_
      refine V_icmp_eq (pc := 24) 38 d_X11_gives_24 (by decide) (fun c24 => ?_) (fun c24 => ?_)
      · refine V_iconst (pc := 38) (-1) d_X11_gives_38 (by decide) ?_
        exact V_retI (pc := 39) d_X11_gives_39 rfl ⟨Nat.le_refl _, Nat.le_refl _⟩ (by rw [giQ, if_neg (fun g => by first | exact c8 g.1 | exact c19 g.2.1 | exact g.2.2.1 c24 | exact c35 g.2.2.2)] at hq; exact hq)
      · refine V_aload_n (pc := 27) d_X11_gives_27 rfl ?_
        refine P_getR (pc := 28) d_X11_gives_28 f_X11_10 (tt_3 b) (rr_3_0 b) ?_
        refine V_iload_n (pc := 31) d_X11_gives_31 rfl ?_
        refine V_cvI (pc := 32) (n := 2) (c := 4) [_] d_X11_gives_32 c_X11_86 k_X4_isStretch ⟨rfl, rfl⟩ (tt_4 b) rfl (Nat.le_of_ble_eq_true rfl) ⟨Nat.le_of_ble_eq_true rfl, Nat.le_of_ble_eq_true rfl⟩ ⟨Nat.le_refl _, Nat.le_refl _⟩ (ct_X4_isStretch rns (by omega) ?_)
        refine V_if_ne (pc := 35) 40 d_X11_gives_35 (by decide) (fun c35 => ?_) (fun c35 => ?_)
        · replace c35 := zt c35
          have hq1 := hq
          rw [giQ, if_pos ⟨c8, c19, c24, c35⟩] at hq1
          obtain ⟨a, ha, rfl, -⟩ := nat_of (n := nb) (x := x) (by omega) (by omega) (by omega)
          obtain ⟨c, hc, rfl, -⟩ := nat_of (n := nb) (x := y) (by omega) (by omega) (by omega)
          obtain ⟨k, hk, rfl, -⟩ := nat_of (n := ns) (x := z) (by omega) (by omega) (by omega)
          rw [nI_clamp (by omega), nI_clamp (by omega), nI_clamp (by omega)] at hq1
          refine V_aload_n (pc := 40) d_X11_gives_40 rfl ?_
          refine P_getR (pc := 41) d_X11_gives_41 f_X11_10 (tt_3 b) (rr_3_0 b) ?_
          refine P_getR (pc := 44) d_X11_gives_44 f_X11_62 (tt_4 b) (rr_4_10 b) ?_
          refine V_iload_n (pc := 47) d_X11_gives_47 rfl ?_
          refine P_aald (pc := 48) (c := 7) (k) d_X11_gives_48 (tt_7 b) (by decide) rfl (ln_of (ll_7 b) ⟨by omega, by decide⟩) (rS b (by omega)) ?_
          refine P_getI (pc := 49) d_X11_gives_49 f_X11_89 (tS b (by omega)) ?_
          rw [(cS_f hS (by omega : k < ns)).2.1]
          refine V_istore (pc := 52) d_X11_gives_52 (by decide) ?_
          refine V_iconst (pc := 54) (-1) d_X11_gives_54 (by decide) ?_
          refine V_istore (pc := 55) d_X11_gives_55 (by decide) ?_
          refine V_iconst (pc := 57) (0) d_X11_gives_57 (by decide) ?_
          refine V_istore (pc := 58) d_X11_gives_58 (by decide) ?_
          exact lp_gi hR ha hc hk nr (Nat.le_refl _) 0 (by omega) _ hq1
        · replace c35 := zf c35
          refine V_iconst (pc := 38) (-1) d_X11_gives_38 (by decide) ?_
          exact V_retI (pc := 39) d_X11_gives_39 rfl ⟨Nat.le_refl _, Nat.le_refl _⟩ (by rw [giQ, if_neg (fun g => by first | exact c8 g.1 | exact c19 g.2.1 | exact g.2.2.1 c24 | exact c35 g.2.2.2)] at hq; exact hq)
theorem lp_giM {ρ : Sg} {a c k : Nat} {u w : Int32} {q ns nb nl nt nr : Nat} (hR : RR ρ 4 σ q ns nb nl nt nr) (ha : a < nb) (hc : c < nb) (hk : k < ns) : ∀ n, n ≤ nr → ∀ j, j + n = nr → ∀ z, K (gvS σ nl (q / 96) k a c nr u w n) (σ, sh b) → V G mX12_gives (rl 4) (FM G (rl 4) (QI K)) 0 0 34 [some (.ref 139), some (.int (nI a)), some (.int (nI c)), some (.int (nI k)), some (.int u), some (.int w), some (.int (nI j)), z] [] (σ, sh b) := by
  obtain ⟨⟨⟨hq2, hn10, hnb, hnl, hnt, hnr⟩, ⟨vq, vns, vnb, vnl, vnt, vnr⟩, ⟨rq, rns, rnb, rnl, rnt, rnr⟩, hpd⟩, hH, hC, hS, hLD, hB, hA, hT, hU⟩ := id hR
  intro n
  induction n with
  | zero =>
    intro hx j hj z hq
    obtain rfl : j = nr := by omega
    refine V_iload (pc := 34) d_X12_gives_34 rfl ?_
    refine V_aload_n (pc := 36) d_X12_gives_36 rfl ?_
    refine P_getI (pc := 37) d_X12_gives_37 f_X12_296 (tt_139 b) ?_
    rw [vnr]
    refine B_icmp_ge (pc := 40) 115 d_X12_gives_40 (by decide) (fun c40 => ?_) (fun c40 => ?_)
    · simp (disch := omega) only [nI_toInt, ti0, ti1, tim1, tim20, tim1000] at c40
      refine V_iconst (pc := 115) (-1) d_X12_gives_115 (by decide) ?_
      exact V_retI (pc := 116) d_X12_gives_116 rfl ⟨Nat.le_refl _, Nat.le_refl _⟩ hq
    · simp (disch := omega) only [nI_toInt, ti0, ti1, tim1, tim20, tim1000] at c40
      all_goals omega
  | succ n ih =>
    intro hx j hj z hq
    refine V_iload (pc := 34) d_X12_gives_34 rfl ?_
    refine V_aload_n (pc := 36) d_X12_gives_36 rfl ?_
    refine P_getI (pc := 37) d_X12_gives_37 f_X12_296 (tt_139 b) ?_
    rw [vnr]
    refine B_icmp_ge (pc := 40) 115 d_X12_gives_40 (by decide) (fun c40 => ?_) (fun c40 => ?_)
    · simp (disch := omega) only [nI_toInt, ti0, ti1, tim1, tim20, tim1000] at c40
      all_goals omega
    · simp (disch := omega) only [nI_toInt, ti0, ti1, tim1, tim20, tim1000] at c40
      refine V_aload_n (pc := 43) d_X12_gives_43 rfl ?_
      refine V_cvI (pc := 44) (n := 1) (c := 12) [] d_X12_gives_44 c_X12_218 k_X12_today ⟨rfl, rfl⟩ (tt_139 b) rfl (Nat.le_of_ble_eq_true rfl) ⟨Nat.le_of_ble_eq_true rfl, Nat.le_of_ble_eq_true rfl⟩ ⟨Nat.le_refl _, Nat.le_refl _⟩ (ct_X12_today vq hq2 ?_)
      refine V_aload_n (pc := 47) d_X12_gives_47 rfl ?_
      refine P_getR (pc := 48) d_X12_gives_48 f_X12_101 (tt_139 b) (rr_139_38 b) ?_
      refine V_iload (pc := 51) d_X12_gives_51 rfl ?_
      refine P_iald (pc := 53) (j) d_X12_gives_53 (tt_170 b) rfl (ln_of (ll_170 b) ⟨by omega, by decide⟩) ?_
      refine V_aload_n (pc := 54) d_X12_gives_54 rfl ?_
      refine P_getR (pc := 55) d_X12_gives_55 f_X12_104 (tt_139 b) (rr_139_39 b) ?_
      refine V_iload (pc := 58) d_X12_gives_58 rfl ?_
      refine P_iald (pc := 60) (j) d_X12_gives_60 (tt_171 b) rfl (ln_of (ll_171 b) ⟨by omega, by decide⟩) ?_
      refine V_csI (pc := 61) (n := 1) [_, _, _] d_X12_gives_61 c_X12_174 k_X12_in rfl (Nat.le_of_ble_eq_true rfl) ⟨Nat.le_of_ble_eq_true rfl, Nat.le_of_ble_eq_true rfl⟩ ⟨Nat.le_refl _, Nat.le_refl _⟩ (ct_X12_in rfl rfl ?_)
      refine V_if_eq (pc := 64) 109 d_X12_gives_64 (by decide) (fun c64 => ?_) (fun c64 => ?_)
      · replace c64 := zf c64
        refine V_iinc (pc := 109) d_X12_gives_109 rfl (by decide) ?_
        refine V_goto (pc := 112) 34 d_X12_gives_112 (by decide) ?_
        rw [p1_s]
        first | exact ih (by omega) (j + 1) (by omega) _ (by rw [gvS_no (r := j) (by omega) (fun q => c64 q.1)] at hq; exact hq) | exact ih (by omega) (j + 1) (by omega) _ (by rw [gvS_no (r := j) (by omega) (fun q => c83 q.2)] at hq; exact hq) | exact ih (by omega) (j + 1) (by omega) _ (by rw [if_pos c103] at hq; exact hq)
      · replace c64 := zt c64
        refine V_aload_n (pc := 67) d_X12_gives_67 rfl ?_
        refine P_getR (pc := 68) d_X12_gives_68 f_X12_7 (tt_139 b) (rr_139_3 b) ?_
        refine V_iload_n (pc := 71) d_X12_gives_71 rfl ?_
        refine P_iald (pc := 72) (k) d_X12_gives_72 (tt_140 b) rfl (ln_of (ll_140 b) ⟨by omega, by decide⟩) ?_
        refine V_aload_n (pc := 73) d_X12_gives_73 rfl ?_
        refine P_getR (pc := 74) d_X12_gives_74 f_X12_95 (tt_139 b) (rr_139_36 b) ?_
        refine V_iload (pc := 77) d_X12_gives_77 rfl ?_
        refine P_iald (pc := 79) (j) d_X12_gives_79 (tt_168 b) rfl (ln_of (ll_168 b) ⟨by omega, by decide⟩) ?_
        refine V_csI (pc := 80) (n := 1) [_, _] d_X12_gives_80 c_X12_299 k_X12_isUnder rfl (Nat.le_of_ble_eq_true rfl) ⟨Nat.le_of_ble_eq_true rfl, Nat.le_of_ble_eq_true rfl⟩ ⟨Nat.le_refl _, Nat.le_refl _⟩ (ct_X12_isUnder ?_)
        refine V_if_eq (pc := 83) 109 d_X12_gives_83 (by decide) (fun c83 => ?_) (fun c83 => ?_)
        · replace c83 := zf c83
          refine V_iinc (pc := 109) d_X12_gives_109 rfl (by decide) ?_
          refine V_goto (pc := 112) 34 d_X12_gives_112 (by decide) ?_
          rw [p1_s]
          first | exact ih (by omega) (j + 1) (by omega) _ (by rw [gvS_no (r := j) (by omega) (fun q => c64 q.1)] at hq; exact hq) | exact ih (by omega) (j + 1) (by omega) _ (by rw [gvS_no (r := j) (by omega) (fun q => c83 q.2)] at hq; exact hq) | exact ih (by omega) (j + 1) (by omega) _ (by rw [if_pos c103] at hq; exact hq)
        · replace c83 := zt c83
          refine V_aload_n (pc := 86) d_X12_gives_86 rfl ?_
          refine V_iload (pc := 87) d_X12_gives_87 rfl ?_
          refine V_iload_n (pc := 89) d_X12_gives_89 rfl ?_
          refine V_iload_n (pc := 90) d_X12_gives_90 rfl ?_
          refine V_iload (pc := 91) d_X12_gives_91 rfl ?_
          refine V_iload (pc := 93) d_X12_gives_93 rfl ?_
          refine V_cvI (pc := 95) (n := 3) (c := 12) [_, _, _, _, _] d_X12_gives_95 c_X12_303 k_X12_tells ⟨rfl, rfl⟩ (tt_139 b) rfl (Nat.le_of_ble_eq_true rfl) ⟨Nat.le_of_ble_eq_true rfl, Nat.le_of_ble_eq_true rfl⟩ ⟨Nat.le_refl _, Nat.le_refl _⟩ (ct_X12_tells (r := j) hR (by omega) ha hc ?_)
          rw [gvS_y (r := j) (by omega) ⟨c64, c83⟩] at hq
          refine V_istore (pc := 98) d_X12_gives_98 (by decide) ?_
          refine V_iload (pc := 100) d_X12_gives_100 rfl ?_
          refine V_iconst (pc := 102) (-1) d_X12_gives_102 (by decide) ?_
          refine V_icmp_eq (pc := 103) 109 d_X12_gives_103 (by decide) (fun c103 => ?_) (fun c103 => ?_)
          · refine V_iinc (pc := 109) d_X12_gives_109 rfl (by decide) ?_
            refine V_goto (pc := 112) 34 d_X12_gives_112 (by decide) ?_
            rw [p1_s]
            first | exact ih (by omega) (j + 1) (by omega) _ (by rw [gvS_no (r := j) (by omega) (fun q => c64 q.1)] at hq; exact hq) | exact ih (by omega) (j + 1) (by omega) _ (by rw [gvS_no (r := j) (by omega) (fun q => c83 q.2)] at hq; exact hq) | exact ih (by omega) (j + 1) (by omega) _ (by rw [if_pos c103] at hq; exact hq)
          · refine V_iload (pc := 106) d_X12_gives_106 rfl ?_
            exact V_retI (pc := 108) d_X12_gives_108 rfl ⟨Nat.le_refl _, Nat.le_refl _⟩ (by rw [if_neg c103] at hq; exact hq)
theorem ct_X12_gives {x y z u w : Int32} {ρ : Sg} {q ns nb nl nt nr : Nat} (hR : RR ρ 4 σ q ns nb nl nt nr) (hq : K (giQ σ q ns nb nl nr x y z u w) (σ, sh b)) : CM G mX12_gives (rl 4) [.ref 139, .int x, .int y, .int z, .int u, .int w] (σ, sh b) (QI K) := by
  obtain ⟨⟨⟨hq2, hn10, hnb, hnl, hnt, hnr⟩, ⟨vq, vns, vnb, vnl, vnt, vnr⟩, ⟨rq, rns, rnb, rnl, rnt, rnr⟩, hpd⟩, hH, hC, hS, hLD, hB, hA, hT, hU⟩ := id hR
  refine CM.of (by decide) (Nat.le_of_ble_eq_true rfl) (cats1 rfl) ?_
  refine V_aload_n (pc := 0) d_X12_gives_0 rfl ?_
  refine V_iload_n (pc := 1) d_X12_gives_1 rfl ?_
  refine V_cvI (pc := 2) (n := 2) (c := 12) [_] d_X12_gives_2 c_X12_238 k_X12_isBoat ⟨rfl, rfl⟩ (tt_139 b) rfl (Nat.le_of_ble_eq_true rfl) ⟨Nat.le_of_ble_eq_true rfl, Nat.le_of_ble_eq_true rfl⟩ ⟨Nat.le_refl _, Nat.le_refl _⟩ (ct_X12_isBoat vnb (by omega) ?_)
  refine V_if_eq (pc := 5) 29 d_X12_gives_5 (by decide) (fun c5 => ?_) (fun c5 => ?_)
  · replace c5 := zf c5
    refine V_iconst (pc := 29) (-1) d_X12_gives_29 (by decide) ?_
    exact V_retI (pc := 30) d_X12_gives_30 rfl ⟨Nat.le_refl _, Nat.le_refl _⟩ (by rw [giQ, if_neg (fun g => by first | exact c5 g.1 | exact c13 g.2.1 | exact g.2.2.1 c18 | exact c26 g.2.2.2)] at hq; exact hq)
  · replace c5 := zt c5
    refine V_aload_n (pc := 8) d_X12_gives_8 rfl ?_
    refine V_iload_n (pc := 9) d_X12_gives_9 rfl ?_
    refine V_cvI (pc := 10) (n := 2) (c := 12) [_] d_X12_gives_10 c_X12_238 k_X12_isBoat ⟨rfl, rfl⟩ (tt_139 b) rfl (Nat.le_of_ble_eq_true rfl) ⟨Nat.le_of_ble_eq_true rfl, Nat.le_of_ble_eq_true rfl⟩ ⟨Nat.le_refl _, Nat.le_refl _⟩ (ct_X12_isBoat vnb (by omega) ?_)
    refine V_if_eq (pc := 13) 29 d_X12_gives_13 (by decide) (fun c13 => ?_) (fun c13 => ?_)
    · replace c13 := zf c13
      refine V_iconst (pc := 29) (-1) d_X12_gives_29 (by decide) ?_
      exact V_retI (pc := 30) d_X12_gives_30 rfl ⟨Nat.le_refl _, Nat.le_refl _⟩ (by rw [giQ, if_neg (fun g => by first | exact c5 g.1 | exact c13 g.2.1 | exact g.2.2.1 c18 | exact c26 g.2.2.2)] at hq; exact hq)
    · replace c13 := zt c13
      refine V_iload_n (pc := 16) d_X12_gives_16 rfl ?_
      refine V_iload_n (pc := 17) d_X12_gives_17 rfl ?_
      refine V_icmp_eq (pc := 18) 29 d_X12_gives_18 (by decide) (fun c18 => ?_) (fun c18 => ?_)
      · refine V_iconst (pc := 29) (-1) d_X12_gives_29 (by decide) ?_
        exact V_retI (pc := 30) d_X12_gives_30 rfl ⟨Nat.le_refl _, Nat.le_refl _⟩ (by rw [giQ, if_neg (fun g => by first | exact c5 g.1 | exact c13 g.2.1 | exact g.2.2.1 c18 | exact c26 g.2.2.2)] at hq; exact hq)
      · refine V_aload_n (pc := 21) d_X12_gives_21 rfl ?_
        refine V_iload_n (pc := 22) d_X12_gives_22 rfl ?_
        refine V_cvI (pc := 23) (n := 2) (c := 12) [_] d_X12_gives_23 c_X12_202 k_X12_isStretch ⟨rfl, rfl⟩ (tt_139 b) rfl (Nat.le_of_ble_eq_true rfl) ⟨Nat.le_of_ble_eq_true rfl, Nat.le_of_ble_eq_true rfl⟩ ⟨Nat.le_refl _, Nat.le_refl _⟩ (ct_X12_isStretch vns (by omega) ?_)
        refine V_if_ne (pc := 26) 31 d_X12_gives_26 (by decide) (fun c26 => ?_) (fun c26 => ?_)
        · replace c26 := zt c26
          have hq1 := hq
          rw [giQ, if_pos ⟨c5, c13, c18, c26⟩] at hq1
          obtain ⟨a, ha, rfl, -⟩ := nat_of (n := nb) (x := x) (by omega) (by omega) (by omega)
          obtain ⟨c, hc, rfl, -⟩ := nat_of (n := nb) (x := y) (by omega) (by omega) (by omega)
          obtain ⟨k, hk, rfl, -⟩ := nat_of (n := ns) (x := z) (by omega) (by omega) (by omega)
          rw [nI_clamp (by omega), nI_clamp (by omega), nI_clamp (by omega)] at hq1
          refine V_iconst (pc := 31) (0) d_X12_gives_31 (by decide) ?_
          refine V_istore (pc := 32) d_X12_gives_32 (by decide) ?_
          exact lp_giM hR ha hc hk nr (Nat.le_refl _) 0 (by omega) _ hq1
        · replace c26 := zf c26
          refine V_iconst (pc := 29) (-1) d_X12_gives_29 (by decide) ?_
          exact V_retI (pc := 30) d_X12_gives_30 rfl ⟨Nat.le_refl _, Nat.le_refl _⟩ (by rw [giQ, if_neg (fun g => by first | exact c5 g.1 | exact c13 g.2.1 | exact g.2.2.1 c18 | exact c26 g.2.2.2)] at hq; exact hq)
theorem pr_gives {x y z u w : Int32} (h : Rel σ b) : PR G mX11_gives mX12_gives 4 4 [.int x, .int y, .int z, .int u, .int w] σ b := by
  have h0 := h
  obtain ⟨q, ns, nb, nl, nt, nr, hR, hX, hP, hQ, hK⟩ := h
  exact ct_X11_gives hR (⟨rfl, ct_X12_gives hR ⟨rfl, σ, rfl, h0⟩⟩)
end HC
