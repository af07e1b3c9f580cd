theorem neT {x : Int32} {n : Nat} (hn : n < 2 ^ 31) (h : ¬ x = nI n) : x.toInt ≠ n := fun z => h (Int32.toInt_inj.mp (by rw [z, nI_toInt hn]))
def ok (x : Int32) (n : Nat) : Prop := 0 ≤ x.toInt ∧ x.toInt ≤ (n : Int) - 1
def okD (x : Int32) : Prop := 0 ≤ x.toInt ∧ x.toInt ≤ 99
def okL (x : Int32) (n : Nat) : Prop := 0 ≤ x.toInt ∧ x.toInt ≤ (n : Int)
def heightQ (V : Sg) (x : Int32) : Int32 := if 0 ≤ x.toInt ∧ x.toInt ≤ 99 then heightS V x.toNatClampNeg else -1000
def waterQ (V : Sg) (ns : Nat) (x y : Int32) : Int32 := if 0 ≤ x.toInt ∧ x.toInt ≤ (ns : Int) - 1 then (if 0 ≤ y.toInt ∧ y.toInt ≤ 99 then waterS V x.toNatClampNeg y.toNatClampNeg else -1000) else -1000
section HC
variable {G : Gl} {R : Room} {F : Fn} {K : Int32 → Hp → Prop} {KV : Hp → Prop} {σ : Nat → Nat → Int32} {b : Bool}
theorem ct_X11_height {x : Int32} {q ns nb nl nt nr : Nat} (hR : RR σ 4 σ q ns nb nl nt nr) (hq : K (heightQ σ x) (σ, sh b)) : CM G mX11_height (rl 3) [.ref 3, .int x] (σ, sh b) (QI K) := by
  obtain ⟨⟨⟨hq2, hn10, hnb, hnl, hnt, hnr⟩, ⟨vq, vns, vnb, vnl, vnt, vnr⟩, ⟨rq, rns, rnb, rnl, rnt, rnr⟩, hpd⟩, hH, hC, hS, hLD, hB, hA, hT, hU⟩ := hR
  refine CM.of (by decide) (Nat.le_of_ble_eq_true rfl) (cats1 rfl) ?_
  refine V_iload_n (pc := 0) d_X11_height_0 rfl ?_
  refine V_csI (pc := 1) (n := 2) [_] d_X11_height_1 c_X11_75 k_X11_isDay rfl (Nat.le_of_ble_eq_true rfl) ⟨Nat.le_of_ble_eq_true rfl, Nat.le_of_ble_eq_true rfl⟩ ⟨Nat.le_refl _, Nat.le_refl _⟩ (ct_X11_isDay ?_)
  refine V_if_eq (pc := 4) 18 d_X11_height_4 (by decide) (fun c4 => ?_) (fun c4 => ?_)
  · replace c4 := zf c4
    refine V_sipush (pc := 18) (-1000) d_X11_height_18 (by decide) ?_
    exact V_retI (pc := 21) d_X11_height_21 rfl ⟨Nat.le_refl _, Nat.le_refl _⟩ (by simp (disch := omega) only [heightQ, c4, nI_clamp, if_true, if_false, and_self, and_true, true_and, and_false, false_and, not_true_eq_false, not_false_eq_true, reduceIte] at hq; exact hq)
  · replace c4 := zt c4
    obtain ⟨d, hd, rfl, -⟩ := nat_of (n := 100) c4.1 (by omega) (by omega)
    refine V_aload_n (pc := 7) d_X11_height_7 rfl ?_
    refine P_getR (pc := 8) d_X11_height_8 f_X11_10 (tt_3 b) (rr_3_0 b) ?_
    refine V_iload_n (pc := 11) d_X11_height_11 rfl ?_
    refine V_cvI (pc := 12) (n := 1) (c := 4) [_] d_X11_height_12 c_X11_241 k_X4_heightOn ⟨rfl, rfl⟩ (tt_4 b) rfl (Nat.le_of_ble_eq_true rfl) ⟨Nat.le_of_ble_eq_true rfl, Nat.le_of_ble_eq_true rfl⟩ ⟨Nat.le_refl _, Nat.le_refl _⟩ (ct_X4_heightOn hH (by omega) ?_)
    refine V_goto (pc := 15) 21 d_X11_height_15 (by decide) ?_
    exact V_retI (pc := 21) d_X11_height_21 rfl ⟨Nat.le_refl _, Nat.le_refl _⟩ (by simp (disch := omega) only [heightQ, c4, nI_clamp, if_true, if_false, and_self, and_true, true_and, and_false, false_and, not_true_eq_false, not_false_eq_true, reduceIte] at hq; exact hq)
theorem ct_X12_height {x : Int32} {ρ : Sg} {q ns nb nl nt nr : Nat} (hR : RR ρ 4 σ q ns nb nl nt nr) (hq : K (heightQ σ x) (σ, sh b)) : CM G mX12_height (rl 3) [.ref 139, .int x] (σ, sh b) (QI K) := by
  obtain ⟨⟨⟨hq2, hn10, hnb, hnl, hnt, hnr⟩, ⟨vq, vns, vnb, vnl, vnt, vnr⟩, ⟨rq, rns, rnb, rnl, rnt, rnr⟩, hpd⟩, hH, hC, hS, hLD, hB, hA, hT, hU⟩ := hR
  refine CM.of (by decide) (Nat.le_of_ble_eq_true rfl) (cats1 rfl) ?_
  refine V_iload_n (pc := 0) d_X12_height_0 rfl ?_
  refine V_csI (pc := 1) (n := 2) [_] d_X12_height_1 c_X12_194 k_X12_isDay rfl (Nat.le_of_ble_eq_true rfl) ⟨Nat.le_of_ble_eq_true rfl, Nat.le_of_ble_eq_true rfl⟩ ⟨Nat.le_refl _, Nat.le_refl _⟩ (ct_X12_isDay ?_)
  refine V_if_eq (pc := 4) 15 d_X12_height_4 (by decide) (fun c4 => ?_) (fun c4 => ?_)
  · replace c4 := zf c4
    refine V_sipush (pc := 15) (-1000) d_X12_height_15 (by decide) ?_
    exact V_retI (pc := 18) d_X12_height_18 rfl ⟨Nat.le_refl _, Nat.le_refl _⟩ (by simp (disch := omega) only [heightQ, c4, nI_clamp, if_true, if_false, and_self, and_true, true_and, and_false, false_and, not_true_eq_false, not_false_eq_true, reduceIte] at hq; exact hq)
  · replace c4 := zt c4
    obtain ⟨d, hd, rfl, -⟩ := nat_of (n := 100) c4.1 (by omega) (by omega)
    refine V_aload_n (pc := 7) d_X12_height_7 rfl ?_
    refine V_iload_n (pc := 8) d_X12_height_8 rfl ?_
    refine V_cvI (pc := 9) (n := 1) (c := 12) [_] d_X12_height_9 c_X12_208 k_X12_heightOf ⟨rfl, rfl⟩ (tt_139 b) rfl (Nat.le_of_ble_eq_true rfl) ⟨Nat.le_of_ble_eq_true rfl, Nat.le_of_ble_eq_true rfl⟩ ⟨Nat.le_refl _, Nat.le_refl _⟩ (ct_X12_heightOf hH (by omega) ?_)
    refine V_goto (pc := 12) 18 d_X12_height_12 (by decide) ?_
    exact V_retI (pc := 18) d_X12_height_18 rfl ⟨Nat.le_refl _, Nat.le_refl _⟩ (by simp (disch := omega) only [heightQ, c4, nI_clamp, if_true, if_false, and_self, and_true, true_and, and_false, false_and, not_true_eq_false, not_false_eq_true, reduceIte] at hq; exact hq)
theorem ct_X11_water {x y : Int32} {q ns nb nl nt nr : Nat} (hR : RR σ 4 σ q ns nb nl nt nr) (hq : K (waterQ σ ns x y) (σ, sh b)) : CM G mX11_water (rl 3) [.ref 3, .int x, .int y] (σ, sh b) (QI K) := by
  obtain ⟨⟨⟨hq2, hn10, hnb, hnl, hnt, hnr⟩, ⟨vq, vns, vnb, vnl, vnt, vnr⟩, ⟨rq, rns, rnb, rnl, rnt, rnr⟩, hpd⟩, hH, hC, hS, hLD, hB, hA, hT, hU⟩ := hR
  refine CM.of (by decide) (Nat.le_of_ble_eq_true rfl) (cats1 rfl) ?_
  refine V_aload_n (pc := 0) d_X11_water_0 rfl ?_
  refine P_getR (pc := 1) d_X11_water_1 f_X11_10 (tt_3 b) (rr_3_0 b) ?_
  refine V_iload_n (pc := 4) d_X11_water_4 rfl ?_
  refine V_cvI (pc := 5) (n := 2) (c := 4) [_] d_X11_water_5 c_X11_86 k_X4_isStretch ⟨rfl, rfl⟩ (tt_4 b) rfl (Nat.le_of_ble_eq_true rfl) ⟨Nat.le_of_ble_eq_true rfl, Nat.le_of_ble_eq_true rfl⟩ ⟨Nat.le_refl _, Nat.le_refl _⟩ (ct_X4_isStretch rns (by omega) ?_)
  refine V_if_eq (pc := 8) 30 d_X11_water_8 (by decide) (fun c8 => ?_) (fun c8 => ?_)
  · replace c8 := zf c8
    refine V_sipush (pc := 30) (-1000) d_X11_water_30 (by decide) ?_
    exact V_retI (pc := 33) d_X11_water_33 rfl ⟨Nat.le_refl _, Nat.le_refl _⟩ (by simp (disch := omega) only [waterQ, c8, nI_clamp, if_true, if_false, and_self, and_true, true_and, and_false, false_and, not_true_eq_false, not_false_eq_true, reduceIte] at hq; exact hq)
  · replace c8 := zt c8
    obtain ⟨k, hk, rfl, -⟩ := nat_of (n := ns) c8.1 (by omega) (by omega)
    refine V_iload_n (pc := 11) d_X11_water_11 rfl ?_
    refine V_csI (pc := 12) (n := 2) [_] d_X11_water_12 c_X11_75 k_X11_isDay rfl (Nat.le_of_ble_eq_true rfl) ⟨Nat.le_of_ble_eq_true rfl, Nat.le_of_ble_eq_true rfl⟩ ⟨Nat.le_refl _, Nat.le_refl _⟩ (ct_X11_isDay ?_)
    refine V_if_eq (pc := 15) 30 d_X11_water_15 (by decide) (fun c15 => ?_) (fun c15 => ?_)
    · replace c15 := zf c15
      refine V_sipush (pc := 30) (-1000) d_X11_water_30 (by decide) ?_
      exact V_retI (pc := 33) d_X11_water_33 rfl ⟨Nat.le_refl _, Nat.le_refl _⟩ (by simp (disch := omega) only [waterQ, c8, c15, nI_clamp, if_true, if_false, and_self, and_true, true_and, and_false, false_and, not_true_eq_false, not_false_eq_true, reduceIte] at hq; exact hq)
    · replace c15 := zt c15
      obtain ⟨d, hd, rfl, -⟩ := nat_of (n := 100) c15.1 (by omega) (by omega)
      refine V_aload_n (pc := 18) d_X11_water_18 rfl ?_
      refine P_getR (pc := 19) d_X11_water_19 f_X11_10 (tt_3 b) (rr_3_0 b) ?_
      refine V_iload_n (pc := 22) d_X11_water_22 rfl ?_
      refine V_iload_n (pc := 23) d_X11_water_23 rfl ?_
      refine V_cvI (pc := 24) (n := 2) (c := 4) [_, _] d_X11_water_24 c_X11_183 k_X4_waterOn ⟨rfl, rfl⟩ (tt_4 b) rfl (Nat.le_of_ble_eq_true rfl) ⟨Nat.le_of_ble_eq_true rfl, Nat.le_of_ble_eq_true rfl⟩ ⟨Nat.le_refl _, Nat.le_refl _⟩ (ct_X4_waterOn hH hC hS (by omega) hn10 (by omega) ?_)
      refine V_goto (pc := 27) 33 d_X11_water_27 (by decide) ?_
      exact V_retI (pc := 33) d_X11_water_33 rfl ⟨Nat.le_refl _, Nat.le_refl _⟩ (by simp (disch := omega) only [waterQ, c8, c15, nI_clamp, if_true, if_false, and_self, and_true, true_and, and_false, false_and, not_true_eq_false, not_false_eq_true, reduceIte] at hq; exact hq)
theorem ct_X12_water {x y : Int32} {ρ : Sg} {q ns nb nl nt nr : Nat} (hR : RR ρ 4 σ q ns nb nl nt nr) (hq : K (waterQ σ ns x y) (σ, sh b)) : CM G mX12_water (rl 4) [.ref 139, .int x, .int y] (σ, sh b) (QI K) := by
  obtain ⟨⟨⟨hq2, hn10, hnb, hnl, hnt, hnr⟩, ⟨vq, vns, vnb, vnl, vnt, vnr⟩, ⟨rq, rns, rnb, rnl, rnt, rnr⟩, hpd⟩, hH, hC, hS, hLD, hB, hA, hT, hU⟩ := hR
  refine CM.of (by decide) (Nat.le_of_ble_eq_true rfl) (cats1 rfl) ?_
  refine V_aload_n (pc := 0) d_X12_water_0 rfl ?_
  refine V_iload_n (pc := 1) d_X12_water_1 rfl ?_
  refine V_cvI (pc := 2) (n := 2) (c := 12) [_] d_X12_water_2 c_X12_202 k_X12_isStretch ⟨rfl, rfl⟩ (tt_139 b) rfl (Nat.le_of_ble_eq_true rfl) ⟨Nat.le_of_ble_eq_true rfl, Nat.le_of_ble_eq_true rfl⟩ ⟨Nat.le_refl _, Nat.le_refl _⟩ (ct_X12_isStretch vns (by omega) ?_)
  refine V_if_eq (pc := 5) 24 d_X12_water_5 (by decide) (fun c5 => ?_) (fun c5 => ?_)
  · replace c5 := zf c5
    refine V_sipush (pc := 24) (-1000) d_X12_water_24 (by decide) ?_
    exact V_retI (pc := 27) d_X12_water_27 rfl ⟨Nat.le_refl _, Nat.le_refl _⟩ (by simp (disch := omega) only [waterQ, c5, nI_clamp, if_true, if_false, and_self, and_true, true_and, and_false, false_and, not_true_eq_false, not_false_eq_true, reduceIte] at hq; exact hq)
  · replace c5 := zt c5
    obtain ⟨k, hk, rfl, -⟩ := nat_of (n := ns) c5.1 (by omega) (by omega)
    refine V_iload_n (pc := 8) d_X12_water_8 rfl ?_
    refine V_csI (pc := 9) (n := 2) [_] d_X12_water_9 c_X12_194 k_X12_isDay rfl (Nat.le_of_ble_eq_true rfl) ⟨Nat.le_of_ble_eq_true rfl, Nat.le_of_ble_eq_true rfl⟩ ⟨Nat.le_refl _, Nat.le_refl _⟩ (ct_X12_isDay ?_)
    refine V_if_eq (pc := 12) 24 d_X12_water_12 (by decide) (fun c12 => ?_) (fun c12 => ?_)
    · replace c12 := zf c12
      refine V_sipush (pc := 24) (-1000) d_X12_water_24 (by decide) ?_
      exact V_retI (pc := 27) d_X12_water_27 rfl ⟨Nat.le_refl _, Nat.le_refl _⟩ (by simp (disch := omega) only [waterQ, c5, c12, nI_clamp, if_true, if_false, and_self, and_true, true_and, and_false, false_and, not_true_eq_false, not_false_eq_true, reduceIte] at hq; exact hq)
    · replace c12 := zt c12
      obtain ⟨d, hd, rfl, -⟩ := nat_of (n := 100) c12.1 (by omega) (by omega)
      refine V_aload_n (pc := 15) d_X12_water_15 rfl ?_
      refine V_iload_n (pc := 16) d_X12_water_16 rfl ?_
      refine V_iload_n (pc := 17) d_X12_water_17 rfl ?_
      refine V_cvI (pc := 18) (n := 3) (c := 12) [_, _] d_X12_water_18 c_X12_215 k_X12_waterOf ⟨rfl, rfl⟩ (tt_139 b) rfl (Nat.le_of_ble_eq_true rfl) ⟨Nat.le_of_ble_eq_true rfl, Nat.le_of_ble_eq_true rfl⟩ ⟨Nat.le_refl _, Nat.le_refl _⟩ (ct_X12_waterOf hH hC hS (by omega) hn10 (by omega) ?_)
      refine V_goto (pc := 21) 27 d_X12_water_21 (by decide) ?_
      exact V_retI (pc := 27) d_X12_water_27 rfl ⟨Nat.le_refl _, Nat.le_refl _⟩ (by simp (disch := omega) only [waterQ, c5, c12, nI_clamp, if_true, if_false, and_self, and_true, true_and, and_false, false_and, not_true_eq_false, not_false_eq_true, reduceIte] at hq; exact hq)
end HC
