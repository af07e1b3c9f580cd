def fmS (x : Int32) (m : Nat) : Nat := (x.toInt % (m : Int)).toNat
def fmJ (x y : Int32) : Int32 := if (x ^^^ y).toInt < 0 ∧ ¬ x - x / y * y = 0 then x - x / y * y + y else x - x / y * y
def fmM (x y : Int32) : Int32 := x - x / y * y + y - (x - x / y * y + y) / y * y
theorem fm_all : ∀ k : Fin 201, ∀ m ∈ [2, 4, 6, 10], fmJ (Int32.ofInt ((k.val : Int) - 100)) (nI m) = nI (fmS (Int32.ofInt ((k.val : Int) - 100)) m) ∧ fmM (Int32.ofInt ((k.val : Int) - 100)) (nI m) = nI (fmS (Int32.ofInt ((k.val : Int) - 100)) m) := by decide +kernel
theorem fm_ok {x : Int32} {m : Nat} (h : -100 ≤ x.toInt ∧ x.toInt ≤ 100) (hm : m ∈ [2, 4, 6, 10]) : fmJ x (nI m) = nI (fmS x m) ∧ fmM x (nI m) = nI (fmS x m) := by
  have e : x = Int32.ofInt ((((x.toInt + 100).toNat : Nat) : Int) - 100) := by
    rw [show ((((x.toInt + 100).toNat : Nat) : Int) - 100) = x.toInt by omega, Int32.ofInt_toInt]
  have k := fm_all ⟨(x.toInt + 100).toNat, by omega⟩ m hm
  rw [e]
  exact k
theorem fm_lt {x : Int32} {m : Nat} (hm : 0 < m) : fmS x m < m := by
  unfold fmS
  have h1 := Int.emod_nonneg x.toInt (show (m : Int) ≠ 0 by omega)
  have h2 := Int.emod_lt_of_pos x.toInt (show (0 : Int) < m by omega)
  omega
abbrev unP (V : Sg) (l u : Nat) : Prop := nI u = 0 ∨ V 140 l = nI u ∨ (nI u = 1 ∧ V 140 l = nI 3)
def fkS (V : Sg) (ns u l : Nat) : Int32 × Int32 := if ns ≤ l then (nI 10, -1) else if unP V l u then (0, V 140 l) else (nI 11, -1)
def frS (V : Sg) (ns l : Nat) : Int32 × Int32 := if ns ≤ l then (0, 0) else if V 140 l = 1 ∨ V 140 l = nI 3 then (0, V 140 l) else (nI 14, -1)
def fsS (V : Sg) (s : Nat) (y : Int32) : Int32 × Int32 := if V 188 s = -1 then (nI 10, -1) else if ¬ V 188 s = 1 then (nI 11, -1) else if 0 ≤ y.toInt ∧ y.toInt ≤ (V 189 s).toInt - 1 then (0, V 190 (40 * s + y.toNatClampNeg)) else (nI 12, -1)
def smS (V : Sg) (s : Nat) : Nat → Int32
  | 0 => 0
  | n + 1 => smS V s n + V 190 (40 * s + (1 + n))
def fcS (V : Sg) (s : Nat) (y : Int32) : Int32 × Int32 := if V 188 s = -1 then (nI 10, -1) else if ¬ V 188 s = 0 then (nI 11, -1) else if 0 ≤ y.toInt ∧ y.toInt + 1 ≤ (V 189 s).toInt ∧ y.toInt ≤ 3 then (0, smS V s y.toNatClampNeg) else (nI 12, -1)
def foS (V : Sg) (ns : Nat) (x y z : Int32) : Int32 × Int32 :=
  if ¬ (-100 ≤ y.toInt ∧ y.toInt ≤ 100) then (1, -1) else if ¬ (-100 ≤ z.toInt ∧ z.toInt ≤ 100) then (1, -1)
  else if x = 0 then fkS V ns (fmS y 6) (fmS z 10)
  else if x = 1 then (if y.toInt < 0 then (nI 13, -1) else (0, y))
  else if x = nI 2 then fsS V (fmS z 4) y
  else if x = nI 3 then fcS V (fmS z 4) y
  else if x = nI 4 then frS V ns (fmS z 10)
  else if x = nI 5 then (if y = 0 then (nI 15, -1) else (0, nI 1000 / y))
  else if x = nI 6 then (if fmS y 2 = 0 then (nI 10, -1) else (0, 1))
  else (1, -1)
section FO
variable {V : Sg} {ns : Nat} {x y z : Int32}
theorem foS_y (hy : ¬ (-100 ≤ y.toInt ∧ y.toInt ≤ 100)) : foS V ns x y z = (1, -1) := if_pos hy
theorem foS_z (hz : ¬ (-100 ≤ z.toInt ∧ z.toInt ≤ 100)) : foS V ns x y z = (1, -1) := by
  unfold foS
  rw [if_pos hz]
  split <;> rfl
theorem foS_x (hx : ¬ (0 ≤ x.toInt ∧ x.toInt ≤ 6)) : foS V ns x y z = (1, -1) := by
  have n0 := in_no0 hx (by omega)
  have n1 := in_no1 hx (by omega)
  have n2 := in_no (n := 2) hx (by decide) (by omega)
  have n3 := in_no (n := 3) hx (by decide) (by omega)
  have n4 := in_no (n := 4) hx (by decide) (by omega)
  have n5 := in_no (n := 5) hx (by decide) (by omega)
  have n6 := in_no (n := 6) hx (by decide) (by omega)
  unfold foS
  rw [if_neg n0, if_neg n1, if_neg n2, if_neg n3, if_neg n4, if_neg n5, if_neg n6]
  split
  · rfl
  · split <;> rfl
theorem foS_0 (hy : -100 ≤ y.toInt ∧ y.toInt ≤ 100) (hz : -100 ≤ z.toInt ∧ z.toInt ≤ 100) (h0 : x = 0) : foS V ns x y z = fkS V ns (fmS y 6) (fmS z 10) := by
  unfold foS; rw [if_neg (fun q => q hy), if_neg (fun q => q hz), if_pos h0]
theorem foS_1 (hy : -100 ≤ y.toInt ∧ y.toInt ≤ 100) (hz : -100 ≤ z.toInt ∧ z.toInt ≤ 100) (h0 : ¬ x = 0) (h1 : x = 1) : foS V ns x y z = if y.toInt < 0 then (nI 13, -1) else (0, y) := by
  unfold foS; rw [if_neg (fun q => q hy), if_neg (fun q => q hz), if_neg h0, if_pos h1]
theorem foS_2 (hy : -100 ≤ y.toInt ∧ y.toInt ≤ 100) (hz : -100 ≤ z.toInt ∧ z.toInt ≤ 100) (h0 : ¬ x = 0) (h1 : ¬ x = 1) (h2 : x = nI 2) : foS V ns x y z = fsS V (fmS z 4) y := by
  unfold foS; rw [if_neg (fun q => q hy), if_neg (fun q => q hz), if_neg h0, if_neg h1, if_pos h2]
theorem foS_3 (hy : -100 ≤ y.toInt ∧ y.toInt ≤ 100) (hz : -100 ≤ z.toInt ∧ z.toInt ≤ 100) (h0 : ¬ x = 0) (h1 : ¬ x = 1) (h2 : ¬ x = nI 2) (h3 : x = nI 3) : foS V ns x y z = fcS V (fmS z 4) y := by
  unfold foS; rw [if_neg (fun q => q hy), if_neg (fun q => q hz), if_neg h0, if_neg h1, if_neg h2, if_pos h3]
theorem foS_4 (hy : -100 ≤ y.toInt ∧ y.toInt ≤ 100) (hz : -100 ≤ z.toInt ∧ z.toInt ≤ 100) (h0 : ¬ x = 0) (h1 : ¬ x = 1) (h2 : ¬ x = nI 2) (h3 : ¬ x = nI 3) (h4 : x = nI 4) : foS V ns x y z = frS V ns (fmS z 10) := by
  unfold foS; rw [if_neg (fun q => q hy), if_neg (fun q => q hz), if_neg h0, if_neg h1, if_neg h2, if_neg h3, if_pos h4]
theorem foS_5 (hy : -100 ≤ y.toInt ∧ y.toInt ≤ 100) (hz : -100 ≤ z.toInt ∧ z.toInt ≤ 100) (h0 : ¬ x = 0) (h1 : ¬ x = 1) (h2 : ¬ x = nI 2) (h3 : ¬ x = nI 3) (h4 : ¬ x = nI 4) (h5 : x = nI 5) : foS V ns x y z = if y = 0 then (nI 15, -1) else (0, nI 1000 / y) := by
  unfold foS; rw [if_neg (fun q => q hy), if_neg (fun q => q hz), if_neg h0, if_neg h1, if_neg h2, if_neg h3, if_neg h4, if_pos h5]
theorem foS_6 (hy : -100 ≤ y.toInt ∧ y.toInt ≤ 100) (hz : -100 ≤ z.toInt ∧ z.toInt ≤ 100) (h0 : ¬ x = 0) (h1 : ¬ x = 1) (h2 : ¬ x = nI 2) (h3 : ¬ x = nI 3) (h4 : ¬ x = nI 4) (h5 : ¬ x = nI 5) (h6 : x = nI 6) : foS V ns x y z = if fmS y 2 = 0 then (nI 10, -1) else (0, 1) := by
  unfold foS; rw [if_neg (fun q => q hy), if_neg (fun q => q hz), if_neg h0, if_neg h1, if_neg h2, if_neg h3, if_neg h4, if_neg h5, if_pos h6]
theorem foS_7 (hy : -100 ≤ y.toInt ∧ y.toInt ≤ 100) (hz : -100 ≤ z.toInt ∧ z.toInt ≤ 100) (h0 : ¬ x = 0) (h1 : ¬ x = 1) (h2 : ¬ x = nI 2) (h3 : ¬ x = nI 3) (h4 : ¬ x = nI 4) (h5 : ¬ x = nI 5) (h6 : ¬ x = nI 6) : foS V ns x y z = (1, -1) := by
  unfold foS; rw [if_neg (fun q => q hy), if_neg (fun q => q hz), if_neg h0, if_neg h1, if_neg h2, if_neg h3, if_neg h4, if_neg h5, if_neg h6]
end FO
section FA
variable {τ σ : Sg}
theorem smS_ag (h : ∀ a i, 139 ≤ a → a < 192 → τ a i = σ a i) {s : Nat} : ∀ n, smS τ s n = smS σ s n
  | 0 => rfl
  | n + 1 => by rw [smS, smS, smS_ag h n, h 190 _ (by omega) (by omega)]
theorem fkS_ag (h : ∀ a i, 139 ≤ a → a < 192 → τ a i = σ a i) {ns u l : Nat} : fkS τ ns u l = fkS σ ns u l := by
  unfold fkS unP
  rw [h 140 l (by omega) (by omega)]
theorem frS_ag (h : ∀ a i, 139 ≤ a → a < 192 → τ a i = σ a i) {ns l : Nat} : frS τ ns l = frS σ ns l := by
  rw [frS, frS, h 140 l (by omega) (by omega)]
theorem fsS_ag (h : ∀ a i, 139 ≤ a → a < 192 → τ a i = σ a i) {s : Nat} {y : Int32} : fsS τ s y = fsS σ s y := by
  rw [fsS, fsS, h 188 s (by omega) (by omega), h 189 s (by omega) (by omega), h 190 _ (by omega) (by omega)]
theorem fcS_ag (h : ∀ a i, 139 ≤ a → a < 192 → τ a i = σ a i) {s : Nat} {y : Int32} : fcS τ s y = fcS σ s y := by
  rw [fcS, fcS, h 188 s (by omega) (by omega), h 189 s (by omega) (by omega), smS_ag h]
theorem foS_ag (h : ∀ a i, 139 ≤ a → a < 192 → τ a i = σ a i) {ns : Nat} {x y z : Int32} : foS τ ns x y z = foS σ ns x y z := by
  rw [foS, foS, fkS_ag h, frS_ag h, fsS_ag h, fcS_ag h]
end FA
section HC
variable {G : Gl} {R : Room} {F : Fn} {K : Int32 → Hp → Prop} {KV : Hp → Prop} {σ : Nat → Nat → Int32} {b : Bool}
theorem ct_fm {h : Hp} {x : Int32} {m : Nat} (hx : -100 ≤ x.toInt ∧ x.toInt ≤ 100) (hm : m ∈ [2, 4, 6, 10]) (hq : K (nI (fmS x m)) h) : CM G mJ_floorMod (rl 1) [.int x, .int (nI m)] h (QI K) := by
  refine ct_J_floorMod (fun q => ?_) ?_
  · simp only [List.mem_cons, List.not_mem_nil, or_false] at hm
    rcases hm with rfl | rfl | rfl | rfl <;> exact absurd q (by decide)
  · rw [← (fm_ok hx hm).1] at hq
    exact hq
theorem ct_X12_modulo {h : Hp} {x : Int32} {m : Nat} (hx : -100 ≤ x.toInt ∧ x.toInt ≤ 100) (hm : m ∈ [2, 4, 6, 10]) (hq : K (nI (fmS x m)) h) : CM G mX12_modulo (rl 1) [.int x, .int (nI m)] h (QI K) := by
  have hn : ¬ nI m = 0 := fun q => by
    simp only [List.mem_cons, List.not_mem_nil, or_false] at hm
    rcases hm with rfl | rfl | rfl | rfl <;> exact absurd q (by decide)
  refine CM.of (by decide) (Nat.le_of_ble_eq_true rfl) (cats1 rfl) ?_
  refine V_iload_n (pc := 0) d_X12_modulo_0 rfl ?_
  refine V_iload_n (pc := 1) d_X12_modulo_1 rfl ?_
  refine V_irem (pc := 2) d_X12_modulo_2 hn ?_
  refine V_iload_n (pc := 3) d_X12_modulo_3 rfl ?_
  refine V_iadd (pc := 4) d_X12_modulo_4 ?_
  refine V_iload_n (pc := 5) d_X12_modulo_5 rfl ?_
  refine V_irem (pc := 6) d_X12_modulo_6 hn ?_
  exact V_retI (pc := 7) d_X12_modulo_7 rfl ⟨Nat.le_refl _, Nat.le_refl _⟩ (by rw [← (fm_ok hx hm).2] at hq; exact hq)
theorem ct_X12_isUnder {h : Hp} {x y : Int32} (hq : K (if y = 0 ∨ x = y ∨ (y = 1 ∧ x = nI 3) then 1 else 0) h) : CM G mX12_isUnder (rl 1) [.int x, .int y] h (QI K) := by
  refine CM.of (by decide) (Nat.le_of_ble_eq_true rfl) (cats1 rfl) ?_
  refine V_iload_n (pc := 0) d_X12_isUnder_0 rfl ?_
  refine V_if_eq (pc := 1) 19 d_X12_isUnder_1 (by decide) (fun c1 => ?_) (fun c1 => ?_)
  · refine V_iconst (pc := 19) (1) d_X12_isUnder_19 (by decide) ?_
    refine V_goto (pc := 20) 24 d_X12_isUnder_20 (by decide) ?_
    exact V_retZ (pc := 24) d_X12_isUnder_24 rfl (by first | exact Or.inl rfl | exact Or.inr rfl | exact z01) ⟨Nat.le_refl _, Nat.le_refl _⟩ (by first | (rw [if_pos (Or.inl c1)] at hq; exact hq) | (rw [if_pos (Or.inr (Or.inl c6))] at hq; exact hq) | (rw [if_pos (Or.inr (Or.inr ⟨c11, c16⟩))] at hq; exact hq) | (rw [if_neg (fun q => by rcases q with q | q | q; exact c1 q; exact c6 q; first | exact c11 q.1 | exact c16 q.2)] at hq; exact hq))
  · refine V_iload_n (pc := 4) d_X12_isUnder_4 rfl ?_
    refine V_iload_n (pc := 5) d_X12_isUnder_5 rfl ?_
    refine V_icmp_eq (pc := 6) 19 d_X12_isUnder_6 (by decide) (fun c6 => ?_) (fun c6 => ?_)
    · refine V_iconst (pc := 19) (1) d_X12_isUnder_19 (by decide) ?_
      refine V_goto (pc := 20) 24 d_X12_isUnder_20 (by decide) ?_
      exact V_retZ (pc := 24) d_X12_isUnder_24 rfl (by first | exact Or.inl rfl | exact Or.inr rfl | exact z01) ⟨Nat.le_refl _, Nat.le_refl _⟩ (by first | (rw [if_pos (Or.inl c1)] at hq; exact hq) | (rw [if_pos (Or.inr (Or.inl c6))] at hq; exact hq) | (rw [if_pos (Or.inr (Or.inr ⟨c11, c16⟩))] at hq; exact hq) | (rw [if_neg (fun q => by rcases q with q | q | q; exact c1 q; exact c6 q; first | exact c11 q.1 | exact c16 q.2)] at hq; exact hq))
    · refine V_iload_n (pc := 9) d_X12_isUnder_9 rfl ?_
      refine V_iconst (pc := 10) (1) d_X12_isUnder_10 (by decide) ?_
      refine V_icmp_ne (pc := 11) 23 d_X12_isUnder_11 (by decide) (fun c11 => ?_) (fun c11 => ?_)
      · refine V_iconst (pc := 23) (0) d_X12_isUnder_23 (by decide) ?_
        exact V_retZ (pc := 24) d_X12_isUnder_24 rfl (by first | exact Or.inl rfl | exact Or.inr rfl | exact z01) ⟨Nat.le_refl _, Nat.le_refl _⟩ (by first | (rw [if_pos (Or.inl c1)] at hq; exact hq) | (rw [if_pos (Or.inr (Or.inl c6))] at hq; exact hq) | (rw [if_pos (Or.inr (Or.inr ⟨c11, c16⟩))] at hq; exact hq) | (rw [if_neg (fun q => by rcases q with q | q | q; exact c1 q; exact c6 q; first | exact c11 q.1 | exact c16 q.2)] at hq; exact hq))
      · refine V_iload_n (pc := 14) d_X12_isUnder_14 rfl ?_
        refine V_iconst (pc := 15) (nI 3) d_X12_isUnder_15 (by decide) ?_
        refine V_icmp_ne (pc := 16) 23 d_X12_isUnder_16 (by decide) (fun c16 => ?_) (fun c16 => ?_)
        · refine V_iconst (pc := 23) (0) d_X12_isUnder_23 (by decide) ?_
          exact V_retZ (pc := 24) d_X12_isUnder_24 rfl (by first | exact Or.inl rfl | exact Or.inr rfl | exact z01) ⟨Nat.le_refl _, Nat.le_refl _⟩ (by first | (rw [if_pos (Or.inl c1)] at hq; exact hq) | (rw [if_pos (Or.inr (Or.inl c6))] at hq; exact hq) | (rw [if_pos (Or.inr (Or.inr ⟨c11, c16⟩))] at hq; exact hq) | (rw [if_neg (fun q => by rcases q with q | q | q; exact c1 q; exact c6 q; first | exact c11 q.1 | exact c16 q.2)] at hq; exact hq))
        · refine V_iconst (pc := 19) (1) d_X12_isUnder_19 (by decide) ?_
          refine V_goto (pc := 20) 24 d_X12_isUnder_20 (by decide) ?_
          exact V_retZ (pc := 24) d_X12_isUnder_24 rfl (by first | exact Or.inl rfl | exact Or.inr rfl | exact z01) ⟨Nat.le_refl _, Nat.le_refl _⟩ (by first | (rw [if_pos (Or.inl c1)] at hq; exact hq) | (rw [if_pos (Or.inr (Or.inl c6))] at hq; exact hq) | (rw [if_pos (Or.inr (Or.inr ⟨c11, c16⟩))] at hq; exact hq) | (rw [if_neg (fun q => by rcases q with q | q | q; exact c1 q; exact c6 q; first | exact c11 q.1 | exact c16 q.2)] at hq; exact hq))
theorem ct_X11_forgeKind {u l q ns nb nl nt nr : Nat} (hR : RR σ 4 σ q ns nb nl nt nr) (hu : u < 6) (hl : l < 10) (hq : K (fkS σ ns u l).2 (up2 σ 3 3 (fkS σ ns u l).1, sh b)) : CM G mX11_forgeKind (rl 3) [.ref 3, .int (nI u), .int (nI l)] (σ, sh b) (QI K) := by
  obtain ⟨⟨⟨hq2, hn10, hnb, hnl, hnt, hnr⟩, ⟨vq, vns, vnb, vnl, vnt, vnr⟩, ⟨rq, rns, rnb, rnl, rnt, rnr⟩, hpd⟩, hH, hC, hS, hLD, hB, hA, hT, hU⟩ := id hR
  refine CM.of (by decide) (Nat.le_of_ble_eq_true rfl) (cats1 rfl) ?_
  refine V_aload_n (pc := 0) d_X11_forgeKind_0 rfl ?_
  refine P_getR (pc := 1) d_X11_forgeKind_1 f_X11_10 (tt_3 b) (rr_3_0 b) ?_
  refine V_iload_n (pc := 4) d_X11_forgeKind_4 rfl ?_
  refine V_cvI (pc := 5) (n := 2) (c := 4) [_] d_X11_forgeKind_5 c_X11_86 k_X4_isStretch ⟨rfl, rfl⟩ (tt_4 b) rfl (Nat.le_of_ble_eq_true rfl) ⟨Nat.le_of_ble_eq_true rfl, Nat.le_of_ble_eq_true rfl⟩ ⟨Nat.le_refl _, Nat.le_refl _⟩ (ct_X4_isStretch rns (by omega) ?_)
  refine V_if_ne (pc := 8) 18 d_X11_forgeKind_8 (by decide) (fun c8 => ?_) (fun c8 => ?_)
  · replace c8 := zt c8
    rw [nI_toInt (by omega)] at c8
    obtain ⟨kd, hkd, ekd⟩ : rg (σ 140 l) 6 := (hS l (by omega)).2.1
    have hun : (u = 0 ∨ kd = u ∨ (u = 1 ∧ kd = 3)) ↔ unP σ l u := by
      unfold unP
      rw [ekd, nI_eq0 (by omega), nI_eq (by omega) (by omega), nI_eq1 (by omega), nI_eq (by omega) (by omega)]
    refine V_aload_n (pc := 18) d_X11_forgeKind_18 rfl ?_
    refine P_getR (pc := 19) d_X11_forgeKind_19 f_X11_10 (tt_3 b) (rr_3_0 b) ?_
    refine P_getR (pc := 22) d_X11_forgeKind_22 f_X11_62 (tt_4 b) (rr_4_10 b) ?_
    refine V_iload_n (pc := 25) d_X11_forgeKind_25 rfl ?_
    refine P_aald (pc := 26) (c := 7) (l) d_X11_forgeKind_26 (tt_7 b) (by decide) rfl (ln_of (ll_7 b) ⟨by omega, by decide⟩) (rS b (by omega)) ?_
    refine P_getI (pc := 27) d_X11_forgeKind_27 f_X11_89 (tS b (by omega)) ?_
    rw [(cS_f hS (by omega : l < ns)).2.1]
    refine V_istore_n (pc := 30) d_X11_forgeKind_30 (by decide) ?_
    refine V_iload_n (pc := 31) d_X11_forgeKind_31 rfl ?_
    refine V_iload_n (pc := 32) d_X11_forgeKind_32 rfl ?_
    rw [ekd]
    refine V_csI (pc := 33) (n := 1) [_, _] d_X11_forgeKind_33 c_X11_92 k_X11_isUnder rfl (Nat.le_of_ble_eq_true rfl) ⟨Nat.le_of_ble_eq_true rfl, Nat.le_of_ble_eq_true rfl⟩ ⟨Nat.le_refl _, Nat.le_refl _⟩ (ct_X11_isUnder hkd hu ?_)
    refine V_if_eq (pc := 36) 47 d_X11_forgeKind_36 (by decide) (fun c36 => ?_) (fun c36 => ?_)
    · replace c36 := zf c36
      refine V_aload_n (pc := 47) d_X11_forgeKind_47 rfl ?_
      refine V_bipush (pc := 48) (nI 11) d_X11_forgeKind_48 (by decide) ?_
      refine V_cvI (pc := 50) (n := 1) (c := 11) [_] d_X11_forgeKind_50 c_X11_55 k_X11_refused ⟨rfl, rfl⟩ (tt_3 b) rfl (Nat.le_of_ble_eq_true rfl) ⟨Nat.le_of_ble_eq_true rfl, Nat.le_of_ble_eq_true rfl⟩ ⟨Nat.le_refl _, Nat.le_refl _⟩ (ct_X11_refused ?_)
      exact V_retI (pc := 53) d_X11_forgeKind_53 rfl ⟨Nat.le_refl _, Nat.le_refl _⟩ (by rw [fkS] at hq; first | (rw [if_neg (by omega), if_pos (hun.mp c36), ekd] at hq; exact hq) | (rw [if_neg (by omega), if_neg (fun q => c36 (hun.mpr q))] at hq; exact hq))
    · replace c36 := zt c36
      refine V_aload_n (pc := 39) d_X11_forgeKind_39 rfl ?_
      refine V_iload_n (pc := 40) d_X11_forgeKind_40 rfl ?_
      
      refine V_cvI (pc := 41) (n := 1) (c := 11) [_] d_X11_forgeKind_41 c_X11_72 k_X11_done ⟨rfl, rfl⟩ (tt_3 b) rfl (Nat.le_of_ble_eq_true rfl) ⟨Nat.le_of_ble_eq_true rfl, Nat.le_of_ble_eq_true rfl⟩ ⟨Nat.le_refl _, Nat.le_refl _⟩ (ct_X11_done ?_)
      refine V_goto (pc := 44) 53 d_X11_forgeKind_44 (by decide) ?_
      exact V_retI (pc := 53) d_X11_forgeKind_53 rfl ⟨Nat.le_refl _, Nat.le_refl _⟩ (by rw [fkS] at hq; first | (rw [if_neg (by omega), if_pos (hun.mp c36), ekd] at hq; exact hq) | (rw [if_neg (by omega), if_neg (fun q => c36 (hun.mpr q))] at hq; exact hq))
  · replace c8 := zf c8
    rw [nI_toInt (by omega)] at c8
    refine V_aload_n (pc := 11) d_X11_forgeKind_11 rfl ?_
    refine V_bipush (pc := 12) (nI 10) d_X11_forgeKind_12 (by decide) ?_
    refine V_cvI (pc := 14) (n := 1) (c := 11) [_] d_X11_forgeKind_14 c_X11_55 k_X11_refused ⟨rfl, rfl⟩ (tt_3 b) rfl (Nat.le_of_ble_eq_true rfl) ⟨Nat.le_of_ble_eq_true rfl, Nat.le_of_ble_eq_true rfl⟩ ⟨Nat.le_refl _, Nat.le_refl _⟩ (ct_X11_refused ?_)
    exact V_retI (pc := 17) d_X11_forgeKind_17 rfl ⟨Nat.le_refl _, Nat.le_refl _⟩ (by rw [fkS] at hq; first | (rw [if_pos (by omega)] at hq; exact hq))
theorem ct_X11_forgeRow {l q ns nb nl nt nr : Nat} (hR : RR σ 4 σ q ns nb nl nt nr) (hl : l < 10) (hq : K (frS σ ns l).2 (up2 σ 3 3 (frS σ ns l).1, sh b)) : CM G mX11_forgeRow (rl 3) [.ref 3, .int (nI l)] (σ, sh b) (QI K) := by
  obtain ⟨⟨⟨hq2, hn10, hnb, hnl, hnt, hnr⟩, ⟨vq, vns, vnb, vnl, vnt, vnr⟩, ⟨rq, rns, rnb, rnl, rnt, rnr⟩, hpd⟩, hH, hC, hS, hLD, hB, hA, hT, hU⟩ := id hR
  refine CM.of (by decide) (Nat.le_of_ble_eq_true rfl) (cats1 rfl) ?_
  refine V_aload_n (pc := 0) d_X11_forgeRow_0 rfl ?_
  refine P_getR (pc := 1) d_X11_forgeRow_1 f_X11_10 (tt_3 b) (rr_3_0 b) ?_
  refine V_iload_n (pc := 4) d_X11_forgeRow_4 rfl ?_
  refine V_cvI (pc := 5) (n := 2) (c := 4) [_] d_X11_forgeRow_5 c_X11_86 k_X4_isStretch ⟨rfl, rfl⟩ (tt_4 b) rfl (Nat.le_of_ble_eq_true rfl) ⟨Nat.le_of_ble_eq_true rfl, Nat.le_of_ble_eq_true rfl⟩ ⟨Nat.le_refl _, Nat.le_refl _⟩ (ct_X4_isStretch rns (by omega) ?_)
  refine V_if_ne (pc := 8) 17 d_X11_forgeRow_8 (by decide) (fun c8 => ?_) (fun c8 => ?_)
  · replace c8 := zt c8
    rw [nI_toInt (by omega)] at c8
    obtain ⟨kd, hkd, ekd⟩ : rg (σ 140 l) 6 := (hS l (by omega)).2.1
    have hun : ((1 : Nat) = 0 ∨ kd = 1 ∨ ((1 : Nat) = 1 ∧ kd = 3)) ↔ (σ 140 l = 1 ∨ σ 140 l = nI 3) := by
      rw [ekd, nI_eq1 (by omega), nI_eq (by omega) (by omega)]
      omega
    refine V_aload_n (pc := 17) d_X11_forgeRow_17 rfl ?_
    refine P_getR (pc := 18) d_X11_forgeRow_18 f_X11_10 (tt_3 b) (rr_3_0 b) ?_
    refine P_getR (pc := 21) d_X11_forgeRow_21 f_X11_62 (tt_4 b) (rr_4_10 b) ?_
    refine V_iload_n (pc := 24) d_X11_forgeRow_24 rfl ?_
    refine P_aald (pc := 25) (c := 7) (l) d_X11_forgeRow_25 (tt_7 b) (by decide) rfl (ln_of (ll_7 b) ⟨by omega, by decide⟩) (rS b (by omega)) ?_
    refine P_getI (pc := 26) d_X11_forgeRow_26 f_X11_89 (tS b (by omega)) ?_
    rw [(cS_f hS (by omega : l < ns)).2.1]
    refine V_istore_n (pc := 29) d_X11_forgeRow_29 (by decide) ?_
    refine V_iload_n (pc := 30) d_X11_forgeRow_30 rfl ?_
    refine V_iconst (pc := 31) (1) d_X11_forgeRow_31 (by decide) ?_
    rw [ekd]
    refine V_csI (pc := 32) (n := 1) [_, _] d_X11_forgeRow_32 c_X11_92 k_X11_isUnder rfl (Nat.le_of_ble_eq_true rfl) ⟨Nat.le_of_ble_eq_true rfl, Nat.le_of_ble_eq_true rfl⟩ ⟨Nat.le_refl _, Nat.le_refl _⟩ (ct_X11_isUnder (u := 1) hkd (by decide) ?_)
    refine V_if_eq (pc := 35) 46 d_X11_forgeRow_35 (by decide) (fun c35 => ?_) (fun c35 => ?_)
    · replace c35 := zf c35
      refine V_aload_n (pc := 46) d_X11_forgeRow_46 rfl ?_
      refine V_bipush (pc := 47) (nI 14) d_X11_forgeRow_47 (by decide) ?_
      refine V_cvI (pc := 49) (n := 1) (c := 11) [_] d_X11_forgeRow_49 c_X11_55 k_X11_refused ⟨rfl, rfl⟩ (tt_3 b) rfl (Nat.le_of_ble_eq_true rfl) ⟨Nat.le_of_ble_eq_true rfl, Nat.le_of_ble_eq_true rfl⟩ ⟨Nat.le_refl _, Nat.le_refl _⟩ (ct_X11_refused ?_)
      exact V_retI (pc := 52) d_X11_forgeRow_52 rfl ⟨Nat.le_refl _, Nat.le_refl _⟩ (by rw [frS] at hq; first | (rw [if_neg (by omega), if_pos (hun.mp c35), ekd] at hq; exact hq) | (rw [if_neg (by omega), if_neg (fun q => c35 (hun.mpr q))] at hq; exact hq))
    · replace c35 := zt c35
      refine V_aload_n (pc := 38) d_X11_forgeRow_38 rfl ?_
      refine V_iload_n (pc := 39) d_X11_forgeRow_39 rfl ?_
      refine V_cvI (pc := 40) (n := 1) (c := 11) [_] d_X11_forgeRow_40 c_X11_72 k_X11_done ⟨rfl, rfl⟩ (tt_3 b) rfl (Nat.le_of_ble_eq_true rfl) ⟨Nat.le_of_ble_eq_true rfl, Nat.le_of_ble_eq_true rfl⟩ ⟨Nat.le_refl _, Nat.le_refl _⟩ (ct_X11_done ?_)
      refine V_goto (pc := 43) 52 d_X11_forgeRow_43 (by decide) ?_
      exact V_retI (pc := 52) d_X11_forgeRow_52 rfl ⟨Nat.le_refl _, Nat.le_refl _⟩ (by rw [frS] at hq; first | (rw [if_neg (by omega), if_pos (hun.mp c35), ekd] at hq; exact hq) | (rw [if_neg (by omega), if_neg (fun q => c35 (hun.mpr q))] at hq; exact hq))
  · replace c8 := zf c8
    rw [nI_toInt (by omega)] at c8
    refine V_aload_n (pc := 11) d_X11_forgeRow_11 rfl ?_
    refine V_iconst (pc := 12) (0) d_X11_forgeRow_12 (by decide) ?_
    refine V_cvI (pc := 13) (n := 1) (c := 11) [_] d_X11_forgeRow_13 c_X11_72 k_X11_done ⟨rfl, rfl⟩ (tt_3 b) rfl (Nat.le_of_ble_eq_true rfl) ⟨Nat.le_of_ble_eq_true rfl, Nat.le_of_ble_eq_true rfl⟩ ⟨Nat.le_refl _, Nat.le_refl _⟩ (ct_X11_done ?_)
    exact V_retI (pc := 16) d_X11_forgeRow_16 rfl ⟨Nat.le_refl _, Nat.le_refl _⟩ (by rw [frS] at hq; first | (rw [if_pos (by omega)] at hq; exact hq))
theorem ct_X11_forgeShort {s : Nat} {y : Int32} (hQ : cQ σ) (hs : s < 4) (hq : K (fsS σ s y).2 (up2 σ 3 3 (fsS σ s y).1, sh b)) : CM G mX11_forgeShort (rl 3) [.ref 3, .ref (131 + 2 * s), .int y] (σ, sh b) (QI K) := by
  obtain ⟨q1, q2, q3, ⟨N, hN, en⟩, q5⟩ := hQ s hs
  refine CM.of (by decide) (Nat.le_of_ble_eq_true rfl) (cats1 rfl) ?_
  refine V_aload_n (pc := 0) d_X11_forgeShort_0 rfl ?_
  refine V_iconst (pc := 1) (1) d_X11_forgeShort_1 (by decide) ?_
  refine V_cvI (pc := 2) (n := 2) (c := 6) [_] d_X11_forgeShort_2 c_X11_339 k_X6_faultAs ⟨rfl, rfl⟩ (tSHT b (by omega)) rfl (Nat.le_of_ble_eq_true rfl) ⟨Nat.le_of_ble_eq_true rfl, Nat.le_of_ble_eq_true rfl⟩ ⟨Nat.le_refl _, Nat.le_refl _⟩ (ct_X6_faultAs (tSHT b (by omega)) ?_)
  rw [q1]
  by_cases m1 : σ 188 s = -1
  · rw [if_pos m1]
    refine V_istore_n (pc := 5) d_X11_forgeShort_5 (by decide) ?_
    refine V_iload_n (pc := 6) d_X11_forgeShort_6 rfl ?_
    refine V_if_eq (pc := 7) 16 d_X11_forgeShort_7 (by decide) (fun c7 => ?_) (fun c7 => ?_)
    · exact absurd c7 (by decide)
    · refine V_aload_n (pc := 10) d_X11_forgeShort_10 rfl ?_
      refine V_iload_n (pc := 11) d_X11_forgeShort_11 rfl ?_
      refine V_cvI (pc := 12) (n := 1) (c := 11) [_] d_X11_forgeShort_12 c_X11_55 k_X11_refused ⟨rfl, rfl⟩ (tt_3 b) rfl (Nat.le_of_ble_eq_true rfl) ⟨Nat.le_of_ble_eq_true rfl, Nat.le_of_ble_eq_true rfl⟩ ⟨Nat.le_refl _, Nat.le_refl _⟩ (ct_X11_refused ?_)
      exact V_retI (pc := 15) d_X11_forgeShort_15 rfl ⟨Nat.le_refl _, Nat.le_refl _⟩ (by rw [fsS] at hq; first | (rw [if_pos m1] at hq; exact hq) | (rw [if_neg m1, if_pos m2] at hq; exact hq))
  by_cases m2 : σ 188 s = 1
  · rw [if_neg m1, if_pos m2]
    refine V_istore_n (pc := 5) d_X11_forgeShort_5 (by decide) ?_
    refine V_iload_n (pc := 6) d_X11_forgeShort_6 rfl ?_
    refine V_if_eq (pc := 7) 16 d_X11_forgeShort_7 (by decide) (fun c7 => ?_) (fun c7 => ?_)
    · refine V_aload_n (pc := 16) d_X11_forgeShort_16 rfl ?_
      refine V_iload_n (pc := 17) d_X11_forgeShort_17 rfl ?_
      refine V_cvI (pc := 18) (n := 2) (c := 6) [_] d_X11_forgeShort_18 c_X11_333 k_X6_hasPlace ⟨rfl, rfl⟩ (tSHT b (by omega)) rfl (Nat.le_of_ble_eq_true rfl) ⟨Nat.le_of_ble_eq_true rfl, Nat.le_of_ble_eq_true rfl⟩ ⟨Nat.le_refl _, Nat.le_refl _⟩ (ct_X6_hasPlace (tSHT b (by omega)) (q2.trans en) hN ?_)
      refine V_if_eq (pc := 21) 37 d_X11_forgeShort_21 (by decide) (fun c21 => ?_) (fun c21 => ?_)
      · replace c21 := zf c21
        refine V_aload_n (pc := 37) d_X11_forgeShort_37 rfl ?_
        refine V_bipush (pc := 38) (nI 12) d_X11_forgeShort_38 (by decide) ?_
        refine V_cvI (pc := 40) (n := 1) (c := 11) [_] d_X11_forgeShort_40 c_X11_55 k_X11_refused ⟨rfl, rfl⟩ (tt_3 b) rfl (Nat.le_of_ble_eq_true rfl) ⟨Nat.le_of_ble_eq_true rfl, Nat.le_of_ble_eq_true rfl⟩ ⟨Nat.le_refl _, Nat.le_refl _⟩ (ct_X11_refused ?_)
        exact V_retI (pc := 43) d_X11_forgeShort_43 rfl ⟨Nat.le_refl _, Nat.le_refl _⟩ (by rw [fsS, if_neg m1, if_neg (fun q => q m2), en, show (nI N).toInt = (N : Int) from nI_toInt (by omega)] at hq; first | (rw [if_neg c21] at hq; exact hq) | (rw [if_pos c21, nI_clamp (by omega)] at hq; exact hq))
      · replace c21 := zt c21
        obtain ⟨j, hj, rfl, -⟩ := nat_of (n := N) (x := y) (by omega) (by omega) (by omega)
        have nm : ∀ j, j < 40 → σ (132 + 2 * s) j = σ 190 (40 * s + j) := fun j hj => by
          rcases (q5 j hj).2.2 with g | g
          · exact g.2
          · rw [m2] at g; exact absurd g.2.1 (by decide)
        refine V_aload_n (pc := 24) d_X11_forgeShort_24 rfl ?_
        refine V_aload_n (pc := 25) d_X11_forgeShort_25 rfl ?_
        refine P_getR (pc := 26) d_X11_forgeShort_26 f_X11_342 (tSHT b (by omega)) (rSHT2 b (by omega)) ?_
        refine V_iload_n (pc := 29) d_X11_forgeShort_29 rfl ?_
        refine P_iald (pc := 30) (j) d_X11_forgeShort_30 (tNUM b (by omega)) rfl (ln_of (lNUM b (by omega)) ⟨by omega, by decide⟩) ?_
        rw [nm j (by omega)]
        refine V_cvI (pc := 31) (n := 1) (c := 11) [_] d_X11_forgeShort_31 c_X11_72 k_X11_done ⟨rfl, rfl⟩ (tt_3 b) rfl (Nat.le_of_ble_eq_true rfl) ⟨Nat.le_of_ble_eq_true rfl, Nat.le_of_ble_eq_true rfl⟩ ⟨Nat.le_refl _, Nat.le_refl _⟩ (ct_X11_done ?_)
        refine V_goto (pc := 34) 43 d_X11_forgeShort_34 (by decide) ?_
        exact V_retI (pc := 43) d_X11_forgeShort_43 rfl ⟨Nat.le_refl _, Nat.le_refl _⟩ (by rw [fsS, if_neg m1, if_neg (fun q => q m2), en, show (nI N).toInt = (N : Int) from nI_toInt (by omega)] at hq; first | (rw [if_neg c21] at hq; exact hq) | (rw [if_pos c21, nI_clamp (by omega)] at hq; exact hq))
    · exact absurd (by decide) c7
  rw [if_neg m1, if_neg m2]
  refine V_istore_n (pc := 5) d_X11_forgeShort_5 (by decide) ?_
  refine V_iload_n (pc := 6) d_X11_forgeShort_6 rfl ?_
  refine V_if_eq (pc := 7) 16 d_X11_forgeShort_7 (by decide) (fun c7 => ?_) (fun c7 => ?_)
  · exact absurd c7 (by decide)
  · refine V_aload_n (pc := 10) d_X11_forgeShort_10 rfl ?_
    refine V_iload_n (pc := 11) d_X11_forgeShort_11 rfl ?_
    refine V_cvI (pc := 12) (n := 1) (c := 11) [_] d_X11_forgeShort_12 c_X11_55 k_X11_refused ⟨rfl, rfl⟩ (tt_3 b) rfl (Nat.le_of_ble_eq_true rfl) ⟨Nat.le_of_ble_eq_true rfl, Nat.le_of_ble_eq_true rfl⟩ ⟨Nat.le_refl _, Nat.le_refl _⟩ (ct_X11_refused ?_)
    exact V_retI (pc := 15) d_X11_forgeShort_15 rfl ⟨Nat.le_refl _, Nat.le_refl _⟩ (by rw [fsS] at hq; first | (rw [if_pos m1] at hq; exact hq) | (rw [if_neg m1, if_pos m2] at hq; exact hq))
theorem lp_sm {s m : Nat}  (hs : s < 4) (hm : m ≤ 3) (nm : ∀ j, j < 40 → σ (132 + 2 * s) j = σ 190 (40 * s + j)) (hE : V G mX11_forgeCopy (rl 3) F 0 0 75 [some (.ref 3), some (.ref (131 + 2 * s)), some (.int (nI m)), some (.int 0), some (.int (smS σ s m)), some (.int (nI (1 + m)))] [] (σ, sh b)) : ∀ n, n ≤ m → ∀ j, j + n = m → V G mX11_forgeCopy (rl 3) F 0 0 51 [some (.ref 3), some (.ref (131 + 2 * s)), some (.int (nI m)), some (.int 0), some (.int (smS σ s j)), some (.int (nI (1 + j)))] [] (σ, sh b) := by
  intro n
  induction n with
  | zero =>
    intro hx j hj
    obtain rfl : j = m := by omega
    refine V_iload (pc := 51) d_X11_forgeCopy_51 rfl ?_
    refine V_iload_n (pc := 53) d_X11_forgeCopy_53 rfl ?_
    refine B_icmp_gt (pc := 54) 75 d_X11_forgeCopy_54 (by decide) (fun c54 => ?_) (fun c54 => ?_)
    · simp (disch := omega) only [nI_toInt, ti0, ti1, tim1, tim20, tim1000] at c54
      exact hE
    · simp (disch := omega) only [nI_toInt, ti0, ti1, tim1, tim20, tim1000] at c54
      all_goals omega
  | succ n ih =>
    intro hx j hj
    refine V_iload (pc := 51) d_X11_forgeCopy_51 rfl ?_
    refine V_iload_n (pc := 53) d_X11_forgeCopy_53 rfl ?_
    refine B_icmp_gt (pc := 54) 75 d_X11_forgeCopy_54 (by decide) (fun c54 => ?_) (fun c54 => ?_)
    · simp (disch := omega) only [nI_toInt, ti0, ti1, tim1, tim20, tim1000] at c54
      all_goals omega
    · simp (disch := omega) only [nI_toInt, ti0, ti1, tim1, tim20, tim1000] at c54
      refine V_iload (pc := 57) d_X11_forgeCopy_57 rfl ?_
      refine V_aload_n (pc := 59) d_X11_forgeCopy_59 rfl ?_
      refine P_getR (pc := 60) d_X11_forgeCopy_60 f_X11_342 (tSHT b (by omega)) (rSHT2 b (by omega)) ?_
      refine V_iload (pc := 63) d_X11_forgeCopy_63 rfl ?_
      refine P_iald (pc := 65) ((1 + j)) d_X11_forgeCopy_65 (tNUM b (by omega)) (by simp only [nI_add, pk_mul, nI_1]) (ln_of (lNUM b (by omega)) ⟨by omega, by decide⟩) ?_
      rw [nm _ (by omega)]
      refine V_iadd (pc := 66) d_X11_forgeCopy_66 ?_
      refine V_istore (pc := 67) d_X11_forgeCopy_67 (by decide) ?_
      refine V_iinc (pc := 69) d_X11_forgeCopy_69 rfl (by decide) ?_
      refine V_goto (pc := 72) 51 d_X11_forgeCopy_72 (by decide) ?_
      rw [p1_s]
      exact ih (by omega) (j + 1) (by omega)
theorem ct_X11_forgeCopy {s : Nat} {y : Int32} (hQ : cQ σ) (hs : s < 4) (hy : -100 ≤ y.toInt ∧ y.toInt ≤ 100) (hq : K (fcS σ s y).2 (up2 σ 3 3 (fcS σ s y).1, sh b)) : CM G mX11_forgeCopy (rl 3) [.ref 3, .ref (131 + 2 * s), .int y] (σ, sh b) (QI K) := by
  obtain ⟨q1, q2, q3, ⟨N, hN, en⟩, q5⟩ := hQ s hs
  refine CM.of (by decide) (Nat.le_of_ble_eq_true rfl) (cats1 rfl) ?_
  refine V_aload_n (pc := 0) d_X11_forgeCopy_0 rfl ?_
  refine V_iconst (pc := 1) (0) d_X11_forgeCopy_1 (by decide) ?_
  refine V_cvI (pc := 2) (n := 2) (c := 6) [_] d_X11_forgeCopy_2 c_X11_339 k_X6_faultAs ⟨rfl, rfl⟩ (tSHT b (by omega)) rfl (Nat.le_of_ble_eq_true rfl) ⟨Nat.le_of_ble_eq_true rfl, Nat.le_of_ble_eq_true rfl⟩ ⟨Nat.le_refl _, Nat.le_refl _⟩ (ct_X6_faultAs (tSHT b (by omega)) ?_)
  rw [q1]
  by_cases m1 : σ 188 s = -1
  · rw [if_pos m1]
    refine V_istore_n (pc := 5) d_X11_forgeCopy_5 (by decide) ?_
    refine V_iload_n (pc := 6) d_X11_forgeCopy_6 rfl ?_
    refine V_if_eq (pc := 7) 16 d_X11_forgeCopy_7 (by decide) (fun c7 => ?_) (fun c7 => ?_)
    · exact absurd c7 (by decide)
    · refine V_aload_n (pc := 10) d_X11_forgeCopy_10 rfl ?_
      refine V_iload_n (pc := 11) d_X11_forgeCopy_11 rfl ?_
      refine V_cvI (pc := 12) (n := 1) (c := 11) [_] d_X11_forgeCopy_12 c_X11_55 k_X11_refused ⟨rfl, rfl⟩ (tt_3 b) rfl (Nat.le_of_ble_eq_true rfl) ⟨Nat.le_of_ble_eq_true rfl, Nat.le_of_ble_eq_true rfl⟩ ⟨Nat.le_refl _, Nat.le_refl _⟩ (ct_X11_refused ?_)
      exact V_retI (pc := 15) d_X11_forgeCopy_15 rfl ⟨Nat.le_refl _, Nat.le_refl _⟩ (by rw [fcS] at hq; first | (rw [if_pos m1] at hq; exact hq) | (rw [if_neg m1, if_pos m2] at hq; exact hq))
  by_cases m2 : σ 188 s = 0
  · rw [if_neg m1, if_pos m2]
    refine V_istore_n (pc := 5) d_X11_forgeCopy_5 (by decide) ?_
    refine V_iload_n (pc := 6) d_X11_forgeCopy_6 rfl ?_
    refine V_if_eq (pc := 7) 16 d_X11_forgeCopy_7 (by decide) (fun c7 => ?_) (fun c7 => ?_)
    · by_cases hc : 0 ≤ y.toInt ∧ y.toInt + 1 ≤ (N : Int) ∧ y.toInt ≤ 3
      · obtain ⟨m, hm, rfl, -⟩ := nat_of (n := 4) (x := y) (by omega) (by omega) (by omega)
        rw [nI_toInt (by omega)] at hc
        have nm : ∀ j, j < 40 → σ (132 + 2 * s) j = σ 190 (40 * s + j) := fun j hj => by
          rcases (q5 j hj).2.2 with g | g
          · exact g.2
          · rw [m2] at g; exact absurd g.2.1 (by decide)
        have hq2 : K (smS σ s m) (up2 σ 3 3 0, sh b) := by
          rw [fcS, if_neg m1, if_neg (fun q => q m2), en, show (nI N).toInt = (N : Int) from nI_toInt (by omega), if_pos (by rw [nI_toInt (by omega)]; exact hc), nI_clamp (by omega)] at hq
          exact hq
        refine V_iload_n (pc := 16) d_X11_forgeCopy_16 rfl ?_
        refine B_if_lt (pc := 17) 38 d_X11_forgeCopy_17 (by decide) (fun c17 => ?_) (fun c17 => ?_)
        · simp (disch := omega) only [nI_toInt, ti0, ti1, tim1, tim20, tim1000] at c17
          all_goals omega
        · simp (disch := omega) only [nI_toInt, ti0, ti1, tim1, tim20, tim1000] at c17
          refine V_iconst (pc := 20) (1) d_X11_forgeCopy_20 (by decide) ?_
          refine V_iload_n (pc := 21) d_X11_forgeCopy_21 rfl ?_
          refine V_iadd (pc := 22) d_X11_forgeCopy_22 ?_
          rw [show (1 : Int32) + nI m = nI (1 + m) from by rw [show (1 : Int32) = nI 1 from by decide, nI_add]]
          refine V_aload_n (pc := 23) d_X11_forgeCopy_23 rfl ?_
          refine P_getI (pc := 24) d_X11_forgeCopy_24 f_X11_375 (tSHT b (by omega)) ?_
          rw [q2, en]
          refine B_icmp_gt (pc := 27) 38 d_X11_forgeCopy_27 (by decide) (fun c27 => ?_) (fun c27 => ?_)
          · simp (disch := omega) only [nI_toInt, ti0, ti1, tim1, tim20, tim1000] at c27
            all_goals omega
          · simp (disch := omega) only [nI_toInt, ti0, ti1, tim1, tim20, tim1000] at c27
            refine V_iload_n (pc := 30) d_X11_forgeCopy_30 rfl ?_
            refine V_iload_n (pc := 31) d_X11_forgeCopy_31 rfl ?_
            refine V_iadd (pc := 32) d_X11_forgeCopy_32 ?_
            rw [nI_add]
            refine V_bipush (pc := 33) (nI 6) d_X11_forgeCopy_33 (by decide) ?_
            refine B_icmp_le (pc := 35) 45 d_X11_forgeCopy_35 (by decide) (fun c35 => ?_) (fun c35 => ?_)
            · simp (disch := omega) only [show (nI 6).toInt = 6 from by decide, nI_toInt, ti0, ti1, tim1, tim20, tim1000] at c35
              refine V_iconst (pc := 45) (0) d_X11_forgeCopy_45 (by decide) ?_
              refine V_istore (pc := 46) d_X11_forgeCopy_46 (by decide) ?_
              refine V_iconst (pc := 48) (1) d_X11_forgeCopy_48 (by decide) ?_
              refine V_istore (pc := 49) d_X11_forgeCopy_49 (by decide) ?_
              refine lp_sm (F := FM G (rl 3) (QI K)) hs (by omega) nm ?_ m (Nat.le_refl _) 0 (by omega)
              refine V_aload_n (pc := 75) d_X11_forgeCopy_75 rfl ?_
              refine V_iload (pc := 76) d_X11_forgeCopy_76 rfl ?_
              refine V_cvI (pc := 78) (n := 1) (c := 11) [_] d_X11_forgeCopy_78 c_X11_72 k_X11_done ⟨rfl, rfl⟩ (tt_3 b) rfl (Nat.le_of_ble_eq_true rfl) ⟨Nat.le_of_ble_eq_true rfl, Nat.le_of_ble_eq_true rfl⟩ ⟨Nat.le_refl _, Nat.le_refl _⟩ (ct_X11_done ?_)
              exact V_retI (pc := 81) d_X11_forgeCopy_81 rfl ⟨Nat.le_refl _, Nat.le_refl _⟩ hq2
            · simp (disch := omega) only [show (nI 6).toInt = 6 from by decide, nI_toInt, ti0, ti1, tim1, tim20, tim1000] at c35
              all_goals omega
      have hq2 : K (-1) (up2 σ 3 3 (nI 12), sh b) := by
        rw [fcS, if_neg m1, if_neg (fun q => q m2), en, show (nI N).toInt = (N : Int) from nI_toInt (by omega), if_neg hc] at hq
        exact hq
      refine V_iload_n (pc := 16) d_X11_forgeCopy_16 rfl ?_
      refine B_if_lt (pc := 17) 38 d_X11_forgeCopy_17 (by decide) (fun c17 => ?_) (fun c17 => ?_)
      · refine V_aload_n (pc := 38) d_X11_forgeCopy_38 rfl ?_
        refine V_bipush (pc := 39) (nI 12) d_X11_forgeCopy_39 (by decide) ?_
        refine V_cvI (pc := 41) (n := 1) (c := 11) [_] d_X11_forgeCopy_41 c_X11_55 k_X11_refused ⟨rfl, rfl⟩ (tt_3 b) rfl (Nat.le_of_ble_eq_true rfl) ⟨Nat.le_of_ble_eq_true rfl, Nat.le_of_ble_eq_true rfl⟩ ⟨Nat.le_refl _, Nat.le_refl _⟩ (ct_X11_refused ?_)
        exact V_retI (pc := 44) d_X11_forgeCopy_44 rfl ⟨Nat.le_refl _, Nat.le_refl _⟩ hq2
      · obtain ⟨m, hm, rfl, -⟩ := nat_of (n := 101) (x := y) (by omega) (by omega) (by omega)
        rw [nI_toInt (by omega)] at hc
        refine V_iconst (pc := 20) (1) d_X11_forgeCopy_20 (by decide) ?_
        refine V_iload_n (pc := 21) d_X11_forgeCopy_21 rfl ?_
        refine V_iadd (pc := 22) d_X11_forgeCopy_22 ?_
        rw [show (1 : Int32) + nI m = nI (1 + m) from by rw [show (1 : Int32) = nI 1 from by decide, nI_add]]
        refine V_aload_n (pc := 23) d_X11_forgeCopy_23 rfl ?_
        refine P_getI (pc := 24) d_X11_forgeCopy_24 f_X11_375 (tSHT b (by omega)) ?_
        rw [q2, en]
        refine B_icmp_gt (pc := 27) 38 d_X11_forgeCopy_27 (by decide) (fun c27 => ?_) (fun c27 => ?_)
        · simp (disch := omega) only [nI_toInt, ti0, ti1, tim1, tim20, tim1000] at c27
          refine V_aload_n (pc := 38) d_X11_forgeCopy_38 rfl ?_
          refine V_bipush (pc := 39) (nI 12) d_X11_forgeCopy_39 (by decide) ?_
          refine V_cvI (pc := 41) (n := 1) (c := 11) [_] d_X11_forgeCopy_41 c_X11_55 k_X11_refused ⟨rfl, rfl⟩ (tt_3 b) rfl (Nat.le_of_ble_eq_true rfl) ⟨Nat.le_of_ble_eq_true rfl, Nat.le_of_ble_eq_true rfl⟩ ⟨Nat.le_refl _, Nat.le_refl _⟩ (ct_X11_refused ?_)
          exact V_retI (pc := 44) d_X11_forgeCopy_44 rfl ⟨Nat.le_refl _, Nat.le_refl _⟩ hq2
        · simp (disch := omega) only [nI_toInt, ti0, ti1, tim1, tim20, tim1000] at c27
          refine V_iload_n (pc := 30) d_X11_forgeCopy_30 rfl ?_
          refine V_iload_n (pc := 31) d_X11_forgeCopy_31 rfl ?_
          refine V_iadd (pc := 32) d_X11_forgeCopy_32 ?_
          rw [nI_add]
          refine V_bipush (pc := 33) (nI 6) d_X11_forgeCopy_33 (by decide) ?_
          refine B_icmp_le (pc := 35) 45 d_X11_forgeCopy_35 (by decide) (fun c35 => ?_) (fun c35 => ?_)
          · simp (disch := omega) only [show (nI 6).toInt = 6 from by decide, nI_toInt, ti0, ti1, tim1, tim20, tim1000] at c35
            exfalso
            omega
          · simp (disch := omega) only [show (nI 6).toInt = 6 from by decide, nI_toInt, ti0, ti1, tim1, tim20, tim1000] at c35
            refine V_aload_n (pc := 38) d_X11_forgeCopy_38 rfl ?_
            refine V_bipush (pc := 39) (nI 12) d_X11_forgeCopy_39 (by decide) ?_
            refine V_cvI (pc := 41) (n := 1) (c := 11) [_] d_X11_forgeCopy_41 c_X11_55 k_X11_refused ⟨rfl, rfl⟩ (tt_3 b) rfl (Nat.le_of_ble_eq_true rfl) ⟨Nat.le_of_ble_eq_true rfl, Nat.le_of_ble_eq_true rfl⟩ ⟨Nat.le_refl _, Nat.le_refl _⟩ (ct_X11_refused ?_)
            exact V_retI (pc := 44) d_X11_forgeCopy_44 rfl ⟨Nat.le_refl _, Nat.le_refl _⟩ hq2
    · exact absurd (by decide) c7
  rw [if_neg m1, if_neg m2]
  refine V_istore_n (pc := 5) d_X11_forgeCopy_5 (by decide) ?_
  refine V_iload_n (pc := 6) d_X11_forgeCopy_6 rfl ?_
  refine V_if_eq (pc := 7) 16 d_X11_forgeCopy_7 (by decide) (fun c7 => ?_) (fun c7 => ?_)
  · exact absurd c7 (by decide)
  · refine V_aload_n (pc := 10) d_X11_forgeCopy_10 rfl ?_
    refine V_iload_n (pc := 11) d_X11_forgeCopy_11 rfl ?_
    refine V_cvI (pc := 12) (n := 1) (c := 11) [_] d_X11_forgeCopy_12 c_X11_55 k_X11_refused ⟨rfl, rfl⟩ (tt_3 b) rfl (Nat.le_of_ble_eq_true rfl) ⟨Nat.le_of_ble_eq_true rfl, Nat.le_of_ble_eq_true rfl⟩ ⟨Nat.le_refl _, Nat.le_refl _⟩ (ct_X11_refused ?_)
    exact V_retI (pc := 15) d_X11_forgeCopy_15 rfl ⟨Nat.le_refl _, Nat.le_refl _⟩ (by rw [fcS] at hq; first | (rw [if_pos m1] at hq; exact hq) | (rw [if_neg m1, if_pos m2] at hq; exact hq))
theorem ct_X12_shorts {s : Nat} {y : Int32} (hQ : ∀ s, s < 4 → ∃ n, n ≤ 40 ∧ σ 189 s = nI n) (hs : s < 4) (hq : K (fsS σ s y).2 (up2 σ 139 0 (fsS σ s y).1, sh b)) : CM G mX12_shorts (rl 2) [.ref 139, .int y, .int (nI s)] (σ, sh b) (QI K) := by
  obtain ⟨N, hN, en⟩ := hQ s hs
  refine CM.of (by decide) (Nat.le_of_ble_eq_true rfl) (cats1 rfl) ?_
  refine V_aload_n (pc := 0) d_X12_shorts_0 rfl ?_
  refine P_getR (pc := 1) d_X12_shorts_1 f_X12_155 (tt_139 b) (rr_139_60 b) ?_
  refine V_iload_n (pc := 4) d_X12_shorts_4 rfl ?_
  refine P_iald (pc := 5) (s) d_X12_shorts_5 (tt_188 b) rfl (ln_of (ll_188 b) ⟨by omega, by decide⟩) ?_
  refine V_iconst (pc := 6) (-1) d_X12_shorts_6 (by decide) ?_
  refine V_icmp_eq (pc := 7) 27 d_X12_shorts_7 (by decide) (fun c7 => ?_) (fun c7 => ?_)
  · refine V_aload_n (pc := 27) d_X12_shorts_27 rfl ?_
    refine P_getR (pc := 28) d_X12_shorts_28 f_X12_155 (tt_139 b) (rr_139_60 b) ?_
    refine V_iload_n (pc := 31) d_X12_shorts_31 rfl ?_
    refine P_iald (pc := 32) (s) d_X12_shorts_32 (tt_188 b) rfl (ln_of (ll_188 b) ⟨by omega, by decide⟩) ?_
    refine V_iconst (pc := 33) (-1) d_X12_shorts_33 (by decide) ?_
    refine V_icmp_ne (pc := 34) 44 d_X12_shorts_34 (by decide) (fun c34 => ?_) (fun c34 => ?_)
    · refine V_iload_n (pc := 44) d_X12_shorts_44 rfl ?_
      refine V_iconst (pc := 45) (0) d_X12_shorts_45 (by decide) ?_
      refine V_aload_n (pc := 46) d_X12_shorts_46 rfl ?_
      refine P_getR (pc := 47) d_X12_shorts_47 f_X12_158 (tt_139 b) (rr_139_61 b) ?_
      refine V_iload_n (pc := 50) d_X12_shorts_50 rfl ?_
      refine P_iald (pc := 51) (s) d_X12_shorts_51 (tt_189 b) rfl (ln_of (ll_189 b) ⟨by omega, by decide⟩) ?_
      refine V_iconst (pc := 52) (1) d_X12_shorts_52 (by decide) ?_
      refine V_isub (pc := 53) d_X12_shorts_53 ?_
      refine V_csI (pc := 54) (n := 1) [_, _, _] d_X12_shorts_54 c_X12_174 k_X12_in rfl (Nat.le_of_ble_eq_true rfl) ⟨Nat.le_of_ble_eq_true rfl, Nat.le_of_ble_eq_true rfl⟩ ⟨Nat.le_refl _, Nat.le_refl _⟩ (ct_X12_in (lo := 0) (hi := (N : Int) - 1) (by decide) (cntm1 en (by omega)) ?_)
      refine V_if_eq (pc := 57) 78 d_X12_shorts_57 (by decide) (fun c57 => ?_) (fun c57 => ?_)
      · replace c57 := zf c57
        refine V_aload_n (pc := 78) d_X12_shorts_78 rfl ?_
        refine V_bipush (pc := 79) (nI 12) d_X12_shorts_79 (by decide) ?_
        refine V_cvI (pc := 81) (n := 1) (c := 12) [_] d_X12_shorts_81 c_X12_187 k_X12_refused ⟨rfl, rfl⟩ (tt_139 b) rfl (Nat.le_of_ble_eq_true rfl) ⟨Nat.le_of_ble_eq_true rfl, Nat.le_of_ble_eq_true rfl⟩ ⟨Nat.le_refl _, Nat.le_refl _⟩ (ct_X12_refused ?_)
        exact V_retI (pc := 84) d_X12_shorts_84 rfl ⟨Nat.le_refl _, Nat.le_refl _⟩ (by first | exact absurd c7 c34 | (rw [fsS, if_neg c34, if_neg (fun q => q c17), en, show (nI N).toInt = (N : Int) from nI_toInt (by omega)] at hq; first | (rw [if_neg c57] at hq; exact hq) | (rw [if_pos c57, nI_clamp (by omega)] at hq; exact hq)))
      · replace c57 := zt c57
        obtain ⟨j, hj, rfl, -⟩ := nat_of (n := N) (x := y) (by omega) (by omega) (by omega)
        refine V_aload_n (pc := 60) d_X12_shorts_60 rfl ?_
        refine V_aload_n (pc := 61) d_X12_shorts_61 rfl ?_
        refine P_getR (pc := 62) d_X12_shorts_62 f_X12_161 (tt_139 b) (rr_139_62 b) ?_
        refine V_bipush (pc := 65) (nI 40) d_X12_shorts_65 (by decide) ?_
        refine V_iload_n (pc := 67) d_X12_shorts_67 rfl ?_
        refine V_imul (pc := 68) d_X12_shorts_68 ?_
        refine V_iload_n (pc := 69) d_X12_shorts_69 rfl ?_
        refine V_iadd (pc := 70) d_X12_shorts_70 ?_
        refine P_iald (pc := 71) (((40 * s) + j)) d_X12_shorts_71 (tt_190 b) (by simp only [nI_add, pk_mul, nI_1]) (ln_of (ll_190 b) ⟨by omega, by decide⟩) ?_
        refine V_cvI (pc := 72) (n := 1) (c := 12) [_] d_X12_shorts_72 c_X12_191 k_X12_done ⟨rfl, rfl⟩ (tt_139 b) rfl (Nat.le_of_ble_eq_true rfl) ⟨Nat.le_of_ble_eq_true rfl, Nat.le_of_ble_eq_true rfl⟩ ⟨Nat.le_refl _, Nat.le_refl _⟩ (ct_X12_done ?_)
        refine V_goto (pc := 75) 84 d_X12_shorts_75 (by decide) ?_
        exact V_retI (pc := 84) d_X12_shorts_84 rfl ⟨Nat.le_refl _, Nat.le_refl _⟩ (by first | exact absurd c7 c34 | (rw [fsS, if_neg c34, if_neg (fun q => q c17), en, show (nI N).toInt = (N : Int) from nI_toInt (by omega)] at hq; first | (rw [if_neg c57] at hq; exact hq) | (rw [if_pos c57, nI_clamp (by omega)] at hq; exact hq)))
    · refine V_aload_n (pc := 37) d_X12_shorts_37 rfl ?_
      refine V_bipush (pc := 38) (nI 10) d_X12_shorts_38 (by decide) ?_
      refine V_cvI (pc := 40) (n := 1) (c := 12) [_] d_X12_shorts_40 c_X12_187 k_X12_refused ⟨rfl, rfl⟩ (tt_139 b) rfl (Nat.le_of_ble_eq_true rfl) ⟨Nat.le_of_ble_eq_true rfl, Nat.le_of_ble_eq_true rfl⟩ ⟨Nat.le_refl _, Nat.le_refl _⟩ (ct_X12_refused ?_)
      exact V_retI (pc := 43) d_X12_shorts_43 rfl ⟨Nat.le_refl _, Nat.le_refl _⟩ (by rw [fsS, if_pos c34] at hq; exact hq)
  · refine V_aload_n (pc := 10) d_X12_shorts_10 rfl ?_
    refine P_getR (pc := 11) d_X12_shorts_11 f_X12_155 (tt_139 b) (rr_139_60 b) ?_
    refine V_iload_n (pc := 14) d_X12_shorts_14 rfl ?_
    refine P_iald (pc := 15) (s) d_X12_shorts_15 (tt_188 b) rfl (ln_of (ll_188 b) ⟨by omega, by decide⟩) ?_
    refine V_iconst (pc := 16) (1) d_X12_shorts_16 (by decide) ?_
    refine V_icmp_eq (pc := 17) 27 d_X12_shorts_17 (by decide) (fun c17 => ?_) (fun c17 => ?_)
    · refine V_aload_n (pc := 27) d_X12_shorts_27 rfl ?_
      refine P_getR (pc := 28) d_X12_shorts_28 f_X12_155 (tt_139 b) (rr_139_60 b) ?_
      refine V_iload_n (pc := 31) d_X12_shorts_31 rfl ?_
      refine P_iald (pc := 32) (s) d_X12_shorts_32 (tt_188 b) rfl (ln_of (ll_188 b) ⟨by omega, by decide⟩) ?_
      refine V_iconst (pc := 33) (-1) d_X12_shorts_33 (by decide) ?_
      refine V_icmp_ne (pc := 34) 44 d_X12_shorts_34 (by decide) (fun c34 => ?_) (fun c34 => ?_)
      · refine V_iload_n (pc := 44) d_X12_shorts_44 rfl ?_
        refine V_iconst (pc := 45) (0) d_X12_shorts_45 (by decide) ?_
        refine V_aload_n (pc := 46) d_X12_shorts_46 rfl ?_
        refine P_getR (pc := 47) d_X12_shorts_47 f_X12_158 (tt_139 b) (rr_139_61 b) ?_
        refine V_iload_n (pc := 50) d_X12_shorts_50 rfl ?_
        refine P_iald (pc := 51) (s) d_X12_shorts_51 (tt_189 b) rfl (ln_of (ll_189 b) ⟨by omega, by decide⟩) ?_
        refine V_iconst (pc := 52) (1) d_X12_shorts_52 (by decide) ?_
        refine V_isub (pc := 53) d_X12_shorts_53 ?_
        refine V_csI (pc := 54) (n := 1) [_, _, _] d_X12_shorts_54 c_X12_174 k_X12_in rfl (Nat.le_of_ble_eq_true rfl) ⟨Nat.le_of_ble_eq_true rfl, Nat.le_of_ble_eq_true rfl⟩ ⟨Nat.le_refl _, Nat.le_refl _⟩ (ct_X12_in (lo := 0) (hi := (N : Int) - 1) (by decide) (cntm1 en (by omega)) ?_)
        refine V_if_eq (pc := 57) 78 d_X12_shorts_57 (by decide) (fun c57 => ?_) (fun c57 => ?_)
        · replace c57 := zf c57
          refine V_aload_n (pc := 78) d_X12_shorts_78 rfl ?_
          refine V_bipush (pc := 79) (nI 12) d_X12_shorts_79 (by decide) ?_
          refine V_cvI (pc := 81) (n := 1) (c := 12) [_] d_X12_shorts_81 c_X12_187 k_X12_refused ⟨rfl, rfl⟩ (tt_139 b) rfl (Nat.le_of_ble_eq_true rfl) ⟨Nat.le_of_ble_eq_true rfl, Nat.le_of_ble_eq_true rfl⟩ ⟨Nat.le_refl _, Nat.le_refl _⟩ (ct_X12_refused ?_)
          exact V_retI (pc := 84) d_X12_shorts_84 rfl ⟨Nat.le_refl _, Nat.le_refl _⟩ (by first | exact absurd c7 c34 | (rw [fsS, if_neg c34, if_neg (fun q => q c17), en, show (nI N).toInt = (N : Int) from nI_toInt (by omega)] at hq; first | (rw [if_neg c57] at hq; exact hq) | (rw [if_pos c57, nI_clamp (by omega)] at hq; exact hq)))
        · replace c57 := zt c57
          obtain ⟨j, hj, rfl, -⟩ := nat_of (n := N) (x := y) (by omega) (by omega) (by omega)
          refine V_aload_n (pc := 60) d_X12_shorts_60 rfl ?_
          refine V_aload_n (pc := 61) d_X12_shorts_61 rfl ?_
          refine P_getR (pc := 62) d_X12_shorts_62 f_X12_161 (tt_139 b) (rr_139_62 b) ?_
          refine V_bipush (pc := 65) (nI 40) d_X12_shorts_65 (by decide) ?_
          refine V_iload_n (pc := 67) d_X12_shorts_67 rfl ?_
          refine V_imul (pc := 68) d_X12_shorts_68 ?_
          refine V_iload_n (pc := 69) d_X12_shorts_69 rfl ?_
          refine V_iadd (pc := 70) d_X12_shorts_70 ?_
          refine P_iald (pc := 71) (((40 * s) + j)) d_X12_shorts_71 (tt_190 b) (by simp only [nI_add, pk_mul, nI_1]) (ln_of (ll_190 b) ⟨by omega, by decide⟩) ?_
          refine V_cvI (pc := 72) (n := 1) (c := 12) [_] d_X12_shorts_72 c_X12_191 k_X12_done ⟨rfl, rfl⟩ (tt_139 b) rfl (Nat.le_of_ble_eq_true rfl) ⟨Nat.le_of_ble_eq_true rfl, Nat.le_of_ble_eq_true rfl⟩ ⟨Nat.le_refl _, Nat.le_refl _⟩ (ct_X12_done ?_)
          refine V_goto (pc := 75) 84 d_X12_shorts_75 (by decide) ?_
          exact V_retI (pc := 84) d_X12_shorts_84 rfl ⟨Nat.le_refl _, Nat.le_refl _⟩ (by first | exact absurd c7 c34 | (rw [fsS, if_neg c34, if_neg (fun q => q c17), en, show (nI N).toInt = (N : Int) from nI_toInt (by omega)] at hq; first | (rw [if_neg c57] at hq; exact hq) | (rw [if_pos c57, nI_clamp (by omega)] at hq; exact hq)))
      · refine V_aload_n (pc := 37) d_X12_shorts_37 rfl ?_
        refine V_bipush (pc := 38) (nI 10) d_X12_shorts_38 (by decide) ?_
        refine V_cvI (pc := 40) (n := 1) (c := 12) [_] d_X12_shorts_40 c_X12_187 k_X12_refused ⟨rfl, rfl⟩ (tt_139 b) rfl (Nat.le_of_ble_eq_true rfl) ⟨Nat.le_of_ble_eq_true rfl, Nat.le_of_ble_eq_true rfl⟩ ⟨Nat.le_refl _, Nat.le_refl _⟩ (ct_X12_refused ?_)
        exact V_retI (pc := 43) d_X12_shorts_43 rfl ⟨Nat.le_refl _, Nat.le_refl _⟩ (by rw [fsS, if_pos c34] at hq; exact hq)
    · refine V_aload_n (pc := 20) d_X12_shorts_20 rfl ?_
      refine V_bipush (pc := 21) (nI 11) d_X12_shorts_21 (by decide) ?_
      refine V_cvI (pc := 23) (n := 1) (c := 12) [_] d_X12_shorts_23 c_X12_187 k_X12_refused ⟨rfl, rfl⟩ (tt_139 b) rfl (Nat.le_of_ble_eq_true rfl) ⟨Nat.le_of_ble_eq_true rfl, Nat.le_of_ble_eq_true rfl⟩ ⟨Nat.le_refl _, Nat.le_refl _⟩ (ct_X12_refused ?_)
      exact V_retI (pc := 26) d_X12_shorts_26 rfl ⟨Nat.le_refl _, Nat.le_refl _⟩ (by rw [fsS, if_neg c7, if_pos c17] at hq; exact hq)
theorem lp_smM {s m : Nat} (hs : s < 4) (hm : m ≤ 3) (hE : V G mX12_copied (rl 2) F 0 0 108 [some (.ref 139), some (.int (nI m)), some (.int (nI s)), some (.int (smS σ s m)), some (.int (nI m))] [] (σ, sh b)) : ∀ n, n ≤ m → ∀ j, j + n = m → V G mX12_copied (rl 2) F 0 0 79 [some (.ref 139), some (.int (nI m)), some (.int (nI s)), some (.int (smS σ s j)), some (.int (nI j))] [] (σ, sh b) := by
  intro n
  induction n with
  | zero =>
    intro hx j hj
    obtain rfl : j = m := by omega
    refine V_iload (pc := 79) d_X12_copied_79 rfl ?_
    refine V_iload_n (pc := 81) d_X12_copied_81 rfl ?_
    refine B_icmp_ge (pc := 82) 108 d_X12_copied_82 (by decide) (fun c82 => ?_) (fun c82 => ?_)
    · simp (disch := omega) only [nI_toInt, ti0, ti1, tim1, tim20, tim1000] at c82
      exact hE
    · simp (disch := omega) only [nI_toInt, ti0, ti1, tim1, tim20, tim1000] at c82
      all_goals omega
  | succ n ih =>
    intro hx j hj
    refine V_iload (pc := 79) d_X12_copied_79 rfl ?_
    refine V_iload_n (pc := 81) d_X12_copied_81 rfl ?_
    refine B_icmp_ge (pc := 82) 108 d_X12_copied_82 (by decide) (fun c82 => ?_) (fun c82 => ?_)
    · simp (disch := omega) only [nI_toInt, ti0, ti1, tim1, tim20, tim1000] at c82
      all_goals omega
    · simp (disch := omega) only [nI_toInt, ti0, ti1, tim1, tim20, tim1000] at c82
      refine V_iload_n (pc := 85) d_X12_copied_85 rfl ?_
      refine V_aload_n (pc := 86) d_X12_copied_86 rfl ?_
      refine P_getR (pc := 87) d_X12_copied_87 f_X12_161 (tt_139 b) (rr_139_62 b) ?_
      refine V_bipush (pc := 90) (nI 40) d_X12_copied_90 (by decide) ?_
      refine V_iload_n (pc := 92) d_X12_copied_92 rfl ?_
      refine V_imul (pc := 93) d_X12_copied_93 ?_
      refine V_iconst (pc := 94) (1) d_X12_copied_94 (by decide) ?_
      refine V_iadd (pc := 95) d_X12_copied_95 ?_
      refine V_iload (pc := 96) d_X12_copied_96 rfl ?_
      refine V_iadd (pc := 98) d_X12_copied_98 ?_
      rw [show nI 40 * nI s + 1 + nI j = nI (40 * s + (1 + j)) from by rw [pk_mul, nI_1, nI_add, Nat.add_assoc]]
      refine P_iald (pc := 99) ((40 * s + (1 + j))) d_X12_copied_99 (tt_190 b) rfl (ln_of (ll_190 b) ⟨by omega, by decide⟩) ?_
      refine V_iadd (pc := 100) d_X12_copied_100 ?_
      refine V_istore_n (pc := 101) d_X12_copied_101 (by decide) ?_
      refine V_iinc (pc := 102) d_X12_copied_102 rfl (by decide) ?_
      refine V_goto (pc := 105) 79 d_X12_copied_105 (by decide) ?_
      rw [p1_s]
      exact ih (by omega) (j + 1) (by omega)
theorem ct_X12_copied {s : Nat} {y : Int32} (hQ : ∀ s, s < 4 → ∃ n, n ≤ 40 ∧ σ 189 s = nI n) (hs : s < 4) (hy : -100 ≤ y.toInt ∧ y.toInt ≤ 100) (hq : K (fcS σ s y).2 (up2 σ 139 0 (fcS σ s y).1, sh b)) : CM G mX12_copied (rl 2) [.ref 139, .int y, .int (nI s)] (σ, sh b) (QI K) := by
  obtain ⟨N, hN, en⟩ := hQ s hs
  refine CM.of (by decide) (Nat.le_of_ble_eq_true rfl) (cats1 rfl) ?_
  refine V_aload_n (pc := 0) d_X12_copied_0 rfl ?_
  refine P_getR (pc := 1) d_X12_copied_1 f_X12_155 (tt_139 b) (rr_139_60 b) ?_
  refine V_iload_n (pc := 4) d_X12_copied_4 rfl ?_
  refine P_iald (pc := 5) (s) d_X12_copied_5 (tt_188 b) rfl (ln_of (ll_188 b) ⟨by omega, by decide⟩) ?_
  refine V_iconst (pc := 6) (-1) d_X12_copied_6 (by decide) ?_
  refine V_icmp_eq (pc := 7) 26 d_X12_copied_7 (by decide) (fun c7 => ?_) (fun c7 => ?_)
  · refine V_aload_n (pc := 26) d_X12_copied_26 rfl ?_
    refine P_getR (pc := 27) d_X12_copied_27 f_X12_155 (tt_139 b) (rr_139_60 b) ?_
    refine V_iload_n (pc := 30) d_X12_copied_30 rfl ?_
    refine P_iald (pc := 31) (s) d_X12_copied_31 (tt_188 b) rfl (ln_of (ll_188 b) ⟨by omega, by decide⟩) ?_
    refine V_iconst (pc := 32) (-1) d_X12_copied_32 (by decide) ?_
    refine V_icmp_ne (pc := 33) 43 d_X12_copied_33 (by decide) (fun c33 => ?_) (fun c33 => ?_)
    · have m0 : σ 188 s = 0 := by first | exact c16 | exact absurd c7 c33
      by_cases hc : 0 ≤ y.toInt ∧ y.toInt + 1 ≤ (N : Int) ∧ y.toInt ≤ 3
      · obtain ⟨m, hm, rfl, -⟩ := nat_of (n := 4) (x := y) (by omega) (by omega) (by omega)
        rw [nI_toInt (by omega)] at hc
        have hq2 : K (smS σ s m) (up2 σ 139 0 0, sh b) := by
          rw [fcS, if_neg c33, if_neg (fun q => q m0), en, show (nI N).toInt = (N : Int) from nI_toInt (by omega), if_pos (by rw [nI_toInt (by omega)]; exact hc), nI_clamp (by omega)] at hq
          exact hq
        refine V_iload_n (pc := 43) d_X12_copied_43 rfl ?_
        refine B_if_lt (pc := 44) 67 d_X12_copied_44 (by decide) (fun c44 => ?_) (fun c44 => ?_)
        · simp (disch := omega) only [nI_toInt, ti0, ti1, tim1, tim20, tim1000] at c44
          all_goals omega
        · simp (disch := omega) only [nI_toInt, ti0, ti1, tim1, tim20, tim1000] at c44
          refine V_iload_n (pc := 47) d_X12_copied_47 rfl ?_
          refine V_iconst (pc := 48) (1) d_X12_copied_48 (by decide) ?_
          refine V_iadd (pc := 49) d_X12_copied_49 ?_
          rw [nI_1]
          refine V_aload_n (pc := 50) d_X12_copied_50 rfl ?_
          refine P_getR (pc := 51) d_X12_copied_51 f_X12_158 (tt_139 b) (rr_139_61 b) ?_
          refine V_iload_n (pc := 54) d_X12_copied_54 rfl ?_
          refine P_iald (pc := 55) (s) d_X12_copied_55 (tt_189 b) rfl (ln_of (ll_189 b) ⟨by omega, by decide⟩) ?_
          rw [en]
          refine B_icmp_gt (pc := 56) 67 d_X12_copied_56 (by decide) (fun c56 => ?_) (fun c56 => ?_)
          · simp (disch := omega) only [nI_toInt, ti0, ti1, tim1, tim20, tim1000] at c56
            all_goals omega
          · simp (disch := omega) only [nI_toInt, ti0, ti1, tim1, tim20, tim1000] at c56
            refine V_iconst (pc := 59) (nI 2) d_X12_copied_59 (by decide) ?_
            refine V_iload_n (pc := 60) d_X12_copied_60 rfl ?_
            refine V_imul (pc := 61) d_X12_copied_61 ?_
            rw [pk_mul]
            refine V_bipush (pc := 62) (nI 6) d_X12_copied_62 (by decide) ?_
            refine B_icmp_le (pc := 64) 74 d_X12_copied_64 (by decide) (fun c64 => ?_) (fun c64 => ?_)
            · simp (disch := omega) only [show (nI 6).toInt = 6 from by decide, nI_toInt, ti0, ti1, tim1, tim20, tim1000] at c64
              refine V_iconst (pc := 74) (0) d_X12_copied_74 (by decide) ?_
              refine V_istore_n (pc := 75) d_X12_copied_75 (by decide) ?_
              refine V_iconst (pc := 76) (0) d_X12_copied_76 (by decide) ?_
              refine V_istore (pc := 77) d_X12_copied_77 (by decide) ?_
              refine lp_smM (F := FM G (rl 2) (QI K)) hs (by omega) ?_ m (Nat.le_refl _) 0 (by omega)
              refine V_aload_n (pc := 108) d_X12_copied_108 rfl ?_
              refine V_iload_n (pc := 109) d_X12_copied_109 rfl ?_
              refine V_cvI (pc := 110) (n := 1) (c := 12) [_] d_X12_copied_110 c_X12_191 k_X12_done ⟨rfl, rfl⟩ (tt_139 b) rfl (Nat.le_of_ble_eq_true rfl) ⟨Nat.le_of_ble_eq_true rfl, Nat.le_of_ble_eq_true rfl⟩ ⟨Nat.le_refl _, Nat.le_refl _⟩ (ct_X12_done ?_)
              exact V_retI (pc := 113) d_X12_copied_113 rfl ⟨Nat.le_refl _, Nat.le_refl _⟩ hq2
            · simp (disch := omega) only [show (nI 6).toInt = 6 from by decide, nI_toInt, ti0, ti1, tim1, tim20, tim1000] at c64
              all_goals omega
      have hq2 : K (-1) (up2 σ 139 0 (nI 12), sh b) := by
        rw [fcS, if_neg c33, if_neg (fun q => q m0), en, show (nI N).toInt = (N : Int) from nI_toInt (by omega), if_neg hc] at hq
        exact hq
      refine V_iload_n (pc := 43) d_X12_copied_43 rfl ?_
      refine B_if_lt (pc := 44) 67 d_X12_copied_44 (by decide) (fun c44 => ?_) (fun c44 => ?_)
      · refine V_aload_n (pc := 67) d_X12_copied_67 rfl ?_
        refine V_bipush (pc := 68) (nI 12) d_X12_copied_68 (by decide) ?_
        refine V_cvI (pc := 70) (n := 1) (c := 12) [_] d_X12_copied_70 c_X12_187 k_X12_refused ⟨rfl, rfl⟩ (tt_139 b) rfl (Nat.le_of_ble_eq_true rfl) ⟨Nat.le_of_ble_eq_true rfl, Nat.le_of_ble_eq_true rfl⟩ ⟨Nat.le_refl _, Nat.le_refl _⟩ (ct_X12_refused ?_)
        exact V_retI (pc := 73) d_X12_copied_73 rfl ⟨Nat.le_refl _, Nat.le_refl _⟩ hq2
      · obtain ⟨m, hm, rfl, -⟩ := nat_of (n := 101) (x := y) (by omega) (by omega) (by omega)
        rw [nI_toInt (by omega)] at hc
        refine V_iload_n (pc := 47) d_X12_copied_47 rfl ?_
        refine V_iconst (pc := 48) (1) d_X12_copied_48 (by decide) ?_
        refine V_iadd (pc := 49) d_X12_copied_49 ?_
        rw [nI_1]
        refine V_aload_n (pc := 50) d_X12_copied_50 rfl ?_
        refine P_getR (pc := 51) d_X12_copied_51 f_X12_158 (tt_139 b) (rr_139_61 b) ?_
        refine V_iload_n (pc := 54) d_X12_copied_54 rfl ?_
        refine P_iald (pc := 55) (s) d_X12_copied_55 (tt_189 b) rfl (ln_of (ll_189 b) ⟨by omega, by decide⟩) ?_
        rw [en]
        refine B_icmp_gt (pc := 56) 67 d_X12_copied_56 (by decide) (fun c56 => ?_) (fun c56 => ?_)
        · simp (disch := omega) only [nI_toInt, ti0, ti1, tim1, tim20, tim1000] at c56
          refine V_aload_n (pc := 67) d_X12_copied_67 rfl ?_
          refine V_bipush (pc := 68) (nI 12) d_X12_copied_68 (by decide) ?_
          refine V_cvI (pc := 70) (n := 1) (c := 12) [_] d_X12_copied_70 c_X12_187 k_X12_refused ⟨rfl, rfl⟩ (tt_139 b) rfl (Nat.le_of_ble_eq_true rfl) ⟨Nat.le_of_ble_eq_true rfl, Nat.le_of_ble_eq_true rfl⟩ ⟨Nat.le_refl _, Nat.le_refl _⟩ (ct_X12_refused ?_)
          exact V_retI (pc := 73) d_X12_copied_73 rfl ⟨Nat.le_refl _, Nat.le_refl _⟩ hq2
        · simp (disch := omega) only [nI_toInt, ti0, ti1, tim1, tim20, tim1000] at c56
          refine V_iconst (pc := 59) (nI 2) d_X12_copied_59 (by decide) ?_
          refine V_iload_n (pc := 60) d_X12_copied_60 rfl ?_
          refine V_imul (pc := 61) d_X12_copied_61 ?_
          rw [pk_mul]
          refine V_bipush (pc := 62) (nI 6) d_X12_copied_62 (by decide) ?_
          refine B_icmp_le (pc := 64) 74 d_X12_copied_64 (by decide) (fun c64 => ?_) (fun c64 => ?_)
          · simp (disch := omega) only [show (nI 6).toInt = 6 from by decide, nI_toInt, ti0, ti1, tim1, tim20, tim1000] at c64
            exfalso
            omega
          · simp (disch := omega) only [show (nI 6).toInt = 6 from by decide, nI_toInt, ti0, ti1, tim1, tim20, tim1000] at c64
            refine V_aload_n (pc := 67) d_X12_copied_67 rfl ?_
            refine V_bipush (pc := 68) (nI 12) d_X12_copied_68 (by decide) ?_
            refine V_cvI (pc := 70) (n := 1) (c := 12) [_] d_X12_copied_70 c_X12_187 k_X12_refused ⟨rfl, rfl⟩ (tt_139 b) rfl (Nat.le_of_ble_eq_true rfl) ⟨Nat.le_of_ble_eq_true rfl, Nat.le_of_ble_eq_true rfl⟩ ⟨Nat.le_refl _, Nat.le_refl _⟩ (ct_X12_refused ?_)
            exact V_retI (pc := 73) d_X12_copied_73 rfl ⟨Nat.le_refl _, Nat.le_refl _⟩ hq2
    · refine V_aload_n (pc := 36) d_X12_copied_36 rfl ?_
      refine V_bipush (pc := 37) (nI 10) d_X12_copied_37 (by decide) ?_
      refine V_cvI (pc := 39) (n := 1) (c := 12) [_] d_X12_copied_39 c_X12_187 k_X12_refused ⟨rfl, rfl⟩ (tt_139 b) rfl (Nat.le_of_ble_eq_true rfl) ⟨Nat.le_of_ble_eq_true rfl, Nat.le_of_ble_eq_true rfl⟩ ⟨Nat.le_refl _, Nat.le_refl _⟩ (ct_X12_refused ?_)
      exact V_retI (pc := 42) d_X12_copied_42 rfl ⟨Nat.le_refl _, Nat.le_refl _⟩ (by rw [fcS, if_pos c33] at hq; exact hq)
  · refine V_aload_n (pc := 10) d_X12_copied_10 rfl ?_
    refine P_getR (pc := 11) d_X12_copied_11 f_X12_155 (tt_139 b) (rr_139_60 b) ?_
    refine V_iload_n (pc := 14) d_X12_copied_14 rfl ?_
    refine P_iald (pc := 15) (s) d_X12_copied_15 (tt_188 b) rfl (ln_of (ll_188 b) ⟨by omega, by decide⟩) ?_
    refine V_if_eq (pc := 16) 26 d_X12_copied_16 (by decide) (fun c16 => ?_) (fun c16 => ?_)
    · refine V_aload_n (pc := 26) d_X12_copied_26 rfl ?_
      refine P_getR (pc := 27) d_X12_copied_27 f_X12_155 (tt_139 b) (rr_139_60 b) ?_
      refine V_iload_n (pc := 30) d_X12_copied_30 rfl ?_
      refine P_iald (pc := 31) (s) d_X12_copied_31 (tt_188 b) rfl (ln_of (ll_188 b) ⟨by omega, by decide⟩) ?_
      refine V_iconst (pc := 32) (-1) d_X12_copied_32 (by decide) ?_
      refine V_icmp_ne (pc := 33) 43 d_X12_copied_33 (by decide) (fun c33 => ?_) (fun c33 => ?_)
      · have m0 : σ 188 s = 0 := by first | exact c16 | exact absurd c7 c33
        by_cases hc : 0 ≤ y.toInt ∧ y.toInt + 1 ≤ (N : Int) ∧ y.toInt ≤ 3
        · obtain ⟨m, hm, rfl, -⟩ := nat_of (n := 4) (x := y) (by omega) (by omega) (by omega)
          rw [nI_toInt (by omega)] at hc
          have hq2 : K (smS σ s m) (up2 σ 139 0 0, sh b) := by
            rw [fcS, if_neg c33, if_neg (fun q => q m0), en, show (nI N).toInt = (N : Int) from nI_toInt (by omega), if_pos (by rw [nI_toInt (by omega)]; exact hc), nI_clamp (by omega)] at hq
            exact hq
          refine V_iload_n (pc := 43) d_X12_copied_43 rfl ?_
          refine B_if_lt (pc := 44) 67 d_X12_copied_44 (by decide) (fun c44 => ?_) (fun c44 => ?_)
          · simp (disch := omega) only [nI_toInt, ti0, ti1, tim1, tim20, tim1000] at c44
            all_goals omega
          · simp (disch := omega) only [nI_toInt, ti0, ti1, tim1, tim20, tim1000] at c44
            refine V_iload_n (pc := 47) d_X12_copied_47 rfl ?_
            refine V_iconst (pc := 48) (1) d_X12_copied_48 (by decide) ?_
            refine V_iadd (pc := 49) d_X12_copied_49 ?_
            rw [nI_1]
            refine V_aload_n (pc := 50) d_X12_copied_50 rfl ?_
            refine P_getR (pc := 51) d_X12_copied_51 f_X12_158 (tt_139 b) (rr_139_61 b) ?_
            refine V_iload_n (pc := 54) d_X12_copied_54 rfl ?_
            refine P_iald (pc := 55) (s) d_X12_copied_55 (tt_189 b) rfl (ln_of (ll_189 b) ⟨by omega, by decide⟩) ?_
            rw [en]
            refine B_icmp_gt (pc := 56) 67 d_X12_copied_56 (by decide) (fun c56 => ?_) (fun c56 => ?_)
            · simp (disch := omega) only [nI_toInt, ti0, ti1, tim1, tim20, tim1000] at c56
              all_goals omega
            · simp (disch := omega) only [nI_toInt, ti0, ti1, tim1, tim20, tim1000] at c56
              refine V_iconst (pc := 59) (nI 2) d_X12_copied_59 (by decide) ?_
              refine V_iload_n (pc := 60) d_X12_copied_60 rfl ?_
              refine V_imul (pc := 61) d_X12_copied_61 ?_
              rw [pk_mul]
              refine V_bipush (pc := 62) (nI 6) d_X12_copied_62 (by decide) ?_
              refine B_icmp_le (pc := 64) 74 d_X12_copied_64 (by decide) (fun c64 => ?_) (fun c64 => ?_)
              · simp (disch := omega) only [show (nI 6).toInt = 6 from by decide, nI_toInt, ti0, ti1, tim1, tim20, tim1000] at c64
                refine V_iconst (pc := 74) (0) d_X12_copied_74 (by decide) ?_
                refine V_istore_n (pc := 75) d_X12_copied_75 (by decide) ?_
                refine V_iconst (pc := 76) (0) d_X12_copied_76 (by decide) ?_
                refine V_istore (pc := 77) d_X12_copied_77 (by decide) ?_
                refine lp_smM (F := FM G (rl 2) (QI K)) hs (by omega) ?_ m (Nat.le_refl _) 0 (by omega)
                refine V_aload_n (pc := 108) d_X12_copied_108 rfl ?_
                refine V_iload_n (pc := 109) d_X12_copied_109 rfl ?_
                refine V_cvI (pc := 110) (n := 1) (c := 12) [_] d_X12_copied_110 c_X12_191 k_X12_done ⟨rfl, rfl⟩ (tt_139 b) rfl (Nat.le_of_ble_eq_true rfl) ⟨Nat.le_of_ble_eq_true rfl, Nat.le_of_ble_eq_true rfl⟩ ⟨Nat.le_refl _, Nat.le_refl _⟩ (ct_X12_done ?_)
                exact V_retI (pc := 113) d_X12_copied_113 rfl ⟨Nat.le_refl _, Nat.le_refl _⟩ hq2
              · simp (disch := omega) only [show (nI 6).toInt = 6 from by decide, nI_toInt, ti0, ti1, tim1, tim20, tim1000] at c64
                all_goals omega
        have hq2 : K (-1) (up2 σ 139 0 (nI 12), sh b) := by
          rw [fcS, if_neg c33, if_neg (fun q => q m0), en, show (nI N).toInt = (N : Int) from nI_toInt (by omega), if_neg hc] at hq
          exact hq
        refine V_iload_n (pc := 43) d_X12_copied_43 rfl ?_
        refine B_if_lt (pc := 44) 67 d_X12_copied_44 (by decide) (fun c44 => ?_) (fun c44 => ?_)
        · refine V_aload_n (pc := 67) d_X12_copied_67 rfl ?_
          refine V_bipush (pc := 68) (nI 12) d_X12_copied_68 (by decide) ?_
          refine V_cvI (pc := 70) (n := 1) (c := 12) [_] d_X12_copied_70 c_X12_187 k_X12_refused ⟨rfl, rfl⟩ (tt_139 b) rfl (Nat.le_of_ble_eq_true rfl) ⟨Nat.le_of_ble_eq_true rfl, Nat.le_of_ble_eq_true rfl⟩ ⟨Nat.le_refl _, Nat.le_refl _⟩ (ct_X12_refused ?_)
          exact V_retI (pc := 73) d_X12_copied_73 rfl ⟨Nat.le_refl _, Nat.le_refl _⟩ hq2
        · obtain ⟨m, hm, rfl, -⟩ := nat_of (n := 101) (x := y) (by omega) (by omega) (by omega)
          rw [nI_toInt (by omega)] at hc
          refine V_iload_n (pc := 47) d_X12_copied_47 rfl ?_
          refine V_iconst (pc := 48) (1) d_X12_copied_48 (by decide) ?_
          refine V_iadd (pc := 49) d_X12_copied_49 ?_
          rw [nI_1]
          refine V_aload_n (pc := 50) d_X12_copied_50 rfl ?_
          refine P_getR (pc := 51) d_X12_copied_51 f_X12_158 (tt_139 b) (rr_139_61 b) ?_
          refine V_iload_n (pc := 54) d_X12_copied_54 rfl ?_
          refine P_iald (pc := 55) (s) d_X12_copied_55 (tt_189 b) rfl (ln_of (ll_189 b) ⟨by omega, by decide⟩) ?_
          rw [en]
          refine B_icmp_gt (pc := 56) 67 d_X12_copied_56 (by decide) (fun c56 => ?_) (fun c56 => ?_)
          · simp (disch := omega) only [nI_toInt, ti0, ti1, tim1, tim20, tim1000] at c56
            refine V_aload_n (pc := 67) d_X12_copied_67 rfl ?_
            refine V_bipush (pc := 68) (nI 12) d_X12_copied_68 (by decide) ?_
            refine V_cvI (pc := 70) (n := 1) (c := 12) [_] d_X12_copied_70 c_X12_187 k_X12_refused ⟨rfl, rfl⟩ (tt_139 b) rfl (Nat.le_of_ble_eq_true rfl) ⟨Nat.le_of_ble_eq_true rfl, Nat.le_of_ble_eq_true rfl⟩ ⟨Nat.le_refl _, Nat.le_refl _⟩ (ct_X12_refused ?_)
            exact V_retI (pc := 73) d_X12_copied_73 rfl ⟨Nat.le_refl _, Nat.le_refl _⟩ hq2
          · simp (disch := omega) only [nI_toInt, ti0, ti1, tim1, tim20, tim1000] at c56
            refine V_iconst (pc := 59) (nI 2) d_X12_copied_59 (by decide) ?_
            refine V_iload_n (pc := 60) d_X12_copied_60 rfl ?_
            refine V_imul (pc := 61) d_X12_copied_61 ?_
            rw [pk_mul]
            refine V_bipush (pc := 62) (nI 6) d_X12_copied_62 (by decide) ?_
            refine B_icmp_le (pc := 64) 74 d_X12_copied_64 (by decide) (fun c64 => ?_) (fun c64 => ?_)
            · simp (disch := omega) only [show (nI 6).toInt = 6 from by decide, nI_toInt, ti0, ti1, tim1, tim20, tim1000] at c64
              exfalso
              omega
            · simp (disch := omega) only [show (nI 6).toInt = 6 from by decide, nI_toInt, ti0, ti1, tim1, tim20, tim1000] at c64
              refine V_aload_n (pc := 67) d_X12_copied_67 rfl ?_
              refine V_bipush (pc := 68) (nI 12) d_X12_copied_68 (by decide) ?_
              refine V_cvI (pc := 70) (n := 1) (c := 12) [_] d_X12_copied_70 c_X12_187 k_X12_refused ⟨rfl, rfl⟩ (tt_139 b) rfl (Nat.le_of_ble_eq_true rfl) ⟨Nat.le_of_ble_eq_true rfl, Nat.le_of_ble_eq_true rfl⟩ ⟨Nat.le_refl _, Nat.le_refl _⟩ (ct_X12_refused ?_)
              exact V_retI (pc := 73) d_X12_copied_73 rfl ⟨Nat.le_refl _, Nat.le_refl _⟩ hq2
      · refine V_aload_n (pc := 36) d_X12_copied_36 rfl ?_
        refine V_bipush (pc := 37) (nI 10) d_X12_copied_37 (by decide) ?_
        refine V_cvI (pc := 39) (n := 1) (c := 12) [_] d_X12_copied_39 c_X12_187 k_X12_refused ⟨rfl, rfl⟩ (tt_139 b) rfl (Nat.le_of_ble_eq_true rfl) ⟨Nat.le_of_ble_eq_true rfl, Nat.le_of_ble_eq_true rfl⟩ ⟨Nat.le_refl _, Nat.le_refl _⟩ (ct_X12_refused ?_)
        exact V_retI (pc := 42) d_X12_copied_42 rfl ⟨Nat.le_refl _, Nat.le_refl _⟩ (by rw [fcS, if_pos c33] at hq; exact hq)
    · refine V_aload_n (pc := 19) d_X12_copied_19 rfl ?_
      refine V_bipush (pc := 20) (nI 11) d_X12_copied_20 (by decide) ?_
      refine V_cvI (pc := 22) (n := 1) (c := 12) [_] d_X12_copied_22 c_X12_187 k_X12_refused ⟨rfl, rfl⟩ (tt_139 b) rfl (Nat.le_of_ble_eq_true rfl) ⟨Nat.le_of_ble_eq_true rfl, Nat.le_of_ble_eq_true rfl⟩ ⟨Nat.le_refl _, Nat.le_refl _⟩ (ct_X12_refused ?_)
      exact V_retI (pc := 25) d_X12_copied_25 rfl ⟨Nat.le_refl _, Nat.le_refl _⟩ (by rw [fcS, if_neg c7, if_pos c16] at hq; exact hq)
theorem ct_X11_forge {x y z : Int32} {q ns nb nl nt nr : Nat} (hR : RR σ 4 σ q ns nb nl nt nr) (hQ : cQ σ) (hq : K (foS σ ns x y z).2 (up2 σ 3 3 (foS σ ns x y z).1, sh b)) : CM G mX11_forge (rl 4) [.ref 3, .int x, .int y, .int z] (σ, sh b) (QI K) := by
  obtain ⟨⟨⟨hq2, hn10, hnb, hnl, hnt, hnr⟩, ⟨vq, vns, vnb, vnl, vnt, vnr⟩, ⟨rq, rns, rnb, rnl, rnt, rnr⟩, hpd⟩, hH, hC, hS, hLD, hB, hA, hT, hU⟩ := id hR
  refine CM.of (by decide) (Nat.le_of_ble_eq_true rfl) (cats1 rfl) ?_
  refine V_iload_n (pc := 0) d_X11_forge_0 rfl ?_
  refine V_bipush (pc := 1) (-100) d_X11_forge_1 (by decide) ?_
  refine V_bipush (pc := 3) (nI 100) d_X11_forge_3 (by decide) ?_
  refine V_csI (pc := 5) (n := 1) [_, _, _] d_X11_forge_5 c_X11_51 k_X11_isWithin rfl (Nat.le_of_ble_eq_true rfl) ⟨Nat.le_of_ble_eq_true rfl, Nat.le_of_ble_eq_true rfl⟩ ⟨Nat.le_refl _, Nat.le_refl _⟩ (ct_X11_isWithin (lo := -100) (hi := 100) (by decide) (by decide) ?_)
  refine V_if_eq (pc := 8) 22 d_X11_forge_8 (by decide) (fun c8 => ?_) (fun c8 => ?_)
  · replace c8 := zf c8
    refine V_aload_n (pc := 22) d_X11_forge_22 rfl ?_
    refine V_iconst (pc := 23) (1) d_X11_forge_23 (by decide) ?_
    refine V_cvI (pc := 24) (n := 1) (c := 11) [_] d_X11_forge_24 c_X11_55 k_X11_refused ⟨rfl, rfl⟩ (tt_3 b) rfl (Nat.le_of_ble_eq_true rfl) ⟨Nat.le_of_ble_eq_true rfl, Nat.le_of_ble_eq_true rfl⟩ ⟨Nat.le_refl _, Nat.le_refl _⟩ (ct_X11_refused ?_)
    exact V_retI (pc := 27) d_X11_forge_27 rfl ⟨Nat.le_refl _, Nat.le_refl _⟩ (by first | (rw [foS_y c8] at hq; exact hq) | (rw [foS_z c19] at hq; exact hq))
  · replace c8 := zt c8
    refine V_iload_n (pc := 11) d_X11_forge_11 rfl ?_
    refine V_bipush (pc := 12) (-100) d_X11_forge_12 (by decide) ?_
    refine V_bipush (pc := 14) (nI 100) d_X11_forge_14 (by decide) ?_
    refine V_csI (pc := 16) (n := 1) [_, _, _] d_X11_forge_16 c_X11_51 k_X11_isWithin rfl (Nat.le_of_ble_eq_true rfl) ⟨Nat.le_of_ble_eq_true rfl, Nat.le_of_ble_eq_true rfl⟩ ⟨Nat.le_refl _, Nat.le_refl _⟩ (ct_X11_isWithin (lo := -100) (hi := 100) (by decide) (by decide) ?_)
    refine V_if_ne (pc := 19) 28 d_X11_forge_19 (by decide) (fun c19 => ?_) (fun c19 => ?_)
    · replace c19 := zt c19
      refine V_iload_n (pc := 28) d_X11_forge_28 rfl ?_
      by_cases w29_0 : x = 0
      · have hT29 : (x).toInt = 0 := by rw [w29_0]; decide
        refine V_tableIn (pc := 29) 72 d_X11_forge_29 (by omega) (by omega) (by rw [hT29]; rfl) (by decide) ?_
        refine V_aload_n (pc := 72) d_X11_forge_72 rfl ?_
        refine V_iload_n (pc := 73) d_X11_forge_73 rfl ?_
        refine V_bipush (pc := 74) (nI 6) d_X11_forge_74 (by decide) ?_
        refine V_csI (pc := 76) (n := 1) [_, _] d_X11_forge_76 c_X11_348 k_J_floorMod rfl (Nat.le_of_ble_eq_true rfl) ⟨Nat.le_of_ble_eq_true rfl, Nat.le_of_ble_eq_true rfl⟩ ⟨Nat.le_refl _, Nat.le_refl _⟩ (ct_fm c8 (by decide) ?_)
        refine V_iload_n (pc := 79) d_X11_forge_79 rfl ?_
        refine V_bipush (pc := 80) (nI 10) d_X11_forge_80 (by decide) ?_
        refine V_csI (pc := 82) (n := 1) [_, _] d_X11_forge_82 c_X11_348 k_J_floorMod rfl (Nat.le_of_ble_eq_true rfl) ⟨Nat.le_of_ble_eq_true rfl, Nat.le_of_ble_eq_true rfl⟩ ⟨Nat.le_refl _, Nat.le_refl _⟩ (ct_fm c19 (by decide) ?_)
        refine V_cvI (pc := 85) (n := 3) (c := 11) [_, _] d_X11_forge_85 c_X11_353 k_X11_forgeKind ⟨rfl, rfl⟩ (tt_3 b) rfl (Nat.le_of_ble_eq_true rfl) ⟨Nat.le_of_ble_eq_true rfl, Nat.le_of_ble_eq_true rfl⟩ ⟨Nat.le_refl _, Nat.le_refl _⟩ (ct_X11_forgeKind hR (fm_lt (by decide)) (fm_lt (by decide)) ?_)
        exact V_retI (pc := 88) d_X11_forge_88 rfl ⟨Nat.le_refl _, Nat.le_refl _⟩ (by rw [foS_0 c8 c19 w29_0] at hq; exact hq)
      have v29_0 := neT (n := 0) (by decide) w29_0
      by_cases w29_1 : x = 1
      · have hT29 : (x).toInt = 1 := by rw [w29_1]; decide
        refine V_tableIn (pc := 29) 89 d_X11_forge_29 (by omega) (by omega) (by rw [hT29]; rfl) (by decide) ?_
        refine V_iload_n (pc := 89) d_X11_forge_89 rfl ?_
        refine B_if_ge (pc := 90) 102 d_X11_forge_90 (by decide) (fun c90 => ?_) (fun c90 => ?_)
        · refine V_aload_n (pc := 102) d_X11_forge_102 rfl ?_
          refine V_iload_n (pc := 103) d_X11_forge_103 rfl ?_
          refine V_cvI (pc := 104) (n := 1) (c := 11) [_] d_X11_forge_104 c_X11_72 k_X11_done ⟨rfl, rfl⟩ (tt_3 b) rfl (Nat.le_of_ble_eq_true rfl) ⟨Nat.le_of_ble_eq_true rfl, Nat.le_of_ble_eq_true rfl⟩ ⟨Nat.le_refl _, Nat.le_refl _⟩ (ct_X11_done ?_)
          exact V_retI (pc := 107) d_X11_forge_107 rfl ⟨Nat.le_refl _, Nat.le_refl _⟩ (by rw [foS_1 c8 c19 w29_0 w29_1] at hq; first | (rw [if_pos (by omega)] at hq; exact hq) | (rw [if_neg (by omega)] at hq; exact hq))
        · refine V_aload_n (pc := 93) d_X11_forge_93 rfl ?_
          refine V_bipush (pc := 94) (nI 13) d_X11_forge_94 (by decide) ?_
          refine V_cvI (pc := 96) (n := 1) (c := 11) [_] d_X11_forge_96 c_X11_55 k_X11_refused ⟨rfl, rfl⟩ (tt_3 b) rfl (Nat.le_of_ble_eq_true rfl) ⟨Nat.le_of_ble_eq_true rfl, Nat.le_of_ble_eq_true rfl⟩ ⟨Nat.le_refl _, Nat.le_refl _⟩ (ct_X11_refused ?_)
          refine V_goto (pc := 99) 107 d_X11_forge_99 (by decide) ?_
          exact V_retI (pc := 107) d_X11_forge_107 rfl ⟨Nat.le_refl _, Nat.le_refl _⟩ (by rw [foS_1 c8 c19 w29_0 w29_1] at hq; first | (rw [if_pos (by omega)] at hq; exact hq) | (rw [if_neg (by omega)] at hq; exact hq))
      have v29_1 := neT (n := 1) (by decide) w29_1
      by_cases w29_2 : x = (nI 2)
      · have hT29 : (x).toInt = 2 := by rw [w29_2]; decide
        refine V_tableIn (pc := 29) 108 d_X11_forge_29 (by omega) (by omega) (by rw [hT29]; rfl) (by decide) ?_
        refine V_aload_n (pc := 108) d_X11_forge_108 rfl ?_
        refine V_aload_n (pc := 109) d_X11_forge_109 rfl ?_
        refine P_getR (pc := 110) d_X11_forge_110 f_X11_28 (tt_3 b) (rr_3_4 b) ?_
        refine V_iload_n (pc := 113) d_X11_forge_113 rfl ?_
        refine V_iconst (pc := 114) (nI 4) d_X11_forge_114 (by decide) ?_
        refine V_csI (pc := 115) (n := 1) [_, _] d_X11_forge_115 c_X11_348 k_J_floorMod rfl (Nat.le_of_ble_eq_true rfl) ⟨Nat.le_of_ble_eq_true rfl, Nat.le_of_ble_eq_true rfl⟩ ⟨Nat.le_refl _, Nat.le_refl _⟩ (ct_fm c19 (by decide) ?_)
        refine P_aald (pc := 118) (c := 6) ((fmS z 4)) d_X11_forge_118 (tt_123 b) (by decide) (by simp only [nI_add, pk_mul, nI_1]) (ln_of (ll_123 b) ⟨fm_lt (by decide), by decide⟩) (rSHT b (fm_lt (by decide))) ?_
        refine V_iload_n (pc := 119) d_X11_forge_119 rfl ?_
        refine V_cvI (pc := 120) (n := 3) (c := 11) [_, _] d_X11_forge_120 c_X11_356 k_X11_forgeShort ⟨rfl, rfl⟩ (tt_3 b) rfl (Nat.le_of_ble_eq_true rfl) ⟨Nat.le_of_ble_eq_true rfl, Nat.le_of_ble_eq_true rfl⟩ ⟨Nat.le_refl _, Nat.le_refl _⟩ (ct_X11_forgeShort hQ (fm_lt (by decide)) ?_)
        exact V_retI (pc := 123) d_X11_forge_123 rfl ⟨Nat.le_refl _, Nat.le_refl _⟩ (by rw [foS_2 c8 c19 w29_0 w29_1 w29_2] at hq; exact hq)
      have v29_2 := neT (n := 2) (by decide) w29_2
      by_cases w29_3 : x = (nI 3)
      · have hT29 : (x).toInt = 3 := by rw [w29_3]; decide
        refine V_tableIn (pc := 29) 124 d_X11_forge_29 (by omega) (by omega) (by rw [hT29]; rfl) (by decide) ?_
        refine V_aload_n (pc := 124) d_X11_forge_124 rfl ?_
        refine V_aload_n (pc := 125) d_X11_forge_125 rfl ?_
        refine P_getR (pc := 126) d_X11_forge_126 f_X11_28 (tt_3 b) (rr_3_4 b) ?_
        refine V_iload_n (pc := 129) d_X11_forge_129 rfl ?_
        refine V_iconst (pc := 130) (nI 4) d_X11_forge_130 (by decide) ?_
        refine V_csI (pc := 131) (n := 1) [_, _] d_X11_forge_131 c_X11_348 k_J_floorMod rfl (Nat.le_of_ble_eq_true rfl) ⟨Nat.le_of_ble_eq_true rfl, Nat.le_of_ble_eq_true rfl⟩ ⟨Nat.le_refl _, Nat.le_refl _⟩ (ct_fm c19 (by decide) ?_)
        refine P_aald (pc := 134) (c := 6) ((fmS z 4)) d_X11_forge_134 (tt_123 b) (by decide) (by simp only [nI_add, pk_mul, nI_1]) (ln_of (ll_123 b) ⟨fm_lt (by decide), by decide⟩) (rSHT b (fm_lt (by decide))) ?_
        refine V_iload_n (pc := 135) d_X11_forge_135 rfl ?_
        refine V_cvI (pc := 136) (n := 3) (c := 11) [_, _] d_X11_forge_136 c_X11_360 k_X11_forgeCopy ⟨rfl, rfl⟩ (tt_3 b) rfl (Nat.le_of_ble_eq_true rfl) ⟨Nat.le_of_ble_eq_true rfl, Nat.le_of_ble_eq_true rfl⟩ ⟨Nat.le_refl _, Nat.le_refl _⟩ (ct_X11_forgeCopy hQ (fm_lt (by decide)) c8 ?_)
        exact V_retI (pc := 139) d_X11_forge_139 rfl ⟨Nat.le_refl _, Nat.le_refl _⟩ (by rw [foS_3 c8 c19 w29_0 w29_1 w29_2 w29_3] at hq; exact hq)
      have v29_3 := neT (n := 3) (by decide) w29_3
      by_cases w29_4 : x = (nI 4)
      · have hT29 : (x).toInt = 4 := by rw [w29_4]; decide
        refine V_tableIn (pc := 29) 140 d_X11_forge_29 (by omega) (by omega) (by rw [hT29]; rfl) (by decide) ?_
        refine V_aload_n (pc := 140) d_X11_forge_140 rfl ?_
        refine V_iload_n (pc := 141) d_X11_forge_141 rfl ?_
        refine V_bipush (pc := 142) (nI 10) d_X11_forge_142 (by decide) ?_
        refine V_csI (pc := 144) (n := 1) [_, _] d_X11_forge_144 c_X11_348 k_J_floorMod rfl (Nat.le_of_ble_eq_true rfl) ⟨Nat.le_of_ble_eq_true rfl, Nat.le_of_ble_eq_true rfl⟩ ⟨Nat.le_refl _, Nat.le_refl _⟩ (ct_fm c19 (by decide) ?_)
        refine V_cvI (pc := 147) (n := 3) (c := 11) [_] d_X11_forge_147 c_X11_363 k_X11_forgeRow ⟨rfl, rfl⟩ (tt_3 b) rfl (Nat.le_of_ble_eq_true rfl) ⟨Nat.le_of_ble_eq_true rfl, Nat.le_of_ble_eq_true rfl⟩ ⟨Nat.le_refl _, Nat.le_refl _⟩ (ct_X11_forgeRow hR (fm_lt (by decide)) ?_)
        exact V_retI (pc := 150) d_X11_forge_150 rfl ⟨Nat.le_refl _, Nat.le_refl _⟩ (by rw [foS_4 c8 c19 w29_0 w29_1 w29_2 w29_3 w29_4] at hq; exact hq)
      have v29_4 := neT (n := 4) (by decide) w29_4
      by_cases w29_5 : x = (nI 5)
      · have hT29 : (x).toInt = 5 := by rw [w29_5]; decide
        refine V_tableIn (pc := 29) 151 d_X11_forge_29 (by omega) (by omega) (by rw [hT29]; rfl) (by decide) ?_
        refine V_iload_n (pc := 151) d_X11_forge_151 rfl ?_
        refine V_if_ne (pc := 152) 164 d_X11_forge_152 (by decide) (fun c152 => ?_) (fun c152 => ?_)
        · refine V_aload_n (pc := 164) d_X11_forge_164 rfl ?_
          refine V_sipush (pc := 165) (nI 1000) d_X11_forge_165 (by decide) ?_
          refine V_iload_n (pc := 168) d_X11_forge_168 rfl ?_
          refine V_idiv (pc := 169) d_X11_forge_169 c152 ?_
          refine V_cvI (pc := 170) (n := 1) (c := 11) [_] d_X11_forge_170 c_X11_72 k_X11_done ⟨rfl, rfl⟩ (tt_3 b) rfl (Nat.le_of_ble_eq_true rfl) ⟨Nat.le_of_ble_eq_true rfl, Nat.le_of_ble_eq_true rfl⟩ ⟨Nat.le_refl _, Nat.le_refl _⟩ (ct_X11_done ?_)
          exact V_retI (pc := 173) d_X11_forge_173 rfl ⟨Nat.le_refl _, Nat.le_refl _⟩ (by rw [foS_5 c8 c19 w29_0 w29_1 w29_2 w29_3 w29_4 w29_5] at hq; first | (rw [if_pos c152] at hq; exact hq) | (rw [if_neg c152] at hq; exact hq))
        · refine V_aload_n (pc := 155) d_X11_forge_155 rfl ?_
          refine V_bipush (pc := 156) (nI 15) d_X11_forge_156 (by decide) ?_
          refine V_cvI (pc := 158) (n := 1) (c := 11) [_] d_X11_forge_158 c_X11_55 k_X11_refused ⟨rfl, rfl⟩ (tt_3 b) rfl (Nat.le_of_ble_eq_true rfl) ⟨Nat.le_of_ble_eq_true rfl, Nat.le_of_ble_eq_true rfl⟩ ⟨Nat.le_refl _, Nat.le_refl _⟩ (ct_X11_refused ?_)
          refine V_goto (pc := 161) 173 d_X11_forge_161 (by decide) ?_
          exact V_retI (pc := 173) d_X11_forge_173 rfl ⟨Nat.le_refl _, Nat.le_refl _⟩ (by rw [foS_5 c8 c19 w29_0 w29_1 w29_2 w29_3 w29_4 w29_5] at hq; first | (rw [if_pos c152] at hq; exact hq) | (rw [if_neg c152] at hq; exact hq))
      have v29_5 := neT (n := 5) (by decide) w29_5
      by_cases w29_6 : x = (nI 6)
      · have hT29 : (x).toInt = 6 := by rw [w29_6]; decide
        refine V_tableIn (pc := 29) 174 d_X11_forge_29 (by omega) (by omega) (by rw [hT29]; rfl) (by decide) ?_
        refine V_iload_n (pc := 174) d_X11_forge_174 rfl ?_
        refine V_iconst (pc := 175) (nI 2) d_X11_forge_175 (by decide) ?_
        refine V_csI (pc := 176) (n := 1) [_, _] d_X11_forge_176 c_X11_348 k_J_floorMod rfl (Nat.le_of_ble_eq_true rfl) ⟨Nat.le_of_ble_eq_true rfl, Nat.le_of_ble_eq_true rfl⟩ ⟨Nat.le_refl _, Nat.le_refl _⟩ (ct_fm c8 (by decide) ?_)
        refine V_if_ne (pc := 179) 191 d_X11_forge_179 (by decide) (fun c179 => ?_) (fun c179 => ?_)
        · refine V_aload_n (pc := 191) d_X11_forge_191 rfl ?_
          refine V_iconst (pc := 192) (1) d_X11_forge_192 (by decide) ?_
          refine V_cvI (pc := 193) (n := 1) (c := 11) [_] d_X11_forge_193 c_X11_72 k_X11_done ⟨rfl, rfl⟩ (tt_3 b) rfl (Nat.le_of_ble_eq_true rfl) ⟨Nat.le_of_ble_eq_true rfl, Nat.le_of_ble_eq_true rfl⟩ ⟨Nat.le_refl _, Nat.le_refl _⟩ (ct_X11_done ?_)
          exact V_retI (pc := 196) d_X11_forge_196 rfl ⟨Nat.le_refl _, Nat.le_refl _⟩ (by rw [foS_6 c8 c19 w29_0 w29_1 w29_2 w29_3 w29_4 w29_5 w29_6] at hq; have f2 := fm_lt (x := y) (m := 2) (by decide); rw [nI_eq0 (by omega)] at c179; first | (rw [if_pos c179] at hq; exact hq) | (rw [if_neg c179] at hq; exact hq))
        · refine V_aload_n (pc := 182) d_X11_forge_182 rfl ?_
          refine V_bipush (pc := 183) (nI 10) d_X11_forge_183 (by decide) ?_
          refine V_cvI (pc := 185) (n := 1) (c := 11) [_] d_X11_forge_185 c_X11_55 k_X11_refused ⟨rfl, rfl⟩ (tt_3 b) rfl (Nat.le_of_ble_eq_true rfl) ⟨Nat.le_of_ble_eq_true rfl, Nat.le_of_ble_eq_true rfl⟩ ⟨Nat.le_refl _, Nat.le_refl _⟩ (ct_X11_refused ?_)
          refine V_goto (pc := 188) 196 d_X11_forge_188 (by decide) ?_
          exact V_retI (pc := 196) d_X11_forge_196 rfl ⟨Nat.le_refl _, Nat.le_refl _⟩ (by rw [foS_6 c8 c19 w29_0 w29_1 w29_2 w29_3 w29_4 w29_5 w29_6] at hq; have f2 := fm_lt (x := y) (m := 2) (by decide); rw [nI_eq0 (by omega)] at c179; first | (rw [if_pos c179] at hq; exact hq) | (rw [if_neg c179] at hq; exact hq))
      have v29_6 := neT (n := 6) (by decide) w29_6
      refine V_tableOut (pc := 29) 197 d_X11_forge_29 (by omega) (by decide) ?_
      refine V_aload_n (pc := 197) d_X11_forge_197 rfl ?_
      refine V_iconst (pc := 198) (1) d_X11_forge_198 (by decide) ?_
      refine V_cvI (pc := 199) (n := 1) (c := 11) [_] d_X11_forge_199 c_X11_55 k_X11_refused ⟨rfl, rfl⟩ (tt_3 b) rfl (Nat.le_of_ble_eq_true rfl) ⟨Nat.le_of_ble_eq_true rfl, Nat.le_of_ble_eq_true rfl⟩ ⟨Nat.le_refl _, Nat.le_refl _⟩ (ct_X11_refused ?_)
      exact V_retI (pc := 202) d_X11_forge_202 rfl ⟨Nat.le_refl _, Nat.le_refl _⟩ (by rw [foS_7 c8 c19 w29_0 w29_1 w29_2 w29_3 w29_4 w29_5 w29_6] at hq; exact hq)
    · replace c19 := zf c19
      refine V_aload_n (pc := 22) d_X11_forge_22 rfl ?_
      refine V_iconst (pc := 23) (1) d_X11_forge_23 (by decide) ?_
      refine V_cvI (pc := 24) (n := 1) (c := 11) [_] d_X11_forge_24 c_X11_55 k_X11_refused ⟨rfl, rfl⟩ (tt_3 b) rfl (Nat.le_of_ble_eq_true rfl) ⟨Nat.le_of_ble_eq_true rfl, Nat.le_of_ble_eq_true rfl⟩ ⟨Nat.le_refl _, Nat.le_refl _⟩ (ct_X11_refused ?_)
      exact V_retI (pc := 27) d_X11_forge_27 rfl ⟨Nat.le_refl _, Nat.le_refl _⟩ (by first | (rw [foS_y c8] at hq; exact hq) | (rw [foS_z c19] at hq; exact hq))
theorem ct_X12_forge {x y z : Int32} {ρ : Sg} {q ns nb nl nt nr : Nat} (hR : RR ρ 4 σ q ns nb nl nt nr) (hQ : ∀ s, s < 4 → ∃ n, n ≤ 40 ∧ σ 189 s = nI n) (hq : K (foS σ ns x y z).2 (up2 σ 139 0 (foS σ ns x y z).1, sh b)) : CM G mX12_forge (rl 3) [.ref 139, .int x, .int y, .int z] (σ, sh b) (QI K) := by
  obtain ⟨⟨⟨hq2, hn10, hnb, hnl, hnt, hnr⟩, ⟨vq, vns, vnb, vnl, vnt, vnr⟩, ⟨rq, rns, rnb, rnl, rnt, rnr⟩, hpd⟩, hH, hC, hS, hLD, hB, hA, hT, hU⟩ := id hR
  refine CM.of (by decide) (Nat.le_of_ble_eq_true rfl) (cats1 rfl) ?_
  refine V_iload_n (pc := 0) d_X12_forge_0 rfl ?_
  refine V_iconst (pc := 1) (0) d_X12_forge_1 (by decide) ?_
  refine V_bipush (pc := 2) (nI 6) d_X12_forge_2 (by decide) ?_
  refine V_csI (pc := 4) (n := 1) [_, _, _] d_X12_forge_4 c_X12_174 k_X12_in rfl (Nat.le_of_ble_eq_true rfl) ⟨Nat.le_of_ble_eq_true rfl, Nat.le_of_ble_eq_true rfl⟩ ⟨Nat.le_refl _, Nat.le_refl _⟩ (ct_X12_in (lo := 0) (hi := 6) (by decide) (by decide) ?_)
  refine V_if_eq (pc := 7) 32 d_X12_forge_7 (by decide) (fun c7 => ?_) (fun c7 => ?_)
  · replace c7 := zf c7
    refine V_aload_n (pc := 32) d_X12_forge_32 rfl ?_
    refine V_iconst (pc := 33) (1) d_X12_forge_33 (by decide) ?_
    refine V_cvI (pc := 34) (n := 1) (c := 12) [_] d_X12_forge_34 c_X12_187 k_X12_refused ⟨rfl, rfl⟩ (tt_139 b) rfl (Nat.le_of_ble_eq_true rfl) ⟨Nat.le_of_ble_eq_true rfl, Nat.le_of_ble_eq_true rfl⟩ ⟨Nat.le_refl _, Nat.le_refl _⟩ (ct_X12_refused ?_)
    exact V_retI (pc := 37) d_X12_forge_37 rfl ⟨Nat.le_refl _, Nat.le_refl _⟩ (by first | (rw [foS_x c7] at hq; exact hq) | (rw [foS_y c18] at hq; exact hq) | (rw [foS_z c29] at hq; exact hq))
  · replace c7 := zt c7
    refine V_iload_n (pc := 10) d_X12_forge_10 rfl ?_
    refine V_bipush (pc := 11) (-100) d_X12_forge_11 (by decide) ?_
    refine V_bipush (pc := 13) (nI 100) d_X12_forge_13 (by decide) ?_
    refine V_csI (pc := 15) (n := 1) [_, _, _] d_X12_forge_15 c_X12_174 k_X12_in rfl (Nat.le_of_ble_eq_true rfl) ⟨Nat.le_of_ble_eq_true rfl, Nat.le_of_ble_eq_true rfl⟩ ⟨Nat.le_refl _, Nat.le_refl _⟩ (ct_X12_in (lo := -100) (hi := 100) (by decide) (by decide) ?_)
    refine V_if_eq (pc := 18) 32 d_X12_forge_18 (by decide) (fun c18 => ?_) (fun c18 => ?_)
    · replace c18 := zf c18
      refine V_aload_n (pc := 32) d_X12_forge_32 rfl ?_
      refine V_iconst (pc := 33) (1) d_X12_forge_33 (by decide) ?_
      refine V_cvI (pc := 34) (n := 1) (c := 12) [_] d_X12_forge_34 c_X12_187 k_X12_refused ⟨rfl, rfl⟩ (tt_139 b) rfl (Nat.le_of_ble_eq_true rfl) ⟨Nat.le_of_ble_eq_true rfl, Nat.le_of_ble_eq_true rfl⟩ ⟨Nat.le_refl _, Nat.le_refl _⟩ (ct_X12_refused ?_)
      exact V_retI (pc := 37) d_X12_forge_37 rfl ⟨Nat.le_refl _, Nat.le_refl _⟩ (by first | (rw [foS_x c7] at hq; exact hq) | (rw [foS_y c18] at hq; exact hq) | (rw [foS_z c29] at hq; exact hq))
    · replace c18 := zt c18
      refine V_iload_n (pc := 21) d_X12_forge_21 rfl ?_
      refine V_bipush (pc := 22) (-100) d_X12_forge_22 (by decide) ?_
      refine V_bipush (pc := 24) (nI 100) d_X12_forge_24 (by decide) ?_
      refine V_csI (pc := 26) (n := 1) [_, _, _] d_X12_forge_26 c_X12_174 k_X12_in rfl (Nat.le_of_ble_eq_true rfl) ⟨Nat.le_of_ble_eq_true rfl, Nat.le_of_ble_eq_true rfl⟩ ⟨Nat.le_refl _, Nat.le_refl _⟩ (ct_X12_in (lo := -100) (hi := 100) (by decide) (by decide) ?_)
      refine V_if_ne (pc := 29) 38 d_X12_forge_29 (by decide) (fun c29 => ?_) (fun c29 => ?_)
      · replace c29 := zt c29
        refine V_iload_n (pc := 38) d_X12_forge_38 rfl ?_
        refine V_bipush (pc := 39) (nI 10) d_X12_forge_39 (by decide) ?_
        refine V_csI (pc := 41) (n := 1) [_, _] d_X12_forge_41 c_X12_351 k_X12_modulo rfl (Nat.le_of_ble_eq_true rfl) ⟨Nat.le_of_ble_eq_true rfl, Nat.le_of_ble_eq_true rfl⟩ ⟨Nat.le_refl _, Nat.le_refl _⟩ (ct_X12_modulo c29 (by decide) ?_)
        have fl := fm_lt (x := z) (m := 10) (by decide)
        refine V_istore (pc := 44) d_X12_forge_44 (by decide) ?_
        refine V_iload_n (pc := 46) d_X12_forge_46 rfl ?_
        by_cases w47_0 : x = 0
        · have hT47 : (x).toInt = 0 := by rw [w47_0]; decide
          refine V_tableIn (pc := 47) 84 d_X12_forge_47 (by omega) (by omega) (by rw [hT47]; rfl) (by decide) ?_
          refine V_iload (pc := 84) d_X12_forge_84 rfl ?_
          refine V_aload_n (pc := 86) d_X12_forge_86 rfl ?_
          refine P_getI (pc := 87) d_X12_forge_87 f_X12_171 (tt_139 b) ?_
          rw [vns]
          refine B_icmp_lt (pc := 90) 102 d_X12_forge_90 (by decide) (fun c90 => ?_) (fun c90 => ?_)
          · simp (disch := omega) only [nI_toInt, ti0, ti1, tim1, tim20, tim1000] at c90
            refine V_aload_n (pc := 102) d_X12_forge_102 rfl ?_
            refine P_getR (pc := 103) d_X12_forge_103 f_X12_7 (tt_139 b) (rr_139_3 b) ?_
            refine V_iload (pc := 106) d_X12_forge_106 rfl ?_
            refine P_iald (pc := 108) ((fmS z 10)) d_X12_forge_108 (tt_140 b) (by simp only [nI_add, pk_mul, nI_1]) (ln_of (ll_140 b) ⟨by omega, by decide⟩) ?_
            refine V_iload_n (pc := 109) d_X12_forge_109 rfl ?_
            refine V_bipush (pc := 110) (nI 6) d_X12_forge_110 (by decide) ?_
            refine V_csI (pc := 112) (n := 1) [_, _] d_X12_forge_112 c_X12_351 k_X12_modulo rfl (Nat.le_of_ble_eq_true rfl) ⟨Nat.le_of_ble_eq_true rfl, Nat.le_of_ble_eq_true rfl⟩ ⟨Nat.le_refl _, Nat.le_refl _⟩ (ct_X12_modulo c18 (by decide) ?_)
            refine V_csI (pc := 115) (n := 1) [_, _] d_X12_forge_115 c_X12_299 k_X12_isUnder rfl (Nat.le_of_ble_eq_true rfl) ⟨Nat.le_of_ble_eq_true rfl, Nat.le_of_ble_eq_true rfl⟩ ⟨Nat.le_refl _, Nat.le_refl _⟩ (ct_X12_isUnder ?_)
            refine V_if_eq (pc := 118) 135 d_X12_forge_118 (by decide) (fun c118 => ?_) (fun c118 => ?_)
            · replace c118 := zf c118
              refine V_aload_n (pc := 135) d_X12_forge_135 rfl ?_
              refine V_bipush (pc := 136) (nI 11) d_X12_forge_136 (by decide) ?_
              refine V_cvI (pc := 138) (n := 1) (c := 12) [_] d_X12_forge_138 c_X12_187 k_X12_refused ⟨rfl, rfl⟩ (tt_139 b) rfl (Nat.le_of_ble_eq_true rfl) ⟨Nat.le_of_ble_eq_true rfl, Nat.le_of_ble_eq_true rfl⟩ ⟨Nat.le_refl _, Nat.le_refl _⟩ (ct_X12_refused ?_)
              exact V_retI (pc := 141) d_X12_forge_141 rfl ⟨Nat.le_refl _, Nat.le_refl _⟩ (by rw [foS_0 c18 c29 w47_0, fkS] at hq; first | (rw [if_pos (by omega)] at hq; exact hq) | (rw [if_neg (by omega), if_pos c118] at hq; exact hq) | (rw [if_neg (by omega), if_neg c118] at hq; exact hq))
            · replace c118 := zt c118
              refine V_aload_n (pc := 121) d_X12_forge_121 rfl ?_
              refine V_aload_n (pc := 122) d_X12_forge_122 rfl ?_
              refine P_getR (pc := 123) d_X12_forge_123 f_X12_7 (tt_139 b) (rr_139_3 b) ?_
              refine V_iload (pc := 126) d_X12_forge_126 rfl ?_
              refine P_iald (pc := 128) ((fmS z 10)) d_X12_forge_128 (tt_140 b) (by simp only [nI_add, pk_mul, nI_1]) (ln_of (ll_140 b) ⟨by omega, by decide⟩) ?_
              refine V_cvI (pc := 129) (n := 1) (c := 12) [_] d_X12_forge_129 c_X12_191 k_X12_done ⟨rfl, rfl⟩ (tt_139 b) rfl (Nat.le_of_ble_eq_true rfl) ⟨Nat.le_of_ble_eq_true rfl, Nat.le_of_ble_eq_true rfl⟩ ⟨Nat.le_refl _, Nat.le_refl _⟩ (ct_X12_done ?_)
              refine V_goto (pc := 132) 141 d_X12_forge_132 (by decide) ?_
              exact V_retI (pc := 141) d_X12_forge_141 rfl ⟨Nat.le_refl _, Nat.le_refl _⟩ (by rw [foS_0 c18 c29 w47_0, fkS] at hq; first | (rw [if_pos (by omega)] at hq; exact hq) | (rw [if_neg (by omega), if_pos c118] at hq; exact hq) | (rw [if_neg (by omega), if_neg c118] at hq; exact hq))
          · simp (disch := omega) only [nI_toInt, ti0, ti1, tim1, tim20, tim1000] at c90
            refine V_aload_n (pc := 93) d_X12_forge_93 rfl ?_
            refine V_bipush (pc := 94) (nI 10) d_X12_forge_94 (by decide) ?_
            refine V_cvI (pc := 96) (n := 1) (c := 12) [_] d_X12_forge_96 c_X12_187 k_X12_refused ⟨rfl, rfl⟩ (tt_139 b) rfl (Nat.le_of_ble_eq_true rfl) ⟨Nat.le_of_ble_eq_true rfl, Nat.le_of_ble_eq_true rfl⟩ ⟨Nat.le_refl _, Nat.le_refl _⟩ (ct_X12_refused ?_)
            refine V_goto (pc := 99) 141 d_X12_forge_99 (by decide) ?_
            exact V_retI (pc := 141) d_X12_forge_141 rfl ⟨Nat.le_refl _, Nat.le_refl _⟩ (by rw [foS_0 c18 c29 w47_0, fkS] at hq; first | (rw [if_pos (by omega)] at hq; exact hq) | (rw [if_neg (by omega), if_pos c118] at hq; exact hq) | (rw [if_neg (by omega), if_neg c118] at hq; exact hq))
        have v47_0 := neT (n := 0) (by decide) w47_0
        by_cases w47_1 : x = 1
        · have hT47 : (x).toInt = 1 := by rw [w47_1]; decide
          refine V_tableIn (pc := 47) 142 d_X12_forge_47 (by omega) (by omega) (by rw [hT47]; rfl) (by decide) ?_
          refine V_iload_n (pc := 142) d_X12_forge_142 rfl ?_
          refine B_if_ge (pc := 143) 155 d_X12_forge_143 (by decide) (fun c143 => ?_) (fun c143 => ?_)
          · refine V_aload_n (pc := 155) d_X12_forge_155 rfl ?_
            refine V_iload_n (pc := 156) d_X12_forge_156 rfl ?_
            refine V_cvI (pc := 157) (n := 1) (c := 12) [_] d_X12_forge_157 c_X12_191 k_X12_done ⟨rfl, rfl⟩ (tt_139 b) rfl (Nat.le_of_ble_eq_true rfl) ⟨Nat.le_of_ble_eq_true rfl, Nat.le_of_ble_eq_true rfl⟩ ⟨Nat.le_refl _, Nat.le_refl _⟩ (ct_X12_done ?_)
            exact V_retI (pc := 160) d_X12_forge_160 rfl ⟨Nat.le_refl _, Nat.le_refl _⟩ (by rw [foS_1 c18 c29 w47_0 w47_1] at hq; first | (rw [if_pos (by omega)] at hq; exact hq) | (rw [if_neg (by omega)] at hq; exact hq))
          · refine V_aload_n (pc := 146) d_X12_forge_146 rfl ?_
            refine V_bipush (pc := 147) (nI 13) d_X12_forge_147 (by decide) ?_
            refine V_cvI (pc := 149) (n := 1) (c := 12) [_] d_X12_forge_149 c_X12_187 k_X12_refused ⟨rfl, rfl⟩ (tt_139 b) rfl (Nat.le_of_ble_eq_true rfl) ⟨Nat.le_of_ble_eq_true rfl, Nat.le_of_ble_eq_true rfl⟩ ⟨Nat.le_refl _, Nat.le_refl _⟩ (ct_X12_refused ?_)
            refine V_goto (pc := 152) 160 d_X12_forge_152 (by decide) ?_
            exact V_retI (pc := 160) d_X12_forge_160 rfl ⟨Nat.le_refl _, Nat.le_refl _⟩ (by rw [foS_1 c18 c29 w47_0 w47_1] at hq; first | (rw [if_pos (by omega)] at hq; exact hq) | (rw [if_neg (by omega)] at hq; exact hq))
        have v47_1 := neT (n := 1) (by decide) w47_1
        by_cases w47_2 : x = (nI 2)
        · have hT47 : (x).toInt = 2 := by rw [w47_2]; decide
          refine V_tableIn (pc := 47) 161 d_X12_forge_47 (by omega) (by omega) (by rw [hT47]; rfl) (by decide) ?_
          refine V_aload_n (pc := 161) d_X12_forge_161 rfl ?_
          refine V_iload_n (pc := 162) d_X12_forge_162 rfl ?_
          refine V_iload_n (pc := 163) d_X12_forge_163 rfl ?_
          refine V_iconst (pc := 164) (nI 4) d_X12_forge_164 (by decide) ?_
          refine V_csI (pc := 165) (n := 1) [_, _] d_X12_forge_165 c_X12_351 k_X12_modulo rfl (Nat.le_of_ble_eq_true rfl) ⟨Nat.le_of_ble_eq_true rfl, Nat.le_of_ble_eq_true rfl⟩ ⟨Nat.le_refl _, Nat.le_refl _⟩ (ct_X12_modulo c29 (by decide) ?_)
          refine V_cvI (pc := 168) (n := 2) (c := 12) [_, _] d_X12_forge_168 c_X12_354 k_X12_shorts ⟨rfl, rfl⟩ (tt_139 b) rfl (Nat.le_of_ble_eq_true rfl) ⟨Nat.le_of_ble_eq_true rfl, Nat.le_of_ble_eq_true rfl⟩ ⟨Nat.le_refl _, Nat.le_refl _⟩ (ct_X12_shorts hQ (fm_lt (by decide)) ?_)
          exact V_retI (pc := 171) d_X12_forge_171 rfl ⟨Nat.le_refl _, Nat.le_refl _⟩ (by rw [foS_2 c18 c29 w47_0 w47_1 w47_2] at hq; exact hq)
        have v47_2 := neT (n := 2) (by decide) w47_2
        by_cases w47_3 : x = (nI 3)
        · have hT47 : (x).toInt = 3 := by rw [w47_3]; decide
          refine V_tableIn (pc := 47) 172 d_X12_forge_47 (by omega) (by omega) (by rw [hT47]; rfl) (by decide) ?_
          refine V_aload_n (pc := 172) d_X12_forge_172 rfl ?_
          refine V_iload_n (pc := 173) d_X12_forge_173 rfl ?_
          refine V_iload_n (pc := 174) d_X12_forge_174 rfl ?_
          refine V_iconst (pc := 175) (nI 4) d_X12_forge_175 (by decide) ?_
          refine V_csI (pc := 176) (n := 1) [_, _] d_X12_forge_176 c_X12_351 k_X12_modulo rfl (Nat.le_of_ble_eq_true rfl) ⟨Nat.le_of_ble_eq_true rfl, Nat.le_of_ble_eq_true rfl⟩ ⟨Nat.le_refl _, Nat.le_refl _⟩ (ct_X12_modulo c29 (by decide) ?_)
          refine V_cvI (pc := 179) (n := 2) (c := 12) [_, _] d_X12_forge_179 c_X12_357 k_X12_copied ⟨rfl, rfl⟩ (tt_139 b) rfl (Nat.le_of_ble_eq_true rfl) ⟨Nat.le_of_ble_eq_true rfl, Nat.le_of_ble_eq_true rfl⟩ ⟨Nat.le_refl _, Nat.le_refl _⟩ (ct_X12_copied hQ (fm_lt (by decide)) c18 ?_)
          exact V_retI (pc := 182) d_X12_forge_182 rfl ⟨Nat.le_refl _, Nat.le_refl _⟩ (by rw [foS_3 c18 c29 w47_0 w47_1 w47_2 w47_3] at hq; exact hq)
        have v47_3 := neT (n := 3) (by decide) w47_3
        by_cases w47_4 : x = (nI 4)
        · have hT47 : (x).toInt = 4 := by rw [w47_4]; decide
          refine V_tableIn (pc := 47) 183 d_X12_forge_47 (by omega) (by omega) (by rw [hT47]; rfl) (by decide) ?_
          refine V_iload (pc := 183) d_X12_forge_183 rfl ?_
          refine V_aload_n (pc := 185) d_X12_forge_185 rfl ?_
          refine P_getI (pc := 186) d_X12_forge_186 f_X12_171 (tt_139 b) ?_
          rw [vns]
          refine B_icmp_lt (pc := 189) 200 d_X12_forge_189 (by decide) (fun c189 => ?_) (fun c189 => ?_)
          · simp (disch := omega) only [nI_toInt, ti0, ti1, tim1, tim20, tim1000] at c189
            refine V_aload_n (pc := 200) d_X12_forge_200 rfl ?_
            refine V_iload (pc := 201) d_X12_forge_201 rfl ?_
            refine V_cvI (pc := 203) (n := 1) (c := 12) [_] d_X12_forge_203 c_X12_205 k_X12_isBar ⟨rfl, rfl⟩ (tt_139 b) rfl (Nat.le_of_ble_eq_true rfl) ⟨Nat.le_of_ble_eq_true rfl, Nat.le_of_ble_eq_true rfl⟩ ⟨Nat.le_refl _, Nat.le_refl _⟩ (ct_X12_isBar (by omega) ?_)
            refine V_if_eq (pc := 206) 223 d_X12_forge_206 (by decide) (fun c206 => ?_) (fun c206 => ?_)
            · replace c206 := zf c206
              refine V_aload_n (pc := 223) d_X12_forge_223 rfl ?_
              refine V_bipush (pc := 224) (nI 14) d_X12_forge_224 (by decide) ?_
              refine V_cvI (pc := 226) (n := 1) (c := 12) [_] d_X12_forge_226 c_X12_187 k_X12_refused ⟨rfl, rfl⟩ (tt_139 b) rfl (Nat.le_of_ble_eq_true rfl) ⟨Nat.le_of_ble_eq_true rfl, Nat.le_of_ble_eq_true rfl⟩ ⟨Nat.le_refl _, Nat.le_refl _⟩ (ct_X12_refused ?_)
              exact V_retI (pc := 229) d_X12_forge_229 rfl ⟨Nat.le_refl _, Nat.le_refl _⟩ (by rw [foS_4 c18 c29 w47_0 w47_1 w47_2 w47_3 w47_4, frS] at hq; first | (rw [if_pos (by omega)] at hq; exact hq) | (rw [if_neg (by omega), if_pos c206] at hq; exact hq) | (rw [if_neg (by omega), if_neg c206] at hq; exact hq))
            · replace c206 := zt c206
              refine V_aload_n (pc := 209) d_X12_forge_209 rfl ?_
              refine V_aload_n (pc := 210) d_X12_forge_210 rfl ?_
              refine P_getR (pc := 211) d_X12_forge_211 f_X12_7 (tt_139 b) (rr_139_3 b) ?_
              refine V_iload (pc := 214) d_X12_forge_214 rfl ?_
              refine P_iald (pc := 216) ((fmS z 10)) d_X12_forge_216 (tt_140 b) (by simp only [nI_add, pk_mul, nI_1]) (ln_of (ll_140 b) ⟨by omega, by decide⟩) ?_
              refine V_cvI (pc := 217) (n := 1) (c := 12) [_] d_X12_forge_217 c_X12_191 k_X12_done ⟨rfl, rfl⟩ (tt_139 b) rfl (Nat.le_of_ble_eq_true rfl) ⟨Nat.le_of_ble_eq_true rfl, Nat.le_of_ble_eq_true rfl⟩ ⟨Nat.le_refl _, Nat.le_refl _⟩ (ct_X12_done ?_)
              refine V_goto (pc := 220) 229 d_X12_forge_220 (by decide) ?_
              exact V_retI (pc := 229) d_X12_forge_229 rfl ⟨Nat.le_refl _, Nat.le_refl _⟩ (by rw [foS_4 c18 c29 w47_0 w47_1 w47_2 w47_3 w47_4, frS] at hq; first | (rw [if_pos (by omega)] at hq; exact hq) | (rw [if_neg (by omega), if_pos c206] at hq; exact hq) | (rw [if_neg (by omega), if_neg c206] at hq; exact hq))
          · simp (disch := omega) only [nI_toInt, ti0, ti1, tim1, tim20, tim1000] at c189
            refine V_aload_n (pc := 192) d_X12_forge_192 rfl ?_
            refine V_iconst (pc := 193) (0) d_X12_forge_193 (by decide) ?_
            refine V_cvI (pc := 194) (n := 1) (c := 12) [_] d_X12_forge_194 c_X12_191 k_X12_done ⟨rfl, rfl⟩ (tt_139 b) rfl (Nat.le_of_ble_eq_true rfl) ⟨Nat.le_of_ble_eq_true rfl, Nat.le_of_ble_eq_true rfl⟩ ⟨Nat.le_refl _, Nat.le_refl _⟩ (ct_X12_done ?_)
            refine V_goto (pc := 197) 229 d_X12_forge_197 (by decide) ?_
            exact V_retI (pc := 229) d_X12_forge_229 rfl ⟨Nat.le_refl _, Nat.le_refl _⟩ (by rw [foS_4 c18 c29 w47_0 w47_1 w47_2 w47_3 w47_4, frS] at hq; first | (rw [if_pos (by omega)] at hq; exact hq) | (rw [if_neg (by omega), if_pos c206] at hq; exact hq) | (rw [if_neg (by omega), if_neg c206] at hq; exact hq))
        have v47_4 := neT (n := 4) (by decide) w47_4
        by_cases w47_5 : x = (nI 5)
        · have hT47 : (x).toInt = 5 := by rw [w47_5]; decide
          refine V_tableIn (pc := 47) 230 d_X12_forge_47 (by omega) (by omega) (by rw [hT47]; rfl) (by decide) ?_
          refine V_iload_n (pc := 230) d_X12_forge_230 rfl ?_
          refine V_if_ne (pc := 231) 243 d_X12_forge_231 (by decide) (fun c231 => ?_) (fun c231 => ?_)
          · refine V_aload_n (pc := 243) d_X12_forge_243 rfl ?_
            refine V_sipush (pc := 244) (nI 1000) d_X12_forge_244 (by decide) ?_
            refine V_iload_n (pc := 247) d_X12_forge_247 rfl ?_
            refine V_idiv (pc := 248) d_X12_forge_248 c231 ?_
            refine V_cvI (pc := 249) (n := 1) (c := 12) [_] d_X12_forge_249 c_X12_191 k_X12_done ⟨rfl, rfl⟩ (tt_139 b) rfl (Nat.le_of_ble_eq_true rfl) ⟨Nat.le_of_ble_eq_true rfl, Nat.le_of_ble_eq_true rfl⟩ ⟨Nat.le_refl _, Nat.le_refl _⟩ (ct_X12_done ?_)
            exact V_retI (pc := 252) d_X12_forge_252 rfl ⟨Nat.le_refl _, Nat.le_refl _⟩ (by rw [foS_5 c18 c29 w47_0 w47_1 w47_2 w47_3 w47_4 w47_5] at hq; first | (rw [if_pos c231] at hq; exact hq) | (rw [if_neg c231] at hq; exact hq))
          · refine V_aload_n (pc := 234) d_X12_forge_234 rfl ?_
            refine V_bipush (pc := 235) (nI 15) d_X12_forge_235 (by decide) ?_
            refine V_cvI (pc := 237) (n := 1) (c := 12) [_] d_X12_forge_237 c_X12_187 k_X12_refused ⟨rfl, rfl⟩ (tt_139 b) rfl (Nat.le_of_ble_eq_true rfl) ⟨Nat.le_of_ble_eq_true rfl, Nat.le_of_ble_eq_true rfl⟩ ⟨Nat.le_refl _, Nat.le_refl _⟩ (ct_X12_refused ?_)
            refine V_goto (pc := 240) 252 d_X12_forge_240 (by decide) ?_
            exact V_retI (pc := 252) d_X12_forge_252 rfl ⟨Nat.le_refl _, Nat.le_refl _⟩ (by rw [foS_5 c18 c29 w47_0 w47_1 w47_2 w47_3 w47_4 w47_5] at hq; first | (rw [if_pos c231] at hq; exact hq) | (rw [if_neg c231] at hq; exact hq))
        have v47_5 := neT (n := 5) (by decide) w47_5
        refine V_tableOut (pc := 47) 253 d_X12_forge_47 (by omega) (by decide) ?_
        refine V_iload_n (pc := 253) d_X12_forge_253 rfl ?_
        refine V_iconst (pc := 254) (nI 2) d_X12_forge_254 (by decide) ?_
        refine V_csI (pc := 255) (n := 1) [_, _] d_X12_forge_255 c_X12_351 k_X12_modulo rfl (Nat.le_of_ble_eq_true rfl) ⟨Nat.le_of_ble_eq_true rfl, Nat.le_of_ble_eq_true rfl⟩ ⟨Nat.le_refl _, Nat.le_refl _⟩ (ct_X12_modulo c18 (by decide) ?_)
        refine V_if_ne (pc := 258) 270 d_X12_forge_258 (by decide) (fun c258 => ?_) (fun c258 => ?_)
        · refine V_aload_n (pc := 270) d_X12_forge_270 rfl ?_
          refine V_iconst (pc := 271) (1) d_X12_forge_271 (by decide) ?_
          refine V_cvI (pc := 272) (n := 1) (c := 12) [_] d_X12_forge_272 c_X12_191 k_X12_done ⟨rfl, rfl⟩ (tt_139 b) rfl (Nat.le_of_ble_eq_true rfl) ⟨Nat.le_of_ble_eq_true rfl, Nat.le_of_ble_eq_true rfl⟩ ⟨Nat.le_refl _, Nat.le_refl _⟩ (ct_X12_done ?_)
          exact V_retI (pc := 275) d_X12_forge_275 rfl ⟨Nat.le_refl _, Nat.le_refl _⟩ (by have w6 : x = nI 6 := eqnT (by decide) (by have := ne0T w47_0; have := ne1T w47_1; have := neT (n := 2) (by decide) w47_2; have := neT (n := 3) (by decide) w47_3; have := neT (n := 4) (by decide) w47_4; have := neT (n := 5) (by decide) w47_5; omega); rw [foS_6 c18 c29 w47_0 w47_1 w47_2 w47_3 w47_4 w47_5 w6] at hq; have f2 := fm_lt (x := y) (m := 2) (by decide); rw [nI_eq0 (by omega)] at c258; first | (rw [if_pos c258] at hq; exact hq) | (rw [if_neg c258] at hq; exact hq))
        · refine V_aload_n (pc := 261) d_X12_forge_261 rfl ?_
          refine V_bipush (pc := 262) (nI 10) d_X12_forge_262 (by decide) ?_
          refine V_cvI (pc := 264) (n := 1) (c := 12) [_] d_X12_forge_264 c_X12_187 k_X12_refused ⟨rfl, rfl⟩ (tt_139 b) rfl (Nat.le_of_ble_eq_true rfl) ⟨Nat.le_of_ble_eq_true rfl, Nat.le_of_ble_eq_true rfl⟩ ⟨Nat.le_refl _, Nat.le_refl _⟩ (ct_X12_refused ?_)
          refine V_goto (pc := 267) 275 d_X12_forge_267 (by decide) ?_
          exact V_retI (pc := 275) d_X12_forge_275 rfl ⟨Nat.le_refl _, Nat.le_refl _⟩ (by have w6 : x = nI 6 := eqnT (by decide) (by have := ne0T w47_0; have := ne1T w47_1; have := neT (n := 2) (by decide) w47_2; have := neT (n := 3) (by decide) w47_3; have := neT (n := 4) (by decide) w47_4; have := neT (n := 5) (by decide) w47_5; omega); rw [foS_6 c18 c29 w47_0 w47_1 w47_2 w47_3 w47_4 w47_5 w6] at hq; have f2 := fm_lt (x := y) (m := 2) (by decide); rw [nI_eq0 (by omega)] at c258; first | (rw [if_pos c258] at hq; exact hq) | (rw [if_neg c258] at hq; exact hq))
      · replace c29 := zf c29
        refine V_aload_n (pc := 32) d_X12_forge_32 rfl ?_
        refine V_iconst (pc := 33) (1) d_X12_forge_33 (by decide) ?_
        refine V_cvI (pc := 34) (n := 1) (c := 12) [_] d_X12_forge_34 c_X12_187 k_X12_refused ⟨rfl, rfl⟩ (tt_139 b) rfl (Nat.le_of_ble_eq_true rfl) ⟨Nat.le_of_ble_eq_true rfl, Nat.le_of_ble_eq_true rfl⟩ ⟨Nat.le_refl _, Nat.le_refl _⟩ (ct_X12_refused ?_)
        exact V_retI (pc := 37) d_X12_forge_37 rfl ⟨Nat.le_refl _, Nat.le_refl _⟩ (by first | (rw [foS_x c7] at hq; exact hq) | (rw [foS_y c18] at hq; exact hq) | (rw [foS_z c29] at hq; exact hq))
theorem pr_forge {x y z : Int32} (h : Rel σ b) : PR G mX11_forge mX12_forge 4 3 [.int x, .int y, .int z] σ b := by
  have h0 := h
  obtain ⟨q, ns, nb, nl, nt, nr, hR, hX, hP, hQ, hK⟩ := h
  have ag : ∀ v, ∀ a i, 139 ≤ a → a < 192 → up2 σ 3 3 v a i = σ a i := fun v a i h1 h2 => by rw [up2_n (by omega)]
  refine ct_X11_forge hR hQ (⟨rfl, ct_X12_forge (RR_lo hR (ag _)) (fun s hs => by rw [up2_n (by omega)]; exact (hQ s hs).2.2.2.1) ?_⟩)
  rw [foS_ag (ag _)]
  exact ⟨rfl, _, rfl, rel_ref h0⟩
end HC
