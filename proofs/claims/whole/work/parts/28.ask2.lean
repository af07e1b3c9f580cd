def okd (x : Int32) (m : Int) (a b : Int32) : Int32 := if 0 ≤ x.toInt ∧ x.toInt ≤ m then a else b
def whyQ (V : Sg) (q ns nb nl : Nat) (x dw : Int32) : Int32 := if 0 ≤ x.toInt ∧ x.toInt ≤ (nb : Int) - 1 then whyS V x.toNatClampNeg ns nl (q / 96) dw (if q % 96 < 24 ∨ 72 ≤ q % 96 then 1 else 0) else -1
def knowsQ (V : Sg) (ns nb : Nat) (x y z : Int32) : Int32 := if 0 ≤ x.toInt ∧ x.toInt ≤ (nb : Int) - 1 then (if 0 ≤ y.toInt ∧ y.toInt ≤ (ns : Int) - 1 then wrdS V (10 * x.toNatClampNeg + y.toNatClampNeg) z else -1000) else -1000
def boxQ (V : Sg) (ns : Nat) (x y z : Int32) : Int32 := if 0 ≤ x.toInt ∧ x.toInt ≤ (ns : Int) then (if 0 ≤ y.toInt ∧ y.toInt ≤ (ns : Int) - 1 then wrdS V (10 * (5 + x.toNatClampNeg) + y.toNatClampNeg) z else -1000) else -1000
def stQ (V : Sg) (q ns : Nat) (x z : Int32) : Int32 := if 0 ≤ x.toInt ∧ x.toInt ≤ (ns : Int) - 1 then (if z = 0 then V 140 x.toNatClampNeg else if z = 1 then V 141 x.toNatClampNeg else if z = nI 2 then V 142 x.toNatClampNeg else if z = nI 3 then (if V 143 x.toNatClampNeg = 0 then 0 else 1) else if z = nI 4 then shiftS V x.toNatClampNeg (q / 96) else if z = nI 5 then longS V x.toNatClampNeg (q / 96) (if q % 96 < 24 ∨ 72 ≤ q % 96 then 1 else 0) else -1000) else -1000
def boatQ (V : Sg) (nb nl : Nat) (x z : Int32) : Int32 := if 0 ≤ x.toInt ∧ x.toInt ≤ (nb : Int) - 1 then (if z = 0 then V 152 x.toNatClampNeg else if z = 1 then V 153 x.toNatClampNeg else if z = nI 2 then V 155 x.toNatClampNeg else if z = nI 3 then aboS V x.toNatClampNeg nl else if z = nI 4 then draS V x.toNatClampNeg nl else if z = nI 5 then V 156 x.toNatClampNeg else -1) else -1
def baleQ (V : Sg) (nl : Nat) (x z : Int32) : Int32 := if 0 ≤ x.toInt ∧ x.toInt ≤ (nl : Int) - 1 then (if z = 0 then V 163 x.toNatClampNeg else if z = 1 then V 164 x.toNatClampNeg else if z = nI 2 then V 160 x.toNatClampNeg else if z = nI 3 then V 161 x.toNatClampNeg else if z = nI 4 then V 162 x.toNatClampNeg else -1) else -1
def agS (V : Sg) : Nat → Int32
  | 0 => 0
  | n + 1 => agS V n + (if V 152 n = nI 3 then 1 else 0)
def cntQ (V : Sg) (q ns nb nl nt nr : Nat) (x : Int32) : Int32 := if x = 0 then nI ns else if x = 1 then nI nb else if x = nI 2 then nI nl else if x = nI 3 then nI nt else if x = nI 4 then nI nr else if x = nI 5 then nI q else if x = nI 6 then V 139 30 else if x = nI 7 then agS V nb else if x = nI 8 then (if q % 96 < 24 ∨ 72 ≤ q % 96 then 1 else 0) else if x = nI 9 then V 139 59 else -1
def trcQ (V : Sg) (n : Nat) (x : Int32) : Int32 := if 0 ≤ x.toInt ∧ x.toInt ≤ (n : Int) - 1 then V 187 x.toNatClampNeg else -1
theorem wrd_eq {σ V : Sg} {w q m ns k : Nat} {x : Int32} (h : cW σ w q V m ns) (hk : k < 10) : (if σ q k = -1 then -1000 else if x = 0 then σ w k else if x = 1 then σ q k else -1000) = wrdS V (m + k) x := by
  rw [cW_q h hk, wrdS]
  by_cases e : V 158 (m + k) = -1
  · rw [if_pos e, if_pos e]
  · rw [if_neg e, if_neg e, cW_w h hk e]
theorem in_no0 {x : Int32} {m : Int} (h : ¬ (0 ≤ x.toInt ∧ x.toInt ≤ m)) (hm : 0 ≤ m) : ¬ x = 0 := fun z => h (by rw [z, ti0]; omega)
theorem in_no1 {x : Int32} {m : Int} (h : ¬ (0 ≤ x.toInt ∧ x.toInt ≤ m)) (hm : 1 ≤ m) : ¬ x = 1 := fun z => h (by rw [z, ti1]; omega)
theorem wrd_bad {V : Sg} {m : Nat} {z : Int32} (h : ¬ (0 ≤ z.toInt ∧ z.toInt ≤ 1)) : wrdS V m z = -1000 := by
  rw [wrdS, if_neg (in_no0 h (by omega)), if_neg (in_no1 h (by omega))]
  split <;> rfl
theorem wrd_ok {V : Sg} {m : Nat} {z : Int32} (h : 0 ≤ z.toInt ∧ z.toInt ≤ 1) : wrdS V m z = if V 158 m = -1 then -1000 else if z = 0 then V 157 m else V 158 m := by
  rw [wrdS]
  by_cases z0 : z = 0
  · rw [if_pos z0, if_pos z0]
  · rw [if_neg z0, if_neg z0, if_pos (eq1T (by have := ne0T z0; omega))]
theorem cA_f {σ V : Sg} {ns nb nl j : Nat} (h : cA σ 4 V ns nb nl) (hj : j < nl) : σ (97 + j) 0 = V 160 j ∧ σ (97 + j) 1 = V 161 j ∧ σ (97 + j) 2 = V 162 j ∧ σ (97 + j) 3 = V 163 j ∧ σ (97 + j) 4 = V 164 j := (h j hj).1
theorem up_of {σ V : Sg} {ns nb nl i : Nat} (h : cB σ 4 V ns nb nl) (hi : i < nb) : (V 152 i = 1 ∨ V 152 i = nI 2) → σ (77 + 4 * i) 8 = V 155 i := by
  intro e
  rcases (h i hi).2.2.2.2.1 with ⟨z, -⟩ | ⟨-, -, z⟩ | ⟨z, -⟩
  · rw [z] at e
    rcases e with e | e <;> exact absurd e (by decide)
  · exact z
  · rw [z] at e
    rcases e with e | e <;> exact absurd e (by decide)
theorem till0 {σ V : Sg} {ns nb nl i : Nat} (h : cB σ 4 V ns nb nl) (hi : i < nb) : ¬ (V 152 i = 1 ∨ V 152 i = nI 2) → V 155 i = 0 := by
  intro e
  rcases (h i hi).2.2.2.2.1 with ⟨-, -, z⟩ | ⟨z, -⟩ | ⟨-, -, z, -⟩
  · exact z
  · exact absurd z e
  · exact z
theorem in_no {x : Int32} {m : Int} {n : Nat} (h : ¬ (0 ≤ x.toInt ∧ x.toInt ≤ m)) (hn : n < 2 ^ 31) (hm : (n : Int) ≤ m) : ¬ x = nI n := fun z => h (by rw [z, nI_toInt hn]; omega)
theorem ne1T {x : Int32} (h : ¬ x = 1) : x.toInt ≠ 1 := fun z => h (Int32.toInt_inj.mp (by rw [ti1]; exact z))
theorem eqnT {x : Int32} {n : Nat} (hn : n < 2 ^ 31) (h : x.toInt = n) : x = nI n := Int32.toInt_inj.mp (by rw [h, nI_toInt hn])
section HC
variable {G : Gl} {R : Room} {F : Fn} {K : Int32 → Hp → Prop} {KV : Hp → Prop} {σ : Nat → Nat → Int32} {b : Bool}
theorem ct_X11_why {x dw : Int32} {q ns nb nl nt nr : Nat} (hR : RR σ 4 σ q ns nb nl nt nr) (hq : K (whyQ σ q ns nb nl x dw) (σ, sh b)) : CM G mX11_why (rl 5) [.ref 3, .int x, .int dw] (σ, sh b) (QI K) := by
  obtain ⟨⟨⟨hq2, hn10, hnb, hnl, hnt, hnr⟩, ⟨vq, vns, vnb, vnl, vnt, vnr⟩, ⟨rq, rns, rnb, rnl, rnt, rnr⟩, hpd⟩, hH, hC, hS, hLD, hB, hA, hT, hU⟩ := hR
  refine CM.of (by decide) (Nat.le_of_ble_eq_true rfl) (cats1 rfl) ?_
  refine V_aload_n (pc := 0) d_X11_why_0 rfl ?_
  refine P_getR (pc := 1) d_X11_why_1 f_X11_10 (tt_3 b) (rr_3_0 b) ?_
  refine V_iload_n (pc := 4) d_X11_why_4 rfl ?_
  refine V_cvI (pc := 5) (n := 2) (c := 4) [_] d_X11_why_5 c_X11_136 k_X4_isBoat ⟨rfl, rfl⟩ (tt_4 b) rfl (Nat.le_of_ble_eq_true rfl) ⟨Nat.le_of_ble_eq_true rfl, Nat.le_of_ble_eq_true rfl⟩ ⟨Nat.le_refl _, Nat.le_refl _⟩ (ct_X4_isBoat rnb (by omega) ?_)
  refine V_if_eq (pc := 8) 31 d_X11_why_8 (by decide) (fun c8 => ?_) (fun c8 => ?_)
  · replace c8 := zf c8
    refine V_iconst (pc := 31) (-1) d_X11_why_31 (by decide) ?_
    exact V_retI (pc := 32) d_X11_why_32 rfl ⟨Nat.le_refl _, Nat.le_refl _⟩ (by simp (disch := omega) only [whyQ, c8, nI_clamp, if_true, if_false, and_self, and_true, true_and, and_false, false_and, not_true_eq_false, not_false_eq_true, reduceIte] at hq; exact hq)
  · replace c8 := zt c8
    obtain ⟨i, hi, rfl, -⟩ := nat_of (n := nb) c8.1 (by omega) (by omega)
    refine V_aload_n (pc := 11) d_X11_why_11 rfl ?_
    refine P_getR (pc := 12) d_X11_why_12 f_X11_10 (tt_3 b) (rr_3_0 b) ?_
    refine V_aload_n (pc := 15) d_X11_why_15 rfl ?_
    refine P_getR (pc := 16) d_X11_why_16 f_X11_10 (tt_3 b) (rr_3_0 b) ?_
    refine P_getR (pc := 19) d_X11_why_19 f_X11_113 (tt_4 b) (rr_4_12 b) ?_
    refine V_iload_n (pc := 22) d_X11_why_22 rfl ?_
    refine P_aald (pc := 23) (c := 2) (i) d_X11_why_23 (tt_9 b) (by decide) rfl (ln_of (ll_9 b) ⟨by omega, by decide⟩) (rB b (by omega)) ?_
    refine V_iload_n (pc := 24) d_X11_why_24 rfl ?_
    refine V_cvI (pc := 25) (n := 4) (c := 4) [_, _] d_X11_why_25 c_X11_173 k_X4_whyNot ⟨rfl, rfl⟩ (tt_4 b) rfl (Nat.le_of_ble_eq_true rfl) ⟨Nat.le_of_ble_eq_true rfl, Nat.le_of_ble_eq_true rfl⟩ ⟨Nat.le_refl _, Nat.le_refl _⟩ (ct_X4_whyNot hH hC hS hn10 rns rq hq2 hB (by omega) hnb ?_)
    refine V_goto (pc := 28) 32 d_X11_why_28 (by decide) ?_
    exact V_retI (pc := 32) d_X11_why_32 rfl ⟨Nat.le_refl _, Nat.le_refl _⟩ (by simp (disch := omega) only [whyQ, c8, nI_clamp, if_true, if_false, and_self, and_true, true_and, and_false, false_and, not_true_eq_false, not_false_eq_true, reduceIte] at hq; exact hq)
theorem ct_X12_why {x dw : Int32} {ρ : Sg} {q ns nb nl nt nr : Nat} (hR : RR ρ 4 σ q ns nb nl nt nr) (hq : K (whyQ σ q ns nb nl x dw) (σ, sh b)) : CM G mX12_why (rl 5) [.ref 139, .int x, .int dw] (σ, sh b) (QI K) := by
  obtain ⟨⟨⟨hq2, hn10, hnb, hnl, hnt, hnr⟩, ⟨vq, vns, vnb, vnl, vnt, vnr⟩, ⟨rq, rns, rnb, rnl, rnt, rnr⟩, hpd⟩, hH, hC, hS, hLD, hB, hA, hT, hU⟩ := hR
  refine CM.of (by decide) (Nat.le_of_ble_eq_true rfl) (cats1 rfl) ?_
  refine V_aload_n (pc := 0) d_X12_why_0 rfl ?_
  refine V_iload_n (pc := 1) d_X12_why_1 rfl ?_
  refine V_cvI (pc := 2) (n := 2) (c := 12) [_] d_X12_why_2 c_X12_238 k_X12_isBoat ⟨rfl, rfl⟩ (tt_139 b) rfl (Nat.le_of_ble_eq_true rfl) ⟨Nat.le_of_ble_eq_true rfl, Nat.le_of_ble_eq_true rfl⟩ ⟨Nat.le_refl _, Nat.le_refl _⟩ (ct_X12_isBoat vnb (by omega) ?_)
  refine V_if_eq (pc := 5) 17 d_X12_why_5 (by decide) (fun c5 => ?_) (fun c5 => ?_)
  · replace c5 := zf c5
    refine V_iconst (pc := 17) (-1) d_X12_why_17 (by decide) ?_
    exact V_retI (pc := 18) d_X12_why_18 rfl ⟨Nat.le_refl _, Nat.le_refl _⟩ (by simp (disch := omega) only [whyQ, c5, nI_clamp, if_true, if_false, and_self, and_true, true_and, and_false, false_and, not_true_eq_false, not_false_eq_true, reduceIte] at hq; exact hq)
  · replace c5 := zt c5
    obtain ⟨i, hi, rfl, -⟩ := nat_of (n := nb) c5.1 (by omega) (by omega)
    refine V_aload_n (pc := 8) d_X12_why_8 rfl ?_
    refine V_iload_n (pc := 9) d_X12_why_9 rfl ?_
    refine V_iload_n (pc := 10) d_X12_why_10 rfl ?_
    refine V_cvI (pc := 11) (n := 4) (c := 12) [_, _] d_X12_why_11 c_X12_254 k_X12_whyNot ⟨rfl, rfl⟩ (tt_139 b) rfl (Nat.le_of_ble_eq_true rfl) ⟨Nat.le_of_ble_eq_true rfl, Nat.le_of_ble_eq_true rfl⟩ ⟨Nat.le_refl _, Nat.le_refl _⟩ (ct_X12_whyNot hH hC hS hn10 vns vq hq2 vnl hnl (by omega) ?_)
    refine V_goto (pc := 14) 18 d_X12_why_14 (by decide) ?_
    exact V_retI (pc := 18) d_X12_why_18 rfl ⟨Nat.le_refl _, Nat.le_refl _⟩ (by simp (disch := omega) only [whyQ, c5, nI_clamp, if_true, if_false, and_self, and_true, true_and, and_false, false_and, not_true_eq_false, not_false_eq_true, reduceIte] at hq; exact hq)
theorem ct_X12_word {m : Nat} {z : Int32} (hm : m < 160) (hq : K (if σ 158 m = -1 then -1000 else if z = 0 then σ 157 m else σ 158 m) (σ, sh b)) : CM G mX12_word (rl 1) [.ref 139, .int (nI m), .int z] (σ, sh b) (QI K) := by
  refine CM.of (by decide) (Nat.le_of_ble_eq_true rfl) (cats1 rfl) ?_
  refine V_aload_n (pc := 0) d_X12_word_0 rfl ?_
  refine P_getR (pc := 1) d_X12_word_1 f_X12_65 (tt_139 b) (rr_139_22 b) ?_
  refine V_iload_n (pc := 4) d_X12_word_4 rfl ?_
  refine P_iald (pc := 5) (m) d_X12_word_5 (tt_158 b) rfl (ln_of (ll_158 b) ⟨by omega, by decide⟩) ?_
  refine V_iconst (pc := 6) (-1) d_X12_word_6 (by decide) ?_
  refine V_icmp_ne (pc := 7) 16 d_X12_word_7 (by decide) (fun c7 => ?_) (fun c7 => ?_)
  · refine V_iload_n (pc := 16) d_X12_word_16 rfl ?_
    refine V_if_ne (pc := 17) 29 d_X12_word_17 (by decide) (fun c17 => ?_) (fun c17 => ?_)
    · refine V_aload_n (pc := 29) d_X12_word_29 rfl ?_
      refine P_getR (pc := 30) d_X12_word_30 f_X12_65 (tt_139 b) (rr_139_22 b) ?_
      refine V_iload_n (pc := 33) d_X12_word_33 rfl ?_
      refine P_iald (pc := 34) (m) d_X12_word_34 (tt_158 b) rfl (ln_of (ll_158 b) ⟨by omega, by decide⟩) ?_
      exact V_retI (pc := 35) d_X12_word_35 rfl ⟨Nat.le_refl _, Nat.le_refl _⟩ (by simpa [c7, c17] using hq)
    · refine V_aload_n (pc := 20) d_X12_word_20 rfl ?_
      refine P_getR (pc := 21) d_X12_word_21 f_X12_62 (tt_139 b) (rr_139_21 b) ?_
      refine V_iload_n (pc := 24) d_X12_word_24 rfl ?_
      refine P_iald (pc := 25) (m) d_X12_word_25 (tt_157 b) rfl (ln_of (ll_157 b) ⟨by omega, by decide⟩) ?_
      refine V_goto (pc := 26) 35 d_X12_word_26 (by decide) ?_
      exact V_retI (pc := 35) d_X12_word_35 rfl ⟨Nat.le_refl _, Nat.le_refl _⟩ (by simpa [c7, c17] using hq)
  · refine V_sipush (pc := 10) (-1000) d_X12_word_10 (by decide) ?_
    refine V_goto (pc := 13) 35 d_X12_word_13 (by decide) ?_
    exact V_retI (pc := 35) d_X12_word_35 rfl ⟨Nat.le_refl _, Nat.le_refl _⟩ (by simpa [c7] using hq)
theorem ct_X11_knows {x y z : Int32} {q ns nb nl nt nr : Nat} (hR : RR σ 4 σ q ns nb nl nt nr) (hq : K (knowsQ σ ns nb x y z) (σ, sh b)) : CM G mX11_knows (rl 3) [.ref 3, .int x, .int y, .int z] (σ, sh b) (QI K) := by
  obtain ⟨⟨⟨hq2, hn10, hnb, hnl, hnt, hnr⟩, ⟨vq, vns, vnb, vnl, vnt, vnr⟩, ⟨rq, rns, rnb, rnl, rnt, rnr⟩, hpd⟩, hH, hC, hS, hLD, hB, hA, hT, hU⟩ := hR
  refine CM.of (by decide) (Nat.le_of_ble_eq_true rfl) (cats1 rfl) ?_
  refine V_aload_n (pc := 0) d_X11_knows_0 rfl ?_
  refine P_getR (pc := 1) d_X11_knows_1 f_X11_10 (tt_3 b) (rr_3_0 b) ?_
  refine V_iload_n (pc := 4) d_X11_knows_4 rfl ?_
  refine V_cvI (pc := 5) (n := 2) (c := 4) [_] d_X11_knows_5 c_X11_136 k_X4_isBoat ⟨rfl, rfl⟩ (tt_4 b) rfl (Nat.le_of_ble_eq_true rfl) ⟨Nat.le_of_ble_eq_true rfl, Nat.le_of_ble_eq_true rfl⟩ ⟨Nat.le_refl _, Nat.le_refl _⟩ (ct_X4_isBoat rnb (by omega) ?_)
  refine V_if_eq (pc := 8) 22 d_X11_knows_8 (by decide) (fun c8 => ?_) (fun c8 => ?_)
  · replace c8 := zf c8
    refine V_sipush (pc := 22) (-1000) d_X11_knows_22 (by decide) ?_
    exact V_retI (pc := 25) d_X11_knows_25 rfl ⟨Nat.le_refl _, Nat.le_refl _⟩ (by simp (disch := omega) only [knowsQ, c8, nI_clamp, if_true, if_false, and_self, and_true, true_and, and_false, false_and, not_true_eq_false, not_false_eq_true, reduceIte] at hq; exact hq)
  · replace c8 := zt c8
    obtain ⟨i, hi, rfl, -⟩ := nat_of (n := nb) c8.1 (by omega) (by omega)
    refine V_aload_n (pc := 11) d_X11_knows_11 rfl ?_
    refine P_getR (pc := 12) d_X11_knows_12 f_X11_10 (tt_3 b) (rr_3_0 b) ?_
    refine V_iload_n (pc := 15) d_X11_knows_15 rfl ?_
    refine V_cvI (pc := 16) (n := 2) (c := 4) [_] d_X11_knows_16 c_X11_86 k_X4_isStretch ⟨rfl, rfl⟩ (tt_4 b) rfl (Nat.le_of_ble_eq_true rfl) ⟨Nat.le_of_ble_eq_true rfl, Nat.le_of_ble_eq_true rfl⟩ ⟨Nat.le_refl _, Nat.le_refl _⟩ (ct_X4_isStretch rns (by omega) ?_)
    refine V_if_ne (pc := 19) 26 d_X11_knows_19 (by decide) (fun c19 => ?_) (fun c19 => ?_)
    · replace c19 := zt c19
      obtain ⟨k, hk, rfl, -⟩ := nat_of (n := ns) c19.1 (by omega) (by omega)
      refine V_aload_n (pc := 26) d_X11_knows_26 rfl ?_
      refine P_getR (pc := 27) d_X11_knows_27 f_X11_10 (tt_3 b) (rr_3_0 b) ?_
      refine P_getR (pc := 30) d_X11_knows_30 f_X11_113 (tt_4 b) (rr_4_12 b) ?_
      refine V_iload_n (pc := 33) d_X11_knows_33 rfl ?_
      refine P_aald (pc := 34) (c := 2) (i) d_X11_knows_34 (tt_9 b) (by decide) rfl (ln_of (ll_9 b) ⟨by omega, by decide⟩) (rB b (by omega)) ?_
      refine P_getR (pc := 35) d_X11_knows_35 f_X11_263 (tB b (by omega)) (rB9 b (by omega)) ?_
      refine V_iload_n (pc := 38) d_X11_knows_38 rfl ?_
      refine V_iload_n (pc := 39) d_X11_knows_39 rfl ?_
      refine V_cvI (pc := 40) (n := 2) (c := 10) [_, _] d_X11_knows_40 c_X11_267 k_X10_toldOf ⟨rfl, rfl⟩ (tBW b (by omega)) rfl (Nat.le_of_ble_eq_true rfl) ⟨Nat.le_of_ble_eq_true rfl, Nat.le_of_ble_eq_true rfl⟩ ⟨Nat.le_refl _, Nat.le_refl _⟩ (ct_X10_toldOf (tBW b (by omega)) (rBW0 b (by omega)) (rBW1 b (by omega)) (tBW0 b (by omega)) (tBW1 b (by omega)) (lBW0 b (by omega)) (lBW1 b (by omega)) (by omega) ?_)
      rw [wrd_eq (cB_w hB hi) (by omega : k < 10)]
      exact V_retI (pc := 43) d_X11_knows_43 rfl ⟨Nat.le_refl _, Nat.le_refl _⟩ (by simp (disch := omega) only [knowsQ, c8, c19, nI_clamp, if_true, if_false, and_self, and_true, true_and, and_false, false_and, not_true_eq_false, not_false_eq_true, reduceIte] at hq; exact hq)
    · replace c19 := zf c19
      refine V_sipush (pc := 22) (-1000) d_X11_knows_22 (by decide) ?_
      exact V_retI (pc := 25) d_X11_knows_25 rfl ⟨Nat.le_refl _, Nat.le_refl _⟩ (by simp (disch := omega) only [knowsQ, c8, c19, nI_clamp, if_true, if_false, and_self, and_true, true_and, and_false, false_and, not_true_eq_false, not_false_eq_true, reduceIte] at hq; exact hq)
theorem ct_X11_box {x y z : Int32} {q ns nb nl nt nr : Nat} (hR : RR σ 4 σ q ns nb nl nt nr) (hq : K (boxQ σ ns x y z) (σ, sh b)) : CM G mX11_box (rl 3) [.ref 3, .int x, .int y, .int z] (σ, sh b) (QI K) := by
  obtain ⟨⟨⟨hq2, hn10, hnb, hnl, hnt, hnr⟩, ⟨vq, vns, vnb, vnl, vnt, vnr⟩, ⟨rq, rns, rnb, rnl, rnt, rnr⟩, hpd⟩, hH, hC, hS, hLD, hB, hA, hT, hU⟩ := hR
  refine CM.of (by decide) (Nat.le_of_ble_eq_true rfl) (cats1 rfl) ?_
  refine V_aload_n (pc := 0) d_X11_box_0 rfl ?_
  refine P_getR (pc := 1) d_X11_box_1 f_X11_10 (tt_3 b) (rr_3_0 b) ?_
  refine V_iload_n (pc := 4) d_X11_box_4 rfl ?_
  refine V_cvI (pc := 5) (n := 2) (c := 4) [_] d_X11_box_5 c_X11_107 k_X4_isLanding ⟨rfl, rfl⟩ (tt_4 b) rfl (Nat.le_of_ble_eq_true rfl) ⟨Nat.le_of_ble_eq_true rfl, Nat.le_of_ble_eq_true rfl⟩ ⟨Nat.le_refl _, Nat.le_refl _⟩ (ct_X4_isLanding rns (by omega) ?_)
  refine V_if_eq (pc := 8) 22 d_X11_box_8 (by decide) (fun c8 => ?_) (fun c8 => ?_)
  · replace c8 := zf c8
    refine V_sipush (pc := 22) (-1000) d_X11_box_22 (by decide) ?_
    exact V_retI (pc := 25) d_X11_box_25 rfl ⟨Nat.le_refl _, Nat.le_refl _⟩ (by simp (disch := omega) only [boxQ, c8, nI_clamp, if_true, if_false, and_self, and_true, true_and, and_false, false_and, not_true_eq_false, not_false_eq_true, reduceIte] at hq; exact hq)
  · replace c8 := zt c8
    obtain ⟨l, hl, rfl, -⟩ := nat_of (n := (ns + 1)) c8.1 (by omega) (by omega)
    refine V_aload_n (pc := 11) d_X11_box_11 rfl ?_
    refine P_getR (pc := 12) d_X11_box_12 f_X11_10 (tt_3 b) (rr_3_0 b) ?_
    refine V_iload_n (pc := 15) d_X11_box_15 rfl ?_
    refine V_cvI (pc := 16) (n := 2) (c := 4) [_] d_X11_box_16 c_X11_86 k_X4_isStretch ⟨rfl, rfl⟩ (tt_4 b) rfl (Nat.le_of_ble_eq_true rfl) ⟨Nat.le_of_ble_eq_true rfl, Nat.le_of_ble_eq_true rfl⟩ ⟨Nat.le_refl _, Nat.le_refl _⟩ (ct_X4_isStretch rns (by omega) ?_)
    refine V_if_ne (pc := 19) 26 d_X11_box_19 (by decide) (fun c19 => ?_) (fun c19 => ?_)
    · replace c19 := zt c19
      obtain ⟨k, hk, rfl, -⟩ := nat_of (n := ns) c19.1 (by omega) (by omega)
      refine V_aload_n (pc := 26) d_X11_box_26 rfl ?_
      refine P_getR (pc := 27) d_X11_box_27 f_X11_10 (tt_3 b) (rr_3_0 b) ?_
      refine P_getR (pc := 30) d_X11_box_30 f_X11_200 (tt_4 b) (rr_4_11 b) ?_
      refine V_iload_n (pc := 33) d_X11_box_33 rfl ?_
      refine P_aald (pc := 34) (c := 3) (l) d_X11_box_34 (tt_8 b) (by decide) rfl (ln_of (ll_8 b) ⟨by omega, by decide⟩) (rLD b (by omega)) ?_
      refine P_getR (pc := 35) d_X11_box_35 f_X11_272 (tLD b (by omega)) (rLD1 b (by omega)) ?_
      refine V_iload_n (pc := 38) d_X11_box_38 rfl ?_
      refine V_iload_n (pc := 39) d_X11_box_39 rfl ?_
      refine V_cvI (pc := 40) (n := 2) (c := 10) [_, _] d_X11_box_40 c_X11_267 k_X10_toldOf ⟨rfl, rfl⟩ (tLW b (by omega)) rfl (Nat.le_of_ble_eq_true rfl) ⟨Nat.le_of_ble_eq_true rfl, Nat.le_of_ble_eq_true rfl⟩ ⟨Nat.le_refl _, Nat.le_refl _⟩ (ct_X10_toldOf (tLW b (by omega)) (rLW0 b (by omega)) (rLW1 b (by omega)) (tLW0 b (by omega)) (tLW1 b (by omega)) (lLW0 b (by omega)) (lLW1 b (by omega)) (by omega) ?_)
      rw [wrd_eq (cL_w hLD (by omega : l < 11)) (by omega : k < 10)]
      exact V_retI (pc := 43) d_X11_box_43 rfl ⟨Nat.le_refl _, Nat.le_refl _⟩ (by simp (disch := omega) only [boxQ, c8, c19, nI_clamp, if_true, if_false, and_self, and_true, true_and, and_false, false_and, not_true_eq_false, not_false_eq_true, reduceIte] at hq; exact hq)
    · replace c19 := zf c19
      refine V_sipush (pc := 22) (-1000) d_X11_box_22 (by decide) ?_
      exact V_retI (pc := 25) d_X11_box_25 rfl ⟨Nat.le_refl _, Nat.le_refl _⟩ (by simp (disch := omega) only [boxQ, c8, c19, nI_clamp, if_true, if_false, and_self, and_true, true_and, and_false, false_and, not_true_eq_false, not_false_eq_true, reduceIte] at hq; exact hq)
theorem ct_X12_knows {x y z : Int32} {ρ : Sg} {q ns nb nl nt nr : Nat} (hR : RR ρ 4 σ q ns nb nl nt nr) (hq : K (knowsQ σ ns nb x y z) (σ, sh b)) : CM G mX12_knows (rl 3) [.ref 139, .int x, .int y, .int z] (σ, sh b) (QI K) := by
  obtain ⟨⟨⟨hq2, hn10, hnb, hnl, hnt, hnr⟩, ⟨vq, vns, vnb, vnl, vnt, vnr⟩, ⟨rq, rns, rnb, rnl, rnt, rnr⟩, hpd⟩, hH, hC, hS, hLD, hB, hA, hT, hU⟩ := hR
  refine CM.of (by decide) (Nat.le_of_ble_eq_true rfl) (cats1 rfl) ?_
  refine V_aload_n (pc := 0) d_X12_knows_0 rfl ?_
  refine V_iload_n (pc := 1) d_X12_knows_1 rfl ?_
  refine V_cvI (pc := 2) (n := 2) (c := 12) [_] d_X12_knows_2 c_X12_238 k_X12_isBoat ⟨rfl, rfl⟩ (tt_139 b) rfl (Nat.le_of_ble_eq_true rfl) ⟨Nat.le_of_ble_eq_true rfl, Nat.le_of_ble_eq_true rfl⟩ ⟨Nat.le_refl _, Nat.le_refl _⟩ (ct_X12_isBoat vnb (by omega) ?_)
  refine V_if_eq (pc := 5) 39 d_X12_knows_5 (by decide) (fun c5 => ?_) (fun c5 => ?_)
  · replace c5 := zf c5
    refine V_sipush (pc := 39) (-1000) d_X12_knows_39 (by decide) ?_
    exact V_retI (pc := 42) d_X12_knows_42 rfl ⟨Nat.le_refl _, Nat.le_refl _⟩ (by simp (disch := omega) only [knowsQ, c5, nI_clamp, if_true, if_false, and_self, and_true, true_and, and_false, false_and, not_true_eq_false, not_false_eq_true, reduceIte] at hq; first | exact hq | (rw [wrd_bad c22] at hq; exact hq) | (rw [wrd_ok c22] at hq; exact hq))
  · replace c5 := zt c5
    obtain ⟨i, hi, rfl, -⟩ := nat_of (n := nb) c5.1 (by omega) (by omega)
    refine V_aload_n (pc := 8) d_X12_knows_8 rfl ?_
    refine V_iload_n (pc := 9) d_X12_knows_9 rfl ?_
    refine V_cvI (pc := 10) (n := 2) (c := 12) [_] d_X12_knows_10 c_X12_202 k_X12_isStretch ⟨rfl, rfl⟩ (tt_139 b) rfl (Nat.le_of_ble_eq_true rfl) ⟨Nat.le_of_ble_eq_true rfl, Nat.le_of_ble_eq_true rfl⟩ ⟨Nat.le_refl _, Nat.le_refl _⟩ (ct_X12_isStretch vns (by omega) ?_)
    refine V_if_eq (pc := 13) 39 d_X12_knows_13 (by decide) (fun c13 => ?_) (fun c13 => ?_)
    · replace c13 := zf c13
      refine V_sipush (pc := 39) (-1000) d_X12_knows_39 (by decide) ?_
      exact V_retI (pc := 42) d_X12_knows_42 rfl ⟨Nat.le_refl _, Nat.le_refl _⟩ (by simp (disch := omega) only [knowsQ, c5, c13, nI_clamp, if_true, if_false, and_self, and_true, true_and, and_false, false_and, not_true_eq_false, not_false_eq_true, reduceIte] at hq; first | exact hq | (rw [wrd_bad c22] at hq; exact hq) | (rw [wrd_ok c22] at hq; exact hq))
    · replace c13 := zt c13
      obtain ⟨k, hk, rfl, -⟩ := nat_of (n := ns) c13.1 (by omega) (by omega)
      refine V_iload_n (pc := 16) d_X12_knows_16 rfl ?_
      refine V_iconst (pc := 17) (0) d_X12_knows_17 (by decide) ?_
      refine V_iconst (pc := 18) (1) d_X12_knows_18 (by decide) ?_
      refine V_csI (pc := 19) (n := 1) [_, _, _] d_X12_knows_19 c_X12_174 k_X12_in rfl (Nat.le_of_ble_eq_true rfl) ⟨Nat.le_of_ble_eq_true rfl, Nat.le_of_ble_eq_true rfl⟩ ⟨Nat.le_refl _, Nat.le_refl _⟩ (ct_X12_in (lo := 0) (hi := 1) (by decide) (by decide) ?_)
      refine V_if_eq (pc := 22) 39 d_X12_knows_22 (by decide) (fun c22 => ?_) (fun c22 => ?_)
      · replace c22 := zf c22
        refine V_sipush (pc := 39) (-1000) d_X12_knows_39 (by decide) ?_
        exact V_retI (pc := 42) d_X12_knows_42 rfl ⟨Nat.le_refl _, Nat.le_refl _⟩ (by simp (disch := omega) only [knowsQ, c5, c13, c22, nI_clamp, if_true, if_false, and_self, and_true, true_and, and_false, false_and, not_true_eq_false, not_false_eq_true, reduceIte] at hq; first | exact hq | (rw [wrd_bad c22] at hq; exact hq) | (rw [wrd_ok c22] at hq; exact hq))
      · replace c22 := zt c22
        refine V_aload_n (pc := 25) d_X12_knows_25 rfl ?_
        refine V_bipush (pc := 26) (nI 10) d_X12_knows_26 (by decide) ?_
        refine V_iload_n (pc := 28) d_X12_knows_28 rfl ?_
        refine V_imul (pc := 29) d_X12_knows_29 ?_
        refine V_iload_n (pc := 30) d_X12_knows_30 rfl ?_
        refine V_iadd (pc := 31) d_X12_knows_31 ?_
        refine V_iload_n (pc := 32) d_X12_knows_32 rfl ?_
        rw [show nI 10 * nI i + nI k = nI (10 * i + k) from by simp only [nI_add, pk_mul]]
        refine V_cvI (pc := 33) (n := 1) (c := 12) [_, _] d_X12_knows_33 c_X12_260 k_X12_word ⟨rfl, rfl⟩ (tt_139 b) rfl (Nat.le_of_ble_eq_true rfl) ⟨Nat.le_of_ble_eq_true rfl, Nat.le_of_ble_eq_true rfl⟩ ⟨Nat.le_refl _, Nat.le_refl _⟩ (ct_X12_word (m := 10 * i + k) (by omega) ?_)
        refine V_goto (pc := 36) 42 d_X12_knows_36 (by decide) ?_
        exact V_retI (pc := 42) d_X12_knows_42 rfl ⟨Nat.le_refl _, Nat.le_refl _⟩ (by simp (disch := omega) only [knowsQ, c5, c13, c22, nI_clamp, if_true, if_false, and_self, and_true, true_and, and_false, false_and, not_true_eq_false, not_false_eq_true, reduceIte] at hq; first | exact hq | (rw [wrd_bad c22] at hq; exact hq) | (rw [wrd_ok c22] at hq; exact hq))
theorem ct_X12_box {x y z : Int32} {ρ : Sg} {q ns nb nl nt nr : Nat} (hR : RR ρ 4 σ q ns nb nl nt nr) (hq : K (boxQ σ ns x y z) (σ, sh b)) : CM G mX12_box (rl 3) [.ref 139, .int x, .int y, .int z] (σ, sh b) (QI K) := by
  obtain ⟨⟨⟨hq2, hn10, hnb, hnl, hnt, hnr⟩, ⟨vq, vns, vnb, vnl, vnt, vnr⟩, ⟨rq, rns, rnb, rnl, rnt, rnr⟩, hpd⟩, hH, hC, hS, hLD, hB, hA, hT, hU⟩ := hR
  refine CM.of (by decide) (Nat.le_of_ble_eq_true rfl) (cats1 rfl) ?_
  refine V_aload_n (pc := 0) d_X12_box_0 rfl ?_
  refine V_iload_n (pc := 1) d_X12_box_1 rfl ?_
  refine V_cvI (pc := 2) (n := 2) (c := 12) [_] d_X12_box_2 c_X12_229 k_X12_isLanding ⟨rfl, rfl⟩ (tt_139 b) rfl (Nat.le_of_ble_eq_true rfl) ⟨Nat.le_of_ble_eq_true rfl, Nat.le_of_ble_eq_true rfl⟩ ⟨Nat.le_refl _, Nat.le_refl _⟩ (ct_X12_isLanding vns (by omega) ?_)
  refine V_if_eq (pc := 5) 41 d_X12_box_5 (by decide) (fun c5 => ?_) (fun c5 => ?_)
  · replace c5 := zf c5
    refine V_sipush (pc := 41) (-1000) d_X12_box_41 (by decide) ?_
    exact V_retI (pc := 44) d_X12_box_44 rfl ⟨Nat.le_refl _, Nat.le_refl _⟩ (by simp (disch := omega) only [boxQ, c5, nI_clamp, if_true, if_false, and_self, and_true, true_and, and_false, false_and, not_true_eq_false, not_false_eq_true, reduceIte] at hq; first | exact hq | (rw [wrd_bad c22] at hq; exact hq) | (rw [wrd_ok c22] at hq; exact hq))
  · replace c5 := zt c5
    obtain ⟨l, hl, rfl, -⟩ := nat_of (n := (ns + 1)) c5.1 (by omega) (by omega)
    refine V_aload_n (pc := 8) d_X12_box_8 rfl ?_
    refine V_iload_n (pc := 9) d_X12_box_9 rfl ?_
    refine V_cvI (pc := 10) (n := 2) (c := 12) [_] d_X12_box_10 c_X12_202 k_X12_isStretch ⟨rfl, rfl⟩ (tt_139 b) rfl (Nat.le_of_ble_eq_true rfl) ⟨Nat.le_of_ble_eq_true rfl, Nat.le_of_ble_eq_true rfl⟩ ⟨Nat.le_refl _, Nat.le_refl _⟩ (ct_X12_isStretch vns (by omega) ?_)
    refine V_if_eq (pc := 13) 41 d_X12_box_13 (by decide) (fun c13 => ?_) (fun c13 => ?_)
    · replace c13 := zf c13
      refine V_sipush (pc := 41) (-1000) d_X12_box_41 (by decide) ?_
      exact V_retI (pc := 44) d_X12_box_44 rfl ⟨Nat.le_refl _, Nat.le_refl _⟩ (by simp (disch := omega) only [boxQ, c5, c13, nI_clamp, if_true, if_false, and_self, and_true, true_and, and_false, false_and, not_true_eq_false, not_false_eq_true, reduceIte] at hq; first | exact hq | (rw [wrd_bad c22] at hq; exact hq) | (rw [wrd_ok c22] at hq; exact hq))
    · replace c13 := zt c13
      obtain ⟨k, hk, rfl, -⟩ := nat_of (n := ns) c13.1 (by omega) (by omega)
      refine V_iload_n (pc := 16) d_X12_box_16 rfl ?_
      refine V_iconst (pc := 17) (0) d_X12_box_17 (by decide) ?_
      refine V_iconst (pc := 18) (1) d_X12_box_18 (by decide) ?_
      refine V_csI (pc := 19) (n := 1) [_, _, _] d_X12_box_19 c_X12_174 k_X12_in rfl (Nat.le_of_ble_eq_true rfl) ⟨Nat.le_of_ble_eq_true rfl, Nat.le_of_ble_eq_true rfl⟩ ⟨Nat.le_refl _, Nat.le_refl _⟩ (ct_X12_in (lo := 0) (hi := 1) (by decide) (by decide) ?_)
      refine V_if_eq (pc := 22) 41 d_X12_box_22 (by decide) (fun c22 => ?_) (fun c22 => ?_)
      · replace c22 := zf c22
        refine V_sipush (pc := 41) (-1000) d_X12_box_41 (by decide) ?_
        exact V_retI (pc := 44) d_X12_box_44 rfl ⟨Nat.le_refl _, Nat.le_refl _⟩ (by simp (disch := omega) only [boxQ, c5, c13, c22, nI_clamp, if_true, if_false, and_self, and_true, true_and, and_false, false_and, not_true_eq_false, not_false_eq_true, reduceIte] at hq; first | exact hq | (rw [wrd_bad c22] at hq; exact hq) | (rw [wrd_ok c22] at hq; exact hq))
      · replace c22 := zt c22
        refine V_aload_n (pc := 25) d_X12_box_25 rfl ?_
        refine V_bipush (pc := 26) (nI 10) d_X12_box_26 (by decide) ?_
        refine V_iconst (pc := 28) (nI 5) d_X12_box_28 (by decide) ?_
        refine V_iload_n (pc := 29) d_X12_box_29 rfl ?_
        refine V_iadd (pc := 30) d_X12_box_30 ?_
        refine V_imul (pc := 31) d_X12_box_31 ?_
        refine V_iload_n (pc := 32) d_X12_box_32 rfl ?_
        refine V_iadd (pc := 33) d_X12_box_33 ?_
        refine V_iload_n (pc := 34) d_X12_box_34 rfl ?_
        rw [show nI 10 * (nI 5 + nI l) + nI k = nI (10 * (5 + l) + k) from by simp only [nI_add, pk_mul]]
        refine V_cvI (pc := 35) (n := 1) (c := 12) [_, _] d_X12_box_35 c_X12_260 k_X12_word ⟨rfl, rfl⟩ (tt_139 b) rfl (Nat.le_of_ble_eq_true rfl) ⟨Nat.le_of_ble_eq_true rfl, Nat.le_of_ble_eq_true rfl⟩ ⟨Nat.le_refl _, Nat.le_refl _⟩ (ct_X12_word (m := 10 * (5 + l) + k) (by omega) ?_)
        refine V_goto (pc := 38) 44 d_X12_box_38 (by decide) ?_
        exact V_retI (pc := 44) d_X12_box_44 rfl ⟨Nat.le_refl _, Nat.le_refl _⟩ (by simp (disch := omega) only [boxQ, c5, c13, c22, nI_clamp, if_true, if_false, and_self, and_true, true_and, and_false, false_and, not_true_eq_false, not_false_eq_true, reduceIte] at hq; first | exact hq | (rw [wrd_bad c22] at hq; exact hq) | (rw [wrd_ok c22] at hq; exact hq))
theorem ct_X11_status  (hq : K (σ 3 3) (σ, sh b)) : CM G mX11_status (rl 1) [.ref 3] (σ, sh b) (QI K) := by
  refine CM.of (by decide) (Nat.le_of_ble_eq_true rfl) (cats1 rfl) ?_
  refine V_aload_n (pc := 0) d_X11_status_0 rfl ?_
  refine P_getI (pc := 1) d_X11_status_1 f_X11_23 (tt_3 b) ?_
  exact V_retI (pc := 4) d_X11_status_4 rfl ⟨Nat.le_refl _, Nat.le_refl _⟩ hq
theorem ct_X12_status  (hq : K (σ 139 0) (σ, sh b)) : CM G mX12_status (rl 1) [.ref 139] (σ, sh b) (QI K) := by
  refine CM.of (by decide) (Nat.le_of_ble_eq_true rfl) (cats1 rfl) ?_
  refine V_aload_n (pc := 0) d_X12_status_0 rfl ?_
  refine P_getI (pc := 1) d_X12_status_1 f_X12_167 (tt_139 b) ?_
  exact V_retI (pc := 4) d_X12_status_4 rfl ⟨Nat.le_refl _, Nat.le_refl _⟩ hq
theorem ct_X11_stretchTold {x z : Int32} {q ns nb nl nt nr : Nat} (hR : RR σ 4 σ q ns nb nl nt nr) (hq : K (stQ σ q ns x z) (σ, sh b)) : CM G mX11_stretchTold (rl 4) [.ref 3, .int x, .int z] (σ, sh b) (QI K) := by
  obtain ⟨⟨⟨hq2, hn10, hnb, hnl, hnt, hnr⟩, ⟨vq, vns, vnb, vnl, vnt, vnr⟩, ⟨rq, rns, rnb, rnl, rnt, rnr⟩, hpd⟩, hH, hC, hS, hLD, hB, hA, hT, hU⟩ := hR
  refine CM.of (by decide) (Nat.le_of_ble_eq_true rfl) (cats1 rfl) ?_
  refine V_aload_n (pc := 0) d_X11_stretchTold_0 rfl ?_
  refine P_getR (pc := 1) d_X11_stretchTold_1 f_X11_10 (tt_3 b) (rr_3_0 b) ?_
  refine V_iload_n (pc := 4) d_X11_stretchTold_4 rfl ?_
  refine V_cvI (pc := 5) (n := 2) (c := 4) [_] d_X11_stretchTold_5 c_X11_86 k_X4_isStretch ⟨rfl, rfl⟩ (tt_4 b) rfl (Nat.le_of_ble_eq_true rfl) ⟨Nat.le_of_ble_eq_true rfl, Nat.le_of_ble_eq_true rfl⟩ ⟨Nat.le_refl _, Nat.le_refl _⟩ (ct_X4_isStretch rns (by omega) ?_)
  refine V_if_ne (pc := 8) 15 d_X11_stretchTold_8 (by decide) (fun c8 => ?_) (fun c8 => ?_)
  · replace c8 := zt c8
    obtain ⟨k, hk, rfl, -⟩ := nat_of (n := ns) c8.1 (by omega) (by omega)
    refine V_aload_n (pc := 15) d_X11_stretchTold_15 rfl ?_
    refine P_getR (pc := 16) d_X11_stretchTold_16 f_X11_10 (tt_3 b) (rr_3_0 b) ?_
    refine P_getR (pc := 19) d_X11_stretchTold_19 f_X11_62 (tt_4 b) (rr_4_10 b) ?_
    refine V_iload_n (pc := 22) d_X11_stretchTold_22 rfl ?_
    refine P_aald (pc := 23) (c := 7) (k) d_X11_stretchTold_23 (tt_7 b) (by decide) rfl (ln_of (ll_7 b) ⟨by omega, by decide⟩) (rS b (by omega)) ?_
    refine V_astore_n (pc := 24) d_X11_stretchTold_24 (by decide) ?_
    refine V_iload_n (pc := 25) d_X11_stretchTold_25 rfl ?_
    by_cases w26_0 : z = 0
    · have hT26 : (z).toInt = 0 := by rw [w26_0]; decide
      refine V_tableIn (pc := 26) 64 d_X11_stretchTold_26 (by omega) (by omega) (by rw [hT26]; rfl) (by decide) ?_
      refine V_aload_n (pc := 64) d_X11_stretchTold_64 rfl ?_
      refine P_getI (pc := 65) d_X11_stretchTold_65 f_X11_89 (tS b (by omega)) ?_
      rw [(cS_f hS (by omega : k < ns)).2.1]
      exact V_retI (pc := 68) d_X11_stretchTold_68 rfl ⟨Nat.le_refl _, Nat.le_refl _⟩ (by first | simpa (disch := omega) [-Int.not_lt, -Int.not_le, nI_eq, nI_eq0, nI_eq1, nI_e0n, nI_e1n, stQ, nI_clamp, c8, w26_0] using hq | (exfalso; simp_all [show nI 2 = (2 : Int32) from rfl, show nI 3 = (3 : Int32) from rfl, show nI 4 = (4 : Int32) from rfl, show nI 5 = (5 : Int32) from rfl, show nI 6 = (6 : Int32) from rfl, show nI 7 = (7 : Int32) from rfl, show nI 8 = (8 : Int32) from rfl, show nI 9 = (9 : Int32) from rfl]; done))
    have v26_0 := neT (n := 0) (by decide) w26_0
    by_cases w26_1 : z = 1
    · have hT26 : (z).toInt = 1 := by rw [w26_1]; decide
      refine V_tableIn (pc := 26) 69 d_X11_stretchTold_26 (by omega) (by omega) (by rw [hT26]; rfl) (by decide) ?_
      refine V_aload_n (pc := 69) d_X11_stretchTold_69 rfl ?_
      refine P_getI (pc := 70) d_X11_stretchTold_70 f_X11_244 (tS b (by omega)) ?_
      rw [(cS_f hS (by omega : k < ns)).2.2.1]
      exact V_retI (pc := 73) d_X11_stretchTold_73 rfl ⟨Nat.le_refl _, Nat.le_refl _⟩ (by first | simpa (disch := omega) [-Int.not_lt, -Int.not_le, nI_eq, nI_eq0, nI_eq1, nI_e0n, nI_e1n, stQ, nI_clamp, c8, w26_0, w26_1] using hq | (exfalso; simp_all [show nI 2 = (2 : Int32) from rfl, show nI 3 = (3 : Int32) from rfl, show nI 4 = (4 : Int32) from rfl, show nI 5 = (5 : Int32) from rfl, show nI 6 = (6 : Int32) from rfl, show nI 7 = (7 : Int32) from rfl, show nI 8 = (8 : Int32) from rfl, show nI 9 = (9 : Int32) from rfl]; done))
    have v26_1 := neT (n := 1) (by decide) w26_1
    by_cases w26_2 : z = nI 2
    · have hT26 : (z).toInt = 2 := by rw [w26_2]; decide
      refine V_tableIn (pc := 26) 74 d_X11_stretchTold_26 (by omega) (by omega) (by rw [hT26]; rfl) (by decide) ?_
      refine V_aload_n (pc := 74) d_X11_stretchTold_74 rfl ?_
      refine P_getI (pc := 75) d_X11_stretchTold_75 f_X11_247 (tS b (by omega)) ?_
      rw [(cS_f hS (by omega : k < ns)).2.2.2.1]
      exact V_retI (pc := 78) d_X11_stretchTold_78 rfl ⟨Nat.le_refl _, Nat.le_refl _⟩ (by first | simpa (disch := omega) [-Int.not_lt, -Int.not_le, nI_eq, nI_eq0, nI_eq1, nI_e0n, nI_e1n, stQ, nI_clamp, c8, w26_0, w26_1, w26_2] using hq | (exfalso; simp_all [show nI 2 = (2 : Int32) from rfl, show nI 3 = (3 : Int32) from rfl, show nI 4 = (4 : Int32) from rfl, show nI 5 = (5 : Int32) from rfl, show nI 6 = (6 : Int32) from rfl, show nI 7 = (7 : Int32) from rfl, show nI 8 = (8 : Int32) from rfl, show nI 9 = (9 : Int32) from rfl]; done))
    have v26_2 := neT (n := 2) (by decide) w26_2
    by_cases w26_3 : z = nI 3
    · have hT26 : (z).toInt = 3 := by rw [w26_3]; decide
      refine V_tableIn (pc := 26) 79 d_X11_stretchTold_26 (by omega) (by omega) (by rw [hT26]; rfl) (by decide) ?_
      refine V_aload_n (pc := 79) d_X11_stretchTold_79 rfl ?_
      refine P_getI (pc := 80) d_X11_stretchTold_80 f_X11_103 (tS b (by omega)) ?_
      rw [(cS_f hS (by omega : k < ns)).2.2.2.2]
      refine V_if_eq (pc := 83) 90 d_X11_stretchTold_83 (by decide) (fun c83 => ?_) (fun c83 => ?_)
      · refine V_iconst (pc := 90) (0) d_X11_stretchTold_90 (by decide) ?_
        exact V_retI (pc := 91) d_X11_stretchTold_91 rfl ⟨Nat.le_refl _, Nat.le_refl _⟩ (by first | simpa (disch := omega) [-Int.not_lt, -Int.not_le, nI_eq, nI_eq0, nI_eq1, nI_e0n, nI_e1n, stQ, nI_clamp, c8, w26_0, w26_1, w26_2, w26_3, c83] using hq | (exfalso; simp_all [show nI 2 = (2 : Int32) from rfl, show nI 3 = (3 : Int32) from rfl, show nI 4 = (4 : Int32) from rfl, show nI 5 = (5 : Int32) from rfl, show nI 6 = (6 : Int32) from rfl, show nI 7 = (7 : Int32) from rfl, show nI 8 = (8 : Int32) from rfl, show nI 9 = (9 : Int32) from rfl]; done))
      · refine V_iconst (pc := 86) (1) d_X11_stretchTold_86 (by decide) ?_
        refine V_goto (pc := 87) 91 d_X11_stretchTold_87 (by decide) ?_
        exact V_retI (pc := 91) d_X11_stretchTold_91 rfl ⟨Nat.le_refl _, Nat.le_refl _⟩ (by first | simpa (disch := omega) [-Int.not_lt, -Int.not_le, nI_eq, nI_eq0, nI_eq1, nI_e0n, nI_e1n, stQ, nI_clamp, c8, w26_0, w26_1, w26_2, w26_3, c83] using hq | (exfalso; simp_all [show nI 2 = (2 : Int32) from rfl, show nI 3 = (3 : Int32) from rfl, show nI 4 = (4 : Int32) from rfl, show nI 5 = (5 : Int32) from rfl, show nI 6 = (6 : Int32) from rfl, show nI 7 = (7 : Int32) from rfl, show nI 8 = (8 : Int32) from rfl, show nI 9 = (9 : Int32) from rfl]; done))
    have v26_3 := neT (n := 3) (by decide) w26_3
    by_cases w26_4 : z = nI 4
    · have hT26 : (z).toInt = 4 := by rw [w26_4]; decide
      refine V_tableIn (pc := 26) 92 d_X11_stretchTold_26 (by omega) (by omega) (by rw [hT26]; rfl) (by decide) ?_
      refine V_aload_n (pc := 92) d_X11_stretchTold_92 rfl ?_
      refine V_aload_n (pc := 93) d_X11_stretchTold_93 rfl ?_
      refine P_getR (pc := 94) d_X11_stretchTold_94 f_X11_10 (tt_3 b) (rr_3_0 b) ?_
      refine V_cvI (pc := 97) (n := 1) (c := 4) [] d_X11_stretchTold_97 c_X11_180 k_X4_today ⟨rfl, rfl⟩ (tt_4 b) rfl (Nat.le_of_ble_eq_true rfl) ⟨Nat.le_of_ble_eq_true rfl, Nat.le_of_ble_eq_true rfl⟩ ⟨Nat.le_refl _, Nat.le_refl _⟩ (ct_X4_today rq hq2 ?_)
      refine V_cvI (pc := 100) (n := 1) (c := 7) [_] d_X11_stretchTold_100 c_X11_250 k_X7_shiftOn ⟨rfl, rfl⟩ (tS b (by omega)) rfl (Nat.le_of_ble_eq_true rfl) ⟨Nat.le_of_ble_eq_true rfl, Nat.le_of_ble_eq_true rfl⟩ ⟨Nat.le_refl _, Nat.le_refl _⟩ (ct_X7_shiftOn hS (by omega) hn10 (by omega) ?_)
      exact V_retI (pc := 103) d_X11_stretchTold_103 rfl ⟨Nat.le_refl _, Nat.le_refl _⟩ (by first | simpa (disch := omega) [-Int.not_lt, -Int.not_le, nI_eq, nI_eq0, nI_eq1, nI_e0n, nI_e1n, stQ, nI_clamp, c8, w26_0, w26_1, w26_2, w26_3, w26_4] using hq | (exfalso; simp_all [show nI 2 = (2 : Int32) from rfl, show nI 3 = (3 : Int32) from rfl, show nI 4 = (4 : Int32) from rfl, show nI 5 = (5 : Int32) from rfl, show nI 6 = (6 : Int32) from rfl, show nI 7 = (7 : Int32) from rfl, show nI 8 = (8 : Int32) from rfl, show nI 9 = (9 : Int32) from rfl]; done))
    have v26_4 := neT (n := 4) (by decide) w26_4
    by_cases w26_5 : z = nI 5
    · have hT26 : (z).toInt = 5 := by rw [w26_5]; decide
      refine V_tableIn (pc := 26) 104 d_X11_stretchTold_26 (by omega) (by omega) (by rw [hT26]; rfl) (by decide) ?_
      refine V_aload_n (pc := 104) d_X11_stretchTold_104 rfl ?_
      refine P_getR (pc := 105) d_X11_stretchTold_105 f_X11_10 (tt_3 b) (rr_3_0 b) ?_
      refine V_iload_n (pc := 108) d_X11_stretchTold_108 rfl ?_
      refine V_cvI (pc := 109) (n := 3) (c := 4) [_] d_X11_stretchTold_109 c_X11_253 k_X4_longNow ⟨rfl, rfl⟩ (tt_4 b) rfl (Nat.le_of_ble_eq_true rfl) ⟨Nat.le_of_ble_eq_true rfl, Nat.le_of_ble_eq_true rfl⟩ ⟨Nat.le_refl _, Nat.le_refl _⟩ (ct_X4_longNow hH hC hS (by omega) hn10 rq hq2 ?_)
      exact V_retI (pc := 112) d_X11_stretchTold_112 rfl ⟨Nat.le_refl _, Nat.le_refl _⟩ (by first | simpa (disch := omega) [-Int.not_lt, -Int.not_le, nI_eq, nI_eq0, nI_eq1, nI_e0n, nI_e1n, stQ, nI_clamp, c8, w26_0, w26_1, w26_2, w26_3, w26_4, w26_5] using hq | (exfalso; simp_all [show nI 2 = (2 : Int32) from rfl, show nI 3 = (3 : Int32) from rfl, show nI 4 = (4 : Int32) from rfl, show nI 5 = (5 : Int32) from rfl, show nI 6 = (6 : Int32) from rfl, show nI 7 = (7 : Int32) from rfl, show nI 8 = (8 : Int32) from rfl, show nI 9 = (9 : Int32) from rfl]; done))
    have v26_5 := neT (n := 5) (by decide) w26_5
    refine V_tableOut (pc := 26) 113 d_X11_stretchTold_26 (by omega) (by decide) ?_
    refine V_sipush (pc := 113) (-1000) d_X11_stretchTold_113 (by decide) ?_
    exact V_retI (pc := 116) d_X11_stretchTold_116 rfl ⟨Nat.le_refl _, Nat.le_refl _⟩ (by first | simpa (disch := omega) [-Int.not_lt, -Int.not_le, nI_eq, nI_eq0, nI_eq1, nI_e0n, nI_e1n, stQ, nI_clamp, c8, w26_0, w26_1, w26_2, w26_3, w26_4, w26_5] using hq | (exfalso; simp_all [show nI 2 = (2 : Int32) from rfl, show nI 3 = (3 : Int32) from rfl, show nI 4 = (4 : Int32) from rfl, show nI 5 = (5 : Int32) from rfl, show nI 6 = (6 : Int32) from rfl, show nI 7 = (7 : Int32) from rfl, show nI 8 = (8 : Int32) from rfl, show nI 9 = (9 : Int32) from rfl]; done))
  · replace c8 := zf c8
    refine V_sipush (pc := 11) (-1000) d_X11_stretchTold_11 (by decide) ?_
    exact V_retI (pc := 14) d_X11_stretchTold_14 rfl ⟨Nat.le_refl _, Nat.le_refl _⟩ (by first | simpa (disch := omega) [-Int.not_lt, -Int.not_le, nI_eq, nI_eq0, nI_eq1, nI_e0n, nI_e1n, stQ, nI_clamp, c8] using hq | (exfalso; simp_all [show nI 2 = (2 : Int32) from rfl, show nI 3 = (3 : Int32) from rfl, show nI 4 = (4 : Int32) from rfl, show nI 5 = (5 : Int32) from rfl, show nI 6 = (6 : Int32) from rfl, show nI 7 = (7 : Int32) from rfl, show nI 8 = (8 : Int32) from rfl, show nI 9 = (9 : Int32) from rfl]; done))
theorem ct_X12_stretchTold {x z : Int32} {ρ : Sg} {q ns nb nl nt nr : Nat} (hR : RR ρ 4 σ q ns nb nl nt nr) (hq : K (stQ σ q ns x z) (σ, sh b)) : CM G mX12_stretchTold (rl 3) [.ref 139, .int x, .int z] (σ, sh b) (QI K) := by
  obtain ⟨⟨⟨hq2, hn10, hnb, hnl, hnt, hnr⟩, ⟨vq, vns, vnb, vnl, vnt, vnr⟩, ⟨rq, rns, rnb, rnl, rnt, rnr⟩, hpd⟩, hH, hC, hS, hLD, hB, hA, hT, hU⟩ := hR
  refine CM.of (by decide) (Nat.le_of_ble_eq_true rfl) (cats1 rfl) ?_
  refine V_aload_n (pc := 0) d_X12_stretchTold_0 rfl ?_
  refine V_iload_n (pc := 1) d_X12_stretchTold_1 rfl ?_
  refine V_cvI (pc := 2) (n := 2) (c := 12) [_] d_X12_stretchTold_2 c_X12_202 k_X12_isStretch ⟨rfl, rfl⟩ (tt_139 b) rfl (Nat.le_of_ble_eq_true rfl) ⟨Nat.le_of_ble_eq_true rfl, Nat.le_of_ble_eq_true rfl⟩ ⟨Nat.le_refl _, Nat.le_refl _⟩ (ct_X12_isStretch vns (by omega) ?_)
  refine V_if_ne (pc := 5) 12 d_X12_stretchTold_5 (by decide) (fun c5 => ?_) (fun c5 => ?_)
  · replace c5 := zt c5
    obtain ⟨k, hk, rfl, -⟩ := nat_of (n := ns) c5.1 (by omega) (by omega)
    refine V_iload_n (pc := 12) d_X12_stretchTold_12 rfl ?_
    by_cases w13_0 : z = 0
    · have hT13 : (z).toInt = 0 := by rw [w13_0]; decide
      refine V_tableIn (pc := 13) 52 d_X12_stretchTold_13 (by omega) (by omega) (by rw [hT13]; rfl) (by decide) ?_
      refine V_aload_n (pc := 52) d_X12_stretchTold_52 rfl ?_
      refine P_getR (pc := 53) d_X12_stretchTold_53 f_X12_7 (tt_139 b) (rr_139_3 b) ?_
      refine V_iload_n (pc := 56) d_X12_stretchTold_56 rfl ?_
      refine P_iald (pc := 57) (k) d_X12_stretchTold_57 (tt_140 b) rfl (ln_of (ll_140 b) ⟨by omega, by decide⟩) ?_
      exact V_retI (pc := 58) d_X12_stretchTold_58 rfl ⟨Nat.le_refl _, Nat.le_refl _⟩ (by first | simpa (disch := omega) [-Int.not_lt, -Int.not_le, nI_eq, nI_eq0, nI_eq1, nI_e0n, nI_e1n, stQ, nI_clamp, c5, w13_0] using hq | (exfalso; simp_all [show nI 2 = (2 : Int32) from rfl, show nI 3 = (3 : Int32) from rfl, show nI 4 = (4 : Int32) from rfl, show nI 5 = (5 : Int32) from rfl, show nI 6 = (6 : Int32) from rfl, show nI 7 = (7 : Int32) from rfl, show nI 8 = (8 : Int32) from rfl, show nI 9 = (9 : Int32) from rfl]; done))
    have v13_0 := neT (n := 0) (by decide) w13_0
    by_cases w13_1 : z = 1
    · have hT13 : (z).toInt = 1 := by rw [w13_1]; decide
      refine V_tableIn (pc := 13) 59 d_X12_stretchTold_13 (by omega) (by omega) (by rw [hT13]; rfl) (by decide) ?_
      refine V_aload_n (pc := 59) d_X12_stretchTold_59 rfl ?_
      refine P_getR (pc := 60) d_X12_stretchTold_60 f_X12_13 (tt_139 b) (rr_139_4 b) ?_
      refine V_iload_n (pc := 63) d_X12_stretchTold_63 rfl ?_
      refine P_iald (pc := 64) (k) d_X12_stretchTold_64 (tt_141 b) rfl (ln_of (ll_141 b) ⟨by omega, by decide⟩) ?_
      exact V_retI (pc := 65) d_X12_stretchTold_65 rfl ⟨Nat.le_refl _, Nat.le_refl _⟩ (by first | simpa (disch := omega) [-Int.not_lt, -Int.not_le, nI_eq, nI_eq0, nI_eq1, nI_e0n, nI_e1n, stQ, nI_clamp, c5, w13_0, w13_1] using hq | (exfalso; simp_all [show nI 2 = (2 : Int32) from rfl, show nI 3 = (3 : Int32) from rfl, show nI 4 = (4 : Int32) from rfl, show nI 5 = (5 : Int32) from rfl, show nI 6 = (6 : Int32) from rfl, show nI 7 = (7 : Int32) from rfl, show nI 8 = (8 : Int32) from rfl, show nI 9 = (9 : Int32) from rfl]; done))
    have v13_1 := neT (n := 1) (by decide) w13_1
    by_cases w13_2 : z = nI 2
    · have hT13 : (z).toInt = 2 := by rw [w13_2]; decide
      refine V_tableIn (pc := 13) 66 d_X12_stretchTold_13 (by omega) (by omega) (by rw [hT13]; rfl) (by decide) ?_
      refine V_aload_n (pc := 66) d_X12_stretchTold_66 rfl ?_
      refine P_getR (pc := 67) d_X12_stretchTold_67 f_X12_16 (tt_139 b) (rr_139_5 b) ?_
      refine V_iload_n (pc := 70) d_X12_stretchTold_70 rfl ?_
      refine P_iald (pc := 71) (k) d_X12_stretchTold_71 (tt_142 b) rfl (ln_of (ll_142 b) ⟨by omega, by decide⟩) ?_
      exact V_retI (pc := 72) d_X12_stretchTold_72 rfl ⟨Nat.le_refl _, Nat.le_refl _⟩ (by first | simpa (disch := omega) [-Int.not_lt, -Int.not_le, nI_eq, nI_eq0, nI_eq1, nI_e0n, nI_e1n, stQ, nI_clamp, c5, w13_0, w13_1, w13_2] using hq | (exfalso; simp_all [show nI 2 = (2 : Int32) from rfl, show nI 3 = (3 : Int32) from rfl, show nI 4 = (4 : Int32) from rfl, show nI 5 = (5 : Int32) from rfl, show nI 6 = (6 : Int32) from rfl, show nI 7 = (7 : Int32) from rfl, show nI 8 = (8 : Int32) from rfl, show nI 9 = (9 : Int32) from rfl]; done))
    have v13_2 := neT (n := 2) (by decide) w13_2
    by_cases w13_3 : z = nI 3
    · have hT13 : (z).toInt = 3 := by rw [w13_3]; decide
      refine V_tableIn (pc := 13) 73 d_X12_stretchTold_13 (by omega) (by omega) (by rw [hT13]; rfl) (by decide) ?_
      refine V_aload_n (pc := 73) d_X12_stretchTold_73 rfl ?_
      refine P_getR (pc := 74) d_X12_stretchTold_74 f_X12_19 (tt_139 b) (rr_139_6 b) ?_
      refine V_iload_n (pc := 77) d_X12_stretchTold_77 rfl ?_
      refine P_zald (pc := 78) (k) d_X12_stretchTold_78 (tt_143 b) rfl (ln_of (ll_143 b) ⟨by omega, by decide⟩) ?_
      refine V_if_eq (pc := 79) 86 d_X12_stretchTold_79 (by decide) (fun c79 => ?_) (fun c79 => ?_)
      · refine V_iconst (pc := 86) (0) d_X12_stretchTold_86 (by decide) ?_
        exact V_retI (pc := 87) d_X12_stretchTold_87 rfl ⟨Nat.le_refl _, Nat.le_refl _⟩ (by first | simpa (disch := omega) [-Int.not_lt, -Int.not_le, nI_eq, nI_eq0, nI_eq1, nI_e0n, nI_e1n, stQ, nI_clamp, c5, w13_0, w13_1, w13_2, w13_3, c79] using hq | (exfalso; simp_all [show nI 2 = (2 : Int32) from rfl, show nI 3 = (3 : Int32) from rfl, show nI 4 = (4 : Int32) from rfl, show nI 5 = (5 : Int32) from rfl, show nI 6 = (6 : Int32) from rfl, show nI 7 = (7 : Int32) from rfl, show nI 8 = (8 : Int32) from rfl, show nI 9 = (9 : Int32) from rfl]; done))
      · refine V_iconst (pc := 82) (1) d_X12_stretchTold_82 (by decide) ?_
        refine V_goto (pc := 83) 87 d_X12_stretchTold_83 (by decide) ?_
        exact V_retI (pc := 87) d_X12_stretchTold_87 rfl ⟨Nat.le_refl _, Nat.le_refl _⟩ (by first | simpa (disch := omega) [-Int.not_lt, -Int.not_le, nI_eq, nI_eq0, nI_eq1, nI_e0n, nI_e1n, stQ, nI_clamp, c5, w13_0, w13_1, w13_2, w13_3, c79] using hq | (exfalso; simp_all [show nI 2 = (2 : Int32) from rfl, show nI 3 = (3 : Int32) from rfl, show nI 4 = (4 : Int32) from rfl, show nI 5 = (5 : Int32) from rfl, show nI 6 = (6 : Int32) from rfl, show nI 7 = (7 : Int32) from rfl, show nI 8 = (8 : Int32) from rfl, show nI 9 = (9 : Int32) from rfl]; done))
    have v13_3 := neT (n := 3) (by decide) w13_3
    by_cases w13_4 : z = nI 4
    · have hT13 : (z).toInt = 4 := by rw [w13_4]; decide
      refine V_tableIn (pc := 13) 88 d_X12_stretchTold_13 (by omega) (by omega) (by rw [hT13]; rfl) (by decide) ?_
      refine V_aload_n (pc := 88) d_X12_stretchTold_88 rfl ?_
      refine V_iload_n (pc := 89) d_X12_stretchTold_89 rfl ?_
      refine V_aload_n (pc := 90) d_X12_stretchTold_90 rfl ?_
      refine V_cvI (pc := 91) (n := 1) (c := 12) [] d_X12_stretchTold_91 c_X12_218 k_X12_today ⟨rfl, rfl⟩ (tt_139 b) rfl (Nat.le_of_ble_eq_true rfl) ⟨Nat.le_of_ble_eq_true rfl, Nat.le_of_ble_eq_true rfl⟩ ⟨Nat.le_refl _, Nat.le_refl _⟩ (ct_X12_today vq hq2 ?_)
      refine V_cvI (pc := 94) (n := 2) (c := 12) [_, _] d_X12_stretchTold_94 c_X12_211 k_X12_shiftOf ⟨rfl, rfl⟩ (tt_139 b) rfl (Nat.le_of_ble_eq_true rfl) ⟨Nat.le_of_ble_eq_true rfl, Nat.le_of_ble_eq_true rfl⟩ ⟨Nat.le_refl _, Nat.le_refl _⟩ (ct_X12_shiftOf hS (by omega) hn10 (by omega) ?_)
      exact V_retI (pc := 97) d_X12_stretchTold_97 rfl ⟨Nat.le_refl _, Nat.le_refl _⟩ (by first | simpa (disch := omega) [-Int.not_lt, -Int.not_le, nI_eq, nI_eq0, nI_eq1, nI_e0n, nI_e1n, stQ, nI_clamp, c5, w13_0, w13_1, w13_2, w13_3, w13_4] using hq | (exfalso; simp_all [show nI 2 = (2 : Int32) from rfl, show nI 3 = (3 : Int32) from rfl, show nI 4 = (4 : Int32) from rfl, show nI 5 = (5 : Int32) from rfl, show nI 6 = (6 : Int32) from rfl, show nI 7 = (7 : Int32) from rfl, show nI 8 = (8 : Int32) from rfl, show nI 9 = (9 : Int32) from rfl]; done))
    have v13_4 := neT (n := 4) (by decide) w13_4
    by_cases w13_5 : z = nI 5
    · have hT13 : (z).toInt = 5 := by rw [w13_5]; decide
      refine V_tableIn (pc := 13) 98 d_X12_stretchTold_13 (by omega) (by omega) (by rw [hT13]; rfl) (by decide) ?_
      refine V_aload_n (pc := 98) d_X12_stretchTold_98 rfl ?_
      refine V_iload_n (pc := 99) d_X12_stretchTold_99 rfl ?_
      refine V_aload_n (pc := 100) d_X12_stretchTold_100 rfl ?_
      refine V_cvI (pc := 101) (n := 1) (c := 12) [] d_X12_stretchTold_101 c_X12_221 k_X12_isNight ⟨rfl, rfl⟩ (tt_139 b) rfl (Nat.le_of_ble_eq_true rfl) ⟨Nat.le_of_ble_eq_true rfl, Nat.le_of_ble_eq_true rfl⟩ ⟨Nat.le_refl _, Nat.le_refl _⟩ (ct_X12_isNight vq hq2 ?_)
      refine V_cvI (pc := 104) (n := 2) (c := 12) [_, _] d_X12_stretchTold_104 c_X12_225 k_X12_longOf ⟨rfl, rfl⟩ (tt_139 b) rfl (Nat.le_of_ble_eq_true rfl) ⟨Nat.le_of_ble_eq_true rfl, Nat.le_of_ble_eq_true rfl⟩ ⟨Nat.le_refl _, Nat.le_refl _⟩ (ct_X12_longOf hH hC hS (by omega) hn10 vq hq2 ?_)
      exact V_retI (pc := 107) d_X12_stretchTold_107 rfl ⟨Nat.le_refl _, Nat.le_refl _⟩ (by first | simpa (disch := omega) [-Int.not_lt, -Int.not_le, nI_eq, nI_eq0, nI_eq1, nI_e0n, nI_e1n, stQ, nI_clamp, c5, w13_0, w13_1, w13_2, w13_3, w13_4, w13_5] using hq | (exfalso; simp_all [show nI 2 = (2 : Int32) from rfl, show nI 3 = (3 : Int32) from rfl, show nI 4 = (4 : Int32) from rfl, show nI 5 = (5 : Int32) from rfl, show nI 6 = (6 : Int32) from rfl, show nI 7 = (7 : Int32) from rfl, show nI 8 = (8 : Int32) from rfl, show nI 9 = (9 : Int32) from rfl]; done))
    have v13_5 := neT (n := 5) (by decide) w13_5
    refine V_tableOut (pc := 13) 108 d_X12_stretchTold_13 (by omega) (by decide) ?_
    refine V_sipush (pc := 108) (-1000) d_X12_stretchTold_108 (by decide) ?_
    exact V_retI (pc := 111) d_X12_stretchTold_111 rfl ⟨Nat.le_refl _, Nat.le_refl _⟩ (by first | simpa (disch := omega) [-Int.not_lt, -Int.not_le, nI_eq, nI_eq0, nI_eq1, nI_e0n, nI_e1n, stQ, nI_clamp, c5, w13_0, w13_1, w13_2, w13_3, w13_4, w13_5] using hq | (exfalso; simp_all [show nI 2 = (2 : Int32) from rfl, show nI 3 = (3 : Int32) from rfl, show nI 4 = (4 : Int32) from rfl, show nI 5 = (5 : Int32) from rfl, show nI 6 = (6 : Int32) from rfl, show nI 7 = (7 : Int32) from rfl, show nI 8 = (8 : Int32) from rfl, show nI 9 = (9 : Int32) from rfl]; done))
  · replace c5 := zf c5
    refine V_sipush (pc := 8) (-1000) d_X12_stretchTold_8 (by decide) ?_
    exact V_retI (pc := 11) d_X12_stretchTold_11 rfl ⟨Nat.le_refl _, Nat.le_refl _⟩ (by first | simpa (disch := omega) [-Int.not_lt, -Int.not_le, nI_eq, nI_eq0, nI_eq1, nI_e0n, nI_e1n, stQ, nI_clamp, c5] using hq | (exfalso; simp_all [show nI 2 = (2 : Int32) from rfl, show nI 3 = (3 : Int32) from rfl, show nI 4 = (4 : Int32) from rfl, show nI 5 = (5 : Int32) from rfl, show nI 6 = (6 : Int32) from rfl, show nI 7 = (7 : Int32) from rfl, show nI 8 = (8 : Int32) from rfl, show nI 9 = (9 : Int32) from rfl]; done))
theorem ct_X11_baleTold {x z : Int32} {q ns nb nl nt nr : Nat} (hR : RR σ 4 σ q ns nb nl nt nr) (hq : K (baleQ σ nl x z) (σ, sh b)) : CM G mX11_baleTold (rl 3) [.ref 3, .int x, .int z] (σ, sh b) (QI K) := by
  obtain ⟨⟨⟨hq2, hn10, hnb, hnl, hnt, hnr⟩, ⟨vq, vns, vnb, vnl, vnt, vnr⟩, ⟨rq, rns, rnb, rnl, rnt, rnr⟩, hpd⟩, hH, hC, hS, hLD, hB, hA, hT, hU⟩ := hR
  refine CM.of (by decide) (Nat.le_of_ble_eq_true rfl) (cats1 rfl) ?_
  refine V_aload_n (pc := 0) d_X11_baleTold_0 rfl ?_
  refine P_getR (pc := 1) d_X11_baleTold_1 f_X11_10 (tt_3 b) (rr_3_0 b) ?_
  refine V_iload_n (pc := 4) d_X11_baleTold_4 rfl ?_
  refine V_cvI (pc := 5) (n := 2) (c := 4) [_] d_X11_baleTold_5 c_X11_133 k_X4_isBale ⟨rfl, rfl⟩ (tt_4 b) rfl (Nat.le_of_ble_eq_true rfl) ⟨Nat.le_of_ble_eq_true rfl, Nat.le_of_ble_eq_true rfl⟩ ⟨Nat.le_refl _, Nat.le_refl _⟩ (ct_X4_isBale rnl (by omega) ?_)
  refine V_if_ne (pc := 8) 13 d_X11_baleTold_8 (by decide) (fun c8 => ?_) (fun c8 => ?_)
  · replace c8 := zt c8
    obtain ⟨j, hj, rfl, -⟩ := nat_of (n := nl) c8.1 (by omega) (by omega)
    refine V_aload_n (pc := 13) d_X11_baleTold_13 rfl ?_
    refine P_getR (pc := 14) d_X11_baleTold_14 f_X11_10 (tt_3 b) (rr_3_0 b) ?_
    refine P_getR (pc := 17) d_X11_baleTold_17 f_X11_126 (tt_4 b) (rr_4_13 b) ?_
    refine V_iload_n (pc := 20) d_X11_baleTold_20 rfl ?_
    refine P_aald (pc := 21) (c := 1) (j) d_X11_baleTold_21 (tt_10 b) (by decide) rfl (ln_of (ll_10 b) ⟨by omega, by decide⟩) (rBA b (by omega)) ?_
    refine V_astore_n (pc := 22) d_X11_baleTold_22 (by decide) ?_
    refine V_iload_n (pc := 23) d_X11_baleTold_23 rfl ?_
    by_cases w24_0 : z = 0
    · have hT24 : (z).toInt = 0 := by rw [w24_0]; decide
      refine V_tableIn (pc := 24) 60 d_X11_baleTold_24 (by omega) (by omega) (by rw [hT24]; rfl) (by decide) ?_
      refine V_aload_n (pc := 60) d_X11_baleTold_60 rfl ?_
      refine P_getI (pc := 61) d_X11_baleTold_61 f_X11_139 (tBA b (by omega)) ?_
      rw [(cA_f hA (by omega : j < nl)).2.2.2.1]
      exact V_retI (pc := 64) d_X11_baleTold_64 rfl ⟨Nat.le_refl _, Nat.le_refl _⟩ (by first | simpa (disch := omega) [-Int.not_lt, -Int.not_le, nI_eq, nI_eq0, nI_eq1, nI_e0n, nI_e1n, baleQ, nI_clamp, c8, w24_0] using hq | (exfalso; simp_all [show nI 2 = (2 : Int32) from rfl, show nI 3 = (3 : Int32) from rfl, show nI 4 = (4 : Int32) from rfl, show nI 5 = (5 : Int32) from rfl, show nI 6 = (6 : Int32) from rfl, show nI 7 = (7 : Int32) from rfl, show nI 8 = (8 : Int32) from rfl, show nI 9 = (9 : Int32) from rfl]; done))
    have v24_0 := neT (n := 0) (by decide) w24_0
    by_cases w24_1 : z = 1
    · have hT24 : (z).toInt = 1 := by rw [w24_1]; decide
      refine V_tableIn (pc := 24) 65 d_X11_baleTold_24 (by omega) (by omega) (by rw [hT24]; rfl) (by decide) ?_
      refine V_aload_n (pc := 65) d_X11_baleTold_65 rfl ?_
      refine P_getI (pc := 66) d_X11_baleTold_66 f_X11_143 (tBA b (by omega)) ?_
      rw [(cA_f hA (by omega : j < nl)).2.2.2.2]
      exact V_retI (pc := 69) d_X11_baleTold_69 rfl ⟨Nat.le_refl _, Nat.le_refl _⟩ (by first | simpa (disch := omega) [-Int.not_lt, -Int.not_le, nI_eq, nI_eq0, nI_eq1, nI_e0n, nI_e1n, baleQ, nI_clamp, c8, w24_0, w24_1] using hq | (exfalso; simp_all [show nI 2 = (2 : Int32) from rfl, show nI 3 = (3 : Int32) from rfl, show nI 4 = (4 : Int32) from rfl, show nI 5 = (5 : Int32) from rfl, show nI 6 = (6 : Int32) from rfl, show nI 7 = (7 : Int32) from rfl, show nI 8 = (8 : Int32) from rfl, show nI 9 = (9 : Int32) from rfl]; done))
    have v24_1 := neT (n := 1) (by decide) w24_1
    by_cases w24_2 : z = nI 2
    · have hT24 : (z).toInt = 2 := by rw [w24_2]; decide
      refine V_tableIn (pc := 24) 70 d_X11_baleTold_24 (by omega) (by omega) (by rw [hT24]; rfl) (by decide) ?_
      refine V_aload_n (pc := 70) d_X11_baleTold_70 rfl ?_
      refine P_getI (pc := 71) d_X11_baleTold_71 f_X11_164 (tBA b (by omega)) ?_
      rw [(cA_f hA (by omega : j < nl)).1]
      exact V_retI (pc := 74) d_X11_baleTold_74 rfl ⟨Nat.le_refl _, Nat.le_refl _⟩ (by first | simpa (disch := omega) [-Int.not_lt, -Int.not_le, nI_eq, nI_eq0, nI_eq1, nI_e0n, nI_e1n, baleQ, nI_clamp, c8, w24_0, w24_1, w24_2] using hq | (exfalso; simp_all [show nI 2 = (2 : Int32) from rfl, show nI 3 = (3 : Int32) from rfl, show nI 4 = (4 : Int32) from rfl, show nI 5 = (5 : Int32) from rfl, show nI 6 = (6 : Int32) from rfl, show nI 7 = (7 : Int32) from rfl, show nI 8 = (8 : Int32) from rfl, show nI 9 = (9 : Int32) from rfl]; done))
    have v24_2 := neT (n := 2) (by decide) w24_2
    by_cases w24_3 : z = nI 3
    · have hT24 : (z).toInt = 3 := by rw [w24_3]; decide
      refine V_tableIn (pc := 24) 75 d_X11_baleTold_24 (by omega) (by omega) (by rw [hT24]; rfl) (by decide) ?_
      refine V_aload_n (pc := 75) d_X11_baleTold_75 rfl ?_
      refine P_getI (pc := 76) d_X11_baleTold_76 f_X11_150 (tBA b (by omega)) ?_
      rw [(cA_f hA (by omega : j < nl)).2.1]
      exact V_retI (pc := 79) d_X11_baleTold_79 rfl ⟨Nat.le_refl _, Nat.le_refl _⟩ (by first | simpa (disch := omega) [-Int.not_lt, -Int.not_le, nI_eq, nI_eq0, nI_eq1, nI_e0n, nI_e1n, baleQ, nI_clamp, c8, w24_0, w24_1, w24_2, w24_3] using hq | (exfalso; simp_all [show nI 2 = (2 : Int32) from rfl, show nI 3 = (3 : Int32) from rfl, show nI 4 = (4 : Int32) from rfl, show nI 5 = (5 : Int32) from rfl, show nI 6 = (6 : Int32) from rfl, show nI 7 = (7 : Int32) from rfl, show nI 8 = (8 : Int32) from rfl, show nI 9 = (9 : Int32) from rfl]; done))
    have v24_3 := neT (n := 3) (by decide) w24_3
    by_cases w24_4 : z = nI 4
    · have hT24 : (z).toInt = 4 := by rw [w24_4]; decide
      refine V_tableIn (pc := 24) 80 d_X11_baleTold_24 (by omega) (by omega) (by rw [hT24]; rfl) (by decide) ?_
      refine V_aload_n (pc := 80) d_X11_baleTold_80 rfl ?_
      refine P_getI (pc := 81) d_X11_baleTold_81 f_X11_170 (tBA b (by omega)) ?_
      rw [(cA_f hA (by omega : j < nl)).2.2.1]
      exact V_retI (pc := 84) d_X11_baleTold_84 rfl ⟨Nat.le_refl _, Nat.le_refl _⟩ (by first | simpa (disch := omega) [-Int.not_lt, -Int.not_le, nI_eq, nI_eq0, nI_eq1, nI_e0n, nI_e1n, baleQ, nI_clamp, c8, w24_0, w24_1, w24_2, w24_3, w24_4] using hq | (exfalso; simp_all [show nI 2 = (2 : Int32) from rfl, show nI 3 = (3 : Int32) from rfl, show nI 4 = (4 : Int32) from rfl, show nI 5 = (5 : Int32) from rfl, show nI 6 = (6 : Int32) from rfl, show nI 7 = (7 : Int32) from rfl, show nI 8 = (8 : Int32) from rfl, show nI 9 = (9 : Int32) from rfl]; done))
    have v24_4 := neT (n := 4) (by decide) w24_4
    refine V_tableOut (pc := 24) 85 d_X11_baleTold_24 (by omega) (by decide) ?_
    refine V_iconst (pc := 85) (-1) d_X11_baleTold_85 (by decide) ?_
    exact V_retI (pc := 86) d_X11_baleTold_86 rfl ⟨Nat.le_refl _, Nat.le_refl _⟩ (by first | simpa (disch := omega) [-Int.not_lt, -Int.not_le, nI_eq, nI_eq0, nI_eq1, nI_e0n, nI_e1n, baleQ, nI_clamp, c8, w24_0, w24_1, w24_2, w24_3, w24_4] using hq | (exfalso; simp_all [show nI 2 = (2 : Int32) from rfl, show nI 3 = (3 : Int32) from rfl, show nI 4 = (4 : Int32) from rfl, show nI 5 = (5 : Int32) from rfl, show nI 6 = (6 : Int32) from rfl, show nI 7 = (7 : Int32) from rfl, show nI 8 = (8 : Int32) from rfl, show nI 9 = (9 : Int32) from rfl]; done))
  · replace c8 := zf c8
    refine V_iconst (pc := 11) (-1) d_X11_baleTold_11 (by decide) ?_
    exact V_retI (pc := 12) d_X11_baleTold_12 rfl ⟨Nat.le_refl _, Nat.le_refl _⟩ (by first | simpa (disch := omega) [-Int.not_lt, -Int.not_le, nI_eq, nI_eq0, nI_eq1, nI_e0n, nI_e1n, baleQ, nI_clamp, c8] using hq | (exfalso; simp_all [show nI 2 = (2 : Int32) from rfl, show nI 3 = (3 : Int32) from rfl, show nI 4 = (4 : Int32) from rfl, show nI 5 = (5 : Int32) from rfl, show nI 6 = (6 : Int32) from rfl, show nI 7 = (7 : Int32) from rfl, show nI 8 = (8 : Int32) from rfl, show nI 9 = (9 : Int32) from rfl]; done))
theorem ct_X12_baleTold {x z : Int32} {ρ : Sg} {q ns nb nl nt nr : Nat} (hR : RR ρ 4 σ q ns nb nl nt nr) (hq : K (baleQ σ nl x z) (σ, sh b)) : CM G mX12_baleTold (rl 3) [.ref 139, .int x, .int z] (σ, sh b) (QI K) := by
  obtain ⟨⟨⟨hq2, hn10, hnb, hnl, hnt, hnr⟩, ⟨vq, vns, vnb, vnl, vnt, vnr⟩, ⟨rq, rns, rnb, rnl, rnt, rnr⟩, hpd⟩, hH, hC, hS, hLD, hB, hA, hT, hU⟩ := hR
  refine CM.of (by decide) (Nat.le_of_ble_eq_true rfl) (cats1 rfl) ?_
  refine V_aload_n (pc := 0) d_X12_baleTold_0 rfl ?_
  refine V_iload_n (pc := 1) d_X12_baleTold_1 rfl ?_
  refine V_cvI (pc := 2) (n := 2) (c := 12) [_] d_X12_baleTold_2 c_X12_235 k_X12_isBale ⟨rfl, rfl⟩ (tt_139 b) rfl (Nat.le_of_ble_eq_true rfl) ⟨Nat.le_of_ble_eq_true rfl, Nat.le_of_ble_eq_true rfl⟩ ⟨Nat.le_refl _, Nat.le_refl _⟩ (ct_X12_isBale vnl (by omega) ?_)
  refine V_if_eq (pc := 5) 17 d_X12_baleTold_5 (by decide) (fun c5 => ?_) (fun c5 => ?_)
  · replace c5 := zf c5
    refine V_iconst (pc := 17) (-1) d_X12_baleTold_17 (by decide) ?_
    exact V_retI (pc := 18) d_X12_baleTold_18 rfl ⟨Nat.le_refl _, Nat.le_refl _⟩ (by first | simpa (disch := omega) [-Int.not_lt, -Int.not_le, nI_eq, nI_eq0, nI_eq1, nI_e0n, nI_e1n, baleQ, nI_clamp, c5] using hq | (exfalso; simp_all [show nI 2 = (2 : Int32) from rfl, show nI 3 = (3 : Int32) from rfl, show nI 4 = (4 : Int32) from rfl, show nI 5 = (5 : Int32) from rfl, show nI 6 = (6 : Int32) from rfl, show nI 7 = (7 : Int32) from rfl, show nI 8 = (8 : Int32) from rfl, show nI 9 = (9 : Int32) from rfl]; done))
  · replace c5 := zt c5
    obtain ⟨j, hj, rfl, -⟩ := nat_of (n := nl) c5.1 (by omega) (by omega)
    refine V_iload_n (pc := 8) d_X12_baleTold_8 rfl ?_
    refine V_iconst (pc := 9) (0) d_X12_baleTold_9 (by decide) ?_
    refine V_iconst (pc := 10) (nI 4) d_X12_baleTold_10 (by decide) ?_
    refine V_csI (pc := 11) (n := 1) [_, _, _] d_X12_baleTold_11 c_X12_174 k_X12_in rfl (Nat.le_of_ble_eq_true rfl) ⟨Nat.le_of_ble_eq_true rfl, Nat.le_of_ble_eq_true rfl⟩ ⟨Nat.le_refl _, Nat.le_refl _⟩ (ct_X12_in (lo := 0) (hi := 4) (by decide) (by decide) ?_)
    refine V_if_ne (pc := 14) 19 d_X12_baleTold_14 (by decide) (fun c14 => ?_) (fun c14 => ?_)
    · replace c14 := zt c14
      refine V_iload_n (pc := 19) d_X12_baleTold_19 rfl ?_
      refine V_if_ne (pc := 20) 32 d_X12_baleTold_20 (by decide) (fun c20 => ?_) (fun c20 => ?_)
      · refine V_iload_n (pc := 32) d_X12_baleTold_32 rfl ?_
        refine V_iconst (pc := 33) (1) d_X12_baleTold_33 (by decide) ?_
        refine V_icmp_ne (pc := 34) 46 d_X12_baleTold_34 (by decide) (fun c34 => ?_) (fun c34 => ?_)
        · refine V_iload_n (pc := 46) d_X12_baleTold_46 rfl ?_
          refine V_iconst (pc := 47) (nI 2) d_X12_baleTold_47 (by decide) ?_
          refine V_icmp_ne (pc := 48) 60 d_X12_baleTold_48 (by decide) (fun c48 => ?_) (fun c48 => ?_)
          · refine V_iload_n (pc := 60) d_X12_baleTold_60 rfl ?_
            refine V_iconst (pc := 61) (nI 3) d_X12_baleTold_61 (by decide) ?_
            refine V_icmp_ne (pc := 62) 74 d_X12_baleTold_62 (by decide) (fun c62 => ?_) (fun c62 => ?_)
            · have u4 : z = nI 4 := eqnT (by decide) (by have := ne0T c20; have := ne1T c34; have := neT (n := 2) (by decide) c48; have := neT (n := 3) (by decide) c62; omega)
              refine V_aload_n (pc := 74) d_X12_baleTold_74 rfl ?_
              refine P_getR (pc := 75) d_X12_baleTold_75 f_X12_77 (tt_139 b) (rr_139_27 b) ?_
              refine V_iload_n (pc := 78) d_X12_baleTold_78 rfl ?_
              refine P_iald (pc := 79) (j) d_X12_baleTold_79 (tt_162 b) rfl (ln_of (ll_162 b) ⟨by omega, by decide⟩) ?_
              exact V_retI (pc := 80) d_X12_baleTold_80 rfl ⟨Nat.le_refl _, Nat.le_refl _⟩ (by first | simpa (disch := omega) [-Int.not_lt, -Int.not_le, nI_eq, nI_eq0, nI_eq1, nI_e0n, nI_e1n, baleQ, nI_clamp, c5, c14, c20, c34, c48, c62, u4] using hq | (exfalso; simp_all [show nI 2 = (2 : Int32) from rfl, show nI 3 = (3 : Int32) from rfl, show nI 4 = (4 : Int32) from rfl, show nI 5 = (5 : Int32) from rfl, show nI 6 = (6 : Int32) from rfl, show nI 7 = (7 : Int32) from rfl, show nI 8 = (8 : Int32) from rfl, show nI 9 = (9 : Int32) from rfl]; done))
            · refine V_aload_n (pc := 65) d_X12_baleTold_65 rfl ?_
              refine P_getR (pc := 66) d_X12_baleTold_66 f_X12_74 (tt_139 b) (rr_139_26 b) ?_
              refine V_iload_n (pc := 69) d_X12_baleTold_69 rfl ?_
              refine P_iald (pc := 70) (j) d_X12_baleTold_70 (tt_161 b) rfl (ln_of (ll_161 b) ⟨by omega, by decide⟩) ?_
              refine V_goto (pc := 71) 80 d_X12_baleTold_71 (by decide) ?_
              exact V_retI (pc := 80) d_X12_baleTold_80 rfl ⟨Nat.le_refl _, Nat.le_refl _⟩ (by first | simpa (disch := omega) [-Int.not_lt, -Int.not_le, nI_eq, nI_eq0, nI_eq1, nI_e0n, nI_e1n, baleQ, nI_clamp, c5, c14, c20, c34, c48, c62] using hq | (exfalso; simp_all [show nI 2 = (2 : Int32) from rfl, show nI 3 = (3 : Int32) from rfl, show nI 4 = (4 : Int32) from rfl, show nI 5 = (5 : Int32) from rfl, show nI 6 = (6 : Int32) from rfl, show nI 7 = (7 : Int32) from rfl, show nI 8 = (8 : Int32) from rfl, show nI 9 = (9 : Int32) from rfl]; done))
          · refine V_aload_n (pc := 51) d_X12_baleTold_51 rfl ?_
            refine P_getR (pc := 52) d_X12_baleTold_52 f_X12_71 (tt_139 b) (rr_139_25 b) ?_
            refine V_iload_n (pc := 55) d_X12_baleTold_55 rfl ?_
            refine P_iald (pc := 56) (j) d_X12_baleTold_56 (tt_160 b) rfl (ln_of (ll_160 b) ⟨by omega, by decide⟩) ?_
            refine V_goto (pc := 57) 80 d_X12_baleTold_57 (by decide) ?_
            exact V_retI (pc := 80) d_X12_baleTold_80 rfl ⟨Nat.le_refl _, Nat.le_refl _⟩ (by first | simpa (disch := omega) [-Int.not_lt, -Int.not_le, nI_eq, nI_eq0, nI_eq1, nI_e0n, nI_e1n, baleQ, nI_clamp, c5, c14, c20, c34, c48] using hq | (exfalso; simp_all [show nI 2 = (2 : Int32) from rfl, show nI 3 = (3 : Int32) from rfl, show nI 4 = (4 : Int32) from rfl, show nI 5 = (5 : Int32) from rfl, show nI 6 = (6 : Int32) from rfl, show nI 7 = (7 : Int32) from rfl, show nI 8 = (8 : Int32) from rfl, show nI 9 = (9 : Int32) from rfl]; done))
        · refine V_aload_n (pc := 37) d_X12_baleTold_37 rfl ?_
          refine P_getR (pc := 38) d_X12_baleTold_38 f_X12_83 (tt_139 b) (rr_139_29 b) ?_
          refine V_iload_n (pc := 41) d_X12_baleTold_41 rfl ?_
          refine P_iald (pc := 42) (j) d_X12_baleTold_42 (tt_164 b) rfl (ln_of (ll_164 b) ⟨by omega, by decide⟩) ?_
          refine V_goto (pc := 43) 80 d_X12_baleTold_43 (by decide) ?_
          exact V_retI (pc := 80) d_X12_baleTold_80 rfl ⟨Nat.le_refl _, Nat.le_refl _⟩ (by first | simpa (disch := omega) [-Int.not_lt, -Int.not_le, nI_eq, nI_eq0, nI_eq1, nI_e0n, nI_e1n, baleQ, nI_clamp, c5, c14, c20, c34] using hq | (exfalso; simp_all [show nI 2 = (2 : Int32) from rfl, show nI 3 = (3 : Int32) from rfl, show nI 4 = (4 : Int32) from rfl, show nI 5 = (5 : Int32) from rfl, show nI 6 = (6 : Int32) from rfl, show nI 7 = (7 : Int32) from rfl, show nI 8 = (8 : Int32) from rfl, show nI 9 = (9 : Int32) from rfl]; done))
      · refine V_aload_n (pc := 23) d_X12_baleTold_23 rfl ?_
        refine P_getR (pc := 24) d_X12_baleTold_24 f_X12_80 (tt_139 b) (rr_139_28 b) ?_
        refine V_iload_n (pc := 27) d_X12_baleTold_27 rfl ?_
        refine P_iald (pc := 28) (j) d_X12_baleTold_28 (tt_163 b) rfl (ln_of (ll_163 b) ⟨by omega, by decide⟩) ?_
        refine V_goto (pc := 29) 80 d_X12_baleTold_29 (by decide) ?_
        exact V_retI (pc := 80) d_X12_baleTold_80 rfl ⟨Nat.le_refl _, Nat.le_refl _⟩ (by first | simpa (disch := omega) [-Int.not_lt, -Int.not_le, nI_eq, nI_eq0, nI_eq1, nI_e0n, nI_e1n, baleQ, nI_clamp, c5, c14, c20] using hq | (exfalso; simp_all [show nI 2 = (2 : Int32) from rfl, show nI 3 = (3 : Int32) from rfl, show nI 4 = (4 : Int32) from rfl, show nI 5 = (5 : Int32) from rfl, show nI 6 = (6 : Int32) from rfl, show nI 7 = (7 : Int32) from rfl, show nI 8 = (8 : Int32) from rfl, show nI 9 = (9 : Int32) from rfl]; done))
    · replace c14 := zf c14
      have u0 := in_no0 c14 (by omega)
      have u1 := in_no1 c14 (by omega)
      have u2 := in_no (n := 2) c14 (by decide) (by omega)
      have u3 := in_no (n := 3) c14 (by decide) (by omega)
      have u4 := in_no (n := 4) c14 (by decide) (by omega)
      refine V_iconst (pc := 17) (-1) d_X12_baleTold_17 (by decide) ?_
      exact V_retI (pc := 18) d_X12_baleTold_18 rfl ⟨Nat.le_refl _, Nat.le_refl _⟩ (by first | simpa (disch := omega) [-Int.not_lt, -Int.not_le, nI_eq, nI_eq0, nI_eq1, nI_e0n, nI_e1n, baleQ, nI_clamp, c5, c14, u0, u1, u2, u3, u4] using hq | (exfalso; simp_all [show nI 2 = (2 : Int32) from rfl, show nI 3 = (3 : Int32) from rfl, show nI 4 = (4 : Int32) from rfl, show nI 5 = (5 : Int32) from rfl, show nI 6 = (6 : Int32) from rfl, show nI 7 = (7 : Int32) from rfl, show nI 8 = (8 : Int32) from rfl, show nI 9 = (9 : Int32) from rfl]; done))
theorem ct_X11_boatTold {x z : Int32} {q ns nb nl nt nr : Nat} (hR : RR σ 4 σ q ns nb nl nt nr) (hq : K (boatQ σ nb nl x z) (σ, sh b)) : CM G mX11_boatTold (rl 3) [.ref 3, .int x, .int z] (σ, sh b) (QI K) := by
  obtain ⟨⟨⟨hq2, hn10, hnb, hnl, hnt, hnr⟩, ⟨vq, vns, vnb, vnl, vnt, vnr⟩, ⟨rq, rns, rnb, rnl, rnt, rnr⟩, hpd⟩, hH, hC, hS, hLD, hB, hA, hT, hU⟩ := hR
  refine CM.of (by decide) (Nat.le_of_ble_eq_true rfl) (cats1 rfl) ?_
  refine V_aload_n (pc := 0) d_X11_boatTold_0 rfl ?_
  refine P_getR (pc := 1) d_X11_boatTold_1 f_X11_10 (tt_3 b) (rr_3_0 b) ?_
  refine V_iload_n (pc := 4) d_X11_boatTold_4 rfl ?_
  refine V_cvI (pc := 5) (n := 2) (c := 4) [_] d_X11_boatTold_5 c_X11_136 k_X4_isBoat ⟨rfl, rfl⟩ (tt_4 b) rfl (Nat.le_of_ble_eq_true rfl) ⟨Nat.le_of_ble_eq_true rfl, Nat.le_of_ble_eq_true rfl⟩ ⟨Nat.le_refl _, Nat.le_refl _⟩ (ct_X4_isBoat rnb (by omega) ?_)
  refine V_if_ne (pc := 8) 13 d_X11_boatTold_8 (by decide) (fun c8 => ?_) (fun c8 => ?_)
  · replace c8 := zt c8
    obtain ⟨i, hi, rfl, -⟩ := nat_of (n := nb) c8.1 (by omega) (by omega)
    refine V_aload_n (pc := 13) d_X11_boatTold_13 rfl ?_
    refine P_getR (pc := 14) d_X11_boatTold_14 f_X11_10 (tt_3 b) (rr_3_0 b) ?_
    refine P_getR (pc := 17) d_X11_boatTold_17 f_X11_113 (tt_4 b) (rr_4_12 b) ?_
    refine V_iload_n (pc := 20) d_X11_boatTold_20 rfl ?_
    refine P_aald (pc := 21) (c := 2) (i) d_X11_boatTold_21 (tt_9 b) (by decide) rfl (ln_of (ll_9 b) ⟨by omega, by decide⟩) (rB b (by omega)) ?_
    refine V_astore_n (pc := 22) d_X11_boatTold_22 (by decide) ?_
    refine V_iload_n (pc := 23) d_X11_boatTold_23 rfl ?_
    by_cases w24_0 : z = 0
    · have hT24 : (z).toInt = 0 := by rw [w24_0]; decide
      refine V_tableIn (pc := 24) 64 d_X11_boatTold_24 (by omega) (by omega) (by rw [hT24]; rfl) (by decide) ?_
      refine V_aload_n (pc := 64) d_X11_boatTold_64 rfl ?_
      refine P_getI (pc := 65) d_X11_boatTold_65 f_X11_142 (tB b (by omega)) ?_
      rw [(cB_f hB (by omega : i < nb)).2.2.2.2.2.1]
      exact V_retI (pc := 68) d_X11_boatTold_68 rfl ⟨Nat.le_refl _, Nat.le_refl _⟩ (by first | simpa (disch := omega) [-Int.not_lt, -Int.not_le, nI_eq, nI_eq0, nI_eq1, nI_e0n, nI_e1n, boatQ, nI_clamp, c8, w24_0] using hq | (exfalso; simp_all [show nI 2 = (2 : Int32) from rfl, show nI 3 = (3 : Int32) from rfl, show nI 4 = (4 : Int32) from rfl, show nI 5 = (5 : Int32) from rfl, show nI 6 = (6 : Int32) from rfl, show nI 7 = (7 : Int32) from rfl, show nI 8 = (8 : Int32) from rfl, show nI 9 = (9 : Int32) from rfl]; done))
    have v24_0 := neT (n := 0) (by decide) w24_0
    by_cases w24_1 : z = 1
    · have hT24 : (z).toInt = 1 := by rw [w24_1]; decide
      refine V_tableIn (pc := 24) 69 d_X11_boatTold_24 (by omega) (by omega) (by rw [hT24]; rfl) (by decide) ?_
      refine V_aload_n (pc := 69) d_X11_boatTold_69 rfl ?_
      refine P_getI (pc := 70) d_X11_boatTold_70 f_X11_146 (tB b (by omega)) ?_
      rw [(cB_f hB (by omega : i < nb)).2.2.2.2.2.2]
      exact V_retI (pc := 73) d_X11_boatTold_73 rfl ⟨Nat.le_refl _, Nat.le_refl _⟩ (by first | simpa (disch := omega) [-Int.not_lt, -Int.not_le, nI_eq, nI_eq0, nI_eq1, nI_e0n, nI_e1n, boatQ, nI_clamp, c8, w24_0, w24_1] using hq | (exfalso; simp_all [show nI 2 = (2 : Int32) from rfl, show nI 3 = (3 : Int32) from rfl, show nI 4 = (4 : Int32) from rfl, show nI 5 = (5 : Int32) from rfl, show nI 6 = (6 : Int32) from rfl, show nI 7 = (7 : Int32) from rfl, show nI 8 = (8 : Int32) from rfl, show nI 9 = (9 : Int32) from rfl]; done))
    have v24_1 := neT (n := 1) (by decide) w24_1
    by_cases w24_2 : z = nI 2
    · have hT24 : (z).toInt = 2 := by rw [w24_2]; decide
      refine V_tableIn (pc := 24) 74 d_X11_boatTold_24 (by omega) (by omega) (by rw [hT24]; rfl) (by decide) ?_
      refine V_aload_n (pc := 74) d_X11_boatTold_74 rfl ?_
      refine V_cvI (pc := 75) (n := 1) (c := 2) [] d_X11_boatTold_75 c_X11_256 k_X2_isUnderWay ⟨rfl, rfl⟩ (tB b (by omega)) rfl (Nat.le_of_ble_eq_true rfl) ⟨Nat.le_of_ble_eq_true rfl, Nat.le_of_ble_eq_true rfl⟩ ⟨Nat.le_refl _, Nat.le_refl _⟩ (ct_X2_isUnderWay (tB b (by omega)) ?_)
      rw [(cB_f hB hi).2.2.2.2.2.1]
      refine V_if_eq (pc := 78) 88 d_X11_boatTold_78 (by decide) (fun c78 => ?_) (fun c78 => ?_)
      · replace c78 := zf c78
        have et := till0 hB hi c78
        refine V_iconst (pc := 88) (0) d_X11_boatTold_88 (by decide) ?_
        exact V_retI (pc := 89) d_X11_boatTold_89 rfl ⟨Nat.le_refl _, Nat.le_refl _⟩ (by first | simpa (disch := omega) [-Int.not_lt, -Int.not_le, nI_eq, nI_eq0, nI_eq1, nI_e0n, nI_e1n, boatQ, nI_clamp, c8, w24_0, w24_1, w24_2, c78, et] using hq | (exfalso; simp_all [show nI 2 = (2 : Int32) from rfl, show nI 3 = (3 : Int32) from rfl, show nI 4 = (4 : Int32) from rfl, show nI 5 = (5 : Int32) from rfl, show nI 6 = (6 : Int32) from rfl, show nI 7 = (7 : Int32) from rfl, show nI 8 = (8 : Int32) from rfl, show nI 9 = (9 : Int32) from rfl]; done))
      · replace c78 := zt c78
        have eu := up_of hB hi c78
        refine V_aload_n (pc := 81) d_X11_boatTold_81 rfl ?_
        refine P_getI (pc := 82) d_X11_boatTold_82 f_X11_260 (tB b (by omega)) ?_
        refine V_goto (pc := 85) 89 d_X11_boatTold_85 (by decide) ?_
        exact V_retI (pc := 89) d_X11_boatTold_89 rfl ⟨Nat.le_refl _, Nat.le_refl _⟩ (by first | simpa (disch := omega) [-Int.not_lt, -Int.not_le, nI_eq, nI_eq0, nI_eq1, nI_e0n, nI_e1n, boatQ, nI_clamp, c8, w24_0, w24_1, w24_2, c78, eu] using hq | (exfalso; simp_all [show nI 2 = (2 : Int32) from rfl, show nI 3 = (3 : Int32) from rfl, show nI 4 = (4 : Int32) from rfl, show nI 5 = (5 : Int32) from rfl, show nI 6 = (6 : Int32) from rfl, show nI 7 = (7 : Int32) from rfl, show nI 8 = (8 : Int32) from rfl, show nI 9 = (9 : Int32) from rfl]; done))
    have v24_2 := neT (n := 2) (by decide) w24_2
    by_cases w24_3 : z = nI 3
    · have hT24 : (z).toInt = 3 := by rw [w24_3]; decide
      refine V_tableIn (pc := 24) 90 d_X11_boatTold_24 (by omega) (by omega) (by rw [hT24]; rfl) (by decide) ?_
      refine V_aload_n (pc := 90) d_X11_boatTold_90 rfl ?_
      refine P_getI (pc := 91) d_X11_boatTold_91 f_X11_147 (tB b (by omega)) ?_
      rw [(cB_f hB (by omega : i < nb)).2.2.2.2.1]
      exact V_retI (pc := 94) d_X11_boatTold_94 rfl ⟨Nat.le_refl _, Nat.le_refl _⟩ (by first | simpa (disch := omega) [-Int.not_lt, -Int.not_le, nI_eq, nI_eq0, nI_eq1, nI_e0n, nI_e1n, boatQ, nI_clamp, c8, w24_0, w24_1, w24_2, w24_3] using hq | (exfalso; simp_all [show nI 2 = (2 : Int32) from rfl, show nI 3 = (3 : Int32) from rfl, show nI 4 = (4 : Int32) from rfl, show nI 5 = (5 : Int32) from rfl, show nI 6 = (6 : Int32) from rfl, show nI 7 = (7 : Int32) from rfl, show nI 8 = (8 : Int32) from rfl, show nI 9 = (9 : Int32) from rfl]; done))
    have v24_3 := neT (n := 3) (by decide) w24_3
    by_cases w24_4 : z = nI 4
    · have hT24 : (z).toInt = 4 := by rw [w24_4]; decide
      refine V_tableIn (pc := 24) 95 d_X11_boatTold_24 (by omega) (by omega) (by rw [hT24]; rfl) (by decide) ?_
      refine V_aload_n (pc := 95) d_X11_boatTold_95 rfl ?_
      refine V_cvI (pc := 96) (n := 2) (c := 2) [] d_X11_boatTold_96 c_X11_156 k_X2_draught ⟨rfl, rfl⟩ (tB b (by omega)) rfl (Nat.le_of_ble_eq_true rfl) ⟨Nat.le_of_ble_eq_true rfl, Nat.le_of_ble_eq_true rfl⟩ ⟨Nat.le_refl _, Nat.le_refl _⟩ (ct_B_draught hB (by omega) hnb ?_)
      exact V_retI (pc := 99) d_X11_boatTold_99 rfl ⟨Nat.le_refl _, Nat.le_refl _⟩ (by first | simpa (disch := omega) [-Int.not_lt, -Int.not_le, nI_eq, nI_eq0, nI_eq1, nI_e0n, nI_e1n, boatQ, nI_clamp, c8, w24_0, w24_1, w24_2, w24_3, w24_4] using hq | (exfalso; simp_all [show nI 2 = (2 : Int32) from rfl, show nI 3 = (3 : Int32) from rfl, show nI 4 = (4 : Int32) from rfl, show nI 5 = (5 : Int32) from rfl, show nI 6 = (6 : Int32) from rfl, show nI 7 = (7 : Int32) from rfl, show nI 8 = (8 : Int32) from rfl, show nI 9 = (9 : Int32) from rfl]; done))
    have v24_4 := neT (n := 4) (by decide) w24_4
    by_cases w24_5 : z = nI 5
    · have hT24 : (z).toInt = 5 := by rw [w24_5]; decide
      refine V_tableIn (pc := 24) 100 d_X11_boatTold_24 (by omega) (by omega) (by rw [hT24]; rfl) (by decide) ?_
      refine V_aload_n (pc := 100) d_X11_boatTold_100 rfl ?_
      refine P_getI (pc := 101) d_X11_boatTold_101 f_X11_209 (tB b (by omega)) ?_
      rw [(cB_f hB (by omega : i < nb)).2.2.2.1]
      exact V_retI (pc := 104) d_X11_boatTold_104 rfl ⟨Nat.le_refl _, Nat.le_refl _⟩ (by first | simpa (disch := omega) [-Int.not_lt, -Int.not_le, nI_eq, nI_eq0, nI_eq1, nI_e0n, nI_e1n, boatQ, nI_clamp, c8, w24_0, w24_1, w24_2, w24_3, w24_4, w24_5] using hq | (exfalso; simp_all [show nI 2 = (2 : Int32) from rfl, show nI 3 = (3 : Int32) from rfl, show nI 4 = (4 : Int32) from rfl, show nI 5 = (5 : Int32) from rfl, show nI 6 = (6 : Int32) from rfl, show nI 7 = (7 : Int32) from rfl, show nI 8 = (8 : Int32) from rfl, show nI 9 = (9 : Int32) from rfl]; done))
    have v24_5 := neT (n := 5) (by decide) w24_5
    refine V_tableOut (pc := 24) 105 d_X11_boatTold_24 (by omega) (by decide) ?_
    refine V_iconst (pc := 105) (-1) d_X11_boatTold_105 (by decide) ?_
    exact V_retI (pc := 106) d_X11_boatTold_106 rfl ⟨Nat.le_refl _, Nat.le_refl _⟩ (by first | simpa (disch := omega) [-Int.not_lt, -Int.not_le, nI_eq, nI_eq0, nI_eq1, nI_e0n, nI_e1n, boatQ, nI_clamp, c8, w24_0, w24_1, w24_2, w24_3, w24_4, w24_5] using hq | (exfalso; simp_all [show nI 2 = (2 : Int32) from rfl, show nI 3 = (3 : Int32) from rfl, show nI 4 = (4 : Int32) from rfl, show nI 5 = (5 : Int32) from rfl, show nI 6 = (6 : Int32) from rfl, show nI 7 = (7 : Int32) from rfl, show nI 8 = (8 : Int32) from rfl, show nI 9 = (9 : Int32) from rfl]; done))
  · replace c8 := zf c8
    refine V_iconst (pc := 11) (-1) d_X11_boatTold_11 (by decide) ?_
    exact V_retI (pc := 12) d_X11_boatTold_12 rfl ⟨Nat.le_refl _, Nat.le_refl _⟩ (by first | simpa (disch := omega) [-Int.not_lt, -Int.not_le, nI_eq, nI_eq0, nI_eq1, nI_e0n, nI_e1n, boatQ, nI_clamp, c8] using hq | (exfalso; simp_all [show nI 2 = (2 : Int32) from rfl, show nI 3 = (3 : Int32) from rfl, show nI 4 = (4 : Int32) from rfl, show nI 5 = (5 : Int32) from rfl, show nI 6 = (6 : Int32) from rfl, show nI 7 = (7 : Int32) from rfl, show nI 8 = (8 : Int32) from rfl, show nI 9 = (9 : Int32) from rfl]; done))
theorem ct_X12_boatTold {x z : Int32} {ρ : Sg} {q ns nb nl nt nr : Nat} (hR : RR ρ 4 σ q ns nb nl nt nr) (hq : K (boatQ σ nb nl x z) (σ, sh b)) : CM G mX12_boatTold (rl 3) [.ref 139, .int x, .int z] (σ, sh b) (QI K) := by
  obtain ⟨⟨⟨hq2, hn10, hnb, hnl, hnt, hnr⟩, ⟨vq, vns, vnb, vnl, vnt, vnr⟩, ⟨rq, rns, rnb, rnl, rnt, rnr⟩, hpd⟩, hH, hC, hS, hLD, hB, hA, hT, hU⟩ := hR
  refine CM.of (by decide) (Nat.le_of_ble_eq_true rfl) (cats1 rfl) ?_
  refine V_aload_n (pc := 0) d_X12_boatTold_0 rfl ?_
  refine V_iload_n (pc := 1) d_X12_boatTold_1 rfl ?_
  refine V_cvI (pc := 2) (n := 2) (c := 12) [_] d_X12_boatTold_2 c_X12_238 k_X12_isBoat ⟨rfl, rfl⟩ (tt_139 b) rfl (Nat.le_of_ble_eq_true rfl) ⟨Nat.le_of_ble_eq_true rfl, Nat.le_of_ble_eq_true rfl⟩ ⟨Nat.le_refl _, Nat.le_refl _⟩ (ct_X12_isBoat vnb (by omega) ?_)
  refine V_if_eq (pc := 5) 17 d_X12_boatTold_5 (by decide) (fun c5 => ?_) (fun c5 => ?_)
  · replace c5 := zf c5
    refine V_iconst (pc := 17) (-1) d_X12_boatTold_17 (by decide) ?_
    exact V_retI (pc := 18) d_X12_boatTold_18 rfl ⟨Nat.le_refl _, Nat.le_refl _⟩ (by first | simpa (disch := omega) [-Int.not_lt, -Int.not_le, nI_eq, nI_eq0, nI_eq1, nI_e0n, nI_e1n, boatQ, nI_clamp, c5] using hq | (exfalso; simp_all [show nI 2 = (2 : Int32) from rfl, show nI 3 = (3 : Int32) from rfl, show nI 4 = (4 : Int32) from rfl, show nI 5 = (5 : Int32) from rfl, show nI 6 = (6 : Int32) from rfl, show nI 7 = (7 : Int32) from rfl, show nI 8 = (8 : Int32) from rfl, show nI 9 = (9 : Int32) from rfl]; done))
  · replace c5 := zt c5
    obtain ⟨i, hi, rfl, -⟩ := nat_of (n := nb) c5.1 (by omega) (by omega)
    refine V_iload_n (pc := 8) d_X12_boatTold_8 rfl ?_
    refine V_iconst (pc := 9) (0) d_X12_boatTold_9 (by decide) ?_
    refine V_iconst (pc := 10) (nI 5) d_X12_boatTold_10 (by decide) ?_
    refine V_csI (pc := 11) (n := 1) [_, _, _] d_X12_boatTold_11 c_X12_174 k_X12_in rfl (Nat.le_of_ble_eq_true rfl) ⟨Nat.le_of_ble_eq_true rfl, Nat.le_of_ble_eq_true rfl⟩ ⟨Nat.le_refl _, Nat.le_refl _⟩ (ct_X12_in (lo := 0) (hi := 5) (by decide) (by decide) ?_)
    refine V_if_ne (pc := 14) 19 d_X12_boatTold_14 (by decide) (fun c14 => ?_) (fun c14 => ?_)
    · replace c14 := zt c14
      refine V_iload_n (pc := 19) d_X12_boatTold_19 rfl ?_
      refine V_if_ne (pc := 20) 32 d_X12_boatTold_20 (by decide) (fun c20 => ?_) (fun c20 => ?_)
      · refine V_iload_n (pc := 32) d_X12_boatTold_32 rfl ?_
        refine V_iconst (pc := 33) (1) d_X12_boatTold_33 (by decide) ?_
        refine V_icmp_ne (pc := 34) 46 d_X12_boatTold_34 (by decide) (fun c34 => ?_) (fun c34 => ?_)
        · refine V_iload_n (pc := 46) d_X12_boatTold_46 rfl ?_
          refine V_iconst (pc := 47) (nI 2) d_X12_boatTold_47 (by decide) ?_
          refine V_icmp_ne (pc := 48) 60 d_X12_boatTold_48 (by decide) (fun c48 => ?_) (fun c48 => ?_)
          · refine V_iload_n (pc := 60) d_X12_boatTold_60 rfl ?_
            refine V_iconst (pc := 61) (nI 3) d_X12_boatTold_61 (by decide) ?_
            refine V_icmp_ne (pc := 62) 73 d_X12_boatTold_62 (by decide) (fun c62 => ?_) (fun c62 => ?_)
            · refine V_iload_n (pc := 73) d_X12_boatTold_73 rfl ?_
              refine V_iconst (pc := 74) (nI 4) d_X12_boatTold_74 (by decide) ?_
              refine V_icmp_ne (pc := 75) 86 d_X12_boatTold_75 (by decide) (fun c75 => ?_) (fun c75 => ?_)
              · have u5 : z = nI 5 := eqnT (by decide) (by have := ne0T c20; have := ne1T c34; have := neT (n := 2) (by decide) c48; have := neT (n := 3) (by decide) c62; have := neT (n := 4) (by decide) c75; omega)
                refine V_aload_n (pc := 86) d_X12_boatTold_86 rfl ?_
                refine P_getR (pc := 87) d_X12_boatTold_87 f_X12_59 (tt_139 b) (rr_139_20 b) ?_
                refine V_iload_n (pc := 90) d_X12_boatTold_90 rfl ?_
                refine P_iald (pc := 91) (i) d_X12_boatTold_91 (tt_156 b) rfl (ln_of (ll_156 b) ⟨by omega, by decide⟩) ?_
                exact V_retI (pc := 92) d_X12_boatTold_92 rfl ⟨Nat.le_refl _, Nat.le_refl _⟩ (by first | simpa (disch := omega) [-Int.not_lt, -Int.not_le, nI_eq, nI_eq0, nI_eq1, nI_e0n, nI_e1n, boatQ, nI_clamp, c5, c14, c20, c34, c48, c62, c75, u5] using hq | (exfalso; simp_all [show nI 2 = (2 : Int32) from rfl, show nI 3 = (3 : Int32) from rfl, show nI 4 = (4 : Int32) from rfl, show nI 5 = (5 : Int32) from rfl, show nI 6 = (6 : Int32) from rfl, show nI 7 = (7 : Int32) from rfl, show nI 8 = (8 : Int32) from rfl, show nI 9 = (9 : Int32) from rfl]; done))
              · refine V_aload_n (pc := 78) d_X12_boatTold_78 rfl ?_
                refine V_iload_n (pc := 79) d_X12_boatTold_79 rfl ?_
                refine V_cvI (pc := 80) (n := 2) (c := 12) [_] d_X12_boatTold_80 c_X12_241 k_X12_draught ⟨rfl, rfl⟩ (tt_139 b) rfl (Nat.le_of_ble_eq_true rfl) ⟨Nat.le_of_ble_eq_true rfl, Nat.le_of_ble_eq_true rfl⟩ ⟨Nat.le_refl _, Nat.le_refl _⟩ (ct_X12_draught vnl hnl (by omega) ?_)
                refine V_goto (pc := 83) 92 d_X12_boatTold_83 (by decide) ?_
                exact V_retI (pc := 92) d_X12_boatTold_92 rfl ⟨Nat.le_refl _, Nat.le_refl _⟩ (by first | simpa (disch := omega) [-Int.not_lt, -Int.not_le, nI_eq, nI_eq0, nI_eq1, nI_e0n, nI_e1n, boatQ, nI_clamp, c5, c14, c20, c34, c48, c62, c75] using hq | (exfalso; simp_all [show nI 2 = (2 : Int32) from rfl, show nI 3 = (3 : Int32) from rfl, show nI 4 = (4 : Int32) from rfl, show nI 5 = (5 : Int32) from rfl, show nI 6 = (6 : Int32) from rfl, show nI 7 = (7 : Int32) from rfl, show nI 8 = (8 : Int32) from rfl, show nI 9 = (9 : Int32) from rfl]; done))
            · refine V_aload_n (pc := 65) d_X12_boatTold_65 rfl ?_
              refine V_iload_n (pc := 66) d_X12_boatTold_66 rfl ?_
              refine V_cvI (pc := 67) (n := 1) (c := 12) [_] d_X12_boatTold_67 c_X12_232 k_X12_aboard ⟨rfl, rfl⟩ (tt_139 b) rfl (Nat.le_of_ble_eq_true rfl) ⟨Nat.le_of_ble_eq_true rfl, Nat.le_of_ble_eq_true rfl⟩ ⟨Nat.le_refl _, Nat.le_refl _⟩ (ct_X12_aboard vnl hnl (by omega) ?_)
              refine V_goto (pc := 70) 92 d_X12_boatTold_70 (by decide) ?_
              exact V_retI (pc := 92) d_X12_boatTold_92 rfl ⟨Nat.le_refl _, Nat.le_refl _⟩ (by first | simpa (disch := omega) [-Int.not_lt, -Int.not_le, nI_eq, nI_eq0, nI_eq1, nI_e0n, nI_e1n, boatQ, nI_clamp, c5, c14, c20, c34, c48, c62] using hq | (exfalso; simp_all [show nI 2 = (2 : Int32) from rfl, show nI 3 = (3 : Int32) from rfl, show nI 4 = (4 : Int32) from rfl, show nI 5 = (5 : Int32) from rfl, show nI 6 = (6 : Int32) from rfl, show nI 7 = (7 : Int32) from rfl, show nI 8 = (8 : Int32) from rfl, show nI 9 = (9 : Int32) from rfl]; done))
          · refine V_aload_n (pc := 51) d_X12_boatTold_51 rfl ?_
            refine P_getR (pc := 52) d_X12_boatTold_52 f_X12_56 (tt_139 b) (rr_139_19 b) ?_
            refine V_iload_n (pc := 55) d_X12_boatTold_55 rfl ?_
            refine P_iald (pc := 56) (i) d_X12_boatTold_56 (tt_155 b) rfl (ln_of (ll_155 b) ⟨by omega, by decide⟩) ?_
            refine V_goto (pc := 57) 92 d_X12_boatTold_57 (by decide) ?_
            exact V_retI (pc := 92) d_X12_boatTold_92 rfl ⟨Nat.le_refl _, Nat.le_refl _⟩ (by first | simpa (disch := omega) [-Int.not_lt, -Int.not_le, nI_eq, nI_eq0, nI_eq1, nI_e0n, nI_e1n, boatQ, nI_clamp, c5, c14, c20, c34, c48] using hq | (exfalso; simp_all [show nI 2 = (2 : Int32) from rfl, show nI 3 = (3 : Int32) from rfl, show nI 4 = (4 : Int32) from rfl, show nI 5 = (5 : Int32) from rfl, show nI 6 = (6 : Int32) from rfl, show nI 7 = (7 : Int32) from rfl, show nI 8 = (8 : Int32) from rfl, show nI 9 = (9 : Int32) from rfl]; done))
        · refine V_aload_n (pc := 37) d_X12_boatTold_37 rfl ?_
          refine P_getR (pc := 38) d_X12_boatTold_38 f_X12_50 (tt_139 b) (rr_139_17 b) ?_
          refine V_iload_n (pc := 41) d_X12_boatTold_41 rfl ?_
          refine P_iald (pc := 42) (i) d_X12_boatTold_42 (tt_153 b) rfl (ln_of (ll_153 b) ⟨by omega, by decide⟩) ?_
          refine V_goto (pc := 43) 92 d_X12_boatTold_43 (by decide) ?_
          exact V_retI (pc := 92) d_X12_boatTold_92 rfl ⟨Nat.le_refl _, Nat.le_refl _⟩ (by first | simpa (disch := omega) [-Int.not_lt, -Int.not_le, nI_eq, nI_eq0, nI_eq1, nI_e0n, nI_e1n, boatQ, nI_clamp, c5, c14, c20, c34] using hq | (exfalso; simp_all [show nI 2 = (2 : Int32) from rfl, show nI 3 = (3 : Int32) from rfl, show nI 4 = (4 : Int32) from rfl, show nI 5 = (5 : Int32) from rfl, show nI 6 = (6 : Int32) from rfl, show nI 7 = (7 : Int32) from rfl, show nI 8 = (8 : Int32) from rfl, show nI 9 = (9 : Int32) from rfl]; done))
      · refine V_aload_n (pc := 23) d_X12_boatTold_23 rfl ?_
        refine P_getR (pc := 24) d_X12_boatTold_24 f_X12_47 (tt_139 b) (rr_139_16 b) ?_
        refine V_iload_n (pc := 27) d_X12_boatTold_27 rfl ?_
        refine P_iald (pc := 28) (i) d_X12_boatTold_28 (tt_152 b) rfl (ln_of (ll_152 b) ⟨by omega, by decide⟩) ?_
        refine V_goto (pc := 29) 92 d_X12_boatTold_29 (by decide) ?_
        exact V_retI (pc := 92) d_X12_boatTold_92 rfl ⟨Nat.le_refl _, Nat.le_refl _⟩ (by first | simpa (disch := omega) [-Int.not_lt, -Int.not_le, nI_eq, nI_eq0, nI_eq1, nI_e0n, nI_e1n, boatQ, nI_clamp, c5, c14, c20] using hq | (exfalso; simp_all [show nI 2 = (2 : Int32) from rfl, show nI 3 = (3 : Int32) from rfl, show nI 4 = (4 : Int32) from rfl, show nI 5 = (5 : Int32) from rfl, show nI 6 = (6 : Int32) from rfl, show nI 7 = (7 : Int32) from rfl, show nI 8 = (8 : Int32) from rfl, show nI 9 = (9 : Int32) from rfl]; done))
    · replace c14 := zf c14
      have u0 := in_no0 c14 (by omega)
      have u1 := in_no1 c14 (by omega)
      have u2 := in_no (n := 2) c14 (by decide) (by omega)
      have u3 := in_no (n := 3) c14 (by decide) (by omega)
      have u4 := in_no (n := 4) c14 (by decide) (by omega)
      have u5 := in_no (n := 5) c14 (by decide) (by omega)
      refine V_iconst (pc := 17) (-1) d_X12_boatTold_17 (by decide) ?_
      exact V_retI (pc := 18) d_X12_boatTold_18 rfl ⟨Nat.le_refl _, Nat.le_refl _⟩ (by first | simpa (disch := omega) [-Int.not_lt, -Int.not_le, nI_eq, nI_eq0, nI_eq1, nI_e0n, nI_e1n, boatQ, nI_clamp, c5, c14, u0, u1, u2, u3, u4, u5] using hq | (exfalso; simp_all [show nI 2 = (2 : Int32) from rfl, show nI 3 = (3 : Int32) from rfl, show nI 4 = (4 : Int32) from rfl, show nI 5 = (5 : Int32) from rfl, show nI 6 = (6 : Int32) from rfl, show nI 7 = (7 : Int32) from rfl, show nI 8 = (8 : Int32) from rfl, show nI 9 = (9 : Int32) from rfl]; done))
end HC
