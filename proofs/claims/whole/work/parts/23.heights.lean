/-! ===== heights, shifts: the search ahead and behind ===== -/
def dn (p : Nat → Bool) : Nat → Option Nat
  | 0 => if p 0 = true then some 0 else none
  | n + 1 => if p (n + 1) = true then some (n + 1) else dn p n
def un (p : Nat → Bool) (e : Nat) : Nat → Option Nat
  | 0 => none
  | k + 1 => if p (e - (k + 1)) = true then some (e - (k + 1)) else un p e k
theorem dn_spec {p : Nat → Bool} : ∀ {n y : Nat}, dn p n = some y → y ≤ n ∧ p y = true
  | 0, y, h => by
    unfold dn at h
    split at h
    · cases h; exact ⟨Nat.le_refl _, by assumption⟩
    · cases h
  | n + 1, y, h => by
    unfold dn at h
    split at h
    · cases h; exact ⟨Nat.le_refl _, by assumption⟩
    · have := dn_spec h
      exact ⟨by omega, this.2⟩
theorem un_spec {p : Nat → Bool} {e : Nat} : ∀ {k y : Nat}, un p e k = some y → k ≤ e → e - k ≤ y ∧ y < e ∧ p y = true
  | 0, y, h, _ => by cases h
  | k + 1, y, h, hk => by
    unfold un at h
    split at h
    · cases h; exact ⟨Nat.le_refl _, by omega, by assumption⟩
    · have := un_spec h (by omega)
      exact ⟨by omega, this.2⟩
def told (V : Sg) : Nat → Bool := fun d => V 147 d == 1
def heightS (V : Sg) (d : Nat) : Int32 := match dn (told V) d, un (told V) 100 (100 - d) with
  | none, none => 0
  | some x, none => V 146 x
  | none, some y => V 146 y
  | some x, some y => if x = y then V 146 x else V 146 x + (V 146 y - V 146 x) * (nI d - nI x) / (nI y - nI x)
def shifted (V : Sg) (k : Nat) : Nat → Bool := fun d => V 145 (100 * k + d) == 1
def shiftS (V : Sg) (k d : Nat) : Int32 := match dn (shifted V k) d with
  | none => 0
  | some x => V 144 (100 * k + x)
theorem m1_0 : nI 0 + Int32.ofInt (-1) = -1 := by decide
theorem m1_s (x : Nat) : nI (x + 1) + Int32.ofInt (-1) = nI x := pk_m1 x
theorem p1_s (x : Nat) : nI x + Int32.ofInt 1 = nI (x + 1) := nI_1 x
theorem cH_no {σ V : Sg} {r d : Nat} (h : cH σ r V) (hd : d < 100) : (σ (r + 1) d = -1000) ↔ ¬ told V d = true := by
  rcases h.1 d hd with ⟨h1, h2⟩ | ⟨h1, h2, h3, h4⟩
  · simp [told, h1, h2]
  · simp only [told, h1, h2]
    constructor
    · intro q
      rw [q] at h3
      exact absurd h3 (by decide)
    · intro q
      simp at q
theorem cH_ht {σ V : Sg} {r d : Nat} (h : cH σ r V) (hd : d < 100) (ht : told V d = true) : σ (r + 1) d = V 146 d := by
  rcases h.1 d hd with ⟨h1, h2⟩ | ⟨h1, h2, h3, h4⟩
  · simp [told, h1] at ht
  · exact h2
section HC
variable {G : Gl} {R : Room} {F : Fn} {K : Int32 → Hp → Prop} {σ : Nat → Nat → Int32} {b : Bool}
theorem lp_hA_m {d : Nat} (h : V G mX4_heightOn R F 0 0 24 [some (.ref 4), some (.int (nI d)), some (.int (-1)), none, none] [] (σ, sh b)) : V G mX4_heightOn R F 0 0 2 [some (.ref 4), some (.int (nI d)), some (.int (-1)), none, none] [] (σ, sh b) := by
  refine V_iload_n (pc := 2) d_X4_heightOn_2 rfl ?_
  refine B_if_lt (pc := 3) 24 d_X4_heightOn_3 (by decide) (fun c3 => ?_) (fun c3 => ?_)
  · exact h
  · exact absurd (by decide) c3
theorem lp_hA {d : Nat} (hH : cH σ 4 σ) : ∀ x, x < 100 → (∀ y, dn (told σ) x = some y → V G mX4_heightOn R F 0 0 24 [some (.ref 4), some (.int (nI d)), some (.int (nI y)), none, none] [] (σ, sh b)) → (dn (told σ) x = none → V G mX4_heightOn R F 0 0 24 [some (.ref 4), some (.int (nI d)), some (.int (-1)), none, none] [] (σ, sh b)) → V G mX4_heightOn R F 0 0 2 [some (.ref 4), some (.int (nI d)), some (.int (nI x)), none, none] [] (σ, sh b) := by
  intro x
  induction x with
  | zero =>
    intro hx h1 h2
    refine V_iload_n (pc := 2) d_X4_heightOn_2 rfl ?_
    refine B_if_lt (pc := 3) 24 d_X4_heightOn_3 (by decide) (fun c3 => ?_) (fun c3 => ?_)
    · exact absurd c3 (by rw [nI_toInt (by omega)]; omega)
    · refine V_aload_n (pc := 6) d_X4_heightOn_6 rfl ?_
      refine P_getR (pc := 7) d_X4_heightOn_7 f_X4_36 (tt_4 b) (rr_4_8 b) ?_
      refine V_iload_n (pc := 10) d_X4_heightOn_10 rfl ?_
      refine P_iald (pc := 11) (0) d_X4_heightOn_11 (tt_5 b) (by decide) (ln_of (ll_5 b) ⟨by omega, by decide⟩) ?_
      refine V_sipush (pc := 12) (-1000) d_X4_heightOn_12 (by decide) ?_
      refine V_icmp_ne (pc := 15) 24 d_X4_heightOn_15 (by decide) (fun c15 => ?_) (fun c15 => ?_)
      · exact h1 0 (by simp [dn, show told σ 0 = true from by have := cH_no (d := 0) hH (by omega); simp_all])
      · refine V_iinc (pc := 18) d_X4_heightOn_18 rfl (by decide) ?_
        refine V_goto (pc := 21) 2 d_X4_heightOn_21 (by decide) ?_
        rw [m1_0]
        exact lp_hA_m (h2 (by simp [dn, show told σ 0 = false from by have := cH_no (d := 0) hH (by omega); simp_all]))
  | succ x ih =>
    intro hx h1 h2
    refine V_iload_n (pc := 2) d_X4_heightOn_2 rfl ?_
    refine B_if_lt (pc := 3) 24 d_X4_heightOn_3 (by decide) (fun c3 => ?_) (fun c3 => ?_)
    · exact absurd c3 (by rw [nI_toInt (by omega)]; omega)
    · refine V_aload_n (pc := 6) d_X4_heightOn_6 rfl ?_
      refine P_getR (pc := 7) d_X4_heightOn_7 f_X4_36 (tt_4 b) (rr_4_8 b) ?_
      refine V_iload_n (pc := 10) d_X4_heightOn_10 rfl ?_
      refine P_iald (pc := 11) ((x + 1)) d_X4_heightOn_11 (tt_5 b) (by simp only [nI_add, pk_mul, nI_1]) (ln_of (ll_5 b) ⟨by omega, by decide⟩) ?_
      refine V_sipush (pc := 12) (-1000) d_X4_heightOn_12 (by decide) ?_
      refine V_icmp_ne (pc := 15) 24 d_X4_heightOn_15 (by decide) (fun c15 => ?_) (fun c15 => ?_)
      · exact h1 (x + 1) (by simp [dn, show told σ (x + 1) = true from by have := cH_no (d := (x + 1)) hH (by omega); simp_all])
      · refine V_iinc (pc := 18) d_X4_heightOn_18 rfl (by decide) ?_
        refine V_goto (pc := 21) 2 d_X4_heightOn_21 (by decide) ?_
        rw [m1_s]
        exact ih (by omega) (fun y hy => h1 y (by simpa [dn, show told σ (x + 1) = false from by have := cH_no (d := (x + 1)) hH (by omega); simp_all] using hy)) (fun hy => h2 (by simpa [dn, show told σ (x + 1) = false from by have := cH_no (d := (x + 1)) hH (by omega); simp_all] using hy))
end HC
