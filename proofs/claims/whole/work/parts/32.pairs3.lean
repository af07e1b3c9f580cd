section HC
variable {G : Gl} {R : Room} {F : Fn} {K : Int32 → Hp → Prop} {KV : Hp → Prop} {σ : Nat → Nat → Int32} {b : Bool}
theorem nI_m1n {n : Nat} (h : n < 2 ^ 31) : ¬ (-1 : Int32) = nI n := fun q => nI_nm1 h q.symm
def undS (k u : Nat) : Prop := u = 0 ∨ k = u ∨ (u = 1 ∧ k = 3)
theorem undS_dec {k u : Nat} : undS k u ↔ (u = 0 ∨ k = u ∨ (u = 1 ∧ k = 3)) := Iff.rfl
theorem ct_X11_isUnder {k u : Nat} (hk : k < 6) (hu : u < 6) (hq : K (if u = 0 ∨ k = u ∨ (u = 1 ∧ k = 3) then 1 else 0) (σ, sh b)) : CM G mX11_isUnder (rl 1) [.int (nI k), .int (nI u)] (σ, sh b) (QI K) := by
  refine CM.of (by decide) (Nat.le_of_ble_eq_true rfl) (cats1 rfl) ?_
  rcases (by omega : k = 0 ∨ k = 1 ∨ k = 2 ∨ k = 3 ∨ k = 4 ∨ k = 5) with rfl | rfl | rfl | rfl | rfl | rfl
  · refine V_iload_n (pc := 0) d_X11_isUnder_0 rfl ?_
    refine V_istore_n (pc := 1) d_X11_isUnder_1 (by decide) ?_
    refine V_iconst (pc := 2) (0) d_X11_isUnder_2 (by decide) ?_
    refine V_istore_n (pc := 3) d_X11_isUnder_3 (by decide) ?_
    refine V_iload_n (pc := 4) d_X11_isUnder_4 rfl ?_
    refine V_bipush (pc := 5) (nI 6) d_X11_isUnder_5 (by decide) ?_
    refine B_icmp_ge (pc := 7) 32 d_X11_isUnder_7 (by decide) (fun c7 => ?_) (fun c7 => ?_)
    · exact absurd c7 (by decide)
    · simp (disch := omega) only [show (nI 6).toInt = 6 from by decide, nI_toInt, ti0, ti1, tim1, tim20, tim1000] at c7
      refine V_iload_n (pc := 10) d_X11_isUnder_10 rfl ?_
      refine V_iload_n (pc := 11) d_X11_isUnder_11 rfl ?_
      refine V_icmp_eq (pc := 12) 32 d_X11_isUnder_12 (by decide) (fun c12 => ?_) (fun c12 => ?_)
      · simp (disch := omega) only [nI_eq, nI_e0n, nI_e1n] at c12
        refine V_iload_n (pc := 32) d_X11_isUnder_32 rfl ?_
        refine V_iload_n (pc := 33) d_X11_isUnder_33 rfl ?_
        refine V_icmp_ne (pc := 34) 41 d_X11_isUnder_34 (by decide) (fun c34 => ?_) (fun c34 => ?_)
        · simp (disch := omega) only [nI_eq, nI_e0n, nI_e1n] at c34
          refine V_iconst (pc := 41) (0) d_X11_isUnder_41 (by decide) ?_
          exact V_retZ (pc := 42) d_X11_isUnder_42 rfl (by first | exact Or.inl rfl | exact Or.inr rfl | exact z01) ⟨Nat.le_refl _, Nat.le_refl _⟩ (by first | (rw [if_pos (by omega)] at hq; exact hq) | (rw [if_neg (by omega)] at hq; exact hq))
        · simp (disch := omega) only [nI_eq, nI_e0n, nI_e1n] at c34
          refine V_iconst (pc := 37) (1) d_X11_isUnder_37 (by decide) ?_
          refine V_goto (pc := 38) 42 d_X11_isUnder_38 (by decide) ?_
          exact V_retZ (pc := 42) d_X11_isUnder_42 rfl (by first | exact Or.inl rfl | exact Or.inr rfl | exact z01) ⟨Nat.le_refl _, Nat.le_refl _⟩ (by first | (rw [if_pos (by omega)] at hq; exact hq) | (rw [if_neg (by omega)] at hq; exact hq))
      · simp (disch := omega) only [nI_eq, nI_e0n, nI_e1n] at c12
        refine V_iload_n (pc := 15) d_X11_isUnder_15 rfl ?_
        refine V_iconst (pc := 16) (-1) d_X11_isUnder_16 (by decide) ?_
        refine V_icmp_eq (pc := 17) 32 d_X11_isUnder_17 (by decide) (fun c17 => ?_) (fun c17 => ?_)
        · exact absurd c17 (by decide)
        · refine V_getsK (pc := 20) d_X11_isUnder_20 f_X11_366 ?_
          refine V_iload_n (pc := 23) d_X11_isUnder_23 rfl ?_
          refine V_kald (pc := 24) (0) d_X11_isUnder_24 (by decide) (by omega) ?_
          rw [show kaT.getD 0 0 = (-1) from rfl]
          refine V_istore_n (pc := 25) d_X11_isUnder_25 (by decide) ?_
          refine V_iinc (pc := 26) d_X11_isUnder_26 rfl (by decide) ?_
          refine V_goto (pc := 29) 4 d_X11_isUnder_29 (by decide) ?_
          refine V_iload_n (pc := 4) d_X11_isUnder_4 rfl ?_
          refine V_bipush (pc := 5) (nI 6) d_X11_isUnder_5 (by decide) ?_
          refine B_icmp_ge (pc := 7) 32 d_X11_isUnder_7 (by decide) (fun c7 => ?_) (fun c7 => ?_)
          · exact absurd c7 (by decide)
          · simp (disch := omega) only [show (nI 6).toInt = 6 from by decide, nI_toInt, ti0, ti1, tim1, tim20, tim1000] at c7
            refine V_iload_n (pc := 10) d_X11_isUnder_10 rfl ?_
            refine V_iload_n (pc := 11) d_X11_isUnder_11 rfl ?_
            refine V_icmp_eq (pc := 12) 32 d_X11_isUnder_12 (by decide) (fun c12 => ?_) (fun c12 => ?_)
            · exact absurd c12 (nI_m1n (by omega))
            · refine V_iload_n (pc := 15) d_X11_isUnder_15 rfl ?_
              refine V_iconst (pc := 16) (-1) d_X11_isUnder_16 (by decide) ?_
              refine V_icmp_eq (pc := 17) 32 d_X11_isUnder_17 (by decide) (fun c17 => ?_) (fun c17 => ?_)
              · refine V_iload_n (pc := 32) d_X11_isUnder_32 rfl ?_
                refine V_iload_n (pc := 33) d_X11_isUnder_33 rfl ?_
                refine V_icmp_ne (pc := 34) 41 d_X11_isUnder_34 (by decide) (fun c34 => ?_) (fun c34 => ?_)
                · refine V_iconst (pc := 41) (0) d_X11_isUnder_41 (by decide) ?_
                  exact V_retZ (pc := 42) d_X11_isUnder_42 rfl (by first | exact Or.inl rfl | exact Or.inr rfl | exact z01) ⟨Nat.le_refl _, Nat.le_refl _⟩ (by first | (rw [if_pos (by omega)] at hq; exact hq) | (rw [if_neg (by omega)] at hq; exact hq))
                · exact absurd c34 (nI_m1n (by omega))
              · exact absurd (by decide) c17
  · refine V_iload_n (pc := 0) d_X11_isUnder_0 rfl ?_
    refine V_istore_n (pc := 1) d_X11_isUnder_1 (by decide) ?_
    refine V_iconst (pc := 2) (0) d_X11_isUnder_2 (by decide) ?_
    refine V_istore_n (pc := 3) d_X11_isUnder_3 (by decide) ?_
    refine V_iload_n (pc := 4) d_X11_isUnder_4 rfl ?_
    refine V_bipush (pc := 5) (nI 6) d_X11_isUnder_5 (by decide) ?_
    refine B_icmp_ge (pc := 7) 32 d_X11_isUnder_7 (by decide) (fun c7 => ?_) (fun c7 => ?_)
    · exact absurd c7 (by decide)
    · simp (disch := omega) only [show (nI 6).toInt = 6 from by decide, nI_toInt, ti0, ti1, tim1, tim20, tim1000] at c7
      refine V_iload_n (pc := 10) d_X11_isUnder_10 rfl ?_
      refine V_iload_n (pc := 11) d_X11_isUnder_11 rfl ?_
      refine V_icmp_eq (pc := 12) 32 d_X11_isUnder_12 (by decide) (fun c12 => ?_) (fun c12 => ?_)
      · simp (disch := omega) only [nI_eq, nI_e0n, nI_e1n] at c12
        refine V_iload_n (pc := 32) d_X11_isUnder_32 rfl ?_
        refine V_iload_n (pc := 33) d_X11_isUnder_33 rfl ?_
        refine V_icmp_ne (pc := 34) 41 d_X11_isUnder_34 (by decide) (fun c34 => ?_) (fun c34 => ?_)
        · simp (disch := omega) only [nI_eq, nI_e0n, nI_e1n] at c34
          refine V_iconst (pc := 41) (0) d_X11_isUnder_41 (by decide) ?_
          exact V_retZ (pc := 42) d_X11_isUnder_42 rfl (by first | exact Or.inl rfl | exact Or.inr rfl | exact z01) ⟨Nat.le_refl _, Nat.le_refl _⟩ (by first | (rw [if_pos (by omega)] at hq; exact hq) | (rw [if_neg (by omega)] at hq; exact hq))
        · simp (disch := omega) only [nI_eq, nI_e0n, nI_e1n] at c34
          refine V_iconst (pc := 37) (1) d_X11_isUnder_37 (by decide) ?_
          refine V_goto (pc := 38) 42 d_X11_isUnder_38 (by decide) ?_
          exact V_retZ (pc := 42) d_X11_isUnder_42 rfl (by first | exact Or.inl rfl | exact Or.inr rfl | exact z01) ⟨Nat.le_refl _, Nat.le_refl _⟩ (by first | (rw [if_pos (by omega)] at hq; exact hq) | (rw [if_neg (by omega)] at hq; exact hq))
      · simp (disch := omega) only [nI_eq, nI_e0n, nI_e1n] at c12
        refine V_iload_n (pc := 15) d_X11_isUnder_15 rfl ?_
        refine V_iconst (pc := 16) (-1) d_X11_isUnder_16 (by decide) ?_
        refine V_icmp_eq (pc := 17) 32 d_X11_isUnder_17 (by decide) (fun c17 => ?_) (fun c17 => ?_)
        · exact absurd c17 (by decide)
        · refine V_getsK (pc := 20) d_X11_isUnder_20 f_X11_366 ?_
          refine V_iload_n (pc := 23) d_X11_isUnder_23 rfl ?_
          refine V_kald (pc := 24) (1) d_X11_isUnder_24 (by decide) (by omega) ?_
          rw [show kaT.getD 1 0 = 0 from rfl]
          refine V_istore_n (pc := 25) d_X11_isUnder_25 (by decide) ?_
          refine V_iinc (pc := 26) d_X11_isUnder_26 rfl (by decide) ?_
          refine V_goto (pc := 29) 4 d_X11_isUnder_29 (by decide) ?_
          refine V_iload_n (pc := 4) d_X11_isUnder_4 rfl ?_
          refine V_bipush (pc := 5) (nI 6) d_X11_isUnder_5 (by decide) ?_
          refine B_icmp_ge (pc := 7) 32 d_X11_isUnder_7 (by decide) (fun c7 => ?_) (fun c7 => ?_)
          · exact absurd c7 (by decide)
          · simp (disch := omega) only [show (nI 6).toInt = 6 from by decide, nI_toInt, ti0, ti1, tim1, tim20, tim1000] at c7
            refine V_iload_n (pc := 10) d_X11_isUnder_10 rfl ?_
            refine V_iload_n (pc := 11) d_X11_isUnder_11 rfl ?_
            refine V_icmp_eq (pc := 12) 32 d_X11_isUnder_12 (by decide) (fun c12 => ?_) (fun c12 => ?_)
            · simp (disch := omega) only [nI_eq, nI_e0n, nI_e1n] at c12
              refine V_iload_n (pc := 32) d_X11_isUnder_32 rfl ?_
              refine V_iload_n (pc := 33) d_X11_isUnder_33 rfl ?_
              refine V_icmp_ne (pc := 34) 41 d_X11_isUnder_34 (by decide) (fun c34 => ?_) (fun c34 => ?_)
              · simp (disch := omega) only [nI_eq, nI_e0n, nI_e1n] at c34
                refine V_iconst (pc := 41) (0) d_X11_isUnder_41 (by decide) ?_
                exact V_retZ (pc := 42) d_X11_isUnder_42 rfl (by first | exact Or.inl rfl | exact Or.inr rfl | exact z01) ⟨Nat.le_refl _, Nat.le_refl _⟩ (by first | (rw [if_pos (by omega)] at hq; exact hq) | (rw [if_neg (by omega)] at hq; exact hq))
              · simp (disch := omega) only [nI_eq, nI_e0n, nI_e1n] at c34
                refine V_iconst (pc := 37) (1) d_X11_isUnder_37 (by decide) ?_
                refine V_goto (pc := 38) 42 d_X11_isUnder_38 (by decide) ?_
                exact V_retZ (pc := 42) d_X11_isUnder_42 rfl (by first | exact Or.inl rfl | exact Or.inr rfl | exact z01) ⟨Nat.le_refl _, Nat.le_refl _⟩ (by first | (rw [if_pos (by omega)] at hq; exact hq) | (rw [if_neg (by omega)] at hq; exact hq))
            · simp (disch := omega) only [nI_eq, nI_e0n, nI_e1n] at c12
              refine V_iload_n (pc := 15) d_X11_isUnder_15 rfl ?_
              refine V_iconst (pc := 16) (-1) d_X11_isUnder_16 (by decide) ?_
              refine V_icmp_eq (pc := 17) 32 d_X11_isUnder_17 (by decide) (fun c17 => ?_) (fun c17 => ?_)
              · exact absurd c17 (by decide)
              · refine V_getsK (pc := 20) d_X11_isUnder_20 f_X11_366 ?_
                refine V_iload_n (pc := 23) d_X11_isUnder_23 rfl ?_
                refine V_kald (pc := 24) (0) d_X11_isUnder_24 (by decide) (by omega) ?_
                rw [show kaT.getD 0 0 = (-1) from rfl]
                refine V_istore_n (pc := 25) d_X11_isUnder_25 (by decide) ?_
                refine V_iinc (pc := 26) d_X11_isUnder_26 rfl (by decide) ?_
                refine V_goto (pc := 29) 4 d_X11_isUnder_29 (by decide) ?_
                refine V_iload_n (pc := 4) d_X11_isUnder_4 rfl ?_
                refine V_bipush (pc := 5) (nI 6) d_X11_isUnder_5 (by decide) ?_
                refine B_icmp_ge (pc := 7) 32 d_X11_isUnder_7 (by decide) (fun c7 => ?_) (fun c7 => ?_)
                · exact absurd c7 (by decide)
                · simp (disch := omega) only [show (nI 6).toInt = 6 from by decide, show (nI 2).toInt = 2 from by decide, nI_toInt, ti0, ti1, tim1, tim20, tim1000] at c7
                  refine V_iload_n (pc := 10) d_X11_isUnder_10 rfl ?_
                  refine V_iload_n (pc := 11) d_X11_isUnder_11 rfl ?_
                  refine V_icmp_eq (pc := 12) 32 d_X11_isUnder_12 (by decide) (fun c12 => ?_) (fun c12 => ?_)
                  · exact absurd c12 (nI_m1n (by omega))
                  · refine V_iload_n (pc := 15) d_X11_isUnder_15 rfl ?_
                    refine V_iconst (pc := 16) (-1) d_X11_isUnder_16 (by decide) ?_
                    refine V_icmp_eq (pc := 17) 32 d_X11_isUnder_17 (by decide) (fun c17 => ?_) (fun c17 => ?_)
                    · refine V_iload_n (pc := 32) d_X11_isUnder_32 rfl ?_
                      refine V_iload_n (pc := 33) d_X11_isUnder_33 rfl ?_
                      refine V_icmp_ne (pc := 34) 41 d_X11_isUnder_34 (by decide) (fun c34 => ?_) (fun c34 => ?_)
                      · refine V_iconst (pc := 41) (0) d_X11_isUnder_41 (by decide) ?_
                        exact V_retZ (pc := 42) d_X11_isUnder_42 rfl (by first | exact Or.inl rfl | exact Or.inr rfl | exact z01) ⟨Nat.le_refl _, Nat.le_refl _⟩ (by first | (rw [if_pos (by omega)] at hq; exact hq) | (rw [if_neg (by omega)] at hq; exact hq))
                      · exact absurd c34 (nI_m1n (by omega))
                    · exact absurd (by decide) c17
  · refine V_iload_n (pc := 0) d_X11_isUnder_0 rfl ?_
    refine V_istore_n (pc := 1) d_X11_isUnder_1 (by decide) ?_
    refine V_iconst (pc := 2) (0) d_X11_isUnder_2 (by decide) ?_
    refine V_istore_n (pc := 3) d_X11_isUnder_3 (by decide) ?_
    refine V_iload_n (pc := 4) d_X11_isUnder_4 rfl ?_
    refine V_bipush (pc := 5) (nI 6) d_X11_isUnder_5 (by decide) ?_
    refine B_icmp_ge (pc := 7) 32 d_X11_isUnder_7 (by decide) (fun c7 => ?_) (fun c7 => ?_)
    · exact absurd c7 (by decide)
    · simp (disch := omega) only [show (nI 6).toInt = 6 from by decide, nI_toInt, ti0, ti1, tim1, tim20, tim1000] at c7
      refine V_iload_n (pc := 10) d_X11_isUnder_10 rfl ?_
      refine V_iload_n (pc := 11) d_X11_isUnder_11 rfl ?_
      refine V_icmp_eq (pc := 12) 32 d_X11_isUnder_12 (by decide) (fun c12 => ?_) (fun c12 => ?_)
      · simp (disch := omega) only [nI_eq, nI_e0n, nI_e1n] at c12
        refine V_iload_n (pc := 32) d_X11_isUnder_32 rfl ?_
        refine V_iload_n (pc := 33) d_X11_isUnder_33 rfl ?_
        refine V_icmp_ne (pc := 34) 41 d_X11_isUnder_34 (by decide) (fun c34 => ?_) (fun c34 => ?_)
        · simp (disch := omega) only [nI_eq, nI_e0n, nI_e1n] at c34
          refine V_iconst (pc := 41) (0) d_X11_isUnder_41 (by decide) ?_
          exact V_retZ (pc := 42) d_X11_isUnder_42 rfl (by first | exact Or.inl rfl | exact Or.inr rfl | exact z01) ⟨Nat.le_refl _, Nat.le_refl _⟩ (by first | (rw [if_pos (by omega)] at hq; exact hq) | (rw [if_neg (by omega)] at hq; exact hq))
        · simp (disch := omega) only [nI_eq, nI_e0n, nI_e1n] at c34
          refine V_iconst (pc := 37) (1) d_X11_isUnder_37 (by decide) ?_
          refine V_goto (pc := 38) 42 d_X11_isUnder_38 (by decide) ?_
          exact V_retZ (pc := 42) d_X11_isUnder_42 rfl (by first | exact Or.inl rfl | exact Or.inr rfl | exact z01) ⟨Nat.le_refl _, Nat.le_refl _⟩ (by first | (rw [if_pos (by omega)] at hq; exact hq) | (rw [if_neg (by omega)] at hq; exact hq))
      · simp (disch := omega) only [nI_eq, nI_e0n, nI_e1n] at c12
        refine V_iload_n (pc := 15) d_X11_isUnder_15 rfl ?_
        refine V_iconst (pc := 16) (-1) d_X11_isUnder_16 (by decide) ?_
        refine V_icmp_eq (pc := 17) 32 d_X11_isUnder_17 (by decide) (fun c17 => ?_) (fun c17 => ?_)
        · exact absurd c17 (by decide)
        · refine V_getsK (pc := 20) d_X11_isUnder_20 f_X11_366 ?_
          refine V_iload_n (pc := 23) d_X11_isUnder_23 rfl ?_
          refine V_kald (pc := 24) (2) d_X11_isUnder_24 rfl (by omega) ?_
          rw [show kaT.getD 2 0 = 0 from rfl]
          refine V_istore_n (pc := 25) d_X11_isUnder_25 (by decide) ?_
          refine V_iinc (pc := 26) d_X11_isUnder_26 rfl (by decide) ?_
          refine V_goto (pc := 29) 4 d_X11_isUnder_29 (by decide) ?_
          refine V_iload_n (pc := 4) d_X11_isUnder_4 rfl ?_
          refine V_bipush (pc := 5) (nI 6) d_X11_isUnder_5 (by decide) ?_
          refine B_icmp_ge (pc := 7) 32 d_X11_isUnder_7 (by decide) (fun c7 => ?_) (fun c7 => ?_)
          · exact absurd c7 (by decide)
          · simp (disch := omega) only [show (nI 6).toInt = 6 from by decide, nI_toInt, ti0, ti1, tim1, tim20, tim1000] at c7
            refine V_iload_n (pc := 10) d_X11_isUnder_10 rfl ?_
            refine V_iload_n (pc := 11) d_X11_isUnder_11 rfl ?_
            refine V_icmp_eq (pc := 12) 32 d_X11_isUnder_12 (by decide) (fun c12 => ?_) (fun c12 => ?_)
            · simp (disch := omega) only [nI_eq, nI_e0n, nI_e1n] at c12
              refine V_iload_n (pc := 32) d_X11_isUnder_32 rfl ?_
              refine V_iload_n (pc := 33) d_X11_isUnder_33 rfl ?_
              refine V_icmp_ne (pc := 34) 41 d_X11_isUnder_34 (by decide) (fun c34 => ?_) (fun c34 => ?_)
              · simp (disch := omega) only [nI_eq, nI_e0n, nI_e1n] at c34
                refine V_iconst (pc := 41) (0) d_X11_isUnder_41 (by decide) ?_
                exact V_retZ (pc := 42) d_X11_isUnder_42 rfl (by first | exact Or.inl rfl | exact Or.inr rfl | exact z01) ⟨Nat.le_refl _, Nat.le_refl _⟩ (by first | (rw [if_pos (by omega)] at hq; exact hq) | (rw [if_neg (by omega)] at hq; exact hq))
              · simp (disch := omega) only [nI_eq, nI_e0n, nI_e1n] at c34
                refine V_iconst (pc := 37) (1) d_X11_isUnder_37 (by decide) ?_
                refine V_goto (pc := 38) 42 d_X11_isUnder_38 (by decide) ?_
                exact V_retZ (pc := 42) d_X11_isUnder_42 rfl (by first | exact Or.inl rfl | exact Or.inr rfl | exact z01) ⟨Nat.le_refl _, Nat.le_refl _⟩ (by first | (rw [if_pos (by omega)] at hq; exact hq) | (rw [if_neg (by omega)] at hq; exact hq))
            · simp (disch := omega) only [nI_eq, nI_e0n, nI_e1n] at c12
              refine V_iload_n (pc := 15) d_X11_isUnder_15 rfl ?_
              refine V_iconst (pc := 16) (-1) d_X11_isUnder_16 (by decide) ?_
              refine V_icmp_eq (pc := 17) 32 d_X11_isUnder_17 (by decide) (fun c17 => ?_) (fun c17 => ?_)
              · exact absurd c17 (by decide)
              · refine V_getsK (pc := 20) d_X11_isUnder_20 f_X11_366 ?_
                refine V_iload_n (pc := 23) d_X11_isUnder_23 rfl ?_
                refine V_kald (pc := 24) (0) d_X11_isUnder_24 (by decide) (by omega) ?_
                rw [show kaT.getD 0 0 = (-1) from rfl]
                refine V_istore_n (pc := 25) d_X11_isUnder_25 (by decide) ?_
                refine V_iinc (pc := 26) d_X11_isUnder_26 rfl (by decide) ?_
                refine V_goto (pc := 29) 4 d_X11_isUnder_29 (by decide) ?_
                refine V_iload_n (pc := 4) d_X11_isUnder_4 rfl ?_
                refine V_bipush (pc := 5) (nI 6) d_X11_isUnder_5 (by decide) ?_
                refine B_icmp_ge (pc := 7) 32 d_X11_isUnder_7 (by decide) (fun c7 => ?_) (fun c7 => ?_)
                · exact absurd c7 (by decide)
                · simp (disch := omega) only [show (nI 6).toInt = 6 from by decide, show (nI 2).toInt = 2 from by decide, nI_toInt, ti0, ti1, tim1, tim20, tim1000] at c7
                  refine V_iload_n (pc := 10) d_X11_isUnder_10 rfl ?_
                  refine V_iload_n (pc := 11) d_X11_isUnder_11 rfl ?_
                  refine V_icmp_eq (pc := 12) 32 d_X11_isUnder_12 (by decide) (fun c12 => ?_) (fun c12 => ?_)
                  · exact absurd c12 (nI_m1n (by omega))
                  · refine V_iload_n (pc := 15) d_X11_isUnder_15 rfl ?_
                    refine V_iconst (pc := 16) (-1) d_X11_isUnder_16 (by decide) ?_
                    refine V_icmp_eq (pc := 17) 32 d_X11_isUnder_17 (by decide) (fun c17 => ?_) (fun c17 => ?_)
                    · refine V_iload_n (pc := 32) d_X11_isUnder_32 rfl ?_
                      refine V_iload_n (pc := 33) d_X11_isUnder_33 rfl ?_
                      refine V_icmp_ne (pc := 34) 41 d_X11_isUnder_34 (by decide) (fun c34 => ?_) (fun c34 => ?_)
                      · refine V_iconst (pc := 41) (0) d_X11_isUnder_41 (by decide) ?_
                        exact V_retZ (pc := 42) d_X11_isUnder_42 rfl (by first | exact Or.inl rfl | exact Or.inr rfl | exact z01) ⟨Nat.le_refl _, Nat.le_refl _⟩ (by first | (rw [if_pos (by omega)] at hq; exact hq) | (rw [if_neg (by omega)] at hq; exact hq))
                      · exact absurd c34 (nI_m1n (by omega))
                    · exact absurd (by decide) c17
  · refine V_iload_n (pc := 0) d_X11_isUnder_0 rfl ?_
    refine V_istore_n (pc := 1) d_X11_isUnder_1 (by decide) ?_
    refine V_iconst (pc := 2) (0) d_X11_isUnder_2 (by decide) ?_
    refine V_istore_n (pc := 3) d_X11_isUnder_3 (by decide) ?_
    refine V_iload_n (pc := 4) d_X11_isUnder_4 rfl ?_
    refine V_bipush (pc := 5) (nI 6) d_X11_isUnder_5 (by decide) ?_
    refine B_icmp_ge (pc := 7) 32 d_X11_isUnder_7 (by decide) (fun c7 => ?_) (fun c7 => ?_)
    · exact absurd c7 (by decide)
    · simp (disch := omega) only [show (nI 6).toInt = 6 from by decide, nI_toInt, ti0, ti1, tim1, tim20, tim1000] at c7
      refine V_iload_n (pc := 10) d_X11_isUnder_10 rfl ?_
      refine V_iload_n (pc := 11) d_X11_isUnder_11 rfl ?_
      refine V_icmp_eq (pc := 12) 32 d_X11_isUnder_12 (by decide) (fun c12 => ?_) (fun c12 => ?_)
      · simp (disch := omega) only [nI_eq, nI_e0n, nI_e1n] at c12
        refine V_iload_n (pc := 32) d_X11_isUnder_32 rfl ?_
        refine V_iload_n (pc := 33) d_X11_isUnder_33 rfl ?_
        refine V_icmp_ne (pc := 34) 41 d_X11_isUnder_34 (by decide) (fun c34 => ?_) (fun c34 => ?_)
        · simp (disch := omega) only [nI_eq, nI_e0n, nI_e1n] at c34
          refine V_iconst (pc := 41) (0) d_X11_isUnder_41 (by decide) ?_
          exact V_retZ (pc := 42) d_X11_isUnder_42 rfl (by first | exact Or.inl rfl | exact Or.inr rfl | exact z01) ⟨Nat.le_refl _, Nat.le_refl _⟩ (by first | (rw [if_pos (by omega)] at hq; exact hq) | (rw [if_neg (by omega)] at hq; exact hq))
        · simp (disch := omega) only [nI_eq, nI_e0n, nI_e1n] at c34
          refine V_iconst (pc := 37) (1) d_X11_isUnder_37 (by decide) ?_
          refine V_goto (pc := 38) 42 d_X11_isUnder_38 (by decide) ?_
          exact V_retZ (pc := 42) d_X11_isUnder_42 rfl (by first | exact Or.inl rfl | exact Or.inr rfl | exact z01) ⟨Nat.le_refl _, Nat.le_refl _⟩ (by first | (rw [if_pos (by omega)] at hq; exact hq) | (rw [if_neg (by omega)] at hq; exact hq))
      · simp (disch := omega) only [nI_eq, nI_e0n, nI_e1n] at c12
        refine V_iload_n (pc := 15) d_X11_isUnder_15 rfl ?_
        refine V_iconst (pc := 16) (-1) d_X11_isUnder_16 (by decide) ?_
        refine V_icmp_eq (pc := 17) 32 d_X11_isUnder_17 (by decide) (fun c17 => ?_) (fun c17 => ?_)
        · exact absurd c17 (by decide)
        · refine V_getsK (pc := 20) d_X11_isUnder_20 f_X11_366 ?_
          refine V_iload_n (pc := 23) d_X11_isUnder_23 rfl ?_
          refine V_kald (pc := 24) (3) d_X11_isUnder_24 rfl (by omega) ?_
          rw [show kaT.getD 3 0 = 1 from rfl]
          refine V_istore_n (pc := 25) d_X11_isUnder_25 (by decide) ?_
          refine V_iinc (pc := 26) d_X11_isUnder_26 rfl (by decide) ?_
          refine V_goto (pc := 29) 4 d_X11_isUnder_29 (by decide) ?_
          refine V_iload_n (pc := 4) d_X11_isUnder_4 rfl ?_
          refine V_bipush (pc := 5) (nI 6) d_X11_isUnder_5 (by decide) ?_
          refine B_icmp_ge (pc := 7) 32 d_X11_isUnder_7 (by decide) (fun c7 => ?_) (fun c7 => ?_)
          · exact absurd c7 (by decide)
          · simp (disch := omega) only [show (nI 6).toInt = 6 from by decide, nI_toInt, ti0, ti1, tim1, tim20, tim1000] at c7
            refine V_iload_n (pc := 10) d_X11_isUnder_10 rfl ?_
            refine V_iload_n (pc := 11) d_X11_isUnder_11 rfl ?_
            refine V_icmp_eq (pc := 12) 32 d_X11_isUnder_12 (by decide) (fun c12 => ?_) (fun c12 => ?_)
            · simp (disch := omega) only [nI_eq, nI_e0n, nI_e1n] at c12
              refine V_iload_n (pc := 32) d_X11_isUnder_32 rfl ?_
              refine V_iload_n (pc := 33) d_X11_isUnder_33 rfl ?_
              refine V_icmp_ne (pc := 34) 41 d_X11_isUnder_34 (by decide) (fun c34 => ?_) (fun c34 => ?_)
              · simp (disch := omega) only [nI_eq, nI_e0n, nI_e1n] at c34
                refine V_iconst (pc := 41) (0) d_X11_isUnder_41 (by decide) ?_
                exact V_retZ (pc := 42) d_X11_isUnder_42 rfl (by first | exact Or.inl rfl | exact Or.inr rfl | exact z01) ⟨Nat.le_refl _, Nat.le_refl _⟩ (by first | (rw [if_pos (by omega)] at hq; exact hq) | (rw [if_neg (by omega)] at hq; exact hq))
              · simp (disch := omega) only [nI_eq, nI_e0n, nI_e1n] at c34
                refine V_iconst (pc := 37) (1) d_X11_isUnder_37 (by decide) ?_
                refine V_goto (pc := 38) 42 d_X11_isUnder_38 (by decide) ?_
                exact V_retZ (pc := 42) d_X11_isUnder_42 rfl (by first | exact Or.inl rfl | exact Or.inr rfl | exact z01) ⟨Nat.le_refl _, Nat.le_refl _⟩ (by first | (rw [if_pos (by omega)] at hq; exact hq) | (rw [if_neg (by omega)] at hq; exact hq))
            · simp (disch := omega) only [nI_eq, nI_e0n, nI_e1n] at c12
              refine V_iload_n (pc := 15) d_X11_isUnder_15 rfl ?_
              refine V_iconst (pc := 16) (-1) d_X11_isUnder_16 (by decide) ?_
              refine V_icmp_eq (pc := 17) 32 d_X11_isUnder_17 (by decide) (fun c17 => ?_) (fun c17 => ?_)
              · exact absurd c17 (by decide)
              · refine V_getsK (pc := 20) d_X11_isUnder_20 f_X11_366 ?_
                refine V_iload_n (pc := 23) d_X11_isUnder_23 rfl ?_
                refine V_kald (pc := 24) (1) d_X11_isUnder_24 (by decide) (by omega) ?_
                rw [show kaT.getD 1 0 = 0 from rfl]
                refine V_istore_n (pc := 25) d_X11_isUnder_25 (by decide) ?_
                refine V_iinc (pc := 26) d_X11_isUnder_26 rfl (by decide) ?_
                refine V_goto (pc := 29) 4 d_X11_isUnder_29 (by decide) ?_
                refine V_iload_n (pc := 4) d_X11_isUnder_4 rfl ?_
                refine V_bipush (pc := 5) (nI 6) d_X11_isUnder_5 (by decide) ?_
                refine B_icmp_ge (pc := 7) 32 d_X11_isUnder_7 (by decide) (fun c7 => ?_) (fun c7 => ?_)
                · exact absurd c7 (by decide)
                · simp (disch := omega) only [show (nI 6).toInt = 6 from by decide, show (nI 2).toInt = 2 from by decide, nI_toInt, ti0, ti1, tim1, tim20, tim1000] at c7
                  refine V_iload_n (pc := 10) d_X11_isUnder_10 rfl ?_
                  refine V_iload_n (pc := 11) d_X11_isUnder_11 rfl ?_
                  refine V_icmp_eq (pc := 12) 32 d_X11_isUnder_12 (by decide) (fun c12 => ?_) (fun c12 => ?_)
                  · simp (disch := omega) only [nI_eq, nI_e0n, nI_e1n] at c12
                    refine V_iload_n (pc := 32) d_X11_isUnder_32 rfl ?_
                    refine V_iload_n (pc := 33) d_X11_isUnder_33 rfl ?_
                    refine V_icmp_ne (pc := 34) 41 d_X11_isUnder_34 (by decide) (fun c34 => ?_) (fun c34 => ?_)
                    · simp (disch := omega) only [nI_eq, nI_e0n, nI_e1n] at c34
                      refine V_iconst (pc := 41) (0) d_X11_isUnder_41 (by decide) ?_
                      exact V_retZ (pc := 42) d_X11_isUnder_42 rfl (by first | exact Or.inl rfl | exact Or.inr rfl | exact z01) ⟨Nat.le_refl _, Nat.le_refl _⟩ (by first | (rw [if_pos (by omega)] at hq; exact hq) | (rw [if_neg (by omega)] at hq; exact hq))
                    · simp (disch := omega) only [nI_eq, nI_e0n, nI_e1n] at c34
                      refine V_iconst (pc := 37) (1) d_X11_isUnder_37 (by decide) ?_
                      refine V_goto (pc := 38) 42 d_X11_isUnder_38 (by decide) ?_
                      exact V_retZ (pc := 42) d_X11_isUnder_42 rfl (by first | exact Or.inl rfl | exact Or.inr rfl | exact z01) ⟨Nat.le_refl _, Nat.le_refl _⟩ (by first | (rw [if_pos (by omega)] at hq; exact hq) | (rw [if_neg (by omega)] at hq; exact hq))
                  · simp (disch := omega) only [nI_eq, nI_e0n, nI_e1n] at c12
                    refine V_iload_n (pc := 15) d_X11_isUnder_15 rfl ?_
                    refine V_iconst (pc := 16) (-1) d_X11_isUnder_16 (by decide) ?_
                    refine V_icmp_eq (pc := 17) 32 d_X11_isUnder_17 (by decide) (fun c17 => ?_) (fun c17 => ?_)
                    · exact absurd c17 (by decide)
                    · refine V_getsK (pc := 20) d_X11_isUnder_20 f_X11_366 ?_
                      refine V_iload_n (pc := 23) d_X11_isUnder_23 rfl ?_
                      refine V_kald (pc := 24) (0) d_X11_isUnder_24 (by decide) (by omega) ?_
                      rw [show kaT.getD 0 0 = (-1) from rfl]
                      refine V_istore_n (pc := 25) d_X11_isUnder_25 (by decide) ?_
                      refine V_iinc (pc := 26) d_X11_isUnder_26 rfl (by decide) ?_
                      refine V_goto (pc := 29) 4 d_X11_isUnder_29 (by decide) ?_
                      refine V_iload_n (pc := 4) d_X11_isUnder_4 rfl ?_
                      refine V_bipush (pc := 5) (nI 6) d_X11_isUnder_5 (by decide) ?_
                      refine B_icmp_ge (pc := 7) 32 d_X11_isUnder_7 (by decide) (fun c7 => ?_) (fun c7 => ?_)
                      · exact absurd c7 (by decide)
                      · simp (disch := omega) only [show (nI 6).toInt = 6 from by decide, show (nI 3).toInt = 3 from by decide, nI_toInt, ti0, ti1, tim1, tim20, tim1000] at c7
                        refine V_iload_n (pc := 10) d_X11_isUnder_10 rfl ?_
                        refine V_iload_n (pc := 11) d_X11_isUnder_11 rfl ?_
                        refine V_icmp_eq (pc := 12) 32 d_X11_isUnder_12 (by decide) (fun c12 => ?_) (fun c12 => ?_)
                        · exact absurd c12 (nI_m1n (by omega))
                        · refine V_iload_n (pc := 15) d_X11_isUnder_15 rfl ?_
                          refine V_iconst (pc := 16) (-1) d_X11_isUnder_16 (by decide) ?_
                          refine V_icmp_eq (pc := 17) 32 d_X11_isUnder_17 (by decide) (fun c17 => ?_) (fun c17 => ?_)
                          · refine V_iload_n (pc := 32) d_X11_isUnder_32 rfl ?_
                            refine V_iload_n (pc := 33) d_X11_isUnder_33 rfl ?_
                            refine V_icmp_ne (pc := 34) 41 d_X11_isUnder_34 (by decide) (fun c34 => ?_) (fun c34 => ?_)
                            · refine V_iconst (pc := 41) (0) d_X11_isUnder_41 (by decide) ?_
                              exact V_retZ (pc := 42) d_X11_isUnder_42 rfl (by first | exact Or.inl rfl | exact Or.inr rfl | exact z01) ⟨Nat.le_refl _, Nat.le_refl _⟩ (by first | (rw [if_pos (by omega)] at hq; exact hq) | (rw [if_neg (by omega)] at hq; exact hq))
                            · exact absurd c34 (nI_m1n (by omega))
                          · exact absurd (by decide) c17
  · refine V_iload_n (pc := 0) d_X11_isUnder_0 rfl ?_
    refine V_istore_n (pc := 1) d_X11_isUnder_1 (by decide) ?_
    refine V_iconst (pc := 2) (0) d_X11_isUnder_2 (by decide) ?_
    refine V_istore_n (pc := 3) d_X11_isUnder_3 (by decide) ?_
    refine V_iload_n (pc := 4) d_X11_isUnder_4 rfl ?_
    refine V_bipush (pc := 5) (nI 6) d_X11_isUnder_5 (by decide) ?_
    refine B_icmp_ge (pc := 7) 32 d_X11_isUnder_7 (by decide) (fun c7 => ?_) (fun c7 => ?_)
    · exact absurd c7 (by decide)
    · simp (disch := omega) only [show (nI 6).toInt = 6 from by decide, nI_toInt, ti0, ti1, tim1, tim20, tim1000] at c7
      refine V_iload_n (pc := 10) d_X11_isUnder_10 rfl ?_
      refine V_iload_n (pc := 11) d_X11_isUnder_11 rfl ?_
      refine V_icmp_eq (pc := 12) 32 d_X11_isUnder_12 (by decide) (fun c12 => ?_) (fun c12 => ?_)
      · simp (disch := omega) only [nI_eq, nI_e0n, nI_e1n] at c12
        refine V_iload_n (pc := 32) d_X11_isUnder_32 rfl ?_
        refine V_iload_n (pc := 33) d_X11_isUnder_33 rfl ?_
        refine V_icmp_ne (pc := 34) 41 d_X11_isUnder_34 (by decide) (fun c34 => ?_) (fun c34 => ?_)
        · simp (disch := omega) only [nI_eq, nI_e0n, nI_e1n] at c34
          refine V_iconst (pc := 41) (0) d_X11_isUnder_41 (by decide) ?_
          exact V_retZ (pc := 42) d_X11_isUnder_42 rfl (by first | exact Or.inl rfl | exact Or.inr rfl | exact z01) ⟨Nat.le_refl _, Nat.le_refl _⟩ (by first | (rw [if_pos (by omega)] at hq; exact hq) | (rw [if_neg (by omega)] at hq; exact hq))
        · simp (disch := omega) only [nI_eq, nI_e0n, nI_e1n] at c34
          refine V_iconst (pc := 37) (1) d_X11_isUnder_37 (by decide) ?_
          refine V_goto (pc := 38) 42 d_X11_isUnder_38 (by decide) ?_
          exact V_retZ (pc := 42) d_X11_isUnder_42 rfl (by first | exact Or.inl rfl | exact Or.inr rfl | exact z01) ⟨Nat.le_refl _, Nat.le_refl _⟩ (by first | (rw [if_pos (by omega)] at hq; exact hq) | (rw [if_neg (by omega)] at hq; exact hq))
      · simp (disch := omega) only [nI_eq, nI_e0n, nI_e1n] at c12
        refine V_iload_n (pc := 15) d_X11_isUnder_15 rfl ?_
        refine V_iconst (pc := 16) (-1) d_X11_isUnder_16 (by decide) ?_
        refine V_icmp_eq (pc := 17) 32 d_X11_isUnder_17 (by decide) (fun c17 => ?_) (fun c17 => ?_)
        · exact absurd c17 (by decide)
        · refine V_getsK (pc := 20) d_X11_isUnder_20 f_X11_366 ?_
          refine V_iload_n (pc := 23) d_X11_isUnder_23 rfl ?_
          refine V_kald (pc := 24) (4) d_X11_isUnder_24 rfl (by omega) ?_
          rw [show kaT.getD 4 0 = 0 from rfl]
          refine V_istore_n (pc := 25) d_X11_isUnder_25 (by decide) ?_
          refine V_iinc (pc := 26) d_X11_isUnder_26 rfl (by decide) ?_
          refine V_goto (pc := 29) 4 d_X11_isUnder_29 (by decide) ?_
          refine V_iload_n (pc := 4) d_X11_isUnder_4 rfl ?_
          refine V_bipush (pc := 5) (nI 6) d_X11_isUnder_5 (by decide) ?_
          refine B_icmp_ge (pc := 7) 32 d_X11_isUnder_7 (by decide) (fun c7 => ?_) (fun c7 => ?_)
          · exact absurd c7 (by decide)
          · simp (disch := omega) only [show (nI 6).toInt = 6 from by decide, nI_toInt, ti0, ti1, tim1, tim20, tim1000] at c7
            refine V_iload_n (pc := 10) d_X11_isUnder_10 rfl ?_
            refine V_iload_n (pc := 11) d_X11_isUnder_11 rfl ?_
            refine V_icmp_eq (pc := 12) 32 d_X11_isUnder_12 (by decide) (fun c12 => ?_) (fun c12 => ?_)
            · simp (disch := omega) only [nI_eq, nI_e0n, nI_e1n] at c12
              refine V_iload_n (pc := 32) d_X11_isUnder_32 rfl ?_
              refine V_iload_n (pc := 33) d_X11_isUnder_33 rfl ?_
              refine V_icmp_ne (pc := 34) 41 d_X11_isUnder_34 (by decide) (fun c34 => ?_) (fun c34 => ?_)
              · simp (disch := omega) only [nI_eq, nI_e0n, nI_e1n] at c34
                refine V_iconst (pc := 41) (0) d_X11_isUnder_41 (by decide) ?_
                exact V_retZ (pc := 42) d_X11_isUnder_42 rfl (by first | exact Or.inl rfl | exact Or.inr rfl | exact z01) ⟨Nat.le_refl _, Nat.le_refl _⟩ (by first | (rw [if_pos (by omega)] at hq; exact hq) | (rw [if_neg (by omega)] at hq; exact hq))
              · simp (disch := omega) only [nI_eq, nI_e0n, nI_e1n] at c34
                refine V_iconst (pc := 37) (1) d_X11_isUnder_37 (by decide) ?_
                refine V_goto (pc := 38) 42 d_X11_isUnder_38 (by decide) ?_
                exact V_retZ (pc := 42) d_X11_isUnder_42 rfl (by first | exact Or.inl rfl | exact Or.inr rfl | exact z01) ⟨Nat.le_refl _, Nat.le_refl _⟩ (by first | (rw [if_pos (by omega)] at hq; exact hq) | (rw [if_neg (by omega)] at hq; exact hq))
            · simp (disch := omega) only [nI_eq, nI_e0n, nI_e1n] at c12
              refine V_iload_n (pc := 15) d_X11_isUnder_15 rfl ?_
              refine V_iconst (pc := 16) (-1) d_X11_isUnder_16 (by decide) ?_
              refine V_icmp_eq (pc := 17) 32 d_X11_isUnder_17 (by decide) (fun c17 => ?_) (fun c17 => ?_)
              · exact absurd c17 (by decide)
              · refine V_getsK (pc := 20) d_X11_isUnder_20 f_X11_366 ?_
                refine V_iload_n (pc := 23) d_X11_isUnder_23 rfl ?_
                refine V_kald (pc := 24) (0) d_X11_isUnder_24 (by decide) (by omega) ?_
                rw [show kaT.getD 0 0 = (-1) from rfl]
                refine V_istore_n (pc := 25) d_X11_isUnder_25 (by decide) ?_
                refine V_iinc (pc := 26) d_X11_isUnder_26 rfl (by decide) ?_
                refine V_goto (pc := 29) 4 d_X11_isUnder_29 (by decide) ?_
                refine V_iload_n (pc := 4) d_X11_isUnder_4 rfl ?_
                refine V_bipush (pc := 5) (nI 6) d_X11_isUnder_5 (by decide) ?_
                refine B_icmp_ge (pc := 7) 32 d_X11_isUnder_7 (by decide) (fun c7 => ?_) (fun c7 => ?_)
                · exact absurd c7 (by decide)
                · simp (disch := omega) only [show (nI 6).toInt = 6 from by decide, show (nI 2).toInt = 2 from by decide, nI_toInt, ti0, ti1, tim1, tim20, tim1000] at c7
                  refine V_iload_n (pc := 10) d_X11_isUnder_10 rfl ?_
                  refine V_iload_n (pc := 11) d_X11_isUnder_11 rfl ?_
                  refine V_icmp_eq (pc := 12) 32 d_X11_isUnder_12 (by decide) (fun c12 => ?_) (fun c12 => ?_)
                  · exact absurd c12 (nI_m1n (by omega))
                  · refine V_iload_n (pc := 15) d_X11_isUnder_15 rfl ?_
                    refine V_iconst (pc := 16) (-1) d_X11_isUnder_16 (by decide) ?_
                    refine V_icmp_eq (pc := 17) 32 d_X11_isUnder_17 (by decide) (fun c17 => ?_) (fun c17 => ?_)
                    · refine V_iload_n (pc := 32) d_X11_isUnder_32 rfl ?_
                      refine V_iload_n (pc := 33) d_X11_isUnder_33 rfl ?_
                      refine V_icmp_ne (pc := 34) 41 d_X11_isUnder_34 (by decide) (fun c34 => ?_) (fun c34 => ?_)
                      · refine V_iconst (pc := 41) (0) d_X11_isUnder_41 (by decide) ?_
                        exact V_retZ (pc := 42) d_X11_isUnder_42 rfl (by first | exact Or.inl rfl | exact Or.inr rfl | exact z01) ⟨Nat.le_refl _, Nat.le_refl _⟩ (by first | (rw [if_pos (by omega)] at hq; exact hq) | (rw [if_neg (by omega)] at hq; exact hq))
                      · exact absurd c34 (nI_m1n (by omega))
                    · exact absurd (by decide) c17
  · refine V_iload_n (pc := 0) d_X11_isUnder_0 rfl ?_
    refine V_istore_n (pc := 1) d_X11_isUnder_1 (by decide) ?_
    refine V_iconst (pc := 2) (0) d_X11_isUnder_2 (by decide) ?_
    refine V_istore_n (pc := 3) d_X11_isUnder_3 (by decide) ?_
    refine V_iload_n (pc := 4) d_X11_isUnder_4 rfl ?_
    refine V_bipush (pc := 5) (nI 6) d_X11_isUnder_5 (by decide) ?_
    refine B_icmp_ge (pc := 7) 32 d_X11_isUnder_7 (by decide) (fun c7 => ?_) (fun c7 => ?_)
    · exact absurd c7 (by decide)
    · simp (disch := omega) only [show (nI 6).toInt = 6 from by decide, nI_toInt, ti0, ti1, tim1, tim20, tim1000] at c7
      refine V_iload_n (pc := 10) d_X11_isUnder_10 rfl ?_
      refine V_iload_n (pc := 11) d_X11_isUnder_11 rfl ?_
      refine V_icmp_eq (pc := 12) 32 d_X11_isUnder_12 (by decide) (fun c12 => ?_) (fun c12 => ?_)
      · simp (disch := omega) only [nI_eq, nI_e0n, nI_e1n] at c12
        refine V_iload_n (pc := 32) d_X11_isUnder_32 rfl ?_
        refine V_iload_n (pc := 33) d_X11_isUnder_33 rfl ?_
        refine V_icmp_ne (pc := 34) 41 d_X11_isUnder_34 (by decide) (fun c34 => ?_) (fun c34 => ?_)
        · simp (disch := omega) only [nI_eq, nI_e0n, nI_e1n] at c34
          refine V_iconst (pc := 41) (0) d_X11_isUnder_41 (by decide) ?_
          exact V_retZ (pc := 42) d_X11_isUnder_42 rfl (by first | exact Or.inl rfl | exact Or.inr rfl | exact z01) ⟨Nat.le_refl _, Nat.le_refl _⟩ (by first | (rw [if_pos (by omega)] at hq; exact hq) | (rw [if_neg (by omega)] at hq; exact hq))
        · simp (disch := omega) only [nI_eq, nI_e0n, nI_e1n] at c34
          refine V_iconst (pc := 37) (1) d_X11_isUnder_37 (by decide) ?_
          refine V_goto (pc := 38) 42 d_X11_isUnder_38 (by decide) ?_
          exact V_retZ (pc := 42) d_X11_isUnder_42 rfl (by first | exact Or.inl rfl | exact Or.inr rfl | exact z01) ⟨Nat.le_refl _, Nat.le_refl _⟩ (by first | (rw [if_pos (by omega)] at hq; exact hq) | (rw [if_neg (by omega)] at hq; exact hq))
      · simp (disch := omega) only [nI_eq, nI_e0n, nI_e1n] at c12
        refine V_iload_n (pc := 15) d_X11_isUnder_15 rfl ?_
        refine V_iconst (pc := 16) (-1) d_X11_isUnder_16 (by decide) ?_
        refine V_icmp_eq (pc := 17) 32 d_X11_isUnder_17 (by decide) (fun c17 => ?_) (fun c17 => ?_)
        · exact absurd c17 (by decide)
        · refine V_getsK (pc := 20) d_X11_isUnder_20 f_X11_366 ?_
          refine V_iload_n (pc := 23) d_X11_isUnder_23 rfl ?_
          refine V_kald (pc := 24) (5) d_X11_isUnder_24 rfl (by omega) ?_
          rw [show kaT.getD 5 0 = 0 from rfl]
          refine V_istore_n (pc := 25) d_X11_isUnder_25 (by decide) ?_
          refine V_iinc (pc := 26) d_X11_isUnder_26 rfl (by decide) ?_
          refine V_goto (pc := 29) 4 d_X11_isUnder_29 (by decide) ?_
          refine V_iload_n (pc := 4) d_X11_isUnder_4 rfl ?_
          refine V_bipush (pc := 5) (nI 6) d_X11_isUnder_5 (by decide) ?_
          refine B_icmp_ge (pc := 7) 32 d_X11_isUnder_7 (by decide) (fun c7 => ?_) (fun c7 => ?_)
          · exact absurd c7 (by decide)
          · simp (disch := omega) only [show (nI 6).toInt = 6 from by decide, nI_toInt, ti0, ti1, tim1, tim20, tim1000] at c7
            refine V_iload_n (pc := 10) d_X11_isUnder_10 rfl ?_
            refine V_iload_n (pc := 11) d_X11_isUnder_11 rfl ?_
            refine V_icmp_eq (pc := 12) 32 d_X11_isUnder_12 (by decide) (fun c12 => ?_) (fun c12 => ?_)
            · simp (disch := omega) only [nI_eq, nI_e0n, nI_e1n] at c12
              refine V_iload_n (pc := 32) d_X11_isUnder_32 rfl ?_
              refine V_iload_n (pc := 33) d_X11_isUnder_33 rfl ?_
              refine V_icmp_ne (pc := 34) 41 d_X11_isUnder_34 (by decide) (fun c34 => ?_) (fun c34 => ?_)
              · simp (disch := omega) only [nI_eq, nI_e0n, nI_e1n] at c34
                refine V_iconst (pc := 41) (0) d_X11_isUnder_41 (by decide) ?_
                exact V_retZ (pc := 42) d_X11_isUnder_42 rfl (by first | exact Or.inl rfl | exact Or.inr rfl | exact z01) ⟨Nat.le_refl _, Nat.le_refl _⟩ (by first | (rw [if_pos (by omega)] at hq; exact hq) | (rw [if_neg (by omega)] at hq; exact hq))
              · simp (disch := omega) only [nI_eq, nI_e0n, nI_e1n] at c34
                refine V_iconst (pc := 37) (1) d_X11_isUnder_37 (by decide) ?_
                refine V_goto (pc := 38) 42 d_X11_isUnder_38 (by decide) ?_
                exact V_retZ (pc := 42) d_X11_isUnder_42 rfl (by first | exact Or.inl rfl | exact Or.inr rfl | exact z01) ⟨Nat.le_refl _, Nat.le_refl _⟩ (by first | (rw [if_pos (by omega)] at hq; exact hq) | (rw [if_neg (by omega)] at hq; exact hq))
            · simp (disch := omega) only [nI_eq, nI_e0n, nI_e1n] at c12
              refine V_iload_n (pc := 15) d_X11_isUnder_15 rfl ?_
              refine V_iconst (pc := 16) (-1) d_X11_isUnder_16 (by decide) ?_
              refine V_icmp_eq (pc := 17) 32 d_X11_isUnder_17 (by decide) (fun c17 => ?_) (fun c17 => ?_)
              · exact absurd c17 (by decide)
              · refine V_getsK (pc := 20) d_X11_isUnder_20 f_X11_366 ?_
                refine V_iload_n (pc := 23) d_X11_isUnder_23 rfl ?_
                refine V_kald (pc := 24) (0) d_X11_isUnder_24 (by decide) (by omega) ?_
                rw [show kaT.getD 0 0 = (-1) from rfl]
                refine V_istore_n (pc := 25) d_X11_isUnder_25 (by decide) ?_
                refine V_iinc (pc := 26) d_X11_isUnder_26 rfl (by decide) ?_
                refine V_goto (pc := 29) 4 d_X11_isUnder_29 (by decide) ?_
                refine V_iload_n (pc := 4) d_X11_isUnder_4 rfl ?_
                refine V_bipush (pc := 5) (nI 6) d_X11_isUnder_5 (by decide) ?_
                refine B_icmp_ge (pc := 7) 32 d_X11_isUnder_7 (by decide) (fun c7 => ?_) (fun c7 => ?_)
                · exact absurd c7 (by decide)
                · simp (disch := omega) only [show (nI 6).toInt = 6 from by decide, show (nI 2).toInt = 2 from by decide, nI_toInt, ti0, ti1, tim1, tim20, tim1000] at c7
                  refine V_iload_n (pc := 10) d_X11_isUnder_10 rfl ?_
                  refine V_iload_n (pc := 11) d_X11_isUnder_11 rfl ?_
                  refine V_icmp_eq (pc := 12) 32 d_X11_isUnder_12 (by decide) (fun c12 => ?_) (fun c12 => ?_)
                  · exact absurd c12 (nI_m1n (by omega))
                  · refine V_iload_n (pc := 15) d_X11_isUnder_15 rfl ?_
                    refine V_iconst (pc := 16) (-1) d_X11_isUnder_16 (by decide) ?_
                    refine V_icmp_eq (pc := 17) 32 d_X11_isUnder_17 (by decide) (fun c17 => ?_) (fun c17 => ?_)
                    · refine V_iload_n (pc := 32) d_X11_isUnder_32 rfl ?_
                      refine V_iload_n (pc := 33) d_X11_isUnder_33 rfl ?_
                      refine V_icmp_ne (pc := 34) 41 d_X11_isUnder_34 (by decide) (fun c34 => ?_) (fun c34 => ?_)
                      · refine V_iconst (pc := 41) (0) d_X11_isUnder_41 (by decide) ?_
                        exact V_retZ (pc := 42) d_X11_isUnder_42 rfl (by first | exact Or.inl rfl | exact Or.inr rfl | exact z01) ⟨Nat.le_refl _, Nat.le_refl _⟩ (by first | (rw [if_pos (by omega)] at hq; exact hq) | (rw [if_neg (by omega)] at hq; exact hq))
                      · exact absurd c34 (nI_m1n (by omega))
                    · exact absurd (by decide) c17
end HC
