section HC
variable {G : Gl} {R : Room} {F : Fn} {K : Int32 → Hp → Prop} {KV : Hp → Prop} {σ : Nat → Nat → Int32} {b : Bool}
theorem nI_m1n {n : Nat} (h : n < 2 ^ 31) : ¬ (-1 : Int32) = nI n := fun q => nI_nm1 h q.symm
def undS (k u : Nat) : Prop := u = 0 ∨ k = u ∨ (u = 1 ∧ k = 3)
theorem undS_dec {k u : Nat} : undS k u ↔ (u = 0 ∨ k = u ∨ (u = 1 ∧ k = 3)) := Iff.rfl
theorem ct_X11_isUnder {k u : Nat} (hk : k < 6) (hu : u < 6) (hq : K (if u = 0 ∨ k = u ∨ (u = 1 ∧ k = 3) then 1 else 0) (σ, sh b)) : CM G mX11_isUnder (rl 1) [.int (nI k), .int (nI u)] (σ, sh b) (QI K) := by
  refine CM.of (by decide) (Nat.le_of_ble_eq_true rfl) (cats1 rfl) ?_
  rcases (by omega : k = 0 ∨ k = 1 ∨ k = 2 ∨ k = 3 ∨ k = 4 ∨ k = 5) with rfl | rfl | rfl | rfl | rfl | rfl
  · refine V_iload_n (pc := 0) d_X11_isUnder_0 rfl ?_
    refine V_istore_n (pc := 1) d_X11_isUnder_1 (by decide) ?_
    refine V_iconst (pc := 2) (0) d_X11_isUnder_2 (by decide) ?_
    refine V_istore_n (pc := 3) d_X11_isUnder_3 (by decide) ?_
    refine V_iload_n (pc := 4) d_X11_isUnder_4 rfl ?_
    refine V_bipush (pc := 5) (nI 6) d_X11_isUnder_5 (by decide) ?_
    refine B_icmp_ge (pc := 7) 32 d_X11_isUnder_7 (by decide) (fun c7 => ?_) (fun c7 => ?_)
    · exact absurd c7 (by decide)
    · simp (disch := omega) only [show (nI 6).toInt = 6 from by decide, nI_toInt, ti0, ti1, tim1, tim20, tim1000] at c7
      refine V_iload_n (pc := 10) d_X11_isUnder_10 rfl ?_
      refine V_iload_n (pc := 11) d_X11_isUnder_11 rfl ?_
      refine V_icmp_eq (pc := 12) 32 d_X11_isUnder_12 (by decide) (fun c12 => ?_) (fun c12 => ?_)
      · simp (disch := omega) only [nI_eq, nI_e0n, nI_e1n] at c12
        refine V_iload_n (pc := 32) d_X11_isUnder_32 rfl ?_
        refine V_iload_n (pc := 33) d_X11_isUnder_33 rfl ?_
        refine V_icmp_ne (pc := 34) 41 d_X11_isUnder_34 (by decide) (fun c34 => ?_) (fun c34 => ?_)
        · simp (disch := omega) only [nI_eq, nI_e0n, nI_e1n] at c34
          refine V_iconst (pc := 41) (0) d_X11_isUnder_41 (by decide) ?_
          exact V_retZ (pc := 42) d_X11_isUnder_42 rfl (by first | exact Or.inl rfl | exact Or.inr rfl | exact z01) ⟨Nat.le_refl _, Nat.le_refl _⟩ (by first | (rw [if_pos (by omega)] at hq; exact hq) | (rw [if_neg (by omega)] at hq; exact hq))
        · simp (disch := omega) only [nI_eq, nI_e0n, nI_e1n] at c34
          refine V_iconst (pc := 37) (1) d_X11_isUnder_37 (by decide) ?_
          refine V_goto (pc := 38) 42 d_X11_isUnder_38 (by decide) ?_
          exact V_retZ (pc := 42) d_X11_isUnder_42 rfl (by first | exact Or.inl rfl | exact Or.inr rfl | exact z01) ⟨Nat.le_refl _, Nat.le_refl _⟩ (by first | (rw [if_pos (by omega)] at hq; exact hq) | (rw [if_neg (by omega)] at hq; exact hq))
      · simp (disch := omega) only [nI_eq, nI_e0n, nI_e1n] at c12
        refine V_iload_n (pc := 15) d_X11_isUnder_15 rfl ?_
        refine V_iconst (pc := 16) (-1) d_X11_isUnder_16 (by decide) ?_
        refine V_icmp_eq (pc := 17) 32 d_X11_isUnder_17 (by decide) (fun c17 => ?_) (fun c17 => ?_)
        · exact absurd c17 (by decide)
        · refine V_getsK (pc := 20) d_X11_isUnder_20 f_X11_366 ?_
          refine V_iload_n (pc := 23) d_X11_isUnder_23 rfl ?_
          refine V_kald (pc := 24) (0) d_X11_isUnder_24 (by decide) (by omega) ?_
          rw [show kaT.getD 0 0 = (-1) from rfl]
          refine V_istore_n (pc := 25) d_X11_isUnder_25 (by decide) ?_
          refine V_iinc (pc := 26) d_X11_isUnder_26 rfl (by decide) ?_
          refine V_goto (pc := 29) 4 d_X11_isUnder_29 (by decide) ?_
          refine V_iload_n (pc := 4) d_X11_isUnder_4 rfl ?_
          refine V_bipush (pc := 5) (nI 6) d_X11_isUnder_5 (by decide) ?_
          refine B_icmp_ge (pc := 7) 32 d_X11_isUnder_7 (by decide) (fun c7 => ?_) (fun c7 => ?_)
          · exact absurd c7 (by decide)
          · simp (disch := omega) only [show (nI 6).toInt = 6 from by decide, nI_toInt, ti0, ti1, tim1, tim20, tim1000] at c7
            refine V_iload_n (pc := 10) d_X11_isUnder_10 rfl ?_
            refine V_iload_n (pc := 11) d_X11_isUnder_11 rfl ?_
            refine V_icmp_eq (pc := 12) 32 d_X11_isUnder_12 (by decide) (fun c12 => ?_) (fun c12 => ?_)
            · exact absurd c12 (nI_m1n (by omega))
            · refine V_iload_n (pc := 15) d_X11_isUnder_15 rfl ?_
              refine V_iconst (pc := 16) (-1) d_X11_isUnder_16 (by decide) ?_
              refine V_icmp_eq (pc := 17) 32 d_X11_isUnder_17 (by decide) (fun c17 => ?_) (fun c17 => ?_)
              · refine V_iload_n (pc := 32) d_X11_isUnder_32 rfl ?_
                refine V_iload_n (pc := 33) d_X11_isUnder_33 rfl ?_
                refine V_icmp_ne (pc := 34) 41 d_X11_isUnder_34 (by decide) (fun c34 => ?_) (fun c34 => ?_)
                · refine V_iconst (pc := 41) (0) d_X11_isUnder_41 (by decide) ?_
                  exact V_retZ (pc := 42) d_X11_isUnder_42 rfl (by first | exact Or.inl rfl | exact Or.inr rfl | exact z01) ⟨Nat.le_refl _, Nat.le_refl _⟩ (by first | (rw [if_pos (by omega)] at hq; exact hq) | (rw [if_neg (by omega)] at hq; exact hq))
                · exact absurd c34 (nI_m1n (by omega))
              · exact absurd (by decide) c17
  · refine V_iload_n (pc := 0) d_X11_isUnder_0 rfl ?_
    refine V_istore_n (pc := 1) d_X11_isUnder_1 (by decide) ?_
    refine V_iconst (pc := 2) (0) d_X11_isUnder_2 (by decide) ?_
    refine V_istore_n (pc := 3) d_X11_isUnder_3 (by decide) ?_
    refine V_iload_n (pc := 4) d_X11_isUnder_4 rfl ?_
    refine V_bipush (pc := 5) (nI 6) d_X11_isUnder_5 (by decide) ?_
    refine B_icmp_ge (pc := 7) 32 d_X11_isUnder_7 (by decide) (fun c7 => ?_) (fun c7 => ?_)
    · exact absurd c7 (by decide)
    · simp (disch := omega) only [show (nI 6).toInt = 6 from by decide, nI_toInt, ti0, ti1, tim1, tim20, tim1000] at c7
      refine V_iload_n (pc := 10) d_X11_isUnder_10 rfl ?_
      refine V_iload_n (pc := 11) d_X11_isUnder_11 rfl ?_
      refine V_icmp_eq (pc := 12) 32 d_X11_isUnder_12 (by decide) (fun c12 => ?_) (fun c12 => ?_)
      · simp (disch := omega) only [nI_eq, nI_e0n, nI_e1n] at c12
        refine V_iload_n (pc := 32) d_X11_isUnder_32 rfl ?_
        refine V_iload_n (pc := 33) d_X11_isUnder_33 rfl ?_
        refine V_icmp_ne (pc := 34) 41 d_X11_isUnder_34 (by decide) (fun c34 => ?_) (fun c34 => ?_)
        · simp (disch := omega) only [nI_eq, nI_e0n, nI_e1n] at c34
          refine V_iconst (pc := 41) (0) d_X11_isUnder_41 (by decide) ?_
          exact V_retZ (pc := 42) d_X11_isUnder_42 rfl (by first | exact Or.inl rfl | exact Or.inr rfl | exact z01) ⟨Nat.le_refl _, Nat.le_refl _⟩ (by first | (rw [if_pos (by omega)] at hq; exact hq) | (rw [if_neg (by omega)] at hq; exact hq))
        · simp (disch := omega) only [nI_eq, nI_e0n, nI_e1n] at c34
          refine V_iconst (pc := 37) (1) d_X11_isUnder_37 (by decide) ?_
          refine V_goto (pc := 38) 42 d_X11_isUnder_38 (by decide) ?_
          exact V_retZ (pc := 42) d_X11_isUnder_42 rfl (by first | exact Or.inl rfl | exact Or.inr rfl | exact z01) ⟨Nat.le_refl _, Nat.le_refl _⟩ (by first | (rw [if_pos (by omega)] at hq; exact hq) | (rw [if_neg (by omega)] at hq; exact hq))
      · simp (disch := omega) only [nI_eq, nI_e0n, nI_e1n] at c12
        refine V_iload_n (pc := 15) d_X11_isUnder_15 rfl ?_
        refine V_iconst (pc := 16) (-1) d_X11_isUnder_16 (by decide) ?_
        refine V_icmp_eq (pc := 17) 32 d_X11_isUnder_17 (by decide) (fun c17 => ?_) (fun c17 => ?_)
        · exact absurd c17 (by decide)
        · refine V_getsK (pc := 20) d_X11_isUnder_20 f_X11_366 ?_
          refine V_iload_n (pc := 23) d_X11_isUnder_23 rfl ?_
          refine V_kald (pc := 24) (1) d_X11_isUnder_24 (by decide) (by omega) ?_
          rw [show kaT.getD 1 0 = 0 from rfl]
          refine V_istore_n (pc := 25) d_X11_isUnder_25 (by decide) ?_
          refine V_iinc (pc := 26) d_X11_isUnder_26 rfl (by decide) ?_
          refine V_goto (pc := 29) 4 d_X11_isUnder_29 (by decide) ?_
          refine V_iload_n (pc := 4) d_X11_isUnder_4 rfl ?_
          refine V_bipush (pc := 5) (nI 6) d_X11_isUnder_5 (by decide) ?_
          refine B_icmp_ge (pc := 7) 32 d_X11_isUnder_7 (by decide) (fun c7 => ?_) (fun c7 => ?_)
          · exact absurd c7 (by decide)
          · simp (disch := omega) only [show (nI 6).toInt = 6 from by decide, nI_toInt, ti0, ti1, tim1, tim20, tim1000] at c7
            refine V_iload_n (pc := 10) d_X11_isUnder_10 rfl ?_
            refine V_iload_n (pc := 11) d_X11_isUnder_11 rfl ?_
            refine V_icmp_eq (pc := 12) 32 d_X11_isUnder_12 (by decide) (fun c12 => ?_) (fun c12 => ?_)
            · simp (disch := omega) only [nI_eq, nI_e0n, nI_e1n] at c12
              refine V_iload_n (pc := 32) d_X11_isUnder_32 rfl ?_
              refine V_iload_n (pc := 33) d_X11_isUnder_33 rfl ?_
              refine V_icmp_ne (pc := 34) 41 d_X11_isUnder_34 (by decide) (fun c34 => ?_) (fun c34 => ?_)
              · simp (disch := omega) only [nI_eq, nI_e0n, nI_e1n] at c34
                refine V_iconst (pc := 41) (0) d_X11_isUnder_41 (by decide) ?_
                exact V_retZ (pc := 42) d_X11_isUnder_42 rfl (by first | exact Or.inl rfl | exact Or.inr rfl | exact z01) ⟨Nat.le_refl _, Nat.le_refl _⟩ (by first | (rw [if_pos (by omega)] at hq; exact hq) | (rw [if_neg (by omega)] at hq; exact hq))
              · simp (disch := omega) only [nI_eq, nI_e0n, nI_e1n] at c34
                refine V_iconst (pc := 37) (1) d_X11_isUnder_37 (by decide) ?_
                refine V_goto (pc := 38) 42 d_X11_isUnder_38 (by decide) ?_
                exact V_retZ (pc := 42) d_X11_isUnder_42 rfl (by first | exact Or.inl rfl | exact Or.inr rfl | exact z01) ⟨Nat.le_refl _, Nat.le_refl _⟩ (by first | (rw [if_pos (by omega)] at hq; exact hq) | (rw [if_neg (by omega)] at hq; exact hq))
            · simp (disch := omega) only [nI_eq, nI_e0n, nI_e1n] at c12
              refine V_iload_n (pc := 15) d_X11_isUnder_15 rfl ?_
              refine V_iconst (pc := 16) (-1) d_X11_isUnder_16 (by decide) ?_
              refine V_icmp_eq (pc := 17) 32 d_X11_isUnder_17 (by decide) (fun c17 => ?_) (fun c17 => ?_)
              · exact absurd c17 (by decide)
              · refine V_getsK (pc := 20) d_X11_isUnder_20 f_X11_366 ?_
                refine V_iload_n (pc := 23) d_X11_isUnder_23 rfl ?_
                refine V_kald (pc := 24) (0) d_X11_isUnder_24 (by decide) (by omega) ?_
                rw [show kaT.getD 0 0 = (-1) from rfl]
                refine V_istore_n (pc := 25) d_X11_isUnder_25 (by decide) ?_
                refine V_iinc (pc := 26) d_X11_isUnder_26 rfl (by decide) ?_
                refine V_goto (pc := 29) 4 d_X11_isUnder_29 (by decide) ?_
                refine V_iload_n (pc := 4) d_X11_isUnder_4 rfl ?_
                refine V_bipush (pc := 5) (nI 6) d_X11_isUnder_5 (by decide) ?_
                refine B_icmp_ge (pc := 7) 32 d_X11_isUnder_7 (by decide) (fun c7 => ?_) (fun c7 => ?_)
                · exact absurd c7 (by decide)
                · simp (disch := omega) only [show (nI 6).toInt = 6 from by decide, show (nI 2).toInt = 2 from by decide, nI_toInt, ti0, ti1, tim1, tim20, tim1000] at c7
                  refine V_iload_n (pc := 10) d_X11_isUnder_10 rfl ?_
                  refine V_iload_n (pc := 11) d_X11_isUnder_11 rfl ?_
                  refine V_icmp_eq (pc := 12) 32 d_X11_isUnder_12 (by decide) (fun c12 => ?_) (fun c12 => ?_)
                  · exact absurd c12 (nI_m1n (by omega))
                  · refine V_iload_n (pc := 15) d_X11_isUnder_15 rfl ?_
                    refine V_iconst (pc := 16) (-1) d_X11_isUnder_16 (by decide) ?_
                    refine V_icmp_eq (pc := 17) 32 d_X11_isUnder_17 (by decide) (fun c17 => ?_) (fun c17 => ?_)
                    · refine V_iload_n (pc := 32) d_X11_isUnder_32 rfl ?_
                      refine V_iload_n (pc := 33) d_X11_isUnder_33 rfl ?_
                      refine V_icmp_ne (pc := 34) 41 d_X11_isUnder_34 (by decide) (fun c34 => ?_) (fun c34 => ?_)
                      · refine V_iconst (pc := 41) (0) d_X11_isUnder_41 (by decide) ?_
                        exact V_retZ (pc := 42) d_X11_isUnder_42 rfl (by first | exact Or.inl rfl | exact Or.inr rfl | exact z01) ⟨Nat.le_refl _, Nat.le_refl _⟩ (by first | (rw [if_pos (by omega)] at hq; exact hq) | (rw [if_neg (by omega)] at hq; exact hq))
                      · exact absurd c34 (nI_m1n (by omega))
                    · exact absurd (by decide) c17
  · refine V_iload_n (pc := 0) d_X11_isUnder_0 rfl ?_
    refine V_istore_n (pc := 1) d_X11_isUnder_1 (by decide) ?_
    refine V_iconst (pc := 2) (0) d_X11_isUnder_2 (by decide) ?_
    refine V_istore_n (pc := 3) d_X11_isUnder_3 (by decide) ?_
    refine V_iload_n (pc := 4) d_X11_isUnder_4 rfl ?_
    refine V_bipush (pc := 5) (nI 6) d_X11_isUnder_5 (by decide) ?_
    refine B_icmp_ge (pc := 7) 32 d_X11_isUnder_7 (by decide) (fun c7 => ?_) (fun c7 => ?_)
    · exact absurd c7 (by decide)
    · simp (disch := omega) only [show (nI 6).toInt = 6 from by decide, nI_toInt, ti0, ti1, tim1, tim20, tim1000] at c7
      refine V_iload_n (pc := 10) d_X11_isUnder_10 rfl ?_
      refine V_iload_n (pc := 11) d_X11_isUnder_11 rfl ?_
      refine V_icmp_eq (pc := 12) 32 d_X11_isUnder_12 (by decide) (fun c12 => ?_) (fun c12 => ?_)
      · simp (disch := omega) only [nI_eq, nI_e0n, nI_e1n] at c12
        refine V_iload_n (pc := 32) d_X11_isUnder_32 rfl ?_
        refine V_iload_n (pc := 33) d_X11_isUnder_33 rfl ?_
        refine V_icmp_ne (pc := 34) 41 d_X11_isUnder_34 (by decide) (fun c34 => ?_) (fun c34 => ?_)
        · simp (disch := omega) only [nI_eq, nI_e0n, nI_e1n] at c34
          refine V_iconst (pc := 41) (0) d_X11_isUnder_41 (by decide) ?_
          exact V_retZ (pc := 42) d_X11_isUnder_42 rfl (by first | exact Or.inl rfl | exact Or.inr rfl | exact z01) ⟨Nat.le_refl _, Nat.le_refl _⟩ (by first | (rw [if_pos (by omega)] at hq; exact hq) | (rw [if_neg (by omega)] at hq; exact hq))
        · simp (disch := omega) only [nI_eq, nI_e0n, nI_e1n] at c34
          refine V_iconst (pc := 37) (1) d_X11_isUnder_37 (by decide) ?_
          refine V_goto (pc := 38) 42 d_X11_isUnder_38 (by decide) ?_
          exact V_retZ (pc := 42) d_X11_isUnder_42 rfl (by first | exact Or.inl rfl | exact Or.inr rfl | exact z01) ⟨Nat.le_refl _, Nat.le_refl _⟩ (by first | (rw [if_pos (by omega)] at hq; exact hq) | (rw [if_neg (by omega)] at hq; exact hq))
      · simp (disch := omega) only [nI_eq, nI_e0n, nI_e1n] at c12
        refine V_iload_n (pc := 15) d_X11_isUnder_15 rfl ?_
        refine V_iconst (pc := 16) (-1) d_X11_isUnder_16 (by decide) ?_
        refine V_icmp_eq (pc := 17) 32 d_X11_isUnder_17 (by decide) (fun c17 => ?_) (fun c17 => ?_)
        · exact absurd c17 (by decide)
        · refine V_getsK (pc := 20) d_X11_isUnder_20 f_X11_366 ?_
          refine V_iload_n (pc := 23) d_X11_isUnder_23 rfl ?_
          refine V_kald (pc := 24) (2) d_X11_isUnder_24 rfl (by omega) ?_
          rw [show kaT.getD 2 0 = 0 from rfl]
          refine V_istore_n (pc := 25) d_X11_isUnder_25 (by decide) ?_
          refine V_iinc (pc := 26) d_X11_isUnder_26 rfl (by decide) ?_
          refine V_goto (pc := 29) 4 d_X11_isUnder_29 (by decide) ?_
          refine V_iload_n (pc := 4) d_X11_isUnder_4 rfl ?_
          refine V_bipush (pc := 5) (nI 6) d_X11_isUnder_5 (by decide) ?_
          refine B_icmp_ge (pc := 7) 32 d_X11_isUnder_7 (by decide) (fun c7 => ?_) (fun c7 => ?_)
          · exact absurd c7 (by decide)
          · simp (disch := omega) only [show (nI 6).toInt = 6 from by decide, nI_toInt, ti0, ti1, tim1, tim20, tim1000] at c7
            refine V_iload_n (pc := 10) d_X11_isUnder_10 rfl ?_
            refine V_iload_n (pc := 11) d_X11_isUnder_11 rfl ?_
            refine V_icmp_eq (pc := 12) 32 d_X11_isUnder_12 (by decide) (fun c12 => ?_) (fun c12 => ?_)
            · simp (disch := omega) only [nI_eq, nI_e0n, nI_e1n] at c12
              refine V_iload_n (pc := 32) d_X11_isUnder_32 rfl ?_
              refine V_iload_n (pc := 33) d_X11_isUnder_33 rfl ?_
              refine V_icmp_ne (pc := 34) 41 d_X11_isUnder_34 (by decide) (fun c34 => ?_) (fun c34 => ?_)
              · simp (disch := omega) only [nI_eq, nI_e0n, nI_e1n] at c34
                refine V_iconst (pc := 41) (0) d_X11_isUnder_41 (by decide) ?_
                exact V_retZ (pc := 42) d_X11_isUnder_42 rfl (by first | exact Or.inl rfl | exact Or.inr rfl | exact z01) ⟨Nat.le_refl _, Nat.le_refl _⟩ (by first | (rw [if_pos (by omega)] at hq; exact hq) | (rw [if_neg (by omega)] at hq; exact hq))
              · simp (disch := omega) only [nI_eq, nI_e0n, nI_e1n] at c34
                refine V_iconst (pc := 37) (1) d_X11_isUnder_37 (by decide) ?_
                refine V_goto (pc := 38) 42 d_X11_isUnder_38 (by decide) ?_
                exact V_retZ (pc := 42) d_X11_isUnder_42 rfl (by first | exact Or.inl rfl | exact Or.inr rfl | exact z01) ⟨Nat.le_refl _, Nat.le_refl _⟩ (by first | (rw [if_pos (by omega)] at hq; exact hq) | (rw [if_neg (by omega)] at hq; exact hq))
            · simp (disch := omega) only [nI_eq, nI_e0n, nI_e1n] at c12
              refine V_iload_n (pc := 15) d_X11_isUnder_15 rfl ?_
              refine V_iconst (pc := 16) (-1) d_X11_isUnder_16 (by decide) ?_
              refine V_icmp_eq (pc := 17) 32 d_X11_isUnder_17 (by decide) (fun c17 => ?_) (fun c17 => ?_)
              · exact absurd c17 (by decide)
              · refine V_getsK (pc := 20) d_X11_isUnder_20 f_X11_366 ?_
                refine V_iload_n (pc := 23) d_X11_isUnder_23 rfl ?_
                refine V_kald (pc := 24) (0) d_X11_isUnder_24 (by decide) (by omega) ?_
                rw [show kaT.getD 0 0 = (-1) from rfl]
                refine V_istore_n (pc := 25) d_X11_isUnder_25 (by decide) ?_
                refine V_iinc (pc := 26) d_X11_isUnder_26 rfl (by decide) ?_
                refine V_goto (pc := 29) 4 d_X11_isUnder_29 (by decide) ?_
                refine V_iload_n (pc := 4) d_X11_isUnder_4 rfl ?_
                refine V_bipush (pc := 5) (nI 6) d_X11_isUnder_5 (by decide) ?_
                refine B_icmp_ge (pc := 7) 32 d_X11_isUnder_7 (by decide) (fun c7 => ?_) (fun c7 => ?_)
                · exact absurd c7 (by decide)
                · simp (disch := omega) only [show (nI 6).toInt = 6 from by decide, show (nI 2).toInt = 2 from by decide, nI_toInt, ti0, ti1, tim1, tim20, tim1000] at c7
                  refine V_iload_n (pc := 10) d_X11_isUnder_10 rfl ?_
                  refine V_iload_n (pc := 11) d_X11_isUnder_11 rfl ?_
                  refine V_icmp_eq (pc := 12) 32 d_X11_isUnder_12 (by decide) (fun c12 => ?_) (fun c12 => ?_)
                  · exact absurd c12 (nI_m1n (by omega))
                  · refine V_iload_n (pc := 15) d_X11_isUnder_15 rfl ?_
                    refine V_iconst (pc := 16) (-1) d_X11_isUnder_16 (by decide) ?_
                    refine V_icmp_eq (pc := 17) 32 d_X11_isUnder_17 (by decide) (fun c17 => ?_) (fun c17 => ?_)
                    · refine V_iload_n (pc := 32) d_X11_isUnder_32 rfl ?_
                      refine V_iload_n (pc := 33) d_X11_isUnder_33 rfl ?_
                      refine V_icmp_ne (pc := 34) 41 d_X11_isUnder_34 (by decide) (fun c34 => ?_) (fun c34 => ?_)
                      · refine V_iconst (pc := 41) (0) d_X11_isUnder_41 (by decide) ?_
                        exact V_retZ (pc := 42) d_X11_isUnder_42 rfl (by first | exact Or.inl rfl | exact Or.inr rfl | exact z01) ⟨Nat.le_refl _, Nat.le_refl _⟩ (by first | (rw [if_pos (by omega)] at hq; exact hq) | (rw [if_neg (by omega)] at hq; exact hq))
                      · exact absurd c34 (nI_m1n (by omega))
                    · exact absurd (by decide) c17
  · refine V_iload_n (pc := 0) d_X11_isUnder_0 rfl ?_
    refine V_istore_n (pc := 1) d_X11_isUnder_1 (by decide) ?_
    refine V_iconst (pc := 2) (0) d_X11_isUnder_2 (by decide) ?_
    refine V_istore_n (pc := 3) d_X11_isUnder_3 (by decide) ?_
    refine V_iload_n (pc := 4) d_X11_isUnder_4 rfl ?_
    refine V_bipush (pc := 5) (nI 6) d_X11_isUnder_5 (by decide) ?_
    refine B_icmp_ge (pc := 7) 32 d_X11_isUnder_7 (by decide) (fun c7 => ?_) (fun c7 => ?_)
    · exact absurd c7 (by decide)
    · simp (disch := omega) only [show (nI 6).toInt = 6 from by decide, nI_toInt, ti0, ti1, tim1, tim20, tim1000] at c7
      refine V_iload_n (pc := 10) d_X11_isUnder_10 rfl ?_
      refine V_iload_n (pc := 11) d_X11_isUnder_11 rfl ?_
      refine V_icmp_eq (pc := 12) 32 d_X11_isUnder_12 (by decide) (fun c12 => ?_) (fun c12 => ?_)
      · simp (disch := omega) only [nI_eq, nI_e0n, nI_e1n] at c12
        refine V_iload_n (pc := 32) d_X11_isUnder_32 rfl ?_
        refine V_iload_n (pc := 33) d_X11_isUnder_33 rfl ?_
        refine V_icmp_ne (pc := 34) 41 d_X11_isUnder_34 (by decide) (fun c34 => ?_) (fun c34 => ?_)
        · simp (disch := omega) only [nI_eq, nI_e0n, nI_e1n] at c34
          refine V_iconst (pc := 41) (0) d_X11_isUnder_41 (by decide) ?_
          exact V_retZ (pc := 42) d_X11_isUnder_42 rfl (by first | exact Or.inl rfl | exact Or.inr rfl | exact z01) ⟨Nat.le_refl _, Nat.le_refl _⟩ (by first | (rw [if_pos (by omega)] at hq; exact hq) | (rw [if_neg (by omega)] at hq; exact hq))
        · simp (disch := omega) only [nI_eq, nI_e0n, nI_e1n] at c34
          refine V_iconst (pc := 37) (1) d_X11_isUnder_37 (by decide) ?_
          refine V_goto (pc := 38) 42 d_X11_isUnder_38 (by decide) ?_
          exact V_retZ (pc := 42) d_X11_isUnder_42 rfl (by first | exact Or.inl rfl | exact Or.inr rfl | exact z01) ⟨Nat.le_refl _, Nat.le_refl _⟩ (by first | (rw [if_pos (by omega)] at hq; exact hq) | (rw [if_neg (by omega)] at hq; exact hq))
      · simp (disch := omega) only [nI_eq, nI_e0n, nI_e1n] at c12
        refine V_iload_n (pc := 15) d_X11_isUnder_15 rfl ?_
        refine V_iconst (pc := 16) (-1) d_X11_isUnder_16 (by decide) ?_
        refine V_icmp_eq (pc := 17) 32 d_X11_isUnder_17 (by decide) (fun c17 => ?_) (fun c17 => ?_)
        · exact absurd c17 (by decide)
        · refine V_getsK (pc := 20) d_X11_isUnder_20 f_X11_366 ?_
          refine V_iload_n (pc := 23) d_X11_isUnder_23 rfl ?_
          refine V_kald (pc := 24) (3) d_X11_isUnder_24 rfl (by omega) ?_
          rw [show kaT.getD 3 0 = 1 from rfl]
          refine V_istore_n (pc := 25) d_X11_isUnder_25 (by decide) ?_
          refine V_iinc (pc := 26) d_X11_isUnder_26 rfl (by decide) ?_
          refine V_goto (pc := 29) 4 d_X11_isUnder_29 (by decide) ?_
          refine V_iload_n (pc := 4) d_X11_isUnder_4 rfl ?_
          refine V_bipush (pc := 5) (nI 6) d_X11_isUnder_5 (by decide) ?_
          refine B_icmp_ge (pc := 7) 32 d_X11_isUnder_7 (by decide) (fun c7 => ?_) (fun c7 => ?_)
          · exact absurd c7 (by decide)
          · simp (disch := omega) only [show (nI 6).toInt = 6 from by decide, nI_toInt, ti0, ti1, tim1, tim20, tim1000] at c7
            refine V_iload_n (pc := 10) d_X11_isUnder_10 rfl ?_
            refine V_iload_n (pc := 11) d_X11_isUnder_11 rfl ?_
            refine V_icmp_eq (pc := 12) 32 d_X11_isUnder_12 (by decide) (fun c12 => ?_) (fun c12 => ?_)
            · simp (disch := omega) only [nI_eq, nI_e0n, nI_e1n] at c12
              refine V_iload_n (pc := 32) d_X11_isUnder_32 rfl ?_
              refine V_iload_n (pc := 33) d_X11_isUnder_33 rfl ?_
              refine V_icmp_ne (pc := 34) 41 d_X11_isUnder_34 (by decide) (fun c34 => ?_) (fun c34 => ?_)
              · simp (disch := omega) only [nI_eq, nI_e0n, nI_e1n] at c34
                refine V_iconst (pc := 41) (0) d_X11_isUnder_41 (by decide) ?_
                exact V_retZ (pc := 42) d_X11_isUnder_42 rfl (by first | exact Or.inl rfl | exact Or.inr rfl | exact z01) ⟨Nat.le_refl _, Nat.le_refl _⟩ (by first | (rw [if_pos (by omega)] at hq; exact hq) | (rw [if_neg (by omega)] at hq; exact hq))
              · simp (disch := omega) only [nI_eq, nI_e0n, nI_e1n] at c34
                refine V_iconst (pc := 37) (1) d_X11_isUnder_37 (by decide) ?_
                refine V_goto (pc := 38) 42 d_X11_isUnder_38 (by decide) ?_
                exact V_retZ (pc := 42) d_X11_isUnder_42 rfl (by first | exact Or.inl rfl | exact Or.inr rfl | exact z01) ⟨Nat.le_refl _, Nat.le_refl _⟩ (by first | (rw [if_pos (by omega)] at hq; exact hq) | (rw [if_neg (by omega)] at hq; exact hq))
            · simp (disch := omega) only [nI_eq, nI_e0n, nI_e1n] at c12
              refine V_iload_n (pc := 15) d_X11_isUnder_15 rfl ?_
              refine V_iconst (pc := 16) (-1) d_X11_isUnder_16 (by decide) ?_
              refine V_icmp_eq (pc := 17) 32 d_X11_isUnder_17 (by decide) (fun c17 => ?_) (fun c17 => ?_)
              · exact absurd c17 (by decide)
              · refine V_getsK (pc := 20) d_X11_isUnder_20 f_X11_366 ?_
                refine V_iload_n (pc := 23) d_X11_isUnder_23 rfl ?_
                refine V_kald (pc := 24) (1) d_X11_isUnder_24 (by decide) (by omega) ?_
                rw [show kaT.getD 1 0 = 0 from rfl]
                refine V_istore_n (pc := 25) d_X11_isUnder_25 (by decide) ?_
                refine V_iinc (pc := 26) d_X11_isUnder_26 rfl (by decide) ?_
                refine V_goto (pc := 29) 4 d_X11_isUnder_29 (by decide) ?_
                refine V_iload_n (pc := 4) d_X11_isUnder_4 rfl ?_
                refine V_bipush (pc := 5) (nI 6) d_X11_isUnder_5 (by decide) ?_
                refine B_icmp_ge (pc := 7) 32 d_X11_isUnder_7 (by decide) (fun c7 => ?_) (fun c7 => ?_)
                · exact absurd c7 (by decide)
                · simp (disch := omega) only [show (nI 6).toInt = 6 from by decide, show (nI 2).toInt = 2 from by decide, nI_toInt, ti0, ti1, tim1, tim20, tim1000] at c7
                  refine V_iload_n (pc := 10) d_X11_isUnder_10 rfl ?_
                  refine V_iload_n (pc := 11) d_X11_isUnder_11 rfl ?_
                  refine V_icmp_eq (pc := 12) 32 d_X11_isUnder_12 (by decide) (fun c12 => ?_) (fun c12 => ?_)
                  · simp (disch := omega) only [nI_eq, nI_e0n, nI_e1n] at c12
                    refine V_iload_n (pc := 32) d_X11_isUnder_32 rfl ?_
                    refine V_iload_n (pc := 33) d_X11_isUnder_33 rfl ?_
                    refine V_icmp_ne (pc := 34) 41 d_X11_isUnder_34 (by decide) (fun c34 => ?_) (fun c34 => ?_)
                    · simp (disch := omega) only [nI_eq, nI_e0n, nI_e1n] at c34
                      refine V_iconst (pc := 41) (0) d_X11_isUnder_41 (by decide) ?_
                      exact V_retZ (pc := 42) d_X11_isUnder_42 rfl (by first | exact Or.inl rfl | exact Or.inr rfl | exact z01) ⟨Nat.le_refl _, Nat.le_refl _⟩ (by first | (rw [if_pos (by omega)] at hq; exact hq) | (rw [if_neg (by omega)] at hq; exact hq))
                    · simp (disch := omega) only [nI_eq, nI_e0n, nI_e1n] at c34
                      refine V_iconst (pc := 37) (1) d_X11_isUnder_37 (by decide) ?_
                      refine V_goto (pc := 38) 42 d_X11_isUnder_38 (by decide) ?_
                      exact V_retZ (pc := 42) d_X11_isUnder_42 rfl (by first | exact Or.inl rfl | exact Or.inr rfl | exact z01) ⟨Nat.le_refl _, Nat.le_refl _⟩ (by first | (rw [if_pos (by omega)] at hq; exact hq) | (rw [if_neg (by omega)] at hq; exact hq))
                  · simp (disch := omega) only [nI_eq, nI_e0n, nI_e1n] at c12
                    refine V_iload_n (pc := 15) d_X11_isUnder_15 rfl ?_
                    refine V_iconst (pc := 16) (-1) d_X11_isUnder_16 (by decide) ?_
                    refine V_icmp_eq (pc := 17) 32 d_X11_isUnder_17 (by decide) (fun c17 => ?_) (fun c17 => ?_)
                    · exact absurd c17 (by decide)
                    · refine V_getsK (pc := 20) d_X11_isUnder_20 f_X11_366 ?_
                      refine V_iload_n (pc := 23) d_X11_isUnder_23 rfl ?_
                      refine V_kald (pc := 24) (0) d_X11_isUnder_24 (by decide) (by omega) ?_
                      rw [show kaT.getD 0 0 = (-1) from rfl]
                      refine V_istore_n (pc := 25) d_X11_isUnder_25 (by decide) ?_
                      refine V_iinc (pc := 26) d_X11_isUnder_26 rfl (by decide) ?_
                      refine V_goto (pc := 29) 4 d_X11_isUnder_29 (by decide) ?_
                      refine V_iload_n (pc := 4) d_X11_isUnder_4 rfl ?_
                      refine V_bipush (pc := 5) (nI 6) d_X11_isUnder_5 (by decide) ?_
                      refine B_icmp_ge (pc := 7) 32 d_X11_isUnder_7 (by decide) (fun c7 => ?_) (fun c7 => ?_)
                      · exact absurd c7 (by decide)
                      · simp (disch := omega) only [show (nI 6).toInt = 6 from by decide, show (nI 3).toInt = 3 from by decide, nI_toInt, ti0, ti1, tim1, tim20, tim1000] at c7
                        refine V_iload_n (pc := 10) d_X11_isUnder_10 rfl ?_
                        refine V_iload_n (pc := 11) d_X11_isUnder_11 rfl ?_
                        refine V_icmp_eq (pc := 12) 32 d_X11_isUnder_12 (by decide) (fun c12 => ?_) (fun c12 => ?_)
                        · exact absurd c12 (nI_m1n (by omega))
                        · refine V_iload_n (pc := 15) d_X11_isUnder_15 rfl ?_
                          refine V_iconst (pc := 16) (-1) d_X11_isUnder_16 (by decide) ?_
                          refine V_icmp_eq (pc := 17) 32 d_X11_isUnder_17 (by decide) (fun c17 => ?_) (fun c17 => ?_)
                          · refine V_iload_n (pc := 32) d_X11_isUnder_32 rfl ?_
                            refine V_iload_n (pc := 33) d_X11_isUnder_33 rfl ?_
                            refine V_icmp_ne (pc := 34) 41 d_X11_isUnder_34 (by decide) (fun c34 => ?_) (fun c34 => ?_)
                            · refine V_iconst (pc := 41) (0) d_X11_isUnder_41 (by decide) ?_
                              exact V_retZ (pc := 42) d_X11_isUnder_42 rfl (by first | exact Or.inl rfl | exact Or.inr rfl | exact z01) ⟨Nat.le_refl _, Nat.le_refl _⟩ (by first | (rw [if_pos (by omega)] at hq; exact hq) | (rw [if_neg (by omega)] at hq; exact hq))
                            · exact absurd c34 (nI_m1n (by omega))
                          · exact absurd (by decide) c17
  · refine V_iload_n (pc := 0) d_X11_isUnder_0 rfl ?_
    refine V_istore_n (pc := 1) d_X11_isUnder_1 (by decide) ?_
    refine V_iconst (pc := 2) (0) d_X11_isUnder_2 (by decide) ?_
    refine V_istore_n (pc := 3) d_X11_isUnder_3 (by decide) ?_
    refine V_iload_n (pc := 4) d_X11_isUnder_4 rfl ?_
    refine V_bipush (pc := 5) (nI 6) d_X11_isUnder_5 (by decide) ?_
    refine B_icmp_ge (pc := 7) 32 d_X11_isUnder_7 (by decide) (fun c7 => ?_) (fun c7 => ?_)
    · exact absurd c7 (by decide)
    · simp (disch := omega) only [show (nI 6).toInt = 6 from by decide, nI_toInt, ti0, ti1, tim1, tim20, tim1000] at c7
      refine V_iload_n (pc := 10) d_X11_isUnder_10 rfl ?_
      refine V_iload_n (pc := 11) d_X11_isUnder_11 rfl ?_
      refine V_icmp_eq (pc := 12) 32 d_X11_isUnder_12 (by decide) (fun c12 => ?_) (fun c12 => ?_)
      · simp (disch := omega) only [nI_eq, nI_e0n, nI_e1n] at c12
        refine V_iload_n (pc := 32) d_X11_isUnder_32 rfl ?_
        refine V_iload_n (pc := 33) d_X11_isUnder_33 rfl ?_
        refine V_icmp_ne (pc := 34) 41 d_X11_isUnder_34 (by decide) (fun c34 => ?_) (fun c34 => ?_)
        · simp (disch := omega) only [nI_eq, nI_e0n, nI_e1n] at c34
          refine V_iconst (pc := 41) (0) d_X11_isUnder_41 (by decide) ?_
          exact V_retZ (pc := 42) d_X11_isUnder_42 rfl (by first | exact Or.inl rfl | exact Or.inr rfl | exact z01) ⟨Nat.le_refl _, Nat.le_refl _⟩ (by first | (rw [if_pos (by omega)] at hq; exact hq) | (rw [if_neg (by omega)] at hq; exact hq))
        · simp (disch := omega) only [nI_eq, nI_e0n, nI_e1n] at c34
          refine V_iconst (pc := 37) (1) d_X11_isUnder_37 (by decide) ?_
          refine V_goto (pc := 38) 42 d_X11_isUnder_38 (by decide) ?_
          exact V_retZ (pc := 42) d_X11_isUnder_42 rfl (by first | exact Or.inl rfl | exact Or.inr rfl | exact z01) ⟨Nat.le_refl _, Nat.le_refl _⟩ (by first | (rw [if_pos (by omega)] at hq; exact hq) | (rw [if_neg (by omega)] at hq; exact hq))
      · simp (disch := omega) only [nI_eq, nI_e0n, nI_e1n] at c12
        refine V_iload_n (pc := 15) d_X11_isUnder_15 rfl ?_
        refine V_iconst (pc := 16) (-1) d_X11_isUnder_16 (by decide) ?_
        refine V_icmp_eq (pc := 17) 32 d_X11_isUnder_17 (by decide) (fun c17 => ?_) (fun c17 => ?_)
        · exact absurd c17 (by decide)
        · refine V_getsK (pc := 20) d_X11_isUnder_20 f_X11_366 ?_
          refine V_iload_n (pc := 23) d_X11_isUnder_23 rfl ?_
          refine V_kald (pc := 24) (4) d_X11_isUnder_24 rfl (by omega) ?_
          rw [show kaT.getD 4 0 = 0 from rfl]
          refine V_istore_n (pc := 25) d_X11_isUnder_25 (by decide) ?_
          refine V_iinc (pc := 26) d_X11_isUnder_26 rfl (by decide) ?_
          refine V_goto (pc := 29) 4 d_X11_isUnder_29 (by decide) ?_
          refine V_iload_n (pc := 4) d_X11_isUnder_4 rfl ?_
          refine V_bipush (pc := 5) (nI 6) d_X11_isUnder_5 (by decide) ?_
          refine B_icmp_ge (pc := 7) 32 d_X11_isUnder_7 (by decide) (fun c7 => ?_) (fun c7 => ?_)
          · exact absurd c7 (by decide)
          · simp (disch := omega) only [show (nI 6).toInt = 6 from by decide, nI_toInt, ti0, ti1, tim1, tim20, tim1000] at c7
            refine V_iload_n (pc := 10) d_X11_isUnder_10 rfl ?_
            refine V_iload_n (pc := 11) d_X11_isUnder_11 rfl ?_
            refine V_icmp_eq (pc := 12) 32 d_X11_isUnder_12 (by decide) (fun c12 => ?_) (fun c12 => ?_)
            · simp (disch := omega) only [nI_eq, nI_e0n, nI_e1n] at c12
              refine V_iload_n (pc := 32) d_X11_isUnder_32 rfl ?_
              refine V_iload_n (pc := 33) d_X11_isUnder_33 rfl ?_
              refine V_icmp_ne (pc := 34) 41 d_X11_isUnder_34 (by decide) (fun c34 => ?_) (fun c34 => ?_)
              · simp (disch := omega) only [nI_eq, nI_e0n, nI_e1n] at c34
                refine V_iconst (pc := 41) (0) d_X11_isUnder_41 (by decide) ?_
                exact V_retZ (pc := 42) d_X11_isUnder_42 rfl (by first | exact Or.inl rfl | exact Or.inr rfl | exact z01) ⟨Nat.le_refl _, Nat.le_refl _⟩ (by first | (rw [if_pos (by omega)] at hq; exact hq) | (rw [if_neg (by omega)] at hq; exact hq))
              · simp (disch := omega) only [nI_eq, nI_e0n, nI_e1n] at c34
                refine V_iconst (pc := 37) (1) d_X11_isUnder_37 (by decide) ?_
                refine V_goto (pc := 38) 42 d_X11_isUnder_38 (by decide) ?_
                exact V_retZ (pc := 42) d_X11_isUnder_42 rfl (by first | exact Or.inl rfl | exact Or.inr rfl | exact z01) ⟨Nat.le_refl _, Nat.le_refl _⟩ (by first | (rw [if_pos (by omega)] at hq; exact hq) | (rw [if_neg (by omega)] at hq; exact hq))
            · simp (disch := omega) only [nI_eq, nI_e0n, nI_e1n] at c12
              refine V_iload_n (pc := 15) d_X11_isUnder_15 rfl ?_
              refine V_iconst (pc := 16) (-1) d_X11_isUnder_16 (by decide) ?_
              refine V_icmp_eq (pc := 17) 32 d_X11_isUnder_17 (by decide) (fun c17 => ?_) (fun c17 => ?_)
              · exact absurd c17 (by decide)
              · refine V_getsK (pc := 20) d_X11_isUnder_20 f_X11_366 ?_
                refine V_iload_n (pc := 23) d_X11_isUnder_23 rfl ?_
                refine V_kald (pc := 24) (0) d_X11_isUnder_24 (by decide) (by omega) ?_
                rw [show kaT.getD 0 0 = (-1) from rfl]
                refine V_istore_n (pc := 25) d_X11_isUnder_25 (by decide) ?_
                refine V_iinc (pc := 26) d_X11_isUnder_26 rfl (by decide) ?_
                refine V_goto (pc := 29) 4 d_X11_isUnder_29 (by decide) ?_
                refine V_iload_n (pc := 4) d_X11_isUnder_4 rfl ?_
                refine V_bipush (pc := 5) (nI 6) d_X11_isUnder_5 (by decide) ?_
                refine B_icmp_ge (pc := 7) 32 d_X11_isUnder_7 (by decide) (fun c7 => ?_) (fun c7 => ?_)
                · exact absurd c7 (by decide)
                · simp (disch := omega) only [show (nI 6).toInt = 6 from by decide, show (nI 2).toInt = 2 from by decide, nI_toInt, ti0, ti1, tim1, tim20, tim1000] at c7
                  refine V_iload_n (pc := 10) d_X11_isUnder_10 rfl ?_
                  refine V_iload_n (pc := 11) d_X11_isUnder_11 rfl ?_
                  refine V_icmp_eq (pc := 12) 32 d_X11_isUnder_12 (by decide) (fun c12 => ?_) (fun c12 => ?_)
                  · exact absurd c12 (nI_m1n (by omega))
                  · refine V_iload_n (pc := 15) d_X11_isUnder_15 rfl ?_
                    refine V_iconst (pc := 16) (-1) d_X11_isUnder_16 (by decide) ?_
                    refine V_icmp_eq (pc := 17) 32 d_X11_isUnder_17 (by decide) (fun c17 => ?_) (fun c17 => ?_)
                    · refine V_iload_n (pc := 32) d_X11_isUnder_32 rfl ?_
                      refine V_iload_n (pc := 33) d_X11_isUnder_33 rfl ?_
                      refine V_icmp_ne (pc := 34) 41 d_X11_isUnder_34 (by decide) (fun c34 => ?_) (fun c34 => ?_)
                      · refine V_iconst (pc := 41) (0) d_X11_isUnder_41 (by decide) ?_
                        exact V_retZ (pc := 42) d_X11_isUnder_42 rfl (by first | exact Or.inl rfl | exact Or.inr rfl | exact z01) ⟨Nat.le_refl _, Nat.le_refl _⟩ (by first | (rw [if_pos (by omega)] at hq; exact hq) | (rw [if_neg (by omega)] at hq; exact hq))
                      · exact absurd c34 (nI_m1n (by omega))
                    · exact absurd (by decide) c17
  · refine V_iload_n (pc := 0) d_X11_isUnder_0 rfl ?_
    refine V_istore_n (pc := 1) d_X11_isUnder_1 (by decide) ?_
    refine V_iconst (pc := 2) (0) d_X11_isUnder_2 (by decide) ?_
    refine V_istore_n (pc := 3) d_X11_isUnder_3 (by decide) ?_
    refine V_iload_n (pc := 4) d_X11_isUnder_4 rfl ?_
    refine V_bipush (pc := 5) (nI 6) d_X11_isUnder_5 (by decide) ?_
    refine B_icmp_ge (pc := 7) 32 d_X11_isUnder_7 (by decide) (fun c7 => ?_) (fun c7 => ?_)
    · exact absurd c7 (by decide)
    · simp (disch := omega) only [show (nI 6).toInt = 6 from by decide, nI_toInt, ti0, ti1, tim1, tim20, tim1000] at c7
      refine V_iload_n (pc := 10) d_X11_isUnder_10 rfl ?_
      refine V_iload_n (pc := 11) d_X11_isUnder_11 rfl ?_
      refine V_icmp_eq (pc := 12) 32 d_X11_isUnder_12 (by decide) (fun c12 => ?_) (fun c12 => ?_)
      · simp (disch := omega) only [nI_eq, nI_e0n, nI_e1n] at c12
        refine V_iload_n (pc := 32) d_X11_isUnder_32 rfl ?_
        refine V_iload_n (pc := 33) d_X11_isUnder_33 rfl ?_
        refine V_icmp_ne (pc := 34) 41 d_X11_isUnder_34 (by decide) (fun c34 => ?_) (fun c34 => ?_)
        · simp (disch := omega) only [nI_eq, nI_e0n, nI_e1n] at c34
          refine V_iconst (pc := 41) (0) d_X11_isUnder_41 (by decide) ?_
          exact V_retZ (pc := 42) d_X11_isUnder_42 rfl (by first | exact Or.inl rfl | exact Or.inr rfl | exact z01) ⟨Nat.le_refl _, Nat.le_refl _⟩ (by first | (rw [if_pos (by omega)] at hq; exact hq) | (rw [if_neg (by omega)] at hq; exact hq))
        · simp (disch := omega) only [nI_eq, nI_e0n, nI_e1n] at c34
          refine V_iconst (pc := 37) (1) d_X11_isUnder_37 (by decide) ?_
          refine V_goto (pc := 38) 42 d_X11_isUnder_38 (by decide) ?_
          exact V_retZ (pc := 42) d_X11_isUnder_42 rfl (by first | exact Or.inl rfl | exact Or.inr rfl | exact z01) ⟨Nat.le_refl _, Nat.le_refl _⟩ (by first | (rw [if_pos (by omega)] at hq; exact hq) | (rw [if_neg (by omega)] at hq; exact hq))
      · simp (disch := omega) only [nI_eq, nI_e0n, nI_e1n] at c12
        refine V_iload_n (pc := 15) d_X11_isUnder_15 rfl ?_
        refine V_iconst (pc := 16) (-1) d_X11_isUnder_16 (by decide) ?_
        refine V_icmp_eq (pc := 17) 32 d_X11_isUnder_17 (by decide) (fun c17 => ?_) (fun c17 => ?_)
        · exact absurd c17 (by decide)
        · refine V_getsK (pc := 20) d_X11_isUnder_20 f_X11_366 ?_
          refine V_iload_n (pc := 23) d_X11_isUnder_23 rfl ?_
          refine V_kald (pc := 24) (5) d_X11_isUnder_24 rfl (by omega) ?_
          rw [show kaT.getD 5 0 = 0 from rfl]
          refine V_istore_n (pc := 25) d_X11_isUnder_25 (by decide) ?_
          refine V_iinc (pc := 26) d_X11_isUnder_26 rfl (by decide) ?_
          refine V_goto (pc := 29) 4 d_X11_isUnder_29 (by decide) ?_
          refine V_iload_n (pc := 4) d_X11_isUnder_4 rfl ?_
          refine V_bipush (pc := 5) (nI 6) d_X11_isUnder_5 (by decide) ?_
          refine B_icmp_ge (pc := 7) 32 d_X11_isUnder_7 (by decide) (fun c7 => ?_) (fun c7 => ?_)
          · exact absurd c7 (by decide)
          · simp (disch := omega) only [show (nI 6).toInt = 6 from by decide, nI_toInt, ti0, ti1, tim1, tim20, tim1000] at c7
            refine V_iload_n (pc := 10) d_X11_isUnder_10 rfl ?_
            refine V_iload_n (pc := 11) d_X11_isUnder_11 rfl ?_
            refine V_icmp_eq (pc := 12) 32 d_X11_isUnder_12 (by decide) (fun c12 => ?_) (fun c12 => ?_)
            · simp (disch := omega) only [nI_eq, nI_e0n, nI_e1n] at c12
              refine V_iload_n (pc := 32) d_X11_isUnder_32 rfl ?_
              refine V_iload_n (pc := 33) d_X11_isUnder_33 rfl ?_
              refine V_icmp_ne (pc := 34) 41 d_X11_isUnder_34 (by decide) (fun c34 => ?_) (fun c34 => ?_)
              · simp (disch := omega) only [nI_eq, nI_e0n, nI_e1n] at c34
                refine V_iconst (pc := 41) (0) d_X11_isUnder_41 (by decide) ?_
                exact V_retZ (pc := 42) d_X11_isUnder_42 rfl (by first | exact Or.inl rfl | exact Or.inr rfl | exact z01) ⟨Nat.le_refl _, Nat.le_refl _⟩ (by first | (rw [if_pos (by omega)] at hq; exact hq) | (rw [if_neg (by omega)] at hq; exact hq))
              · simp (disch := omega) only [nI_eq, nI_e0n, nI_e1n] at c34
                refine V_iconst (pc := 37) (1) d_X11_isUnder_37 (by decide) ?_
                refine V_goto (pc := 38) 42 d_X11_isUnder_38 (by decide) ?_
                exact V_retZ (pc := 42) d_X11_isUnder_42 rfl (by first | exact Or.inl rfl | exact Or.inr rfl | exact z01) ⟨Nat.le_refl _, Nat.le_refl _⟩ (by first | (rw [if_pos (by omega)] at hq; exact hq) | (rw [if_neg (by omega)] at hq; exact hq))
            · simp (disch := omega) only [nI_eq, nI_e0n, nI_e1n] at c12
              refine V_iload_n (pc := 15) d_X11_isUnder_15 rfl ?_
              refine V_iconst (pc := 16) (-1) d_X11_isUnder_16 (by decide) ?_
              refine V_icmp_eq (pc := 17) 32 d_X11_isUnder_17 (by decide) (fun c17 => ?_) (fun c17 => ?_)
              · exact absurd c17 (by decide)
              · refine V_getsK (pc := 20) d_X11_isUnder_20 f_X11_366 ?_
                refine V_iload_n (pc := 23) d_X11_isUnder_23 rfl ?_
                refine V_kald (pc := 24) (0) d_X11_isUnder_24 (by decide) (by omega) ?_
                rw [show kaT.getD 0 0 = (-1) from rfl]
                refine V_istore_n (pc := 25) d_X11_isUnder_25 (by decide) ?_
                refine V_iinc (pc := 26) d_X11_isUnder_26 rfl (by decide) ?_
                refine V_goto (pc := 29) 4 d_X11_isUnder_29 (by decide) ?_
                refine V_iload_n (pc := 4) d_X11_isUnder_4 rfl ?_
                refine V_bipush (pc := 5) (nI 6) d_X11_isUnder_5 (by decide) ?_
                refine B_icmp_ge (pc := 7) 32 d_X11_isUnder_7 (by decide) (fun c7 => ?_) (fun c7 => ?_)
                · exact absurd c7 (by decide)
                · simp (disch := omega) only [show (nI 6).toInt = 6 from by decide, show (nI 2).toInt = 2 from by decide, nI_toInt, ti0, ti1, tim1, tim20, tim1000] at c7
                  refine V_iload_n (pc := 10) d_X11_isUnder_10 rfl ?_
                  refine V_iload_n (pc := 11) d_X11_isUnder_11 rfl ?_
                  refine V_icmp_eq (pc := 12) 32 d_X11_isUnder_12 (by decide) (fun c12 => ?_) (fun c12 => ?_)
                  · exact absurd c12 (nI_m1n (by omega))
                  · refine V_iload_n (pc := 15) d_X11_isUnder_15 rfl ?_
                    refine V_iconst (pc := 16) (-1) d_X11_isUnder_16 (by decide) ?_
                    refine V_icmp_eq (pc := 17) 32 d_X11_isUnder_17 (by decide) (fun c17 => ?_) (fun c17 => ?_)
                    · refine V_iload_n (pc := 32) d_X11_isUnder_32 rfl ?_
                      refine V_iload_n (pc := 33) d_X11_isUnder_33 rfl ?_
                      refine V_icmp_ne (pc := 34) 41 d_X11_isUnder_34 (by decide) (fun c34 => ?_) (fun c34 => ?_)
                      · refine V_iconst (pc := 41) (0) d_X11_isUnder_41 (by decide) ?_
                        exact V_retZ (pc := 42) d_X11_isUnder_42 rfl (by first | exact Or.inl rfl | exact Or.inr rfl | exact z01) ⟨Nat.le_refl _, Nat.le_refl _⟩ (by first | (rw [if_pos (by omega)] at hq; exact hq) | (rw [if_neg (by omega)] at hq; exact hq))
                      · exact absurd c34 (nI_m1n (by omega))
                    · exact absurd (by decide) c17
theorem ct_X11_shift {x y z : Int32} {q ns nb nl nt nr : Nat} (hR : RR σ 4 σ q ns nb nl nt nr) (h1 : ¬ ((0 ≤ x.toInt ∧ x.toInt ≤ (ns : Int) - 1) ∧ (0 ≤ y.toInt ∧ y.toInt ≤ 99) ∧ -20 ≤ z.toInt ∧ z.toInt ≤ 20) → K (-1) (up2 σ 3 3 1, sh b)) (h3 : ∀ k d, k < ns → d < 100 → x = nI k → y = nI d → -20 ≤ z.toInt → z.toInt ≤ 20 → ¬ (σ 140 k = 1 ∨ σ 140 k = nI 3) → K (-1) (up2 σ 3 3 (nI 3), sh b)) (h2 : ∀ k d, k < ns → d < 100 → x = nI k → y = nI d → -20 ≤ z.toInt → z.toInt ≤ 20 → (σ 140 k = 1 ∨ σ 140 k = nI 3) → K 1 (up2 (up2 σ (14 + 2 * k) d z) 3 3 0, sh b)) : CM G mX11_shift (rl 3) [.ref 3, .int x, .int y, .int z] (σ, sh b) (QI K) := by
  obtain ⟨⟨⟨hq2, hn10, hnb, hnl, hnt, hnr⟩, ⟨vq, vns, vnb, vnl, vnt, vnr⟩, ⟨rq, rns, rnb, rnl, rnt, rnr⟩, hpd⟩, hH, hC, hS, hLD, hB, hA, hT, hU⟩ := hR
  refine CM.of (by decide) (Nat.le_of_ble_eq_true rfl) (cats1 rfl) ?_
  refine V_aload_n (pc := 0) d_X11_shift_0 rfl ?_
  refine P_getR (pc := 1) d_X11_shift_1 f_X11_10 (tt_3 b) (rr_3_0 b) ?_
  refine V_iload_n (pc := 4) d_X11_shift_4 rfl ?_
  refine V_cvI (pc := 5) (n := 2) (c := 4) [_] d_X11_shift_5 c_X11_86 k_X4_isStretch ⟨rfl, rfl⟩ (tt_4 b) rfl (Nat.le_of_ble_eq_true rfl) ⟨Nat.le_of_ble_eq_true rfl, Nat.le_of_ble_eq_true rfl⟩ ⟨Nat.le_refl _, Nat.le_refl _⟩ (ct_X4_isStretch rns (by omega) ?_)
  refine V_if_eq (pc := 8) 29 d_X11_shift_8 (by decide) (fun c8 => ?_) (fun c8 => ?_)
  · replace c8 := zf c8
    refine V_aload_n (pc := 29) d_X11_shift_29 rfl ?_
    refine V_iconst (pc := 30) (1) d_X11_shift_30 (by decide) ?_
    refine V_cvI (pc := 31) (n := 1) (c := 11) [_] d_X11_shift_31 c_X11_55 k_X11_refused ⟨rfl, rfl⟩ (tt_3 b) rfl (Nat.le_of_ble_eq_true rfl) ⟨Nat.le_of_ble_eq_true rfl, Nat.le_of_ble_eq_true rfl⟩ ⟨Nat.le_refl _, Nat.le_refl _⟩ (ct_X11_refused ?_)
    exact V_retI (pc := 34) d_X11_shift_34 rfl ⟨Nat.le_refl _, Nat.le_refl _⟩ (h1 (fun z => by omega))
  · replace c8 := zt c8
    refine V_iload_n (pc := 11) d_X11_shift_11 rfl ?_
    refine V_csI (pc := 12) (n := 2) [_] d_X11_shift_12 c_X11_75 k_X11_isDay rfl (Nat.le_of_ble_eq_true rfl) ⟨Nat.le_of_ble_eq_true rfl, Nat.le_of_ble_eq_true rfl⟩ ⟨Nat.le_refl _, Nat.le_refl _⟩ (ct_X11_isDay ?_)
    refine V_if_eq (pc := 15) 29 d_X11_shift_15 (by decide) (fun c15 => ?_) (fun c15 => ?_)
    · replace c15 := zf c15
      refine V_aload_n (pc := 29) d_X11_shift_29 rfl ?_
      refine V_iconst (pc := 30) (1) d_X11_shift_30 (by decide) ?_
      refine V_cvI (pc := 31) (n := 1) (c := 11) [_] d_X11_shift_31 c_X11_55 k_X11_refused ⟨rfl, rfl⟩ (tt_3 b) rfl (Nat.le_of_ble_eq_true rfl) ⟨Nat.le_of_ble_eq_true rfl, Nat.le_of_ble_eq_true rfl⟩ ⟨Nat.le_refl _, Nat.le_refl _⟩ (ct_X11_refused ?_)
      exact V_retI (pc := 34) d_X11_shift_34 rfl ⟨Nat.le_refl _, Nat.le_refl _⟩ (h1 (fun z => by omega))
    · replace c15 := zt c15
      refine V_iload_n (pc := 18) d_X11_shift_18 rfl ?_
      refine V_bipush (pc := 19) (-20) d_X11_shift_19 (by decide) ?_
      refine V_bipush (pc := 21) (nI 20) d_X11_shift_21 (by decide) ?_
      refine V_csI (pc := 23) (n := 1) [_, _, _] d_X11_shift_23 c_X11_51 k_X11_isWithin rfl (Nat.le_of_ble_eq_true rfl) ⟨Nat.le_of_ble_eq_true rfl, Nat.le_of_ble_eq_true rfl⟩ ⟨Nat.le_refl _, Nat.le_refl _⟩ (ct_X11_isWithin (lo := -20) (hi := 20) (by decide) (by decide) ?_)
      refine V_if_ne (pc := 26) 35 d_X11_shift_26 (by decide) (fun c26 => ?_) (fun c26 => ?_)
      · replace c26 := zt c26
        obtain ⟨k, hk, rfl, -⟩ := nat_of (n := ns) c8.1 (by omega) (by omega)
        obtain ⟨d, hd, rfl, -⟩ := nat_of (n := 100) c15.1 (by omega) (by omega)
        refine V_aload_n (pc := 35) d_X11_shift_35 rfl ?_
        refine P_getR (pc := 36) d_X11_shift_36 f_X11_10 (tt_3 b) (rr_3_0 b) ?_
        refine P_getR (pc := 39) d_X11_shift_39 f_X11_62 (tt_4 b) (rr_4_10 b) ?_
        refine V_iload_n (pc := 42) d_X11_shift_42 rfl ?_
        refine P_aald (pc := 43) (c := 7) (k) d_X11_shift_43 (tt_7 b) (by decide) rfl (ln_of (ll_7 b) ⟨by omega, by decide⟩) (rS b (by omega)) ?_
        refine V_astore (pc := 44) d_X11_shift_44 (by decide) ?_
        refine V_aload (pc := 46) d_X11_shift_46 rfl ?_
        refine P_getI (pc := 48) d_X11_shift_48 f_X11_89 (tS b (by omega)) ?_
        rw [(cS_f hS (by omega : k < ns)).2.1]
        obtain ⟨u, hu6, hu⟩ : rg (σ 140 k) 6 := (hS k hk).2.1
        rw [hu]
        refine V_iconst (pc := 51) (1) d_X11_shift_51 (by decide) ?_
        refine V_csI (pc := 52) (n := 1) [_, _] d_X11_shift_52 c_X11_92 k_X11_isUnder rfl (Nat.le_of_ble_eq_true rfl) ⟨Nat.le_of_ble_eq_true rfl, Nat.le_of_ble_eq_true rfl⟩ ⟨Nat.le_refl _, Nat.le_refl _⟩ (ct_X11_isUnder (u := 1) hu6 (by omega) ?_)
        refine V_if_ne (pc := 55) 64 d_X11_shift_55 (by decide) (fun c55 => ?_) (fun c55 => ?_)
        · replace c55 := zt c55
          have hb : (σ 140 k = 1 ∨ σ 140 k = nI 3) := by
            rw [hu, nI_eq1 (by omega), nI_eq (by omega) (by omega)]; omega
          refine V_aload (pc := 64) d_X11_shift_64 rfl ?_
          refine P_getR (pc := 66) d_X11_shift_66 f_X11_96 (tS b (by omega)) (rS5 b (by omega)) ?_
          refine V_iload_n (pc := 69) d_X11_shift_69 rfl ?_
          refine V_iload_n (pc := 70) d_X11_shift_70 rfl ?_
          refine P_iast (pc := 71) (d) d_X11_shift_71 (tS5 b (by omega)) rfl (ln_of (lS5 b (by omega)) ⟨by omega, by decide⟩) ?_
          refine V_aload_n (pc := 72) d_X11_shift_72 rfl ?_
          refine V_iconst (pc := 73) (1) d_X11_shift_73 (by decide) ?_
          refine V_cvI (pc := 74) (n := 1) (c := 11) [_] d_X11_shift_74 c_X11_72 k_X11_done ⟨rfl, rfl⟩ (tt_3 b) rfl (Nat.le_of_ble_eq_true rfl) ⟨Nat.le_of_ble_eq_true rfl, Nat.le_of_ble_eq_true rfl⟩ ⟨Nat.le_refl _, Nat.le_refl _⟩ (ct_X11_done ?_)
          exact V_retI (pc := 77) d_X11_shift_77 rfl ⟨Nat.le_refl _, Nat.le_refl _⟩ (h2 k d hk hd rfl rfl c26.1 c26.2 hb)
        · replace c55 := zf c55
          have hb : ¬ (σ 140 k = 1 ∨ σ 140 k = nI 3) := by
            rw [hu, nI_eq1 (by omega), nI_eq (by omega) (by omega)]; omega
          refine V_aload_n (pc := 58) d_X11_shift_58 rfl ?_
          refine V_iconst (pc := 59) (nI 3) d_X11_shift_59 (by decide) ?_
          refine V_cvI (pc := 60) (n := 1) (c := 11) [_] d_X11_shift_60 c_X11_55 k_X11_refused ⟨rfl, rfl⟩ (tt_3 b) rfl (Nat.le_of_ble_eq_true rfl) ⟨Nat.le_of_ble_eq_true rfl, Nat.le_of_ble_eq_true rfl⟩ ⟨Nat.le_refl _, Nat.le_refl _⟩ (ct_X11_refused ?_)
          exact V_retI (pc := 63) d_X11_shift_63 rfl ⟨Nat.le_refl _, Nat.le_refl _⟩ (h3 k d hk hd rfl rfl c26.1 c26.2 hb)
      · replace c26 := zf c26
        refine V_aload_n (pc := 29) d_X11_shift_29 rfl ?_
        refine V_iconst (pc := 30) (1) d_X11_shift_30 (by decide) ?_
        refine V_cvI (pc := 31) (n := 1) (c := 11) [_] d_X11_shift_31 c_X11_55 k_X11_refused ⟨rfl, rfl⟩ (tt_3 b) rfl (Nat.le_of_ble_eq_true rfl) ⟨Nat.le_of_ble_eq_true rfl, Nat.le_of_ble_eq_true rfl⟩ ⟨Nat.le_refl _, Nat.le_refl _⟩ (ct_X11_refused ?_)
        exact V_retI (pc := 34) d_X11_shift_34 rfl ⟨Nat.le_refl _, Nat.le_refl _⟩ (h1 (fun z => by omega))
theorem ct_X12_shift {x y z : Int32} {ρ : Sg} {q ns nb nl nt nr : Nat} (hR : RR ρ 4 σ q ns nb nl nt nr) (h1 : ¬ ((0 ≤ x.toInt ∧ x.toInt ≤ (ns : Int) - 1) ∧ (0 ≤ y.toInt ∧ y.toInt ≤ 99) ∧ -20 ≤ z.toInt ∧ z.toInt ≤ 20) → K (-1) (up2 σ 139 0 1, sh b)) (h3 : ∀ k d, k < ns → d < 100 → x = nI k → y = nI d → -20 ≤ z.toInt → z.toInt ≤ 20 → ¬ (σ 140 k = 1 ∨ σ 140 k = nI 3) → K (-1) (up2 σ 139 0 (nI 3), sh b)) (h2 : ∀ k d, k < ns → d < 100 → x = nI k → y = nI d → -20 ≤ z.toInt → z.toInt ≤ 20 → (σ 140 k = 1 ∨ σ 140 k = nI 3) → K 1 (up2 (up2 (up2 σ 144 (100 * k + d) z) 145 (100 * k + d) 1) 139 0 0, sh b)) : CM G mX12_shift (rl 3) [.ref 139, .int x, .int y, .int z] (σ, sh b) (QI K) := by
  obtain ⟨⟨⟨hq2, hn10, hnb, hnl, hnt, hnr⟩, ⟨vq, vns, vnb, vnl, vnt, vnr⟩, ⟨rq, rns, rnb, rnl, rnt, rnr⟩, hpd⟩, hH, hC, hS, hLD, hB, hA, hT, hU⟩ := hR
  refine CM.of (by decide) (Nat.le_of_ble_eq_true rfl) (cats1 rfl) ?_
  refine V_aload_n (pc := 0) d_X12_shift_0 rfl ?_
  refine V_iload_n (pc := 1) d_X12_shift_1 rfl ?_
  refine V_cvI (pc := 2) (n := 2) (c := 12) [_] d_X12_shift_2 c_X12_202 k_X12_isStretch ⟨rfl, rfl⟩ (tt_139 b) rfl (Nat.le_of_ble_eq_true rfl) ⟨Nat.le_of_ble_eq_true rfl, Nat.le_of_ble_eq_true rfl⟩ ⟨Nat.le_refl _, Nat.le_refl _⟩ (ct_X12_isStretch vns (by omega) ?_)
  refine V_if_eq (pc := 5) 26 d_X12_shift_5 (by decide) (fun c5 => ?_) (fun c5 => ?_)
  · replace c5 := zf c5
    refine V_aload_n (pc := 26) d_X12_shift_26 rfl ?_
    refine V_iconst (pc := 27) (1) d_X12_shift_27 (by decide) ?_
    refine V_cvI (pc := 28) (n := 1) (c := 12) [_] d_X12_shift_28 c_X12_187 k_X12_refused ⟨rfl, rfl⟩ (tt_139 b) rfl (Nat.le_of_ble_eq_true rfl) ⟨Nat.le_of_ble_eq_true rfl, Nat.le_of_ble_eq_true rfl⟩ ⟨Nat.le_refl _, Nat.le_refl _⟩ (ct_X12_refused ?_)
    exact V_retI (pc := 31) d_X12_shift_31 rfl ⟨Nat.le_refl _, Nat.le_refl _⟩ (h1 (fun z => by omega))
  · replace c5 := zt c5
    refine V_iload_n (pc := 8) d_X12_shift_8 rfl ?_
    refine V_csI (pc := 9) (n := 2) [_] d_X12_shift_9 c_X12_194 k_X12_isDay rfl (Nat.le_of_ble_eq_true rfl) ⟨Nat.le_of_ble_eq_true rfl, Nat.le_of_ble_eq_true rfl⟩ ⟨Nat.le_refl _, Nat.le_refl _⟩ (ct_X12_isDay ?_)
    refine V_if_eq (pc := 12) 26 d_X12_shift_12 (by decide) (fun c12 => ?_) (fun c12 => ?_)
    · replace c12 := zf c12
      refine V_aload_n (pc := 26) d_X12_shift_26 rfl ?_
      refine V_iconst (pc := 27) (1) d_X12_shift_27 (by decide) ?_
      refine V_cvI (pc := 28) (n := 1) (c := 12) [_] d_X12_shift_28 c_X12_187 k_X12_refused ⟨rfl, rfl⟩ (tt_139 b) rfl (Nat.le_of_ble_eq_true rfl) ⟨Nat.le_of_ble_eq_true rfl, Nat.le_of_ble_eq_true rfl⟩ ⟨Nat.le_refl _, Nat.le_refl _⟩ (ct_X12_refused ?_)
      exact V_retI (pc := 31) d_X12_shift_31 rfl ⟨Nat.le_refl _, Nat.le_refl _⟩ (h1 (fun z => by omega))
    · replace c12 := zt c12
      refine V_iload_n (pc := 15) d_X12_shift_15 rfl ?_
      refine V_bipush (pc := 16) (-20) d_X12_shift_16 (by decide) ?_
      refine V_bipush (pc := 18) (nI 20) d_X12_shift_18 (by decide) ?_
      refine V_csI (pc := 20) (n := 1) [_, _, _] d_X12_shift_20 c_X12_174 k_X12_in rfl (Nat.le_of_ble_eq_true rfl) ⟨Nat.le_of_ble_eq_true rfl, Nat.le_of_ble_eq_true rfl⟩ ⟨Nat.le_refl _, Nat.le_refl _⟩ (ct_X12_in (lo := -20) (hi := 20) (by decide) (by decide) ?_)
      refine V_if_ne (pc := 23) 32 d_X12_shift_23 (by decide) (fun c23 => ?_) (fun c23 => ?_)
      · replace c23 := zt c23
        obtain ⟨k, hk, rfl, -⟩ := nat_of (n := ns) c5.1 (by omega) (by omega)
        obtain ⟨d, hd, rfl, -⟩ := nat_of (n := 100) c12.1 (by omega) (by omega)
        refine V_aload_n (pc := 32) d_X12_shift_32 rfl ?_
        refine V_iload_n (pc := 33) d_X12_shift_33 rfl ?_
        refine V_cvI (pc := 34) (n := 1) (c := 12) [_] d_X12_shift_34 c_X12_205 k_X12_isBar ⟨rfl, rfl⟩ (tt_139 b) rfl (Nat.le_of_ble_eq_true rfl) ⟨Nat.le_of_ble_eq_true rfl, Nat.le_of_ble_eq_true rfl⟩ ⟨Nat.le_refl _, Nat.le_refl _⟩ (ct_X12_isBar (by omega) ?_)
        refine V_if_ne (pc := 37) 46 d_X12_shift_37 (by decide) (fun c37 => ?_) (fun c37 => ?_)
        · replace c37 := zt c37
          refine V_aload_n (pc := 46) d_X12_shift_46 rfl ?_
          refine P_getR (pc := 47) d_X12_shift_47 f_X12_23 (tt_139 b) (rr_139_7 b) ?_
          refine V_bipush (pc := 50) (nI 100) d_X12_shift_50 (by decide) ?_
          refine V_iload_n (pc := 52) d_X12_shift_52 rfl ?_
          refine V_imul (pc := 53) d_X12_shift_53 ?_
          refine V_iload_n (pc := 54) d_X12_shift_54 rfl ?_
          refine V_iadd (pc := 55) d_X12_shift_55 ?_
          refine V_iload_n (pc := 56) d_X12_shift_56 rfl ?_
          refine P_iast (pc := 57) (((100 * k) + d)) d_X12_shift_57 (tt_144 b) (by simp only [nI_add, pk_mul, nI_1]) (ln_of (ll_144 b) ⟨by omega, by decide⟩) ?_
          refine V_aload_n (pc := 58) d_X12_shift_58 rfl ?_
          refine P_getR (pc := 59) d_X12_shift_59 f_X12_26 (tt_139 b) (rr_139_8 b) ?_
          refine V_bipush (pc := 62) (nI 100) d_X12_shift_62 (by decide) ?_
          refine V_iload_n (pc := 64) d_X12_shift_64 rfl ?_
          refine V_imul (pc := 65) d_X12_shift_65 ?_
          refine V_iload_n (pc := 66) d_X12_shift_66 rfl ?_
          refine V_iadd (pc := 67) d_X12_shift_67 ?_
          refine V_iconst (pc := 68) (1) d_X12_shift_68 (by decide) ?_
          refine P_zast (pc := 69) (((100 * k) + d)) d_X12_shift_69 (tt_145 b) (by simp only [nI_add, pk_mul, nI_1]) (ln_of (ll_145 b) ⟨by omega, by decide⟩) (Or.inr rfl) ?_
          refine V_aload_n (pc := 70) d_X12_shift_70 rfl ?_
          refine V_iconst (pc := 71) (1) d_X12_shift_71 (by decide) ?_
          refine V_cvI (pc := 72) (n := 1) (c := 12) [_] d_X12_shift_72 c_X12_191 k_X12_done ⟨rfl, rfl⟩ (tt_139 b) rfl (Nat.le_of_ble_eq_true rfl) ⟨Nat.le_of_ble_eq_true rfl, Nat.le_of_ble_eq_true rfl⟩ ⟨Nat.le_refl _, Nat.le_refl _⟩ (ct_X12_done ?_)
          exact V_retI (pc := 75) d_X12_shift_75 rfl ⟨Nat.le_refl _, Nat.le_refl _⟩ (h2 k d hk hd rfl rfl c23.1 c23.2 c37)
        · replace c37 := zf c37
          refine V_aload_n (pc := 40) d_X12_shift_40 rfl ?_
          refine V_iconst (pc := 41) (nI 3) d_X12_shift_41 (by decide) ?_
          refine V_cvI (pc := 42) (n := 1) (c := 12) [_] d_X12_shift_42 c_X12_187 k_X12_refused ⟨rfl, rfl⟩ (tt_139 b) rfl (Nat.le_of_ble_eq_true rfl) ⟨Nat.le_of_ble_eq_true rfl, Nat.le_of_ble_eq_true rfl⟩ ⟨Nat.le_refl _, Nat.le_refl _⟩ (ct_X12_refused ?_)
          exact V_retI (pc := 45) d_X12_shift_45 rfl ⟨Nat.le_refl _, Nat.le_refl _⟩ (h3 k d hk hd rfl rfl c23.1 c23.2 c37)
      · replace c23 := zf c23
        refine V_aload_n (pc := 26) d_X12_shift_26 rfl ?_
        refine V_iconst (pc := 27) (1) d_X12_shift_27 (by decide) ?_
        refine V_cvI (pc := 28) (n := 1) (c := 12) [_] d_X12_shift_28 c_X12_187 k_X12_refused ⟨rfl, rfl⟩ (tt_139 b) rfl (Nat.le_of_ble_eq_true rfl) ⟨Nat.le_of_ble_eq_true rfl, Nat.le_of_ble_eq_true rfl⟩ ⟨Nat.le_refl _, Nat.le_refl _⟩ (ct_X12_refused ?_)
        exact V_retI (pc := 31) d_X12_shift_31 rfl ⟨Nat.le_refl _, Nat.le_refl _⟩ (h1 (fun z => by omega))
theorem pr_shift {x y z : Int32} (h : Rel σ b) : PR G mX11_shift mX12_shift 3 3 [.int x, .int y, .int z] σ b := by
  have h0 := h
  obtain ⟨q, ns, nb, nl, nt, nr, hR, hX, hP, hQ, hK⟩ := h
  have hbd := hR.1.1
  refine ct_X11_shift hR (fun hv => ?_) (fun k d hk hd e e2 z0 z1 hb => ?_) (fun k d hk hd e e2 z0 z1 hb => ?_)
  · exact ⟨rfl, ct_X12_shift (RR_lo hR (fun a i _ _ => (by rw [up2_n (by omega)]))) (fun _ => ⟨rfl, _, rfl, rel_ref h0⟩) (fun k d hk hd e e2 z0 z1 _ => absurd ⟨badN hk (by omega) (by omega) e, bad99 hd e2, z0, z1⟩ hv) (fun k d hk hd e e2 z0 z1 _ => absurd ⟨badN hk (by omega) (by omega) e, bad99 hd e2, z0, z1⟩ hv)⟩
  · refine ⟨rfl, ct_X12_shift (RR_lo hR (fun a i _ _ => (by rw [up2_n (by omega)]))) (fun hv => absurd ⟨badN hk (by omega) (by omega) e, bad99 hd e2, z0, z1⟩ hv) (fun k' d' _ _ _ _ _ _ _ => ⟨rfl, _, rfl, rel_ref h0⟩) (fun k' d' hk' hd' e' e2' _ _ hb' => absurd ?_ hb)⟩
    obtain rfl : k' = k := nI_inj (by omega) (by omega) (e'.symm.trans e)
    rwa [up2_n (by omega)] at hb'
  · refine ⟨rfl, ct_X12_shift (RR_lo hR (fun a i _ _ => (by rw [up2_n (by omega), up2_n (by omega)]))) (fun hv => absurd ⟨badN hk (by omega) (by omega) e, bad99 hd e2, z0, z1⟩ hv) (fun k' d' hk' hd' e' e2' _ _ hb' => absurd ?_ hb') (fun k' d' hk' hd' e' e2' _ _ hb' => ?_)⟩
    · obtain rfl : k' = k := nI_inj (by omega) (by omega) (e'.symm.trans e)
      rw [up2_n (by omega), up2_n (by omega)]; exact hb
    · obtain rfl : k' = k := nI_inj (by omega) (by omega) (e'.symm.trans e)
      obtain rfl : d' = d := nI_inj (by omega) (by omega) (e2'.symm.trans e2)
      obtain ⟨hcn, hH, hC, hS, hLD, hB, hA, hT, hU⟩ := id hR
      have hbd := hcn.1
      refine ⟨rfl, _, rfl, ?_⟩
      exact ⟨q, ns, nb, nl, nt, nr, ⟨cCnt_cg hcn (fun i _ _ => (by rw [up2_n (by omega), up2_n (by omega), up2_n (by omega), up2_n (by omega), up2_n (by omega)])) (fun i _ => (by rw [up2_n (by omega), up2_n (by omega), up2_n (by omega), up2_n (by omega), up2_n (by omega)])), cH_cg hH (by rw [up2_n (by omega), up2_n (by omega), up2_n (by omega), up2_n (by omega), up2_n (by omega)]) (fun d _ => (by rw [up2_n (by omega), up2_n (by omega), up2_n (by omega), up2_n (by omega), up2_n (by omega)])) (fun d _ => ⟨(by rw [up2_n (by omega), up2_n (by omega), up2_n (by omega), up2_n (by omega), up2_n (by omega)]), (by rw [up2_n (by omega), up2_n (by omega), up2_n (by omega), up2_n (by omega), up2_n (by omega)])⟩), cC_cg hC (fun d _ => (by rw [up2_n (by omega), up2_n (by omega), up2_n (by omega), up2_n (by omega), up2_n (by omega)])) (fun d _ => (by rw [up2_n (by omega), up2_n (by omega), up2_n (by omega), up2_n (by omega), up2_n (by omega)])), by
        intro e he
        obtain ⟨⟨a0, a1, a2, a3, a4⟩, b1, b2, b3, b4, b5⟩ := hS e he
        refine ⟨?_, ?_, ?_, ?_, ?_, fun j hj => ?_⟩
        · exact ⟨by rw [up2_n (by omega), up2_n (by omega), up2_n (by omega), up2_n (by omega), up2_n (by omega)]; exact a0, by rw [up2_n (by omega), up2_n (by omega), up2_n (by omega), up2_n (by omega), up2_n (by omega), up2_n (by omega), up2_n (by omega), up2_n (by omega), up2_n (by omega), up2_n (by omega)]; exact a1, by rw [up2_n (by omega), up2_n (by omega), up2_n (by omega), up2_n (by omega), up2_n (by omega), up2_n (by omega), up2_n (by omega), up2_n (by omega), up2_n (by omega), up2_n (by omega)]; exact a2, by rw [up2_n (by omega), up2_n (by omega), up2_n (by omega), up2_n (by omega), up2_n (by omega), up2_n (by omega), up2_n (by omega), up2_n (by omega), up2_n (by omega), up2_n (by omega)]; exact a3, by rw [up2_n (by omega), up2_n (by omega), up2_n (by omega), up2_n (by omega), up2_n (by omega), up2_n (by omega), up2_n (by omega), up2_n (by omega), up2_n (by omega), up2_n (by omega)]; exact a4⟩
        · rw [up2_n (by omega), up2_n (by omega), up2_n (by omega), up2_n (by omega), up2_n (by omega)]; exact b1
        · rw [up2_n (by omega), up2_n (by omega), up2_n (by omega), up2_n (by omega), up2_n (by omega)]; exact b2
        · rw [up2_n (by omega), up2_n (by omega), up2_n (by omega), up2_n (by omega), up2_n (by omega)]; exact b3
        · rw [up2_n (by omega), up2_n (by omega), up2_n (by omega), up2_n (by omega), up2_n (by omega)]; exact b4
        · by_cases w : e = k' ∧ j = d'
          · obtain ⟨rfl, rfl⟩ := w
            refine Or.inr ⟨?_, ?_, ?_, ?_, ?_⟩
            · rw [up2_n (by omega), up2_e (by omega)]
            · rw [up2_n (by omega), up2_n (by omega), up2_n (by omega), up2_n (by omega), up2_e (by omega), up2_n (by omega), up2_n (by omega), up2_e (by omega)]
            · rw [up2_n (by omega), up2_n (by omega), up2_e (by omega)]; exact z0
            · rw [up2_n (by omega), up2_n (by omega), up2_e (by omega)]; exact z1
            · rw [up2_n (by omega), up2_n (by omega), up2_n (by omega), up2_n (by omega), up2_n (by omega)]; exact hb
          · rw [up2_n (by omega), up2_n (by omega), up2_n (by omega), up2_n (by omega), up2_n (by omega), up2_n (by omega), up2_n (by omega), up2_n (by omega), up2_n (by omega), up2_n (by omega), up2_n (by omega), up2_n (by omega), up2_n (by omega), up2_n (by omega), up2_n (by omega), up2_n (by omega), up2_n (by omega), up2_n (by omega), up2_n (by omega), up2_n (by omega)]; exact b5 j hj, cL_cg hLD (fun l _ => ⟨(by rw [up2_n (by omega), up2_n (by omega), up2_n (by omega), up2_n (by omega), up2_n (by omega)]), fun k _ => ⟨(by rw [up2_n (by omega), up2_n (by omega), up2_n (by omega), up2_n (by omega), up2_n (by omega)]), (by rw [up2_n (by omega), up2_n (by omega), up2_n (by omega), up2_n (by omega), up2_n (by omega)])⟩⟩) (fun l _ => (by rw [up2_n (by omega), up2_n (by omega), up2_n (by omega), up2_n (by omega), up2_n (by omega)])) (fun m _ _ => ⟨(by rw [up2_n (by omega), up2_n (by omega), up2_n (by omega), up2_n (by omega), up2_n (by omega)]), (by rw [up2_n (by omega), up2_n (by omega), up2_n (by omega), up2_n (by omega), up2_n (by omega)])⟩), cB_cg hB (fun i _ => ⟨fun j => (by rw [up2_n (by omega), up2_n (by omega), up2_n (by omega), up2_n (by omega), up2_n (by omega)]), fun k _ => ⟨(by rw [up2_n (by omega), up2_n (by omega), up2_n (by omega), up2_n (by omega), up2_n (by omega)]), (by rw [up2_n (by omega), up2_n (by omega), up2_n (by omega), up2_n (by omega), up2_n (by omega)])⟩⟩) (fun i _ a _ _ => (by rw [up2_n (by omega), up2_n (by omega), up2_n (by omega), up2_n (by omega), up2_n (by omega)])) (fun m _ => ⟨(by rw [up2_n (by omega), up2_n (by omega), up2_n (by omega), up2_n (by omega), up2_n (by omega)]), (by rw [up2_n (by omega), up2_n (by omega), up2_n (by omega), up2_n (by omega), up2_n (by omega)])⟩) (fun j _ => ⟨(by rw [up2_n (by omega), up2_n (by omega), up2_n (by omega), up2_n (by omega), up2_n (by omega)]), (by rw [up2_n (by omega), up2_n (by omega), up2_n (by omega), up2_n (by omega), up2_n (by omega)]), (by rw [up2_n (by omega), up2_n (by omega), up2_n (by omega), up2_n (by omega), up2_n (by omega)])⟩), cA_cg hA (fun j _ i => (by rw [up2_n (by omega), up2_n (by omega), up2_n (by omega), up2_n (by omega), up2_n (by omega)])) (fun j _ a _ _ => (by rw [up2_n (by omega), up2_n (by omega), up2_n (by omega), up2_n (by omega), up2_n (by omega)])), cT_cg hT (fun j _ i => (by rw [up2_n (by omega), up2_n (by omega), up2_n (by omega), up2_n (by omega), up2_n (by omega)])) (fun j _ a _ _ => (by rw [up2_n (by omega), up2_n (by omega), up2_n (by omega), up2_n (by omega), up2_n (by omega)])), cU_cg hU (fun j _ i => (by rw [up2_n (by omega), up2_n (by omega), up2_n (by omega), up2_n (by omega), up2_n (by omega)])) (fun j _ a _ _ => (by rw [up2_n (by omega), up2_n (by omega), up2_n (by omega), up2_n (by omega), up2_n (by omega)]))⟩, cX_cg hX (by simp [up2]) ⟨(by rw [up2_n (by omega), up2_n (by omega), up2_n (by omega), up2_n (by omega), up2_n (by omega)]), (by rw [up2_n (by omega), up2_n (by omega), up2_n (by omega), up2_n (by omega), up2_n (by omega)])⟩, cP_cg hP ⟨(by rw [up2_n (by omega), up2_n (by omega), up2_n (by omega), up2_n (by omega), up2_n (by omega)]), (by rw [up2_n (by omega), up2_n (by omega), up2_n (by omega), up2_n (by omega), up2_n (by omega)])⟩ (fun j _ => ⟨(by rw [up2_n (by omega), up2_n (by omega), up2_n (by omega), up2_n (by omega), up2_n (by omega)]), (by rw [up2_n (by omega), up2_n (by omega), up2_n (by omega), up2_n (by omega), up2_n (by omega)])⟩), cQ_cg hQ (fun a i _ => (by rw [up2_n (by omega), up2_n (by omega), up2_n (by omega), up2_n (by omega), up2_n (by omega)])), cK_cg hK (by rw [up2_n (by omega), up2_n (by omega), up2_n (by omega), up2_n (by omega), up2_n (by omega)]) (fun a i _ => (by rw [up2_n (by omega), up2_n (by omega), up2_n (by omega), up2_n (by omega), up2_n (by omega)])) (fun a i _ => (by rw [up2_n (by omega), up2_n (by omega), up2_n (by omega), up2_n (by omega), up2_n (by omega)])) (by omega) (by omega) (by omega) (by omega) (by omega)⟩
end HC
