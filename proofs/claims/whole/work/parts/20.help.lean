theorem zf {P : Prop} [Decidable P] (h : (if P then (1 : Int32) else 0) = 0) : ¬ P := fun p => by simp [p] at h
theorem zt {P : Prop} [Decidable P] (h : ¬ (if P then (1 : Int32) else 0) = 0) : P := by
  by_cases p : P
  · exact p
  · simp [p] at h
theorem z01 {P : Prop} [Decidable P] : (if P then (1 : Int32) else 0) = 0 ∨ (if P then (1 : Int32) else 0) = 1 := by
  split
  · exact Or.inr rfl
  · exact Or.inl rfl
section HL
variable {G : Gl} {h : Hp} {K : Int32 → Hp → Prop}
theorem ct_X11_isWithin {x a b : Int32} {lo hi : Int} (ha : a.toInt = lo) (hb : b.toInt = hi) (hq : K (if lo ≤ x.toInt ∧ x.toInt ≤ hi then 1 else 0) h) : CM G mX11_isWithin (rl 1) [.int x, .int a, .int b] h (QI K) := by
  refine CM.of (by decide) (Nat.le_of_ble_eq_true rfl) (cats1 rfl) ?_
  refine V_iload_n (pc := 0) d_X11_isWithin_0 rfl ?_
  refine V_iload_n (pc := 1) d_X11_isWithin_1 rfl ?_
  refine B_icmp_lt (pc := 2) 14 d_X11_isWithin_2 (by decide) (fun c2 => ?_) (fun c2 => ?_)
  · refine V_iconst (pc := 14) (0) d_X11_isWithin_14 (by decide) ?_
    exact V_retZ (pc := 15) d_X11_isWithin_15 rfl (by first | exact Or.inl rfl | exact Or.inr rfl | exact z01) ⟨Nat.le_refl _, Nat.le_refl _⟩ (by first | (rw [if_pos (by omega)] at hq; exact hq) | (rw [if_neg (by omega)] at hq; exact hq) | exact hq)
  · refine V_iload_n (pc := 5) d_X11_isWithin_5 rfl ?_
    refine V_iload_n (pc := 6) d_X11_isWithin_6 rfl ?_
    refine B_icmp_gt (pc := 7) 14 d_X11_isWithin_7 (by decide) (fun c7 => ?_) (fun c7 => ?_)
    · refine V_iconst (pc := 14) (0) d_X11_isWithin_14 (by decide) ?_
      exact V_retZ (pc := 15) d_X11_isWithin_15 rfl (by first | exact Or.inl rfl | exact Or.inr rfl | exact z01) ⟨Nat.le_refl _, Nat.le_refl _⟩ (by first | (rw [if_pos (by omega)] at hq; exact hq) | (rw [if_neg (by omega)] at hq; exact hq) | exact hq)
    · refine V_iconst (pc := 10) (1) d_X11_isWithin_10 (by decide) ?_
      refine V_goto (pc := 11) 15 d_X11_isWithin_11 (by decide) ?_
      exact V_retZ (pc := 15) d_X11_isWithin_15 rfl (by first | exact Or.inl rfl | exact Or.inr rfl | exact z01) ⟨Nat.le_refl _, Nat.le_refl _⟩ (by first | (rw [if_pos (by omega)] at hq; exact hq) | (rw [if_neg (by omega)] at hq; exact hq) | exact hq)
theorem ct_X12_in {x a b : Int32} {lo hi : Int} (ha : a.toInt = lo) (hb : b.toInt = hi) (hq : K (if lo ≤ x.toInt ∧ x.toInt ≤ hi then 1 else 0) h) : CM G mX12_in (rl 1) [.int x, .int a, .int b] h (QI K) := by
  refine CM.of (by decide) (Nat.le_of_ble_eq_true rfl) (cats1 rfl) ?_
  refine V_iload_n (pc := 0) d_X12_in_0 rfl ?_
  refine V_iload_n (pc := 1) d_X12_in_1 rfl ?_
  refine B_icmp_lt (pc := 2) 14 d_X12_in_2 (by decide) (fun c2 => ?_) (fun c2 => ?_)
  · refine V_iconst (pc := 14) (0) d_X12_in_14 (by decide) ?_
    exact V_retZ (pc := 15) d_X12_in_15 rfl (by first | exact Or.inl rfl | exact Or.inr rfl | exact z01) ⟨Nat.le_refl _, Nat.le_refl _⟩ (by first | (rw [if_pos (by omega)] at hq; exact hq) | (rw [if_neg (by omega)] at hq; exact hq) | exact hq)
  · refine V_iload_n (pc := 5) d_X12_in_5 rfl ?_
    refine V_iload_n (pc := 6) d_X12_in_6 rfl ?_
    refine B_icmp_gt (pc := 7) 14 d_X12_in_7 (by decide) (fun c7 => ?_) (fun c7 => ?_)
    · refine V_iconst (pc := 14) (0) d_X12_in_14 (by decide) ?_
      exact V_retZ (pc := 15) d_X12_in_15 rfl (by first | exact Or.inl rfl | exact Or.inr rfl | exact z01) ⟨Nat.le_refl _, Nat.le_refl _⟩ (by first | (rw [if_pos (by omega)] at hq; exact hq) | (rw [if_neg (by omega)] at hq; exact hq) | exact hq)
    · refine V_iconst (pc := 10) (1) d_X12_in_10 (by decide) ?_
      refine V_goto (pc := 11) 15 d_X12_in_11 (by decide) ?_
      exact V_retZ (pc := 15) d_X12_in_15 rfl (by first | exact Or.inl rfl | exact Or.inr rfl | exact z01) ⟨Nat.le_refl _, Nat.le_refl _⟩ (by first | (rw [if_pos (by omega)] at hq; exact hq) | (rw [if_neg (by omega)] at hq; exact hq) | exact hq)
theorem ct_X11_isDay {x : Int32} (hq : K (if 0 ≤ x.toInt ∧ x.toInt ≤ 99 then 1 else 0) h) : CM G mX11_isDay (rl 2) [.int x] h (QI K) := by
  refine CM.of (by decide) (Nat.le_of_ble_eq_true rfl) (cats1 rfl) ?_
  refine V_iload_n (pc := 0) d_X11_isDay_0 rfl ?_
  refine V_iconst (pc := 1) (0) d_X11_isDay_1 (by decide) ?_
  refine V_bipush (pc := 2) (nI 99) d_X11_isDay_2 (by decide) ?_
  refine V_csI (pc := 4) (n := 1) [_, _, _] d_X11_isDay_4 c_X11_51 k_X11_isWithin rfl (by decide) ⟨Nat.le_of_ble_eq_true rfl, Nat.le_of_ble_eq_true rfl⟩ ⟨Nat.le_refl _, Nat.le_refl _⟩ (ct_X11_isWithin (lo := 0) (hi := 99) (by decide) (by decide) ?_)
  exact V_retZ (pc := 7) d_X11_isDay_7 rfl (by first | exact Or.inl rfl | exact Or.inr rfl | exact z01) ⟨Nat.le_refl _, Nat.le_refl _⟩ hq
theorem ct_X12_isDay {x : Int32} (hq : K (if 0 ≤ x.toInt ∧ x.toInt ≤ 99 then 1 else 0) h) : CM G mX12_isDay (rl 2) [.int x] h (QI K) := by
  refine CM.of (by decide) (Nat.le_of_ble_eq_true rfl) (cats1 rfl) ?_
  refine V_iload_n (pc := 0) d_X12_isDay_0 rfl ?_
  refine V_iconst (pc := 1) (0) d_X12_isDay_1 (by decide) ?_
  refine V_bipush (pc := 2) (nI 99) d_X12_isDay_2 (by decide) ?_
  refine V_csI (pc := 4) (n := 1) [_, _, _] d_X12_isDay_4 c_X12_174 k_X12_in rfl (by decide) ⟨Nat.le_of_ble_eq_true rfl, Nat.le_of_ble_eq_true rfl⟩ ⟨Nat.le_refl _, Nat.le_refl _⟩ (ct_X12_in (lo := 0) (hi := 99) (by decide) (by decide) ?_)
  exact V_retZ (pc := 7) d_X12_isDay_7 rfl (by first | exact Or.inl rfl | exact Or.inr rfl | exact z01) ⟨Nat.le_refl _, Nat.le_refl _⟩ hq
theorem ct_J_max {x y : Int32} (hq : K (if x.toInt < y.toInt then y else x) h) : CM G mJ_max (rl 1) [.int x, .int y] h (QI K) := by
  refine CM.ofF (by decide +kernel) (Nat.le_of_ble_eq_true rfl) (cats1 rfl) ?_
  refine V_iload_n (pc := 0) d_J_max_0 rfl ?_
  refine V_iload_n (pc := 1) d_J_max_1 rfl ?_
  refine B_icmp_lt (pc := 2) 9 d_J_max_2 (by decide) (fun c2 => ?_) (fun c2 => ?_)
  · refine V_iload_n (pc := 9) d_J_max_9 rfl ?_
    exact V_retI (pc := 10) d_J_max_10 rfl ⟨Nat.le_refl _, Nat.le_refl _⟩ (by first | (rw [if_pos (by omega)] at hq; exact hq) | (rw [if_neg (by omega)] at hq; exact hq) | exact hq)
  · refine V_iload_n (pc := 5) d_J_max_5 rfl ?_
    refine V_goto (pc := 6) 10 d_J_max_6 (by decide) ?_
    exact V_retI (pc := 10) d_J_max_10 rfl ⟨Nat.le_refl _, Nat.le_refl _⟩ (by first | (rw [if_pos (by omega)] at hq; exact hq) | (rw [if_neg (by omega)] at hq; exact hq) | exact hq)
theorem ct_J_min {x y : Int32} (hq : K (if y.toInt < x.toInt then y else x) h) : CM G mJ_min (rl 1) [.int x, .int y] h (QI K) := by
  refine CM.ofF (by decide +kernel) (Nat.le_of_ble_eq_true rfl) (cats1 rfl) ?_
  refine V_iload_n (pc := 0) d_J_min_0 rfl ?_
  refine V_iload_n (pc := 1) d_J_min_1 rfl ?_
  refine B_icmp_gt (pc := 2) 9 d_J_min_2 (by decide) (fun c2 => ?_) (fun c2 => ?_)
  · refine V_iload_n (pc := 9) d_J_min_9 rfl ?_
    exact V_retI (pc := 10) d_J_min_10 rfl ⟨Nat.le_refl _, Nat.le_refl _⟩ (by first | (rw [if_pos (by omega)] at hq; exact hq) | (rw [if_neg (by omega)] at hq; exact hq) | exact hq)
  · refine V_iload_n (pc := 5) d_J_min_5 rfl ?_
    refine V_goto (pc := 6) 10 d_J_min_6 (by decide) ?_
    exact V_retI (pc := 10) d_J_min_10 rfl ⟨Nat.le_refl _, Nat.le_refl _⟩ (by first | (rw [if_pos (by omega)] at hq; exact hq) | (rw [if_neg (by omega)] at hq; exact hq) | exact hq)
theorem ct_J_abs {x : Int32} (hq : K (if 0 ≤ x.toInt then x else -x) h) : CM G mJ_abs (rl 1) [.int x] h (QI K) := by
  refine CM.ofF (by decide +kernel) (Nat.le_of_ble_eq_true rfl) (cats1 rfl) ?_
  refine V_iload_n (pc := 0) d_J_abs_0 rfl ?_
  refine B_if_ge (pc := 1) 9 d_J_abs_1 (by decide) (fun c1 => ?_) (fun c1 => ?_)
  · refine V_iload_n (pc := 9) d_J_abs_9 rfl ?_
    exact V_retI (pc := 10) d_J_abs_10 rfl ⟨Nat.le_refl _, Nat.le_refl _⟩ (by first | (rw [if_pos (by omega)] at hq; exact hq) | (rw [if_neg (by omega)] at hq; exact hq) | exact hq)
  · refine V_iload_n (pc := 4) d_J_abs_4 rfl ?_
    refine V_ineg (pc := 5) d_J_abs_5 ?_
    refine V_goto (pc := 6) 10 d_J_abs_6 (by decide) ?_
    exact V_retI (pc := 10) d_J_abs_10 rfl ⟨Nat.le_refl _, Nat.le_refl _⟩ (by first | (rw [if_pos (by omega)] at hq; exact hq) | (rw [if_neg (by omega)] at hq; exact hq) | exact hq)
theorem ct_J_floorMod {x y : Int32} (hy : ¬ y = 0) (hq : K (if (x ^^^ y).toInt < 0 ∧ ¬ x - x / y * y = 0 then x - x / y * y + y else x - x / y * y) h) : CM G mJ_floorMod (rl 1) [.int x, .int y] h (QI K) := by
  refine CM.ofF (by decide +kernel) (Nat.le_of_ble_eq_true rfl) (cats1 rfl) ?_
  refine V_iload_n (pc := 0) d_J_floorMod_0 rfl ?_
  refine V_iload_n (pc := 1) d_J_floorMod_1 rfl ?_
  refine V_irem (pc := 2) d_J_floorMod_2 hy ?_
  refine V_istore_n (pc := 3) d_J_floorMod_3 (by decide) ?_
  refine V_iload_n (pc := 4) d_J_floorMod_4 rfl ?_
  refine V_iload_n (pc := 5) d_J_floorMod_5 rfl ?_
  refine V_ixor (pc := 6) d_J_floorMod_6 ?_
  refine B_if_ge (pc := 7) 18 d_J_floorMod_7 (by decide) (fun c7 => ?_) (fun c7 => ?_)
  · refine V_iload_n (pc := 18) d_J_floorMod_18 rfl ?_
    exact V_retI (pc := 19) d_J_floorMod_19 rfl ⟨Nat.le_refl _, Nat.le_refl _⟩ (by first | (rw [if_pos ⟨by omega, by assumption⟩] at hq; exact hq) | (rw [if_neg (fun q => by first | exact q.2 c11 | omega)] at hq; exact hq))
  · refine V_iload_n (pc := 10) d_J_floorMod_10 rfl ?_
    refine V_if_eq (pc := 11) 18 d_J_floorMod_11 (by decide) (fun c11 => ?_) (fun c11 => ?_)
    · refine V_iload_n (pc := 18) d_J_floorMod_18 rfl ?_
      exact V_retI (pc := 19) d_J_floorMod_19 rfl ⟨Nat.le_refl _, Nat.le_refl _⟩ (by first | (rw [if_pos ⟨by omega, by assumption⟩] at hq; exact hq) | (rw [if_neg (fun q => by first | exact q.2 c11 | omega)] at hq; exact hq))
    · refine V_iload_n (pc := 14) d_J_floorMod_14 rfl ?_
      refine V_iload_n (pc := 15) d_J_floorMod_15 rfl ?_
      refine V_iadd (pc := 16) d_J_floorMod_16 ?_
      exact V_retI (pc := 17) d_J_floorMod_17 rfl ⟨Nat.le_refl _, Nat.le_refl _⟩ (by first | (rw [if_pos ⟨by omega, by assumption⟩] at hq; exact hq) | (rw [if_neg (fun q => by first | exact q.2 c11 | omega)] at hq; exact hq))
theorem ct_X11_isSheet {x : Int32} (hq : K (if 0 ≤ x.toInt ∧ x.toInt ≤ 3 then 1 else 0) h) : CM G mX11_isSheet (rl 2) [.int x] h (QI K) := by
  refine CM.of (by decide) (Nat.le_of_ble_eq_true rfl) (cats1 rfl) ?_
  refine V_iload_n (pc := 0) d_X11_isSheet_0 rfl ?_
  refine V_iconst (pc := 1) (0) d_X11_isSheet_1 (by decide) ?_
  refine V_iconst (pc := 2) (nI 3) d_X11_isSheet_2 (by decide) ?_
  refine V_csI (pc := 3) (n := 1) [_, _, _] d_X11_isSheet_3 c_X11_51 k_X11_isWithin rfl (by decide) ⟨Nat.le_of_ble_eq_true rfl, Nat.le_of_ble_eq_true rfl⟩ ⟨Nat.le_refl _, Nat.le_refl _⟩ (ct_X11_isWithin (lo := 0) (hi := 3) (by decide) (by decide) ?_)
  exact V_retZ (pc := 6) d_X11_isSheet_6 rfl (by first | exact Or.inl rfl | exact Or.inr rfl | exact z01) ⟨Nat.le_refl _, Nat.le_refl _⟩ hq
end HL
