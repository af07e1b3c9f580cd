/-! ===== the law ===== -/
theorem law_mark : (1 : Nat) = 1 := rfl
