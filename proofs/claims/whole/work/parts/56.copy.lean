/-! ===== copies ===== -/
def cpS (σ : Sg) (ks kd n : Nat) : Sg := fun a j => if a = kd ∧ j < n then σ ks j else σ a j
theorem cpS_n {σ : Sg} {ks kd n a j : Nat} (h : ¬ (a = kd ∧ j < n)) : cpS σ ks kd n a j = σ a j := if_neg h
theorem cpS_e {σ : Sg} {ks kd n a j : Nat} (h : a = kd ∧ j < n) : cpS σ ks kd n a j = σ ks j := if_pos h
theorem cpS_b {σ : Sg} {ks kd : Nat} : up2 σ kd 0 (σ ks 0) = cpS σ ks kd 1 := by
  funext a j
  unfold up2 cpS
  by_cases c : a = kd ∧ j = 0
  · rw [if_pos c, if_pos ⟨c.1, by omega⟩, c.2]
  · rw [if_neg c, if_neg (fun w => c ⟨w.1, by omega⟩)]
theorem cpS_s {σ : Sg} {ks kd n m : Nat} (h : m = n + 1) : up2 (cpS σ ks kd n) kd n (σ ks n) = cpS σ ks kd m := by
  subst h
  funext a j
  unfold up2 cpS
  by_cases c : a = kd ∧ j = n
  · rw [if_pos c, if_pos ⟨c.1, by omega⟩, c.2]
  · rw [if_neg c]
    by_cases d : a = kd ∧ j < n
    · rw [if_pos d, if_pos ⟨d.1, by omega⟩]
    · rw [if_neg d, if_neg (fun w => by rcases Nat.lt_or_eq_of_le (Nat.le_of_lt_succ w.2) with e | e; exact d ⟨w.1, e⟩; exact c ⟨w.1, e⟩)]
def CpW (own : String) (idx : Nat) : Prop := Cond.methodLink own idx arraycopyName ∈ TBg ∧ Cond.native arraycopyName ∈ TBg ∧ Cond.static arraycopyName ∈ TBg ∧ Cond.initialized "java/lang/System" ∈ TBg
theorem cp_X4_92 : CpW RX4 92 := ⟨tb_g 718 (by decide +kernel) rfl, tb_g 720 (by decide +kernel) rfl, tb_g 719 (by decide +kernel) rfl, tb_g 124 (by decide +kernel) rfl⟩
theorem cp_X7_38 : CpW RX7 38 := ⟨tb_g 729 (by decide +kernel) rfl, tb_g 720 (by decide +kernel) rfl, tb_g 719 (by decide +kernel) rfl, tb_g 124 (by decide +kernel) rfl⟩
theorem cp_X10_24 : CpW RX10 24 := ⟨tb_g 738 (by decide +kernel) rfl, tb_g 720 (by decide +kernel) rfl, tb_g 719 (by decide +kernel) rfl, tb_g 124 (by decide +kernel) rfl⟩
section RY
variable {G : Gl} {Y : MI} {R : Room} {F : Fn} {gc gs pc : Nat} {L : List (Option Value)} {S : List Value} {h : Hp}
theorem V_copyI {idx ks kd n : Nat} (hd : decode Y.2.1 pc = .ok (.invokestatic idx, 3)) (w : CpW Y.1.cls idx) (hs : h.2.2.1 ks = 20) (ht : h.2.2.1 kd = 20) (hn : n ≤ h.2.2.2.1 ks ∧ n ≤ h.2.2.2.1 kd ∧ n < 10000) (hR : 1 ≤ R.frames ∧ (S.map fun v => v.category).sum + (nativeFrameWords "java/lang/System" "arraycopy" 5 + 11) ≤ R.locals)
    (K : V G Y R F gc gs (pc + 3) L S (cpS h.1 ks kd n, h.2)) : V G Y R F gc gs pc L (.int (nI n) :: .int 0 :: .ref kd :: .int 0 :: .ref ks :: S) h := by
  intro p e s m args below meth c C H locs ls hS hH hl
  obtain ⟨k1, k2, k3⟩ := hH.2.2 ks (by rw [hs]; decide)
  obtain ⟨d1, d2, d3⟩ := hH.2.2 kd (by rw [ht]; decide)
  rw [hs] at k3
  rw [ht] at d3
  have hc0 := k3.i
  have hc1 := d3.i
  obtain ⟨-, q0, hq0, cm0, hqq0⟩ := C.2.2.2.2.2.2.2.2.1.2.1.1 (h.2.2.2.1 ks) (fun j => .int (h.1 ks j))
  obtain ⟨-, q1, hq1, cm1, hqq1⟩ := C.2.2.2.2.2.2.2.2.1.2.1.1 (h.2.2.2.1 kd) (fun j => .int (h.1 kd j))
  have hts := C.2.2.2.2.2.2.2.1
  have hnc : (nI n).toNatClampNeg = n := nI_clamp (by omega)
  have hnt : (nI n).toInt = (n : Int) := nI_toInt (by omega)
  intro T hT X
  obtain ⟨vm', X', step⟩ := X.arraycopy C.1 C.2.2.2.2.2.2.1 (hts _ w.1) (hts _ w.2.1) (hts _ w.2.2.1) (hts _ w.2.2.2) (src := ad G ks) (dst := ad G kd) (srcPos := 0) (destPos := 0) (n := nI n) (by rw [hT]; exact hc0) (by rw [hT]; exact hc1)
    (fun _ h => by cases h) (fun _ h => by cases h) (fun h => by cases h) (fun h => by cases h) hq0 hq1 hqq0 hqq1 rfl (by decide) (by decide) (nI_pos (by omega))
    (by rw [arrV_size, hnt, ti0]; omega) (by rw [arrV_size, hnt, ti0]; omega)
    (fun vm₁ _ i hi => by
      rw [hnc] at hi
      have e : (arrV (G.2.2.2.2.1 0) (h.2.2.2.1 ks) (fun j => .int (h.1 ks j))).slots.getD ((0 : Int32).toNatClampNeg + i) .null = .int (h.1 ks i) := by
        rw [show (0 : Int32).toNatClampNeg + i = i from Nat.zero_add i, Array.getD_eq_getD_getElem?, arrV_read _ _ (by omega)]
        rfl
      rw [e]
      exact ⟨rfl, trivial⟩)
    (g := F0 m pc ls ((.int (nI n) :: .int 0 :: .ref kd :: .int 0 :: .ref ks :: S : List Value).map (cv G))) rfl (hl.1.trans C.2.2.1.symm) (rest := S.map (cv G)) rfl (by rw [C.2.1]; exact hd) hR.1 (by
      have e2 : ((S.map (cv G)).map fun v => v.category).sum = (S.map fun v => v.category).sum := by rw [List.map_map]; simp [Function.comp_def, cv_cat]
      rw [e2]
      show 2 * 0 + _ + _ ≤ _
      omega)
  have e1 : copied (arrV (G.2.2.2.2.1 0) (h.2.2.2.1 ks) (fun j => .int (h.1 ks j))) (arrV (G.2.2.2.2.1 0) (h.2.2.2.1 kd) (fun j => .int (h.1 kd j))) 0 0 (nI n) = arrV (G.2.2.2.2.1 0) (h.2.2.2.1 kd) (fun j => .int (cpS h.1 ks kd n kd j)) := by
    have k := va_copied (fun z => Value.int z) (G.2.2.2.2.1 0) (G.2.2.2.2.1 0) (n0 := h.2.2.2.1 ks) (n1 := h.2.2.2.1 kd) (sp := 0) (dp := 0) (n := n) (h.1 ks) (h.1 kd) (by omega)
    rw [show (fun j => Value.int (cpS h.1 ks kd n kd j)) = (fun j => Value.int (va_cpy (h.1 ks) (h.1 kd) 0 0 n j)) from funext fun j => by
      unfold cpS va_cpy
      by_cases c : j < n
      · rw [if_pos ⟨rfl, c⟩, if_pos ⟨Nat.zero_le _, by omega⟩, Nat.zero_add, Nat.sub_zero]
      · rw [if_neg (fun w => c w.2), if_neg (fun w => c (by omega))]]
    rw [← k]
    show (arrV _ _ _).storeRun (0 : Int32).toNatClampNeg (Cell.stretch _ (0 : Int32).toNatClampNeg (nI n).toNatClampNeg) = _
    rw [hnc]
    rfl
  rw [e1] at X' step
  generalize hN : arrV (G.2.2.2.2.1 0) (h.2.2.2.1 kd) (fun j => .int (cpS h.1 ks kd n kd j)) = cN at X' step
  have hlt : ad G kd < H.size := (Array.getElem?_eq_some_iff.mp hc1).1
  have hheap : ((T.setVm vm').setCell (ad G kd) cN).heap = H.setIfInBounds (ad G kd) cN := by rw [← hT]; rfl
  have oq : ∀ q : Nat, q ≠ ad G kd → (H.setIfInBounds (ad G kd) cN)[q]? = H[q]? := fun q hq => by simp [Array.getElem?_setIfInBounds, Ne.symm hq]
  have hA : AA G (ad G kd) := by rw [ad_ge G d1]; exact Nat.le_add_right _ _
  obtain ⟨t, a1, b1⟩ := K p e s m args below meth c C _ _ ls ⟨by simp; exact hS.1, fun q g1 g2 => by
      rw [oq q (fun e => g2 (by rw [e]; exact hA))]
      exact hS.2.1 q g1 g2, fun q hq => by
      rcases List.mem_append.mp hq with h | h
      · exact hS.2.2 q h
      · obtain ⟨z, -, hz⟩ := List.mem_map.mp h
        rw [← hz]
        exact hA⟩ (hH.put d1 (by simp) oq rfl (fun j hj => ⟨funext fun i => if_neg (fun w => hj w.1), rfl⟩) (by
      rw [ht]
      refine Or.inr (Or.inl ⟨rfl, ?_⟩)
      rw [← hN]
      simp [Array.getElem?_setIfInBounds, hlt])) hl _ hheap X'
  exact ⟨t, step t a1, b1⟩
theorem V_copyZ {idx ks kd n : Nat} (hd : decode Y.2.1 pc = .ok (.invokestatic idx, 3)) (w : CpW Y.1.cls idx) (hs : h.2.2.1 ks = 21) (ht : h.2.2.1 kd = 21) (hn : n ≤ h.2.2.2.1 ks ∧ n ≤ h.2.2.2.1 kd ∧ n < 10000) (hR : 1 ≤ R.frames ∧ (S.map fun v => v.category).sum + (nativeFrameWords "java/lang/System" "arraycopy" 5 + 11) ≤ R.locals)
    (K : V G Y R F gc gs (pc + 3) L S (cpS h.1 ks kd n, h.2)) : V G Y R F gc gs pc L (.int (nI n) :: .int 0 :: .ref kd :: .int 0 :: .ref ks :: S) h := by
  intro p e s m args below meth c C H locs ls hS hH hl
  obtain ⟨k1, k2, k3⟩ := hH.2.2 ks (by rw [hs]; decide)
  obtain ⟨d1, d2, d3⟩ := hH.2.2 kd (by rw [ht]; decide)
  rw [hs] at k3
  rw [ht] at d3
  have hc0 := k3.z
  have hc1 := d3.z
  obtain ⟨-, q0, hq0, cm0, hqq0⟩ := C.2.2.2.2.2.2.2.2.1.2.2.1.1 (h.2.2.2.1 ks) (fun j => .int (h.1 ks j))
  obtain ⟨-, q1, hq1, cm1, hqq1⟩ := C.2.2.2.2.2.2.2.2.1.2.2.1.1 (h.2.2.2.1 kd) (fun j => .int (h.1 kd j))
  have hts := C.2.2.2.2.2.2.2.1
  have hnc : (nI n).toNatClampNeg = n := nI_clamp (by omega)
  have hnt : (nI n).toInt = (n : Int) := nI_toInt (by omega)
  intro T hT X
  obtain ⟨vm', X', step⟩ := X.arraycopy C.1 C.2.2.2.2.2.2.1 (hts _ w.1) (hts _ w.2.1) (hts _ w.2.2.1) (hts _ w.2.2.2) (src := ad G ks) (dst := ad G kd) (srcPos := 0) (destPos := 0) (n := nI n) (by rw [hT]; exact hc0) (by rw [hT]; exact hc1)
    (fun _ h => by cases h) (fun _ h => by cases h) (fun h => by cases h) (fun h => by cases h) hq0 hq1 hqq0 hqq1 rfl (by decide) (by decide) (nI_pos (by omega))
    (by rw [arrV_size, hnt, ti0]; omega) (by rw [arrV_size, hnt, ti0]; omega)
    (fun vm₁ _ i hi => by
      rw [hnc] at hi
      have e : (arrV (G.2.2.2.2.1 1) (h.2.2.2.1 ks) (fun j => .int (h.1 ks j))).slots.getD ((0 : Int32).toNatClampNeg + i) .null = .int (h.1 ks i) := by
        rw [show (0 : Int32).toNatClampNeg + i = i from Nat.zero_add i, Array.getD_eq_getD_getElem?, arrV_read _ _ (by omega)]
        rfl
      rw [e]
      exact ⟨(by rcases k3.zall i (by omega) with e | e <;> rw [e] <;> rfl), trivial⟩)
    (g := F0 m pc ls ((.int (nI n) :: .int 0 :: .ref kd :: .int 0 :: .ref ks :: S : List Value).map (cv G))) rfl (hl.1.trans C.2.2.1.symm) (rest := S.map (cv G)) rfl (by rw [C.2.1]; exact hd) hR.1 (by
      have e2 : ((S.map (cv G)).map fun v => v.category).sum = (S.map fun v => v.category).sum := by rw [List.map_map]; simp [Function.comp_def, cv_cat]
      rw [e2]
      show 2 * 0 + _ + _ ≤ _
      omega)
  have e1 : copied (arrV (G.2.2.2.2.1 1) (h.2.2.2.1 ks) (fun j => .int (h.1 ks j))) (arrV (G.2.2.2.2.1 1) (h.2.2.2.1 kd) (fun j => .int (h.1 kd j))) 0 0 (nI n) = arrV (G.2.2.2.2.1 1) (h.2.2.2.1 kd) (fun j => .int (cpS h.1 ks kd n kd j)) := by
    have k := va_copied (fun z => Value.int z) (G.2.2.2.2.1 1) (G.2.2.2.2.1 1) (n0 := h.2.2.2.1 ks) (n1 := h.2.2.2.1 kd) (sp := 0) (dp := 0) (n := n) (h.1 ks) (h.1 kd) (by omega)
    rw [show (fun j => Value.int (cpS h.1 ks kd n kd j)) = (fun j => Value.int (va_cpy (h.1 ks) (h.1 kd) 0 0 n j)) from funext fun j => by
      unfold cpS va_cpy
      by_cases c : j < n
      · rw [if_pos ⟨rfl, c⟩, if_pos ⟨Nat.zero_le _, by omega⟩, Nat.zero_add, Nat.sub_zero]
      · rw [if_neg (fun w => c w.2), if_neg (fun w => c (by omega))]]
    rw [← k]
    show (arrV _ _ _).storeRun (0 : Int32).toNatClampNeg (Cell.stretch _ (0 : Int32).toNatClampNeg (nI n).toNatClampNeg) = _
    rw [hnc]
    rfl
  rw [e1] at X' step
  generalize hN : arrV (G.2.2.2.2.1 1) (h.2.2.2.1 kd) (fun j => .int (cpS h.1 ks kd n kd j)) = cN at X' step
  have hlt : ad G kd < H.size := (Array.getElem?_eq_some_iff.mp hc1).1
  have hheap : ((T.setVm vm').setCell (ad G kd) cN).heap = H.setIfInBounds (ad G kd) cN := by rw [← hT]; rfl
  have oq : ∀ q : Nat, q ≠ ad G kd → (H.setIfInBounds (ad G kd) cN)[q]? = H[q]? := fun q hq => by simp [Array.getElem?_setIfInBounds, Ne.symm hq]
  have hA : AA G (ad G kd) := by rw [ad_ge G d1]; exact Nat.le_add_right _ _
  obtain ⟨t, a1, b1⟩ := K p e s m args below meth c C _ _ ls ⟨by simp; exact hS.1, fun q g1 g2 => by
      rw [oq q (fun e => g2 (by rw [e]; exact hA))]
      exact hS.2.1 q g1 g2, fun q hq => by
      rcases List.mem_append.mp hq with h | h
      · exact hS.2.2 q h
      · obtain ⟨z, -, hz⟩ := List.mem_map.mp h
        rw [← hz]
        exact hA⟩ (hH.put d1 (by simp) oq rfl (fun j hj => ⟨funext fun i => if_neg (fun w => hj w.1), rfl⟩) (by
      rw [ht]
      refine Or.inr (Or.inr (Or.inl ⟨rfl, ?_, fun j hj => by
        show zo (cpS h.1 ks kd n kd j)
        unfold cpS; split
        · exact k3.zall j (by omega)
        · exact d3.zall j hj⟩))
      rw [← hN]
      simp [Array.getElem?_setIfInBounds, hlt])) hl _ hheap X'
  exact ⟨t, step t a1, b1⟩
end RY
/-- a river lies at cell r -/
def RV (b : Bool) (r : Nat) : Prop := r = 4 ∨ (r = 192 ∧ b = true)
theorem RV4 (b : Bool) : RV b 4 := Or.inl rfl
theorem RV192 : RV true 192 := Or.inr ⟨rfl, rfl⟩
theorem shT_tr {k : Nat} : (sh true).2.1 k = shTl.getD k 0 := by
  show shT true k = _
  unfold shT
  split
  · rfl
  · rw [if_pos rfl]
theorem shL_tr {k : Nat} : (sh true).2.2.1 k = shLl.getD k 0 := by
  show shL true k = _
  unfold shL
  split
  · rfl
  · rw [if_pos rfl]
theorem shR_tr {k j : Nat} (h : ¬ (k = 3 ∧ j = 1)) : (sh true).1 k j = (shRl.getD k []).getD j none := by
  show shR true k j = _
  unfold shR
  rw [if_neg h]
  split
  · rfl
  · rw [if_pos rfl]
theorem uT0 {b : Bool} {r : Nat} (h : RV b r) {i : Nat} (hi : i < 1) : (sh b).2.1 (r + 0 + i) = 5 := by
  rcases h with rfl | ⟨rfl, rfl⟩
  · exact shT_lo (by omega) ((by decide +kernel : ∀ i, i < 1 → shTl.getD (4 + 0 + i) 0 = 5) i hi)
  · exact shT_tr.trans ((by decide +kernel : ∀ i, i < 1 → shTl.getD (192 + 0 + i) 0 = 5) i hi)
theorem uR8 {b : Bool} {r : Nat} (h : RV b r) {i : Nat} (hi : i < 1) : (sh b).1 (r + 0 + i) 8 = some (r + 1) := by
  rcases h with rfl | ⟨rfl, rfl⟩
  · exact shR_lo (by omega) (by omega) ((by decide +kernel : ∀ i, i < 1 → (shRl.getD (4 + 0 + i) []).getD 8 none = some (4 + 1)) i hi)
  · exact (shR_tr (by omega)).trans ((by decide +kernel : ∀ i, i < 1 → (shRl.getD (192 + 0 + i) []).getD 8 none = some (192 + 1)) i hi)
theorem uR9 {b : Bool} {r : Nat} (h : RV b r) {i : Nat} (hi : i < 1) : (sh b).1 (r + 0 + i) 9 = some (r + 2) := by
  rcases h with rfl | ⟨rfl, rfl⟩
  · exact shR_lo (by omega) (by omega) ((by decide +kernel : ∀ i, i < 1 → (shRl.getD (4 + 0 + i) []).getD 9 none = some (4 + 2)) i hi)
  · exact (shR_tr (by omega)).trans ((by decide +kernel : ∀ i, i < 1 → (shRl.getD (192 + 0 + i) []).getD 9 none = some (192 + 2)) i hi)
theorem uR10 {b : Bool} {r : Nat} (h : RV b r) {i : Nat} (hi : i < 1) : (sh b).1 (r + 0 + i) 10 = some (r + 3) := by
  rcases h with rfl | ⟨rfl, rfl⟩
  · exact shR_lo (by omega) (by omega) ((by decide +kernel : ∀ i, i < 1 → (shRl.getD (4 + 0 + i) []).getD 10 none = some (4 + 3)) i hi)
  · exact (shR_tr (by omega)).trans ((by decide +kernel : ∀ i, i < 1 → (shRl.getD (192 + 0 + i) []).getD 10 none = some (192 + 3)) i hi)
theorem uR11 {b : Bool} {r : Nat} (h : RV b r) {i : Nat} (hi : i < 1) : (sh b).1 (r + 0 + i) 11 = some (r + 4) := by
  rcases h with rfl | ⟨rfl, rfl⟩
  · exact shR_lo (by omega) (by omega) ((by decide +kernel : ∀ i, i < 1 → (shRl.getD (4 + 0 + i) []).getD 11 none = some (4 + 4)) i hi)
  · exact (shR_tr (by omega)).trans ((by decide +kernel : ∀ i, i < 1 → (shRl.getD (192 + 0 + i) []).getD 11 none = some (192 + 4)) i hi)
theorem uR12 {b : Bool} {r : Nat} (h : RV b r) {i : Nat} (hi : i < 1) : (sh b).1 (r + 0 + i) 12 = some (r + 5) := by
  rcases h with rfl | ⟨rfl, rfl⟩
  · exact shR_lo (by omega) (by omega) ((by decide +kernel : ∀ i, i < 1 → (shRl.getD (4 + 0 + i) []).getD 12 none = some (4 + 5)) i hi)
  · exact (shR_tr (by omega)).trans ((by decide +kernel : ∀ i, i < 1 → (shRl.getD (192 + 0 + i) []).getD 12 none = some (192 + 5)) i hi)
theorem uR13 {b : Bool} {r : Nat} (h : RV b r) {i : Nat} (hi : i < 1) : (sh b).1 (r + 0 + i) 13 = some (r + 6) := by
  rcases h with rfl | ⟨rfl, rfl⟩
  · exact shR_lo (by omega) (by omega) ((by decide +kernel : ∀ i, i < 1 → (shRl.getD (4 + 0 + i) []).getD 13 none = some (4 + 6)) i hi)
  · exact (shR_tr (by omega)).trans ((by decide +kernel : ∀ i, i < 1 → (shRl.getD (192 + 0 + i) []).getD 13 none = some (192 + 6)) i hi)
theorem uR14 {b : Bool} {r : Nat} (h : RV b r) {i : Nat} (hi : i < 1) : (sh b).1 (r + 0 + i) 14 = some (r + 7) := by
  rcases h with rfl | ⟨rfl, rfl⟩
  · exact shR_lo (by omega) (by omega) ((by decide +kernel : ∀ i, i < 1 → (shRl.getD (4 + 0 + i) []).getD 14 none = some (4 + 7)) i hi)
  · exact (shR_tr (by omega)).trans ((by decide +kernel : ∀ i, i < 1 → (shRl.getD (192 + 0 + i) []).getD 14 none = some (192 + 7)) i hi)
theorem uR15 {b : Bool} {r : Nat} (h : RV b r) {i : Nat} (hi : i < 1) : (sh b).1 (r + 0 + i) 15 = some (r + 8) := by
  rcases h with rfl | ⟨rfl, rfl⟩
  · exact shR_lo (by omega) (by omega) ((by decide +kernel : ∀ i, i < 1 → (shRl.getD (4 + 0 + i) []).getD 15 none = some (4 + 8)) i hi)
  · exact (shR_tr (by omega)).trans ((by decide +kernel : ∀ i, i < 1 → (shRl.getD (192 + 0 + i) []).getD 15 none = some (192 + 8)) i hi)
theorem uT1 {b : Bool} {r : Nat} (h : RV b r) {i : Nat} (hi : i < 1) : (sh b).2.1 (r + 1 + i) = 20 := by
  rcases h with rfl | ⟨rfl, rfl⟩
  · exact shT_lo (by omega) ((by decide +kernel : ∀ i, i < 1 → shTl.getD (4 + 1 + i) 0 = 20) i hi)
  · exact shT_tr.trans ((by decide +kernel : ∀ i, i < 1 → shTl.getD (192 + 1 + i) 0 = 20) i hi)
theorem uL1 {b : Bool} {r : Nat} (h : RV b r) {i : Nat} (hi : i < 1) : (sh b).2.2.1 (r + 1 + i) = 100 := by
  rcases h with rfl | ⟨rfl, rfl⟩
  · exact shL_lo (by omega) ((by decide +kernel : ∀ i, i < 1 → shLl.getD (4 + 1 + i) 0 = 100) i hi)
  · exact shL_tr.trans ((by decide +kernel : ∀ i, i < 1 → shLl.getD (192 + 1 + i) 0 = 100) i hi)
theorem uT2 {b : Bool} {r : Nat} (h : RV b r) {i : Nat} (hi : i < 1) : (sh b).2.1 (r + 2 + i) = 21 := by
  rcases h with rfl | ⟨rfl, rfl⟩
  · exact shT_lo (by omega) ((by decide +kernel : ∀ i, i < 1 → shTl.getD (4 + 2 + i) 0 = 21) i hi)
  · exact shT_tr.trans ((by decide +kernel : ∀ i, i < 1 → shTl.getD (192 + 2 + i) 0 = 21) i hi)
theorem uL2 {b : Bool} {r : Nat} (h : RV b r) {i : Nat} (hi : i < 1) : (sh b).2.2.1 (r + 2 + i) = 100 := by
  rcases h with rfl | ⟨rfl, rfl⟩
  · exact shL_lo (by omega) ((by decide +kernel : ∀ i, i < 1 → shLl.getD (4 + 2 + i) 0 = 100) i hi)
  · exact shL_tr.trans ((by decide +kernel : ∀ i, i < 1 → shLl.getD (192 + 2 + i) 0 = 100) i hi)
theorem uT3 {b : Bool} {r : Nat} (h : RV b r) {i : Nat} (hi : i < 1) : (sh b).2.1 (r + 3 + i) = 47 := by
  rcases h with rfl | ⟨rfl, rfl⟩
  · exact shT_lo (by omega) ((by decide +kernel : ∀ i, i < 1 → shTl.getD (4 + 3 + i) 0 = 47) i hi)
  · exact shT_tr.trans ((by decide +kernel : ∀ i, i < 1 → shTl.getD (192 + 3 + i) 0 = 47) i hi)
theorem uL3 {b : Bool} {r : Nat} (h : RV b r) {i : Nat} (hi : i < 1) : (sh b).2.2.1 (r + 3 + i) = 10 := by
  rcases h with rfl | ⟨rfl, rfl⟩
  · exact shL_lo (by omega) ((by decide +kernel : ∀ i, i < 1 → shLl.getD (4 + 3 + i) 0 = 10) i hi)
  · exact shL_tr.trans ((by decide +kernel : ∀ i, i < 1 → shLl.getD (192 + 3 + i) 0 = 10) i hi)
theorem uES {b : Bool} {r : Nat} (h : RV b r) {i : Nat} (hi : i < 10) : (sh b).1 (r + 3) i = some (r + (9 + 2 * i)) := by
  rcases h with rfl | ⟨rfl, rfl⟩
  · exact shR_lo (by omega) (by omega) ((by decide +kernel : ∀ i, i < 10 → (shRl.getD (4 + 3) []).getD i none = some (4 + (9 + 2 * i))) i hi)
  · exact (shR_tr (by omega)).trans ((by decide +kernel : ∀ i, i < 10 → (shRl.getD (192 + 3) []).getD i none = some (192 + (9 + 2 * i))) i hi)
theorem uT4 {b : Bool} {r : Nat} (h : RV b r) {i : Nat} (hi : i < 1) : (sh b).2.1 (r + 4 + i) = 43 := by
  rcases h with rfl | ⟨rfl, rfl⟩
  · exact shT_lo (by omega) ((by decide +kernel : ∀ i, i < 1 → shTl.getD (4 + 4 + i) 0 = 43) i hi)
  · exact shT_tr.trans ((by decide +kernel : ∀ i, i < 1 → shTl.getD (192 + 4 + i) 0 = 43) i hi)
theorem uL4 {b : Bool} {r : Nat} (h : RV b r) {i : Nat} (hi : i < 1) : (sh b).2.2.1 (r + 4 + i) = 11 := by
  rcases h with rfl | ⟨rfl, rfl⟩
  · exact shL_lo (by omega) ((by decide +kernel : ∀ i, i < 1 → shLl.getD (4 + 4 + i) 0 = 11) i hi)
  · exact shL_tr.trans ((by decide +kernel : ∀ i, i < 1 → shLl.getD (192 + 4 + i) 0 = 11) i hi)
theorem uELD {b : Bool} {r : Nat} (h : RV b r) {i : Nat} (hi : i < 11) : (sh b).1 (r + 4) i = some (r + (29 + 4 * i)) := by
  rcases h with rfl | ⟨rfl, rfl⟩
  · exact shR_lo (by omega) (by omega) ((by decide +kernel : ∀ i, i < 11 → (shRl.getD (4 + 4) []).getD i none = some (4 + (29 + 4 * i))) i hi)
  · exact (shR_tr (by omega)).trans ((by decide +kernel : ∀ i, i < 11 → (shRl.getD (192 + 4) []).getD i none = some (192 + (29 + 4 * i))) i hi)
theorem uT5 {b : Bool} {r : Nat} (h : RV b r) {i : Nat} (hi : i < 1) : (sh b).2.1 (r + 5 + i) = 42 := by
  rcases h with rfl | ⟨rfl, rfl⟩
  · exact shT_lo (by omega) ((by decide +kernel : ∀ i, i < 1 → shTl.getD (4 + 5 + i) 0 = 42) i hi)
  · exact shT_tr.trans ((by decide +kernel : ∀ i, i < 1 → shTl.getD (192 + 5 + i) 0 = 42) i hi)
theorem uL5 {b : Bool} {r : Nat} (h : RV b r) {i : Nat} (hi : i < 1) : (sh b).2.2.1 (r + 5 + i) = 5 := by
  rcases h with rfl | ⟨rfl, rfl⟩
  · exact shL_lo (by omega) ((by decide +kernel : ∀ i, i < 1 → shLl.getD (4 + 5 + i) 0 = 5) i hi)
  · exact shL_tr.trans ((by decide +kernel : ∀ i, i < 1 → shLl.getD (192 + 5 + i) 0 = 5) i hi)
theorem uEB {b : Bool} {r : Nat} (h : RV b r) {i : Nat} (hi : i < 5) : (sh b).1 (r + 5) i = some (r + (73 + 4 * i)) := by
  rcases h with rfl | ⟨rfl, rfl⟩
  · exact shR_lo (by omega) (by omega) ((by decide +kernel : ∀ i, i < 5 → (shRl.getD (4 + 5) []).getD i none = some (4 + (73 + 4 * i))) i hi)
  · exact (shR_tr (by omega)).trans ((by decide +kernel : ∀ i, i < 5 → (shRl.getD (192 + 5) []).getD i none = some (192 + (73 + 4 * i))) i hi)
theorem uT6 {b : Bool} {r : Nat} (h : RV b r) {i : Nat} (hi : i < 1) : (sh b).2.1 (r + 6 + i) = 41 := by
  rcases h with rfl | ⟨rfl, rfl⟩
  · exact shT_lo (by omega) ((by decide +kernel : ∀ i, i < 1 → shTl.getD (4 + 6 + i) 0 = 41) i hi)
  · exact shT_tr.trans ((by decide +kernel : ∀ i, i < 1 → shTl.getD (192 + 6 + i) 0 = 41) i hi)
theorem uL6 {b : Bool} {r : Nat} (h : RV b r) {i : Nat} (hi : i < 1) : (sh b).2.2.1 (r + 6 + i) = 12 := by
  rcases h with rfl | ⟨rfl, rfl⟩
  · exact shL_lo (by omega) ((by decide +kernel : ∀ i, i < 1 → shLl.getD (4 + 6 + i) 0 = 12) i hi)
  · exact shL_tr.trans ((by decide +kernel : ∀ i, i < 1 → shLl.getD (192 + 6 + i) 0 = 12) i hi)
theorem uEBA {b : Bool} {r : Nat} (h : RV b r) {i : Nat} (hi : i < 12) : (sh b).1 (r + 6) i = some (r + (93 + i)) := by
  rcases h with rfl | ⟨rfl, rfl⟩
  · exact shR_lo (by omega) (by omega) ((by decide +kernel : ∀ i, i < 12 → (shRl.getD (4 + 6) []).getD i none = some (4 + (93 + i))) i hi)
  · exact (shR_tr (by omega)).trans ((by decide +kernel : ∀ i, i < 12 → (shRl.getD (192 + 6) []).getD i none = some (192 + (93 + i))) i hi)
theorem uT7 {b : Bool} {r : Nat} (h : RV b r) {i : Nat} (hi : i < 1) : (sh b).2.1 (r + 7 + i) = 48 := by
  rcases h with rfl | ⟨rfl, rfl⟩
  · exact shT_lo (by omega) ((by decide +kernel : ∀ i, i < 1 → shTl.getD (4 + 7 + i) 0 = 48) i hi)
  · exact shT_tr.trans ((by decide +kernel : ∀ i, i < 1 → shTl.getD (192 + 7 + i) 0 = 48) i hi)
theorem uL7 {b : Bool} {r : Nat} (h : RV b r) {i : Nat} (hi : i < 1) : (sh b).2.2.1 (r + 7 + i) = 6 := by
  rcases h with rfl | ⟨rfl, rfl⟩
  · exact shL_lo (by omega) ((by decide +kernel : ∀ i, i < 1 → shLl.getD (4 + 7 + i) 0 = 6) i hi)
  · exact shL_tr.trans ((by decide +kernel : ∀ i, i < 1 → shLl.getD (192 + 7 + i) 0 = 6) i hi)
theorem uETR {b : Bool} {r : Nat} (h : RV b r) {i : Nat} (hi : i < 6) : (sh b).1 (r + 7) i = some (r + (105 + i)) := by
  rcases h with rfl | ⟨rfl, rfl⟩
  · exact shR_lo (by omega) (by omega) ((by decide +kernel : ∀ i, i < 6 → (shRl.getD (4 + 7) []).getD i none = some (4 + (105 + i))) i hi)
  · exact (shR_tr (by omega)).trans ((by decide +kernel : ∀ i, i < 6 → (shRl.getD (192 + 7) []).getD i none = some (192 + (105 + i))) i hi)
theorem uT8 {b : Bool} {r : Nat} (h : RV b r) {i : Nat} (hi : i < 1) : (sh b).2.1 (r + 8 + i) = 45 := by
  rcases h with rfl | ⟨rfl, rfl⟩
  · exact shT_lo (by omega) ((by decide +kernel : ∀ i, i < 1 → shTl.getD (4 + 8 + i) 0 = 45) i hi)
  · exact shT_tr.trans ((by decide +kernel : ∀ i, i < 1 → shTl.getD (192 + 8 + i) 0 = 45) i hi)
theorem uL8 {b : Bool} {r : Nat} (h : RV b r) {i : Nat} (hi : i < 1) : (sh b).2.2.1 (r + 8 + i) = 8 := by
  rcases h with rfl | ⟨rfl, rfl⟩
  · exact shL_lo (by omega) ((by decide +kernel : ∀ i, i < 1 → shLl.getD (4 + 8 + i) 0 = 8) i hi)
  · exact shL_tr.trans ((by decide +kernel : ∀ i, i < 1 → shLl.getD (192 + 8 + i) 0 = 8) i hi)
theorem uERU {b : Bool} {r : Nat} (h : RV b r) {i : Nat} (hi : i < 8) : (sh b).1 (r + 8) i = some (r + (111 + i)) := by
  rcases h with rfl | ⟨rfl, rfl⟩
  · exact shR_lo (by omega) (by omega) ((by decide +kernel : ∀ i, i < 8 → (shRl.getD (4 + 8) []).getD i none = some (4 + (111 + i))) i hi)
  · exact (shR_tr (by omega)).trans ((by decide +kernel : ∀ i, i < 8 → (shRl.getD (192 + 8) []).getD i none = some (192 + (111 + i))) i hi)
theorem uTS {b : Bool} {r : Nat} (h : RV b r) {i : Nat} (hi : i < 10) : (sh b).2.1 (r + (9 + 2 * i)) = 8 := by
  rcases h with rfl | ⟨rfl, rfl⟩
  · exact shT_lo (by omega) ((by decide +kernel : ∀ i, i < 10 → shTl.getD (4 + (9 + 2 * i)) 0 = 8) i hi)
  · exact shT_tr.trans ((by decide +kernel : ∀ i, i < 10 → shTl.getD (192 + (9 + 2 * i)) 0 = 8) i hi)
theorem uTLD {b : Bool} {r : Nat} (h : RV b r) {i : Nat} (hi : i < 11) : (sh b).2.1 (r + (29 + 4 * i)) = 4 := by
  rcases h with rfl | ⟨rfl, rfl⟩
  · exact shT_lo (by omega) ((by decide +kernel : ∀ i, i < 11 → shTl.getD (4 + (29 + 4 * i)) 0 = 4) i hi)
  · exact shT_tr.trans ((by decide +kernel : ∀ i, i < 11 → shTl.getD (192 + (29 + 4 * i)) 0 = 4) i hi)
theorem uTB {b : Bool} {r : Nat} (h : RV b r) {i : Nat} (hi : i < 5) : (sh b).2.1 (r + (73 + 4 * i)) = 3 := by
  rcases h with rfl | ⟨rfl, rfl⟩
  · exact shT_lo (by omega) ((by decide +kernel : ∀ i, i < 5 → shTl.getD (4 + (73 + 4 * i)) 0 = 3) i hi)
  · exact shT_tr.trans ((by decide +kernel : ∀ i, i < 5 → shTl.getD (192 + (73 + 4 * i)) 0 = 3) i hi)
theorem uTBA {b : Bool} {r : Nat} (h : RV b r) {i : Nat} (hi : i < 12) : (sh b).2.1 (r + (93 + i)) = 2 := by
  rcases h with rfl | ⟨rfl, rfl⟩
  · exact shT_lo (by omega) ((by decide +kernel : ∀ i, i < 12 → shTl.getD (4 + (93 + i)) 0 = 2) i hi)
  · exact shT_tr.trans ((by decide +kernel : ∀ i, i < 12 → shTl.getD (192 + (93 + i)) 0 = 2) i hi)
theorem uTTR {b : Bool} {r : Nat} (h : RV b r) {i : Nat} (hi : i < 6) : (sh b).2.1 (r + (105 + i)) = 9 := by
  rcases h with rfl | ⟨rfl, rfl⟩
  · exact shT_lo (by omega) ((by decide +kernel : ∀ i, i < 6 → shTl.getD (4 + (105 + i)) 0 = 9) i hi)
  · exact shT_tr.trans ((by decide +kernel : ∀ i, i < 6 → shTl.getD (192 + (105 + i)) 0 = 9) i hi)
theorem uTRU {b : Bool} {r : Nat} (h : RV b r) {i : Nat} (hi : i < 8) : (sh b).2.1 (r + (111 + i)) = 6 := by
  rcases h with rfl | ⟨rfl, rfl⟩
  · exact shT_lo (by omega) ((by decide +kernel : ∀ i, i < 8 → shTl.getD (4 + (111 + i)) 0 = 6) i hi)
  · exact shT_tr.trans ((by decide +kernel : ∀ i, i < 8 → shTl.getD (192 + (111 + i)) 0 = 6) i hi)
theorem uSs {b : Bool} {r : Nat} (h : RV b r) {i : Nat} (hi : i < 10) : (sh b).1 (r + (9 + 2 * i)) 5 = some (r + (10 + 2 * i)) := by
  rcases h with rfl | ⟨rfl, rfl⟩
  · exact shR_lo (by omega) (by omega) ((by decide +kernel : ∀ i, i < 10 → (shRl.getD (4 + (9 + 2 * i)) []).getD 5 none = some (4 + (10 + 2 * i))) i hi)
  · exact (shR_tr (by omega)).trans ((by decide +kernel : ∀ i, i < 10 → (shRl.getD (192 + (9 + 2 * i)) []).getD 5 none = some (192 + (10 + 2 * i))) i hi)
theorem uTs {b : Bool} {r : Nat} (h : RV b r) {i : Nat} (hi : i < 10) : (sh b).2.1 (r + (10 + 2 * i)) = 20 := by
  rcases h with rfl | ⟨rfl, rfl⟩
  · exact shT_lo (by omega) ((by decide +kernel : ∀ i, i < 10 → shTl.getD (4 + (10 + 2 * i)) 0 = 20) i hi)
  · exact shT_tr.trans ((by decide +kernel : ∀ i, i < 10 → shTl.getD (192 + (10 + 2 * i)) 0 = 20) i hi)
theorem uLs {b : Bool} {r : Nat} (h : RV b r) {i : Nat} (hi : i < 10) : (sh b).2.2.1 (r + (10 + 2 * i)) = 100 := by
  rcases h with rfl | ⟨rfl, rfl⟩
  · exact shL_lo (by omega) ((by decide +kernel : ∀ i, i < 10 → shLl.getD (4 + (10 + 2 * i)) 0 = 100) i hi)
  · exact shL_tr.trans ((by decide +kernel : ∀ i, i < 10 → shLl.getD (192 + (10 + 2 * i)) 0 = 100) i hi)
theorem uLDw {b : Bool} {r : Nat} (h : RV b r) {i : Nat} (hi : i < 11) : (sh b).1 (r + (29 + 4 * i)) 1 = some (r + (30 + 4 * i)) := by
  rcases h with rfl | ⟨rfl, rfl⟩
  · exact shR_lo (by omega) (by omega) ((by decide +kernel : ∀ i, i < 11 → (shRl.getD (4 + (29 + 4 * i)) []).getD 1 none = some (4 + (30 + 4 * i))) i hi)
  · exact (shR_tr (by omega)).trans ((by decide +kernel : ∀ i, i < 11 → (shRl.getD (192 + (29 + 4 * i)) []).getD 1 none = some (192 + (30 + 4 * i))) i hi)
theorem uTLDw {b : Bool} {r : Nat} (h : RV b r) {i : Nat} (hi : i < 11) : (sh b).2.1 (r + (30 + 4 * i)) = 11 := by
  rcases h with rfl | ⟨rfl, rfl⟩
  · exact shT_lo (by omega) ((by decide +kernel : ∀ i, i < 11 → shTl.getD (4 + (30 + 4 * i)) 0 = 11) i hi)
  · exact shT_tr.trans ((by decide +kernel : ∀ i, i < 11 → shTl.getD (192 + (30 + 4 * i)) 0 = 11) i hi)
theorem uLDw0 {b : Bool} {r : Nat} (h : RV b r) {i : Nat} (hi : i < 11) : (sh b).1 (r + (30 + 4 * i)) 0 = some (r + (31 + 4 * i)) := by
  rcases h with rfl | ⟨rfl, rfl⟩
  · exact shR_lo (by omega) (by omega) ((by decide +kernel : ∀ i, i < 11 → (shRl.getD (4 + (30 + 4 * i)) []).getD 0 none = some (4 + (31 + 4 * i))) i hi)
  · exact (shR_tr (by omega)).trans ((by decide +kernel : ∀ i, i < 11 → (shRl.getD (192 + (30 + 4 * i)) []).getD 0 none = some (192 + (31 + 4 * i))) i hi)
theorem uLDw1 {b : Bool} {r : Nat} (h : RV b r) {i : Nat} (hi : i < 11) : (sh b).1 (r + (30 + 4 * i)) 1 = some (r + (32 + 4 * i)) := by
  rcases h with rfl | ⟨rfl, rfl⟩
  · exact shR_lo (by omega) (by omega) ((by decide +kernel : ∀ i, i < 11 → (shRl.getD (4 + (30 + 4 * i)) []).getD 1 none = some (4 + (32 + 4 * i))) i hi)
  · exact (shR_tr (by omega)).trans ((by decide +kernel : ∀ i, i < 11 → (shRl.getD (192 + (30 + 4 * i)) []).getD 1 none = some (192 + (32 + 4 * i))) i hi)
theorem uTLDw0 {b : Bool} {r : Nat} (h : RV b r) {i : Nat} (hi : i < 11) : (sh b).2.1 (r + (31 + 4 * i)) = 20 := by
  rcases h with rfl | ⟨rfl, rfl⟩
  · exact shT_lo (by omega) ((by decide +kernel : ∀ i, i < 11 → shTl.getD (4 + (31 + 4 * i)) 0 = 20) i hi)
  · exact shT_tr.trans ((by decide +kernel : ∀ i, i < 11 → shTl.getD (192 + (31 + 4 * i)) 0 = 20) i hi)
theorem uLLDw0 {b : Bool} {r : Nat} (h : RV b r) {i : Nat} (hi : i < 11) : (sh b).2.2.1 (r + (31 + 4 * i)) = 10 := by
  rcases h with rfl | ⟨rfl, rfl⟩
  · exact shL_lo (by omega) ((by decide +kernel : ∀ i, i < 11 → shLl.getD (4 + (31 + 4 * i)) 0 = 10) i hi)
  · exact shL_tr.trans ((by decide +kernel : ∀ i, i < 11 → shLl.getD (192 + (31 + 4 * i)) 0 = 10) i hi)
theorem uTLDw1 {b : Bool} {r : Nat} (h : RV b r) {i : Nat} (hi : i < 11) : (sh b).2.1 (r + (32 + 4 * i)) = 20 := by
  rcases h with rfl | ⟨rfl, rfl⟩
  · exact shT_lo (by omega) ((by decide +kernel : ∀ i, i < 11 → shTl.getD (4 + (32 + 4 * i)) 0 = 20) i hi)
  · exact shT_tr.trans ((by decide +kernel : ∀ i, i < 11 → shTl.getD (192 + (32 + 4 * i)) 0 = 20) i hi)
theorem uLLDw1 {b : Bool} {r : Nat} (h : RV b r) {i : Nat} (hi : i < 11) : (sh b).2.2.1 (r + (32 + 4 * i)) = 10 := by
  rcases h with rfl | ⟨rfl, rfl⟩
  · exact shL_lo (by omega) ((by decide +kernel : ∀ i, i < 11 → shLl.getD (4 + (32 + 4 * i)) 0 = 10) i hi)
  · exact shL_tr.trans ((by decide +kernel : ∀ i, i < 11 → shLl.getD (192 + (32 + 4 * i)) 0 = 10) i hi)
theorem uBw {b : Bool} {r : Nat} (h : RV b r) {i : Nat} (hi : i < 5) : (sh b).1 (r + (73 + 4 * i)) 9 = some (r + (74 + 4 * i)) := by
  rcases h with rfl | ⟨rfl, rfl⟩
  · exact shR_lo (by omega) (by omega) ((by decide +kernel : ∀ i, i < 5 → (shRl.getD (4 + (73 + 4 * i)) []).getD 9 none = some (4 + (74 + 4 * i))) i hi)
  · exact (shR_tr (by omega)).trans ((by decide +kernel : ∀ i, i < 5 → (shRl.getD (192 + (73 + 4 * i)) []).getD 9 none = some (192 + (74 + 4 * i))) i hi)
theorem uTBw {b : Bool} {r : Nat} (h : RV b r) {i : Nat} (hi : i < 5) : (sh b).2.1 (r + (74 + 4 * i)) = 11 := by
  rcases h with rfl | ⟨rfl, rfl⟩
  · exact shT_lo (by omega) ((by decide +kernel : ∀ i, i < 5 → shTl.getD (4 + (74 + 4 * i)) 0 = 11) i hi)
  · exact shT_tr.trans ((by decide +kernel : ∀ i, i < 5 → shTl.getD (192 + (74 + 4 * i)) 0 = 11) i hi)
theorem uBw0 {b : Bool} {r : Nat} (h : RV b r) {i : Nat} (hi : i < 5) : (sh b).1 (r + (74 + 4 * i)) 0 = some (r + (75 + 4 * i)) := by
  rcases h with rfl | ⟨rfl, rfl⟩
  · exact shR_lo (by omega) (by omega) ((by decide +kernel : ∀ i, i < 5 → (shRl.getD (4 + (74 + 4 * i)) []).getD 0 none = some (4 + (75 + 4 * i))) i hi)
  · exact (shR_tr (by omega)).trans ((by decide +kernel : ∀ i, i < 5 → (shRl.getD (192 + (74 + 4 * i)) []).getD 0 none = some (192 + (75 + 4 * i))) i hi)
theorem uBw1 {b : Bool} {r : Nat} (h : RV b r) {i : Nat} (hi : i < 5) : (sh b).1 (r + (74 + 4 * i)) 1 = some (r + (76 + 4 * i)) := by
  rcases h with rfl | ⟨rfl, rfl⟩
  · exact shR_lo (by omega) (by omega) ((by decide +kernel : ∀ i, i < 5 → (shRl.getD (4 + (74 + 4 * i)) []).getD 1 none = some (4 + (76 + 4 * i))) i hi)
  · exact (shR_tr (by omega)).trans ((by decide +kernel : ∀ i, i < 5 → (shRl.getD (192 + (74 + 4 * i)) []).getD 1 none = some (192 + (76 + 4 * i))) i hi)
theorem uTBw0 {b : Bool} {r : Nat} (h : RV b r) {i : Nat} (hi : i < 5) : (sh b).2.1 (r + (75 + 4 * i)) = 20 := by
  rcases h with rfl | ⟨rfl, rfl⟩
  · exact shT_lo (by omega) ((by decide +kernel : ∀ i, i < 5 → shTl.getD (4 + (75 + 4 * i)) 0 = 20) i hi)
  · exact shT_tr.trans ((by decide +kernel : ∀ i, i < 5 → shTl.getD (192 + (75 + 4 * i)) 0 = 20) i hi)
theorem uLBw0 {b : Bool} {r : Nat} (h : RV b r) {i : Nat} (hi : i < 5) : (sh b).2.2.1 (r + (75 + 4 * i)) = 10 := by
  rcases h with rfl | ⟨rfl, rfl⟩
  · exact shL_lo (by omega) ((by decide +kernel : ∀ i, i < 5 → shLl.getD (4 + (75 + 4 * i)) 0 = 10) i hi)
  · exact shL_tr.trans ((by decide +kernel : ∀ i, i < 5 → shLl.getD (192 + (75 + 4 * i)) 0 = 10) i hi)
theorem uTBw1 {b : Bool} {r : Nat} (h : RV b r) {i : Nat} (hi : i < 5) : (sh b).2.1 (r + (76 + 4 * i)) = 20 := by
  rcases h with rfl | ⟨rfl, rfl⟩
  · exact shT_lo (by omega) ((by decide +kernel : ∀ i, i < 5 → shTl.getD (4 + (76 + 4 * i)) 0 = 20) i hi)
  · exact shT_tr.trans ((by decide +kernel : ∀ i, i < 5 → shTl.getD (192 + (76 + 4 * i)) 0 = 20) i hi)
theorem uLBw1 {b : Bool} {r : Nat} (h : RV b r) {i : Nat} (hi : i < 5) : (sh b).2.2.1 (r + (76 + 4 * i)) = 10 := by
  rcases h with rfl | ⟨rfl, rfl⟩
  · exact shL_lo (by omega) ((by decide +kernel : ∀ i, i < 5 → shLl.getD (4 + (76 + 4 * i)) 0 = 10) i hi)
  · exact shL_tr.trans ((by decide +kernel : ∀ i, i < 5 → shLl.getD (192 + (76 + 4 * i)) 0 = 10) i hi)
section HK
variable {G : Gl} {K : Int32 → Hp → Prop} {KV : Hp → Prop} {σ : Nat → Nat → Int32} {s : (Nat → Nat → Option Nat) × (Nat → Nat) × (Nat → Nat) × Nat} {a c w q w' q' : Nat}
theorem ct_X10_copyFrom (t1 : s.2.1 a = 11) (t2 : s.2.1 c = 11) (r1 : s.1 a 0 = some w) (r2 : s.1 a 1 = some q) (r3 : s.1 c 0 = some w') (r4 : s.1 c 1 = some q') (tw : s.2.1 w = 20) (tq : s.2.1 q = 20) (tw2 : s.2.1 w' = 20) (tq2 : s.2.1 q' = 20) (lw : s.2.2.1 w = 10) (lq : s.2.2.1 q = 10) (lw2 : s.2.2.1 w' = 10) (lq2 : s.2.2.1 q' = 10) (hq : KV (cpS (cpS σ w' w 10) q' q 10, s)) : CM G mX10_copyFrom (rl 1) [.ref a, .ref c] (σ, s) (QV KV) := by
  refine CM.of (by decide) (Nat.le_of_ble_eq_true rfl) (cats1 rfl) ?_
  refine V_aload_n (pc := 0) d_X10_copyFrom_0 rfl ?_
  refine P_getR (pc := 1) d_X10_copyFrom_1 f_X10_9 t2 r3 ?_
  refine V_iconst (pc := 4) (0) d_X10_copyFrom_4 (by decide) ?_
  refine V_aload_n (pc := 5) d_X10_copyFrom_5 rfl ?_
  refine P_getR (pc := 6) d_X10_copyFrom_6 f_X10_9 t1 r1 ?_
  refine V_iconst (pc := 9) (0) d_X10_copyFrom_9 (by decide) ?_
  refine V_bipush (pc := 10) (nI 10) d_X10_copyFrom_10 (by decide) ?_
  refine V_copyI (pc := 12) (n := 10) d_X10_copyFrom_12 cp_X10_24 tw2 tw ⟨by rw [lw2]; exact Nat.le_refl _, by rw [lw]; exact Nat.le_refl _, by decide⟩ ⟨Nat.le_of_ble_eq_true rfl, by decide +kernel⟩ ?_
  refine V_aload_n (pc := 15) d_X10_copyFrom_15 rfl ?_
  refine P_getR (pc := 16) d_X10_copyFrom_16 f_X10_15 t2 r4 ?_
  refine V_iconst (pc := 19) (0) d_X10_copyFrom_19 (by decide) ?_
  refine V_aload_n (pc := 20) d_X10_copyFrom_20 rfl ?_
  refine P_getR (pc := 21) d_X10_copyFrom_21 f_X10_15 t1 r2 ?_
  refine V_iconst (pc := 24) (0) d_X10_copyFrom_24 (by decide) ?_
  refine V_bipush (pc := 25) (nI 10) d_X10_copyFrom_25 (by decide) ?_
  refine V_copyI (pc := 27) (n := 10) d_X10_copyFrom_27 cp_X10_24 tq2 tq ⟨by rw [lq2]; exact Nat.le_refl _, by rw [lq]; exact Nat.le_refl _, by decide⟩ ⟨Nat.le_of_ble_eq_true rfl, by decide +kernel⟩ ?_
  exact V_retV (pc := 30) d_X10_copyFrom_30 rfl ⟨Nat.le_refl _, Nat.le_refl _⟩ hq
theorem ct_X1_copyFrom  (t1 : s.2.1 a = 2) (t2 : s.2.1 c = 2) (hq : KV (cpS σ c a 5, s)) : CM G mX1_copyFrom (rl 1) [.ref a, .ref c] (σ, s) (QV KV) := by
  refine CM.of (by decide) (Nat.le_of_ble_eq_true rfl) (cats1 rfl) ?_
  refine V_aload_n (pc := 0) d_X1_copyFrom_0 rfl ?_
  refine V_aload_n (pc := 1) d_X1_copyFrom_1 rfl ?_
  refine P_getI (pc := 2) d_X1_copyFrom_2 f_X1_9 t2 ?_
  refine P_putI (pc := 5) d_X1_copyFrom_5 f_X1_9 t1 ?_
  refine V_aload_n (pc := 8) d_X1_copyFrom_8 rfl ?_
  refine V_aload_n (pc := 9) d_X1_copyFrom_9 rfl ?_
  refine P_getI (pc := 10) d_X1_copyFrom_10 f_X1_15 t2 ?_
  simp (disch := omega) only [up2_n, up2_e]
  refine P_putI (pc := 13) d_X1_copyFrom_13 f_X1_15 t1 ?_
  refine V_aload_n (pc := 16) d_X1_copyFrom_16 rfl ?_
  refine V_aload_n (pc := 17) d_X1_copyFrom_17 rfl ?_
  refine P_getI (pc := 18) d_X1_copyFrom_18 f_X1_18 t2 ?_
  simp (disch := omega) only [up2_n, up2_e]
  refine P_putI (pc := 21) d_X1_copyFrom_21 f_X1_18 t1 ?_
  refine V_aload_n (pc := 24) d_X1_copyFrom_24 rfl ?_
  refine V_aload_n (pc := 25) d_X1_copyFrom_25 rfl ?_
  refine P_getI (pc := 26) d_X1_copyFrom_26 f_X1_21 t2 ?_
  simp (disch := omega) only [up2_n, up2_e]
  refine P_putI (pc := 29) d_X1_copyFrom_29 f_X1_21 t1 ?_
  refine V_aload_n (pc := 32) d_X1_copyFrom_32 rfl ?_
  refine V_aload_n (pc := 33) d_X1_copyFrom_33 rfl ?_
  refine P_getI (pc := 34) d_X1_copyFrom_34 f_X1_24 t2 ?_
  simp (disch := omega) only [up2_n, up2_e]
  refine P_putI (pc := 37) d_X1_copyFrom_37 f_X1_24 t1 ?_
  exact V_retV (pc := 40) d_X1_copyFrom_40 rfl ⟨Nat.le_refl _, Nat.le_refl _⟩ (by rw [cpS_b, cpS_s (m := 2) rfl, cpS_s (m := 3) rfl, cpS_s (m := 4) rfl, cpS_s (m := 5) rfl]; exact hq)
theorem ct_X8_copyFrom  (t1 : s.2.1 a = 9) (t2 : s.2.1 c = 9) (hq : KV (cpS σ c a 3, s)) : CM G mX8_copyFrom (rl 2) [.ref a, .ref c] (σ, s) (QV KV) := by
  refine CM.of (by decide) (Nat.le_of_ble_eq_true rfl) (cats1 rfl) ?_
  refine V_aload_n (pc := 0) d_X8_copyFrom_0 rfl ?_
  refine V_aload_n (pc := 1) d_X8_copyFrom_1 rfl ?_
  refine P_getI (pc := 2) d_X8_copyFrom_2 f_X8_7 t2 ?_
  refine V_aload_n (pc := 5) d_X8_copyFrom_5 rfl ?_
  refine P_getI (pc := 6) d_X8_copyFrom_6 f_X8_13 t2 ?_
  refine V_aload_n (pc := 9) d_X8_copyFrom_9 rfl ?_
  refine P_getI (pc := 10) d_X8_copyFrom_10 f_X8_16 t2 ?_
  refine V_cvV (pc := 13) (n := 1) (c := 8) [_, _, _] d_X8_copyFrom_13 c_X8_19 k_X8_begin ⟨rfl, rfl⟩ t1 rfl (Nat.le_of_ble_eq_true rfl) ⟨Nat.le_of_ble_eq_true rfl, Nat.le_of_ble_eq_true rfl⟩ ⟨Nat.le_refl _, Nat.le_refl _⟩ (ct_X8_begin t1 ?_)
  exact V_retV (pc := 16) d_X8_copyFrom_16 rfl ⟨Nat.le_refl _, Nat.le_refl _⟩ (by rw [cpS_b, cpS_s (m := 2) rfl, cpS_s (m := 3) rfl]; exact hq)
theorem ct_X5_copyFrom  (t1 : s.2.1 a = 6) (t2 : s.2.1 c = 6) (hq : KV (cpS σ c a 4, s)) : CM G mX5_copyFrom (rl 2) [.ref a, .ref c] (σ, s) (QV KV) := by
  refine CM.of (by decide) (Nat.le_of_ble_eq_true rfl) (cats1 rfl) ?_
  refine V_aload_n (pc := 0) d_X5_copyFrom_0 rfl ?_
  refine V_aload_n (pc := 1) d_X5_copyFrom_1 rfl ?_
  refine P_getI (pc := 2) d_X5_copyFrom_2 f_X5_7 t2 ?_
  refine V_aload_n (pc := 5) d_X5_copyFrom_5 rfl ?_
  refine P_getI (pc := 6) d_X5_copyFrom_6 f_X5_13 t2 ?_
  refine V_aload_n (pc := 9) d_X5_copyFrom_9 rfl ?_
  refine P_getI (pc := 10) d_X5_copyFrom_10 f_X5_16 t2 ?_
  refine V_aload_n (pc := 13) d_X5_copyFrom_13 rfl ?_
  refine P_getI (pc := 14) d_X5_copyFrom_14 f_X5_19 t2 ?_
  refine V_cvV (pc := 17) (n := 1) (c := 5) [_, _, _, _] d_X5_copyFrom_17 c_X5_22 k_X5_begin ⟨rfl, rfl⟩ t1 rfl (Nat.le_of_ble_eq_true rfl) ⟨Nat.le_of_ble_eq_true rfl, Nat.le_of_ble_eq_true rfl⟩ ⟨Nat.le_refl _, Nat.le_refl _⟩ (ct_X5_begin t1 ?_)
  exact V_retV (pc := 20) d_X5_copyFrom_20 rfl ⟨Nat.le_refl _, Nat.le_refl _⟩ (by rw [cpS_b, cpS_s (m := 2) rfl, cpS_s (m := 3) rfl, cpS_s (m := 4) rfl]; exact hq)
theorem ct_X7_copyFrom (t1 : s.2.1 a = 8) (t2 : s.2.1 c = 8) (z : σ c 4 = 0 ∨ σ c 4 = 1) (r1 : s.1 a 5 = some w) (r2 : s.1 c 5 = some w') (tw : s.2.1 w = 20) (tw2 : s.2.1 w' = 20) (lw : s.2.2.1 w = 100) (lw2 : s.2.2.1 w' = 100) (hq : KV (cpS (cpS σ c a 5) w' w 100, s)) : CM G mX7_copyFrom (rl 1) [.ref a, .ref c] (σ, s) (QV KV) := by
  refine CM.of (by decide) (Nat.le_of_ble_eq_true rfl) (cats1 rfl) ?_
  refine V_aload_n (pc := 0) d_X7_copyFrom_0 rfl ?_
  refine V_aload_n (pc := 1) d_X7_copyFrom_1 rfl ?_
  refine P_getI (pc := 2) d_X7_copyFrom_2 f_X7_9 t2 ?_
  refine P_putI (pc := 5) d_X7_copyFrom_5 f_X7_9 t1 ?_
  refine V_aload_n (pc := 8) d_X7_copyFrom_8 rfl ?_
  refine V_aload_n (pc := 9) d_X7_copyFrom_9 rfl ?_
  refine P_getI (pc := 10) d_X7_copyFrom_10 f_X7_15 t2 ?_
  simp (disch := omega) only [up2_n, up2_e]
  refine P_putI (pc := 13) d_X7_copyFrom_13 f_X7_15 t1 ?_
  refine V_aload_n (pc := 16) d_X7_copyFrom_16 rfl ?_
  refine V_aload_n (pc := 17) d_X7_copyFrom_17 rfl ?_
  refine P_getI (pc := 18) d_X7_copyFrom_18 f_X7_18 t2 ?_
  simp (disch := omega) only [up2_n, up2_e]
  refine P_putI (pc := 21) d_X7_copyFrom_21 f_X7_18 t1 ?_
  refine V_aload_n (pc := 24) d_X7_copyFrom_24 rfl ?_
  refine V_aload_n (pc := 25) d_X7_copyFrom_25 rfl ?_
  refine P_getI (pc := 26) d_X7_copyFrom_26 f_X7_21 t2 ?_
  simp (disch := omega) only [up2_n, up2_e]
  refine P_putI (pc := 29) d_X7_copyFrom_29 f_X7_21 t1 ?_
  refine V_aload_n (pc := 32) d_X7_copyFrom_32 rfl ?_
  refine V_aload_n (pc := 33) d_X7_copyFrom_33 rfl ?_
  refine P_getI (pc := 34) d_X7_copyFrom_34 f_X7_24 t2 ?_
  simp (disch := omega) only [up2_n, up2_e]
  refine P_putZ (pc := 37) d_X7_copyFrom_37 f_X7_24 t1 z ?_
  rw [cpS_b, cpS_s (m := 2) rfl, cpS_s (m := 3) rfl, cpS_s (m := 4) rfl, cpS_s (m := 5) rfl]
  refine V_aload_n (pc := 40) d_X7_copyFrom_40 rfl ?_
  refine P_getR (pc := 41) d_X7_copyFrom_41 f_X7_28 t2 r2 ?_
  refine V_iconst (pc := 44) (0) d_X7_copyFrom_44 (by decide) ?_
  refine V_aload_n (pc := 45) d_X7_copyFrom_45 rfl ?_
  refine P_getR (pc := 46) d_X7_copyFrom_46 f_X7_28 t1 r1 ?_
  refine V_iconst (pc := 49) (0) d_X7_copyFrom_49 (by decide) ?_
  refine V_bipush (pc := 50) (nI 100) d_X7_copyFrom_50 (by decide) ?_
  refine V_copyI (pc := 52) (n := 100) d_X7_copyFrom_52 cp_X7_38 tw2 tw ⟨by rw [lw2]; exact Nat.le_refl _, by rw [lw]; exact Nat.le_refl _, by decide⟩ ⟨Nat.le_of_ble_eq_true rfl, by decide +kernel⟩ ?_
  exact V_retV (pc := 55) d_X7_copyFrom_55 rfl ⟨Nat.le_refl _, Nat.le_refl _⟩ hq
theorem ct_X3_copyFrom {x y : Nat} (t1 : s.2.1 a = 4) (t2 : s.2.1 c = 4) (rx : s.1 a 1 = some x) (ry : s.1 c 1 = some y) (t3 : s.2.1 x = 11) (t4 : s.2.1 y = 11) (r1 : s.1 x 0 = some w) (r2 : s.1 x 1 = some q) (r3 : s.1 y 0 = some w') (r4 : s.1 y 1 = some q') (tw : s.2.1 w = 20) (tq : s.2.1 q = 20) (tw2 : s.2.1 w' = 20) (tq2 : s.2.1 q' = 20) (lw : s.2.2.1 w = 10) (lq : s.2.2.1 q = 10) (lw2 : s.2.2.1 w' = 10) (lq2 : s.2.2.1 q' = 10) (hq : KV (cpS (cpS (cpS σ c a 1) w' w 10) q' q 10, s)) : CM G mX3_copyFrom (rl 2) [.ref a, .ref c] (σ, s) (QV KV) := by
  refine CM.of (by decide) (Nat.le_of_ble_eq_true rfl) (cats1 rfl) ?_
  refine V_aload_n (pc := 0) d_X3_copyFrom_0 rfl ?_
  refine V_aload_n (pc := 1) d_X3_copyFrom_1 rfl ?_
  refine P_getI (pc := 2) d_X3_copyFrom_2 f_X3_7 t2 ?_
  refine P_putI (pc := 5) d_X3_copyFrom_5 f_X3_7 t1 ?_
  rw [cpS_b]
  refine V_aload_n (pc := 8) d_X3_copyFrom_8 rfl ?_
  refine P_getR (pc := 9) d_X3_copyFrom_9 f_X3_16 t1 rx ?_
  refine V_aload_n (pc := 12) d_X3_copyFrom_12 rfl ?_
  refine P_getR (pc := 13) d_X3_copyFrom_13 f_X3_16 t2 ry ?_
  refine V_cvV (pc := 16) (n := 1) (c := 10) [_] d_X3_copyFrom_16 c_X3_20 k_X10_copyFrom ⟨rfl, rfl⟩ t3 rfl (Nat.le_of_ble_eq_true rfl) ⟨Nat.le_of_ble_eq_true rfl, Nat.le_of_ble_eq_true rfl⟩ ⟨Nat.le_refl _, Nat.le_refl _⟩ (ct_X10_copyFrom t3 t4 r1 r2 r3 r4 tw tq tw2 tq2 lw lq lw2 lq2 ?_)
  exact V_retV (pc := 19) d_X3_copyFrom_19 rfl ⟨Nat.le_refl _, Nat.le_refl _⟩ hq
theorem ct_X2_copyFrom {x y : Nat} (t1 : s.2.1 a = 3) (t2 : s.2.1 c = 3) (rx : s.1 a 9 = some x) (ry : s.1 c 9 = some y) (t3 : s.2.1 x = 11) (t4 : s.2.1 y = 11) (r1 : s.1 x 0 = some w) (r2 : s.1 x 1 = some q) (r3 : s.1 y 0 = some w') (r4 : s.1 y 1 = some q') (tw : s.2.1 w = 20) (tq : s.2.1 q = 20) (tw2 : s.2.1 w' = 20) (tq2 : s.2.1 q' = 20) (lw : s.2.2.1 w = 10) (lq : s.2.2.1 q = 10) (lw2 : s.2.2.1 w' = 10) (lq2 : s.2.2.1 q' = 10) (hq : KV (cpS (cpS (cpS σ c a 9) w' w 10) q' q 10, s)) : CM G mX2_copyFrom (rl 2) [.ref a, .ref c] (σ, s) (QV KV) := by
  refine CM.of (by decide) (Nat.le_of_ble_eq_true rfl) (cats1 rfl) ?_
  refine V_aload_n (pc := 0) d_X2_copyFrom_0 rfl ?_
  refine V_aload_n (pc := 1) d_X2_copyFrom_1 rfl ?_
  refine P_getI (pc := 2) d_X2_copyFrom_2 f_X2_9 t2 ?_
  refine P_putI (pc := 5) d_X2_copyFrom_5 f_X2_9 t1 ?_
  refine V_aload_n (pc := 8) d_X2_copyFrom_8 rfl ?_
  refine V_aload_n (pc := 9) d_X2_copyFrom_9 rfl ?_
  refine P_getI (pc := 10) d_X2_copyFrom_10 f_X2_15 t2 ?_
  simp (disch := omega) only [up2_n, up2_e]
  refine P_putI (pc := 13) d_X2_copyFrom_13 f_X2_15 t1 ?_
  refine V_aload_n (pc := 16) d_X2_copyFrom_16 rfl ?_
  refine V_aload_n (pc := 17) d_X2_copyFrom_17 rfl ?_
  refine P_getI (pc := 18) d_X2_copyFrom_18 f_X2_18 t2 ?_
  simp (disch := omega) only [up2_n, up2_e]
  refine P_putI (pc := 21) d_X2_copyFrom_21 f_X2_18 t1 ?_
  refine V_aload_n (pc := 24) d_X2_copyFrom_24 rfl ?_
  refine V_aload_n (pc := 25) d_X2_copyFrom_25 rfl ?_
  refine P_getI (pc := 26) d_X2_copyFrom_26 f_X2_21 t2 ?_
  simp (disch := omega) only [up2_n, up2_e]
  refine P_putI (pc := 29) d_X2_copyFrom_29 f_X2_21 t1 ?_
  refine V_aload_n (pc := 32) d_X2_copyFrom_32 rfl ?_
  refine V_aload_n (pc := 33) d_X2_copyFrom_33 rfl ?_
  refine P_getI (pc := 34) d_X2_copyFrom_34 f_X2_24 t2 ?_
  simp (disch := omega) only [up2_n, up2_e]
  refine P_putI (pc := 37) d_X2_copyFrom_37 f_X2_24 t1 ?_
  refine V_aload_n (pc := 40) d_X2_copyFrom_40 rfl ?_
  refine V_aload_n (pc := 41) d_X2_copyFrom_41 rfl ?_
  refine P_getI (pc := 42) d_X2_copyFrom_42 f_X2_27 t2 ?_
  simp (disch := omega) only [up2_n, up2_e]
  refine P_putI (pc := 45) d_X2_copyFrom_45 f_X2_27 t1 ?_
  refine V_aload_n (pc := 48) d_X2_copyFrom_48 rfl ?_
  refine V_aload_n (pc := 49) d_X2_copyFrom_49 rfl ?_
  refine P_getI (pc := 50) d_X2_copyFrom_50 f_X2_30 t2 ?_
  simp (disch := omega) only [up2_n, up2_e]
  refine P_putI (pc := 53) d_X2_copyFrom_53 f_X2_30 t1 ?_
  refine V_aload_n (pc := 56) d_X2_copyFrom_56 rfl ?_
  refine V_aload_n (pc := 57) d_X2_copyFrom_57 rfl ?_
  refine P_getI (pc := 58) d_X2_copyFrom_58 f_X2_33 t2 ?_
  simp (disch := omega) only [up2_n, up2_e]
  refine P_putI (pc := 61) d_X2_copyFrom_61 f_X2_33 t1 ?_
  refine V_aload_n (pc := 64) d_X2_copyFrom_64 rfl ?_
  refine V_aload_n (pc := 65) d_X2_copyFrom_65 rfl ?_
  refine P_getI (pc := 66) d_X2_copyFrom_66 f_X2_36 t2 ?_
  simp (disch := omega) only [up2_n, up2_e]
  refine P_putI (pc := 69) d_X2_copyFrom_69 f_X2_36 t1 ?_
  rw [cpS_b, cpS_s (m := 2) rfl, cpS_s (m := 3) rfl, cpS_s (m := 4) rfl, cpS_s (m := 5) rfl, cpS_s (m := 6) rfl, cpS_s (m := 7) rfl, cpS_s (m := 8) rfl, cpS_s (m := 9) rfl]
  refine V_aload_n (pc := 72) d_X2_copyFrom_72 rfl ?_
  refine P_getR (pc := 73) d_X2_copyFrom_73 f_X2_42 t1 rx ?_
  refine V_aload_n (pc := 76) d_X2_copyFrom_76 rfl ?_
  refine P_getR (pc := 77) d_X2_copyFrom_77 f_X2_42 t2 ry ?_
  refine V_cvV (pc := 80) (n := 1) (c := 10) [_] d_X2_copyFrom_80 c_X2_49 k_X10_copyFrom ⟨rfl, rfl⟩ t3 rfl (Nat.le_of_ble_eq_true rfl) ⟨Nat.le_of_ble_eq_true rfl, Nat.le_of_ble_eq_true rfl⟩ ⟨Nat.le_refl _, Nat.le_refl _⟩ (ct_X10_copyFrom t3 t4 r1 r2 r3 r4 tw tq tw2 tq2 lw lq lw2 lq2 ?_)
  exact V_retV (pc := 83) d_X2_copyFrom_83 rfl ⟨Nat.le_refl _, Nat.le_refl _⟩ hq
end HK
/-- how many ints the cell in place o of a river has -/
def wl (o : Nat) : Nat := ([8, 100, 100, 0, 0, 0, 0, 0, 0] ++ (List.replicate 10 [5, 100]).flatten ++ (List.replicate 11 [1, 0, 10, 10]).flatten ++ (List.replicate 5 [9, 0, 10, 10]).flatten ++ List.replicate 12 5 ++ List.replicate 6 3 ++ List.replicate 8 4).getD o 0
/-- the first m cells are copied from the river at s to that at r -/
def CPI (σ τ : Sg) (r s m : Nat) : Prop := (∀ a j, ¬ (r ≤ a ∧ a < r + 119) → τ a j = σ a j) ∧ ∀ o j, o < m → j < wl o → τ (r + o) j = σ (s + o) j
def AP (r s : Nat) : Prop := r + 119 ≤ s ∨ s + 119 ≤ r
theorem CPI_1 {σ τ : Sg} {r s m w : Nat} (hA : AP r s) (hm : m < 119) (h : CPI σ τ r s m) (hw : wl m = w) : CPI σ (cpS τ (s + m) (r + m) w) r s (m + 1) := by
  obtain ⟨h1, h2⟩ := h
  unfold AP at hA
  refine ⟨fun a j ha => by rw [cpS_n (by omega)]; exact h1 a j ha, fun o j ho hj => ?_⟩
  by_cases e : o = m
  · subst e; rw [cpS_e ⟨rfl, by omega⟩]; exact h1 _ _ (by omega)
  · rw [cpS_n (by omega)]; exact h2 o j (by omega) hj
theorem CPI_0 {σ τ : Sg} {r s m : Nat} (h : CPI σ τ r s m) (hw : wl m = 0) : CPI σ τ r s (m + 1) := by
  obtain ⟨h1, h2⟩ := h
  refine ⟨h1, fun o j ho hj => ?_⟩
  by_cases e : o = m
  · subst e; omega
  · exact h2 o j (by omega) hj
theorem wlS0 : ∀ i, i < 10 → wl (9 + 2 * i) = 5 := by decide +kernel
theorem wlS1 : ∀ i, i < 10 → wl (9 + 2 * i + 1) = 100 := by decide +kernel
theorem wlL0 : ∀ i, i < 11 → wl (29 + 4 * i) = 1 := by decide +kernel
theorem wlL1 : ∀ i, i < 11 → wl (29 + 4 * i + 1) = 0 := by decide +kernel
theorem wlL2 : ∀ i, i < 11 → wl (29 + 4 * i + 1 + 1) = 10 := by decide +kernel
theorem wlL3 : ∀ i, i < 11 → wl (29 + 4 * i + 1 + 1 + 1) = 10 := by decide +kernel
theorem wlB0 : ∀ i, i < 5 → wl (73 + 4 * i) = 9 := by decide +kernel
theorem wlB1 : ∀ i, i < 5 → wl (73 + 4 * i + 1) = 0 := by decide +kernel
theorem wlB2 : ∀ i, i < 5 → wl (73 + 4 * i + 1 + 1) = 10 := by decide +kernel
theorem wlB3 : ∀ i, i < 5 → wl (73 + 4 * i + 1 + 1 + 1) = 10 := by decide +kernel
theorem wlBA : ∀ i, i < 12 → wl (93 + i) = 5 := by decide +kernel
theorem wlTR : ∀ i, i < 6 → wl (105 + i) = 3 := by decide +kernel
theorem wlRU : ∀ i, i < 8 → wl (111 + i) = 4 := by decide +kernel
section HC
variable {G : Gl} {R : Room} {F : Fn} {K : Int32 → Hp → Prop} {KV : Hp → Prop} {σ : Nat → Nat → Int32} {b : Bool} {r s : Nat}
theorem lp_cS (hD : RV b r) (hE : RV b s) (hA : AP r s) (hZ : ∀ j, j < 10 → ∀ τ : Sg, (∀ a i, ¬ (r ≤ a ∧ a < r + 119) → τ a i = σ a i) → τ (s + (9 + 2 * j)) 4 = 0 ∨ τ (s + (9 + 2 * j)) 4 = 1) (hX : ∀ τ, CPI σ τ r s 29 → V G mX4_copyThings (rl 3) F 0 0 29 [some (.ref r), some (.ref s), some (.int (nI 10))] [] (τ, sh b)) : ∀ n, n ≤ 10 → ∀ j, j + n = 10 → ∀ τ, CPI σ τ r s (9 + 2 * j) → V G mX4_copyThings (rl 3) F 0 0 2 [some (.ref r), some (.ref s), some (.int (nI j))] [] (τ, sh b) := by
  intro n
  induction n with
  | zero =>
    intro _ j hj τ h
    obtain rfl : j = 10 := by omega
    refine V_iload_n (pc := 2) d_X4_copyThings_2 rfl ?_
    refine V_bipush (pc := 3) (nI 10) d_X4_copyThings_3 (by decide) ?_
    refine B_icmp_ge (pc := 5) 29 d_X4_copyThings_5 (by decide) (fun c5 => ?_) (fun c5 => ?_)
    · simp (disch := omega) only [show (nI 10).toInt = 10 from by decide, show (nI 10).toInt = 10 from by decide, nI_toInt, ti0, ti1, tim1, tim20, tim1000] at c5
      exact hX _ h
    · exact absurd (by decide) c5
  | succ n ih =>
    intro _ j hj τ h
    refine V_iload_n (pc := 2) d_X4_copyThings_2 rfl ?_
    refine V_bipush (pc := 3) (nI 10) d_X4_copyThings_3 (by decide) ?_
    refine B_icmp_ge (pc := 5) 29 d_X4_copyThings_5 (by decide) (fun c5 => ?_) (fun c5 => ?_)
    · simp (disch := omega) only [show (nI 10).toInt = 10 from by decide, nI_toInt, ti0, ti1, tim1, tim20, tim1000] at c5
      all_goals omega
    · simp (disch := omega) only [show (nI 10).toInt = 10 from by decide, nI_toInt, ti0, ti1, tim1, tim20, tim1000] at c5
      refine V_aload_n (pc := 8) d_X4_copyThings_8 rfl ?_
      refine P_getR (pc := 9) d_X4_copyThings_9 f_X4_46 (uT0 hD (i := 0) (by decide)) (uR10 hD (i := 0) (by decide)) ?_
      refine V_iload_n (pc := 12) d_X4_copyThings_12 rfl ?_
      refine P_aald (pc := 13) (c := 7) (j) d_X4_copyThings_13 (uT3 hD (i := 0) (by decide)) (by decide) rfl (ln_of (uL3 hD (i := 0) (by decide)) ⟨by omega, by decide⟩) (uES hD (by omega)) ?_
      refine V_aload_n (pc := 14) d_X4_copyThings_14 rfl ?_
      refine P_getR (pc := 15) d_X4_copyThings_15 f_X4_46 (uT0 hE (i := 0) (by decide)) (uR10 hE (i := 0) (by decide)) ?_
      refine V_iload_n (pc := 18) d_X4_copyThings_18 rfl ?_
      refine P_aald (pc := 19) (c := 7) (j) d_X4_copyThings_19 (uT3 hE (i := 0) (by decide)) (by decide) rfl (ln_of (uL3 hE (i := 0) (by decide)) ⟨by omega, by decide⟩) (uES hE (by omega)) ?_
      refine V_cvV (pc := 20) (n := 1) (c := 7) [_] d_X4_copyThings_20 c_X4_102 k_X7_copyFrom ⟨rfl, rfl⟩ (uTS hD (by omega)) rfl (Nat.le_of_ble_eq_true rfl) ⟨Nat.le_of_ble_eq_true rfl, Nat.le_of_ble_eq_true rfl⟩ ⟨Nat.le_refl _, Nat.le_refl _⟩ (ct_X7_copyFrom (uTS hD (by omega)) (uTS hE (by omega)) (hZ j (by omega) τ h.1) (uSs hD (by omega)) (uSs hE (by omega)) (uTs hD (by omega)) (uTs hE (by omega)) (uLs hD (by omega)) (uLs hE (by omega)) ?_)
      refine V_iinc (pc := 23) d_X4_copyThings_23 rfl (by decide) ?_
      refine V_goto (pc := 26) 2 d_X4_copyThings_26 (by decide) ?_
      rw [p1_s]
      exact ih (by omega) (j + 1) (by omega) _ (by have g := CPI_1 hA (by omega) (CPI_1 hA (by omega) h (wlS0 j (by omega))) (wlS1 j (by omega)); rw [show 9 + 2 * j + 1 + 1 = 9 + 2 * (j + 1) by omega, show 9 + 2 * j + 1 = 10 + 2 * j by omega] at g; exact g)
theorem lp_cLD (hD : RV b r) (hE : RV b s) (hA : AP r s) (hX : ∀ τ, CPI σ τ r s 73 → V G mX4_copyThings (rl 3) F 0 0 58 [some (.ref r), some (.ref s), some (.int (nI 11))] [] (τ, sh b)) : ∀ n, n ≤ 11 → ∀ j, j + n = 11 → ∀ τ, CPI σ τ r s (29 + 4 * j) → V G mX4_copyThings (rl 3) F 0 0 31 [some (.ref r), some (.ref s), some (.int (nI j))] [] (τ, sh b) := by
  intro n
  induction n with
  | zero =>
    intro _ j hj τ h
    obtain rfl : j = 11 := by omega
    refine V_iload_n (pc := 31) d_X4_copyThings_31 rfl ?_
    refine V_bipush (pc := 32) (nI 11) d_X4_copyThings_32 (by decide) ?_
    refine B_icmp_ge (pc := 34) 58 d_X4_copyThings_34 (by decide) (fun c34 => ?_) (fun c34 => ?_)
    · simp (disch := omega) only [show (nI 11).toInt = 11 from by decide, show (nI 11).toInt = 11 from by decide, nI_toInt, ti0, ti1, tim1, tim20, tim1000] at c34
      exact hX _ h
    · exact absurd (by decide) c34
  | succ n ih =>
    intro _ j hj τ h
    refine V_iload_n (pc := 31) d_X4_copyThings_31 rfl ?_
    refine V_bipush (pc := 32) (nI 11) d_X4_copyThings_32 (by decide) ?_
    refine B_icmp_ge (pc := 34) 58 d_X4_copyThings_34 (by decide) (fun c34 => ?_) (fun c34 => ?_)
    · simp (disch := omega) only [show (nI 11).toInt = 11 from by decide, nI_toInt, ti0, ti1, tim1, tim20, tim1000] at c34
      all_goals omega
    · simp (disch := omega) only [show (nI 11).toInt = 11 from by decide, nI_toInt, ti0, ti1, tim1, tim20, tim1000] at c34
      refine V_aload_n (pc := 37) d_X4_copyThings_37 rfl ?_
      refine P_getR (pc := 38) d_X4_copyThings_38 f_X4_52 (uT0 hD (i := 0) (by decide)) (uR11 hD (i := 0) (by decide)) ?_
      refine V_iload_n (pc := 41) d_X4_copyThings_41 rfl ?_
      refine P_aald (pc := 42) (c := 3) (j) d_X4_copyThings_42 (uT4 hD (i := 0) (by decide)) (by decide) rfl (ln_of (uL4 hD (i := 0) (by decide)) ⟨by omega, by decide⟩) (uELD hD (by omega)) ?_
      refine V_aload_n (pc := 43) d_X4_copyThings_43 rfl ?_
      refine P_getR (pc := 44) d_X4_copyThings_44 f_X4_52 (uT0 hE (i := 0) (by decide)) (uR11 hE (i := 0) (by decide)) ?_
      refine V_iload_n (pc := 47) d_X4_copyThings_47 rfl ?_
      refine P_aald (pc := 48) (c := 3) (j) d_X4_copyThings_48 (uT4 hE (i := 0) (by decide)) (by decide) rfl (ln_of (uL4 hE (i := 0) (by decide)) ⟨by omega, by decide⟩) (uELD hE (by omega)) ?_
      refine V_cvV (pc := 49) (n := 2) (c := 3) [_] d_X4_copyThings_49 c_X4_106 k_X3_copyFrom ⟨rfl, rfl⟩ (uTLD hD (by omega)) rfl (Nat.le_of_ble_eq_true rfl) ⟨Nat.le_of_ble_eq_true rfl, Nat.le_of_ble_eq_true rfl⟩ ⟨Nat.le_refl _, Nat.le_refl _⟩ (ct_X3_copyFrom (uTLD hD (by omega)) (uTLD hE (by omega)) (uLDw hD (by omega)) (uLDw hE (by omega)) (uTLDw hD (by omega)) (uTLDw hE (by omega)) (uLDw0 hD (by omega)) (uLDw1 hD (by omega)) (uLDw0 hE (by omega)) (uLDw1 hE (by omega)) (uTLDw0 hD (by omega)) (uTLDw1 hD (by omega)) (uTLDw0 hE (by omega)) (uTLDw1 hE (by omega)) (uLLDw0 hD (by omega)) (uLLDw1 hD (by omega)) (uLLDw0 hE (by omega)) (uLLDw1 hE (by omega)) ?_)
      refine V_iinc (pc := 52) d_X4_copyThings_52 rfl (by decide) ?_
      refine V_goto (pc := 55) 31 d_X4_copyThings_55 (by decide) ?_
      rw [p1_s]
      exact ih (by omega) (j + 1) (by omega) _ (by have g := CPI_1 hA (by omega) (CPI_1 hA (by omega) (CPI_0 (CPI_1 hA (by omega) h (wlL0 j (by omega))) (wlL1 j (by omega))) (wlL2 j (by omega))) (wlL3 j (by omega)); rw [show 29 + 4 * j + 1 + 1 + 1 + 1 = 29 + 4 * (j + 1) by omega, show 29 + 4 * j + 1 + 1 + 1 = 32 + 4 * j by omega, show 29 + 4 * j + 1 + 1 = 31 + 4 * j by omega] at g; exact g)
theorem lp_cB (hD : RV b r) (hE : RV b s) (hA : AP r s) (hX : ∀ τ, CPI σ τ r s 93 → V G mX4_copyThings (rl 3) F 0 0 86 [some (.ref r), some (.ref s), some (.int (nI 5))] [] (τ, sh b)) : ∀ n, n ≤ 5 → ∀ j, j + n = 5 → ∀ τ, CPI σ τ r s (73 + 4 * j) → V G mX4_copyThings (rl 3) F 0 0 60 [some (.ref r), some (.ref s), some (.int (nI j))] [] (τ, sh b) := by
  intro n
  induction n with
  | zero =>
    intro _ j hj τ h
    obtain rfl : j = 5 := by omega
    refine V_iload_n (pc := 60) d_X4_copyThings_60 rfl ?_
    refine V_iconst (pc := 61) (nI 5) d_X4_copyThings_61 (by decide) ?_
    refine B_icmp_ge (pc := 62) 86 d_X4_copyThings_62 (by decide) (fun c62 => ?_) (fun c62 => ?_)
    · simp (disch := omega) only [show (nI 5).toInt = 5 from by decide, show (nI 5).toInt = 5 from by decide, nI_toInt, ti0, ti1, tim1, tim20, tim1000] at c62
      exact hX _ h
    · exact absurd (by decide) c62
  | succ n ih =>
    intro _ j hj τ h
    refine V_iload_n (pc := 60) d_X4_copyThings_60 rfl ?_
    refine V_iconst (pc := 61) (nI 5) d_X4_copyThings_61 (by decide) ?_
    refine B_icmp_ge (pc := 62) 86 d_X4_copyThings_62 (by decide) (fun c62 => ?_) (fun c62 => ?_)
    · simp (disch := omega) only [show (nI 5).toInt = 5 from by decide, nI_toInt, ti0, ti1, tim1, tim20, tim1000] at c62
      all_goals omega
    · simp (disch := omega) only [show (nI 5).toInt = 5 from by decide, nI_toInt, ti0, ti1, tim1, tim20, tim1000] at c62
      refine V_aload_n (pc := 65) d_X4_copyThings_65 rfl ?_
      refine P_getR (pc := 66) d_X4_copyThings_66 f_X4_58 (uT0 hD (i := 0) (by decide)) (uR12 hD (i := 0) (by decide)) ?_
      refine V_iload_n (pc := 69) d_X4_copyThings_69 rfl ?_
      refine P_aald (pc := 70) (c := 2) (j) d_X4_copyThings_70 (uT5 hD (i := 0) (by decide)) (by decide) rfl (ln_of (uL5 hD (i := 0) (by decide)) ⟨by omega, by decide⟩) (uEB hD (by omega)) ?_
      refine V_aload_n (pc := 71) d_X4_copyThings_71 rfl ?_
      refine P_getR (pc := 72) d_X4_copyThings_72 f_X4_58 (uT0 hE (i := 0) (by decide)) (uR12 hE (i := 0) (by decide)) ?_
      refine V_iload_n (pc := 75) d_X4_copyThings_75 rfl ?_
      refine P_aald (pc := 76) (c := 2) (j) d_X4_copyThings_76 (uT5 hE (i := 0) (by decide)) (by decide) rfl (ln_of (uL5 hE (i := 0) (by decide)) ⟨by omega, by decide⟩) (uEB hE (by omega)) ?_
      refine V_cvV (pc := 77) (n := 2) (c := 2) [_] d_X4_copyThings_77 c_X4_109 k_X2_copyFrom ⟨rfl, rfl⟩ (uTB hD (by omega)) rfl (Nat.le_of_ble_eq_true rfl) ⟨Nat.le_of_ble_eq_true rfl, Nat.le_of_ble_eq_true rfl⟩ ⟨Nat.le_refl _, Nat.le_refl _⟩ (ct_X2_copyFrom (uTB hD (by omega)) (uTB hE (by omega)) (uBw hD (by omega)) (uBw hE (by omega)) (uTBw hD (by omega)) (uTBw hE (by omega)) (uBw0 hD (by omega)) (uBw1 hD (by omega)) (uBw0 hE (by omega)) (uBw1 hE (by omega)) (uTBw0 hD (by omega)) (uTBw1 hD (by omega)) (uTBw0 hE (by omega)) (uTBw1 hE (by omega)) (uLBw0 hD (by omega)) (uLBw1 hD (by omega)) (uLBw0 hE (by omega)) (uLBw1 hE (by omega)) ?_)
      refine V_iinc (pc := 80) d_X4_copyThings_80 rfl (by decide) ?_
      refine V_goto (pc := 83) 60 d_X4_copyThings_83 (by decide) ?_
      rw [p1_s]
      exact ih (by omega) (j + 1) (by omega) _ (by have g := CPI_1 hA (by omega) (CPI_1 hA (by omega) (CPI_0 (CPI_1 hA (by omega) h (wlB0 j (by omega))) (wlB1 j (by omega))) (wlB2 j (by omega))) (wlB3 j (by omega)); rw [show 73 + 4 * j + 1 + 1 + 1 + 1 = 73 + 4 * (j + 1) by omega, show 73 + 4 * j + 1 + 1 + 1 = 76 + 4 * j by omega, show 73 + 4 * j + 1 + 1 = 75 + 4 * j by omega] at g; exact g)
theorem lp_cBA (hD : RV b r) (hE : RV b s) (hA : AP r s) (hX : ∀ τ, CPI σ τ r s 105 → V G mX4_copyThings (rl 3) F 0 0 115 [some (.ref r), some (.ref s), some (.int (nI 12))] [] (τ, sh b)) : ∀ n, n ≤ 12 → ∀ j, j + n = 12 → ∀ τ, CPI σ τ r s (93 + j) → V G mX4_copyThings (rl 3) F 0 0 88 [some (.ref r), some (.ref s), some (.int (nI j))] [] (τ, sh b) := by
  intro n
  induction n with
  | zero =>
    intro _ j hj τ h
    obtain rfl : j = 12 := by omega
    refine V_iload_n (pc := 88) d_X4_copyThings_88 rfl ?_
    refine V_bipush (pc := 89) (nI 12) d_X4_copyThings_89 (by decide) ?_
    refine B_icmp_ge (pc := 91) 115 d_X4_copyThings_91 (by decide) (fun c91 => ?_) (fun c91 => ?_)
    · simp (disch := omega) only [show (nI 12).toInt = 12 from by decide, show (nI 12).toInt = 12 from by decide, nI_toInt, ti0, ti1, tim1, tim20, tim1000] at c91
      exact hX _ h
    · exact absurd (by decide) c91
  | succ n ih =>
    intro _ j hj τ h
    refine V_iload_n (pc := 88) d_X4_copyThings_88 rfl ?_
    refine V_bipush (pc := 89) (nI 12) d_X4_copyThings_89 (by decide) ?_
    refine B_icmp_ge (pc := 91) 115 d_X4_copyThings_91 (by decide) (fun c91 => ?_) (fun c91 => ?_)
    · simp (disch := omega) only [show (nI 12).toInt = 12 from by decide, nI_toInt, ti0, ti1, tim1, tim20, tim1000] at c91
      all_goals omega
    · simp (disch := omega) only [show (nI 12).toInt = 12 from by decide, nI_toInt, ti0, ti1, tim1, tim20, tim1000] at c91
      refine V_aload_n (pc := 94) d_X4_copyThings_94 rfl ?_
      refine P_getR (pc := 95) d_X4_copyThings_95 f_X4_64 (uT0 hD (i := 0) (by decide)) (uR13 hD (i := 0) (by decide)) ?_
      refine V_iload_n (pc := 98) d_X4_copyThings_98 rfl ?_
      refine P_aald (pc := 99) (c := 1) (j) d_X4_copyThings_99 (uT6 hD (i := 0) (by decide)) (by decide) rfl (ln_of (uL6 hD (i := 0) (by decide)) ⟨by omega, by decide⟩) (uEBA hD (by omega)) ?_
      refine V_aload_n (pc := 100) d_X4_copyThings_100 rfl ?_
      refine P_getR (pc := 101) d_X4_copyThings_101 f_X4_64 (uT0 hE (i := 0) (by decide)) (uR13 hE (i := 0) (by decide)) ?_
      refine V_iload_n (pc := 104) d_X4_copyThings_104 rfl ?_
      refine P_aald (pc := 105) (c := 1) (j) d_X4_copyThings_105 (uT6 hE (i := 0) (by decide)) (by decide) rfl (ln_of (uL6 hE (i := 0) (by decide)) ⟨by omega, by decide⟩) (uEBA hE (by omega)) ?_
      refine V_cvV (pc := 106) (n := 1) (c := 1) [_] d_X4_copyThings_106 c_X4_112 k_X1_copyFrom ⟨rfl, rfl⟩ (uTBA hD (by omega)) rfl (Nat.le_of_ble_eq_true rfl) ⟨Nat.le_of_ble_eq_true rfl, Nat.le_of_ble_eq_true rfl⟩ ⟨Nat.le_refl _, Nat.le_refl _⟩ (ct_X1_copyFrom (uTBA hD (by omega)) (uTBA hE (by omega)) ?_)
      refine V_iinc (pc := 109) d_X4_copyThings_109 rfl (by decide) ?_
      refine V_goto (pc := 112) 88 d_X4_copyThings_112 (by decide) ?_
      rw [p1_s]
      exact ih (by omega) (j + 1) (by omega) _ (CPI_1 hA (by omega) h (wlBA j (by omega)))
theorem lp_cTR (hD : RV b r) (hE : RV b s) (hA : AP r s) (hX : ∀ τ, CPI σ τ r s 111 → V G mX4_copyThings (rl 3) F 0 0 144 [some (.ref r), some (.ref s), some (.int (nI 6))] [] (τ, sh b)) : ∀ n, n ≤ 6 → ∀ j, j + n = 6 → ∀ τ, CPI σ τ r s (105 + j) → V G mX4_copyThings (rl 3) F 0 0 117 [some (.ref r), some (.ref s), some (.int (nI j))] [] (τ, sh b) := by
  intro n
  induction n with
  | zero =>
    intro _ j hj τ h
    obtain rfl : j = 6 := by omega
    refine V_iload_n (pc := 117) d_X4_copyThings_117 rfl ?_
    refine V_bipush (pc := 118) (nI 6) d_X4_copyThings_118 (by decide) ?_
    refine B_icmp_ge (pc := 120) 144 d_X4_copyThings_120 (by decide) (fun c120 => ?_) (fun c120 => ?_)
    · simp (disch := omega) only [show (nI 6).toInt = 6 from by decide, show (nI 6).toInt = 6 from by decide, nI_toInt, ti0, ti1, tim1, tim20, tim1000] at c120
      exact hX _ h
    · exact absurd (by decide) c120
  | succ n ih =>
    intro _ j hj τ h
    refine V_iload_n (pc := 117) d_X4_copyThings_117 rfl ?_
    refine V_bipush (pc := 118) (nI 6) d_X4_copyThings_118 (by decide) ?_
    refine B_icmp_ge (pc := 120) 144 d_X4_copyThings_120 (by decide) (fun c120 => ?_) (fun c120 => ?_)
    · simp (disch := omega) only [show (nI 6).toInt = 6 from by decide, nI_toInt, ti0, ti1, tim1, tim20, tim1000] at c120
      all_goals omega
    · simp (disch := omega) only [show (nI 6).toInt = 6 from by decide, nI_toInt, ti0, ti1, tim1, tim20, tim1000] at c120
      refine V_aload_n (pc := 123) d_X4_copyThings_123 rfl ?_
      refine P_getR (pc := 124) d_X4_copyThings_124 f_X4_70 (uT0 hD (i := 0) (by decide)) (uR14 hD (i := 0) (by decide)) ?_
      refine V_iload_n (pc := 127) d_X4_copyThings_127 rfl ?_
      refine P_aald (pc := 128) (c := 8) (j) d_X4_copyThings_128 (uT7 hD (i := 0) (by decide)) (by decide) rfl (ln_of (uL7 hD (i := 0) (by decide)) ⟨by omega, by decide⟩) (uETR hD (by omega)) ?_
      refine V_aload_n (pc := 129) d_X4_copyThings_129 rfl ?_
      refine P_getR (pc := 130) d_X4_copyThings_130 f_X4_70 (uT0 hE (i := 0) (by decide)) (uR14 hE (i := 0) (by decide)) ?_
      refine V_iload_n (pc := 133) d_X4_copyThings_133 rfl ?_
      refine P_aald (pc := 134) (c := 8) (j) d_X4_copyThings_134 (uT7 hE (i := 0) (by decide)) (by decide) rfl (ln_of (uL7 hE (i := 0) (by decide)) ⟨by omega, by decide⟩) (uETR hE (by omega)) ?_
      refine V_cvV (pc := 135) (n := 2) (c := 8) [_] d_X4_copyThings_135 c_X4_115 k_X8_copyFrom ⟨rfl, rfl⟩ (uTTR hD (by omega)) rfl (Nat.le_of_ble_eq_true rfl) ⟨Nat.le_of_ble_eq_true rfl, Nat.le_of_ble_eq_true rfl⟩ ⟨Nat.le_refl _, Nat.le_refl _⟩ (ct_X8_copyFrom (uTTR hD (by omega)) (uTTR hE (by omega)) ?_)
      refine V_iinc (pc := 138) d_X4_copyThings_138 rfl (by decide) ?_
      refine V_goto (pc := 141) 117 d_X4_copyThings_141 (by decide) ?_
      rw [p1_s]
      exact ih (by omega) (j + 1) (by omega) _ (CPI_1 hA (by omega) h (wlTR j (by omega)))
theorem lp_cRU (hD : RV b r) (hE : RV b s) (hA : AP r s) (hX : ∀ τ, CPI σ τ r s 119 → V G mX4_copyThings (rl 3) F 0 0 173 [some (.ref r), some (.ref s), some (.int (nI 8))] [] (τ, sh b)) : ∀ n, n ≤ 8 → ∀ j, j + n = 8 → ∀ τ, CPI σ τ r s (111 + j) → V G mX4_copyThings (rl 3) F 0 0 146 [some (.ref r), some (.ref s), some (.int (nI j))] [] (τ, sh b) := by
  intro n
  induction n with
  | zero =>
    intro _ j hj τ h
    obtain rfl : j = 8 := by omega
    refine V_iload_n (pc := 146) d_X4_copyThings_146 rfl ?_
    refine V_bipush (pc := 147) (nI 8) d_X4_copyThings_147 (by decide) ?_
    refine B_icmp_ge (pc := 149) 173 d_X4_copyThings_149 (by decide) (fun c149 => ?_) (fun c149 => ?_)
    · simp (disch := omega) only [show (nI 8).toInt = 8 from by decide, show (nI 8).toInt = 8 from by decide, nI_toInt, ti0, ti1, tim1, tim20, tim1000] at c149
      exact hX _ h
    · exact absurd (by decide) c149
  | succ n ih =>
    intro _ j hj τ h
    refine V_iload_n (pc := 146) d_X4_copyThings_146 rfl ?_
    refine V_bipush (pc := 147) (nI 8) d_X4_copyThings_147 (by decide) ?_
    refine B_icmp_ge (pc := 149) 173 d_X4_copyThings_149 (by decide) (fun c149 => ?_) (fun c149 => ?_)
    · simp (disch := omega) only [show (nI 8).toInt = 8 from by decide, nI_toInt, ti0, ti1, tim1, tim20, tim1000] at c149
      all_goals omega
    · simp (disch := omega) only [show (nI 8).toInt = 8 from by decide, nI_toInt, ti0, ti1, tim1, tim20, tim1000] at c149
      refine V_aload_n (pc := 152) d_X4_copyThings_152 rfl ?_
      refine P_getR (pc := 153) d_X4_copyThings_153 f_X4_76 (uT0 hD (i := 0) (by decide)) (uR15 hD (i := 0) (by decide)) ?_
      refine V_iload_n (pc := 156) d_X4_copyThings_156 rfl ?_
      refine P_aald (pc := 157) (c := 5) (j) d_X4_copyThings_157 (uT8 hD (i := 0) (by decide)) (by decide) rfl (ln_of (uL8 hD (i := 0) (by decide)) ⟨by omega, by decide⟩) (uERU hD (by omega)) ?_
      refine V_aload_n (pc := 158) d_X4_copyThings_158 rfl ?_
      refine P_getR (pc := 159) d_X4_copyThings_159 f_X4_76 (uT0 hE (i := 0) (by decide)) (uR15 hE (i := 0) (by decide)) ?_
      refine V_iload_n (pc := 162) d_X4_copyThings_162 rfl ?_
      refine P_aald (pc := 163) (c := 5) (j) d_X4_copyThings_163 (uT8 hE (i := 0) (by decide)) (by decide) rfl (ln_of (uL8 hE (i := 0) (by decide)) ⟨by omega, by decide⟩) (uERU hE (by omega)) ?_
      refine V_cvV (pc := 164) (n := 2) (c := 5) [_] d_X4_copyThings_164 c_X4_118 k_X5_copyFrom ⟨rfl, rfl⟩ (uTRU hD (by omega)) rfl (Nat.le_of_ble_eq_true rfl) ⟨Nat.le_of_ble_eq_true rfl, Nat.le_of_ble_eq_true rfl⟩ ⟨Nat.le_refl _, Nat.le_refl _⟩ (ct_X5_copyFrom (uTRU hD (by omega)) (uTRU hE (by omega)) ?_)
      refine V_iinc (pc := 167) d_X4_copyThings_167 rfl (by decide) ?_
      refine V_goto (pc := 170) 146 d_X4_copyThings_170 (by decide) ?_
      rw [p1_s]
      exact ih (by omega) (j + 1) (by omega) _ (CPI_1 hA (by omega) h (wlRU j (by omega)))
theorem ct_X4_copyThings {τ : Sg} (hD : RV b r) (hE : RV b s) (hA : AP r s) (hZ : ∀ j, j < 10 → ∀ τ : Sg, (∀ a i, ¬ (r ≤ a ∧ a < r + 119) → τ a i = σ a i) → τ (s + (9 + 2 * j)) 4 = 0 ∨ τ (s + (9 + 2 * j)) 4 = 1) (h0 : CPI σ τ r s 9) (hk : ∀ κ, CPI σ κ r s 119 → KV (κ, sh b)) : CM G mX4_copyThings (rl 3) [.ref r, .ref s] (τ, sh b) (QV KV) := by
  refine CM.of (by decide) (Nat.le_of_ble_eq_true rfl) (cats1 rfl) ?_
  refine V_iconst (pc := 0) (0) d_X4_copyThings_0 (by decide) ?_
  refine V_istore_n (pc := 1) d_X4_copyThings_1 (by decide) ?_
  refine lp_cS (F := FM G (rl 3) (QV KV)) hD hE hA hZ (fun κS gS => ?_) 10 (Nat.le_refl _) 0 (by omega) _ h0
  refine V_iconst (pc := 29) (0) d_X4_copyThings_29 (by decide) ?_
  refine V_istore_n (pc := 30) d_X4_copyThings_30 (by decide) ?_
  refine lp_cLD (F := FM G (rl 3) (QV KV)) hD hE hA (fun κLD gLD => ?_) 11 (Nat.le_refl _) 0 (by omega) _ gS
  refine V_iconst (pc := 58) (0) d_X4_copyThings_58 (by decide) ?_
  refine V_istore_n (pc := 59) d_X4_copyThings_59 (by decide) ?_
  refine lp_cB (F := FM G (rl 3) (QV KV)) hD hE hA (fun κB gB => ?_) 5 (Nat.le_refl _) 0 (by omega) _ gLD
  refine V_iconst (pc := 86) (0) d_X4_copyThings_86 (by decide) ?_
  refine V_istore_n (pc := 87) d_X4_copyThings_87 (by decide) ?_
  refine lp_cBA (F := FM G (rl 3) (QV KV)) hD hE hA (fun κBA gBA => ?_) 12 (Nat.le_refl _) 0 (by omega) _ gB
  refine V_iconst (pc := 115) (0) d_X4_copyThings_115 (by decide) ?_
  refine V_istore_n (pc := 116) d_X4_copyThings_116 (by decide) ?_
  refine lp_cTR (F := FM G (rl 3) (QV KV)) hD hE hA (fun κTR gTR => ?_) 6 (Nat.le_refl _) 0 (by omega) _ gBA
  refine V_iconst (pc := 144) (0) d_X4_copyThings_144 (by decide) ?_
  refine V_istore_n (pc := 145) d_X4_copyThings_145 (by decide) ?_
  refine lp_cRU (F := FM G (rl 3) (QV KV)) hD hE hA (fun κRU gRU => ?_) 8 (Nat.le_refl _) 0 (by omega) _ gTR
  exact V_retV (pc := 173) d_X4_copyThings_173 rfl ⟨Nat.le_refl _, Nat.le_refl _⟩ (hk _ gRU)
theorem cpS_0 {τ : Sg} {ks kd : Nat} : cpS τ ks kd 0 = τ := by
  funext a j
  exact if_neg (fun w => absurd w.2 (Nat.not_lt_zero _))
theorem lp_cold {τ : Sg} (hD : RV b r) (hE : RV b s) (hX : V G mX4_copyFrom (rl 4) F 0 0 105 [some (.ref r), some (.ref s), some (.int (nI 100))] [] (cpS τ (s + 2) (r + 2) 100, sh b)) : ∀ n, n ≤ 100 → ∀ j, j + n = 100 → V G mX4_copyFrom (rl 4) F 0 0 81 [some (.ref r), some (.ref s), some (.int (nI j))] [] (cpS τ (s + 2) (r + 2) j, sh b) := by
  intro n
  induction n with
  | zero =>
    intro _ j hj
    obtain rfl : j = 100 := by omega
    refine V_iload_n (pc := 81) d_X4_copyFrom_81 rfl ?_
    refine V_bipush (pc := 82) (nI 100) d_X4_copyFrom_82 (by decide) ?_
    refine B_icmp_ge (pc := 84) 105 d_X4_copyFrom_84 (by decide) (fun c84 => ?_) (fun c84 => ?_)
    · simp (disch := omega) only [show (nI 100).toInt = 100 from by decide, show (nI 100).toInt = 100 from by decide, nI_toInt, ti0, ti1, tim1, tim20, tim1000] at c84
      exact hX
    · exact absurd (by decide) c84
  | succ n ih =>
    intro _ j hj
    have e0 : cpS τ (s + 2) (r + 2) j (s + 2) j = τ (s + 2) j := cpS_n (by omega)
    refine V_hr (P := zo (cpS τ (s + 2) (r + 2) j (s + 2) j)) (fun H hH => hH.zall (uT2 hE (i := 0) (by decide)) (Nat.lt_of_lt_of_eq (by omega) (uL2 hE (i := 0) (by decide)).symm)) (fun z0 => ?_)
    rw [e0] at z0
    refine V_iload_n (pc := 81) d_X4_copyFrom_81 rfl ?_
    refine V_bipush (pc := 82) (nI 100) d_X4_copyFrom_82 (by decide) ?_
    refine B_icmp_ge (pc := 84) 105 d_X4_copyFrom_84 (by decide) (fun c84 => ?_) (fun c84 => ?_)
    · simp (disch := omega) only [show (nI 100).toInt = 100 from by decide, nI_toInt, ti0, ti1, tim1, tim20, tim1000] at c84
      all_goals omega
    · simp (disch := omega) only [show (nI 100).toInt = 100 from by decide, nI_toInt, ti0, ti1, tim1, tim20, tim1000] at c84
      refine V_aload_n (pc := 87) d_X4_copyFrom_87 rfl ?_
      refine P_getR (pc := 88) d_X4_copyFrom_88 f_X4_40 (uT0 hD (i := 0) (by decide)) (uR9 hD (i := 0) (by decide)) ?_
      refine V_iload_n (pc := 91) d_X4_copyFrom_91 rfl ?_
      refine V_aload_n (pc := 92) d_X4_copyFrom_92 rfl ?_
      refine P_getR (pc := 93) d_X4_copyFrom_93 f_X4_40 (uT0 hE (i := 0) (by decide)) (uR9 hE (i := 0) (by decide)) ?_
      refine V_iload_n (pc := 96) d_X4_copyFrom_96 rfl ?_
      refine P_zald (pc := 97) (j) d_X4_copyFrom_97 (uT2 hE (i := 0) (by decide)) rfl (ln_of (uL2 hE (i := 0) (by decide)) ⟨by omega, by decide⟩) ?_
      rw [e0]
      refine P_zast (pc := 98) (j) d_X4_copyFrom_98 (uT2 hD (i := 0) (by decide)) rfl (ln_of (uL2 hD (i := 0) (by decide)) ⟨by omega, by decide⟩) z0 ?_
      rw [cpS_s (m := j + 1) rfl]
      refine V_iinc (pc := 99) d_X4_copyFrom_99 rfl (by decide) ?_
      refine V_goto (pc := 102) 81 d_X4_copyFrom_102 (by decide) ?_
      rw [p1_s]
      exact ih (by omega) (j + 1) (by omega)
theorem ct_X4_copyFrom (hD : RV b r) (hE : RV b s) (hA : AP r s) (hZ : ∀ j, j < 10 → ∀ τ : Sg, (∀ a i, ¬ (r ≤ a ∧ a < r + 119) → τ a i = σ a i) → τ (s + (9 + 2 * j)) 4 = 0 ∨ τ (s + (9 + 2 * j)) 4 = 1) (hk : ∀ κ, CPI σ κ r s 119 → KV (κ, sh b)) : CM G mX4_copyFrom (rl 4) [.ref r, .ref s] (σ, sh b) (QV KV) := by
  refine CM.of (by decide) (Nat.le_of_ble_eq_true rfl) (cats1 rfl) ?_
  refine V_aload_n (pc := 0) d_X4_copyFrom_0 rfl ?_
  refine V_aload_n (pc := 1) d_X4_copyFrom_1 rfl ?_
  refine P_getI (pc := 2) d_X4_copyFrom_2 f_X4_9 (uT0 hE (i := 0) (by decide)) ?_
  refine P_putI (pc := 5) d_X4_copyFrom_5 f_X4_9 (uT0 hD (i := 0) (by decide)) ?_
  refine V_aload_n (pc := 8) d_X4_copyFrom_8 rfl ?_
  refine V_aload_n (pc := 9) d_X4_copyFrom_9 rfl ?_
  refine P_getI (pc := 10) d_X4_copyFrom_10 f_X4_15 (uT0 hE (i := 0) (by decide)) ?_
  simp (disch := omega) only [up2_n, up2_e]
  refine P_putI (pc := 13) d_X4_copyFrom_13 f_X4_15 (uT0 hD (i := 0) (by decide)) ?_
  refine V_aload_n (pc := 16) d_X4_copyFrom_16 rfl ?_
  refine V_aload_n (pc := 17) d_X4_copyFrom_17 rfl ?_
  refine P_getI (pc := 18) d_X4_copyFrom_18 f_X4_18 (uT0 hE (i := 0) (by decide)) ?_
  simp (disch := omega) only [up2_n, up2_e]
  refine P_putI (pc := 21) d_X4_copyFrom_21 f_X4_18 (uT0 hD (i := 0) (by decide)) ?_
  refine V_aload_n (pc := 24) d_X4_copyFrom_24 rfl ?_
  refine V_aload_n (pc := 25) d_X4_copyFrom_25 rfl ?_
  refine P_getI (pc := 26) d_X4_copyFrom_26 f_X4_21 (uT0 hE (i := 0) (by decide)) ?_
  simp (disch := omega) only [up2_n, up2_e]
  refine P_putI (pc := 29) d_X4_copyFrom_29 f_X4_21 (uT0 hD (i := 0) (by decide)) ?_
  refine V_aload_n (pc := 32) d_X4_copyFrom_32 rfl ?_
  refine V_aload_n (pc := 33) d_X4_copyFrom_33 rfl ?_
  refine P_getI (pc := 34) d_X4_copyFrom_34 f_X4_24 (uT0 hE (i := 0) (by decide)) ?_
  simp (disch := omega) only [up2_n, up2_e]
  refine P_putI (pc := 37) d_X4_copyFrom_37 f_X4_24 (uT0 hD (i := 0) (by decide)) ?_
  refine V_aload_n (pc := 40) d_X4_copyFrom_40 rfl ?_
  refine V_aload_n (pc := 41) d_X4_copyFrom_41 rfl ?_
  refine P_getI (pc := 42) d_X4_copyFrom_42 f_X4_27 (uT0 hE (i := 0) (by decide)) ?_
  simp (disch := omega) only [up2_n, up2_e]
  refine P_putI (pc := 45) d_X4_copyFrom_45 f_X4_27 (uT0 hD (i := 0) (by decide)) ?_
  refine V_aload_n (pc := 48) d_X4_copyFrom_48 rfl ?_
  refine V_aload_n (pc := 49) d_X4_copyFrom_49 rfl ?_
  refine P_getI (pc := 50) d_X4_copyFrom_50 f_X4_30 (uT0 hE (i := 0) (by decide)) ?_
  simp (disch := omega) only [up2_n, up2_e]
  refine P_putI (pc := 53) d_X4_copyFrom_53 f_X4_30 (uT0 hD (i := 0) (by decide)) ?_
  refine V_aload_n (pc := 56) d_X4_copyFrom_56 rfl ?_
  refine V_aload_n (pc := 57) d_X4_copyFrom_57 rfl ?_
  refine P_getI (pc := 58) d_X4_copyFrom_58 f_X4_33 (uT0 hE (i := 0) (by decide)) ?_
  simp (disch := omega) only [up2_n, up2_e]
  refine P_putI (pc := 61) d_X4_copyFrom_61 f_X4_33 (uT0 hD (i := 0) (by decide)) ?_
  rw [cpS_b, cpS_s (m := 2) rfl, cpS_s (m := 3) rfl, cpS_s (m := 4) rfl, cpS_s (m := 5) rfl, cpS_s (m := 6) rfl, cpS_s (m := 7) rfl, cpS_s (m := 8) rfl]
  refine V_aload_n (pc := 64) d_X4_copyFrom_64 rfl ?_
  refine P_getR (pc := 65) d_X4_copyFrom_65 f_X4_36 (uT0 hE (i := 0) (by decide)) (uR8 hE (i := 0) (by decide)) ?_
  refine V_iconst (pc := 68) (0) d_X4_copyFrom_68 (by decide) ?_
  refine V_aload_n (pc := 69) d_X4_copyFrom_69 rfl ?_
  refine P_getR (pc := 70) d_X4_copyFrom_70 f_X4_36 (uT0 hD (i := 0) (by decide)) (uR8 hD (i := 0) (by decide)) ?_
  refine V_iconst (pc := 73) (0) d_X4_copyFrom_73 (by decide) ?_
  refine V_bipush (pc := 74) (nI 100) d_X4_copyFrom_74 (by decide) ?_
  refine V_copyI (pc := 76) (n := 100) d_X4_copyFrom_76 cp_X4_92 (uT1 hE (i := 0) (by decide)) (uT1 hD (i := 0) (by decide)) ⟨by rw [(uL1 hE (i := 0) (by decide))]; exact Nat.le_refl _, by rw [(uL1 hD (i := 0) (by decide))]; exact Nat.le_refl _, by decide⟩ ⟨Nat.le_of_ble_eq_true rfl, by decide +kernel⟩ ?_
  refine V_iconst (pc := 79) (0) d_X4_copyFrom_79 (by decide) ?_
  refine V_istore_n (pc := 80) d_X4_copyFrom_80 (by decide) ?_
  rw [← cpS_0 (τ := cpS (cpS σ s r 8) (s + 1) (r + 1) 100) (ks := s + 2) (kd := r + 2)]
  refine lp_cold (F := FM G (rl 4) (QV KV)) hD hE ?_ 100 (Nat.le_refl _) 0 (by omega)
  have g0 : CPI σ (cpS (cpS (cpS σ s r 8) (s + 1) (r + 1) 100) (s + 2) (r + 2) 100) r s 9 := CPI_0 (CPI_0 (CPI_0 (CPI_0 (CPI_0 (CPI_0 (CPI_1 hA (m := 2) (by decide) (CPI_1 hA (m := 1) (by decide) (CPI_1 hA (m := 0) (by decide) ⟨fun _ _ _ => rfl, fun o j ho => absurd ho (by omega)⟩ (w := 8) (by decide +kernel)) (w := 100) (by decide +kernel)) (w := 100) (by decide +kernel)) (by decide +kernel)) (by decide +kernel)) (by decide +kernel)) (by decide +kernel)) (by decide +kernel)) (by decide +kernel)
  refine V_aload_n (pc := 105) d_X4_copyFrom_105 rfl ?_
  refine V_aload_n (pc := 106) d_X4_copyFrom_106 rfl ?_
  refine V_cvV (pc := 107) (n := 3) (c := 4) [_] d_X4_copyFrom_107 c_X4_98 k_X4_copyThings ⟨rfl, rfl⟩ (uT0 hD (i := 0) (by decide)) rfl (Nat.le_of_ble_eq_true rfl) ⟨Nat.le_of_ble_eq_true rfl, Nat.le_of_ble_eq_true rfl⟩ ⟨Nat.le_refl _, Nat.le_refl _⟩ (ct_X4_copyThings hD hE hA hZ g0 (fun κ g => ?_))
  exact V_retV (pc := 110) d_X4_copyFrom_110 rfl ⟨Nat.le_refl _, Nat.le_refl _⟩ (hk κ g)
end HC
