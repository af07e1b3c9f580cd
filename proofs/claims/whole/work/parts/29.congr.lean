/-! ===== what stays when other cells are written ===== -/
section CG
variable {σ σ' V V' : Sg} {r ns nb nl nt nr q : Nat}
theorem cCnt_cg (h : cCnt σ r V q ns nb nl nt nr) (hs : ∀ i, i ≤ 7 → i ≠ 6 → σ' r i = σ r i) (hv : ∀ i, (i = 1 ∨ i = 2 ∨ i = 12 ∨ i = 24 ∨ i = 30 ∨ i = 31 ∨ i = 35) → V' 139 i = V 139 i) : cCnt σ' r V' q ns nb nl nt nr := by
  unfold cCnt at h ⊢
  rw [hs 0 (by omega) (by omega), hs 1 (by omega) (by omega), hs 2 (by omega) (by omega), hs 3 (by omega) (by omega), hs 4 (by omega) (by omega), hs 5 (by omega) (by omega), hs 7 (by omega) (by omega),
    hv 1 (by omega), hv 2 (by omega), hv 12 (by omega), hv 24 (by omega), hv 30 (by omega), hv 31 (by omega), hv 35 (by omega)]
  exact h
theorem cnt_cg {p p' : Nat → Bool} : ∀ {n : Nat}, (∀ i, i < n → p' i = p i) → cnt p' n = cnt p n
  | 0, _ => rfl
  | n + 1, h => by rw [cnt, cnt, cnt_cg (fun i hi => h i (by omega)), h n (by omega)]
theorem cH_cg (h : cH σ r V) (h6 : σ' r 6 = σ r 6) (hs : ∀ d, d < 100 → σ' (r + 1) d = σ (r + 1) d) (hv : ∀ d, d < 100 → V' 146 d = V 146 d ∧ V' 147 d = V 147 d) : cH σ' r V' := by
  refine ⟨fun d hd => ?_, ?_⟩
  · rw [hs d hd, (hv d hd).1, (hv d hd).2]
    exact h.1 d hd
  · rw [h6, h.2]
    exact congrArg nI (cnt_cg (fun i hi => by rw [(hv i hi).2])).symm
theorem cC_cg (h : cC σ r V) (hs : ∀ d, d < 100 → σ' (r + 2) d = σ (r + 2) d) (hv : ∀ d, d < 100 → V' 148 d = V 148 d) : cC σ' r V' := by
  intro d hd
  rw [hs d hd, hv d hd]
  exact h d hd
theorem cS_cg (h : cS σ r V ns) (hs : ∀ k, k < ns → (∀ j, σ' (r + 9 + 2 * k) j = σ (r + 9 + 2 * k) j) ∧ ∀ d, d < 100 → σ' (r + 10 + 2 * k) d = σ (r + 10 + 2 * k) d)
    (hv : ∀ k, k < ns → V' 140 k = V 140 k ∧ V' 141 k = V 141 k ∧ V' 142 k = V 142 k ∧ V' 143 k = V 143 k) (hw : ∀ i, i < 100 * ns → V' 144 i = V 144 i ∧ V' 145 i = V 145 i) : cS σ' r V' ns := by
  intro k hk
  obtain ⟨a1, a2⟩ := hs k hk
  obtain ⟨b1, b2, b3, b4⟩ := hv k hk
  obtain ⟨h1, h2, h3, h4, h5, h6⟩ := h k hk
  refine ⟨?_, ?_, ?_, ?_, ?_, fun d hd => ?_⟩
  · rw [a1, a1, a1, a1, a1, b1, b2, b3, b4]; exact h1
  · rw [b1]; exact h2
  · rw [b2]; exact h3
  · rw [b3]; exact h4
  · rw [b4]; exact h5
  · rw [a2 d hd, b1, (hw (100 * k + d) (by omega)).1, (hw (100 * k + d) (by omega)).2]
    exact h6 d hd
theorem cW_cg {w p m : Nat} (h : cW σ w p V m ns) (hs : ∀ k, k < 10 → σ' w k = σ w k ∧ σ' p k = σ p k) (hv : ∀ k, k < 10 → V' 157 (m + k) = V 157 (m + k) ∧ V' 158 (m + k) = V 158 (m + k)) : cW σ' w p V' m ns := by
  intro k hk
  rw [(hs k hk).1, (hs k hk).2, (hv k hk).1, (hv k hk).2]
  exact h k hk
theorem cL_cg (h : cL σ r V ns) (hs : ∀ l, l < 11 → σ' (r + 29 + 4 * l) 0 = σ (r + 29 + 4 * l) 0 ∧ ∀ k, k < 10 → σ' (r + 31 + 4 * l) k = σ (r + 31 + 4 * l) k ∧ σ' (r + 32 + 4 * l) k = σ (r + 32 + 4 * l) k)
    (hv : ∀ l, l < 11 → V' 159 l = V 159 l) (hw : ∀ m, 50 ≤ m → m < 160 → V' 157 m = V 157 m ∧ V' 158 m = V 158 m) : cL σ' r V' ns := by
  intro l hl
  obtain ⟨h1, h2, h3, h4⟩ := h l hl
  rw [(hs l hl).1, hv l hl]
  refine ⟨h1, h2, cW_cg h3 (hs l hl).2 (fun k hk => hw _ (by omega) (by omega)), fun q => ⟨(h4 q).1, fun k hk => ?_⟩⟩
  rw [(hw (10 * (5 + l) + k) (by omega) (by omega)).2]
  exact (h4 q).2 k hk
theorem aboS_cg {i : Nat} : ∀ {n : Nat}, (∀ j, j < n → V' 161 j = V 161 j ∧ V' 163 j = V 163 j ∧ V' 164 j = V 164 j) → aboS V' i n = aboS V i n
  | 0, _ => rfl
  | n + 1, h => by rw [aboS, aboS, aboS_cg (fun j hj => h j (by omega)), (h n (by omega)).1, (h n (by omega)).2.1, (h n (by omega)).2.2]
theorem cB_cg (h : cB σ r V ns nb nl) (hs : ∀ i, i < nb → (∀ j, σ' (r + 73 + 4 * i) j = σ (r + 73 + 4 * i) j) ∧ ∀ k, k < 10 → σ' (r + 75 + 4 * i) k = σ (r + 75 + 4 * i) k ∧ σ' (r + 76 + 4 * i) k = σ (r + 76 + 4 * i) k)
    (hv : ∀ i, i < nb → ∀ a, 149 ≤ a → a ≤ 156 → V' a i = V a i) (hw : ∀ m, m < 10 * nb → V' 157 m = V 157 m ∧ V' 158 m = V 158 m) (hl : ∀ j, j < nl → V' 161 j = V 161 j ∧ V' 163 j = V 163 j ∧ V' 164 j = V 164 j) : cB σ' r V' ns nb nl := by
  intro i hi
  obtain ⟨h1, h2, h3, h4, h5, h6⟩ := h i hi
  obtain ⟨a1, a2⟩ := hs i hi
  have e := hv i hi
  rw [a1, a1, a1, a1, a1, a1, a1, a1, a1, e 149 (by omega) (by omega), e 150 (by omega) (by omega), e 151 (by omega) (by omega), e 152 (by omega) (by omega), e 153 (by omega) (by omega), e 154 (by omega) (by omega), e 155 (by omega) (by omega), e 156 (by omega) (by omega), aboS_cg hl]
  exact ⟨h1, h2, h3, h4, h5, cW_cg h6 a2 (fun k hk => hw _ (by omega))⟩
theorem cA_cg (h : cA σ r V ns nb nl) (hs : ∀ j, j < nl → ∀ i, σ' (r + 93 + j) i = σ (r + 93 + j) i) (hv : ∀ j, j < nl → ∀ a, 160 ≤ a → a ≤ 164 → V' a j = V a j) : cA σ' r V' ns nb nl := by
  intro j hj
  have e := hv j hj
  rw [hs j hj, hs j hj, hs j hj, hs j hj, hs j hj, e 160 (by omega) (by omega), e 161 (by omega) (by omega), e 162 (by omega) (by omega), e 163 (by omega) (by omega), e 164 (by omega) (by omega)]
  exact h j hj
theorem cT_cg (h : cT σ r V ns nt) (hs : ∀ j, j < nt → ∀ i, σ' (r + 105 + j) i = σ (r + 105 + j) i) (hv : ∀ j, j < nt → ∀ a, 165 ≤ a → a ≤ 167 → V' a j = V a j) : cT σ' r V' ns nt := by
  intro j hj
  have e := hv j hj
  rw [hs j hj, hs j hj, hs j hj, e 165 (by omega) (by omega), e 166 (by omega) (by omega), e 167 (by omega) (by omega)]
  exact h j hj
theorem cU_cg (h : cU σ r V nr) (hs : ∀ j, j < nr → ∀ i, σ' (r + 111 + j) i = σ (r + 111 + j) i) (hv : ∀ j, j < nr → ∀ a, 168 ≤ a → a ≤ 171 → V' a j = V a j) : cU σ' r V' nr := by
  intro j hj
  have e := hv j hj
  rw [hs j hj, hs j hj, hs j hj, hs j hj, e 168 (by omega) (by omega), e 169 (by omega) (by omega), e 170 (by omega) (by omega), e 171 (by omega) (by omega)]
  exact h j hj
theorem cX_cg (h : cX σ) (h1 : σ' 3 3 = σ' 139 0) (h2 : σ' 3 2 = σ 3 2 ∧ σ' 139 45 = σ 139 45) : cX σ' := by
  refine ⟨h1, ?_, ?_⟩
  · rw [h2.1, h2.2]; exact h.2.1
  · rw [h2.1]; exact h.2.2
theorem cP_cg (h : cP σ) (hs : σ' 124 0 = σ 124 0 ∧ σ' 139 59 = σ 139 59) (hv : ∀ j, j < 50 → σ' 125 j = σ 125 j ∧ σ' 187 j = σ 187 j) : cP σ' := by
  obtain ⟨n, h1, h2, h3, h4⟩ := h
  refine ⟨n, h1, by rw [hs.1]; exact h2, by rw [hs.2]; exact h3, fun j hj => ?_⟩
  rw [(hv j (by omega)).1, (hv j (by omega)).2]
  exact h4 j hj
theorem cQ_cg (h : cQ σ) (hs : ∀ a i, (131 ≤ a ∧ a < 139) ∨ (188 ≤ a ∧ a ≤ 191) → σ' a i = σ a i) : cQ σ' := by
  intro s hs4
  rw [hs (131 + 2 * s) 0 (by omega), hs (131 + 2 * s) 1 (by omega), hs 188 s (by omega), hs 189 s (by omega)]
  obtain ⟨h1, h2, h3, h4, h5⟩ := h s hs4
  refine ⟨h1, h2, h3, h4, fun j hj => ?_⟩
  rw [hs 190 _ (by omega), hs 191 _ (by omega), hs (132 + 2 * s) j (by omega)]
  exact h5 j hj
theorem RR_cg (h : RR σ r V q ns nb nl nt nr) (hs : ∀ a i, r ≤ a → a < r + 119 → σ' a i = σ a i)
    (hv : ∀ a i, (a = 139 ∧ (i = 1 ∨ i = 2 ∨ i = 12 ∨ i = 24 ∨ i = 30 ∨ i = 31 ∨ i = 35)) ∨ (140 ≤ a ∧ a ≤ 142 ∧ i < ns) ∨ (143 ≤ a ∧ a ≤ 148) ∨ (149 ≤ a ∧ a ≤ 151 ∧ i < nb) ∨ (152 ≤ a ∧ a ≤ 159) ∨ (160 ≤ a ∧ a ≤ 162 ∧ i < nl) ∨ (163 ≤ a ∧ a ≤ 164) ∨ (165 ≤ a ∧ a ≤ 167 ∧ i < nt) ∨ (168 ≤ a ∧ a ≤ 171 ∧ i < nr) → V' a i = V a i) : RR σ' r V' q ns nb nl nt nr := by
  obtain ⟨h1, h2, h3, h4, h5, h6, h7, h8, h9⟩ := h
  have b := h1.1
  refine ⟨cCnt_cg h1 (fun i _ _ => hs _ _ (by omega) (by omega)) (fun i hi => hv _ _ (by omega)), cH_cg h2 (hs _ _ (by omega) (by omega)) (fun d _ => hs _ _ (by omega) (by omega)) (fun d _ => ⟨hv _ _ (by omega), hv _ _ (by omega)⟩), cC_cg h3 (fun d _ => hs _ _ (by omega) (by omega)) (fun d _ => hv _ _ (by omega)),
    cS_cg h4 (fun k hk => ⟨fun j => hs _ _ (by omega) (by omega), fun d _ => hs _ _ (by omega) (by omega)⟩) (fun k hk => ⟨hv _ _ (by omega), hv _ _ (by omega), hv _ _ (by omega), hv _ _ (by omega)⟩) (fun i _ => ⟨hv _ _ (by omega), hv _ _ (by omega)⟩),
    cL_cg h5 (fun l hl => ⟨hs _ _ (by omega) (by omega), fun k _ => ⟨hs _ _ (by omega) (by omega), hs _ _ (by omega) (by omega)⟩⟩) (fun l _ => hv _ _ (by omega)) (fun m _ _ => ⟨hv _ _ (by omega), hv _ _ (by omega)⟩),
    cB_cg h6 (fun i hi => ⟨fun j => hs _ _ (by omega) (by omega), fun k _ => ⟨hs _ _ (by omega) (by omega), hs _ _ (by omega) (by omega)⟩⟩) (fun i hi a _ _ => hv _ _ (by omega)) (fun m _ => ⟨hv _ _ (by omega), hv _ _ (by omega)⟩) (fun j hj => ⟨hv _ _ (by omega), hv _ _ (by omega), hv _ _ (by omega)⟩),
    cA_cg h7 (fun j hj i => hs _ _ (by omega) (by omega)) (fun j hj a _ _ => hv _ _ (by omega)), cT_cg h8 (fun j hj i => hs _ _ (by omega) (by omega)) (fun j hj a _ _ => hv _ _ (by omega)), cU_cg h9 (fun j hj i => hs _ _ (by omega) (by omega)) (fun j hj a _ _ => hv _ _ (by omega))⟩
/-- the kept river stays, if the cells of the image and what the image does not keep below its counts stay -/
theorem cK_cg {b : Bool} (h : cK σ b ns nb nl nt nr) (hi : σ' 139 44 = σ 139 44) (hs : ∀ a i, (192 ≤ a ∨ (175 ≤ a ∧ a ≤ 186)) → σ' a i = σ a i)
    (hv : ∀ a i, (140 ≤ a ∧ a ≤ 142 ∧ i < ns) ∨ (149 ≤ a ∧ a ≤ 151 ∧ i < nb) ∨ (160 ≤ a ∧ a ≤ 162 ∧ i < nl) ∨ (165 ≤ a ∧ a ≤ 167 ∧ i < nt) ∨ (168 ≤ a ∧ a ≤ 171 ∧ i < nr) → σ' a i = σ a i)
    {ms mb ml mt mr : Nat} (c1 : ns ≤ ms) (c2 : nb ≤ mb) (c3 : nl ≤ ml) (c4 : nt ≤ mt) (c5 : nr ≤ mr) : cK σ' b ms mb ml mt mr := by
  refine ⟨fun e => by rw [hi]; exact h.1 e, fun e => ?_⟩
  obtain ⟨h1, q', ns', nb', nl', nt', nr', e1, e2, e3, e4, e5, h2⟩ := h.2 e
  refine ⟨by rw [hi]; exact h1, q', ns', nb', nl', nt', nr', by omega, by omega, by omega, by omega, by omega, RR_cg h2 (fun a i h1 _ => hs a i (by omega)) (fun a i hai => ?_)⟩
  have b := h2.1.1
  rcases hai with ⟨rfl, hai⟩ | ⟨h1, h2, h3⟩ | ⟨h1, h2⟩ | ⟨h1, h2, h3⟩ | ⟨h1, h2⟩ | ⟨h1, h2, h3⟩ | ⟨h1, h2⟩ | ⟨h1, h2, h3⟩ | ⟨h1, h2, h3⟩
  · rcases hai with rfl | rfl | rfl | rfl | rfl | rfl | rfl <;> exact hs _ _ (by omega)
  · rcases (by omega : a = 140 ∨ a = 141 ∨ a = 142) with rfl | rfl | rfl <;> exact hv _ _ (by omega)
  · rcases (by omega : a = 143 ∨ a = 144 ∨ a = 145 ∨ a = 146 ∨ a = 147 ∨ a = 148) with rfl | rfl | rfl | rfl | rfl | rfl <;> exact hs _ _ (by omega)
  · rcases (by omega : a = 149 ∨ a = 150 ∨ a = 151) with rfl | rfl | rfl <;> exact hv _ _ (by omega)
  · rcases (by omega : a = 152 ∨ a = 153 ∨ a = 154 ∨ a = 155 ∨ a = 156 ∨ a = 157 ∨ a = 158 ∨ a = 159) with rfl | rfl | rfl | rfl | rfl | rfl | rfl | rfl <;> exact hs _ _ (by omega)
  · rcases (by omega : a = 160 ∨ a = 161 ∨ a = 162) with rfl | rfl | rfl <;> exact hv _ _ (by omega)
  · rcases (by omega : a = 163 ∨ a = 164) with rfl | rfl <;> exact hs _ _ (by omega)
  · rcases (by omega : a = 165 ∨ a = 166 ∨ a = 167) with rfl | rfl | rfl <;> exact hv _ _ (by omega)
  · rcases (by omega : a = 168 ∨ a = 169 ∨ a = 170 ∨ a = 171) with rfl | rfl | rfl | rfl <;> exact hv _ _ (by omega)
end CG
