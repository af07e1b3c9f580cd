/-! ===== a river copied is as the same view says ===== -/
def VB (a i : Nat) : Prop := (a = 139 ∧ (i = 1 ∨ i = 2 ∨ i = 12 ∨ i = 24 ∨ i = 30 ∨ i = 31 ∨ i = 35)) ∨ (140 ≤ a ∧ a ≤ 143 ∧ i < 10) ∨ (144 ≤ a ∧ a ≤ 145 ∧ i < 1000) ∨ (146 ≤ a ∧ a ≤ 148 ∧ i < 100) ∨ (149 ≤ a ∧ a ≤ 156 ∧ i < 5) ∨ (157 ≤ a ∧ a ≤ 158 ∧ i < 160) ∨ (a = 159 ∧ i < 11) ∨ (160 ≤ a ∧ a ≤ 164 ∧ i < 12) ∨ (165 ≤ a ∧ a ≤ 167 ∧ i < 6) ∨ (168 ≤ a ∧ a ≤ 171 ∧ i < 8)
theorem vb0 {i : Nat} (h : i = 1 ∨ i = 2 ∨ i = 12 ∨ i = 24 ∨ i = 30 ∨ i = 31 ∨ i = 35) : VB 139 i := Or.inl ⟨rfl, h⟩
theorem vb1 {a i : Nat} (h : 140 ≤ a ∧ a ≤ 143 ∧ i < 10) : VB a i := Or.inr (Or.inl h)
theorem vb2 {a i : Nat} (h : 144 ≤ a ∧ a ≤ 145 ∧ i < 1000) : VB a i := Or.inr (Or.inr (Or.inl h))
theorem vb3 {a i : Nat} (h : 146 ≤ a ∧ a ≤ 148 ∧ i < 100) : VB a i := Or.inr (Or.inr (Or.inr (Or.inl h)))
theorem vb4 {a i : Nat} (h : 149 ≤ a ∧ a ≤ 156 ∧ i < 5) : VB a i := Or.inr (Or.inr (Or.inr (Or.inr (Or.inl h))))
theorem vb5 {a i : Nat} (h : 157 ≤ a ∧ a ≤ 158 ∧ i < 160) : VB a i := Or.inr (Or.inr (Or.inr (Or.inr (Or.inr (Or.inl h)))))
theorem vb6 {i : Nat} (h : i < 11) : VB 159 i := Or.inr (Or.inr (Or.inr (Or.inr (Or.inr (Or.inr (Or.inl ⟨rfl, h⟩))))))
theorem vb7 {a i : Nat} (h : 160 ≤ a ∧ a ≤ 164 ∧ i < 12) : VB a i := Or.inr (Or.inr (Or.inr (Or.inr (Or.inr (Or.inr (Or.inr (Or.inl h)))))))
theorem vb8 {a i : Nat} (h : 165 ≤ a ∧ a ≤ 167 ∧ i < 6) : VB a i := Or.inr (Or.inr (Or.inr (Or.inr (Or.inr (Or.inr (Or.inr (Or.inr (Or.inl h))))))))
theorem vb9 {a i : Nat} (h : 168 ≤ a ∧ a ≤ 171 ∧ i < 8) : VB a i := Or.inr (Or.inr (Or.inr (Or.inr (Or.inr (Or.inr (Or.inr (Or.inr (Or.inr (h)))))))))
theorem cW_mv {τ σ V V' : Sg} {w q w' q' m ns : Nat} (h : cW σ w q V m ns) (hs : ∀ k, k < 10 → τ w' k = σ w k ∧ τ q' k = σ q k) (hv : ∀ k, k < 10 → V' 157 (m + k) = V 157 (m + k) ∧ V' 158 (m + k) = V 158 (m + k)) : cW τ w' q' V' m ns := by
  intro k hk
  rw [(hs k hk).1, (hs k hk).2, (hv k hk).1, (hv k hk).2]
  exact h k hk
theorem RR_mv {τ σ V V' : Sg} {r s q ns nb nl nt nr : Nat} (h : RR σ s V q ns nb nl nt nr) (hs : ∀ o j, o < 119 → j < wl o → τ (r + o) j = σ (s + o) j) (hv : ∀ a i, VB a i → V' a i = V a i) : RR τ r V' q ns nb nl nt nr := by
  obtain ⟨h1, h2, h3, h4, h5, h6, h7, h8, h9⟩ := h
  have M : ∀ {a c j w : Nat} (o : Nat), wl o = w → a = r + o → c = s + o → o < 119 → j < w → τ a j = σ c j := fun o hw ha hc ho hj => by rw [ha, hc]; exact hs o _ ho (by omega)
  have N : ∀ {a i : Nat}, VB a i → V' a i = V a i := fun {a i} hq => hv a i hq
  obtain ⟨b, v, c, d⟩ := id h1
  obtain ⟨b1, b2, b3, b4, b5, b6⟩ := b
  have W0 : wl 0 = 8 := by decide +kernel
  have W1 : wl 1 = 100 := by decide +kernel
  have W2 : wl 2 = 100 := by decide +kernel
  refine ⟨⟨⟨b1, b2, b3, b4, b5, b6⟩, ⟨(N (vb0 (by omega))).trans v.1, (N (vb0 (by omega))).trans v.2.1, (N (vb0 (by omega))).trans v.2.2.1, (N (vb0 (by omega))).trans v.2.2.2.1, (N (vb0 (by omega))).trans v.2.2.2.2.1, (N (vb0 (by omega))).trans v.2.2.2.2.2⟩,
      ⟨(M 0 W0 rfl rfl (by decide) (by decide)).trans c.1, (M 0 W0 rfl rfl (by decide) (by decide)).trans c.2.1, (M 0 W0 rfl rfl (by decide) (by decide)).trans c.2.2.1, (M 0 W0 rfl rfl (by decide) (by decide)).trans c.2.2.2.1, (M 0 W0 rfl rfl (by decide) (by decide)).trans c.2.2.2.2.1, (M 0 W0 rfl rfl (by decide) (by decide)).trans c.2.2.2.2.2⟩, (M 0 W0 rfl rfl (by decide) (by decide)).trans (d.trans (N (vb0 (by omega))).symm)⟩,
    ⟨fun e he => ?_, ?_⟩, fun e he => ?_, fun k hk => ?_, fun l hl => ?_, fun i hi => ?_, fun j hj => ?_, fun t ht => ?_, fun t ht => ?_⟩
  · rw [M 1 W1 rfl rfl (by decide) he, N (a := 146) (i := e) (vb3 (by omega)), N (a := 147) (i := e) (vb3 (by omega))]
    exact h2.1 e he
  · rw [show τ r 6 = σ s 6 from M 0 W0 rfl rfl (by decide) (by decide), h2.2]
    exact congrArg nI (cnt_cg (fun i hi => by rw [N (a := 147) (i := i) (vb3 (by omega))])).symm
  · rw [M 2 W2 rfl rfl (by decide) he, N (a := 148) (i := e) (vb3 (by omega))]
    exact h3 e he
  · obtain ⟨⟨a0, a1, a2, a3, a4⟩, c1, c2, c3, c4, c5⟩ := h4 k hk
    have w0 := wlS0 k (by omega)
    have w1 := wlS1 k (by omega)
    rw [N (a := 140) (i := k) (vb1 (by omega)), N (a := 141) (i := k) (vb1 (by omega)), N (a := 142) (i := k) (vb1 (by omega)), N (a := 143) (i := k) (vb1 (by omega))]
    refine ⟨⟨(M (9 + 2 * k) w0 (by omega) (by omega) (by omega) (by decide)).trans a0, (M (9 + 2 * k) w0 (by omega) (by omega) (by omega) (by decide)).trans a1, (M (9 + 2 * k) w0 (by omega) (by omega) (by omega) (by decide)).trans a2, (M (9 + 2 * k) w0 (by omega) (by omega) (by omega) (by decide)).trans a3, (M (9 + 2 * k) w0 (by omega) (by omega) (by omega) (by decide)).trans a4⟩, c1, c2, c3, c4, fun e he => ?_⟩
    rw [M (9 + 2 * k + 1) w1 (by omega) (by omega : s + 10 + 2 * k = s + (9 + 2 * k + 1)) (by omega) he, N (a := 145) (vb2 (by omega)), N (a := 144) (vb2 (by omega))]
    exact c5 e he
  · obtain ⟨a0, a1, a2, a3⟩ := h5 l hl
    have w0 := wlL0 l (by omega)
    have w2 := wlL2 l (by omega)
    have w3 := wlL3 l (by omega)
    rw [N (a := 159) (i := l) (vb6 (by omega))]
    refine ⟨(M (29 + 4 * l) w0 (by omega) (by omega) (by omega) (by decide)).trans a0, a1, cW_mv a2 (fun k hk => ⟨M _ w2 (by omega) (by omega) (by omega) hk, M _ w3 (by omega) (by omega) (by omega) hk⟩) (fun k hk => ⟨N (vb5 (by omega)), N (vb5 (by omega))⟩), fun e => ⟨(a3 e).1, fun k hk => ?_⟩⟩
    rw [N (a := 158) (vb5 (by omega))]
    exact (a3 e).2 k hk
  · obtain ⟨⟨a0, a1, a2, a3, a4, a5, a6⟩, c1, c2, c3, c4, c5⟩ := h6 i hi
    have w0 := wlB0 i (by omega)
    have w2 := wlB2 i (by omega)
    have w3 := wlB3 i (by omega)
    have m : ∀ {j : Nat}, j < 9 → τ (r + 73 + 4 * i) j = σ (s + 73 + 4 * i) j := fun hj => M (73 + 4 * i) w0 (by omega) (by omega) (by omega) hj
    rw [N (a := 149) (i := i) (vb4 (by omega)), N (a := 150) (i := i) (vb4 (by omega)), N (a := 151) (i := i) (vb4 (by omega)), N (a := 152) (i := i) (vb4 (by omega)), N (a := 153) (i := i) (vb4 (by omega)), N (a := 154) (i := i) (vb4 (by omega)), N (a := 155) (i := i) (vb4 (by omega)), N (a := 156) (i := i) (vb4 (by omega)), m (by decide : 8 < 9), m (by decide : 7 < 9),
      aboS_cg (V := V) (V' := V') (fun j hj => ⟨N (vb7 (by omega)), N (vb7 (by omega)), N (vb7 (by omega))⟩)]
    exact ⟨⟨(m (by decide)).trans a0, (m (by decide)).trans a1, (m (by decide)).trans a2, (m (by decide)).trans a3, (m (by decide)).trans a4, (m (by decide)).trans a5, (m (by decide)).trans a6⟩, c1, c2, c3, c4, cW_mv c5 (fun k hk => ⟨M _ w2 (by omega) (by omega) (by omega) hk, M _ w3 (by omega) (by omega) (by omega) hk⟩) (fun k hk => ⟨N (vb5 (by omega)), N (vb5 (by omega))⟩)⟩
  · obtain ⟨⟨a0, a1, a2, a3, a4⟩, c1⟩ := h7 j hj
    have w0 := wlBA j (by omega)
    have m : ∀ {i : Nat}, i < 5 → τ (r + 93 + j) i = σ (s + 93 + j) i := fun hi => M (93 + j) w0 (by omega) (by omega) (by omega) hi
    rw [N (a := 160) (i := j) (vb7 (by omega)), N (a := 161) (i := j) (vb7 (by omega)), N (a := 162) (i := j) (vb7 (by omega)), N (a := 163) (i := j) (vb7 (by omega)), N (a := 164) (i := j) (vb7 (by omega))]
    exact ⟨⟨(m (by decide)).trans a0, (m (by decide)).trans a1, (m (by decide)).trans a2, (m (by decide)).trans a3, (m (by decide)).trans a4⟩, c1⟩
  · obtain ⟨⟨a0, a1, a2⟩, c1⟩ := h8 t ht
    have w0 := wlTR t (by omega)
    have m : ∀ {i : Nat}, i < 3 → τ (r + 105 + t) i = σ (s + 105 + t) i := fun hi => M (105 + t) w0 (by omega) (by omega) (by omega) hi
    rw [N (a := 165) (i := t) (vb8 (by omega)), N (a := 166) (i := t) (vb8 (by omega)), N (a := 167) (i := t) (vb8 (by omega))]
    exact ⟨⟨(m (by decide)).trans a0, (m (by decide)).trans a1, (m (by decide)).trans a2⟩, c1⟩
  · obtain ⟨⟨a0, a1, a2, a3⟩, c1⟩ := h9 t ht
    have w0 := wlRU t (by omega)
    have m : ∀ {i : Nat}, i < 4 → τ (r + 111 + t) i = σ (s + 111 + t) i := fun hi => M (111 + t) w0 (by omega) (by omega) (by omega) hi
    rw [N (a := 168) (i := t) (vb9 (by omega)), N (a := 169) (i := t) (vb9 (by omega)), N (a := 170) (i := t) (vb9 (by omega)), N (a := 171) (i := t) (vb9 (by omega))]
    exact ⟨⟨(m (by decide)).trans a0, (m (by decide)).trans a1, (m (by decide)).trans a2, (m (by decide)).trans a3⟩, c1⟩
/-! ===== the reference's kept rows ===== -/
def kval (σ : Sg) (a j : Nat) : Int32 := match a with
  | 175 => (match j with
    | 0 => σ 139 2
    | 1 => σ 139 12
    | 2 => σ 139 24
    | 3 => σ 139 31
    | 4 => σ 139 35
    | 5 => σ 139 1
    | _ => σ 139 30)
  | 176 => σ 143 j
  | 177 => σ 144 j
  | 178 => σ 145 j
  | 179 => σ 146 j
  | 180 => σ 147 j
  | 181 => σ 148 j
  | 182 => σ (152 + j % 5) (j / 5)
  | 183 => σ 157 j
  | 184 => σ 158 j
  | 185 => σ 159 j
  | 186 => if j < 12 then σ 163 j else σ 164 (j - 12)
  | _ => 0
def PK (st i a j : Nat) : Prop := (a = 175 ∧ j < 7) ∨ ((a = 177 ∨ a = 178) ∧ ((1 < st ∧ j < 1000) ∨ (1 = st ∧ j < i))) ∨ ((179 ≤ a ∧ a ≤ 181) ∧ ((2 < st ∧ j < 100) ∨ (2 = st ∧ j < i))) ∨ ((a = 183 ∨ a = 184) ∧ ((3 < st ∧ j < 160) ∨ (3 = st ∧ j < i))) ∨ (a = 186 ∧ ((4 < st ∧ j < 24) ∨ (4 = st ∧ (j < i ∨ (12 ≤ j ∧ j < 12 + i))))) ∨ (a = 185 ∧ ((5 < st ∧ j < 11) ∨ (5 = st ∧ j < i))) ∨ (a = 176 ∧ ((6 < st ∧ j < 10) ∨ (6 = st ∧ j < i))) ∨ (a = 182 ∧ ((7 < st ∧ j < 25) ∨ (7 = st ∧ j < 5 * i)))
def KQ (σ τ : Sg) (P : Nat → Nat → Prop) : Prop := (∀ a j, ¬ (175 ≤ a ∧ a ≤ 186) → τ a j = σ a j) ∧ ∀ a j, P a j → τ a j = kval σ a j
def Pu (a i : Nat) (P : Nat → Nat → Prop) : Nat → Nat → Prop := fun c j => (c = a ∧ j = i) ∨ P c j
theorem KQ_s {σ τ : Sg} {P : Nat → Nat → Prop} {a i : Nat} {x : Int32} (h : KQ σ τ P) (ha : 175 ≤ a ∧ a ≤ 186) (hx : x = kval σ a i) : KQ σ (up2 τ a i x) (Pu a i P) := by
  refine ⟨fun c j hc => by rw [up2_n (by omega)]; exact h.1 c j hc, fun c j hc => ?_⟩
  by_cases e : c = a ∧ j = i
  · rw [up2_e e, e.1, e.2]; exact hx
  · rw [up2_n e]; exact h.2 c j (hc.resolve_left e)
theorem KQ_m {σ τ : Sg} {P P' : Nat → Nat → Prop} (hp : ∀ a j, P' a j → P a j) (h : KQ σ τ P) : KQ σ τ P' := ⟨h.1, fun a j ha => h.2 a j (hp a j ha)⟩
def PL (st i a j : Nat) : Prop := ((a = 144 ∨ a = 145) ∧ ((1 < st ∧ j < 1000) ∨ (1 = st ∧ j < i))) ∨ ((146 ≤ a ∧ a ≤ 148) ∧ ((2 < st ∧ j < 100) ∨ (2 = st ∧ j < i))) ∨ ((a = 157 ∨ a = 158) ∧ ((3 < st ∧ j < 160) ∨ (3 = st ∧ j < i))) ∨ ((a = 163 ∨ a = 164) ∧ ((4 < st ∧ j < 12) ∨ (4 = st ∧ j < i))) ∨ (a = 159 ∧ ((5 < st ∧ j < 11) ∨ (5 = st ∧ j < i))) ∨ (a = 143 ∧ ((6 < st ∧ j < 10) ∨ (6 = st ∧ j < i))) ∨ ((152 ≤ a ∧ a ≤ 156) ∧ ((7 < st ∧ j < 5) ∨ (7 = st ∧ j < i)))
def LQ (σ τ : Sg) (P : Nat → Nat → Prop) : Prop := (∀ a j, ¬ ((143 ≤ a ∧ a ≤ 148) ∨ (152 ≤ a ∧ a ≤ 159) ∨ (163 ≤ a ∧ a ≤ 164)) → τ a j = σ a j) ∧ ∀ a j, P a j → τ a j = kv σ a j
theorem LQ_s {σ τ : Sg} {P : Nat → Nat → Prop} {a i : Nat} {x : Int32} (h : LQ σ τ P) (ha : (143 ≤ a ∧ a ≤ 148) ∨ (152 ≤ a ∧ a ≤ 159) ∨ (163 ≤ a ∧ a ≤ 164)) (hx : x = kv σ a i) : LQ σ (up2 τ a i x) (Pu a i P) := by
  refine ⟨fun c j hc => by rw [up2_n (by omega)]; exact h.1 c j hc, fun c j hc => ?_⟩
  by_cases e : c = a ∧ j = i
  · rw [up2_e e, e.1, e.2]; exact hx
  · rw [up2_n e]; exact h.2 c j (hc.resolve_left e)
theorem LQ_m {σ τ : Sg} {P P' : Nat → Nat → Prop} (hp : ∀ a j, P' a j → P a j) (h : LQ σ τ P) : LQ σ τ P' := ⟨h.1, fun a j ha => h.2 a j (hp a j ha)⟩
theorem pl1 {a i : Nat} (h : (a = 144 ∨ a = 145) ∧ i < 1000) : PL 8 0 a i := Or.inl (⟨h.1, Or.inl ⟨by decide, h.2⟩⟩)
theorem pl2 {a i : Nat} (h : (146 ≤ a ∧ a ≤ 148) ∧ i < 100) : PL 8 0 a i := Or.inr (Or.inl (⟨h.1, Or.inl ⟨by decide, h.2⟩⟩))
theorem pl3 {a i : Nat} (h : (a = 157 ∨ a = 158) ∧ i < 160) : PL 8 0 a i := Or.inr (Or.inr (Or.inl (⟨h.1, Or.inl ⟨by decide, h.2⟩⟩)))
theorem pl4 {a i : Nat} (h : (a = 163 ∨ a = 164) ∧ i < 12) : PL 8 0 a i := Or.inr (Or.inr (Or.inr (Or.inl (⟨h.1, Or.inl ⟨by decide, h.2⟩⟩))))
theorem pl5 {a i : Nat} (h : (a = 159) ∧ i < 11) : PL 8 0 a i := Or.inr (Or.inr (Or.inr (Or.inr (Or.inl (⟨h.1, Or.inl ⟨by decide, h.2⟩⟩)))))
theorem pl6 {a i : Nat} (h : (a = 143) ∧ i < 10) : PL 8 0 a i := Or.inr (Or.inr (Or.inr (Or.inr (Or.inr (Or.inl (⟨h.1, Or.inl ⟨by decide, h.2⟩⟩))))))
theorem pl7 {a i : Nat} (h : (152 ≤ a ∧ a ≤ 156) ∧ i < 5) : PL 8 0 a i := Or.inr (Or.inr (Or.inr (Or.inr (Or.inr (Or.inr ((⟨h.1, Or.inl ⟨by decide, h.2⟩⟩)))))))
theorem pk0 {a i : Nat} (h : a = 175 ∧ i < 7) : PK 8 0 a i := Or.inl (h)
theorem pk1 {a i : Nat} (h : (a = 177 ∨ a = 178) ∧ i < 1000) : PK 8 0 a i := Or.inr (Or.inl (⟨h.1, Or.inl ⟨by decide, h.2⟩⟩))
theorem pk2 {a i : Nat} (h : (179 ≤ a ∧ a ≤ 181) ∧ i < 100) : PK 8 0 a i := Or.inr (Or.inr (Or.inl (⟨h.1, Or.inl ⟨by decide, h.2⟩⟩)))
theorem pk3 {a i : Nat} (h : (a = 183 ∨ a = 184) ∧ i < 160) : PK 8 0 a i := Or.inr (Or.inr (Or.inr (Or.inl (⟨h.1, Or.inl ⟨by decide, h.2⟩⟩))))
theorem pk4 {a i : Nat} (h : (a = 186) ∧ i < 24) : PK 8 0 a i := Or.inr (Or.inr (Or.inr (Or.inr (Or.inl (⟨h.1, Or.inl ⟨by decide, h.2⟩⟩)))))
theorem pk5 {a i : Nat} (h : (a = 185) ∧ i < 11) : PK 8 0 a i := Or.inr (Or.inr (Or.inr (Or.inr (Or.inr (Or.inl (⟨h.1, Or.inl ⟨by decide, h.2⟩⟩))))))
theorem pk6 {a i : Nat} (h : (a = 176) ∧ i < 10) : PK 8 0 a i := Or.inr (Or.inr (Or.inr (Or.inr (Or.inr (Or.inr (Or.inl (⟨h.1, Or.inl ⟨by decide, h.2⟩⟩)))))))
theorem pk7 {a i : Nat} (h : (a = 182) ∧ i < 25) : PK 8 0 a i := Or.inr (Or.inr (Or.inr (Or.inr (Or.inr (Or.inr (Or.inr ((⟨h.1, Or.inl ⟨by decide, h.2⟩⟩))))))))
theorem kv5 (σ : Sg) (j t : Nat) (ht : t < 5) : kval σ 182 (5 * j + t) = σ (152 + t) j := by
  show σ (152 + (5 * j + t) % 5) ((5 * j + t) / 5) = _
  rw [show (5 * j + t) % 5 = t by omega, show (5 * j + t) / 5 = j by omega]
theorem kv12 (σ : Sg) (j : Nat) : kval σ 186 (12 + j) = σ 164 j := by
  show (if 12 + j < 12 then σ 163 (12 + j) else σ 164 (12 + j - 12)) = _
  rw [if_neg (by omega), Nat.add_sub_cancel_left]
theorem kv12l (σ : Sg) (j : Nat) (h : j < 12) : kval σ 186 j = σ 163 j := if_pos h
theorem sgPK1 {a i : Nat} (hp : PK 2 0 a i) : PK 1 1000 a i := by
  unfold PK at hp
  rcases hp with ⟨h1, h2⟩ | ⟨h1, h2⟩ | ⟨h1, h2⟩ | ⟨h1, h2⟩ | ⟨h1, h2⟩ | ⟨h1, h2⟩ | ⟨h1, h2⟩ | ⟨h1, h2⟩
  · exact Or.inl (⟨h1, by omega⟩)
  · exact Or.inr (Or.inl (⟨h1, by omega⟩))
  · exact Or.inr (Or.inr (Or.inl (⟨h1, by omega⟩)))
  · exact Or.inr (Or.inr (Or.inr (Or.inl (⟨h1, by omega⟩))))
  · exact Or.inr (Or.inr (Or.inr (Or.inr (Or.inl (⟨h1, by omega⟩)))))
  · exact Or.inr (Or.inr (Or.inr (Or.inr (Or.inr (Or.inl (⟨h1, by omega⟩))))))
  · exact Or.inr (Or.inr (Or.inr (Or.inr (Or.inr (Or.inr (Or.inl (⟨h1, by omega⟩)))))))
  · exact Or.inr (Or.inr (Or.inr (Or.inr (Or.inr (Or.inr (Or.inr ((⟨h1, by omega⟩))))))))
theorem sgPK2 {a i : Nat} (hp : PK 3 0 a i) : PK 2 100 a i := by
  unfold PK at hp
  rcases hp with ⟨h1, h2⟩ | ⟨h1, h2⟩ | ⟨h1, h2⟩ | ⟨h1, h2⟩ | ⟨h1, h2⟩ | ⟨h1, h2⟩ | ⟨h1, h2⟩ | ⟨h1, h2⟩
  · exact Or.inl (⟨h1, by omega⟩)
  · exact Or.inr (Or.inl (⟨h1, by omega⟩))
  · exact Or.inr (Or.inr (Or.inl (⟨h1, by omega⟩)))
  · exact Or.inr (Or.inr (Or.inr (Or.inl (⟨h1, by omega⟩))))
  · exact Or.inr (Or.inr (Or.inr (Or.inr (Or.inl (⟨h1, by omega⟩)))))
  · exact Or.inr (Or.inr (Or.inr (Or.inr (Or.inr (Or.inl (⟨h1, by omega⟩))))))
  · exact Or.inr (Or.inr (Or.inr (Or.inr (Or.inr (Or.inr (Or.inl (⟨h1, by omega⟩)))))))
  · exact Or.inr (Or.inr (Or.inr (Or.inr (Or.inr (Or.inr (Or.inr ((⟨h1, by omega⟩))))))))
theorem sgPK3 {a i : Nat} (hp : PK 4 0 a i) : PK 3 160 a i := by
  unfold PK at hp
  rcases hp with ⟨h1, h2⟩ | ⟨h1, h2⟩ | ⟨h1, h2⟩ | ⟨h1, h2⟩ | ⟨h1, h2⟩ | ⟨h1, h2⟩ | ⟨h1, h2⟩ | ⟨h1, h2⟩
  · exact Or.inl (⟨h1, by omega⟩)
  · exact Or.inr (Or.inl (⟨h1, by omega⟩))
  · exact Or.inr (Or.inr (Or.inl (⟨h1, by omega⟩)))
  · exact Or.inr (Or.inr (Or.inr (Or.inl (⟨h1, by omega⟩))))
  · exact Or.inr (Or.inr (Or.inr (Or.inr (Or.inl (⟨h1, by omega⟩)))))
  · exact Or.inr (Or.inr (Or.inr (Or.inr (Or.inr (Or.inl (⟨h1, by omega⟩))))))
  · exact Or.inr (Or.inr (Or.inr (Or.inr (Or.inr (Or.inr (Or.inl (⟨h1, by omega⟩)))))))
  · exact Or.inr (Or.inr (Or.inr (Or.inr (Or.inr (Or.inr (Or.inr ((⟨h1, by omega⟩))))))))
theorem sgPK4 {a i : Nat} (hp : PK 5 0 a i) : PK 4 12 a i := by
  unfold PK at hp
  rcases hp with ⟨h1, h2⟩ | ⟨h1, h2⟩ | ⟨h1, h2⟩ | ⟨h1, h2⟩ | ⟨h1, h2⟩ | ⟨h1, h2⟩ | ⟨h1, h2⟩ | ⟨h1, h2⟩
  · exact Or.inl (⟨h1, by omega⟩)
  · exact Or.inr (Or.inl (⟨h1, by omega⟩))
  · exact Or.inr (Or.inr (Or.inl (⟨h1, by omega⟩)))
  · exact Or.inr (Or.inr (Or.inr (Or.inl (⟨h1, by omega⟩))))
  · exact Or.inr (Or.inr (Or.inr (Or.inr (Or.inl (⟨h1, by omega⟩)))))
  · exact Or.inr (Or.inr (Or.inr (Or.inr (Or.inr (Or.inl (⟨h1, by omega⟩))))))
  · exact Or.inr (Or.inr (Or.inr (Or.inr (Or.inr (Or.inr (Or.inl (⟨h1, by omega⟩)))))))
  · exact Or.inr (Or.inr (Or.inr (Or.inr (Or.inr (Or.inr (Or.inr ((⟨h1, by omega⟩))))))))
theorem sgPK5 {a i : Nat} (hp : PK 6 0 a i) : PK 5 11 a i := by
  unfold PK at hp
  rcases hp with ⟨h1, h2⟩ | ⟨h1, h2⟩ | ⟨h1, h2⟩ | ⟨h1, h2⟩ | ⟨h1, h2⟩ | ⟨h1, h2⟩ | ⟨h1, h2⟩ | ⟨h1, h2⟩
  · exact Or.inl (⟨h1, by omega⟩)
  · exact Or.inr (Or.inl (⟨h1, by omega⟩))
  · exact Or.inr (Or.inr (Or.inl (⟨h1, by omega⟩)))
  · exact Or.inr (Or.inr (Or.inr (Or.inl (⟨h1, by omega⟩))))
  · exact Or.inr (Or.inr (Or.inr (Or.inr (Or.inl (⟨h1, by omega⟩)))))
  · exact Or.inr (Or.inr (Or.inr (Or.inr (Or.inr (Or.inl (⟨h1, by omega⟩))))))
  · exact Or.inr (Or.inr (Or.inr (Or.inr (Or.inr (Or.inr (Or.inl (⟨h1, by omega⟩)))))))
  · exact Or.inr (Or.inr (Or.inr (Or.inr (Or.inr (Or.inr (Or.inr ((⟨h1, by omega⟩))))))))
theorem sgPK6 {a i : Nat} (hp : PK 7 0 a i) : PK 6 10 a i := by
  unfold PK at hp
  rcases hp with ⟨h1, h2⟩ | ⟨h1, h2⟩ | ⟨h1, h2⟩ | ⟨h1, h2⟩ | ⟨h1, h2⟩ | ⟨h1, h2⟩ | ⟨h1, h2⟩ | ⟨h1, h2⟩
  · exact Or.inl (⟨h1, by omega⟩)
  · exact Or.inr (Or.inl (⟨h1, by omega⟩))
  · exact Or.inr (Or.inr (Or.inl (⟨h1, by omega⟩)))
  · exact Or.inr (Or.inr (Or.inr (Or.inl (⟨h1, by omega⟩))))
  · exact Or.inr (Or.inr (Or.inr (Or.inr (Or.inl (⟨h1, by omega⟩)))))
  · exact Or.inr (Or.inr (Or.inr (Or.inr (Or.inr (Or.inl (⟨h1, by omega⟩))))))
  · exact Or.inr (Or.inr (Or.inr (Or.inr (Or.inr (Or.inr (Or.inl (⟨h1, by omega⟩)))))))
  · exact Or.inr (Or.inr (Or.inr (Or.inr (Or.inr (Or.inr (Or.inr ((⟨h1, by omega⟩))))))))
theorem sgPK7 {a i : Nat} (hp : PK 8 0 a i) : PK 7 5 a i := by
  unfold PK at hp
  rcases hp with ⟨h1, h2⟩ | ⟨h1, h2⟩ | ⟨h1, h2⟩ | ⟨h1, h2⟩ | ⟨h1, h2⟩ | ⟨h1, h2⟩ | ⟨h1, h2⟩ | ⟨h1, h2⟩
  · exact Or.inl (⟨h1, by omega⟩)
  · exact Or.inr (Or.inl (⟨h1, by omega⟩))
  · exact Or.inr (Or.inr (Or.inl (⟨h1, by omega⟩)))
  · exact Or.inr (Or.inr (Or.inr (Or.inl (⟨h1, by omega⟩))))
  · exact Or.inr (Or.inr (Or.inr (Or.inr (Or.inl (⟨h1, by omega⟩)))))
  · exact Or.inr (Or.inr (Or.inr (Or.inr (Or.inr (Or.inl (⟨h1, by omega⟩))))))
  · exact Or.inr (Or.inr (Or.inr (Or.inr (Or.inr (Or.inr (Or.inl (⟨h1, by omega⟩)))))))
  · exact Or.inr (Or.inr (Or.inr (Or.inr (Or.inr (Or.inr (Or.inr ((⟨h1, by omega⟩))))))))
theorem sgPL1 {a i : Nat} (hp : PL 2 0 a i) : PL 1 1000 a i := by
  unfold PL at hp
  rcases hp with ⟨h1, h2⟩ | ⟨h1, h2⟩ | ⟨h1, h2⟩ | ⟨h1, h2⟩ | ⟨h1, h2⟩ | ⟨h1, h2⟩ | ⟨h1, h2⟩
  · exact Or.inl (⟨h1, by omega⟩)
  · exact Or.inr (Or.inl (⟨h1, by omega⟩))
  · exact Or.inr (Or.inr (Or.inl (⟨h1, by omega⟩)))
  · exact Or.inr (Or.inr (Or.inr (Or.inl (⟨h1, by omega⟩))))
  · exact Or.inr (Or.inr (Or.inr (Or.inr (Or.inl (⟨h1, by omega⟩)))))
  · exact Or.inr (Or.inr (Or.inr (Or.inr (Or.inr (Or.inl (⟨h1, by omega⟩))))))
  · exact Or.inr (Or.inr (Or.inr (Or.inr (Or.inr (Or.inr ((⟨h1, by omega⟩)))))))
theorem sgPL2 {a i : Nat} (hp : PL 3 0 a i) : PL 2 100 a i := by
  unfold PL at hp
  rcases hp with ⟨h1, h2⟩ | ⟨h1, h2⟩ | ⟨h1, h2⟩ | ⟨h1, h2⟩ | ⟨h1, h2⟩ | ⟨h1, h2⟩ | ⟨h1, h2⟩
  · exact Or.inl (⟨h1, by omega⟩)
  · exact Or.inr (Or.inl (⟨h1, by omega⟩))
  · exact Or.inr (Or.inr (Or.inl (⟨h1, by omega⟩)))
  · exact Or.inr (Or.inr (Or.inr (Or.inl (⟨h1, by omega⟩))))
  · exact Or.inr (Or.inr (Or.inr (Or.inr (Or.inl (⟨h1, by omega⟩)))))
  · exact Or.inr (Or.inr (Or.inr (Or.inr (Or.inr (Or.inl (⟨h1, by omega⟩))))))
  · exact Or.inr (Or.inr (Or.inr (Or.inr (Or.inr (Or.inr ((⟨h1, by omega⟩)))))))
theorem sgPL3 {a i : Nat} (hp : PL 4 0 a i) : PL 3 160 a i := by
  unfold PL at hp
  rcases hp with ⟨h1, h2⟩ | ⟨h1, h2⟩ | ⟨h1, h2⟩ | ⟨h1, h2⟩ | ⟨h1, h2⟩ | ⟨h1, h2⟩ | ⟨h1, h2⟩
  · exact Or.inl (⟨h1, by omega⟩)
  · exact Or.inr (Or.inl (⟨h1, by omega⟩))
  · exact Or.inr (Or.inr (Or.inl (⟨h1, by omega⟩)))
  · exact Or.inr (Or.inr (Or.inr (Or.inl (⟨h1, by omega⟩))))
  · exact Or.inr (Or.inr (Or.inr (Or.inr (Or.inl (⟨h1, by omega⟩)))))
  · exact Or.inr (Or.inr (Or.inr (Or.inr (Or.inr (Or.inl (⟨h1, by omega⟩))))))
  · exact Or.inr (Or.inr (Or.inr (Or.inr (Or.inr (Or.inr ((⟨h1, by omega⟩)))))))
theorem sgPL4 {a i : Nat} (hp : PL 5 0 a i) : PL 4 12 a i := by
  unfold PL at hp
  rcases hp with ⟨h1, h2⟩ | ⟨h1, h2⟩ | ⟨h1, h2⟩ | ⟨h1, h2⟩ | ⟨h1, h2⟩ | ⟨h1, h2⟩ | ⟨h1, h2⟩
  · exact Or.inl (⟨h1, by omega⟩)
  · exact Or.inr (Or.inl (⟨h1, by omega⟩))
  · exact Or.inr (Or.inr (Or.inl (⟨h1, by omega⟩)))
  · exact Or.inr (Or.inr (Or.inr (Or.inl (⟨h1, by omega⟩))))
  · exact Or.inr (Or.inr (Or.inr (Or.inr (Or.inl (⟨h1, by omega⟩)))))
  · exact Or.inr (Or.inr (Or.inr (Or.inr (Or.inr (Or.inl (⟨h1, by omega⟩))))))
  · exact Or.inr (Or.inr (Or.inr (Or.inr (Or.inr (Or.inr ((⟨h1, by omega⟩)))))))
theorem sgPL5 {a i : Nat} (hp : PL 6 0 a i) : PL 5 11 a i := by
  unfold PL at hp
  rcases hp with ⟨h1, h2⟩ | ⟨h1, h2⟩ | ⟨h1, h2⟩ | ⟨h1, h2⟩ | ⟨h1, h2⟩ | ⟨h1, h2⟩ | ⟨h1, h2⟩
  · exact Or.inl (⟨h1, by omega⟩)
  · exact Or.inr (Or.inl (⟨h1, by omega⟩))
  · exact Or.inr (Or.inr (Or.inl (⟨h1, by omega⟩)))
  · exact Or.inr (Or.inr (Or.inr (Or.inl (⟨h1, by omega⟩))))
  · exact Or.inr (Or.inr (Or.inr (Or.inr (Or.inl (⟨h1, by omega⟩)))))
  · exact Or.inr (Or.inr (Or.inr (Or.inr (Or.inr (Or.inl (⟨h1, by omega⟩))))))
  · exact Or.inr (Or.inr (Or.inr (Or.inr (Or.inr (Or.inr ((⟨h1, by omega⟩)))))))
theorem sgPL6 {a i : Nat} (hp : PL 7 0 a i) : PL 6 10 a i := by
  unfold PL at hp
  rcases hp with ⟨h1, h2⟩ | ⟨h1, h2⟩ | ⟨h1, h2⟩ | ⟨h1, h2⟩ | ⟨h1, h2⟩ | ⟨h1, h2⟩ | ⟨h1, h2⟩
  · exact Or.inl (⟨h1, by omega⟩)
  · exact Or.inr (Or.inl (⟨h1, by omega⟩))
  · exact Or.inr (Or.inr (Or.inl (⟨h1, by omega⟩)))
  · exact Or.inr (Or.inr (Or.inr (Or.inl (⟨h1, by omega⟩))))
  · exact Or.inr (Or.inr (Or.inr (Or.inr (Or.inl (⟨h1, by omega⟩)))))
  · exact Or.inr (Or.inr (Or.inr (Or.inr (Or.inr (Or.inl (⟨h1, by omega⟩))))))
  · exact Or.inr (Or.inr (Or.inr (Or.inr (Or.inr (Or.inr ((⟨h1, by omega⟩)))))))
theorem sgPL7 {a i : Nat} (hp : PL 8 0 a i) : PL 7 5 a i := by
  unfold PL at hp
  rcases hp with ⟨h1, h2⟩ | ⟨h1, h2⟩ | ⟨h1, h2⟩ | ⟨h1, h2⟩ | ⟨h1, h2⟩ | ⟨h1, h2⟩ | ⟨h1, h2⟩
  · exact Or.inl (⟨h1, by omega⟩)
  · exact Or.inr (Or.inl (⟨h1, by omega⟩))
  · exact Or.inr (Or.inr (Or.inl (⟨h1, by omega⟩)))
  · exact Or.inr (Or.inr (Or.inr (Or.inl (⟨h1, by omega⟩))))
  · exact Or.inr (Or.inr (Or.inr (Or.inr (Or.inl (⟨h1, by omega⟩)))))
  · exact Or.inr (Or.inr (Or.inr (Or.inr (Or.inr (Or.inl (⟨h1, by omega⟩))))))
  · exact Or.inr (Or.inr (Or.inr (Or.inr (Or.inr (Or.inr ((⟨h1, by omega⟩)))))))
theorem PK_1 {a i : Nat} (hp : PK 1 0 a i) : a = 175 ∧ i < 7 := by
  unfold PK at hp
  rcases hp with h | ⟨h1, h2⟩ | ⟨h1, h2⟩ | ⟨h1, h2⟩ | ⟨h1, h2⟩ | ⟨h1, h2⟩ | ⟨h1, h2⟩ | ⟨h1, h2⟩
  · exact h
  all_goals exfalso; omega
theorem PL_1 {a i : Nat} (hp : PL 1 0 a i) : False := by
  unfold PL at hp
  rcases hp with ⟨h1, h2⟩ | ⟨h1, h2⟩ | ⟨h1, h2⟩ | ⟨h1, h2⟩ | ⟨h1, h2⟩ | ⟨h1, h2⟩ | ⟨h1, h2⟩ <;> omega
theorem PK_c {a i : Nat} (h : a = 175 ∧ i < 7) : (Pu 175 6 (Pu 175 5 (Pu 175 4 (Pu 175 3 (Pu 175 2 (Pu 175 1 (Pu 175 0 (fun _ _ => False)))))))) a i := by
  obtain ⟨rfl, h⟩ := h
  rcases (by omega : i = 6 ∨ i = 5 ∨ i = 4 ∨ i = 3 ∨ i = 2 ∨ i = 1 ∨ i = 0) with rfl | rfl | rfl | rfl | rfl | rfl | rfl
  · exact Or.inl ⟨rfl, rfl⟩
  · exact Or.inr (Or.inl ⟨rfl, rfl⟩)
  · exact Or.inr (Or.inr (Or.inl ⟨rfl, rfl⟩))
  · exact Or.inr (Or.inr (Or.inr (Or.inl ⟨rfl, rfl⟩)))
  · exact Or.inr (Or.inr (Or.inr (Or.inr (Or.inl ⟨rfl, rfl⟩))))
  · exact Or.inr (Or.inr (Or.inr (Or.inr (Or.inr (Or.inl ⟨rfl, rfl⟩)))))
  · exact Or.inr (Or.inr (Or.inr (Or.inr (Or.inr (Or.inr (Or.inl ⟨rfl, rfl⟩))))))
theorem stlp_i1 {a i j : Nat} (hp : PK 1 (j + 1) a i) : (Pu 178 (j) (Pu 177 (j) (PK 1 j))) a i := by
  unfold PK at hp
  rcases hp with ⟨h1, h2⟩ | ⟨h1, h2⟩ | ⟨h1, h2⟩ | ⟨h1, h2⟩ | ⟨h1, h2⟩ | ⟨h1, h2⟩ | ⟨h1, h2⟩ | ⟨h1, h2⟩
  · exact Or.inr (Or.inr (Or.inl (⟨h1, by omega⟩)))
  · rcases (by omega : a = 177 ∨ a = 178) with rfl | rfl
    · by_cases e0 : i = j
      · exact Or.inr (Or.inl ⟨rfl, e0⟩)
      · exact Or.inr (Or.inr (Or.inr (Or.inl (⟨by omega, by omega⟩))))
    · by_cases e1 : i = j
      · exact Or.inl ⟨rfl, e1⟩
      · exact Or.inr (Or.inr (Or.inr (Or.inl (⟨by omega, by omega⟩))))
  · exact Or.inr (Or.inr (Or.inr (Or.inr (Or.inl (⟨h1, by omega⟩)))))
  · exact Or.inr (Or.inr (Or.inr (Or.inr (Or.inr (Or.inl (⟨h1, by omega⟩))))))
  · exact Or.inr (Or.inr (Or.inr (Or.inr (Or.inr (Or.inr (Or.inl (⟨h1, by omega⟩)))))))
  · exact Or.inr (Or.inr (Or.inr (Or.inr (Or.inr (Or.inr (Or.inr (Or.inl (⟨h1, by omega⟩))))))))
  · exact Or.inr (Or.inr (Or.inr (Or.inr (Or.inr (Or.inr (Or.inr (Or.inr (Or.inl (⟨h1, by omega⟩)))))))))
  · exact Or.inr (Or.inr (Or.inr (Or.inr (Or.inr (Or.inr (Or.inr (Or.inr (Or.inr ((⟨h1, by omega⟩))))))))))
theorem stlp_i2 {a i j : Nat} (hp : PK 2 (j + 1) a i) : (Pu 181 (j) (Pu 180 (j) (Pu 179 (j) (PK 2 j)))) a i := by
  unfold PK at hp
  rcases hp with ⟨h1, h2⟩ | ⟨h1, h2⟩ | ⟨h1, h2⟩ | ⟨h1, h2⟩ | ⟨h1, h2⟩ | ⟨h1, h2⟩ | ⟨h1, h2⟩ | ⟨h1, h2⟩
  · exact Or.inr (Or.inr (Or.inr (Or.inl (⟨h1, by omega⟩))))
  · exact Or.inr (Or.inr (Or.inr (Or.inr (Or.inl (⟨h1, by omega⟩)))))
  · rcases (by omega : a = 179 ∨ a = 180 ∨ a = 181) with rfl | rfl | rfl
    · by_cases e0 : i = j
      · exact Or.inr (Or.inr (Or.inl ⟨rfl, e0⟩))
      · exact Or.inr (Or.inr (Or.inr (Or.inr (Or.inr (Or.inl (⟨by omega, by omega⟩))))))
    · by_cases e1 : i = j
      · exact Or.inr (Or.inl ⟨rfl, e1⟩)
      · exact Or.inr (Or.inr (Or.inr (Or.inr (Or.inr (Or.inl (⟨by omega, by omega⟩))))))
    · by_cases e2 : i = j
      · exact Or.inl ⟨rfl, e2⟩
      · exact Or.inr (Or.inr (Or.inr (Or.inr (Or.inr (Or.inl (⟨by omega, by omega⟩))))))
  · exact Or.inr (Or.inr (Or.inr (Or.inr (Or.inr (Or.inr (Or.inl (⟨h1, by omega⟩)))))))
  · exact Or.inr (Or.inr (Or.inr (Or.inr (Or.inr (Or.inr (Or.inr (Or.inl (⟨h1, by omega⟩))))))))
  · exact Or.inr (Or.inr (Or.inr (Or.inr (Or.inr (Or.inr (Or.inr (Or.inr (Or.inl (⟨h1, by omega⟩)))))))))
  · exact Or.inr (Or.inr (Or.inr (Or.inr (Or.inr (Or.inr (Or.inr (Or.inr (Or.inr (Or.inl (⟨h1, by omega⟩))))))))))
  · exact Or.inr (Or.inr (Or.inr (Or.inr (Or.inr (Or.inr (Or.inr (Or.inr (Or.inr (Or.inr ((⟨h1, by omega⟩)))))))))))
theorem stlp_i3 {a i j : Nat} (hp : PK 3 (j + 1) a i) : (Pu 184 (j) (Pu 183 (j) (PK 3 j))) a i := by
  unfold PK at hp
  rcases hp with ⟨h1, h2⟩ | ⟨h1, h2⟩ | ⟨h1, h2⟩ | ⟨h1, h2⟩ | ⟨h1, h2⟩ | ⟨h1, h2⟩ | ⟨h1, h2⟩ | ⟨h1, h2⟩
  · exact Or.inr (Or.inr (Or.inl (⟨h1, by omega⟩)))
  · exact Or.inr (Or.inr (Or.inr (Or.inl (⟨h1, by omega⟩))))
  · exact Or.inr (Or.inr (Or.inr (Or.inr (Or.inl (⟨h1, by omega⟩)))))
  · rcases (by omega : a = 183 ∨ a = 184) with rfl | rfl
    · by_cases e0 : i = j
      · exact Or.inr (Or.inl ⟨rfl, e0⟩)
      · exact Or.inr (Or.inr (Or.inr (Or.inr (Or.inr (Or.inl (⟨by omega, by omega⟩))))))
    · by_cases e1 : i = j
      · exact Or.inl ⟨rfl, e1⟩
      · exact Or.inr (Or.inr (Or.inr (Or.inr (Or.inr (Or.inl (⟨by omega, by omega⟩))))))
  · exact Or.inr (Or.inr (Or.inr (Or.inr (Or.inr (Or.inr (Or.inl (⟨h1, by omega⟩)))))))
  · exact Or.inr (Or.inr (Or.inr (Or.inr (Or.inr (Or.inr (Or.inr (Or.inl (⟨h1, by omega⟩))))))))
  · exact Or.inr (Or.inr (Or.inr (Or.inr (Or.inr (Or.inr (Or.inr (Or.inr (Or.inl (⟨h1, by omega⟩)))))))))
  · exact Or.inr (Or.inr (Or.inr (Or.inr (Or.inr (Or.inr (Or.inr (Or.inr (Or.inr ((⟨h1, by omega⟩))))))))))
theorem stlp_i4 {a i j : Nat} (hp : PK 4 (j + 1) a i) : (Pu 186 ((12 + j)) (Pu 186 (j) (PK 4 j))) a i := by
  unfold PK at hp
  rcases hp with ⟨h1, h2⟩ | ⟨h1, h2⟩ | ⟨h1, h2⟩ | ⟨h1, h2⟩ | ⟨h1, h2⟩ | ⟨h1, h2⟩ | ⟨h1, h2⟩ | ⟨h1, h2⟩
  · exact Or.inr (Or.inr (Or.inl (⟨h1, by omega⟩)))
  · exact Or.inr (Or.inr (Or.inr (Or.inl (⟨h1, by omega⟩))))
  · exact Or.inr (Or.inr (Or.inr (Or.inr (Or.inl (⟨h1, by omega⟩)))))
  · exact Or.inr (Or.inr (Or.inr (Or.inr (Or.inr (Or.inl (⟨h1, by omega⟩))))))
  · rcases (by omega : a = 186) with rfl
    · by_cases e0 : i = j
      · exact Or.inr (Or.inl ⟨rfl, e0⟩)
      · by_cases e1 : i = (12 + j)
        · exact Or.inl ⟨rfl, e1⟩
        · exact Or.inr (Or.inr (Or.inr (Or.inr (Or.inr (Or.inr (Or.inl (⟨by omega, by omega⟩)))))))
  · exact Or.inr (Or.inr (Or.inr (Or.inr (Or.inr (Or.inr (Or.inr (Or.inl (⟨h1, by omega⟩))))))))
  · exact Or.inr (Or.inr (Or.inr (Or.inr (Or.inr (Or.inr (Or.inr (Or.inr (Or.inl (⟨h1, by omega⟩)))))))))
  · exact Or.inr (Or.inr (Or.inr (Or.inr (Or.inr (Or.inr (Or.inr (Or.inr (Or.inr ((⟨h1, by omega⟩))))))))))
theorem stlp_i5 {a i j : Nat} (hp : PK 5 (j + 1) a i) : (Pu 185 (j) (PK 5 j)) a i := by
  unfold PK at hp
  rcases hp with ⟨h1, h2⟩ | ⟨h1, h2⟩ | ⟨h1, h2⟩ | ⟨h1, h2⟩ | ⟨h1, h2⟩ | ⟨h1, h2⟩ | ⟨h1, h2⟩ | ⟨h1, h2⟩
  · exact Or.inr (Or.inl (⟨h1, by omega⟩))
  · exact Or.inr (Or.inr (Or.inl (⟨h1, by omega⟩)))
  · exact Or.inr (Or.inr (Or.inr (Or.inl (⟨h1, by omega⟩))))
  · exact Or.inr (Or.inr (Or.inr (Or.inr (Or.inl (⟨h1, by omega⟩)))))
  · exact Or.inr (Or.inr (Or.inr (Or.inr (Or.inr (Or.inl (⟨h1, by omega⟩))))))
  · rcases (by omega : a = 185) with rfl
    · by_cases e0 : i = j
      · exact Or.inl ⟨rfl, e0⟩
      · exact Or.inr (Or.inr (Or.inr (Or.inr (Or.inr (Or.inr (Or.inl (⟨by omega, by omega⟩)))))))
  · exact Or.inr (Or.inr (Or.inr (Or.inr (Or.inr (Or.inr (Or.inr (Or.inl (⟨h1, by omega⟩))))))))
  · exact Or.inr (Or.inr (Or.inr (Or.inr (Or.inr (Or.inr (Or.inr (Or.inr ((⟨h1, by omega⟩)))))))))
theorem stlp_i6 {a i j : Nat} (hp : PK 6 (j + 1) a i) : (Pu 176 (j) (PK 6 j)) a i := by
  unfold PK at hp
  rcases hp with ⟨h1, h2⟩ | ⟨h1, h2⟩ | ⟨h1, h2⟩ | ⟨h1, h2⟩ | ⟨h1, h2⟩ | ⟨h1, h2⟩ | ⟨h1, h2⟩ | ⟨h1, h2⟩
  · exact Or.inr (Or.inl (⟨h1, by omega⟩))
  · exact Or.inr (Or.inr (Or.inl (⟨h1, by omega⟩)))
  · exact Or.inr (Or.inr (Or.inr (Or.inl (⟨h1, by omega⟩))))
  · exact Or.inr (Or.inr (Or.inr (Or.inr (Or.inl (⟨h1, by omega⟩)))))
  · exact Or.inr (Or.inr (Or.inr (Or.inr (Or.inr (Or.inl (⟨h1, by omega⟩))))))
  · exact Or.inr (Or.inr (Or.inr (Or.inr (Or.inr (Or.inr (Or.inl (⟨h1, by omega⟩)))))))
  · rcases (by omega : a = 176) with rfl
    · by_cases e0 : i = j
      · exact Or.inl ⟨rfl, e0⟩
      · exact Or.inr (Or.inr (Or.inr (Or.inr (Or.inr (Or.inr (Or.inr (Or.inl (⟨by omega, by omega⟩))))))))
  · exact Or.inr (Or.inr (Or.inr (Or.inr (Or.inr (Or.inr (Or.inr (Or.inr ((⟨h1, by omega⟩)))))))))
theorem stlp_i7 {a i j : Nat} (hp : PK 7 (j + 1) a i) : (Pu 182 (5 * j + 4) (Pu 182 (5 * j + 3) (Pu 182 (5 * j + 2) (Pu 182 (5 * j + 1) (Pu 182 (5 * j) (PK 7 j)))))) a i := by
  unfold PK at hp
  rcases hp with ⟨h1, h2⟩ | ⟨h1, h2⟩ | ⟨h1, h2⟩ | ⟨h1, h2⟩ | ⟨h1, h2⟩ | ⟨h1, h2⟩ | ⟨h1, h2⟩ | ⟨h1, h2⟩
  · exact Or.inr (Or.inr (Or.inr (Or.inr (Or.inr (Or.inl (⟨h1, by omega⟩))))))
  · exact Or.inr (Or.inr (Or.inr (Or.inr (Or.inr (Or.inr (Or.inl (⟨h1, by omega⟩)))))))
  · exact Or.inr (Or.inr (Or.inr (Or.inr (Or.inr (Or.inr (Or.inr (Or.inl (⟨h1, by omega⟩))))))))
  · exact Or.inr (Or.inr (Or.inr (Or.inr (Or.inr (Or.inr (Or.inr (Or.inr (Or.inl (⟨h1, by omega⟩)))))))))
  · exact Or.inr (Or.inr (Or.inr (Or.inr (Or.inr (Or.inr (Or.inr (Or.inr (Or.inr (Or.inl (⟨h1, by omega⟩))))))))))
  · exact Or.inr (Or.inr (Or.inr (Or.inr (Or.inr (Or.inr (Or.inr (Or.inr (Or.inr (Or.inr (Or.inl (⟨h1, by omega⟩)))))))))))
  · exact Or.inr (Or.inr (Or.inr (Or.inr (Or.inr (Or.inr (Or.inr (Or.inr (Or.inr (Or.inr (Or.inr (Or.inl (⟨h1, by omega⟩))))))))))))
  · rcases (by omega : a = 182) with rfl
    · by_cases e0 : i = 5 * j
      · exact Or.inr (Or.inr (Or.inr (Or.inr (Or.inl ⟨rfl, e0⟩))))
      · by_cases e1 : i = 5 * j + 1
        · exact Or.inr (Or.inr (Or.inr (Or.inl ⟨rfl, e1⟩)))
        · by_cases e2 : i = 5 * j + 2
          · exact Or.inr (Or.inr (Or.inl ⟨rfl, e2⟩))
          · by_cases e3 : i = 5 * j + 3
            · exact Or.inr (Or.inl ⟨rfl, e3⟩)
            · by_cases e4 : i = 5 * j + 4
              · exact Or.inl ⟨rfl, e4⟩
              · exact Or.inr (Or.inr (Or.inr (Or.inr (Or.inr (Or.inr (Or.inr (Or.inr (Or.inr (Or.inr (Or.inr (Or.inr ((⟨by omega, by omega⟩)))))))))))))
theorem stlp_y1 {a i j : Nat} (hp : PL 1 (j + 1) a i) : (Pu 145 (j) (Pu 144 (j) (PL 1 j))) a i := by
  unfold PL at hp
  rcases hp with ⟨h1, h2⟩ | ⟨h1, h2⟩ | ⟨h1, h2⟩ | ⟨h1, h2⟩ | ⟨h1, h2⟩ | ⟨h1, h2⟩ | ⟨h1, h2⟩
  · rcases (by omega : a = 144 ∨ a = 145) with rfl | rfl
    · by_cases e0 : i = j
      · exact Or.inr (Or.inl ⟨rfl, e0⟩)
      · exact Or.inr (Or.inr (Or.inl (⟨by omega, by omega⟩)))
    · by_cases e1 : i = j
      · exact Or.inl ⟨rfl, e1⟩
      · exact Or.inr (Or.inr (Or.inl (⟨by omega, by omega⟩)))
  · exact Or.inr (Or.inr (Or.inr (Or.inl (⟨h1, by omega⟩))))
  · exact Or.inr (Or.inr (Or.inr (Or.inr (Or.inl (⟨h1, by omega⟩)))))
  · exact Or.inr (Or.inr (Or.inr (Or.inr (Or.inr (Or.inl (⟨h1, by omega⟩))))))
  · exact Or.inr (Or.inr (Or.inr (Or.inr (Or.inr (Or.inr (Or.inl (⟨h1, by omega⟩)))))))
  · exact Or.inr (Or.inr (Or.inr (Or.inr (Or.inr (Or.inr (Or.inr (Or.inl (⟨h1, by omega⟩))))))))
  · exact Or.inr (Or.inr (Or.inr (Or.inr (Or.inr (Or.inr (Or.inr (Or.inr ((⟨h1, by omega⟩)))))))))
theorem stlp_y2 {a i j : Nat} (hp : PL 2 (j + 1) a i) : (Pu 148 (j) (Pu 147 (j) (Pu 146 (j) (PL 2 j)))) a i := by
  unfold PL at hp
  rcases hp with ⟨h1, h2⟩ | ⟨h1, h2⟩ | ⟨h1, h2⟩ | ⟨h1, h2⟩ | ⟨h1, h2⟩ | ⟨h1, h2⟩ | ⟨h1, h2⟩
  · exact Or.inr (Or.inr (Or.inr (Or.inl (⟨h1, by omega⟩))))
  · rcases (by omega : a = 146 ∨ a = 147 ∨ a = 148) with rfl | rfl | rfl
    · by_cases e0 : i = j
      · exact Or.inr (Or.inr (Or.inl ⟨rfl, e0⟩))
      · exact Or.inr (Or.inr (Or.inr (Or.inr (Or.inl (⟨by omega, by omega⟩)))))
    · by_cases e1 : i = j
      · exact Or.inr (Or.inl ⟨rfl, e1⟩)
      · exact Or.inr (Or.inr (Or.inr (Or.inr (Or.inl (⟨by omega, by omega⟩)))))
    · by_cases e2 : i = j
      · exact Or.inl ⟨rfl, e2⟩
      · exact Or.inr (Or.inr (Or.inr (Or.inr (Or.inl (⟨by omega, by omega⟩)))))
  · exact Or.inr (Or.inr (Or.inr (Or.inr (Or.inr (Or.inl (⟨h1, by omega⟩))))))
  · exact Or.inr (Or.inr (Or.inr (Or.inr (Or.inr (Or.inr (Or.inl (⟨h1, by omega⟩)))))))
  · exact Or.inr (Or.inr (Or.inr (Or.inr (Or.inr (Or.inr (Or.inr (Or.inl (⟨h1, by omega⟩))))))))
  · exact Or.inr (Or.inr (Or.inr (Or.inr (Or.inr (Or.inr (Or.inr (Or.inr (Or.inl (⟨h1, by omega⟩)))))))))
  · exact Or.inr (Or.inr (Or.inr (Or.inr (Or.inr (Or.inr (Or.inr (Or.inr (Or.inr ((⟨h1, by omega⟩))))))))))
theorem stlp_y3 {a i j : Nat} (hp : PL 3 (j + 1) a i) : (Pu 158 (j) (Pu 157 (j) (PL 3 j))) a i := by
  unfold PL at hp
  rcases hp with ⟨h1, h2⟩ | ⟨h1, h2⟩ | ⟨h1, h2⟩ | ⟨h1, h2⟩ | ⟨h1, h2⟩ | ⟨h1, h2⟩ | ⟨h1, h2⟩
  · exact Or.inr (Or.inr (Or.inl (⟨h1, by omega⟩)))
  · exact Or.inr (Or.inr (Or.inr (Or.inl (⟨h1, by omega⟩))))
  · rcases (by omega : a = 157 ∨ a = 158) with rfl | rfl
    · by_cases e0 : i = j
      · exact Or.inr (Or.inl ⟨rfl, e0⟩)
      · exact Or.inr (Or.inr (Or.inr (Or.inr (Or.inl (⟨by omega, by omega⟩)))))
    · by_cases e1 : i = j
      · exact Or.inl ⟨rfl, e1⟩
      · exact Or.inr (Or.inr (Or.inr (Or.inr (Or.inl (⟨by omega, by omega⟩)))))
  · exact Or.inr (Or.inr (Or.inr (Or.inr (Or.inr (Or.inl (⟨h1, by omega⟩))))))
  · exact Or.inr (Or.inr (Or.inr (Or.inr (Or.inr (Or.inr (Or.inl (⟨h1, by omega⟩)))))))
  · exact Or.inr (Or.inr (Or.inr (Or.inr (Or.inr (Or.inr (Or.inr (Or.inl (⟨h1, by omega⟩))))))))
  · exact Or.inr (Or.inr (Or.inr (Or.inr (Or.inr (Or.inr (Or.inr (Or.inr ((⟨h1, by omega⟩)))))))))
theorem stlp_y4 {a i j : Nat} (hp : PL 4 (j + 1) a i) : (Pu 164 (j) (Pu 163 (j) (PL 4 j))) a i := by
  unfold PL at hp
  rcases hp with ⟨h1, h2⟩ | ⟨h1, h2⟩ | ⟨h1, h2⟩ | ⟨h1, h2⟩ | ⟨h1, h2⟩ | ⟨h1, h2⟩ | ⟨h1, h2⟩
  · exact Or.inr (Or.inr (Or.inl (⟨h1, by omega⟩)))
  · exact Or.inr (Or.inr (Or.inr (Or.inl (⟨h1, by omega⟩))))
  · exact Or.inr (Or.inr (Or.inr (Or.inr (Or.inl (⟨h1, by omega⟩)))))
  · rcases (by omega : a = 163 ∨ a = 164) with rfl | rfl
    · by_cases e0 : i = j
      · exact Or.inr (Or.inl ⟨rfl, e0⟩)
      · exact Or.inr (Or.inr (Or.inr (Or.inr (Or.inr (Or.inl (⟨by omega, by omega⟩))))))
    · by_cases e1 : i = j
      · exact Or.inl ⟨rfl, e1⟩
      · exact Or.inr (Or.inr (Or.inr (Or.inr (Or.inr (Or.inl (⟨by omega, by omega⟩))))))
  · exact Or.inr (Or.inr (Or.inr (Or.inr (Or.inr (Or.inr (Or.inl (⟨h1, by omega⟩)))))))
  · exact Or.inr (Or.inr (Or.inr (Or.inr (Or.inr (Or.inr (Or.inr (Or.inl (⟨h1, by omega⟩))))))))
  · exact Or.inr (Or.inr (Or.inr (Or.inr (Or.inr (Or.inr (Or.inr (Or.inr ((⟨h1, by omega⟩)))))))))
theorem stlp_y5 {a i j : Nat} (hp : PL 5 (j + 1) a i) : (Pu 159 (j) (PL 5 j)) a i := by
  unfold PL at hp
  rcases hp with ⟨h1, h2⟩ | ⟨h1, h2⟩ | ⟨h1, h2⟩ | ⟨h1, h2⟩ | ⟨h1, h2⟩ | ⟨h1, h2⟩ | ⟨h1, h2⟩
  · exact Or.inr (Or.inl (⟨h1, by omega⟩))
  · exact Or.inr (Or.inr (Or.inl (⟨h1, by omega⟩)))
  · exact Or.inr (Or.inr (Or.inr (Or.inl (⟨h1, by omega⟩))))
  · exact Or.inr (Or.inr (Or.inr (Or.inr (Or.inl (⟨h1, by omega⟩)))))
  · rcases (by omega : a = 159) with rfl
    · by_cases e0 : i = j
      · exact Or.inl ⟨rfl, e0⟩
      · exact Or.inr (Or.inr (Or.inr (Or.inr (Or.inr (Or.inl (⟨by omega, by omega⟩))))))
  · exact Or.inr (Or.inr (Or.inr (Or.inr (Or.inr (Or.inr (Or.inl (⟨h1, by omega⟩)))))))
  · exact Or.inr (Or.inr (Or.inr (Or.inr (Or.inr (Or.inr (Or.inr ((⟨h1, by omega⟩))))))))
theorem stlp_y6 {a i j : Nat} (hp : PL 6 (j + 1) a i) : (Pu 143 (j) (PL 6 j)) a i := by
  unfold PL at hp
  rcases hp with ⟨h1, h2⟩ | ⟨h1, h2⟩ | ⟨h1, h2⟩ | ⟨h1, h2⟩ | ⟨h1, h2⟩ | ⟨h1, h2⟩ | ⟨h1, h2⟩
  · exact Or.inr (Or.inl (⟨h1, by omega⟩))
  · exact Or.inr (Or.inr (Or.inl (⟨h1, by omega⟩)))
  · exact Or.inr (Or.inr (Or.inr (Or.inl (⟨h1, by omega⟩))))
  · exact Or.inr (Or.inr (Or.inr (Or.inr (Or.inl (⟨h1, by omega⟩)))))
  · exact Or.inr (Or.inr (Or.inr (Or.inr (Or.inr (Or.inl (⟨h1, by omega⟩))))))
  · rcases (by omega : a = 143) with rfl
    · by_cases e0 : i = j
      · exact Or.inl ⟨rfl, e0⟩
      · exact Or.inr (Or.inr (Or.inr (Or.inr (Or.inr (Or.inr (Or.inl (⟨by omega, by omega⟩)))))))
  · exact Or.inr (Or.inr (Or.inr (Or.inr (Or.inr (Or.inr (Or.inr ((⟨h1, by omega⟩))))))))
theorem stlp_y7 {a i j : Nat} (hp : PL 7 (j + 1) a i) : (Pu 156 (j) (Pu 155 (j) (Pu 154 (j) (Pu 153 (j) (Pu 152 (j) (PL 7 j)))))) a i := by
  unfold PL at hp
  rcases hp with ⟨h1, h2⟩ | ⟨h1, h2⟩ | ⟨h1, h2⟩ | ⟨h1, h2⟩ | ⟨h1, h2⟩ | ⟨h1, h2⟩ | ⟨h1, h2⟩
  · exact Or.inr (Or.inr (Or.inr (Or.inr (Or.inr (Or.inl (⟨h1, by omega⟩))))))
  · exact Or.inr (Or.inr (Or.inr (Or.inr (Or.inr (Or.inr (Or.inl (⟨h1, by omega⟩)))))))
  · exact Or.inr (Or.inr (Or.inr (Or.inr (Or.inr (Or.inr (Or.inr (Or.inl (⟨h1, by omega⟩))))))))
  · exact Or.inr (Or.inr (Or.inr (Or.inr (Or.inr (Or.inr (Or.inr (Or.inr (Or.inl (⟨h1, by omega⟩)))))))))
  · exact Or.inr (Or.inr (Or.inr (Or.inr (Or.inr (Or.inr (Or.inr (Or.inr (Or.inr (Or.inl (⟨h1, by omega⟩))))))))))
  · exact Or.inr (Or.inr (Or.inr (Or.inr (Or.inr (Or.inr (Or.inr (Or.inr (Or.inr (Or.inr (Or.inl (⟨h1, by omega⟩)))))))))))
  · rcases (by omega : a = 152 ∨ a = 153 ∨ a = 154 ∨ a = 155 ∨ a = 156) with rfl | rfl | rfl | rfl | rfl
    · by_cases e0 : i = j
      · exact Or.inr (Or.inr (Or.inr (Or.inr (Or.inl ⟨rfl, e0⟩))))
      · exact Or.inr (Or.inr (Or.inr (Or.inr (Or.inr (Or.inr (Or.inr (Or.inr (Or.inr (Or.inr (Or.inr ((⟨by omega, by omega⟩))))))))))))
    · by_cases e1 : i = j
      · exact Or.inr (Or.inr (Or.inr (Or.inl ⟨rfl, e1⟩)))
      · exact Or.inr (Or.inr (Or.inr (Or.inr (Or.inr (Or.inr (Or.inr (Or.inr (Or.inr (Or.inr (Or.inr ((⟨by omega, by omega⟩))))))))))))
    · by_cases e2 : i = j
      · exact Or.inr (Or.inr (Or.inl ⟨rfl, e2⟩))
      · exact Or.inr (Or.inr (Or.inr (Or.inr (Or.inr (Or.inr (Or.inr (Or.inr (Or.inr (Or.inr (Or.inr ((⟨by omega, by omega⟩))))))))))))
    · by_cases e3 : i = j
      · exact Or.inr (Or.inl ⟨rfl, e3⟩)
      · exact Or.inr (Or.inr (Or.inr (Or.inr (Or.inr (Or.inr (Or.inr (Or.inr (Or.inr (Or.inr (Or.inr ((⟨by omega, by omega⟩))))))))))))
    · by_cases e4 : i = j
      · exact Or.inl ⟨rfl, e4⟩
      · exact Or.inr (Or.inr (Or.inr (Or.inr (Or.inr (Or.inr (Or.inr (Or.inr (Or.inr (Or.inr (Or.inr ((⟨by omega, by omega⟩))))))))))))
section HC
variable {G : Gl} {R : Room} {F : Fn} {K : Int32 → Hp → Prop} {KV : Hp → Prop} {σ : Nat → Nat → Int32} {b : Bool}
theorem lp_i1 (hX : ∀ τ, KQ σ τ (PK 1 1000) → V G mX12_image (rl 2) F 0 0 110 [some (.ref 139), some (.int (nI 1000))] [] (τ, sh b)) : ∀ n, n ≤ 1000 → ∀ j, j + n = 1000 → ∀ τ, KQ σ τ (PK 1 j) → V G mX12_image (rl 2) F 0 0 73 [some (.ref 139), some (.int (nI j))] [] (τ, sh b) := by
  intro n
  induction n with
  | zero =>
    intro _ j hj τ h
    obtain rfl : j = 1000 := by omega
    refine V_iload_n (pc := 73) d_X12_image_73 rfl ?_
    refine V_sipush (pc := 74) (nI 1000) d_X12_image_74 (by decide) ?_
    refine B_icmp_ge (pc := 77) 110 d_X12_image_77 (by decide) (fun c77 => ?_) (fun c77 => ?_)
    · simp (disch := omega) only [show (nI 1000).toInt = 1000 from by decide, show (nI 1000).toInt = 1000 from by decide, nI_toInt, ti0, ti1, tim1, tim20, tim1000] at c77
      exact hX _ h
    · exact absurd (by decide) c77
  | succ n ih =>
    intro _ j hj τ h
    refine V_hr (P := zo (τ 145 j)) (fun H hH => hH.zall (tt_145 b) (Nat.lt_of_lt_of_eq (by omega) (ll_145 b).symm)) (fun z145 => ?_)
    refine V_iload_n (pc := 73) d_X12_image_73 rfl ?_
    refine V_sipush (pc := 74) (nI 1000) d_X12_image_74 (by decide) ?_
    refine B_icmp_ge (pc := 77) 110 d_X12_image_77 (by decide) (fun c77 => ?_) (fun c77 => ?_)
    · simp (disch := omega) only [show (nI 1000).toInt = 1000 from by decide, nI_toInt, ti0, ti1, tim1, tim20, tim1000] at c77
      all_goals omega
    · simp (disch := omega) only [show (nI 1000).toInt = 1000 from by decide, nI_toInt, ti0, ti1, tim1, tim20, tim1000] at c77
      refine V_aload_n (pc := 80) d_X12_image_80 rfl ?_
      refine P_getR (pc := 81) d_X12_image_81 f_X12_122 (tt_139 b) (rr_139_48 b) ?_
      refine V_iload_n (pc := 84) d_X12_image_84 rfl ?_
      refine V_aload_n (pc := 85) d_X12_image_85 rfl ?_
      refine P_getR (pc := 86) d_X12_image_86 f_X12_23 (tt_139 b) (rr_139_7 b) ?_
      refine V_iload_n (pc := 89) d_X12_image_89 rfl ?_
      refine P_iald (pc := 90) (j) d_X12_image_90 (tt_144 b) rfl (ln_of (ll_144 b) ⟨by omega, by decide⟩) ?_
      refine P_iast (pc := 91) (j) d_X12_image_91 (tt_177 b) rfl (ln_of (ll_177 b) ⟨by omega, by decide⟩) ?_
      refine V_aload_n (pc := 92) d_X12_image_92 rfl ?_
      refine P_getR (pc := 93) d_X12_image_93 f_X12_125 (tt_139 b) (rr_139_49 b) ?_
      refine V_iload_n (pc := 96) d_X12_image_96 rfl ?_
      refine V_aload_n (pc := 97) d_X12_image_97 rfl ?_
      refine P_getR (pc := 98) d_X12_image_98 f_X12_26 (tt_139 b) (rr_139_8 b) ?_
      refine V_iload_n (pc := 101) d_X12_image_101 rfl ?_
      refine P_zald (pc := 102) (j) d_X12_image_102 (tt_145 b) rfl (ln_of (ll_145 b) ⟨by omega, by decide⟩) ?_
      simp (disch := omega) only [up2_n, up2_e]
      refine P_zast (pc := 103) (j) d_X12_image_103 (tt_178 b) rfl (ln_of (ll_178 b) ⟨by omega, by decide⟩) z145 ?_
      refine V_iinc (pc := 104) d_X12_image_104 rfl (by decide) ?_
      refine V_goto (pc := 107) 73 d_X12_image_107 (by decide) ?_
      rw [p1_s]
      exact ih (by omega) (j + 1) (by omega) _ (KQ_m (fun a i hp => stlp_i1 hp) (KQ_s (KQ_s h (by omega) (h.1 144 j (by omega))) (by omega) (h.1 145 j (by omega))))
theorem lp_i2 (hX : ∀ τ, KQ σ τ (PK 2 100) → V G mX12_image (rl 2) F 0 0 160 [some (.ref 139), some (.int (nI 100))] [] (τ, sh b)) : ∀ n, n ≤ 100 → ∀ j, j + n = 100 → ∀ τ, KQ σ τ (PK 2 j) → V G mX12_image (rl 2) F 0 0 112 [some (.ref 139), some (.int (nI j))] [] (τ, sh b) := by
  intro n
  induction n with
  | zero =>
    intro _ j hj τ h
    obtain rfl : j = 100 := by omega
    refine V_iload_n (pc := 112) d_X12_image_112 rfl ?_
    refine V_bipush (pc := 113) (nI 100) d_X12_image_113 (by decide) ?_
    refine B_icmp_ge (pc := 115) 160 d_X12_image_115 (by decide) (fun c115 => ?_) (fun c115 => ?_)
    · simp (disch := omega) only [show (nI 100).toInt = 100 from by decide, show (nI 100).toInt = 100 from by decide, nI_toInt, ti0, ti1, tim1, tim20, tim1000] at c115
      exact hX _ h
    · exact absurd (by decide) c115
  | succ n ih =>
    intro _ j hj τ h
    refine V_hr (P := zo (τ 147 j)) (fun H hH => hH.zall (tt_147 b) (Nat.lt_of_lt_of_eq (by omega) (ll_147 b).symm)) (fun z147 => ?_)
    refine V_hr (P := zo (τ 148 j)) (fun H hH => hH.zall (tt_148 b) (Nat.lt_of_lt_of_eq (by omega) (ll_148 b).symm)) (fun z148 => ?_)
    refine V_iload_n (pc := 112) d_X12_image_112 rfl ?_
    refine V_bipush (pc := 113) (nI 100) d_X12_image_113 (by decide) ?_
    refine B_icmp_ge (pc := 115) 160 d_X12_image_115 (by decide) (fun c115 => ?_) (fun c115 => ?_)
    · simp (disch := omega) only [show (nI 100).toInt = 100 from by decide, nI_toInt, ti0, ti1, tim1, tim20, tim1000] at c115
      all_goals omega
    · simp (disch := omega) only [show (nI 100).toInt = 100 from by decide, nI_toInt, ti0, ti1, tim1, tim20, tim1000] at c115
      refine V_aload_n (pc := 118) d_X12_image_118 rfl ?_
      refine P_getR (pc := 119) d_X12_image_119 f_X12_128 (tt_139 b) (rr_139_50 b) ?_
      refine V_iload_n (pc := 122) d_X12_image_122 rfl ?_
      refine V_aload_n (pc := 123) d_X12_image_123 rfl ?_
      refine P_getR (pc := 124) d_X12_image_124 f_X12_29 (tt_139 b) (rr_139_9 b) ?_
      refine V_iload_n (pc := 127) d_X12_image_127 rfl ?_
      refine P_iald (pc := 128) (j) d_X12_image_128 (tt_146 b) rfl (ln_of (ll_146 b) ⟨by omega, by decide⟩) ?_
      refine P_iast (pc := 129) (j) d_X12_image_129 (tt_179 b) rfl (ln_of (ll_179 b) ⟨by omega, by decide⟩) ?_
      refine V_aload_n (pc := 130) d_X12_image_130 rfl ?_
      refine P_getR (pc := 131) d_X12_image_131 f_X12_131 (tt_139 b) (rr_139_51 b) ?_
      refine V_iload_n (pc := 134) d_X12_image_134 rfl ?_
      refine V_aload_n (pc := 135) d_X12_image_135 rfl ?_
      refine P_getR (pc := 136) d_X12_image_136 f_X12_32 (tt_139 b) (rr_139_10 b) ?_
      refine V_iload_n (pc := 139) d_X12_image_139 rfl ?_
      refine P_zald (pc := 140) (j) d_X12_image_140 (tt_147 b) rfl (ln_of (ll_147 b) ⟨by omega, by decide⟩) ?_
      simp (disch := omega) only [up2_n, up2_e]
      refine P_zast (pc := 141) (j) d_X12_image_141 (tt_180 b) rfl (ln_of (ll_180 b) ⟨by omega, by decide⟩) z147 ?_
      refine V_aload_n (pc := 142) d_X12_image_142 rfl ?_
      refine P_getR (pc := 143) d_X12_image_143 f_X12_134 (tt_139 b) (rr_139_52 b) ?_
      refine V_iload_n (pc := 146) d_X12_image_146 rfl ?_
      refine V_aload_n (pc := 147) d_X12_image_147 rfl ?_
      refine P_getR (pc := 148) d_X12_image_148 f_X12_35 (tt_139 b) (rr_139_11 b) ?_
      refine V_iload_n (pc := 151) d_X12_image_151 rfl ?_
      refine P_zald (pc := 152) (j) d_X12_image_152 (tt_148 b) rfl (ln_of (ll_148 b) ⟨by omega, by decide⟩) ?_
      simp (disch := omega) only [up2_n, up2_e]
      refine P_zast (pc := 153) (j) d_X12_image_153 (tt_181 b) rfl (ln_of (ll_181 b) ⟨by omega, by decide⟩) z148 ?_
      refine V_iinc (pc := 154) d_X12_image_154 rfl (by decide) ?_
      refine V_goto (pc := 157) 112 d_X12_image_157 (by decide) ?_
      rw [p1_s]
      exact ih (by omega) (j + 1) (by omega) _ (KQ_m (fun a i hp => stlp_i2 hp) (KQ_s (KQ_s (KQ_s h (by omega) (h.1 146 j (by omega))) (by omega) (h.1 147 j (by omega))) (by omega) (h.1 148 j (by omega))))
theorem lp_i3 (hX : ∀ τ, KQ σ τ (PK 3 160) → V G mX12_image (rl 2) F 0 0 199 [some (.ref 139), some (.int (nI 160))] [] (τ, sh b)) : ∀ n, n ≤ 160 → ∀ j, j + n = 160 → ∀ τ, KQ σ τ (PK 3 j) → V G mX12_image (rl 2) F 0 0 162 [some (.ref 139), some (.int (nI j))] [] (τ, sh b) := by
  intro n
  induction n with
  | zero =>
    intro _ j hj τ h
    obtain rfl : j = 160 := by omega
    refine V_iload_n (pc := 162) d_X12_image_162 rfl ?_
    refine V_sipush (pc := 163) (nI 160) d_X12_image_163 (by decide) ?_
    refine B_icmp_ge (pc := 166) 199 d_X12_image_166 (by decide) (fun c166 => ?_) (fun c166 => ?_)
    · simp (disch := omega) only [show (nI 160).toInt = 160 from by decide, show (nI 160).toInt = 160 from by decide, nI_toInt, ti0, ti1, tim1, tim20, tim1000] at c166
      exact hX _ h
    · exact absurd (by decide) c166
  | succ n ih =>
    intro _ j hj τ h
    refine V_iload_n (pc := 162) d_X12_image_162 rfl ?_
    refine V_sipush (pc := 163) (nI 160) d_X12_image_163 (by decide) ?_
    refine B_icmp_ge (pc := 166) 199 d_X12_image_166 (by decide) (fun c166 => ?_) (fun c166 => ?_)
    · simp (disch := omega) only [show (nI 160).toInt = 160 from by decide, nI_toInt, ti0, ti1, tim1, tim20, tim1000] at c166
      all_goals omega
    · simp (disch := omega) only [show (nI 160).toInt = 160 from by decide, nI_toInt, ti0, ti1, tim1, tim20, tim1000] at c166
      refine V_aload_n (pc := 169) d_X12_image_169 rfl ?_
      refine P_getR (pc := 170) d_X12_image_170 f_X12_140 (tt_139 b) (rr_139_54 b) ?_
      refine V_iload_n (pc := 173) d_X12_image_173 rfl ?_
      refine V_aload_n (pc := 174) d_X12_image_174 rfl ?_
      refine P_getR (pc := 175) d_X12_image_175 f_X12_62 (tt_139 b) (rr_139_21 b) ?_
      refine V_iload_n (pc := 178) d_X12_image_178 rfl ?_
      refine P_iald (pc := 179) (j) d_X12_image_179 (tt_157 b) rfl (ln_of (ll_157 b) ⟨by omega, by decide⟩) ?_
      refine P_iast (pc := 180) (j) d_X12_image_180 (tt_183 b) rfl (ln_of (ll_183 b) ⟨by omega, by decide⟩) ?_
      refine V_aload_n (pc := 181) d_X12_image_181 rfl ?_
      refine P_getR (pc := 182) d_X12_image_182 f_X12_143 (tt_139 b) (rr_139_55 b) ?_
      refine V_iload_n (pc := 185) d_X12_image_185 rfl ?_
      refine V_aload_n (pc := 186) d_X12_image_186 rfl ?_
      refine P_getR (pc := 187) d_X12_image_187 f_X12_65 (tt_139 b) (rr_139_22 b) ?_
      refine V_iload_n (pc := 190) d_X12_image_190 rfl ?_
      refine P_iald (pc := 191) (j) d_X12_image_191 (tt_158 b) rfl (ln_of (ll_158 b) ⟨by omega, by decide⟩) ?_
      simp (disch := omega) only [up2_n, up2_e]
      refine P_iast (pc := 192) (j) d_X12_image_192 (tt_184 b) rfl (ln_of (ll_184 b) ⟨by omega, by decide⟩) ?_
      refine V_iinc (pc := 193) d_X12_image_193 rfl (by decide) ?_
      refine V_goto (pc := 196) 162 d_X12_image_196 (by decide) ?_
      rw [p1_s]
      exact ih (by omega) (j + 1) (by omega) _ (KQ_m (fun a i hp => stlp_i3 hp) (KQ_s (KQ_s h (by omega) (h.1 157 j (by omega))) (by omega) (h.1 158 j (by omega))))
theorem lp_i4 (hX : ∀ τ, KQ σ τ (PK 4 12) → V G mX12_image (rl 2) F 0 0 240 [some (.ref 139), some (.int (nI 12))] [] (τ, sh b)) : ∀ n, n ≤ 12 → ∀ j, j + n = 12 → ∀ τ, KQ σ τ (PK 4 j) → V G mX12_image (rl 2) F 0 0 201 [some (.ref 139), some (.int (nI j))] [] (τ, sh b) := by
  intro n
  induction n with
  | zero =>
    intro _ j hj τ h
    obtain rfl : j = 12 := by omega
    refine V_iload_n (pc := 201) d_X12_image_201 rfl ?_
    refine V_bipush (pc := 202) (nI 12) d_X12_image_202 (by decide) ?_
    refine B_icmp_ge (pc := 204) 240 d_X12_image_204 (by decide) (fun c204 => ?_) (fun c204 => ?_)
    · simp (disch := omega) only [show (nI 12).toInt = 12 from by decide, show (nI 12).toInt = 12 from by decide, nI_toInt, ti0, ti1, tim1, tim20, tim1000] at c204
      exact hX _ h
    · exact absurd (by decide) c204
  | succ n ih =>
    intro _ j hj τ h
    refine V_iload_n (pc := 201) d_X12_image_201 rfl ?_
    refine V_bipush (pc := 202) (nI 12) d_X12_image_202 (by decide) ?_
    refine B_icmp_ge (pc := 204) 240 d_X12_image_204 (by decide) (fun c204 => ?_) (fun c204 => ?_)
    · simp (disch := omega) only [show (nI 12).toInt = 12 from by decide, nI_toInt, ti0, ti1, tim1, tim20, tim1000] at c204
      all_goals omega
    · simp (disch := omega) only [show (nI 12).toInt = 12 from by decide, nI_toInt, ti0, ti1, tim1, tim20, tim1000] at c204
      refine V_aload_n (pc := 207) d_X12_image_207 rfl ?_
      refine P_getR (pc := 208) d_X12_image_208 f_X12_149 (tt_139 b) (rr_139_57 b) ?_
      refine V_iload_n (pc := 211) d_X12_image_211 rfl ?_
      refine V_aload_n (pc := 212) d_X12_image_212 rfl ?_
      refine P_getR (pc := 213) d_X12_image_213 f_X12_80 (tt_139 b) (rr_139_28 b) ?_
      refine V_iload_n (pc := 216) d_X12_image_216 rfl ?_
      refine P_iald (pc := 217) (j) d_X12_image_217 (tt_163 b) rfl (ln_of (ll_163 b) ⟨by omega, by decide⟩) ?_
      refine P_iast (pc := 218) (j) d_X12_image_218 (tt_186 b) rfl (ln_of (ll_186 b) ⟨by omega, by decide⟩) ?_
      refine V_aload_n (pc := 219) d_X12_image_219 rfl ?_
      refine P_getR (pc := 220) d_X12_image_220 f_X12_149 (tt_139 b) (rr_139_57 b) ?_
      refine V_bipush (pc := 223) (nI 12) d_X12_image_223 (by decide) ?_
      refine V_iload_n (pc := 225) d_X12_image_225 rfl ?_
      refine V_iadd (pc := 226) d_X12_image_226 ?_
      refine V_aload_n (pc := 227) d_X12_image_227 rfl ?_
      refine P_getR (pc := 228) d_X12_image_228 f_X12_83 (tt_139 b) (rr_139_29 b) ?_
      refine V_iload_n (pc := 231) d_X12_image_231 rfl ?_
      refine P_iald (pc := 232) (j) d_X12_image_232 (tt_164 b) rfl (ln_of (ll_164 b) ⟨by omega, by decide⟩) ?_
      simp (disch := omega) only [up2_n, up2_e]
      refine P_iast (pc := 233) (12 + j) d_X12_image_233 (tt_186 b) (by simp only [nI_add]) (ln_of (ll_186 b) ⟨by omega, by decide⟩) ?_
      refine V_iinc (pc := 234) d_X12_image_234 rfl (by decide) ?_
      refine V_goto (pc := 237) 201 d_X12_image_237 (by decide) ?_
      rw [p1_s]
      exact ih (by omega) (j + 1) (by omega) _ (KQ_m (fun a i hp => stlp_i4 hp) (KQ_s (KQ_s h (by omega) ((h.1 163 j (by omega)).trans (kv12l σ j (by omega)).symm)) (by omega) ((h.1 164 j (by omega)).trans (kv12 σ j).symm)))
theorem lp_i5 (hX : ∀ τ, KQ σ τ (PK 5 11) → V G mX12_image (rl 2) F 0 0 266 [some (.ref 139), some (.int (nI 11))] [] (τ, sh b)) : ∀ n, n ≤ 11 → ∀ j, j + n = 11 → ∀ τ, KQ σ τ (PK 5 j) → V G mX12_image (rl 2) F 0 0 242 [some (.ref 139), some (.int (nI j))] [] (τ, sh b) := by
  intro n
  induction n with
  | zero =>
    intro _ j hj τ h
    obtain rfl : j = 11 := by omega
    refine V_iload_n (pc := 242) d_X12_image_242 rfl ?_
    refine V_bipush (pc := 243) (nI 11) d_X12_image_243 (by decide) ?_
    refine B_icmp_ge (pc := 245) 266 d_X12_image_245 (by decide) (fun c245 => ?_) (fun c245 => ?_)
    · simp (disch := omega) only [show (nI 11).toInt = 11 from by decide, show (nI 11).toInt = 11 from by decide, nI_toInt, ti0, ti1, tim1, tim20, tim1000] at c245
      exact hX _ h
    · exact absurd (by decide) c245
  | succ n ih =>
    intro _ j hj τ h
    refine V_iload_n (pc := 242) d_X12_image_242 rfl ?_
    refine V_bipush (pc := 243) (nI 11) d_X12_image_243 (by decide) ?_
    refine B_icmp_ge (pc := 245) 266 d_X12_image_245 (by decide) (fun c245 => ?_) (fun c245 => ?_)
    · simp (disch := omega) only [show (nI 11).toInt = 11 from by decide, nI_toInt, ti0, ti1, tim1, tim20, tim1000] at c245
      all_goals omega
    · simp (disch := omega) only [show (nI 11).toInt = 11 from by decide, nI_toInt, ti0, ti1, tim1, tim20, tim1000] at c245
      refine V_aload_n (pc := 248) d_X12_image_248 rfl ?_
      refine P_getR (pc := 249) d_X12_image_249 f_X12_146 (tt_139 b) (rr_139_56 b) ?_
      refine V_iload_n (pc := 252) d_X12_image_252 rfl ?_
      refine V_aload_n (pc := 253) d_X12_image_253 rfl ?_
      refine P_getR (pc := 254) d_X12_image_254 f_X12_68 (tt_139 b) (rr_139_23 b) ?_
      refine V_iload_n (pc := 257) d_X12_image_257 rfl ?_
      refine P_iald (pc := 258) (j) d_X12_image_258 (tt_159 b) rfl (ln_of (ll_159 b) ⟨by omega, by decide⟩) ?_
      refine P_iast (pc := 259) (j) d_X12_image_259 (tt_185 b) rfl (ln_of (ll_185 b) ⟨by omega, by decide⟩) ?_
      refine V_iinc (pc := 260) d_X12_image_260 rfl (by decide) ?_
      refine V_goto (pc := 263) 242 d_X12_image_263 (by decide) ?_
      rw [p1_s]
      exact ih (by omega) (j + 1) (by omega) _ (KQ_m (fun a i hp => stlp_i5 hp) (KQ_s h (by omega) (h.1 159 j (by omega))))
theorem lp_i6 (hX : ∀ τ, KQ σ τ (PK 6 10) → V G mX12_image (rl 2) F 0 0 292 [some (.ref 139), some (.int (nI 10))] [] (τ, sh b)) : ∀ n, n ≤ 10 → ∀ j, j + n = 10 → ∀ τ, KQ σ τ (PK 6 j) → V G mX12_image (rl 2) F 0 0 268 [some (.ref 139), some (.int (nI j))] [] (τ, sh b) := by
  intro n
  induction n with
  | zero =>
    intro _ j hj τ h
    obtain rfl : j = 10 := by omega
    refine V_iload_n (pc := 268) d_X12_image_268 rfl ?_
    refine V_bipush (pc := 269) (nI 10) d_X12_image_269 (by decide) ?_
    refine B_icmp_ge (pc := 271) 292 d_X12_image_271 (by decide) (fun c271 => ?_) (fun c271 => ?_)
    · simp (disch := omega) only [show (nI 10).toInt = 10 from by decide, show (nI 10).toInt = 10 from by decide, nI_toInt, ti0, ti1, tim1, tim20, tim1000] at c271
      exact hX _ h
    · exact absurd (by decide) c271
  | succ n ih =>
    intro _ j hj τ h
    refine V_hr (P := zo (τ 143 j)) (fun H hH => hH.zall (tt_143 b) (Nat.lt_of_lt_of_eq (by omega) (ll_143 b).symm)) (fun z143 => ?_)
    refine V_iload_n (pc := 268) d_X12_image_268 rfl ?_
    refine V_bipush (pc := 269) (nI 10) d_X12_image_269 (by decide) ?_
    refine B_icmp_ge (pc := 271) 292 d_X12_image_271 (by decide) (fun c271 => ?_) (fun c271 => ?_)
    · simp (disch := omega) only [show (nI 10).toInt = 10 from by decide, nI_toInt, ti0, ti1, tim1, tim20, tim1000] at c271
      all_goals omega
    · simp (disch := omega) only [show (nI 10).toInt = 10 from by decide, nI_toInt, ti0, ti1, tim1, tim20, tim1000] at c271
      refine V_aload_n (pc := 274) d_X12_image_274 rfl ?_
      refine P_getR (pc := 275) d_X12_image_275 f_X12_119 (tt_139 b) (rr_139_47 b) ?_
      refine V_iload_n (pc := 278) d_X12_image_278 rfl ?_
      refine V_aload_n (pc := 279) d_X12_image_279 rfl ?_
      refine P_getR (pc := 280) d_X12_image_280 f_X12_19 (tt_139 b) (rr_139_6 b) ?_
      refine V_iload_n (pc := 283) d_X12_image_283 rfl ?_
      refine P_zald (pc := 284) (j) d_X12_image_284 (tt_143 b) rfl (ln_of (ll_143 b) ⟨by omega, by decide⟩) ?_
      refine P_zast (pc := 285) (j) d_X12_image_285 (tt_176 b) rfl (ln_of (ll_176 b) ⟨by omega, by decide⟩) z143 ?_
      refine V_iinc (pc := 286) d_X12_image_286 rfl (by decide) ?_
      refine V_goto (pc := 289) 268 d_X12_image_289 (by decide) ?_
      rw [p1_s]
      exact ih (by omega) (j + 1) (by omega) _ (KQ_m (fun a i hp => stlp_i6 hp) (KQ_s h (by omega) (h.1 143 j (by omega))))
theorem lp_i7 (hX : ∀ τ, KQ σ τ (PK 7 5) → V G mX12_image (rl 2) F 0 0 383 [some (.ref 139), some (.int (nI 5))] [] (τ, sh b)) : ∀ n, n ≤ 5 → ∀ j, j + n = 5 → ∀ τ, KQ σ τ (PK 7 j) → V G mX12_image (rl 2) F 0 0 294 [some (.ref 139), some (.int (nI j))] [] (τ, sh b) := by
  intro n
  induction n with
  | zero =>
    intro _ j hj τ h
    obtain rfl : j = 5 := by omega
    refine V_iload_n (pc := 294) d_X12_image_294 rfl ?_
    refine V_iconst (pc := 295) (nI 5) d_X12_image_295 (by decide) ?_
    refine B_icmp_ge (pc := 296) 383 d_X12_image_296 (by decide) (fun c296 => ?_) (fun c296 => ?_)
    · simp (disch := omega) only [show (nI 5).toInt = 5 from by decide, show (nI 5).toInt = 5 from by decide, nI_toInt, ti0, ti1, tim1, tim20, tim1000] at c296
      exact hX _ h
    · exact absurd (by decide) c296
  | succ n ih =>
    intro _ j hj τ h
    refine V_iload_n (pc := 294) d_X12_image_294 rfl ?_
    refine V_iconst (pc := 295) (nI 5) d_X12_image_295 (by decide) ?_
    refine B_icmp_ge (pc := 296) 383 d_X12_image_296 (by decide) (fun c296 => ?_) (fun c296 => ?_)
    · simp (disch := omega) only [show (nI 5).toInt = 5 from by decide, nI_toInt, ti0, ti1, tim1, tim20, tim1000] at c296
      all_goals omega
    · simp (disch := omega) only [show (nI 5).toInt = 5 from by decide, nI_toInt, ti0, ti1, tim1, tim20, tim1000] at c296
      refine V_aload_n (pc := 299) d_X12_image_299 rfl ?_
      refine P_getR (pc := 300) d_X12_image_300 f_X12_137 (tt_139 b) (rr_139_53 b) ?_
      refine V_iconst (pc := 303) (nI 5) d_X12_image_303 (by decide) ?_
      refine V_iload_n (pc := 304) d_X12_image_304 rfl ?_
      refine V_imul (pc := 305) d_X12_image_305 ?_
      refine V_aload_n (pc := 306) d_X12_image_306 rfl ?_
      refine P_getR (pc := 307) d_X12_image_307 f_X12_47 (tt_139 b) (rr_139_16 b) ?_
      refine V_iload_n (pc := 310) d_X12_image_310 rfl ?_
      refine P_iald (pc := 311) (j) d_X12_image_311 (tt_152 b) rfl (ln_of (ll_152 b) ⟨by omega, by decide⟩) ?_
      refine P_iast (pc := 312) (5 * j) d_X12_image_312 (tt_182 b) (by simp only [pk_mul, nI_add, nI_1]) (ln_of (ll_182 b) ⟨by omega, by decide⟩) ?_
      refine V_aload_n (pc := 313) d_X12_image_313 rfl ?_
      refine P_getR (pc := 314) d_X12_image_314 f_X12_137 (tt_139 b) (rr_139_53 b) ?_
      refine V_iconst (pc := 317) (nI 5) d_X12_image_317 (by decide) ?_
      refine V_iload_n (pc := 318) d_X12_image_318 rfl ?_
      refine V_imul (pc := 319) d_X12_image_319 ?_
      refine V_iconst (pc := 320) (1) d_X12_image_320 (by decide) ?_
      refine V_iadd (pc := 321) d_X12_image_321 ?_
      refine V_aload_n (pc := 322) d_X12_image_322 rfl ?_
      refine P_getR (pc := 323) d_X12_image_323 f_X12_50 (tt_139 b) (rr_139_17 b) ?_
      refine V_iload_n (pc := 326) d_X12_image_326 rfl ?_
      refine P_iald (pc := 327) (j) d_X12_image_327 (tt_153 b) rfl (ln_of (ll_153 b) ⟨by omega, by decide⟩) ?_
      simp (disch := omega) only [up2_n, up2_e]
      refine P_iast (pc := 328) (5 * j + 1) d_X12_image_328 (tt_182 b) (by simp only [pk_mul, nI_add, nI_1]) (ln_of (ll_182 b) ⟨by omega, by decide⟩) ?_
      refine V_aload_n (pc := 329) d_X12_image_329 rfl ?_
      refine P_getR (pc := 330) d_X12_image_330 f_X12_137 (tt_139 b) (rr_139_53 b) ?_
      refine V_iconst (pc := 333) (nI 5) d_X12_image_333 (by decide) ?_
      refine V_iload_n (pc := 334) d_X12_image_334 rfl ?_
      refine V_imul (pc := 335) d_X12_image_335 ?_
      refine V_iconst (pc := 336) (nI 2) d_X12_image_336 (by decide) ?_
      refine V_iadd (pc := 337) d_X12_image_337 ?_
      refine V_aload_n (pc := 338) d_X12_image_338 rfl ?_
      refine P_getR (pc := 339) d_X12_image_339 f_X12_53 (tt_139 b) (rr_139_18 b) ?_
      refine V_iload_n (pc := 342) d_X12_image_342 rfl ?_
      refine P_iald (pc := 343) (j) d_X12_image_343 (tt_154 b) rfl (ln_of (ll_154 b) ⟨by omega, by decide⟩) ?_
      simp (disch := omega) only [up2_n, up2_e]
      refine P_iast (pc := 344) (5 * j + 2) d_X12_image_344 (tt_182 b) (by simp only [pk_mul, nI_add, nI_1]) (ln_of (ll_182 b) ⟨by omega, by decide⟩) ?_
      refine V_aload_n (pc := 345) d_X12_image_345 rfl ?_
      refine P_getR (pc := 346) d_X12_image_346 f_X12_137 (tt_139 b) (rr_139_53 b) ?_
      refine V_iconst (pc := 349) (nI 5) d_X12_image_349 (by decide) ?_
      refine V_iload_n (pc := 350) d_X12_image_350 rfl ?_
      refine V_imul (pc := 351) d_X12_image_351 ?_
      refine V_iconst (pc := 352) (nI 3) d_X12_image_352 (by decide) ?_
      refine V_iadd (pc := 353) d_X12_image_353 ?_
      refine V_aload_n (pc := 354) d_X12_image_354 rfl ?_
      refine P_getR (pc := 355) d_X12_image_355 f_X12_56 (tt_139 b) (rr_139_19 b) ?_
      refine V_iload_n (pc := 358) d_X12_image_358 rfl ?_
      refine P_iald (pc := 359) (j) d_X12_image_359 (tt_155 b) rfl (ln_of (ll_155 b) ⟨by omega, by decide⟩) ?_
      simp (disch := omega) only [up2_n, up2_e]
      refine P_iast (pc := 360) (5 * j + 3) d_X12_image_360 (tt_182 b) (by simp only [pk_mul, nI_add, nI_1]) (ln_of (ll_182 b) ⟨by omega, by decide⟩) ?_
      refine V_aload_n (pc := 361) d_X12_image_361 rfl ?_
      refine P_getR (pc := 362) d_X12_image_362 f_X12_137 (tt_139 b) (rr_139_53 b) ?_
      refine V_iconst (pc := 365) (nI 5) d_X12_image_365 (by decide) ?_
      refine V_iload_n (pc := 366) d_X12_image_366 rfl ?_
      refine V_imul (pc := 367) d_X12_image_367 ?_
      refine V_iconst (pc := 368) (nI 4) d_X12_image_368 (by decide) ?_
      refine V_iadd (pc := 369) d_X12_image_369 ?_
      refine V_aload_n (pc := 370) d_X12_image_370 rfl ?_
      refine P_getR (pc := 371) d_X12_image_371 f_X12_59 (tt_139 b) (rr_139_20 b) ?_
      refine V_iload_n (pc := 374) d_X12_image_374 rfl ?_
      refine P_iald (pc := 375) (j) d_X12_image_375 (tt_156 b) rfl (ln_of (ll_156 b) ⟨by omega, by decide⟩) ?_
      simp (disch := omega) only [up2_n, up2_e]
      refine P_iast (pc := 376) (5 * j + 4) d_X12_image_376 (tt_182 b) (by simp only [pk_mul, nI_add, nI_1]) (ln_of (ll_182 b) ⟨by omega, by decide⟩) ?_
      refine V_iinc (pc := 377) d_X12_image_377 rfl (by decide) ?_
      refine V_goto (pc := 380) 294 d_X12_image_380 (by decide) ?_
      rw [p1_s]
      exact ih (by omega) (j + 1) (by omega) _ (KQ_m (fun a i hp => stlp_i7 hp) (KQ_s (KQ_s (KQ_s (KQ_s (KQ_s h (by omega) ((h.1 152 j (by omega)).trans (kv5 σ j 0 (by omega)).symm)) (by omega) ((h.1 153 j (by omega)).trans (kv5 σ j 1 (by omega)).symm)) (by omega) ((h.1 154 j (by omega)).trans (kv5 σ j 2 (by omega)).symm)) (by omega) ((h.1 155 j (by omega)).trans (kv5 σ j 3 (by omega)).symm)) (by omega) ((h.1 156 j (by omega)).trans (kv5 σ j 4 (by omega)).symm)))
theorem ct_X12_image (hk : ∀ τ, KQ σ τ (PK 8 0) → K 1 (up2 (up2 τ 139 44 1) 139 0 0, sh b)) : CM G mX12_image (rl 2) [.ref 139] (σ, sh b) (QI K) := by
  refine CM.of (by decide) (Nat.le_of_ble_eq_true rfl) (cats1 rfl) ?_
  refine V_aload_n (pc := 0) d_X12_image_0 rfl ?_
  refine P_getR (pc := 1) d_X12_image_1 f_X12_116 (tt_139 b) (rr_139_46 b) ?_
  refine V_iconst (pc := 4) (0) d_X12_image_4 (by decide) ?_
  refine V_aload_n (pc := 5) d_X12_image_5 rfl ?_
  refine P_getI (pc := 6) d_X12_image_6 f_X12_171 (tt_139 b) ?_
  refine P_iast (pc := 9) (0) d_X12_image_9 (tt_175 b) (by decide) (ln_of (ll_175 b) ⟨by omega, by decide⟩) ?_
  refine V_aload_n (pc := 10) d_X12_image_10 rfl ?_
  refine P_getR (pc := 11) d_X12_image_11 f_X12_116 (tt_139 b) (rr_139_46 b) ?_
  refine V_iconst (pc := 14) (1) d_X12_image_14 (by decide) ?_
  refine V_aload_n (pc := 15) d_X12_image_15 rfl ?_
  refine P_getI (pc := 16) d_X12_image_16 f_X12_178 (tt_139 b) ?_
  simp (disch := omega) only [up2_n, up2_e]
  refine P_iast (pc := 19) (1) d_X12_image_19 (tt_175 b) (by decide) (ln_of (ll_175 b) ⟨by omega, by decide⟩) ?_
  refine V_aload_n (pc := 20) d_X12_image_20 rfl ?_
  refine P_getR (pc := 21) d_X12_image_21 f_X12_116 (tt_139 b) (rr_139_46 b) ?_
  refine V_iconst (pc := 24) (nI 2) d_X12_image_24 (by decide) ?_
  refine V_aload_n (pc := 25) d_X12_image_25 rfl ?_
  refine P_getI (pc := 26) d_X12_image_26 f_X12_181 (tt_139 b) ?_
  simp (disch := omega) only [up2_n, up2_e]
  refine P_iast (pc := 29) (2) d_X12_image_29 (tt_175 b) rfl (ln_of (ll_175 b) ⟨by omega, by decide⟩) ?_
  refine V_aload_n (pc := 30) d_X12_image_30 rfl ?_
  refine P_getR (pc := 31) d_X12_image_31 f_X12_116 (tt_139 b) (rr_139_46 b) ?_
  refine V_iconst (pc := 34) (nI 3) d_X12_image_34 (by decide) ?_
  refine V_aload_n (pc := 35) d_X12_image_35 rfl ?_
  refine P_getI (pc := 36) d_X12_image_36 f_X12_287 (tt_139 b) ?_
  simp (disch := omega) only [up2_n, up2_e]
  refine P_iast (pc := 39) (3) d_X12_image_39 (tt_175 b) rfl (ln_of (ll_175 b) ⟨by omega, by decide⟩) ?_
  refine V_aload_n (pc := 40) d_X12_image_40 rfl ?_
  refine P_getR (pc := 41) d_X12_image_41 f_X12_116 (tt_139 b) (rr_139_46 b) ?_
  refine V_iconst (pc := 44) (nI 4) d_X12_image_44 (by decide) ?_
  refine V_aload_n (pc := 45) d_X12_image_45 rfl ?_
  refine P_getI (pc := 46) d_X12_image_46 f_X12_296 (tt_139 b) ?_
  simp (disch := omega) only [up2_n, up2_e]
  refine P_iast (pc := 49) (4) d_X12_image_49 (tt_175 b) rfl (ln_of (ll_175 b) ⟨by omega, by decide⟩) ?_
  refine V_aload_n (pc := 50) d_X12_image_50 rfl ?_
  refine P_getR (pc := 51) d_X12_image_51 f_X12_116 (tt_139 b) (rr_139_46 b) ?_
  refine V_iconst (pc := 54) (nI 5) d_X12_image_54 (by decide) ?_
  refine V_aload_n (pc := 55) d_X12_image_55 rfl ?_
  refine P_getI (pc := 56) d_X12_image_56 f_X12_184 (tt_139 b) ?_
  simp (disch := omega) only [up2_n, up2_e]
  refine P_iast (pc := 59) (5) d_X12_image_59 (tt_175 b) rfl (ln_of (ll_175 b) ⟨by omega, by decide⟩) ?_
  refine V_aload_n (pc := 60) d_X12_image_60 rfl ?_
  refine P_getR (pc := 61) d_X12_image_61 f_X12_116 (tt_139 b) (rr_139_46 b) ?_
  refine V_bipush (pc := 64) (nI 6) d_X12_image_64 (by decide) ?_
  refine V_aload_n (pc := 66) d_X12_image_66 rfl ?_
  refine P_getI (pc := 67) d_X12_image_67 f_X12_244 (tt_139 b) ?_
  simp (disch := omega) only [up2_n, up2_e]
  refine P_iast (pc := 70) (6) d_X12_image_70 (tt_175 b) rfl (ln_of (ll_175 b) ⟨by omega, by decide⟩) ?_
  have g0 : KQ σ _ (PK 1 0) := KQ_m (fun a i hp => PK_c (PK_1 hp)) (KQ_s (a := 175) (i := 6) (KQ_s (a := 175) (i := 5) (KQ_s (a := 175) (i := 4) (KQ_s (a := 175) (i := 3) (KQ_s (a := 175) (i := 2) (KQ_s (a := 175) (i := 1) (KQ_s (a := 175) (i := 0) (show KQ σ σ (fun _ _ => False) from ⟨fun _ _ _ => rfl, fun a j hp => absurd hp (fun w => w)⟩) (by omega) rfl) (by omega) rfl) (by omega) rfl) (by omega) rfl) (by omega) rfl) (by omega) rfl) (by omega) rfl)
  refine V_iconst (pc := 71) (0) d_X12_image_71 (by decide) ?_
  refine V_istore_n (pc := 72) d_X12_image_72 (by decide) ?_
  refine lp_i1 (F := FM G (rl 2) (QI K)) (fun τ1 g1 => ?_) 1000 (Nat.le_refl _) 0 (by omega) _ g0
  refine V_iconst (pc := 110) (0) d_X12_image_110 (by decide) ?_
  refine V_istore_n (pc := 111) d_X12_image_111 (by decide) ?_
  refine lp_i2 (F := FM G (rl 2) (QI K)) (fun τ2 g2 => ?_) 100 (Nat.le_refl _) 0 (by omega) _ (KQ_m (fun a i hp => sgPK1 hp) g1)
  refine V_iconst (pc := 160) (0) d_X12_image_160 (by decide) ?_
  refine V_istore_n (pc := 161) d_X12_image_161 (by decide) ?_
  refine lp_i3 (F := FM G (rl 2) (QI K)) (fun τ3 g3 => ?_) 160 (Nat.le_refl _) 0 (by omega) _ (KQ_m (fun a i hp => sgPK2 hp) g2)
  refine V_iconst (pc := 199) (0) d_X12_image_199 (by decide) ?_
  refine V_istore_n (pc := 200) d_X12_image_200 (by decide) ?_
  refine lp_i4 (F := FM G (rl 2) (QI K)) (fun τ4 g4 => ?_) 12 (Nat.le_refl _) 0 (by omega) _ (KQ_m (fun a i hp => sgPK3 hp) g3)
  refine V_iconst (pc := 240) (0) d_X12_image_240 (by decide) ?_
  refine V_istore_n (pc := 241) d_X12_image_241 (by decide) ?_
  refine lp_i5 (F := FM G (rl 2) (QI K)) (fun τ5 g5 => ?_) 11 (Nat.le_refl _) 0 (by omega) _ (KQ_m (fun a i hp => sgPK4 hp) g4)
  refine V_iconst (pc := 266) (0) d_X12_image_266 (by decide) ?_
  refine V_istore_n (pc := 267) d_X12_image_267 (by decide) ?_
  refine lp_i6 (F := FM G (rl 2) (QI K)) (fun τ6 g6 => ?_) 10 (Nat.le_refl _) 0 (by omega) _ (KQ_m (fun a i hp => sgPK5 hp) g5)
  refine V_iconst (pc := 292) (0) d_X12_image_292 (by decide) ?_
  refine V_istore_n (pc := 293) d_X12_image_293 (by decide) ?_
  refine lp_i7 (F := FM G (rl 2) (QI K)) (fun τ7 g7 => ?_) 5 (Nat.le_refl _) 0 (by omega) _ (KQ_m (fun a i hp => sgPK6 hp) g6)
  refine V_aload_n (pc := 383) d_X12_image_383 rfl ?_
  refine V_iconst (pc := 384) (1) d_X12_image_384 (by decide) ?_
  refine P_putZ (pc := 385) d_X12_image_385 f_X12_307 (tt_139 b) (Or.inr rfl) ?_
  refine V_aload_n (pc := 388) d_X12_image_388 rfl ?_
  refine V_iconst (pc := 389) (1) d_X12_image_389 (by decide) ?_
  refine V_cvI (pc := 390) (n := 1) (c := 12) [_] d_X12_image_390 c_X12_191 k_X12_done ⟨rfl, rfl⟩ (tt_139 b) rfl (Nat.le_of_ble_eq_true rfl) ⟨Nat.le_of_ble_eq_true rfl, Nat.le_of_ble_eq_true rfl⟩ ⟨Nat.le_refl _, Nat.le_refl _⟩ (ct_X12_done ?_)
  exact V_retI (pc := 393) d_X12_image_393 rfl ⟨Nat.le_refl _, Nat.le_refl _⟩ (hk _ (KQ_m (fun a i hp => sgPK7 hp) g7))
theorem lp_y1 (hX : ∀ τ, LQ σ τ (PL 1 1000) → V G mX12_lay (rl 1) F 0 0 39 [some (.ref 139), some (.int (nI 1000))] [] (τ, sh b)) : ∀ n, n ≤ 1000 → ∀ j, j + n = 1000 → ∀ τ, LQ σ τ (PL 1 j) → V G mX12_lay (rl 1) F 0 0 2 [some (.ref 139), some (.int (nI j))] [] (τ, sh b) := by
  intro n
  induction n with
  | zero =>
    intro _ j hj τ h
    obtain rfl : j = 1000 := by omega
    refine V_iload_n (pc := 2) d_X12_lay_2 rfl ?_
    refine V_sipush (pc := 3) (nI 1000) d_X12_lay_3 (by decide) ?_
    refine B_icmp_ge (pc := 6) 39 d_X12_lay_6 (by decide) (fun c6 => ?_) (fun c6 => ?_)
    · simp (disch := omega) only [show (nI 1000).toInt = 1000 from by decide, show (nI 1000).toInt = 1000 from by decide, nI_toInt, ti0, ti1, tim1, tim20, tim1000] at c6
      exact hX _ h
    · exact absurd (by decide) c6
  | succ n ih =>
    intro _ j hj τ h
    refine V_hr (P := zo (τ 178 j)) (fun H hH => hH.zall (tt_178 b) (Nat.lt_of_lt_of_eq (by omega) (ll_178 b).symm)) (fun z178 => ?_)
    refine V_iload_n (pc := 2) d_X12_lay_2 rfl ?_
    refine V_sipush (pc := 3) (nI 1000) d_X12_lay_3 (by decide) ?_
    refine B_icmp_ge (pc := 6) 39 d_X12_lay_6 (by decide) (fun c6 => ?_) (fun c6 => ?_)
    · simp (disch := omega) only [show (nI 1000).toInt = 1000 from by decide, nI_toInt, ti0, ti1, tim1, tim20, tim1000] at c6
      all_goals omega
    · simp (disch := omega) only [show (nI 1000).toInt = 1000 from by decide, nI_toInt, ti0, ti1, tim1, tim20, tim1000] at c6
      refine V_aload_n (pc := 9) d_X12_lay_9 rfl ?_
      refine P_getR (pc := 10) d_X12_lay_10 f_X12_23 (tt_139 b) (rr_139_7 b) ?_
      refine V_iload_n (pc := 13) d_X12_lay_13 rfl ?_
      refine V_aload_n (pc := 14) d_X12_lay_14 rfl ?_
      refine P_getR (pc := 15) d_X12_lay_15 f_X12_122 (tt_139 b) (rr_139_48 b) ?_
      refine V_iload_n (pc := 18) d_X12_lay_18 rfl ?_
      refine P_iald (pc := 19) (j) d_X12_lay_19 (tt_177 b) rfl (ln_of (ll_177 b) ⟨by omega, by decide⟩) ?_
      refine P_iast (pc := 20) (j) d_X12_lay_20 (tt_144 b) rfl (ln_of (ll_144 b) ⟨by omega, by decide⟩) ?_
      refine V_aload_n (pc := 21) d_X12_lay_21 rfl ?_
      refine P_getR (pc := 22) d_X12_lay_22 f_X12_26 (tt_139 b) (rr_139_8 b) ?_
      refine V_iload_n (pc := 25) d_X12_lay_25 rfl ?_
      refine V_aload_n (pc := 26) d_X12_lay_26 rfl ?_
      refine P_getR (pc := 27) d_X12_lay_27 f_X12_125 (tt_139 b) (rr_139_49 b) ?_
      refine V_iload_n (pc := 30) d_X12_lay_30 rfl ?_
      refine P_zald (pc := 31) (j) d_X12_lay_31 (tt_178 b) rfl (ln_of (ll_178 b) ⟨by omega, by decide⟩) ?_
      simp (disch := omega) only [up2_n, up2_e]
      refine P_zast (pc := 32) (j) d_X12_lay_32 (tt_145 b) rfl (ln_of (ll_145 b) ⟨by omega, by decide⟩) z178 ?_
      refine V_iinc (pc := 33) d_X12_lay_33 rfl (by decide) ?_
      refine V_goto (pc := 36) 2 d_X12_lay_36 (by decide) ?_
      rw [p1_s]
      exact ih (by omega) (j + 1) (by omega) _ (LQ_m (fun a i hp => stlp_y1 hp) (LQ_s (LQ_s h (by omega) (h.1 177 j (by omega))) (by omega) (h.1 178 j (by omega))))
theorem lp_y2 (hX : ∀ τ, LQ σ τ (PL 2 100) → V G mX12_lay (rl 1) F 0 0 89 [some (.ref 139), some (.int (nI 100))] [] (τ, sh b)) : ∀ n, n ≤ 100 → ∀ j, j + n = 100 → ∀ τ, LQ σ τ (PL 2 j) → V G mX12_lay (rl 1) F 0 0 41 [some (.ref 139), some (.int (nI j))] [] (τ, sh b) := by
  intro n
  induction n with
  | zero =>
    intro _ j hj τ h
    obtain rfl : j = 100 := by omega
    refine V_iload_n (pc := 41) d_X12_lay_41 rfl ?_
    refine V_bipush (pc := 42) (nI 100) d_X12_lay_42 (by decide) ?_
    refine B_icmp_ge (pc := 44) 89 d_X12_lay_44 (by decide) (fun c44 => ?_) (fun c44 => ?_)
    · simp (disch := omega) only [show (nI 100).toInt = 100 from by decide, show (nI 100).toInt = 100 from by decide, nI_toInt, ti0, ti1, tim1, tim20, tim1000] at c44
      exact hX _ h
    · exact absurd (by decide) c44
  | succ n ih =>
    intro _ j hj τ h
    refine V_hr (P := zo (τ 180 j)) (fun H hH => hH.zall (tt_180 b) (Nat.lt_of_lt_of_eq (by omega) (ll_180 b).symm)) (fun z180 => ?_)
    refine V_hr (P := zo (τ 181 j)) (fun H hH => hH.zall (tt_181 b) (Nat.lt_of_lt_of_eq (by omega) (ll_181 b).symm)) (fun z181 => ?_)
    refine V_iload_n (pc := 41) d_X12_lay_41 rfl ?_
    refine V_bipush (pc := 42) (nI 100) d_X12_lay_42 (by decide) ?_
    refine B_icmp_ge (pc := 44) 89 d_X12_lay_44 (by decide) (fun c44 => ?_) (fun c44 => ?_)
    · simp (disch := omega) only [show (nI 100).toInt = 100 from by decide, nI_toInt, ti0, ti1, tim1, tim20, tim1000] at c44
      all_goals omega
    · simp (disch := omega) only [show (nI 100).toInt = 100 from by decide, nI_toInt, ti0, ti1, tim1, tim20, tim1000] at c44
      refine V_aload_n (pc := 47) d_X12_lay_47 rfl ?_
      refine P_getR (pc := 48) d_X12_lay_48 f_X12_29 (tt_139 b) (rr_139_9 b) ?_
      refine V_iload_n (pc := 51) d_X12_lay_51 rfl ?_
      refine V_aload_n (pc := 52) d_X12_lay_52 rfl ?_
      refine P_getR (pc := 53) d_X12_lay_53 f_X12_128 (tt_139 b) (rr_139_50 b) ?_
      refine V_iload_n (pc := 56) d_X12_lay_56 rfl ?_
      refine P_iald (pc := 57) (j) d_X12_lay_57 (tt_179 b) rfl (ln_of (ll_179 b) ⟨by omega, by decide⟩) ?_
      refine P_iast (pc := 58) (j) d_X12_lay_58 (tt_146 b) rfl (ln_of (ll_146 b) ⟨by omega, by decide⟩) ?_
      refine V_aload_n (pc := 59) d_X12_lay_59 rfl ?_
      refine P_getR (pc := 60) d_X12_lay_60 f_X12_32 (tt_139 b) (rr_139_10 b) ?_
      refine V_iload_n (pc := 63) d_X12_lay_63 rfl ?_
      refine V_aload_n (pc := 64) d_X12_lay_64 rfl ?_
      refine P_getR (pc := 65) d_X12_lay_65 f_X12_131 (tt_139 b) (rr_139_51 b) ?_
      refine V_iload_n (pc := 68) d_X12_lay_68 rfl ?_
      refine P_zald (pc := 69) (j) d_X12_lay_69 (tt_180 b) rfl (ln_of (ll_180 b) ⟨by omega, by decide⟩) ?_
      simp (disch := omega) only [up2_n, up2_e]
      refine P_zast (pc := 70) (j) d_X12_lay_70 (tt_147 b) rfl (ln_of (ll_147 b) ⟨by omega, by decide⟩) z180 ?_
      refine V_aload_n (pc := 71) d_X12_lay_71 rfl ?_
      refine P_getR (pc := 72) d_X12_lay_72 f_X12_35 (tt_139 b) (rr_139_11 b) ?_
      refine V_iload_n (pc := 75) d_X12_lay_75 rfl ?_
      refine V_aload_n (pc := 76) d_X12_lay_76 rfl ?_
      refine P_getR (pc := 77) d_X12_lay_77 f_X12_134 (tt_139 b) (rr_139_52 b) ?_
      refine V_iload_n (pc := 80) d_X12_lay_80 rfl ?_
      refine P_zald (pc := 81) (j) d_X12_lay_81 (tt_181 b) rfl (ln_of (ll_181 b) ⟨by omega, by decide⟩) ?_
      simp (disch := omega) only [up2_n, up2_e]
      refine P_zast (pc := 82) (j) d_X12_lay_82 (tt_148 b) rfl (ln_of (ll_148 b) ⟨by omega, by decide⟩) z181 ?_
      refine V_iinc (pc := 83) d_X12_lay_83 rfl (by decide) ?_
      refine V_goto (pc := 86) 41 d_X12_lay_86 (by decide) ?_
      rw [p1_s]
      exact ih (by omega) (j + 1) (by omega) _ (LQ_m (fun a i hp => stlp_y2 hp) (LQ_s (LQ_s (LQ_s h (by omega) (h.1 179 j (by omega))) (by omega) (h.1 180 j (by omega))) (by omega) (h.1 181 j (by omega))))
theorem lp_y3 (hX : ∀ τ, LQ σ τ (PL 3 160) → V G mX12_lay (rl 1) F 0 0 128 [some (.ref 139), some (.int (nI 160))] [] (τ, sh b)) : ∀ n, n ≤ 160 → ∀ j, j + n = 160 → ∀ τ, LQ σ τ (PL 3 j) → V G mX12_lay (rl 1) F 0 0 91 [some (.ref 139), some (.int (nI j))] [] (τ, sh b) := by
  intro n
  induction n with
  | zero =>
    intro _ j hj τ h
    obtain rfl : j = 160 := by omega
    refine V_iload_n (pc := 91) d_X12_lay_91 rfl ?_
    refine V_sipush (pc := 92) (nI 160) d_X12_lay_92 (by decide) ?_
    refine B_icmp_ge (pc := 95) 128 d_X12_lay_95 (by decide) (fun c95 => ?_) (fun c95 => ?_)
    · simp (disch := omega) only [show (nI 160).toInt = 160 from by decide, show (nI 160).toInt = 160 from by decide, nI_toInt, ti0, ti1, tim1, tim20, tim1000] at c95
      exact hX _ h
    · exact absurd (by decide) c95
  | succ n ih =>
    intro _ j hj τ h
    refine V_iload_n (pc := 91) d_X12_lay_91 rfl ?_
    refine V_sipush (pc := 92) (nI 160) d_X12_lay_92 (by decide) ?_
    refine B_icmp_ge (pc := 95) 128 d_X12_lay_95 (by decide) (fun c95 => ?_) (fun c95 => ?_)
    · simp (disch := omega) only [show (nI 160).toInt = 160 from by decide, nI_toInt, ti0, ti1, tim1, tim20, tim1000] at c95
      all_goals omega
    · simp (disch := omega) only [show (nI 160).toInt = 160 from by decide, nI_toInt, ti0, ti1, tim1, tim20, tim1000] at c95
      refine V_aload_n (pc := 98) d_X12_lay_98 rfl ?_
      refine P_getR (pc := 99) d_X12_lay_99 f_X12_62 (tt_139 b) (rr_139_21 b) ?_
      refine V_iload_n (pc := 102) d_X12_lay_102 rfl ?_
      refine V_aload_n (pc := 103) d_X12_lay_103 rfl ?_
      refine P_getR (pc := 104) d_X12_lay_104 f_X12_140 (tt_139 b) (rr_139_54 b) ?_
      refine V_iload_n (pc := 107) d_X12_lay_107 rfl ?_
      refine P_iald (pc := 108) (j) d_X12_lay_108 (tt_183 b) rfl (ln_of (ll_183 b) ⟨by omega, by decide⟩) ?_
      refine P_iast (pc := 109) (j) d_X12_lay_109 (tt_157 b) rfl (ln_of (ll_157 b) ⟨by omega, by decide⟩) ?_
      refine V_aload_n (pc := 110) d_X12_lay_110 rfl ?_
      refine P_getR (pc := 111) d_X12_lay_111 f_X12_65 (tt_139 b) (rr_139_22 b) ?_
      refine V_iload_n (pc := 114) d_X12_lay_114 rfl ?_
      refine V_aload_n (pc := 115) d_X12_lay_115 rfl ?_
      refine P_getR (pc := 116) d_X12_lay_116 f_X12_143 (tt_139 b) (rr_139_55 b) ?_
      refine V_iload_n (pc := 119) d_X12_lay_119 rfl ?_
      refine P_iald (pc := 120) (j) d_X12_lay_120 (tt_184 b) rfl (ln_of (ll_184 b) ⟨by omega, by decide⟩) ?_
      simp (disch := omega) only [up2_n, up2_e]
      refine P_iast (pc := 121) (j) d_X12_lay_121 (tt_158 b) rfl (ln_of (ll_158 b) ⟨by omega, by decide⟩) ?_
      refine V_iinc (pc := 122) d_X12_lay_122 rfl (by decide) ?_
      refine V_goto (pc := 125) 91 d_X12_lay_125 (by decide) ?_
      rw [p1_s]
      exact ih (by omega) (j + 1) (by omega) _ (LQ_m (fun a i hp => stlp_y3 hp) (LQ_s (LQ_s h (by omega) (h.1 183 j (by omega))) (by omega) (h.1 184 j (by omega))))
theorem lp_y4 (hX : ∀ τ, LQ σ τ (PL 4 12) → V G mX12_lay (rl 1) F 0 0 169 [some (.ref 139), some (.int (nI 12))] [] (τ, sh b)) : ∀ n, n ≤ 12 → ∀ j, j + n = 12 → ∀ τ, LQ σ τ (PL 4 j) → V G mX12_lay (rl 1) F 0 0 130 [some (.ref 139), some (.int (nI j))] [] (τ, sh b) := by
  intro n
  induction n with
  | zero =>
    intro _ j hj τ h
    obtain rfl : j = 12 := by omega
    refine V_iload_n (pc := 130) d_X12_lay_130 rfl ?_
    refine V_bipush (pc := 131) (nI 12) d_X12_lay_131 (by decide) ?_
    refine B_icmp_ge (pc := 133) 169 d_X12_lay_133 (by decide) (fun c133 => ?_) (fun c133 => ?_)
    · simp (disch := omega) only [show (nI 12).toInt = 12 from by decide, show (nI 12).toInt = 12 from by decide, nI_toInt, ti0, ti1, tim1, tim20, tim1000] at c133
      exact hX _ h
    · exact absurd (by decide) c133
  | succ n ih =>
    intro _ j hj τ h
    refine V_iload_n (pc := 130) d_X12_lay_130 rfl ?_
    refine V_bipush (pc := 131) (nI 12) d_X12_lay_131 (by decide) ?_
    refine B_icmp_ge (pc := 133) 169 d_X12_lay_133 (by decide) (fun c133 => ?_) (fun c133 => ?_)
    · simp (disch := omega) only [show (nI 12).toInt = 12 from by decide, nI_toInt, ti0, ti1, tim1, tim20, tim1000] at c133
      all_goals omega
    · simp (disch := omega) only [show (nI 12).toInt = 12 from by decide, nI_toInt, ti0, ti1, tim1, tim20, tim1000] at c133
      refine V_aload_n (pc := 136) d_X12_lay_136 rfl ?_
      refine P_getR (pc := 137) d_X12_lay_137 f_X12_80 (tt_139 b) (rr_139_28 b) ?_
      refine V_iload_n (pc := 140) d_X12_lay_140 rfl ?_
      refine V_aload_n (pc := 141) d_X12_lay_141 rfl ?_
      refine P_getR (pc := 142) d_X12_lay_142 f_X12_149 (tt_139 b) (rr_139_57 b) ?_
      refine V_iload_n (pc := 145) d_X12_lay_145 rfl ?_
      refine P_iald (pc := 146) (j) d_X12_lay_146 (tt_186 b) rfl (ln_of (ll_186 b) ⟨by omega, by decide⟩) ?_
      refine P_iast (pc := 147) (j) d_X12_lay_147 (tt_163 b) rfl (ln_of (ll_163 b) ⟨by omega, by decide⟩) ?_
      refine V_aload_n (pc := 148) d_X12_lay_148 rfl ?_
      refine P_getR (pc := 149) d_X12_lay_149 f_X12_83 (tt_139 b) (rr_139_29 b) ?_
      refine V_iload_n (pc := 152) d_X12_lay_152 rfl ?_
      refine V_aload_n (pc := 153) d_X12_lay_153 rfl ?_
      refine P_getR (pc := 154) d_X12_lay_154 f_X12_149 (tt_139 b) (rr_139_57 b) ?_
      refine V_bipush (pc := 157) (nI 12) d_X12_lay_157 (by decide) ?_
      refine V_iload_n (pc := 159) d_X12_lay_159 rfl ?_
      refine V_iadd (pc := 160) d_X12_lay_160 ?_
      refine P_iald (pc := 161) (12 + j) d_X12_lay_161 (tt_186 b) (by simp only [nI_add]) (ln_of (ll_186 b) ⟨by omega, by decide⟩) ?_
      simp (disch := omega) only [up2_n, up2_e]
      refine P_iast (pc := 162) (j) d_X12_lay_162 (tt_164 b) rfl (ln_of (ll_164 b) ⟨by omega, by decide⟩) ?_
      refine V_iinc (pc := 163) d_X12_lay_163 rfl (by decide) ?_
      refine V_goto (pc := 166) 130 d_X12_lay_166 (by decide) ?_
      rw [p1_s]
      exact ih (by omega) (j + 1) (by omega) _ (LQ_m (fun a i hp => stlp_y4 hp) (LQ_s (LQ_s h (by omega) (h.1 186 j (by omega))) (by omega) (h.1 186 (12 + j) (by omega))))
theorem lp_y5 (hX : ∀ τ, LQ σ τ (PL 5 11) → V G mX12_lay (rl 1) F 0 0 195 [some (.ref 139), some (.int (nI 11))] [] (τ, sh b)) : ∀ n, n ≤ 11 → ∀ j, j + n = 11 → ∀ τ, LQ σ τ (PL 5 j) → V G mX12_lay (rl 1) F 0 0 171 [some (.ref 139), some (.int (nI j))] [] (τ, sh b) := by
  intro n
  induction n with
  | zero =>
    intro _ j hj τ h
    obtain rfl : j = 11 := by omega
    refine V_iload_n (pc := 171) d_X12_lay_171 rfl ?_
    refine V_bipush (pc := 172) (nI 11) d_X12_lay_172 (by decide) ?_
    refine B_icmp_ge (pc := 174) 195 d_X12_lay_174 (by decide) (fun c174 => ?_) (fun c174 => ?_)
    · simp (disch := omega) only [show (nI 11).toInt = 11 from by decide, show (nI 11).toInt = 11 from by decide, nI_toInt, ti0, ti1, tim1, tim20, tim1000] at c174
      exact hX _ h
    · exact absurd (by decide) c174
  | succ n ih =>
    intro _ j hj τ h
    refine V_iload_n (pc := 171) d_X12_lay_171 rfl ?_
    refine V_bipush (pc := 172) (nI 11) d_X12_lay_172 (by decide) ?_
    refine B_icmp_ge (pc := 174) 195 d_X12_lay_174 (by decide) (fun c174 => ?_) (fun c174 => ?_)
    · simp (disch := omega) only [show (nI 11).toInt = 11 from by decide, nI_toInt, ti0, ti1, tim1, tim20, tim1000] at c174
      all_goals omega
    · simp (disch := omega) only [show (nI 11).toInt = 11 from by decide, nI_toInt, ti0, ti1, tim1, tim20, tim1000] at c174
      refine V_aload_n (pc := 177) d_X12_lay_177 rfl ?_
      refine P_getR (pc := 178) d_X12_lay_178 f_X12_68 (tt_139 b) (rr_139_23 b) ?_
      refine V_iload_n (pc := 181) d_X12_lay_181 rfl ?_
      refine V_aload_n (pc := 182) d_X12_lay_182 rfl ?_
      refine P_getR (pc := 183) d_X12_lay_183 f_X12_146 (tt_139 b) (rr_139_56 b) ?_
      refine V_iload_n (pc := 186) d_X12_lay_186 rfl ?_
      refine P_iald (pc := 187) (j) d_X12_lay_187 (tt_185 b) rfl (ln_of (ll_185 b) ⟨by omega, by decide⟩) ?_
      refine P_iast (pc := 188) (j) d_X12_lay_188 (tt_159 b) rfl (ln_of (ll_159 b) ⟨by omega, by decide⟩) ?_
      refine V_iinc (pc := 189) d_X12_lay_189 rfl (by decide) ?_
      refine V_goto (pc := 192) 171 d_X12_lay_192 (by decide) ?_
      rw [p1_s]
      exact ih (by omega) (j + 1) (by omega) _ (LQ_m (fun a i hp => stlp_y5 hp) (LQ_s h (by omega) (h.1 185 j (by omega))))
theorem lp_y6 (hX : ∀ τ, LQ σ τ (PL 6 10) → V G mX12_lay (rl 1) F 0 0 221 [some (.ref 139), some (.int (nI 10))] [] (τ, sh b)) : ∀ n, n ≤ 10 → ∀ j, j + n = 10 → ∀ τ, LQ σ τ (PL 6 j) → V G mX12_lay (rl 1) F 0 0 197 [some (.ref 139), some (.int (nI j))] [] (τ, sh b) := by
  intro n
  induction n with
  | zero =>
    intro _ j hj τ h
    obtain rfl : j = 10 := by omega
    refine V_iload_n (pc := 197) d_X12_lay_197 rfl ?_
    refine V_bipush (pc := 198) (nI 10) d_X12_lay_198 (by decide) ?_
    refine B_icmp_ge (pc := 200) 221 d_X12_lay_200 (by decide) (fun c200 => ?_) (fun c200 => ?_)
    · simp (disch := omega) only [show (nI 10).toInt = 10 from by decide, show (nI 10).toInt = 10 from by decide, nI_toInt, ti0, ti1, tim1, tim20, tim1000] at c200
      exact hX _ h
    · exact absurd (by decide) c200
  | succ n ih =>
    intro _ j hj τ h
    refine V_hr (P := zo (τ 176 j)) (fun H hH => hH.zall (tt_176 b) (Nat.lt_of_lt_of_eq (by omega) (ll_176 b).symm)) (fun z176 => ?_)
    refine V_iload_n (pc := 197) d_X12_lay_197 rfl ?_
    refine V_bipush (pc := 198) (nI 10) d_X12_lay_198 (by decide) ?_
    refine B_icmp_ge (pc := 200) 221 d_X12_lay_200 (by decide) (fun c200 => ?_) (fun c200 => ?_)
    · simp (disch := omega) only [show (nI 10).toInt = 10 from by decide, nI_toInt, ti0, ti1, tim1, tim20, tim1000] at c200
      all_goals omega
    · simp (disch := omega) only [show (nI 10).toInt = 10 from by decide, nI_toInt, ti0, ti1, tim1, tim20, tim1000] at c200
      refine V_aload_n (pc := 203) d_X12_lay_203 rfl ?_
      refine P_getR (pc := 204) d_X12_lay_204 f_X12_19 (tt_139 b) (rr_139_6 b) ?_
      refine V_iload_n (pc := 207) d_X12_lay_207 rfl ?_
      refine V_aload_n (pc := 208) d_X12_lay_208 rfl ?_
      refine P_getR (pc := 209) d_X12_lay_209 f_X12_119 (tt_139 b) (rr_139_47 b) ?_
      refine V_iload_n (pc := 212) d_X12_lay_212 rfl ?_
      refine P_zald (pc := 213) (j) d_X12_lay_213 (tt_176 b) rfl (ln_of (ll_176 b) ⟨by omega, by decide⟩) ?_
      refine P_zast (pc := 214) (j) d_X12_lay_214 (tt_143 b) rfl (ln_of (ll_143 b) ⟨by omega, by decide⟩) z176 ?_
      refine V_iinc (pc := 215) d_X12_lay_215 rfl (by decide) ?_
      refine V_goto (pc := 218) 197 d_X12_lay_218 (by decide) ?_
      rw [p1_s]
      exact ih (by omega) (j + 1) (by omega) _ (LQ_m (fun a i hp => stlp_y6 hp) (LQ_s h (by omega) (h.1 176 j (by omega))))
theorem lp_y7 (hX : ∀ τ, LQ σ τ (PL 7 5) → V G mX12_lay (rl 1) F 0 0 312 [some (.ref 139), some (.int (nI 5))] [] (τ, sh b)) : ∀ n, n ≤ 5 → ∀ j, j + n = 5 → ∀ τ, LQ σ τ (PL 7 j) → V G mX12_lay (rl 1) F 0 0 223 [some (.ref 139), some (.int (nI j))] [] (τ, sh b) := by
  intro n
  induction n with
  | zero =>
    intro _ j hj τ h
    obtain rfl : j = 5 := by omega
    refine V_iload_n (pc := 223) d_X12_lay_223 rfl ?_
    refine V_iconst (pc := 224) (nI 5) d_X12_lay_224 (by decide) ?_
    refine B_icmp_ge (pc := 225) 312 d_X12_lay_225 (by decide) (fun c225 => ?_) (fun c225 => ?_)
    · simp (disch := omega) only [show (nI 5).toInt = 5 from by decide, show (nI 5).toInt = 5 from by decide, nI_toInt, ti0, ti1, tim1, tim20, tim1000] at c225
      exact hX _ h
    · exact absurd (by decide) c225
  | succ n ih =>
    intro _ j hj τ h
    refine V_iload_n (pc := 223) d_X12_lay_223 rfl ?_
    refine V_iconst (pc := 224) (nI 5) d_X12_lay_224 (by decide) ?_
    refine B_icmp_ge (pc := 225) 312 d_X12_lay_225 (by decide) (fun c225 => ?_) (fun c225 => ?_)
    · simp (disch := omega) only [show (nI 5).toInt = 5 from by decide, nI_toInt, ti0, ti1, tim1, tim20, tim1000] at c225
      all_goals omega
    · simp (disch := omega) only [show (nI 5).toInt = 5 from by decide, nI_toInt, ti0, ti1, tim1, tim20, tim1000] at c225
      refine V_aload_n (pc := 228) d_X12_lay_228 rfl ?_
      refine P_getR (pc := 229) d_X12_lay_229 f_X12_47 (tt_139 b) (rr_139_16 b) ?_
      refine V_iload_n (pc := 232) d_X12_lay_232 rfl ?_
      refine V_aload_n (pc := 233) d_X12_lay_233 rfl ?_
      refine P_getR (pc := 234) d_X12_lay_234 f_X12_137 (tt_139 b) (rr_139_53 b) ?_
      refine V_iconst (pc := 237) (nI 5) d_X12_lay_237 (by decide) ?_
      refine V_iload_n (pc := 238) d_X12_lay_238 rfl ?_
      refine V_imul (pc := 239) d_X12_lay_239 ?_
      refine P_iald (pc := 240) (5 * j) d_X12_lay_240 (tt_182 b) (by simp only [pk_mul, nI_add, nI_1]) (ln_of (ll_182 b) ⟨by omega, by decide⟩) ?_
      refine P_iast (pc := 241) (j) d_X12_lay_241 (tt_152 b) rfl (ln_of (ll_152 b) ⟨by omega, by decide⟩) ?_
      refine V_aload_n (pc := 242) d_X12_lay_242 rfl ?_
      refine P_getR (pc := 243) d_X12_lay_243 f_X12_50 (tt_139 b) (rr_139_17 b) ?_
      refine V_iload_n (pc := 246) d_X12_lay_246 rfl ?_
      refine V_aload_n (pc := 247) d_X12_lay_247 rfl ?_
      refine P_getR (pc := 248) d_X12_lay_248 f_X12_137 (tt_139 b) (rr_139_53 b) ?_
      refine V_iconst (pc := 251) (nI 5) d_X12_lay_251 (by decide) ?_
      refine V_iload_n (pc := 252) d_X12_lay_252 rfl ?_
      refine V_imul (pc := 253) d_X12_lay_253 ?_
      refine V_iconst (pc := 254) (1) d_X12_lay_254 (by decide) ?_
      refine V_iadd (pc := 255) d_X12_lay_255 ?_
      refine P_iald (pc := 256) (5 * j + 1) d_X12_lay_256 (tt_182 b) (by simp only [pk_mul, nI_add, nI_1]) (ln_of (ll_182 b) ⟨by omega, by decide⟩) ?_
      simp (disch := omega) only [up2_n, up2_e]
      refine P_iast (pc := 257) (j) d_X12_lay_257 (tt_153 b) rfl (ln_of (ll_153 b) ⟨by omega, by decide⟩) ?_
      refine V_aload_n (pc := 258) d_X12_lay_258 rfl ?_
      refine P_getR (pc := 259) d_X12_lay_259 f_X12_53 (tt_139 b) (rr_139_18 b) ?_
      refine V_iload_n (pc := 262) d_X12_lay_262 rfl ?_
      refine V_aload_n (pc := 263) d_X12_lay_263 rfl ?_
      refine P_getR (pc := 264) d_X12_lay_264 f_X12_137 (tt_139 b) (rr_139_53 b) ?_
      refine V_iconst (pc := 267) (nI 5) d_X12_lay_267 (by decide) ?_
      refine V_iload_n (pc := 268) d_X12_lay_268 rfl ?_
      refine V_imul (pc := 269) d_X12_lay_269 ?_
      refine V_iconst (pc := 270) (nI 2) d_X12_lay_270 (by decide) ?_
      refine V_iadd (pc := 271) d_X12_lay_271 ?_
      refine P_iald (pc := 272) (5 * j + 2) d_X12_lay_272 (tt_182 b) (by simp only [pk_mul, nI_add, nI_1]) (ln_of (ll_182 b) ⟨by omega, by decide⟩) ?_
      simp (disch := omega) only [up2_n, up2_e]
      refine P_iast (pc := 273) (j) d_X12_lay_273 (tt_154 b) rfl (ln_of (ll_154 b) ⟨by omega, by decide⟩) ?_
      refine V_aload_n (pc := 274) d_X12_lay_274 rfl ?_
      refine P_getR (pc := 275) d_X12_lay_275 f_X12_56 (tt_139 b) (rr_139_19 b) ?_
      refine V_iload_n (pc := 278) d_X12_lay_278 rfl ?_
      refine V_aload_n (pc := 279) d_X12_lay_279 rfl ?_
      refine P_getR (pc := 280) d_X12_lay_280 f_X12_137 (tt_139 b) (rr_139_53 b) ?_
      refine V_iconst (pc := 283) (nI 5) d_X12_lay_283 (by decide) ?_
      refine V_iload_n (pc := 284) d_X12_lay_284 rfl ?_
      refine V_imul (pc := 285) d_X12_lay_285 ?_
      refine V_iconst (pc := 286) (nI 3) d_X12_lay_286 (by decide) ?_
      refine V_iadd (pc := 287) d_X12_lay_287 ?_
      refine P_iald (pc := 288) (5 * j + 3) d_X12_lay_288 (tt_182 b) (by simp only [pk_mul, nI_add, nI_1]) (ln_of (ll_182 b) ⟨by omega, by decide⟩) ?_
      simp (disch := omega) only [up2_n, up2_e]
      refine P_iast (pc := 289) (j) d_X12_lay_289 (tt_155 b) rfl (ln_of (ll_155 b) ⟨by omega, by decide⟩) ?_
      refine V_aload_n (pc := 290) d_X12_lay_290 rfl ?_
      refine P_getR (pc := 291) d_X12_lay_291 f_X12_59 (tt_139 b) (rr_139_20 b) ?_
      refine V_iload_n (pc := 294) d_X12_lay_294 rfl ?_
      refine V_aload_n (pc := 295) d_X12_lay_295 rfl ?_
      refine P_getR (pc := 296) d_X12_lay_296 f_X12_137 (tt_139 b) (rr_139_53 b) ?_
      refine V_iconst (pc := 299) (nI 5) d_X12_lay_299 (by decide) ?_
      refine V_iload_n (pc := 300) d_X12_lay_300 rfl ?_
      refine V_imul (pc := 301) d_X12_lay_301 ?_
      refine V_iconst (pc := 302) (nI 4) d_X12_lay_302 (by decide) ?_
      refine V_iadd (pc := 303) d_X12_lay_303 ?_
      refine P_iald (pc := 304) (5 * j + 4) d_X12_lay_304 (tt_182 b) (by simp only [pk_mul, nI_add, nI_1]) (ln_of (ll_182 b) ⟨by omega, by decide⟩) ?_
      simp (disch := omega) only [up2_n, up2_e]
      refine P_iast (pc := 305) (j) d_X12_lay_305 (tt_156 b) rfl (ln_of (ll_156 b) ⟨by omega, by decide⟩) ?_
      refine V_iinc (pc := 306) d_X12_lay_306 rfl (by decide) ?_
      refine V_goto (pc := 309) 223 d_X12_lay_309 (by decide) ?_
      rw [p1_s]
      exact ih (by omega) (j + 1) (by omega) _ (LQ_m (fun a i hp => stlp_y7 hp) (LQ_s (LQ_s (LQ_s (LQ_s (LQ_s h (by omega) (h.1 182 (5 * j) (by omega))) (by omega) (h.1 182 (5 * j + 1) (by omega))) (by omega) (h.1 182 (5 * j + 2) (by omega))) (by omega) (h.1 182 (5 * j + 3) (by omega))) (by omega) (h.1 182 (5 * j + 4) (by omega))))
theorem ct_X12_lay (hk : ∀ τ, LQ σ τ (PL 8 0) → KV (τ, sh b)) : CM G mX12_lay (rl 1) [.ref 139] (σ, sh b) (QV KV) := by
  refine CM.of (by decide) (Nat.le_of_ble_eq_true rfl) (cats1 rfl) ?_
  have g0 : LQ σ σ (PL 1 0) := ⟨fun _ _ _ => rfl, fun a j hp => (PL_1 hp).elim⟩
  refine V_iconst (pc := 0) (0) d_X12_lay_0 (by decide) ?_
  refine V_istore_n (pc := 1) d_X12_lay_1 (by decide) ?_
  refine lp_y1 (F := FM G (rl 1) (QV KV)) (fun τ1 g1 => ?_) 1000 (Nat.le_refl _) 0 (by omega) _ g0
  refine V_iconst (pc := 39) (0) d_X12_lay_39 (by decide) ?_
  refine V_istore_n (pc := 40) d_X12_lay_40 (by decide) ?_
  refine lp_y2 (F := FM G (rl 1) (QV KV)) (fun τ2 g2 => ?_) 100 (Nat.le_refl _) 0 (by omega) _ (LQ_m (fun a i hp => sgPL1 hp) g1)
  refine V_iconst (pc := 89) (0) d_X12_lay_89 (by decide) ?_
  refine V_istore_n (pc := 90) d_X12_lay_90 (by decide) ?_
  refine lp_y3 (F := FM G (rl 1) (QV KV)) (fun τ3 g3 => ?_) 160 (Nat.le_refl _) 0 (by omega) _ (LQ_m (fun a i hp => sgPL2 hp) g2)
  refine V_iconst (pc := 128) (0) d_X12_lay_128 (by decide) ?_
  refine V_istore_n (pc := 129) d_X12_lay_129 (by decide) ?_
  refine lp_y4 (F := FM G (rl 1) (QV KV)) (fun τ4 g4 => ?_) 12 (Nat.le_refl _) 0 (by omega) _ (LQ_m (fun a i hp => sgPL3 hp) g3)
  refine V_iconst (pc := 169) (0) d_X12_lay_169 (by decide) ?_
  refine V_istore_n (pc := 170) d_X12_lay_170 (by decide) ?_
  refine lp_y5 (F := FM G (rl 1) (QV KV)) (fun τ5 g5 => ?_) 11 (Nat.le_refl _) 0 (by omega) _ (LQ_m (fun a i hp => sgPL4 hp) g4)
  refine V_iconst (pc := 195) (0) d_X12_lay_195 (by decide) ?_
  refine V_istore_n (pc := 196) d_X12_lay_196 (by decide) ?_
  refine lp_y6 (F := FM G (rl 1) (QV KV)) (fun τ6 g6 => ?_) 10 (Nat.le_refl _) 0 (by omega) _ (LQ_m (fun a i hp => sgPL5 hp) g5)
  refine V_iconst (pc := 221) (0) d_X12_lay_221 (by decide) ?_
  refine V_istore_n (pc := 222) d_X12_lay_222 (by decide) ?_
  refine lp_y7 (F := FM G (rl 1) (QV KV)) (fun τ7 g7 => ?_) 5 (Nat.le_refl _) 0 (by omega) _ (LQ_m (fun a i hp => sgPL6 hp) g6)
  exact V_retV (pc := 312) d_X12_lay_312 rfl ⟨Nat.le_refl _, Nat.le_refl _⟩ (hk _ (LQ_m (fun a i hp => sgPL7 hp) g7))
def bkS (σ : Sg) : Sg := up2 (up2 (up2 (up2 (up2 (up2 (up2 (up2 σ 139 45 (σ 139 45 + 1)) 139 2 (σ 175 0)) 139 12 (σ 175 1)) 139 24 (σ 175 2)) 139 31 (σ 175 3)) 139 35 (σ 175 4)) 139 1 (σ 175 5)) 139 30 (σ 175 6)
theorem ct_X12_back  (h2 : σ 139 45 = nI 10 → K (-1) (up2 σ 139 0 (nI 2), sh b)) (h3 : ¬ σ 139 45 = nI 10 → σ 139 44 = 0 → K (-1) (up2 σ 139 0 (nI 3), sh b)) (hk : ¬ σ 139 45 = nI 10 → ¬ σ 139 44 = 0 → ∀ τ, LQ (bkS σ) τ (PL 8 0) → K (τ 139 1) (up2 τ 139 0 0, sh b)) : CM G mX12_back (rl 2) [.ref 139] (σ, sh b) (QI K) := by
  refine CM.of (by decide) (Nat.le_of_ble_eq_true rfl) (cats1 rfl) ?_
  refine V_aload_n (pc := 0) d_X12_back_0 rfl ?_
  refine P_getI (pc := 1) d_X12_back_1 f_X12_311 (tt_139 b) ?_
  refine V_bipush (pc := 4) (nI 10) d_X12_back_4 (by decide) ?_
  refine V_icmp_ne (pc := 6) 15 d_X12_back_6 (by decide) (fun c6 => ?_) (fun c6 => ?_)
  · refine V_aload_n (pc := 15) d_X12_back_15 rfl ?_
    refine P_getI (pc := 16) d_X12_back_16 f_X12_307 (tt_139 b) ?_
    refine V_if_ne (pc := 19) 28 d_X12_back_19 (by decide) (fun c19 => ?_) (fun c19 => ?_)
    · refine V_aload_n (pc := 28) d_X12_back_28 rfl ?_
      refine V_dup (pc := 29) d_X12_back_29 rfl ?_
      refine P_getI (pc := 30) d_X12_back_30 f_X12_311 (tt_139 b) ?_
      refine V_iconst (pc := 33) (1) d_X12_back_33 (by decide) ?_
      refine V_iadd (pc := 34) d_X12_back_34 ?_
      refine P_putI (pc := 35) d_X12_back_35 f_X12_311 (tt_139 b) ?_
      refine V_aload_n (pc := 38) d_X12_back_38 rfl ?_
      refine V_aload_n (pc := 39) d_X12_back_39 rfl ?_
      refine P_getR (pc := 40) d_X12_back_40 f_X12_116 (tt_139 b) (rr_139_46 b) ?_
      refine V_iconst (pc := 43) (0) d_X12_back_43 (by decide) ?_
      refine P_iald (pc := 44) (0) d_X12_back_44 (tt_175 b) (by decide) (ln_of (ll_175 b) ⟨by omega, by decide⟩) ?_
      simp (disch := omega) only [up2_n, up2_e]
      refine P_putI (pc := 45) d_X12_back_45 f_X12_171 (tt_139 b) ?_
      refine V_aload_n (pc := 48) d_X12_back_48 rfl ?_
      refine V_aload_n (pc := 49) d_X12_back_49 rfl ?_
      refine P_getR (pc := 50) d_X12_back_50 f_X12_116 (tt_139 b) (rr_139_46 b) ?_
      refine V_iconst (pc := 53) (1) d_X12_back_53 (by decide) ?_
      refine P_iald (pc := 54) (1) d_X12_back_54 (tt_175 b) (by decide) (ln_of (ll_175 b) ⟨by omega, by decide⟩) ?_
      simp (disch := omega) only [up2_n, up2_e]
      refine P_putI (pc := 55) d_X12_back_55 f_X12_178 (tt_139 b) ?_
      refine V_aload_n (pc := 58) d_X12_back_58 rfl ?_
      refine V_aload_n (pc := 59) d_X12_back_59 rfl ?_
      refine P_getR (pc := 60) d_X12_back_60 f_X12_116 (tt_139 b) (rr_139_46 b) ?_
      refine V_iconst (pc := 63) (nI 2) d_X12_back_63 (by decide) ?_
      refine P_iald (pc := 64) (2) d_X12_back_64 (tt_175 b) rfl (ln_of (ll_175 b) ⟨by omega, by decide⟩) ?_
      simp (disch := omega) only [up2_n, up2_e]
      refine P_putI (pc := 65) d_X12_back_65 f_X12_181 (tt_139 b) ?_
      refine V_aload_n (pc := 68) d_X12_back_68 rfl ?_
      refine V_aload_n (pc := 69) d_X12_back_69 rfl ?_
      refine P_getR (pc := 70) d_X12_back_70 f_X12_116 (tt_139 b) (rr_139_46 b) ?_
      refine V_iconst (pc := 73) (nI 3) d_X12_back_73 (by decide) ?_
      refine P_iald (pc := 74) (3) d_X12_back_74 (tt_175 b) rfl (ln_of (ll_175 b) ⟨by omega, by decide⟩) ?_
      simp (disch := omega) only [up2_n, up2_e]
      refine P_putI (pc := 75) d_X12_back_75 f_X12_287 (tt_139 b) ?_
      refine V_aload_n (pc := 78) d_X12_back_78 rfl ?_
      refine V_aload_n (pc := 79) d_X12_back_79 rfl ?_
      refine P_getR (pc := 80) d_X12_back_80 f_X12_116 (tt_139 b) (rr_139_46 b) ?_
      refine V_iconst (pc := 83) (nI 4) d_X12_back_83 (by decide) ?_
      refine P_iald (pc := 84) (4) d_X12_back_84 (tt_175 b) rfl (ln_of (ll_175 b) ⟨by omega, by decide⟩) ?_
      simp (disch := omega) only [up2_n, up2_e]
      refine P_putI (pc := 85) d_X12_back_85 f_X12_296 (tt_139 b) ?_
      refine V_aload_n (pc := 88) d_X12_back_88 rfl ?_
      refine V_aload_n (pc := 89) d_X12_back_89 rfl ?_
      refine P_getR (pc := 90) d_X12_back_90 f_X12_116 (tt_139 b) (rr_139_46 b) ?_
      refine V_iconst (pc := 93) (nI 5) d_X12_back_93 (by decide) ?_
      refine P_iald (pc := 94) (5) d_X12_back_94 (tt_175 b) rfl (ln_of (ll_175 b) ⟨by omega, by decide⟩) ?_
      simp (disch := omega) only [up2_n, up2_e]
      refine P_putI (pc := 95) d_X12_back_95 f_X12_184 (tt_139 b) ?_
      refine V_aload_n (pc := 98) d_X12_back_98 rfl ?_
      refine V_aload_n (pc := 99) d_X12_back_99 rfl ?_
      refine P_getR (pc := 100) d_X12_back_100 f_X12_116 (tt_139 b) (rr_139_46 b) ?_
      refine V_bipush (pc := 103) (nI 6) d_X12_back_103 (by decide) ?_
      refine P_iald (pc := 105) (6) d_X12_back_105 (tt_175 b) rfl (ln_of (ll_175 b) ⟨by omega, by decide⟩) ?_
      simp (disch := omega) only [up2_n, up2_e]
      refine P_putI (pc := 106) d_X12_back_106 f_X12_244 (tt_139 b) ?_
      refine V_aload_n (pc := 109) d_X12_back_109 rfl ?_
      refine V_cvV (pc := 110) (n := 1) (c := 12) [] d_X12_back_110 c_X12_314 k_X12_lay ⟨rfl, rfl⟩ (tt_139 b) rfl (Nat.le_of_ble_eq_true rfl) ⟨Nat.le_of_ble_eq_true rfl, Nat.le_of_ble_eq_true rfl⟩ ⟨Nat.le_refl _, Nat.le_refl _⟩ (ct_X12_lay (fun τ g => ?_))
      
      refine V_aload_n (pc := 113) d_X12_back_113 rfl ?_
      refine V_aload_n (pc := 114) d_X12_back_114 rfl ?_
      refine P_getI (pc := 115) d_X12_back_115 f_X12_184 (tt_139 b) ?_
      refine V_cvI (pc := 118) (n := 1) (c := 12) [_] d_X12_back_118 c_X12_191 k_X12_done ⟨rfl, rfl⟩ (tt_139 b) rfl (Nat.le_of_ble_eq_true rfl) ⟨Nat.le_of_ble_eq_true rfl, Nat.le_of_ble_eq_true rfl⟩ ⟨Nat.le_refl _, Nat.le_refl _⟩ (ct_X12_done ?_)
      exact V_retI (pc := 121) d_X12_back_121 rfl ⟨Nat.le_refl _, Nat.le_refl _⟩ (hk c6 c19 τ g)
    · refine V_aload_n (pc := 22) d_X12_back_22 rfl ?_
      refine V_iconst (pc := 23) (nI 3) d_X12_back_23 (by decide) ?_
      refine V_cvI (pc := 24) (n := 1) (c := 12) [_] d_X12_back_24 c_X12_187 k_X12_refused ⟨rfl, rfl⟩ (tt_139 b) rfl (Nat.le_of_ble_eq_true rfl) ⟨Nat.le_of_ble_eq_true rfl, Nat.le_of_ble_eq_true rfl⟩ ⟨Nat.le_refl _, Nat.le_refl _⟩ (ct_X12_refused ?_)
      exact V_retI (pc := 27) d_X12_back_27 rfl ⟨Nat.le_refl _, Nat.le_refl _⟩ (h3 c6 c19)
  · refine V_aload_n (pc := 9) d_X12_back_9 rfl ?_
    refine V_iconst (pc := 10) (nI 2) d_X12_back_10 (by decide) ?_
    refine V_cvI (pc := 11) (n := 1) (c := 12) [_] d_X12_back_11 c_X12_187 k_X12_refused ⟨rfl, rfl⟩ (tt_139 b) rfl (Nat.le_of_ble_eq_true rfl) ⟨Nat.le_of_ble_eq_true rfl, Nat.le_of_ble_eq_true rfl⟩ ⟨Nat.le_refl _, Nat.le_refl _⟩ (ct_X12_refused ?_)
    exact V_retI (pc := 14) d_X12_back_14 rfl ⟨Nat.le_refl _, Nat.le_refl _⟩ (h2 c6)
theorem ct_X11_back_t (h2 : 10 ≤ (σ 3 2).toInt → K (-1) (up2 σ 3 3 (nI 2), sh true)) (hk : ¬ 10 ≤ (σ 3 2).toInt → ∀ κ, CPI (up2 σ 3 2 (σ 3 2 + 1)) κ 4 192 119 → K (κ 4 0) (up2 κ 3 3 0, sh true)) : CM G mX11_back (rl 5) [.ref 3] (σ, sh true) (QI K) := by
  refine CM.of (by decide) (Nat.le_of_ble_eq_true rfl) (cats1 rfl) ?_
  refine V_aload_n (pc := 0) d_X11_back_0 rfl ?_
  refine P_getI (pc := 1) d_X11_back_1 f_X11_19 (tt_3 true) ?_
  refine V_bipush (pc := 4) (nI 10) d_X11_back_4 (by decide) ?_
  refine B_icmp_lt (pc := 6) 15 d_X11_back_6 (by decide) (fun c6 => ?_) (fun c6 => ?_)
  · simp (disch := omega) only [show (nI 10).toInt = 10 from by decide, nI_toInt, ti0, ti1, tim1, tim20, tim1000] at c6
    
    refine V_aload_n (pc := 15) d_X11_back_15 rfl ?_
    refine P_getR (pc := 16) d_X11_back_16 f_X11_16 (tt_3 true) (show (sh true).1 3 1 = some 192 from rfl) ?_
    refine V_ifnonnull (pc := 19) 28 d_X11_back_19 (by decide) ?_
    refine V_hr (P := ∀ j, j < 10 → zo (σ (192 + (9 + 2 * j)) 4)) (fun H hH j hj => hH.z7 (uTS RV192 hj)) (fun hz => ?_)
    refine V_aload_n (pc := 28) d_X11_back_28 rfl ?_
    refine V_dup (pc := 29) d_X11_back_29 rfl ?_
    refine P_getI (pc := 30) d_X11_back_30 f_X11_19 (tt_3 true) ?_
    refine V_iconst (pc := 33) (1) d_X11_back_33 (by decide) ?_
    refine V_iadd (pc := 34) d_X11_back_34 ?_
    refine P_putI (pc := 35) d_X11_back_35 f_X11_19 (tt_3 true) ?_
    refine V_aload_n (pc := 38) d_X11_back_38 rfl ?_
    refine P_getR (pc := 39) d_X11_back_39 f_X11_10 (tt_3 true) (rr_3_0 true) ?_
    refine V_aload_n (pc := 42) d_X11_back_42 rfl ?_
    refine P_getR (pc := 43) d_X11_back_43 f_X11_16 (tt_3 true) (show (sh true).1 3 1 = some 192 from rfl) ?_
    refine V_cvV (pc := 46) (n := 4) (c := 4) [_] d_X11_back_46 c_X11_237 k_X4_copyFrom ⟨rfl, rfl⟩ (tt_4 true) rfl (Nat.le_of_ble_eq_true rfl) ⟨Nat.le_of_ble_eq_true rfl, Nat.le_of_ble_eq_true rfl⟩ ⟨Nat.le_refl _, Nat.le_refl _⟩ (ct_X4_copyFrom (RV4 true) RV192 (Or.inl (by decide)) (fun j hj τ hτ => by rw [hτ _ _ (by omega), up2_n (by omega)]; exact hz j hj) (fun κ g => ?_))
    
    refine V_aload_n (pc := 49) d_X11_back_49 rfl ?_
    refine V_aload_n (pc := 50) d_X11_back_50 rfl ?_
    refine P_getR (pc := 51) d_X11_back_51 f_X11_10 (tt_3 true) (rr_3_0 true) ?_
    refine P_getI (pc := 54) d_X11_back_54 f_X11_194 (tt_4 true) ?_
    refine V_cvI (pc := 57) (n := 1) (c := 11) [_] d_X11_back_57 c_X11_72 k_X11_done ⟨rfl, rfl⟩ (tt_3 true) rfl (Nat.le_of_ble_eq_true rfl) ⟨Nat.le_of_ble_eq_true rfl, Nat.le_of_ble_eq_true rfl⟩ ⟨Nat.le_refl _, Nat.le_refl _⟩ (ct_X11_done ?_)
    exact V_retI (pc := 60) d_X11_back_60 rfl ⟨Nat.le_refl _, Nat.le_refl _⟩ (hk (by omega) κ g)
  · simp (disch := omega) only [show (nI 10).toInt = 10 from by decide, nI_toInt, ti0, ti1, tim1, tim20, tim1000] at c6
    refine V_aload_n (pc := 9) d_X11_back_9 rfl ?_
    refine V_iconst (pc := 10) (nI 2) d_X11_back_10 (by decide) ?_
    refine V_cvI (pc := 11) (n := 1) (c := 11) [_] d_X11_back_11 c_X11_55 k_X11_refused ⟨rfl, rfl⟩ (tt_3 true) rfl (Nat.le_of_ble_eq_true rfl) ⟨Nat.le_of_ble_eq_true rfl, Nat.le_of_ble_eq_true rfl⟩ ⟨Nat.le_refl _, Nat.le_refl _⟩ (ct_X11_refused ?_)
    exact V_retI (pc := 14) d_X11_back_14 rfl ⟨Nat.le_refl _, Nat.le_refl _⟩ (h2 (by omega))
theorem ct_X11_back_f (h2 : 10 ≤ (σ 3 2).toInt → K (-1) (up2 σ 3 3 (nI 2), sh false)) (h3 : ¬ 10 ≤ (σ 3 2).toInt → K (-1) (up2 σ 3 3 (nI 3), sh false)) : CM G mX11_back (rl 5) [.ref 3] (σ, sh false) (QI K) := by
  refine CM.of (by decide) (Nat.le_of_ble_eq_true rfl) (cats1 rfl) ?_
  refine V_aload_n (pc := 0) d_X11_back_0 rfl ?_
  refine P_getI (pc := 1) d_X11_back_1 f_X11_19 (tt_3 false) ?_
  refine V_bipush (pc := 4) (nI 10) d_X11_back_4 (by decide) ?_
  refine B_icmp_lt (pc := 6) 15 d_X11_back_6 (by decide) (fun c6 => ?_) (fun c6 => ?_)
  · simp (disch := omega) only [show (nI 10).toInt = 10 from by decide, nI_toInt, ti0, ti1, tim1, tim20, tim1000] at c6
    
    refine V_aload_n (pc := 15) d_X11_back_15 rfl ?_
    refine P_getQ (pc := 16) d_X11_back_16 f_X11_16 (tt_3 false) ?_
    show V G mX11_back (rl 5) _ 0 0 19 _ [.null] _
    refine V_ifnonnullN (pc := 19) d_X11_back_19 ?_
    refine V_aload_n (pc := 22) d_X11_back_22 rfl ?_
    refine V_iconst (pc := 23) (nI 3) d_X11_back_23 (by decide) ?_
    refine V_cvI (pc := 24) (n := 1) (c := 11) [_] d_X11_back_24 c_X11_55 k_X11_refused ⟨rfl, rfl⟩ (tt_3 false) rfl (Nat.le_of_ble_eq_true rfl) ⟨Nat.le_of_ble_eq_true rfl, Nat.le_of_ble_eq_true rfl⟩ ⟨Nat.le_refl _, Nat.le_refl _⟩ (ct_X11_refused ?_)
    exact V_retI (pc := 27) d_X11_back_27 rfl ⟨Nat.le_refl _, Nat.le_refl _⟩ (h3 (by omega))
  · simp (disch := omega) only [show (nI 10).toInt = 10 from by decide, nI_toInt, ti0, ti1, tim1, tim20, tim1000] at c6
    refine V_aload_n (pc := 9) d_X11_back_9 rfl ?_
    refine V_iconst (pc := 10) (nI 2) d_X11_back_10 (by decide) ?_
    refine V_cvI (pc := 11) (n := 1) (c := 11) [_] d_X11_back_11 c_X11_55 k_X11_refused ⟨rfl, rfl⟩ (tt_3 false) rfl (Nat.le_of_ble_eq_true rfl) ⟨Nat.le_of_ble_eq_true rfl, Nat.le_of_ble_eq_true rfl⟩ ⟨Nat.le_refl _, Nat.le_refl _⟩ (ct_X11_refused ?_)
    exact V_retI (pc := 14) d_X11_back_14 rfl ⟨Nat.le_refl _, Nat.le_refl _⟩ (h2 (by omega))
theorem rg_n {x : Int32} {n : Nat} (h : rg x n) (hn : n ≤ 10000) : 0 ≤ x.toInt ∧ x.toInt < (n : Int) := by
  obtain ⟨k, hk, rfl⟩ := h
  rw [nI_toInt (by omega)]; omega
/-- the reference gone back, over what the class has left: in all that the view shows it is the image -/
theorem bk_view {σ σ1 τ ω : Sg} (h1 : ∀ a i, 139 ≤ a → a < 192 → σ1 a i = σ a i) (h2 : LQ (bkS σ1) τ (PL 8 0)) (h3 : ∀ a i, ¬ (a = 139 ∧ i = 0) → ω a i = τ a i) : ∀ a i, VB a i → ω a i = kv σ a i := by
  have o1 : ∀ a i, a ≠ 139 → bkS σ1 a i = σ1 a i := fun a i ha => by unfold bkS; rw [up2_n (by omega), up2_n (by omega), up2_n (by omega), up2_n (by omega), up2_n (by omega), up2_n (by omega), up2_n (by omega), up2_n (by omega)]
  have out : ∀ a i, a ≠ 139 → 139 ≤ a → a < 192 → ¬ ((143 ≤ a ∧ a ≤ 148) ∨ (152 ≤ a ∧ a ≤ 159) ∨ (163 ≤ a ∧ a ≤ 164)) → ω a i = σ a i := fun a i e g1 g2 g3 => by rw [h3 a i (by omega), h2.1 a i g3, o1 a i e, h1 a i g1 g2]
  have ins : ∀ a i, a ≠ 139 → PL 8 0 a i → ω a i = kv (bkS σ1) a i := fun a i e g => by rw [h3 a i (by omega), h2.2 a i g]
  have src : ∀ a i, 175 ≤ a → a ≤ 186 → bkS σ1 a i = σ a i := fun a i g1 g2 => by rw [o1 a i (by omega), h1 a i (by omega) (by omega)]
  intro a i hv
  unfold VB at hv
  rcases hv with ⟨rfl, hi⟩ | hv | hv | hv | hv | hv | hv | hv | hv | hv
  · rw [h3 _ _ (by omega), h2.1 _ _ (by omega)]
    have c := h1 175
    rcases hi with rfl | rfl | rfl | rfl | rfl | rfl | rfl <;> unfold bkS <;> simp (disch := omega) only [up2_n, up2_e, c] <;> rfl
  · rcases (by omega : a = 140 ∨ a = 141 ∨ a = 142 ∨ a = 143) with rfl | rfl | rfl | rfl
    · exact out _ _ (by decide) (by decide) (by decide) (by omega)
    · exact out _ _ (by decide) (by decide) (by decide) (by omega)
    · exact out _ _ (by decide) (by decide) (by decide) (by omega)
    · exact (ins 143 i (by decide) (pl6 (by omega))).trans (src _ _ (by decide) (by decide))
  · rcases (by omega : a = 144 ∨ a = 145) with rfl | rfl
    · exact (ins _ i (by decide) (pl1 (by omega))).trans (src _ _ (by decide) (by decide))
    · exact (ins _ i (by decide) (pl1 (by omega))).trans (src _ _ (by decide) (by decide))
  · rcases (by omega : a = 146 ∨ a = 147 ∨ a = 148) with rfl | rfl | rfl <;> exact (ins _ i (by decide) (pl2 (by omega))).trans (src _ _ (by decide) (by decide))
  · rcases (by omega : a = 149 ∨ a = 150 ∨ a = 151 ∨ a = 152 ∨ a = 153 ∨ a = 154 ∨ a = 155 ∨ a = 156) with rfl | rfl | rfl | rfl | rfl | rfl | rfl | rfl
    · exact out _ _ (by decide) (by decide) (by decide) (by omega)
    · exact out _ _ (by decide) (by decide) (by decide) (by omega)
    · exact out _ _ (by decide) (by decide) (by decide) (by omega)
    all_goals exact (ins _ i (by decide) (pl7 (by omega))).trans (src _ _ (by decide) (by decide))
  · rcases (by omega : a = 157 ∨ a = 158) with rfl | rfl <;> exact (ins _ i (by decide) (pl3 (by omega))).trans (src _ _ (by decide) (by decide))
  · obtain ⟨rfl, hi⟩ := hv
    exact (ins _ i (by decide) (pl5 (by omega))).trans (src _ _ (by decide) (by decide))
  · rcases (by omega : a = 160 ∨ a = 161 ∨ a = 162 ∨ a = 163 ∨ a = 164) with rfl | rfl | rfl | rfl | rfl
    · exact out _ _ (by decide) (by decide) (by decide) (by omega)
    · exact out _ _ (by decide) (by decide) (by decide) (by omega)
    · exact out _ _ (by decide) (by decide) (by decide) (by omega)
    all_goals exact (ins _ i (by decide) (pl4 (by omega))).trans (src _ _ (by decide) (by decide))
  · rcases (by omega : a = 165 ∨ a = 166 ∨ a = 167) with rfl | rfl | rfl <;> exact out _ _ (by decide) (by decide) (by decide) (by omega)
  · rcases (by omega : a = 168 ∨ a = 169 ∨ a = 170 ∨ a = 171) with rfl | rfl | rfl | rfl <;> exact out _ _ (by decide) (by decide) (by decide) (by omega)
/-- the kept view is the same, if the kept rows and the rows that are not kept are -/
theorem kv_same {σ ω : Sg} (h1 : ∀ a i, 175 ≤ a → a ≤ 186 → ω a i = σ a i) (h2 : ∀ a i, (140 ≤ a ∧ a ≤ 142) ∨ (149 ≤ a ∧ a ≤ 151) ∨ (160 ≤ a ∧ a ≤ 162) ∨ (165 ≤ a ∧ a ≤ 171) → ω a i = σ a i) : ∀ a i, VB a i → kv ω a i = kv σ a i := by
  intro a i hv
  unfold VB at hv
  rcases hv with ⟨rfl, hi⟩ | hv | hv | hv | hv | hv | hv | hv | hv | hv
  · rcases hi with rfl | rfl | rfl | rfl | rfl | rfl | rfl <;> exact h1 _ _ (by decide) (by decide)
  · rcases (by omega : a = 140 ∨ a = 141 ∨ a = 142 ∨ a = 143) with rfl | rfl | rfl | rfl
    · exact h2 _ _ (by omega)
    · exact h2 _ _ (by omega)
    · exact h2 _ _ (by omega)
    · exact h1 _ _ (by decide) (by decide)
  · rcases (by omega : a = 144 ∨ a = 145) with rfl | rfl <;> exact h1 _ _ (by decide) (by decide)
  · rcases (by omega : a = 146 ∨ a = 147 ∨ a = 148) with rfl | rfl | rfl <;> exact h1 _ _ (by decide) (by decide)
  · rcases (by omega : a = 149 ∨ a = 150 ∨ a = 151 ∨ a = 152 ∨ a = 153 ∨ a = 154 ∨ a = 155 ∨ a = 156) with rfl | rfl | rfl | rfl | rfl | rfl | rfl | rfl
    · exact h2 _ _ (by omega)
    · exact h2 _ _ (by omega)
    · exact h2 _ _ (by omega)
    all_goals exact h1 _ _ (by decide) (by decide)
  · rcases (by omega : a = 157 ∨ a = 158) with rfl | rfl <;> exact h1 _ _ (by decide) (by decide)
  · obtain ⟨rfl, hi⟩ := hv
    exact h1 _ _ (by decide) (by decide)
  · rcases (by omega : a = 160 ∨ a = 161 ∨ a = 162 ∨ a = 163 ∨ a = 164) with rfl | rfl | rfl | rfl | rfl
    · exact h2 _ _ (by omega)
    · exact h2 _ _ (by omega)
    · exact h2 _ _ (by omega)
    all_goals exact h1 _ _ (by decide) (by decide)
  · rcases (by omega : a = 165 ∨ a = 166 ∨ a = 167) with rfl | rfl | rfl <;> exact h2 _ _ (by omega)
  · rcases (by omega : a = 168 ∨ a = 169 ∨ a = 170 ∨ a = 171) with rfl | rfl | rfl | rfl <;> exact h2 _ _ (by omega)
/-- behind image() the kept view is what stands -/
theorem im_view {σ σ1 τ ω : Sg} (h1 : ∀ a i, 139 ≤ a → a < 192 → σ1 a i = σ a i) (h2 : KQ σ1 τ (PK 8 0)) (h3 : ∀ a i, a ≠ 139 → ω a i = τ a i) : ∀ a i, VB a i → kv ω a i = σ a i := by
  have ins : ∀ a i, 175 ≤ a → a ≤ 186 → PK 8 0 a i → ω a i = kval σ1 a i := fun a i g1 g2 g3 => by rw [h3 a i (by omega), h2.2 a i g3]
  have out : ∀ a i, a ≠ 139 → 139 ≤ a → a < 175 → ω a i = σ a i := fun a i e g1 g2 => by rw [h3 a i e, h2.1 a i (by omega), h1 a i g1 (by omega)]
  have s1 : ∀ a i, 139 ≤ a → a < 192 → σ1 a i = σ a i := h1
  intro a i hv
  unfold VB at hv
  rcases hv with ⟨rfl, hi⟩ | hv | hv | hv | hv | hv | hv | hv | hv | hv
  · rcases hi with rfl | rfl | rfl | rfl | rfl | rfl | rfl <;> exact (ins 175 _ (by decide) (by decide) (pk0 (by omega))).trans (s1 139 _ (by decide) (by decide))
  · rcases (by omega : a = 140 ∨ a = 141 ∨ a = 142 ∨ a = 143) with rfl | rfl | rfl | rfl
    · exact out _ _ (by decide) (by decide) (by decide)
    · exact out _ _ (by decide) (by decide) (by decide)
    · exact out _ _ (by decide) (by decide) (by decide)
    · exact (ins 176 _ (by decide) (by decide) (pk6 (by omega))).trans (s1 _ _ (by decide) (by decide))
  · rcases (by omega : a = 144 ∨ a = 145) with rfl | rfl
    · exact (ins 177 _ (by decide) (by decide) (pk1 (by omega))).trans (s1 _ _ (by decide) (by decide))
    · exact (ins 178 _ (by decide) (by decide) (pk1 (by omega))).trans (s1 _ _ (by decide) (by decide))
  · rcases (by omega : a = 146 ∨ a = 147 ∨ a = 148) with rfl | rfl | rfl
    · exact (ins 179 _ (by decide) (by decide) (pk2 (by omega))).trans (s1 _ _ (by decide) (by decide))
    · exact (ins 180 _ (by decide) (by decide) (pk2 (by omega))).trans (s1 _ _ (by decide) (by decide))
    · exact (ins 181 _ (by decide) (by decide) (pk2 (by omega))).trans (s1 _ _ (by decide) (by decide))
  · have e5 : ∀ t, t < 5 → ω 182 (5 * i + t) = σ (152 + t) i := fun t ht => by
      rw [ins 182 _ (by decide) (by decide) (pk7 (by omega)), kv5 σ1 i t ht, s1 _ _ (by omega) (by omega)]
    rcases (by omega : a = 149 ∨ a = 150 ∨ a = 151 ∨ a = 152 ∨ a = 153 ∨ a = 154 ∨ a = 155 ∨ a = 156) with rfl | rfl | rfl | rfl | rfl | rfl | rfl | rfl
    · exact out _ _ (by decide) (by decide) (by decide)
    · exact out _ _ (by decide) (by decide) (by decide)
    · exact out _ _ (by decide) (by decide) (by decide)
    · exact e5 0 (by decide)
    · exact e5 1 (by decide)
    · exact e5 2 (by decide)
    · exact e5 3 (by decide)
    · exact e5 4 (by decide)
  · rcases (by omega : a = 157 ∨ a = 158) with rfl | rfl
    · exact (ins 183 _ (by decide) (by decide) (pk3 (by omega))).trans (s1 _ _ (by decide) (by decide))
    · exact (ins 184 _ (by decide) (by decide) (pk3 (by omega))).trans (s1 _ _ (by decide) (by decide))
  · obtain ⟨rfl, hi⟩ := hv
    exact (ins 185 _ (by decide) (by decide) (pk5 (by omega))).trans (s1 _ _ (by decide) (by decide))
  · rcases (by omega : a = 160 ∨ a = 161 ∨ a = 162 ∨ a = 163 ∨ a = 164) with rfl | rfl | rfl | rfl | rfl
    · exact out _ _ (by decide) (by decide) (by decide)
    · exact out _ _ (by decide) (by decide) (by decide)
    · exact out _ _ (by decide) (by decide) (by decide)
    · exact (ins 186 i (by decide) (by decide) (pk4 (by omega))).trans ((kv12l σ1 i (by omega)).trans (s1 _ _ (by decide) (by decide)))
    · exact (ins 186 (12 + i) (by decide) (by decide) (pk4 (by omega))).trans ((kv12 σ1 i).trans (s1 _ _ (by decide) (by decide)))
  · rcases (by omega : a = 165 ∨ a = 166 ∨ a = 167) with rfl | rfl | rfl <;> exact out _ _ (by decide) (by decide) (by decide)
  · rcases (by omega : a = 168 ∨ a = 169 ∨ a = 170 ∨ a = 171) with rfl | rfl | rfl | rfl <;> exact out _ _ (by decide) (by decide) (by decide)
theorem pr_back (h : Rel σ b) : PR G mX11_back mX12_back 5 2 [] σ b := by
  have h0 := h
  obtain ⟨q, ns, nb, nl, nt, nr, hR, hX, hP, hQ, hK⟩ := h
  obtain ⟨x1, x2, k, hk, ek⟩ := id hX
  have ek2 : σ 139 45 = nI k := x2.symm.trans ek
  have m45 : ∀ {ω : Sg}, (∀ a i, 139 ≤ a → a < 192 → ω a i = σ a i) → ω 139 45 = nI k := fun g => (g _ _ (by decide) (by decide)).trans ek2
  have lo2 : ∀ v a i, 139 ≤ a → a < 192 → up2 σ 3 3 v a i = σ a i := fun v a i g1 g2 => by rw [up2_n (by omega)]
  have n10 : ¬ 10 ≤ (σ 3 2).toInt → ¬ (nI k : Int32) = nI 10 := fun hv e => hv (by rw [ek, e]; decide)
  cases b with
  | false =>
    refine ct_X11_back_f (fun hv => ?_) (fun hv => ?_)
    · refine ⟨rfl, ct_X12_back (fun _ => ⟨rfl, _, rfl, rel_ref h0⟩) (fun w => absurd ?_ w) (fun w => absurd ?_ w)⟩
      all_goals
        rw [m45 (lo2 _)]
        rw [ek, nI_toInt (by omega)] at hv
        rw [show k = 10 by omega]
    · refine ⟨rfl, ct_X12_back (fun w => ?_) (fun _ _ => ⟨rfl, _, rfl, rel_ref h0⟩) (fun _ w => ?_)⟩
      · rw [m45 (lo2 _)] at w; exact absurd w (n10 hv)
      · refine absurd ?_ w
        rw [lo2 _ _ _ (by decide) (by decide)]; exact hK.1 rfl
  | true =>
    obtain ⟨k1, q', ns', nb', nl', nt', nr', e1, e2, e3, e4, e5, hR'⟩ := hK.2 rfl
    refine ct_X11_back_t (fun hv => ?_) (fun hv κ hκ => ?_)
    · refine ⟨rfl, ct_X12_back (fun _ => ⟨rfl, _, rfl, rel_ref h0⟩) (fun w => absurd ?_ w) (fun w => absurd ?_ w)⟩
      all_goals
        rw [m45 (lo2 _)]
        rw [ek, nI_toInt (by omega)] at hv
        rw [show k = 10 by omega]
    · have kO : ∀ a i, ¬ (4 ≤ a ∧ a < 123) → ¬ (a = 3 ∧ (i = 2 ∨ i = 3)) → up2 κ 3 3 0 a i = σ a i := fun a i g1 g2 => by rw [up2_n (by omega), hκ.1 a i (by omega), up2_n (by omega)]
      have kM : ∀ a i, 139 ≤ a → a < 192 → up2 κ 3 3 0 a i = σ a i := fun a i g1 g2 => kO a i (by omega) (by omega)
      refine ⟨rfl, ct_X12_back (fun w => ?_) (fun _ w => ?_) (fun _ _ τ hτ => ?_)⟩
      · rw [m45 kM] at w; exact absurd w (n10 hv)
      · rw [kM _ _ (by decide) (by decide), k1] at w; exact absurd w (by decide)
      · generalize hω : up2 τ 139 0 0 = ω
        have w1 : ∀ a i, ¬ (a = 139 ∧ i = 0) → ω a i = τ a i := fun a i g => by rw [← hω, up2_n g]
        have vw := bk_view kM hτ w1
        have cls : ∀ a i, a < 139 ∨ 192 ≤ a → ω a i = up2 κ 3 3 0 a i := fun a i g => by
          rw [w1 a i (by omega), hτ.1 a i (by omega)]
          unfold bkS
          rw [up2_n (by omega), up2_n (by omega), up2_n (by omega), up2_n (by omega), up2_n (by omega), up2_n (by omega), up2_n (by omega), up2_n (by omega)]
        have oth : ∀ a i, 139 ≤ a → a < 192 → ¬ ((143 ≤ a ∧ a ≤ 148) ∨ (152 ≤ a ∧ a ≤ 159) ∨ (163 ≤ a ∧ a ≤ 164)) → ¬ (a = 139 ∧ (i = 0 ∨ i = 1 ∨ i = 2 ∨ i = 12 ∨ i = 24 ∨ i = 30 ∨ i = 31 ∨ i = 35 ∨ i = 45)) → ω a i = σ a i := fun a i g1 g2 g3 g4 => by
          rw [w1 a i (by omega), hτ.1 a i g3]
          unfold bkS
          rw [up2_n (by omega), up2_n (by omega), up2_n (by omega), up2_n (by omega), up2_n (by omega), up2_n (by omega), up2_n (by omega), up2_n (by omega), kM a i g1 g2]
        have r4 : ∀ j, j < wl 0 → ω 4 j = σ 192 j := fun j hj => by
          have e := hκ.2 0 j (by decide) hj
          rw [cls _ _ (by decide), up2_n (by omega)]
          exact e.trans (up2_n (by omega))
        have c4 : ω 4 0 = nI q' := (r4 0 (by decide +kernel)).trans hR'.1.2.2.1.1
        have v1 : τ 139 1 = nI q' := (w1 139 1 (by decide)).symm.trans ((vw 139 1 (vb0 (by omega))).trans hR'.1.2.1.1)
        have k4 : κ 4 0 = nI q' := by
          have e := cls 4 0 (by decide)
          rw [up2_n (by decide)] at e
          exact e.symm.trans c4
        refine ⟨v1.trans k4.symm, ω, rfl, q', ns', nb', nl', nt', nr', RR_mv hR' (fun o j ho hj => ?_) vw, ?_, cP_cg hP ⟨?_, ?_⟩ (fun j _ => ⟨?_, ?_⟩), cQ_cg hQ (fun a i g => ?_), ⟨fun e => (by cases e), fun _ => ⟨?_, q', ns', nb', nl', nt', nr', Nat.le_refl _, Nat.le_refl _, Nat.le_refl _, Nat.le_refl _, Nat.le_refl _, RR_mv hR' (fun o j ho hj => ?_) (kv_same (fun a i g1 g2 => oth a i (by omega) (by omega) (by omega) (by omega)) (fun a i g => oth a i (by omega) (by omega) (by omega) (by omega)))⟩⟩⟩
        · rw [cls _ _ (by omega), up2_n (by omega), hκ.2 o j ho hj, up2_n (by omega)]
        · refine ⟨?_, ?_, k + 1, ?_, ?_⟩
          · rw [cls _ _ (by decide), up2_y, ← hω, up2_y]
          · rw [cls _ _ (by decide), up2_n (by decide), hκ.1 _ _ (by omega), up2_y, w1 _ _ (by decide), hτ.1 _ _ (by omega)]
            unfold bkS
            rw [up2_n (by decide), up2_n (by decide), up2_n (by decide), up2_n (by decide), up2_n (by decide), up2_n (by decide), up2_n (by decide), up2_y, kM _ _ (by decide) (by decide), x2]
          · have := n10 hv
            rcases Nat.lt_or_ge k 10 with g | g
            · omega
            · exact absurd (by rw [show k = 10 by omega]) this
          · rw [cls _ _ (by decide), up2_n (by decide), hκ.1 _ _ (by omega), up2_y, ek, nI_1]
        · rw [cls _ _ (by decide)]; exact kO _ _ (by omega) (by omega)
        · exact oth _ _ (by decide) (by decide) (by omega) (by omega)
        · rw [cls _ _ (by decide)]; exact kO _ _ (by omega) (by omega)
        · exact oth _ _ (by decide) (by decide) (by omega) (by omega)
        · rcases g with g | g
          · rw [cls _ _ (by omega)]; exact kO _ _ (by omega) (by omega)
          · exact oth _ _ (by omega) (by omega) (by omega) (by omega)
        · exact (oth _ _ (by decide) (by decide) (by omega) (by omega)).trans k1
        · rw [cls _ _ (by omega)]; exact kO _ _ (by omega) (by omega)
end HC
