/-! ===== the cells as they come: m of them made, those of U not yet put into their places ===== -/
def TF (k : Nat) : Nat := shTl.getD k 0
def LF (k : Nat) : Nat := shLl.getD k 0
def RF (k j : Nat) : Option Nat := if k = 3 ∧ j = 1 then some 192 else (shRl.getD k []).getD j none
def parl : List (Nat × Nat) := [(0, 0), (0, 0), (0, 0), (0, 0), (3, 0), (4, 8), (4, 9), (4, 10), (4, 11), (4, 12), (4, 13), (4, 14), (4, 15), (7, 0), (13, 5), (7, 1), (15, 5), (7, 2), (17, 5), (7, 3), (19, 5), (7, 4), (21, 5), (7, 5), (23, 5), (7, 6), (25, 5), (7, 7), (27, 5), (7, 8), (29, 5), (7, 9), (31, 5), (8, 0), (33, 1), (34, 0), (34, 1), (8, 1), (37, 1), (38, 0), (38, 1), (8, 2), (41, 1), (42, 0), (42, 1), (8, 3), (45, 1), (46, 0), (46, 1), (8, 4), (49, 1), (50, 0), (50, 1), (8, 5), (53, 1), (54, 0), (54, 1), (8, 6), (57, 1), (58, 0), (58, 1), (8, 7), (61, 1), (62, 0), (62, 1), (8, 8), (65, 1), (66, 0), (66, 1), (8, 9), (69, 1), (70, 0), (70, 1), (8, 10), (73, 1), (74, 0), (74, 1), (9, 0), (77, 9), (78, 0), (78, 1), (9, 1), (81, 9), (82, 0), (82, 1), (9, 2), (85, 9), (86, 0), (86, 1), (9, 3), (89, 9), (90, 0), (90, 1), (9, 4), (93, 9), (94, 0), (94, 1), (10, 0), (10, 1), (10, 2), (10, 3), (10, 4), (10, 5), (10, 6), (10, 7), (10, 8), (10, 9), (10, 10), (10, 11), (11, 0), (11, 1), (11, 2), (11, 3), (11, 4), (11, 5), (12, 0), (12, 1), (12, 2), (12, 3), (12, 4), (12, 5), (12, 6), (12, 7), (3, 4), (3, 5), (124, 1), (3, 6), (126, 2), (126, 3), (126, 4), (3, 7), (123, 0), (131, 2), (123, 1), (133, 2), (123, 2), (135, 2), (123, 3), (137, 2), (0, 0), (139, 3), (139, 4), (139, 5), (139, 6), (139, 7), (139, 8), (139, 9), (139, 10), (139, 11), (139, 13), (139, 14), (139, 15), (139, 16), (139, 17), (139, 18), (139, 19), (139, 20), (139, 21), (139, 22), (139, 23), (139, 25), (139, 26), (139, 27), (139, 28), (139, 29), (139, 32), (139, 33), (139, 34), (139, 36), (139, 37), (139, 38), (139, 39), (139, 40), (139, 41), (139, 42), (139, 46), (139, 47), (139, 48), (139, 49), (139, 50), (139, 51), (139, 52), (139, 53), (139, 54), (139, 55), (139, 56), (139, 57), (139, 58), (139, 60), (139, 61), (139, 62), (139, 63), (3, 1), (192, 8), (192, 9), (192, 10), (192, 11), (192, 12), (192, 13), (192, 14), (192, 15), (195, 0), (201, 5), (195, 1), (203, 5), (195, 2), (205, 5), (195, 3), (207, 5), (195, 4), (209, 5), (195, 5), (211, 5), (195, 6), (213, 5), (195, 7), (215, 5), (195, 8), (217, 5), (195, 9), (219, 5), (196, 0), (221, 1), (222, 0), (222, 1), (196, 1), (225, 1), (226, 0), (226, 1), (196, 2), (229, 1), (230, 0), (230, 1), (196, 3), (233, 1), (234, 0), (234, 1), (196, 4), (237, 1), (238, 0), (238, 1), (196, 5), (241, 1), (242, 0), (242, 1), (196, 6), (245, 1), (246, 0), (246, 1), (196, 7), (249, 1), (250, 0), (250, 1), (196, 8), (253, 1), (254, 0), (254, 1), (196, 9), (257, 1), (258, 0), (258, 1), (196, 10), (261, 1), (262, 0), (262, 1), (197, 0), (265, 9), (266, 0), (266, 1), (197, 1), (269, 9), (270, 0), (270, 1), (197, 2), (273, 9), (274, 0), (274, 1), (197, 3), (277, 9), (278, 0), (278, 1), (197, 4), (281, 9), (282, 0), (282, 1), (198, 0), (198, 1), (198, 2), (198, 3), (198, 4), (198, 5), (198, 6), (198, 7), (198, 8), (198, 9), (198, 10), (198, 11), (199, 0), (199, 1), (199, 2), (199, 3), (199, 4), (199, 5), (200, 0), (200, 1), (200, 2), (200, 3), (200, 4), (200, 5), (200, 6), (200, 7)]
def par (v : Nat) : Nat × Nat := parl.getD v (0, 0)
theorem gd_none {α : Type} {l : List α} {n : Nat} {d : α} (h : l.length ≤ n) : l.getD n d = d := by
  rw [List.getD_eq_getElem?_getD, List.getElem?_eq_none h]; rfl
def rowOK (k : Nat) : Nat → List (Option Nat) → Bool
  | _, [] => true
  | j, none :: l => rowOK k (j + 1) l
  | j, some v :: l => decide (par v = (k, j)) && (decide (k < v) && (decide (v < 311) && ((decide (192 ≤ k) || decide (v < 192)) && rowOK k (j + 1) l)))
set_option maxRecDepth 100000 in
theorem rows_ok : ∀ k, k < 311 → rowOK k 0 (shRl.getD k []) = true := by decide +kernel
theorem rowOK_at {k : Nat} : ∀ {l : List (Option Nat)} {j : Nat}, rowOK k j l = true → ∀ {i v : Nat}, l.getD i none = some v → par v = (k, j + i) ∧ k < v ∧ v < 311 ∧ (192 ≤ k ∨ v < 192)
  | [], j, _, i, v, h => by cases h
  | none :: l, j, h, 0, v, e => by cases e
  | none :: l, j, h, i + 1, v, e => by
    have k := rowOK_at (l := l) (j := j + 1) h (i := i) (v := v) e
    rw [show j + 1 + i = j + (i + 1) by omega] at k
    exact k
  | some w :: l, j, h, 0, v, e => by
    obtain rfl : w = v := Option.some.inj e
    simp only [rowOK, Bool.and_eq_true, decide_eq_true_iff, Bool.or_eq_true] at h
    exact ⟨h.1, h.2.1, h.2.2.1, h.2.2.2.1⟩
  | some w :: l, j, h, i + 1, v, e => by
    simp only [rowOK, Bool.and_eq_true] at h
    have k := rowOK_at (l := l) (j := j + 1) h.2.2.2.2 (i := i) (v := v) e
    rw [show j + 1 + i = j + (i + 1) by omega] at k
    exact k
theorem RF_ok {k j v : Nat} (h : RF k j = some v) : par v = (k, j) ∧ k < v ∧ v < 311 ∧ (192 ≤ k ∨ v < 192 ∨ (k = 3 ∧ j = 1)) := by
  unfold RF at h
  by_cases c : k = 3 ∧ j = 1
  · rw [if_pos c] at h
    obtain rfl : 192 = v := Option.some.inj h
    obtain ⟨rfl, rfl⟩ := c
    exact ⟨by decide +kernel, by decide, by decide, by omega⟩
  · rw [if_neg c] at h
    rcases Nat.lt_or_ge k 311 with g | g
    · have e := rowOK_at (rows_ok k g) h
      rw [Nat.zero_add] at e
      exact ⟨e.1, e.2.1, e.2.2.1, by omega⟩
    · rw [gd_none (l := shRl) (d := []) (by show shRl.length ≤ k; exact Nat.le_trans (by decide +kernel) g)] at h
      cases h
def stg (m : Nat) (U : List Nat) : (Nat → Nat → Option Nat) × (Nat → Nat) × (Nat → Nat) × Nat :=
  (fun k j => match RF k j with
    | some v => if v < m ∧ v ∉ U then some v else none
    | none => none, fun k => if k < m then TF k else 0, fun k => if k < m then LF k else 0, m)
def zr (σ : Sg) (m : Nat) : Sg := fun a i => if a = m then 0 else σ a i
theorem zr_n {σ : Sg} {m a i : Nat} (h : a ≠ m) : zr σ m a i = σ a i := if_neg h
theorem zr_id {σ : Sg} {m : Nat} (h : ∀ j, σ m j = 0) : zr σ m = σ := by
  funext a i
  unfold zr
  by_cases c : a = m
  · rw [if_pos c, c, h]
  · rw [if_neg c]
theorem stg_r {m k j v : Nat} {U : List Nat} (h : RF k j = some v) : (stg m U).1 k j = if v < m ∧ v ∉ U then some v else none := by
  show (match RF k j with
    | some v => if v < m ∧ v ∉ U then some v else none
    | none => none) = _
  rw [h]
theorem stg_n {m k j : Nat} {U : List Nat} (h : RF k j = none) : (stg m U).1 k j = none := by
  show (match RF k j with
    | some v => if v < m ∧ v ∉ U then some v else none
    | none => none) = _
  rw [h]
theorem stg_T {m k t : Nat} {U : List Nat} (h : k < m) (e : TF k = t) : (stg m U).2.1 k = t := (if_pos h).trans e
theorem stg_L {m k t : Nat} {U : List Nat} (h : k < m) (e : LF k = t) : (stg m U).2.2.1 k = t := (if_pos h).trans e
theorem stg_R {m k j v : Nat} {U : List Nat} (h : RF k j = some v) (hv : v < m) (hU : v ∉ U) : (stg m U).1 k j = some v := (stg_r h).trans (if_pos ⟨hv, hU⟩)
theorem stg_new {σ : Sg} {m t n : Nat} {U : List Nat} (ht : TF m = t) (hn : LF m = n) : nw (σ, stg m U) t n = (zr σ m, stg (m + 1) (m :: U)) := by
  have e1 : (fun a i => if a = m then none else (stg m U).1 a i) = (stg (m + 1) (m :: U)).1 := by
    funext a i
    cases e : RF a i with
    | none => rw [stg_n e, stg_n e]; split <;> rfl
    | some v =>
      have k := RF_ok e
      rw [stg_r e, stg_r e]
      by_cases c : a = m
      · rw [if_pos c, if_neg (fun w => by omega)]
      · rw [if_neg c]
        by_cases d : v < m ∧ v ∉ U
        · rw [if_pos d, if_pos ⟨by omega, fun w => by rcases List.mem_cons.mp w with w | w; omega; exact d.2 w⟩]
        · rw [if_neg d, if_neg (fun w => d ⟨by have hne : v ≠ m := fun q => w.2 (List.mem_cons.mpr (Or.inl q)); have := w.1; omega, fun q => w.2 (List.mem_cons.mpr (Or.inr q))⟩)]
  have e2 : (fun a => if a = m then t else (stg m U).2.1 a) = (stg (m + 1) (m :: U)).2.1 := by
    funext a
    show (if a = m then t else if a < m then TF a else 0) = if a < m + 1 then TF a else 0
    by_cases c : a = m
    · rw [if_pos c, if_pos (by omega), c, ht]
    · rw [if_neg c]
      by_cases d : a < m
      · rw [if_pos d, if_pos (by omega)]
      · rw [if_neg d, if_neg (by omega)]
  have e3 : (fun a => if a = m then n else (stg m U).2.2.1 a) = (stg (m + 1) (m :: U)).2.2.1 := by
    funext a
    show (if a = m then n else if a < m then LF a else 0) = if a < m + 1 then LF a else 0
    by_cases c : a = m
    · rw [if_pos c, if_pos (by omega), c, hn]
    · rw [if_neg c]
      by_cases d : a < m
      · rw [if_pos d, if_pos (by omega)]
      · rw [if_neg d, if_neg (by omega)]
  show (zr σ m, (fun a i => if a = m then none else (stg m U).1 a i), (fun a => if a = m then t else (stg m U).2.1 a), (fun a => if a = m then n else (stg m U).2.2.1 a), m + 1) = (zr σ m, stg (m + 1) (m :: U))
  rw [e1, e2, e3]
  rfl
theorem stg_set {σ : Sg} {m v k j : Nat} {U : List Nat} (hR : RF k j = some v) (hv : v < m) (hU : v ∉ U) : sR (σ, stg m (v :: U)) k j (some v) = (σ, stg m U) := by
  have e1 : up2 (stg m (v :: U)).1 k j (some v) = (stg m U).1 := by
    funext a i
    by_cases c : a = k ∧ i = j
    · rw [up2_e c, c.1, c.2, stg_R hR hv hU]
    · rw [up2_n c]
      cases e : RF a i with
      | none => rw [stg_n e, stg_n e]
      | some w =>
        rw [stg_r e, stg_r e]
        have hw : w ≠ v := fun q => c (by
          subst q
          have k1 := (RF_ok e).1.symm.trans (RF_ok hR).1
          exact ⟨congrArg Prod.fst k1, congrArg Prod.snd k1⟩)
        by_cases d : w < m ∧ w ∉ U
        · rw [if_pos d, if_pos ⟨d.1, fun q => by rcases List.mem_cons.mp q with q | q; exact hw q; exact d.2 q⟩]
        · rw [if_neg d, if_neg (fun q => d ⟨q.1, fun z => q.2 (List.mem_cons.mpr (Or.inr z))⟩)]
  show (σ, up2 (stg m (v :: U)).1 k j (some v), (stg m (v :: U)).2) = (σ, stg m U)
  rw [e1]
  rfl
theorem stg_drop {m v : Nat} {U : List Nat} (hp : par v = (0, 0)) : stg m (v :: U) = stg m U := by
  have e1 : (stg m (v :: U)).1 = (stg m U).1 := by
    funext a i
    cases e : RF a i with
    | none => rw [stg_n e, stg_n e]
    | some w =>
      rw [stg_r e, stg_r e]
      have hw : w ≠ v := fun q => by
        subst q
        have k1 := (RF_ok e).1.symm.trans hp
        have k2 := congrArg Prod.fst k1
        have k3 := congrArg Prod.snd k1
        simp only at k2 k3
        subst k2 k3
        rw [show RF 0 0 = none by decide +kernel] at e
        cases e
      by_cases d : w < m ∧ w ∉ U
      · rw [if_pos d, if_pos ⟨d.1, fun q => by rcases List.mem_cons.mp q with q | q; exact hw q; exact d.2 q⟩]
      · rw [if_neg d, if_neg (fun q => d ⟨q.1, fun z => q.2 (List.mem_cons.mpr (Or.inr z))⟩)]
  show ((stg m (v :: U)).1, (stg m (v :: U)).2) = _
  rw [e1]
  rfl
theorem sh_stg_f : sh false = stg 192 [] := by
  have e1 : shR false = (stg 192 []).1 := by
    funext k j
    unfold shR
    cases e : RF k j with
    | none =>
      rw [stg_n e]
      unfold RF at e
      by_cases c : k = 3 ∧ j = 1
      · rw [if_pos c, if_neg (by decide)]
      · rw [if_neg c] at e ⊢
        rw [e]
        split
        · rfl
        · split <;> rfl
    | some v =>
      rw [stg_r e]
      have k1 := RF_ok e
      unfold RF at e
      by_cases c : k = 3 ∧ j = 1
      · rw [if_pos c] at e ⊢
        obtain rfl : 192 = v := Option.some.inj e
        rw [if_neg (by decide), if_neg (by omega)]
      · rw [if_neg c] at e ⊢
        rw [e]
        by_cases d : k < 192
        · rw [if_pos d, if_pos ⟨by omega, List.not_mem_nil⟩]
        · rw [if_neg d, if_neg (by decide), if_neg (by omega)]
  have e2 : shT false = (stg 192 []).2.1 := by
    funext k
    show (if k < 192 then shTl.getD k 0 else if false = true then shTl.getD k 0 else 0) = if k < 192 then TF k else 0
    rw [if_neg (by decide : ¬ false = true)]; rfl
  have e3 : shL false = (stg 192 []).2.2.1 := by
    funext k
    show (if k < 192 then shLl.getD k 0 else if false = true then shLl.getD k 0 else 0) = if k < 192 then LF k else 0
    rw [if_neg (by decide : ¬ false = true)]; rfl
  show (shR false, shT false, shL false, 192) = _
  rw [e1, e2, e3]
  rfl
theorem sh_stg_t : sh true = stg 311 [] := by
  have e1 : shR true = (stg 311 []).1 := by
    funext k j
    unfold shR
    cases e : RF k j with
    | none =>
      rw [stg_n e]
      unfold RF at e
      by_cases c : k = 3 ∧ j = 1
      · rw [if_pos c] at e; cases e
      · rw [if_neg c] at e ⊢
        rw [e, if_pos rfl]; split <;> rfl
    | some v =>
      rw [stg_r e]
      have k1 := RF_ok e
      rw [if_pos (show v < 311 ∧ v ∉ ([] : List Nat) from ⟨k1.2.2.1, List.not_mem_nil⟩)]
      unfold RF at e
      by_cases c : k = 3 ∧ j = 1
      · rw [if_pos c] at e ⊢
        rw [if_pos rfl]; exact e
      · rw [if_neg c] at e ⊢
        rw [if_pos rfl, e]; split <;> rfl
  have e2 : shT true = (stg 311 []).2.1 := by
    funext k
    show (if k < 192 then shTl.getD k 0 else if true = true then shTl.getD k 0 else 0) = if k < 311 then TF k else 0
    rw [if_pos (by decide : true = true)]
    by_cases c : k < 311
    · rw [if_pos c]; split <;> rfl
    · rw [if_neg c, if_neg (by omega)]
      exact gd_none (l := shTl) (d := 0) (by show shTl.length ≤ k; exact Nat.le_trans (by decide +kernel) (Nat.le_of_not_lt c))
  have e3 : shL true = (stg 311 []).2.2.1 := by
    funext k
    show (if k < 192 then shLl.getD k 0 else if true = true then shLl.getD k 0 else 0) = if k < 311 then LF k else 0
    rw [if_pos (by decide : true = true)]
    by_cases c : k < 311
    · rw [if_pos c]; split <;> rfl
    · rw [if_neg c, if_neg (by omega)]
      exact gd_none (l := shLl) (d := 0) (by show shLl.length ≤ k; exact Nat.le_trans (by decide +kernel) (Nat.le_of_not_lt c))
  show (shR true, shT true, shL true, 311) = _
  rw [e1, e2, e3]
  rfl
def rm (k c s : Nat) : Room := { frames := k, cells := c, slots := s, locals := 60 * k }
theorem HR_row {G : Gl} {σ σ' : Sg} {s : (Nat → Nat → Option Nat) × (Nat → Nat) × (Nat → Nat) × Nat} {H : Heap} (h : ∀ k, s.2.1 k ≠ 0 → σ' k = σ k) (hH : HR G (σ, s) H) : HR G (σ', s) H := by
  obtain ⟨h1, h2, h3⟩ := hH
  refine ⟨h1, h2, fun k hk => ?_⟩
  have e := h3 k hk
  rw [show ((σ', s) : Hp).1 k = ((σ, s) : Hp).1 k from h k hk]
  exact e
section RS
variable {G : Gl} {Y : MI} {R : Room} {F : Fn} {gc gs pc : Nat} {L : List (Option Value)} {S : List Value} {σ : Sg} {m m' n k j v : Nat} {U : List Nat}
theorem V_wd {gc2 gs2 : Nat} {h : Hp} (h1 : gc ≤ gc2) (h2 : gs ≤ gs2) (K : V G Y R F gc2 gs2 pc L S h) : V G Y R F gc gs pc L S h := by
  intro p e s m args below meth c C H locs ls hS hH hl
  exact W.widen h1 h2 (K p e s m args below meth c C H locs ls hS hH hl)
theorem V_wk {h h' : Hp} (hw : ∀ H, HR G h H → HR G h' H) (K : V G Y R F gc gs pc L S h') : V G Y R F gc gs pc L S h := by
  intro p e s m args below meth c C H locs ls hS hH hl
  exact K p e s m args below meth c C H locs ls hS (hw H hH) hl
theorem V_ciV {Y' : MI} {R' : Room} {idx : Nat} {h : Hp} (hd : decode Y.2.1 pc = .ok (.invokespecial idx, 3)) (w : CkM Y.1.cls idx Y' 0) (w2 : Cond.instanceMethod Y'.1 ∈ TBg) (hn : Y'.1.name = "<init>" ∧ Y'.2.2.2 = none)
    (hW : (S.map fun v => v.category).sum ≤ 8) (hR : R'.frames + 1 ≤ R.frames ∧ 8 + (Y'.2.2.1 + 11) + R'.locals ≤ R.locals) (hg : gc + R'.cells ≤ R.cells ∧ gs + R'.slots ≤ R.slots)
    (M : CM G Y' R' [.ref k] h (QV (fun h' => V G Y R F (gc + R'.cells) (gs + R'.slots) (pc + 3) L S h'))) : V G Y R F gc gs pc L (.ref k :: S) h :=
  V_calli (As := []) hd w w2 hn rfl hW hR hg M (fun v h' hq => by
    match v, hq with
    | none, hq => exact hq)
theorem S_newI {x : Int32} (m' : Nat) (hd : decode Y.2.1 pc = .ok (.newarray .int, 2)) (hx : x = nI n) (hn : n < 1000000) (hg : gc + 1 ≤ R.cells ∧ gs + n ≤ R.slots) (ht : TF m = 20) (hl : LF m = n) (hm : m' = m + 1)
    (K : V G Y R F (gc + 1) (gs + n) (pc + 2) L (.ref m :: S) (zr σ m, stg m' (m :: U))) : V G Y R F gc gs pc L (.int x :: S) (σ, stg m U) := by
  subst hm
  exact V_newI n hd hx hn hg a_I (by rw [stg_new ht hl]; exact K)
theorem S_newI0 {x : Int32} (m' : Nat) (hd : decode Y.2.1 pc = .ok (.newarray .int, 2)) (hx : x = nI n) (hn : n < 1000000) (hg : gc + 1 ≤ R.cells ∧ gs + n ≤ R.slots) (ht : TF m = 20) (hl : LF m = n) (hm : m' = m + 1) (hz : ∀ j, σ m j = 0)
    (K : V G Y R F (gc + 1) (gs + n) (pc + 2) L (.ref m :: S) (σ, stg m' (m :: U))) : V G Y R F gc gs pc L (.int x :: S) (σ, stg m U) := S_newI m' hd hx hn hg ht hl hm (by rw [zr_id hz]; exact K)
theorem S_newZ0 {x : Int32} (m' : Nat) (hd : decode Y.2.1 pc = .ok (.newarray .boolean, 2)) (hx : x = nI n) (hn : n < 1000000) (hg : gc + 1 ≤ R.cells ∧ gs + n ≤ R.slots) (ht : TF m = 21) (hl : LF m = n) (hm : m' = m + 1) (hz : ∀ j, σ m j = 0)
    (K : V G Y R F (gc + 1) (gs + n) (pc + 2) L (.ref m :: S) (σ, stg m' (m :: U))) : V G Y R F gc gs pc L (.int x :: S) (σ, stg m U) := by
  subst hm
  exact V_newZ n hd hx hn hg a_Z (by rw [stg_new ht hl, zr_id hz]; exact K)
theorem S_newQ0 {x : Int32} {idx c : Nat} {q : vw_C} (m' : Nat) (hd : decode Y.2.1 pc = .ok (.anewarray idx, 3)) (hc : c ∈ arrCs) (hq : cl_[c]? = some q) (w : Cond.classLink Y.1.cls idx q.1 ∈ TBg) (hx : x = nI n) (hn : n < 1000000) (hg : gc + 1 ≤ R.cells ∧ gs + n ≤ R.slots) (ht : TF m = c + 40) (hl : LF m = n) (hm : m' = m + 1) (hz : ∀ j, σ m j = 0)
    (K : V G Y R F (gc + 1) (gs + n) (pc + 3) L (.ref m :: S) (σ, stg m' (m :: U))) : V G Y R F gc gs pc L (.int x :: S) (σ, stg m U) := by
  subst hm
  exact V_newQ n hd hc hq w hx hn hg (by rw [stg_new ht hl, zr_id hz]; exact K)
theorem S_newC {idx c : Nat} {q : vw_C} (m' : Nat) (hd : decode Y.2.1 pc = .ok (.new idx, 3)) (hq : cl_[c]? = some q) (w1 : Cond.classLink Y.1.cls idx q.1 ∈ TBg) (w2 : Cond.instantiable q.1 q.2.2 ∈ TBg ∧ Cond.initialized q.1 ∈ TBg)
    (hz : ∀ ty : Nat → FieldType, (∀ k, k < q.2.2 → parseFieldDescriptor (q.2.1 k).2.2.1 = some (ty k)) → ∀ j, j < q.2.2 → defaultValue (ty j) = if isR c j = true then .null else .int 0) (hg : gc + 1 ≤ R.cells ∧ gs + q.2.2 ≤ R.slots) (ht : TF m = c + 1) (hl : LF m = 0) (hm : m' = m + 1)
    (K : V G Y R F (gc + 1) (gs + q.2.2) (pc + 3) L (.ref m :: S) (zr σ m, stg m' (m :: U))) : V G Y R F gc gs pc L S (σ, stg m U) := by
  subst hm
  exact V_newC hd hq w1 w2.1 w2.2 hz hg (by rw [stg_new ht hl]; exact K)
theorem S_newC0 {idx c : Nat} {q : vw_C} (m' : Nat) (hd : decode Y.2.1 pc = .ok (.new idx, 3)) (hq : cl_[c]? = some q) (w1 : Cond.classLink Y.1.cls idx q.1 ∈ TBg) (w2 : Cond.instantiable q.1 q.2.2 ∈ TBg ∧ Cond.initialized q.1 ∈ TBg)
    (hz : ∀ ty : Nat → FieldType, (∀ k, k < q.2.2 → parseFieldDescriptor (q.2.1 k).2.2.1 = some (ty k)) → ∀ j, j < q.2.2 → defaultValue (ty j) = if isR c j = true then .null else .int 0) (hg : gc + 1 ≤ R.cells ∧ gs + q.2.2 ≤ R.slots) (ht : TF m = c + 1) (hl : LF m = 0) (hm : m' = m + 1) (h0 : ∀ j, σ m j = 0)
    (K : V G Y R F (gc + 1) (gs + q.2.2) (pc + 3) L (.ref m :: S) (σ, stg m' (m :: U))) : V G Y R F gc gs pc L S (σ, stg m U) := S_newC m' hd hq w1 w2 hz hg ht hl hm (by rw [zr_id h0]; exact K)
theorem S_put {idx c : Nat} {d : String} {fin : Bool} (hd : decode Y.2.1 pc = .ok (.putfield idx, 3)) (w : CkF Y.1.cls idx c j d true fin) (hfin : fin = true → Y.1.name = "<init>" ∧ ∃ q : vw_C, cl_[c]? = some q ∧ q.1 = Y.1.cls) (hT : TF k = c + 1) (hk : k < m)
    (hty : ∃ ty, parseFieldDescriptor d = some ty ∧ ((∃ n, ty = .object n) ∨ ∃ t, ty = .array t)) (hR : RF k j = some v) (hv : v < m) (hU : v ∉ U) (K : V G Y R F gc gs (pc + 3) L S (σ, stg m U)) : V G Y R F gc gs pc L (.ref v :: .ref k :: S) (σ, stg m (v :: U)) :=
  V_putQ hd w hfin (stg_T hk hT) hty (by rw [stg_set hR hv hU]; exact K)
theorem S_putI {idx c : Nat} {x : Int32} (hd : decode Y.2.1 pc = .ok (.putfield idx, 3)) (w : CkF Y.1.cls idx c j "I" false false) (hT : TF k = c + 1) (hk : k < m) (hz : σ k j = x)
    (K : V G Y R F gc gs (pc + 3) L S (σ, stg m U)) : V G Y R F gc gs pc L (.int x :: .ref k :: S) (σ, stg m U) := P_putI hd w (stg_T hk hT) (by rw [up2_id hz]; exact K)
theorem S_putZ {idx c : Nat} {x : Int32} (hd : decode Y.2.1 pc = .ok (.putfield idx, 3)) (w : CkF Y.1.cls idx c j "Z" false false) (hT : TF k = c + 1) (hk : k < m) (hx : x = 0 ∨ x = 1) (hz : σ k j = x)
    (K : V G Y R F gc gs (pc + 3) L S (σ, stg m U)) : V G Y R F gc gs pc L (.int x :: .ref k :: S) (σ, stg m U) := P_putZ hd w (stg_T hk hT) hx (by rw [up2_id hz]; exact K)
theorem S_get {idx c : Nat} {d : String} {fin : Bool} (hd : decode Y.2.1 pc = .ok (.getfield idx, 3)) (w : CkF Y.1.cls idx c j d true fin) (hT : TF k = c + 1) (hk : k < m) (hR : RF k j = some v) (hv : v < m) (hU : v ∉ U)
    (K : V G Y R F gc gs (pc + 3) L (.ref v :: S) (σ, stg m U)) : V G Y R F gc gs pc L (.ref k :: S) (σ, stg m U) := P_getR hd w (stg_T hk hT) (stg_R hR hv hU) K
theorem S_ast {c : Nat} {x : Int32} (hd : decode Y.2.1 pc = .ok (.aastore, 1)) (hT : TF k = c + 40) (hk : k < m) (hc : c ∈ arrCs) (hx : x = nI j) (hl : LF k = n) (hj : j < n) (hn : n < 1000000) (hy : TF v = c + 1) (hR : RF k j = some v) (hv : v < m) (hU : v ∉ U)
    (K : V G Y R F gc gs (pc + 1) L S (σ, stg m U)) : V G Y R F gc gs pc L (.ref v :: .int x :: .ref k :: S) (σ, stg m (v :: U)) :=
  V_aast j hd (stg_T hk hT) hc hx ⟨by rw [show ((σ, stg m (v :: U)) : Hp).2.2.2.1 k = n from stg_L hk hl]; exact hj, by rw [show ((σ, stg m (v :: U)) : Hp).2.2.2.1 k = n from stg_L hk hl]; omega⟩ (stg_T hv hy) (by rw [stg_set hR hv hU]; exact K)
end RS
def RTb (r : Nat) : Prop := r = 4 ∨ r = 192
theorem jT0 {r : Nat} (h : RTb r) {i : Nat} (hi : i < 1) : TF (r + 0 * i) = 5 := by
  rcases h with rfl | rfl
  · exact (by decide +kernel : ∀ i, i < 1 → TF (4 + 0 * i) = 5) i hi
  · exact (by decide +kernel : ∀ i, i < 1 → TF (192 + 0 * i) = 5) i hi
theorem jL0 {r : Nat} (h : RTb r) {i : Nat} (hi : i < 1) : LF (r + 0 * i) = 0 := by
  rcases h with rfl | rfl
  · exact (by decide +kernel : ∀ i, i < 1 → LF (4 + 0 * i) = 0) i hi
  · exact (by decide +kernel : ∀ i, i < 1 → LF (192 + 0 * i) = 0) i hi
theorem jc1 {r : Nat} (h : RTb r) {i : Nat} (hi : i < 1) : TF (r + 1) = 20 ∧ LF (r + 1) = 100 ∧ RF r 8 = some (r + 1) := by
  rcases h with rfl | rfl
  · exact (by decide +kernel : ∀ i, i < 1 → TF (4 + 1) = 20 ∧ LF (4 + 1) = 100 ∧ RF 4 8 = some (4 + 1)) i hi
  · exact (by decide +kernel : ∀ i, i < 1 → TF (192 + 1) = 20 ∧ LF (192 + 1) = 100 ∧ RF 192 8 = some (192 + 1)) i hi
theorem jc2 {r : Nat} (h : RTb r) {i : Nat} (hi : i < 1) : TF (r + 2) = 21 ∧ LF (r + 2) = 100 ∧ RF r 9 = some (r + 2) := by
  rcases h with rfl | rfl
  · exact (by decide +kernel : ∀ i, i < 1 → TF (4 + 2) = 21 ∧ LF (4 + 2) = 100 ∧ RF 4 9 = some (4 + 2)) i hi
  · exact (by decide +kernel : ∀ i, i < 1 → TF (192 + 2) = 21 ∧ LF (192 + 2) = 100 ∧ RF 192 9 = some (192 + 2)) i hi
theorem jc3 {r : Nat} (h : RTb r) {i : Nat} (hi : i < 1) : TF (r + 3) = 47 ∧ LF (r + 3) = 10 ∧ RF r 10 = some (r + 3) := by
  rcases h with rfl | rfl
  · exact (by decide +kernel : ∀ i, i < 1 → TF (4 + 3) = 47 ∧ LF (4 + 3) = 10 ∧ RF 4 10 = some (4 + 3)) i hi
  · exact (by decide +kernel : ∀ i, i < 1 → TF (192 + 3) = 47 ∧ LF (192 + 3) = 10 ∧ RF 192 10 = some (192 + 3)) i hi
theorem jc4 {r : Nat} (h : RTb r) {i : Nat} (hi : i < 1) : TF (r + 4) = 43 ∧ LF (r + 4) = 11 ∧ RF r 11 = some (r + 4) := by
  rcases h with rfl | rfl
  · exact (by decide +kernel : ∀ i, i < 1 → TF (4 + 4) = 43 ∧ LF (4 + 4) = 11 ∧ RF 4 11 = some (4 + 4)) i hi
  · exact (by decide +kernel : ∀ i, i < 1 → TF (192 + 4) = 43 ∧ LF (192 + 4) = 11 ∧ RF 192 11 = some (192 + 4)) i hi
theorem jc5 {r : Nat} (h : RTb r) {i : Nat} (hi : i < 1) : TF (r + 5) = 42 ∧ LF (r + 5) = 5 ∧ RF r 12 = some (r + 5) := by
  rcases h with rfl | rfl
  · exact (by decide +kernel : ∀ i, i < 1 → TF (4 + 5) = 42 ∧ LF (4 + 5) = 5 ∧ RF 4 12 = some (4 + 5)) i hi
  · exact (by decide +kernel : ∀ i, i < 1 → TF (192 + 5) = 42 ∧ LF (192 + 5) = 5 ∧ RF 192 12 = some (192 + 5)) i hi
theorem jc6 {r : Nat} (h : RTb r) {i : Nat} (hi : i < 1) : TF (r + 6) = 41 ∧ LF (r + 6) = 12 ∧ RF r 13 = some (r + 6) := by
  rcases h with rfl | rfl
  · exact (by decide +kernel : ∀ i, i < 1 → TF (4 + 6) = 41 ∧ LF (4 + 6) = 12 ∧ RF 4 13 = some (4 + 6)) i hi
  · exact (by decide +kernel : ∀ i, i < 1 → TF (192 + 6) = 41 ∧ LF (192 + 6) = 12 ∧ RF 192 13 = some (192 + 6)) i hi
theorem jc7 {r : Nat} (h : RTb r) {i : Nat} (hi : i < 1) : TF (r + 7) = 48 ∧ LF (r + 7) = 6 ∧ RF r 14 = some (r + 7) := by
  rcases h with rfl | rfl
  · exact (by decide +kernel : ∀ i, i < 1 → TF (4 + 7) = 48 ∧ LF (4 + 7) = 6 ∧ RF 4 14 = some (4 + 7)) i hi
  · exact (by decide +kernel : ∀ i, i < 1 → TF (192 + 7) = 48 ∧ LF (192 + 7) = 6 ∧ RF 192 14 = some (192 + 7)) i hi
theorem jc8 {r : Nat} (h : RTb r) {i : Nat} (hi : i < 1) : TF (r + 8) = 45 ∧ LF (r + 8) = 8 ∧ RF r 15 = some (r + 8) := by
  rcases h with rfl | rfl
  · exact (by decide +kernel : ∀ i, i < 1 → TF (4 + 8) = 45 ∧ LF (4 + 8) = 8 ∧ RF 4 15 = some (4 + 8)) i hi
  · exact (by decide +kernel : ∀ i, i < 1 → TF (192 + 8) = 45 ∧ LF (192 + 8) = 8 ∧ RF 192 15 = some (192 + 8)) i hi
theorem jc0 {r : Nat} (h : RTb r) {i : Nat} (hi : i < 1) : TF r = 5 ∧ LF r = 0 := by
  rcases h with rfl | rfl
  · exact (by decide +kernel : ∀ i, i < 1 → TF 4 = 5 ∧ LF 4 = 0) i hi
  · exact (by decide +kernel : ∀ i, i < 1 → TF 192 = 5 ∧ LF 192 = 0) i hi
theorem jeS {r : Nat} (h : RTb r) {i : Nat} (hi : i < 10) : TF (r + 9 + 2 * i) = 8 ∧ LF (r + 9 + 2 * i) = 0 ∧ RF (r + 3) i = some (r + 9 + 2 * i) := by
  rcases h with rfl | rfl
  · exact (by decide +kernel : ∀ i, i < 10 → TF (4 + 9 + 2 * i) = 8 ∧ LF (4 + 9 + 2 * i) = 0 ∧ RF (4 + 3) i = some (4 + 9 + 2 * i)) i hi
  · exact (by decide +kernel : ∀ i, i < 10 → TF (192 + 9 + 2 * i) = 8 ∧ LF (192 + 9 + 2 * i) = 0 ∧ RF (192 + 3) i = some (192 + 9 + 2 * i)) i hi
theorem jeL {r : Nat} (h : RTb r) {i : Nat} (hi : i < 11) : TF (r + 29 + 4 * i) = 4 ∧ LF (r + 29 + 4 * i) = 0 ∧ RF (r + 4) i = some (r + 29 + 4 * i) := by
  rcases h with rfl | rfl
  · exact (by decide +kernel : ∀ i, i < 11 → TF (4 + 29 + 4 * i) = 4 ∧ LF (4 + 29 + 4 * i) = 0 ∧ RF (4 + 4) i = some (4 + 29 + 4 * i)) i hi
  · exact (by decide +kernel : ∀ i, i < 11 → TF (192 + 29 + 4 * i) = 4 ∧ LF (192 + 29 + 4 * i) = 0 ∧ RF (192 + 4) i = some (192 + 29 + 4 * i)) i hi
theorem jeB {r : Nat} (h : RTb r) {i : Nat} (hi : i < 5) : TF (r + 73 + 4 * i) = 3 ∧ LF (r + 73 + 4 * i) = 0 ∧ RF (r + 5) i = some (r + 73 + 4 * i) := by
  rcases h with rfl | rfl
  · exact (by decide +kernel : ∀ i, i < 5 → TF (4 + 73 + 4 * i) = 3 ∧ LF (4 + 73 + 4 * i) = 0 ∧ RF (4 + 5) i = some (4 + 73 + 4 * i)) i hi
  · exact (by decide +kernel : ∀ i, i < 5 → TF (192 + 73 + 4 * i) = 3 ∧ LF (192 + 73 + 4 * i) = 0 ∧ RF (192 + 5) i = some (192 + 73 + 4 * i)) i hi
theorem jeA {r : Nat} (h : RTb r) {i : Nat} (hi : i < 12) : TF (r + 93 + i) = 2 ∧ LF (r + 93 + i) = 0 ∧ RF (r + 6) i = some (r + 93 + i) := by
  rcases h with rfl | rfl
  · exact (by decide +kernel : ∀ i, i < 12 → TF (4 + 93 + i) = 2 ∧ LF (4 + 93 + i) = 0 ∧ RF (4 + 6) i = some (4 + 93 + i)) i hi
  · exact (by decide +kernel : ∀ i, i < 12 → TF (192 + 93 + i) = 2 ∧ LF (192 + 93 + i) = 0 ∧ RF (192 + 6) i = some (192 + 93 + i)) i hi
theorem jeP {r : Nat} (h : RTb r) {i : Nat} (hi : i < 6) : TF (r + 105 + i) = 9 ∧ LF (r + 105 + i) = 0 ∧ RF (r + 7) i = some (r + 105 + i) := by
  rcases h with rfl | rfl
  · exact (by decide +kernel : ∀ i, i < 6 → TF (4 + 105 + i) = 9 ∧ LF (4 + 105 + i) = 0 ∧ RF (4 + 7) i = some (4 + 105 + i)) i hi
  · exact (by decide +kernel : ∀ i, i < 6 → TF (192 + 105 + i) = 9 ∧ LF (192 + 105 + i) = 0 ∧ RF (192 + 7) i = some (192 + 105 + i)) i hi
theorem jeU {r : Nat} (h : RTb r) {i : Nat} (hi : i < 8) : TF (r + 111 + i) = 6 ∧ LF (r + 111 + i) = 0 ∧ RF (r + 8) i = some (r + 111 + i) := by
  rcases h with rfl | rfl
  · exact (by decide +kernel : ∀ i, i < 8 → TF (4 + 111 + i) = 6 ∧ LF (4 + 111 + i) = 0 ∧ RF (4 + 8) i = some (4 + 111 + i)) i hi
  · exact (by decide +kernel : ∀ i, i < 8 → TF (192 + 111 + i) = 6 ∧ LF (192 + 111 + i) = 0 ∧ RF (192 + 8) i = some (192 + 111 + i)) i hi
theorem jsS {r : Nat} (h : RTb r) {i : Nat} (hi : i < 10) : TF (r + 9 + 2 * i + 1) = 20 ∧ LF (r + 9 + 2 * i + 1) = 100 ∧ RF (r + 9 + 2 * i) 5 = some (r + 9 + 2 * i + 1) := by
  rcases h with rfl | rfl
  · exact (by decide +kernel : ∀ i, i < 10 → TF (4 + 9 + 2 * i + 1) = 20 ∧ LF (4 + 9 + 2 * i + 1) = 100 ∧ RF (4 + 9 + 2 * i) 5 = some (4 + 9 + 2 * i + 1)) i hi
  · exact (by decide +kernel : ∀ i, i < 10 → TF (192 + 9 + 2 * i + 1) = 20 ∧ LF (192 + 9 + 2 * i + 1) = 100 ∧ RF (192 + 9 + 2 * i) 5 = some (192 + 9 + 2 * i + 1)) i hi
theorem jwL {r : Nat} (h : RTb r) {i : Nat} (hi : i < 11) : TF (r + 29 + 4 * i + 1) = 11 ∧ LF (r + 29 + 4 * i + 1) = 0 ∧ RF (r + 29 + 4 * i) 1 = some (r + 29 + 4 * i + 1) := by
  rcases h with rfl | rfl
  · exact (by decide +kernel : ∀ i, i < 11 → TF (4 + 29 + 4 * i + 1) = 11 ∧ LF (4 + 29 + 4 * i + 1) = 0 ∧ RF (4 + 29 + 4 * i) 1 = some (4 + 29 + 4 * i + 1)) i hi
  · exact (by decide +kernel : ∀ i, i < 11 → TF (192 + 29 + 4 * i + 1) = 11 ∧ LF (192 + 29 + 4 * i + 1) = 0 ∧ RF (192 + 29 + 4 * i) 1 = some (192 + 29 + 4 * i + 1)) i hi
theorem jxL {r : Nat} (h : RTb r) {i : Nat} (hi : i < 11) : TF (r + 29 + 4 * i + 1 + 1) = 20 ∧ LF (r + 29 + 4 * i + 1 + 1) = 10 ∧ RF (r + 29 + 4 * i + 1) 0 = some (r + 29 + 4 * i + 1 + 1) := by
  rcases h with rfl | rfl
  · exact (by decide +kernel : ∀ i, i < 11 → TF (4 + 29 + 4 * i + 1 + 1) = 20 ∧ LF (4 + 29 + 4 * i + 1 + 1) = 10 ∧ RF (4 + 29 + 4 * i + 1) 0 = some (4 + 29 + 4 * i + 1 + 1)) i hi
  · exact (by decide +kernel : ∀ i, i < 11 → TF (192 + 29 + 4 * i + 1 + 1) = 20 ∧ LF (192 + 29 + 4 * i + 1 + 1) = 10 ∧ RF (192 + 29 + 4 * i + 1) 0 = some (192 + 29 + 4 * i + 1 + 1)) i hi
theorem jyL {r : Nat} (h : RTb r) {i : Nat} (hi : i < 11) : TF (r + 29 + 4 * i + 1 + 2) = 20 ∧ LF (r + 29 + 4 * i + 1 + 2) = 10 ∧ RF (r + 29 + 4 * i + 1) 1 = some (r + 29 + 4 * i + 1 + 2) := by
  rcases h with rfl | rfl
  · exact (by decide +kernel : ∀ i, i < 11 → TF (4 + 29 + 4 * i + 1 + 2) = 20 ∧ LF (4 + 29 + 4 * i + 1 + 2) = 10 ∧ RF (4 + 29 + 4 * i + 1) 1 = some (4 + 29 + 4 * i + 1 + 2)) i hi
  · exact (by decide +kernel : ∀ i, i < 11 → TF (192 + 29 + 4 * i + 1 + 2) = 20 ∧ LF (192 + 29 + 4 * i + 1 + 2) = 10 ∧ RF (192 + 29 + 4 * i + 1) 1 = some (192 + 29 + 4 * i + 1 + 2)) i hi
theorem jwB {r : Nat} (h : RTb r) {i : Nat} (hi : i < 5) : TF (r + 73 + 4 * i + 1) = 11 ∧ LF (r + 73 + 4 * i + 1) = 0 ∧ RF (r + 73 + 4 * i) 9 = some (r + 73 + 4 * i + 1) := by
  rcases h with rfl | rfl
  · exact (by decide +kernel : ∀ i, i < 5 → TF (4 + 73 + 4 * i + 1) = 11 ∧ LF (4 + 73 + 4 * i + 1) = 0 ∧ RF (4 + 73 + 4 * i) 9 = some (4 + 73 + 4 * i + 1)) i hi
  · exact (by decide +kernel : ∀ i, i < 5 → TF (192 + 73 + 4 * i + 1) = 11 ∧ LF (192 + 73 + 4 * i + 1) = 0 ∧ RF (192 + 73 + 4 * i) 9 = some (192 + 73 + 4 * i + 1)) i hi
theorem jxB {r : Nat} (h : RTb r) {i : Nat} (hi : i < 5) : TF (r + 73 + 4 * i + 1 + 1) = 20 ∧ LF (r + 73 + 4 * i + 1 + 1) = 10 ∧ RF (r + 73 + 4 * i + 1) 0 = some (r + 73 + 4 * i + 1 + 1) := by
  rcases h with rfl | rfl
  · exact (by decide +kernel : ∀ i, i < 5 → TF (4 + 73 + 4 * i + 1 + 1) = 20 ∧ LF (4 + 73 + 4 * i + 1 + 1) = 10 ∧ RF (4 + 73 + 4 * i + 1) 0 = some (4 + 73 + 4 * i + 1 + 1)) i hi
  · exact (by decide +kernel : ∀ i, i < 5 → TF (192 + 73 + 4 * i + 1 + 1) = 20 ∧ LF (192 + 73 + 4 * i + 1 + 1) = 10 ∧ RF (192 + 73 + 4 * i + 1) 0 = some (192 + 73 + 4 * i + 1 + 1)) i hi
theorem jyB {r : Nat} (h : RTb r) {i : Nat} (hi : i < 5) : TF (r + 73 + 4 * i + 1 + 2) = 20 ∧ LF (r + 73 + 4 * i + 1 + 2) = 10 ∧ RF (r + 73 + 4 * i + 1) 1 = some (r + 73 + 4 * i + 1 + 2) := by
  rcases h with rfl | rfl
  · exact (by decide +kernel : ∀ i, i < 5 → TF (4 + 73 + 4 * i + 1 + 2) = 20 ∧ LF (4 + 73 + 4 * i + 1 + 2) = 10 ∧ RF (4 + 73 + 4 * i + 1) 1 = some (4 + 73 + 4 * i + 1 + 2)) i hi
  · exact (by decide +kernel : ∀ i, i < 5 → TF (192 + 73 + 4 * i + 1 + 2) = 20 ∧ LF (192 + 73 + 4 * i + 1 + 2) = 10 ∧ RF (192 + 73 + 4 * i + 1) 1 = some (192 + 73 + 4 * i + 1 + 2)) i hi
