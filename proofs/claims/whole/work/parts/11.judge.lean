/-! ===== the judgement V: from this place of this method, with these locals, this stack, this heap, the method comes to its end ===== -/
def Cx (G : Gl) (Y : MI) (p : Program) (s : State) (m : MethodId) (args : Array Value) (meth : Method) (c : Code) : Prop :=
  p.tables.exec = Jvm.exec ∧ c.code = Y.2.1 ∧ c.maxLocals = Y.2.2.1 ∧ meth.sig.returnType = Y.2.2.2 ∧ meth.locks = false ∧ meth.name = Y.1.name ∧ s.vm.findClass Y.1.cls = some m.cls ∧
  (∀ w ∈ TBg, w.before args s = true) ∧ KK G s ∧ SF G s s.heap ∧ gN G ≤ s.heap.size
def pr (G : Gl) : List (Option Value) → Nat → List (Nat × Value)
  | [], _ => []
  | none :: l, i => pr G l (i + 1)
  | some v :: l, i => if v.category = 1 then (i, cv G v) :: pr G l (i + 1) else pr G l (i + 1)
theorem pr_mem {G : Gl} : ∀ {L : List (Option Value)} {i : Nat} {q : Nat × Value}, q ∈ pr G L i ↔ ∃ k v, L[k]? = some (some v) ∧ q.1 = i + k ∧ v.category = 1 ∧ q.2 = cv G v
  | [], i, q => by simp [pr]
  | none :: l, i, q => by
    rw [pr, pr_mem]
    constructor
    · rintro ⟨k, v, h1, h2, h3⟩
      exact ⟨k + 1, v, by simpa using h1, by omega, h3⟩
    · rintro ⟨k, v, h1, h2, h3⟩
      match k, h1, h2 with
      | 0, h1, h2 => simp at h1
      | k + 1, h1, h2 => exact ⟨k, v, by simpa using h1, by omega, h3⟩
  | some w :: l, i, q => by
    rw [pr]
    by_cases hw : w.category = 1
    · rw [if_pos hw, List.mem_cons, pr_mem]
      constructor
      · rintro (rfl | ⟨k, v, h1, h2, h3⟩)
        · exact ⟨0, w, rfl, rfl, hw, rfl⟩
        · exact ⟨k + 1, v, by simpa using h1, by omega, h3⟩
      · rintro ⟨k, v, h1, h2, h3, h4⟩
        match k, h1, h2 with
        | 0, h1, h2 =>
          left
          simp at h1
          subst h1
          exact Prod.ext h2 h4
        | k + 1, h1, h2 => exact Or.inr ⟨k, v, by simpa using h1, by omega, h3, h4⟩
    · rw [if_neg hw, pr_mem]
      constructor
      · rintro ⟨k, v, h1, h2, h3⟩
        exact ⟨k + 1, v, by simpa using h1, by omega, h3⟩
      · rintro ⟨k, v, h1, h2, h3, h4⟩
        match k, h1, h2 with
        | 0, h1, h2 =>
          simp at h1
          subst h1
          exact absurd h3 hw
        | k + 1, h1, h2 => exact ⟨k, v, by simpa using h1, by omega, h3, h4⟩
theorem pr_at {G : Gl} {ls : Array Slot} {n : Nat} {L : List (Option Value)} {i : Nat} {v : Value} (h : lv_has ls n (pr G L 0)) (hl : L[i]? = some (some v)) (hc : v.category = 1) : ls[i]? = some (.val (cv G v)) :=
  h.2.2 (i, cv G v) (pr_mem.mpr ⟨i, v, hl, by simp, hc, rfl⟩)
theorem pr_set {G : Gl} {ls : Array Slot} {n : Nat} {L : List (Option Value)} {i : Nat} {v : Value} {w : Value} (hw : w = cv G v)
    (h : lv_has ls n ((i, w) :: (pr G L 0).filter (fun q => !(q.1 == i) && !(q.1 + 1 == i && q.2.category == 2)))) : lv_has ls n (pr G (L.set i (some v)) 0) := by
  refine ⟨h.1, h.2.1, fun q hq => h.2.2 q ?_⟩
  obtain ⟨k, u, h1, h2, h3, h4⟩ := pr_mem.mp hq
  rw [Nat.zero_add] at h2
  by_cases hk : k = i
  · subst hk
    have hlt : k < L.length := by
      have := (List.getElem?_eq_some_iff.mp h1).1
      simpa using this
    rw [List.getElem?_set_self hlt] at h1
    cases h1
    exact List.mem_cons.mpr (Or.inl (Prod.ext h2 (h4.trans hw.symm)))
  · rw [List.getElem?_set_ne (Ne.symm hk)] at h1
    refine List.mem_cons.mpr (Or.inr (List.mem_filter.mpr ⟨pr_mem.mpr ⟨k, u, h1, by simpa using h2, h3, h4⟩, ?_⟩))
    have e1 : (q.1 == i) = false := by rw [h2]; simpa using hk
    have e2 : (q.2.category == 2) = false := by rw [h4, cv_cat, h3]; rfl
    simp [e1, e2]
abbrev Fn : Type := State → List Frame → Array Value → State → Prop
def V (G : Gl) (Y : MI) (R : Room) (F : Fn) (gc gs pc : Nat) (L : List (Option Value)) (S : List Value) (h : Hp) : Prop :=
  ∀ (p : Program) (e : Env) (s : State) (m : MethodId) (args : Array Value) (below : List Frame) (meth : Method) (c : Code), Cx G Y p s m args meth c →
    ∀ (H : Heap) (locs : List Loc) (ls : Array Slot), va_S (AA G) s.heap H locs → HR G h H → lv_has ls Y.2.2.1 (pr G L 0) →
      W p G.1 e R s m args below meth c H locs gc gs (F s below args) (F0 m pc ls (S.map (cv G)))
def Qc (G : Gl) (Q : Option Value → Hp → Prop) : Array Value → State → Outcome → State → Prop := fun _ st o t =>
  (∃ (v : Option Value) (h' : Hp), o = .returned (v.map (cv G)) ∧ Q v h' ∧ HR G h' t.heap) ∧ va_F (AA G) st t
def FM (G : Gl) (R : Room) (Q : Option Value → Hp → Prop) : Fn := fun s below args => MQ below (Qc G Q) args s R.cells R.slots (AA G)
def Pc (G : Gl) (as : List Value) (h : Hp) : Array Value → State → Prop := fun v U => v = (as.map (cv G)).toArray ∧ HR G h U.heap ∧ KK G U ∧ SF G U U.heap ∧ gN G ≤ U.heap.size
def wsy (Y : MI) : List Cond := .code Y.1 Y.2.1 Y.2.2.1 Y.2.2.2 :: TBg
/-- the contract: called with these arguments over this heap, the method returns an answer and a heap with Q -/
def CM (G : Gl) (Y : MI) (R : Room) (as : List Value) (h : Hp) (Q : Option Value → Hp → Prop) : Prop := Met G.1 Y.1 (wsy Y) R (Pc G as h) (Qc G Q) R.cells R.slots (AA G)
def enL (as : List Value) (n : Nat) : List (Option Value) := as.map some ++ List.replicate (n - as.length) none
theorem en_args {G : Gl} : ∀ (as : List Value) (i : Nat), (∀ v ∈ as, v.category = 1) → ∀ (m : Nat), pr G (as.map some ++ List.replicate m none) i = lv_args i (as.map (cv G))
  | [], i, _, m => by
    show pr G (List.replicate m none) i = []
    induction m generalizing i with
    | zero => rfl
    | succ m ih => exact ih (i + 1)
  | v :: as, i, h, m => by
    have hv := h v List.mem_cons_self
    show pr G (some v :: (as.map some ++ List.replicate m none)) i = (i, cv G v) :: lv_args (if (cv G v).category = 2 then i + 2 else i + 1) (as.map (cv G))
    rw [pr, if_pos hv, cv_cat, hv, if_neg (by decide), en_args as (i + 1) (fun w hw => h w (List.mem_cons_of_mem _ hw)) m]
theorem sl_len {G : Gl} : ∀ (as : List Value), (∀ v ∈ as, v.category = 1) → (lg_sl (as.map (cv G))).length = as.length
  | [], _ => rfl
  | v :: as, h => by
    have hv := h v List.mem_cons_self
    have ih := sl_len (G := G) as (fun w hw => h w (List.mem_cons_of_mem _ hw))
    show (lg_sl (cv G v :: as.map (cv G))).length = as.length + 1
    rw [← ih]
    simp [lg_sl, cv_cat, hv]
theorem CM.of {G : Gl} {Y : MI} {R : Room} {as : List Value} {h : Hp} {Q : Option Value → Hp → Prop} (hp : plainName Y.1.cls = true) (hn : as.length ≤ Y.2.2.1) (hc : ∀ v ∈ as, v.category = 1)
    (hV : V G Y R (FM G R Q) 0 0 0 (enL as Y.2.2.1) [] h) : CM G Y R as h Q := by
  refine Met.ofW (cc := Y.2.1) (maxL := Y.2.2.1) (ret := Y.2.2.2) hp rfl ?_
  intro p e s m args below meth c s₁ B hml hv
  obtain ⟨rfl, hH, hK, hS, hN⟩ := hv
  have hts := atoms_spec (ws := wsy Y) B.pre
  rw [lg_entry_eq]
  have hl := lv_entry (as.map (cv G)) (n := Y.2.2.1) (by rw [sl_len as hc]; exact hn)
  rw [← en_args as 0 hc (Y.2.2.1 - as.length)] at hl
  exact hV p e s m _ below meth c ⟨B.exec, B.bytes, hml, B.returns, B.notSynchronized, (name_of_methodNamed B.named B.method).1, findClass_of_methodNamed B.named, fun w hw => hts w (List.mem_cons_of_mem _ hw), hK, hS, hN⟩ s.heap [] _ va_S.rf hH hl
theorem Pc.blind {G : Gl} {as : List Value} {h : Hp} : FrameBlind (Pc G as h) := by
  intro a U g mk q
  obtain ⟨q1, q2, q3, q4, q5⟩ := q
  exact ⟨q1, q2, KK.vm (s := U) rfl q3, q4.moved (Vm.Alike.refl U.vm), q5⟩
