/-! ===== the words that stay, and the nest words ===== -/
def isNestW : Cond → Bool
  | .fieldLinkNest .. => true
  | .methodLinkNest .. => true
  | _ => false
def TBg : List Cond := lw_tbl.filter goodWord
def TBn : List Cond := lw_tbl.filter isNestW
theorem tb_g (i : Nat) {w : Cond} (h : lw_tbl[i]? = some w) (hg : goodWord w = true) : w ∈ TBg := List.mem_filter.mpr ⟨List.mem_of_getElem? h, hg⟩
theorem tb_n (i : Nat) {w : Cond} (h : lw_tbl[i]? = some w) (hg : isNestW w = true) : w ∈ TBn := List.mem_filter.mpr ⟨List.mem_of_getElem? h, hg⟩
theorem tb_good {w : Cond} (h : w ∈ TBg) : GoodIn TBg (w :: TBg) := by
  intro x hx
  rcases List.mem_cons.mp hx with rfl | hx
  · exact ⟨h, good_of_word (List.mem_filter.mp h).2⟩
  · exact ⟨hx, good_of_word (List.mem_filter.mp hx).2⟩
theorem lays_good {C : String} {T : u_T} {N : Nat} (h : ∀ w ∈ u_ws C T N, w ∈ lw_tbl) : ∀ w ∈ u_ws C T N, w ∈ TBg := by
  intro w hw
  refine List.mem_filter.mpr ⟨h w hw, ?_⟩
  obtain ⟨k, -, rfl⟩ := List.mem_map.mp hw
  unfold u_lay
  split <;> rfl
theorem cl_in : ∀ (c : Nat) (q : vw_C), cl_[c]? = some q → ∀ w ∈ u_ws q.1 q.2.1 q.2.2, w ∈ TBg := by
  intro c q h
  match c, h with
  | 0, h => cases h; exact lays_good inX0
  | 1, h => cases h; exact lays_good inX1
  | 2, h => cases h; exact lays_good inX2
  | 3, h => cases h; exact lays_good inX3
  | 4, h => cases h; exact lays_good inX4
  | 5, h => cases h; exact lays_good inX5
  | 6, h => cases h; exact lays_good inX6
  | 7, h => cases h; exact lays_good inX7
  | 8, h => cases h; exact lays_good inX8
  | 9, h => cases h; exact lays_good inX9
  | 10, h => cases h; exact lays_good inX10
  | 11, h => cases h; exact lays_good inX11
  | 12, h => cases h; exact lays_good inX12
  | c + 13, h => simp [cl_] at h
theorem cl_nm : ∀ (c : Nat) (q : vw_C), cl_[c]? = some q → ∀ a, a < q.2.2 → ∀ b, b < q.2.2 → a ≠ b → (q.2.1 a).2.1 ≠ (q.2.1 b).2.1 := by
  intro c q h
  match c, h with
  | 0, h => cases h; exact nmX0
  | 1, h => cases h; exact nmX1
  | 2, h => cases h; exact nmX2
  | 3, h => cases h; exact nmX3
  | 4, h => cases h; exact nmX4
  | 5, h => cases h; exact nmX5
  | 6, h => cases h; exact nmX6
  | 7, h => cases h; exact nmX7
  | 8, h => cases h; exact nmX8
  | 9, h => cases h; exact nmX9
  | 10, h => cases h; exact nmX10
  | 11, h => cases h; exact nmX11
  | 12, h => cases h; exact nmX12
  | c + 13, h => simp [cl_] at h
theorem cl_ty : ∀ (c : Nat) (q : vw_C), cl_[c]? = some q → ∃ ty : Nat → FieldType, ∀ k, k < q.2.2 → parseFieldDescriptor (q.2.1 k).2.2.1 = some (ty k) := by
  intro c q h
  match c, h with
  | 0, h => cases h; exact ⟨_, tyX0_ok⟩
  | 1, h => cases h; exact ⟨_, tyX1_ok⟩
  | 2, h => cases h; exact ⟨_, tyX2_ok⟩
  | 3, h => cases h; exact ⟨_, tyX3_ok⟩
  | 4, h => cases h; exact ⟨_, tyX4_ok⟩
  | 5, h => cases h; exact ⟨_, tyX5_ok⟩
  | 6, h => cases h; exact ⟨_, tyX6_ok⟩
  | 7, h => cases h; exact ⟨_, tyX7_ok⟩
  | 8, h => cases h; exact ⟨_, tyX8_ok⟩
  | 9, h => cases h; exact ⟨_, tyX9_ok⟩
  | 10, h => cases h; exact ⟨_, tyX10_ok⟩
  | 11, h => cases h; exact ⟨_, tyX11_ok⟩
  | 12, h => cases h; exact ⟨_, tyX12_ok⟩
  | c + 13, h => simp [cl_] at h
/-! ===== the launch's fixed data, the abstract heap, what it says of the machine's ===== -/
/-- launch; where new cells begin, the two tables' cells, the script's cell; classes, their slots, the arrays' classes; the script's length and ints -/
abbrev Gl : Type := Launch × (Nat × Nat × Nat × Nat) × (Nat → ClassId) × (Nat → Nat → Nat) × (Nat → ClassId) × Nat × (Nat → Int32)
/-- ints by cell and place; references by cell and place; kind of a cell; length of an array; the next cell -/
abbrev Hp : Type := (Nat → Nat → Int32) × (Nat → Nat → Option Nat) × (Nat → Nat) × (Nat → Nat) × Nat
def gN (G : Gl) : Nat := G.2.1.1
def AA (G : Gl) : Nat → Prop := fun q => gN G ≤ q
def ad (G : Gl) : Nat → Nat
  | 0 => G.2.1.2.1
  | 1 => G.2.1.2.2.1
  | 2 => G.2.1.2.2.2
  | k + 3 => gN G + k
def cv (G : Gl) : Value → Value
  | .ref k => .ref (ad G k)
  | v => v
def rfv (o : Option Nat) : Value := match o with
  | none => .null
  | some k => .ref k
def rv (G : Gl) (o : Option Nat) : Value := match o with
  | none => .null
  | some k => .ref (ad G k)
theorem cv_rfv (G : Gl) (o : Option Nat) : cv G (rfv o) = rv G o := by cases o <;> rfl
theorem cv_cat (G : Gl) (v : Value) : (cv G v).category = v.category := by cases v <;> rfl
theorem ad_ge (G : Gl) {k : Nat} (h : 3 ≤ k) : ad G k = gN G + (k - 3) := by
  match k, h with
  | k + 3, _ => rfl
def isR (c j : Nat) : Bool := (isRt.getD c []).contains j
def zo (x : Int32) : Prop := x = 0 ∨ x = 1
def cE (G : Gl) (t n : Nat) (f : Nat → Int32) (r : Nat → Option Nat) (a : Nat) (H : Heap) : Prop :=
  (∃ (c : Nat) (q : vw_C), t = c + 1 ∧ cl_[c]? = some q ∧ t_OB a (G.2.2.1 c) q.2.2 (G.2.2.2.1 c) H (fun j => if isR c j = true then rv G (r j) else .int (f j)) ∧ (c = 7 → zo (f 4))) ∨
  (t = 20 ∧ H[a]? = some (arrV (G.2.2.2.2.1 0) n (fun j => .int (f j)))) ∨
  (t = 21 ∧ H[a]? = some (arrV (G.2.2.2.2.1 1) n (fun j => .int (f j))) ∧ ∀ j, j < n → zo (f j)) ∨
  (∃ c : Nat, t = c + 40 ∧ H[a]? = some (arrV (G.2.2.2.2.1 (c + 2)) n (fun j => rv G (r j))))
def HR (G : Gl) (h : Hp) (H : Heap) : Prop :=
  H.size + 3 = gN G + h.2.2.2.2 ∧ 3 ≤ h.2.2.2.2 ∧ ∀ k, h.2.2.1 k ≠ 0 → 3 ≤ k ∧ k < h.2.2.2.2 ∧ cE G (h.2.2.1 k) (h.2.2.2.1 k) (h.1 k) (h.2.1 k) (ad G k) H
theorem cl_len {c : Nat} {q : vw_C} (h : cl_[c]? = some q) : c < 13 := (List.getElem?_eq_some_iff.mp h).1
theorem cE.o {G : Gl} {c n : Nat} {f : Nat → Int32} {r : Nat → Option Nat} {a : Nat} {H : Heap} (hc : c < 13) (h : cE G (c + 1) n f r a H) : ∃ q : vw_C, cl_[c]? = some q ∧ t_OB a (G.2.2.1 c) q.2.2 (G.2.2.2.1 c) H (fun j => if isR c j = true then rv G (r j) else .int (f j)) := by
  rcases h with ⟨c', q, h1, h2, h3⟩ | ⟨h1, -⟩ | ⟨h1, -⟩ | ⟨c', h1, -⟩
  · obtain rfl : c = c' := by omega
    exact ⟨q, h2, h3.1⟩
  · omega
  · omega
  · omega
theorem cE.i {G : Gl} {n : Nat} {f : Nat → Int32} {r : Nat → Option Nat} {a : Nat} {H : Heap} (h : cE G 20 n f r a H) : H[a]? = some (arrV (G.2.2.2.2.1 0) n (fun j => .int (f j))) := by
  rcases h with ⟨c', q, h1, h2, h3⟩ | ⟨h1, h⟩ | ⟨h1, -⟩ | ⟨c', h1, -⟩
  · have := cl_len h2; omega
  · exact h
  · omega
  · omega
theorem cE.z {G : Gl} {n : Nat} {f : Nat → Int32} {r : Nat → Option Nat} {a : Nat} {H : Heap} (h : cE G 21 n f r a H) : H[a]? = some (arrV (G.2.2.2.2.1 1) n (fun j => .int (f j))) := by
  rcases h with ⟨c', q, h1, h2, h3⟩ | ⟨h1, -⟩ | ⟨h1, h⟩ | ⟨c', h1, -⟩
  · have := cl_len h2; omega
  · omega
  · exact h.1
  · omega
theorem cE.r {G : Gl} {c n : Nat} {f : Nat → Int32} {r : Nat → Option Nat} {a : Nat} {H : Heap} (h : cE G (c + 40) n f r a H) : H[a]? = some (arrV (G.2.2.2.2.1 (c + 2)) n (fun j => rv G (r j))) := by
  rcases h with ⟨c', q, h1, h2, h3⟩ | ⟨h1, -⟩ | ⟨h1, -⟩ | ⟨c', h1, h⟩
  · have := cl_len h2; omega
  · omega
  · omega
  · obtain rfl : c = c' := by omega
    exact h
theorem cE.kept {G : Gl} {t n : Nat} {f : Nat → Int32} {r : Nat → Option Nat} {a : Nat} {H H1 : Heap} (h : cE G t n f r a H) (e : H1[a]? = H[a]?) : cE G t n f r a H1 := by
  rcases h with ⟨c', q, h1, h2, h3⟩ | ⟨h1, h⟩ | ⟨h1, h⟩ | ⟨c', h1, h⟩
  · exact Or.inl ⟨c', q, h1, h2, h3.1.kept e, h3.2⟩
  · exact Or.inr (Or.inl ⟨h1, e.trans h⟩)
  · exact Or.inr (Or.inr (Or.inl ⟨h1, e.trans h.1, h.2⟩))
  · exact Or.inr (Or.inr (Or.inr ⟨c', h1, e.trans h⟩))
theorem cE.zall {G : Gl} {n : Nat} {f : Nat → Int32} {r : Nat → Option Nat} {a : Nat} {H : Heap} (h : cE G 21 n f r a H) : ∀ j, j < n → zo (f j) := by
  rcases h with ⟨c', q, h1, h2, h3⟩ | ⟨h1, -⟩ | ⟨h1, h⟩ | ⟨c', h1, -⟩
  · have := cl_len h2; omega
  · omega
  · exact h.2
  · omega
theorem cE.oz {G : Gl} {c n : Nat} {f : Nat → Int32} {r : Nat → Option Nat} {a : Nat} {H : Heap} (h : cE G (c + 1) n f r a H) : c = 7 → zo (f 4) := by
  rcases h with ⟨c', q, h1, h2, h3⟩ | ⟨h1, -⟩ | ⟨h1, -⟩ | ⟨c', h1, -⟩
  · obtain rfl : c = c' := by omega
    exact h3.2
  · intro e; omega
  · intro e; omega
  · intro e; omega
/-- one cell is written, the others stay -/
theorem HR.put {G : Gl} {h h' : Hp} {H H1 : Heap} {k : Nat} (hH : HR G h H) (hk : 3 ≤ k) (hz : H1.size = H.size) (oq : ∀ q, q ≠ ad G k → H1[q]? = H[q]?)
    (h1 : h'.2.2 = h.2.2) (h2 : ∀ j, j ≠ k → h'.1 j = h.1 j ∧ h'.2.1 j = h.2.1 j) (hc : cE G (h.2.2.1 k) (h.2.2.2.1 k) (h'.1 k) (h'.2.1 k) (ad G k) H1) : HR G h' H1 := by
  obtain ⟨a1, a2, a3⟩ := hH
  refine ⟨by rw [hz, h1]; exact a1, by rw [h1]; exact a2, fun j hj => ?_⟩
  rw [h1] at hj ⊢
  obtain ⟨b1, b2, b3⟩ := a3 j hj
  refine ⟨b1, b2, ?_⟩
  by_cases hjk : j = k
  · subst hjk
    exact hc
  · rw [(h2 j hjk).1, (h2 j hjk).2]
    refine b3.kept (oq _ fun e => hjk ?_)
    rw [ad_ge G b1, ad_ge G hk] at e
    omega
/-- a cell is made -/
theorem HR.new {G : Gl} {h h' : Hp} {H H1 : Heap} (hH : HR G h H) (hz : H1.size = H.size + 1) (oq : ∀ q, q < H.size → H1[q]? = H[q]?) (hn : h'.2.2.2.2 = h.2.2.2.2 + 1)
    (h2 : ∀ j, j ≠ h.2.2.2.2 → h'.1 j = h.1 j ∧ h'.2.1 j = h.2.1 j ∧ h'.2.2.1 j = h.2.2.1 j ∧ h'.2.2.2.1 j = h.2.2.2.1 j)
    (hc : cE G (h'.2.2.1 h.2.2.2.2) (h'.2.2.2.1 h.2.2.2.2) (h'.1 h.2.2.2.2) (h'.2.1 h.2.2.2.2) H.size H1) : HR G h' H1 := by
  obtain ⟨a1, a2, a3⟩ := hH
  refine ⟨by omega, by omega, fun j hj => ?_⟩
  by_cases hjk : j = h.2.2.2.2
  · subst hjk
    refine ⟨a2, by omega, ?_⟩
    rw [show ad G h.2.2.2.2 = H.size by rw [ad_ge G a2]; omega]
    exact hc
  · obtain ⟨c1, c2, c3, c4⟩ := h2 j hjk
    rw [c3] at hj
    rw [c1, c2, c3, c4]
    obtain ⟨b1, b2, b3⟩ := a3 j hj
    refine ⟨b1, by omega, b3.kept (oq _ ?_)⟩
    rw [ad_ge G b1]
    omega
theorem HR.zall {G : Gl} {h : Hp} {H : Heap} (hH : HR G h H) {k j : Nat} (hT : h.2.2.1 k = 21) (hj : j < h.2.2.2.1 k) : zo (h.1 k j) := by
  have k3 := (hH.2.2 k (by rw [hT]; decide)).2.2
  rw [hT] at k3
  exact k3.zall j hj
theorem HR.z7 {G : Gl} {h : Hp} {H : Heap} (hH : HR G h H) {k : Nat} (hT : h.2.2.1 k = 8) : zo (h.1 k 4) := by
  have k3 := (hH.2.2 k (by rw [hT]; decide)).2.2
  rw [hT] at k3
  exact cE.oz (c := 7) k3 rfl
theorem HR.nx {G : Gl} {h : Hp} {H : Heap} (hH : HR G h H) : H.size = ad G h.2.2.2.2 := by
  rw [ad_ge G hH.2.1]
  have := hH.1
  have := hH.2.1
  omega
/-! ===== what is known of the classes, of the statics, of the script ===== -/
def arrCs : List Nat := [1, 2, 3, 5, 6, 7, 8]
def KK (G : Gl) (U : State) : Prop :=
  (∀ (c : Nat) (q : vw_C), cl_[c]? = some q → u_Kn U q.1 q.2.1 q.2.2 (G.2.2.1 c) (G.2.2.2.1 c)) ∧ (ArrOfT U (G.2.2.2.2.1 0) .int ∧ va_RA U (G.2.2.2.2.1 0) .int) ∧ (ArrOfT U (G.2.2.2.2.1 1) .boolean ∧ va_RA U (G.2.2.2.2.1 1) .boolean) ∧
  (∀ c ∈ arrCs, ∀ q : vw_C, cl_[c]? = some q → ArrOfT U (G.2.2.2.2.1 (c + 2)) (.object q.1) ∧ va_RA U (G.2.2.2.2.1 (c + 2)) (.object q.1) ∧ va_AO q.1 U) ∧ ∀ w ∈ TBn, va_Nw w U
theorem nw_warm {w : Cond} (hw : w ∈ TBn) {s U : State} (hW : s.WarmedH U.vm) (h : va_Nw w s) : va_Nw w U := by
  have hn := (List.mem_filter.mp hw).2
  cases w <;> first | (cases hn; done) | exact va_Nw.warmF hW h | exact va_Nw.warmM hW h
theorem nw_vm {w : Cond} (hw : w ∈ TBn) {s U : State} (hv : s.vm = U.vm) (h : va_Nw w s) : va_Nw w U := by
  have hn := (List.mem_filter.mp hw).2
  cases w <;> first | (cases hn; done) | exact va_Nw.same rfl hv h
theorem KK.warm {G : Gl} {s U : State} (hW : s.WarmedH U.vm) (h : KK G s) : KK G U := by
  obtain ⟨h1, h2, h3, h4, h5⟩ := h
  have A := hW.alike
  exact ⟨fun c q hq => u_Kn_moved A (h1 c q hq), ⟨arrOfT_moved A h2.1, h2.2.moved A⟩, ⟨arrOfT_moved A h3.1, h3.2.moved A⟩, fun c hc q hq => ⟨arrOfT_moved A (h4 c hc q hq).1, (h4 c hc q hq).2.1.moved A, (h4 c hc q hq).2.2.moved A⟩, fun w hw => nw_warm hw hW (h5 w hw)⟩
theorem KK.vm {G : Gl} {s U : State} (hv : s.vm = U.vm) (h : KK G s) : KK G U := by
  obtain ⟨h1, h2, h3, h4, h5⟩ := h
  have A : s.vm.Alike U.vm := by rw [hv]; exact Vm.Alike.refl _
  exact ⟨fun c q hq => u_Kn_moved A (h1 c q hq), ⟨arrOfT_moved A h2.1, h2.2.moved A⟩, ⟨arrOfT_moved A h3.1, h3.2.moved A⟩, fun c hc q hq => ⟨arrOfT_moved A (h4 c hc q hq).1, (h4 c hc q hq).2.1.moved A, (h4 c hc q hq).2.2.moved A⟩, fun w hw => nw_vm hw hv (h5 w hw)⟩
def kaT : List Int32 := [-1, 0, 0, 1, 0, 0]
def boT : List Int32 := [10, 11, 12, 13, 20, 0, 0, 21, 0, 30, 0, 0, 41, 0, 40, 0, 0, 50, 51, 0, 0, 0, 0, 60]
def SF (G : Gl) (U : State) (H : Heap) : Prop :=
  va_Z "RiverSteamers" "KIND_ABOVE" "[I" (.ref (ad G 0)) (AA G) U H ∧ va_Z "RiverSteamers$Acts" "BODIES" "[I" (.ref (ad G 1)) (AA G) U H ∧
  va_T .int (ad G 0) 6 (fun j => .int (kaT.getD j 0)) (AA G) U H ∧ va_T .int (ad G 1) 24 (fun j => .int (boT.getD j 0)) (AA G) U H ∧
  va_X (ad G 2) G.2.2.2.2.2.1 G.2.2.2.2.2.2 U H ∧ ad G 2 < gN G
theorem SF.moved {G : Gl} {s U : State} {H : Heap} (hA : s.vm.Alike U.vm) (h : SF G s H) : SF G U H := by
  obtain ⟨h1, h2, h3, h4, h5, h6⟩ := h
  exact ⟨h1.moved hA, h2.moved hA, h3.moved hA, h4.moved hA, h5.moved hA, h6⟩
theorem SF.kept {G : Gl} {U : State} {H H1 : Heap} (h : SF G U H) (hN : gN G ≤ H.size) (hq : ∀ a : Nat, a < H.size → ¬ AA G a → H1[a]? = H[a]?) : SF G U H1 := by
  obtain ⟨h1, h2, h3, h4, h5, h6⟩ := h
  exact ⟨h1.kept hq, h2.kept hq, h3.kept hq, h4.kept hq, h5.kept (hq _ (Nat.lt_of_lt_of_le h6 hN) (Nat.not_le.mpr h6)), h6⟩
