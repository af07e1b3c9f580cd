/-! THE CLAIM OUT OF ONE WALK OF THE LAW'S BODY. Your part is whole_start (and what it stands on); all else here is the same for every law, but numbers. -/
def R_law : String := "RiverSteamersLaw"
def lw_P (b : Addr) (xs : List Int32) (args : Array Value) (s : State) : Prop := args = #[.ref b] ∧ s.IntsAt b xs ∧ xs.length ≤ 3072 ∧ (Jvm.Cond.and given_1 narrow_1).before args s = true
def lw_Q (_ : Array Value) (s : State) (o : Outcome) (t : State) : Prop := o = .returned (some (.int 1)) ∧ Framed s o t [] 600000 7302250
def lw_Z (below : List Frame) (a : Array Value) (s : State) : State → Prop := fun t => ∃ o, t.status = .running ∧ Ended t below o ∧ lw_Q a s o t
/-- the law's own end, with 1 on the stack, nothing written that was there before, its room as the claim has it -/
theorem lw_ret {p : Program} {l : Launch} {e : Env} {s : State} {m : MethodId} {below : List Frame} {meth : Method} {c : Code} {b : Nat} (hx : p.tables.exec = Jvm.exec) (hb : c.code = code) (hr : meth.sig.returnType = ret) (hlocks : meth.locks = false) {pc : Nat} {H : Heap} {ls : Array Slot} (hdg : decode code pc = .ok (.ireturn, 1)) : W p l e room_1 s m #[Value.ref b] below meth c H [] 600000 7302250 (lw_Z below #[Value.ref b] s) (F0 m pc ls [.int 1]) := by
  intro T hT X
  obtain ⟨fs, hret, hrun, hended, hW, hframe⟩ := X.leave (v := some (.int 1)) (hlocks := hlocks) (fun h => by rw [hr] at h; cases h)
  have hmeth' : T.vm.method? m = some meth := X.method'
  refine ⟨T.setFrames fs, ?_, .returned (some (.int 1)), hrun, hended, rfl, ⟨_, rfl⟩, hW, hframe⟩
  jvm_step X.here [X.here.top, hx, hb, hdg, hmeth', hr, ret, narrow_b1]
  (try refine ⟨rfl, ?_⟩); (try refine ⟨rfl, ?_⟩)
  first | (intro acts; rw [hret _ acts rfl rfl rfl]) | rw [hret _ _ rfl rfl rfl]
  exact Steps.refl _
/-- what holds at the law's entry: the machine, the code, the tables' words (any of lw_tbl by 'hts w (by decide +kernel)'), the script of L ints xs at the cell b, what the Statement gives of the start (any of its parts by flat_of_before) -/
def lw_At (p : Program) (s : State) (m : MethodId) (meth : Method) (c : Code) (b L : Nat) (xs : Nat → Int32) : Prop :=
  p.tables.exec = Jvm.exec ∧ c.code = code ∧ meth.sig.returnType = ret ∧ c.maxLocals = 4 ∧ s.vm.findClass R_law = some m.cls ∧ (∀ w ∈ lw_tbl, w.before #[Value.ref b] s = true) ∧ va_X b L xs s s.heap ∧ b < s.heap.size ∧ meth.locks = false ∧ (Jvm.Cond.and given_1 narrow_1).before #[Value.ref b] s = true
/-! ===== what the start gives: the classes, the arrays' classes, the tables ===== -/
theorem cl_inst : ∀ (c : Nat) (q : vw_C), cl_[c]? = some q → Cond.instantiable q.1 q.2.2 ∈ TBg := by
  intro c q h
  match c, h with
  | 0, h => cases h; exact n_X0.1
  | 1, h => cases h; exact n_X1.1
  | 2, h => cases h; exact n_X2.1
  | 3, h => cases h; exact n_X3.1
  | 4, h => cases h; exact n_X4.1
  | 5, h => cases h; exact n_X5.1
  | 6, h => cases h; exact n_X6.1
  | 7, h => cases h; exact n_X7.1
  | 8, h => cases h; exact n_X8.1
  | 9, h => cases h; exact n_X9.1
  | 10, h => cases h; exact n_X10.1
  | 11, h => cases h; exact n_X11.1
  | 12, h => cases h; exact n_X12.1
  | c + 13, h => simp [cl_] at h
section LS
variable {s : State} {args : Array Value}
theorem ex_D (hts : ∀ w ∈ TBg, w.before args s = true) : ∃ (dC : Nat → ClassId) (dI : Nat → Nat → Nat), ∀ (c : Nat) (q : vw_C), cl_[c]? = some q → u_Kn s q.1 q.2.1 q.2.2 (dC c) (dI c) := by
  have h : ∀ c : Nat, ∃ d : ClassId × (Nat → Nat), ∀ q : vw_C, cl_[c]? = some q → u_Kn s q.1 q.2.1 q.2.2 d.1 d.2 := fun c => by
    cases hq : cl_[c]? with
    | none => exact ⟨((0 : Nat), fun _ => 0), fun q h => by cases h⟩
    | some q =>
      obtain ⟨cC, iS, h⟩ := u_known hts (cl_in c q hq) (hts _ (cl_inst c q hq))
      exact ⟨(cC, iS), fun q' h' => by cases h'; exact h⟩
  exact ⟨fun c => (Classical.choose (h c)).1, fun c => (Classical.choose (h c)).2, fun c q hq => Classical.choose_spec (h c) q hq⟩
theorem ar_at {c : ClassId} {k : Class} {comp : ClassId} {t : FieldType} (h1 : s.vm.classes[c]? = some k) (h2 : k.kind = .array comp t) : ArrOfT s c t := by
  intro n z
  exact ⟨fun k h => (by cases h), k, h1, comp, h2⟩
theorem ex_o {C : String} (h : (Cond.arrayOver (.object C)).before args s = true) : ∃ d : ClassId, ArrOfT s d (.object C) ∧ va_RA s d (.object C) ∧ va_AO C s := by
  obtain ⟨comp, c, k, h1, h2, h3, h4, h5⟩ := Cond.arrayOver_spec h
  exact ⟨c, ar_at h3 h4, ⟨k, comp, h3, h4, h1, h5⟩, va_AO.of h⟩
theorem ao_w : ∀ c ∈ arrCs, ∀ q : vw_C, cl_[c]? = some q → Cond.arrayOver (.object q.1) ∈ lw_tbl := by
  intro c hc q hq
  match c, hc, hq with
  | 0, hc, _ => exact absurd hc (by decide)
  | 1, _, hq => cases hq; exact List.mem_of_getElem? (i := 148) (by decide +kernel)
  | 2, _, hq => cases hq; exact List.mem_of_getElem? (i := 146) (by decide +kernel)
  | 3, _, hq => cases hq; exact List.mem_of_getElem? (i := 144) (by decide +kernel)
  | 4, hc, _ => exact absurd hc (by decide)
  | 5, _, hq => cases hq; exact List.mem_of_getElem? (i := 152) (by decide +kernel)
  | 6, _, hq => cases hq; exact List.mem_of_getElem? (i := 409) (by decide +kernel)
  | 7, _, hq => cases hq; exact List.mem_of_getElem? (i := 142) (by decide +kernel)
  | 8, _, hq => cases hq; exact List.mem_of_getElem? (i := 150) (by decide +kernel)
  | 9, hc, _ => exact absurd hc (by decide)
  | 10, hc, _ => exact absurd hc (by decide)
  | 11, hc, _ => exact absurd hc (by decide)
  | 12, hc, _ => exact absurd hc (by decide)
  | c + 13, _, hq => simp [cl_] at hq
theorem ex_A (hts : ∀ w ∈ lw_tbl, w.before args s = true) : ∃ dA : Nat → ClassId, (ArrOfT s (dA 0) .int ∧ va_RA s (dA 0) .int) ∧ (ArrOfT s (dA 1) .boolean ∧ va_RA s (dA 1) .boolean) ∧ ∀ c ∈ arrCs, ∀ q : vw_C, cl_[c]? = some q → ArrOfT s (dA (c + 2)) (.object q.1) ∧ va_RA s (dA (c + 2)) (.object q.1) ∧ va_AO q.1 s := by
  obtain ⟨cI, kI, pI, i1, i2, i3⟩ := Cond.arrayClass_spec (hts _ (List.mem_filter.mp a_I).1)
  obtain ⟨cZ, kZ, pZ, z1, z2, z3⟩ := Cond.arrayClass_spec (hts _ (List.mem_filter.mp a_Z).1)
  have h : ∀ c : Nat, ∃ d : ClassId, c ∈ arrCs → ∀ q : vw_C, cl_[c]? = some q → ArrOfT s d (.object q.1) ∧ va_RA s d (.object q.1) ∧ va_AO q.1 s := fun c => by
    by_cases hc : c ∈ arrCs
    · cases hq : cl_[c]? with
      | none => exact ⟨(0 : Nat), fun _ q h => by cases h⟩
      | some q =>
        obtain ⟨d, h⟩ := ex_o (hts _ (ao_w c hc q hq))
        exact ⟨d, fun _ q' h' => by cases h'; exact h⟩
    · exact ⟨(0 : Nat), fun h => absurd h hc⟩
  refine ⟨fun i => match i with | 0 => cI | 1 => cZ | c + 2 => Classical.choose (h c), ⟨ar_at i2 i3, i1⟩, ⟨ar_at z2 z3, z1⟩, fun c hc q hq => Classical.choose_spec (h c) hc q hq⟩
theorem ex_N (hts : ∀ w ∈ lw_tbl, w.before args s = true) : ∀ w ∈ TBn, va_Nw w s := by
  intro w hw
  have h1 := List.mem_filter.mp hw
  have h2 := hts w h1.1
  have h3 := h1.2
  cases w <;> first | (cases h3; done) | exact va_Nw.of rfl h2
theorem el_ka (hgv : (Jvm.Cond.and given_1 narrow_1).before args s = true) : ∀ j : Nat, j < 6 → (Term.elem (.static "RiverSteamers" "KIND_ABOVE" "[I") (.int (Int32.ofNat j))).eval args s none [] s = some (.int (kaT.getD j 0)) := by
  have hs := flat_of_before _ hgv
  intro j hj
  rcases Nat.lt_or_eq_of_le (Nat.le_of_lt_succ hj) with hj | e
  rotate_left
  · subst e; exact va_eqt (hs (.eq (.elem (.static "RiverSteamers" "KIND_ABOVE" "[I") (.int 5)) (.int 0)) (by decide +kernel))
  rcases Nat.lt_or_eq_of_le (Nat.le_of_lt_succ hj) with hj | e
  rotate_left
  · subst e; exact va_eqt (hs (.eq (.elem (.static "RiverSteamers" "KIND_ABOVE" "[I") (.int 4)) (.int 0)) (by decide +kernel))
  rcases Nat.lt_or_eq_of_le (Nat.le_of_lt_succ hj) with hj | e
  rotate_left
  · subst e; exact va_eqt (hs (.eq (.elem (.static "RiverSteamers" "KIND_ABOVE" "[I") (.int 3)) (.int 1)) (by decide +kernel))
  rcases Nat.lt_or_eq_of_le (Nat.le_of_lt_succ hj) with hj | e
  rotate_left
  · subst e; exact va_eqt (hs (.eq (.elem (.static "RiverSteamers" "KIND_ABOVE" "[I") (.int 2)) (.int 0)) (by decide +kernel))
  rcases Nat.lt_or_eq_of_le (Nat.le_of_lt_succ hj) with hj | e
  rotate_left
  · subst e; exact va_eqt (hs (.eq (.elem (.static "RiverSteamers" "KIND_ABOVE" "[I") (.int 1)) (.int 0)) (by decide +kernel))
  rcases Nat.lt_or_eq_of_le (Nat.le_of_lt_succ hj) with hj | e
  rotate_left
  · subst e; exact va_eqt (hs (.eq (.elem (.static "RiverSteamers" "KIND_ABOVE" "[I") (.int 0)) (.int (-1))) (by decide +kernel))
  exact absurd hj (Nat.not_lt_zero _)
theorem ta_ka {A : Nat → Prop} (hgv : (Jvm.Cond.and given_1 narrow_1).before args s = true) (hA : ∀ a : Nat, a < s.heap.size → ¬ A a) : ∃ t : Nat, (Term.static "RiverSteamers" "KIND_ABOVE" "[I").eval args s none [] s = some (.ref t) ∧ va_T .int t 6 (fun j => .int (kaT.getD j 0)) A s s.heap := by
  have hs := flat_of_before _ hgv
  exact va_Tof (by decide) (hs (.arrayOf (.static "RiverSteamers" "KIND_ABOVE" "[I") .int) (by decide +kernel)) (va_eqt (hs (.eq (.length (.static "RiverSteamers" "KIND_ABOVE" "[I")) (.int 6)) (by decide +kernel))) (el_ka hgv) hA
theorem el_bo (hgv : (Jvm.Cond.and given_1 narrow_1).before args s = true) : ∀ j : Nat, j < 24 → (Term.elem (.static "RiverSteamers$Acts" "BODIES" "[I") (.int (Int32.ofNat j))).eval args s none [] s = some (.int (boT.getD j 0)) := by
  have hs := flat_of_before _ hgv
  intro j hj
  rcases Nat.lt_or_eq_of_le (Nat.le_of_lt_succ hj) with hj | e
  rotate_left
  · subst e; exact va_eqt (hs (.eq (.elem (.static "RiverSteamers$Acts" "BODIES" "[I") (.int 23)) (.int 60)) (by decide +kernel))
  rcases Nat.lt_or_eq_of_le (Nat.le_of_lt_succ hj) with hj | e
  rotate_left
  · subst e; exact va_eqt (hs (.eq (.elem (.static "RiverSteamers$Acts" "BODIES" "[I") (.int 22)) (.int 0)) (by decide +kernel))
  rcases Nat.lt_or_eq_of_le (Nat.le_of_lt_succ hj) with hj | e
  rotate_left
  · subst e; exact va_eqt (hs (.eq (.elem (.static "RiverSteamers$Acts" "BODIES" "[I") (.int 21)) (.int 0)) (by decide +kernel))
  rcases Nat.lt_or_eq_of_le (Nat.le_of_lt_succ hj) with hj | e
  rotate_left
  · subst e; exact va_eqt (hs (.eq (.elem (.static "RiverSteamers$Acts" "BODIES" "[I") (.int 20)) (.int 0)) (by decide +kernel))
  rcases Nat.lt_or_eq_of_le (Nat.le_of_lt_succ hj) with hj | e
  rotate_left
  · subst e; exact va_eqt (hs (.eq (.elem (.static "RiverSteamers$Acts" "BODIES" "[I") (.int 19)) (.int 0)) (by decide +kernel))
  rcases Nat.lt_or_eq_of_le (Nat.le_of_lt_succ hj) with hj | e
  rotate_left
  · subst e; exact va_eqt (hs (.eq (.elem (.static "RiverSteamers$Acts" "BODIES" "[I") (.int 18)) (.int 51)) (by decide +kernel))
  rcases Nat.lt_or_eq_of_le (Nat.le_of_lt_succ hj) with hj | e
  rotate_left
  · subst e; exact va_eqt (hs (.eq (.elem (.static "RiverSteamers$Acts" "BODIES" "[I") (.int 17)) (.int 50)) (by decide +kernel))
  rcases Nat.lt_or_eq_of_le (Nat.le_of_lt_succ hj) with hj | e
  rotate_left
  · subst e; exact va_eqt (hs (.eq (.elem (.static "RiverSteamers$Acts" "BODIES" "[I") (.int 16)) (.int 0)) (by decide +kernel))
  rcases Nat.lt_or_eq_of_le (Nat.le_of_lt_succ hj) with hj | e
  rotate_left
  · subst e; exact va_eqt (hs (.eq (.elem (.static "RiverSteamers$Acts" "BODIES" "[I") (.int 15)) (.int 0)) (by decide +kernel))
  rcases Nat.lt_or_eq_of_le (Nat.le_of_lt_succ hj) with hj | e
  rotate_left
  · subst e; exact va_eqt (hs (.eq (.elem (.static "RiverSteamers$Acts" "BODIES" "[I") (.int 14)) (.int 40)) (by decide +kernel))
  rcases Nat.lt_or_eq_of_le (Nat.le_of_lt_succ hj) with hj | e
  rotate_left
  · subst e; exact va_eqt (hs (.eq (.elem (.static "RiverSteamers$Acts" "BODIES" "[I") (.int 13)) (.int 0)) (by decide +kernel))
  rcases Nat.lt_or_eq_of_le (Nat.le_of_lt_succ hj) with hj | e
  rotate_left
  · subst e; exact va_eqt (hs (.eq (.elem (.static "RiverSteamers$Acts" "BODIES" "[I") (.int 12)) (.int 41)) (by decide +kernel))
  rcases Nat.lt_or_eq_of_le (Nat.le_of_lt_succ hj) with hj | e
  rotate_left
  · subst e; exact va_eqt (hs (.eq (.elem (.static "RiverSteamers$Acts" "BODIES" "[I") (.int 11)) (.int 0)) (by decide +kernel))
  rcases Nat.lt_or_eq_of_le (Nat.le_of_lt_succ hj) with hj | e
  rotate_left
  · subst e; exact va_eqt (hs (.eq (.elem (.static "RiverSteamers$Acts" "BODIES" "[I") (.int 10)) (.int 0)) (by decide +kernel))
  rcases Nat.lt_or_eq_of_le (Nat.le_of_lt_succ hj) with hj | e
  rotate_left
  · subst e; exact va_eqt (hs (.eq (.elem (.static "RiverSteamers$Acts" "BODIES" "[I") (.int 9)) (.int 30)) (by decide +kernel))
  rcases Nat.lt_or_eq_of_le (Nat.le_of_lt_succ hj) with hj | e
  rotate_left
  · subst e; exact va_eqt (hs (.eq (.elem (.static "RiverSteamers$Acts" "BODIES" "[I") (.int 8)) (.int 0)) (by decide +kernel))
  rcases Nat.lt_or_eq_of_le (Nat.le_of_lt_succ hj) with hj | e
  rotate_left
  · subst e; exact va_eqt (hs (.eq (.elem (.static "RiverSteamers$Acts" "BODIES" "[I") (.int 7)) (.int 21)) (by decide +kernel))
  rcases Nat.lt_or_eq_of_le (Nat.le_of_lt_succ hj) with hj | e
  rotate_left
  · subst e; exact va_eqt (hs (.eq (.elem (.static "RiverSteamers$Acts" "BODIES" "[I") (.int 6)) (.int 0)) (by decide +kernel))
  rcases Nat.lt_or_eq_of_le (Nat.le_of_lt_succ hj) with hj | e
  rotate_left
  · subst e; exact va_eqt (hs (.eq (.elem (.static "RiverSteamers$Acts" "BODIES" "[I") (.int 5)) (.int 0)) (by decide +kernel))
  rcases Nat.lt_or_eq_of_le (Nat.le_of_lt_succ hj) with hj | e
  rotate_left
  · subst e; exact va_eqt (hs (.eq (.elem (.static "RiverSteamers$Acts" "BODIES" "[I") (.int 4)) (.int 20)) (by decide +kernel))
  rcases Nat.lt_or_eq_of_le (Nat.le_of_lt_succ hj) with hj | e
  rotate_left
  · subst e; exact va_eqt (hs (.eq (.elem (.static "RiverSteamers$Acts" "BODIES" "[I") (.int 3)) (.int 13)) (by decide +kernel))
  rcases Nat.lt_or_eq_of_le (Nat.le_of_lt_succ hj) with hj | e
  rotate_left
  · subst e; exact va_eqt (hs (.eq (.elem (.static "RiverSteamers$Acts" "BODIES" "[I") (.int 2)) (.int 12)) (by decide +kernel))
  rcases Nat.lt_or_eq_of_le (Nat.le_of_lt_succ hj) with hj | e
  rotate_left
  · subst e; exact va_eqt (hs (.eq (.elem (.static "RiverSteamers$Acts" "BODIES" "[I") (.int 1)) (.int 11)) (by decide +kernel))
  rcases Nat.lt_or_eq_of_le (Nat.le_of_lt_succ hj) with hj | e
  rotate_left
  · subst e; exact va_eqt (hs (.eq (.elem (.static "RiverSteamers$Acts" "BODIES" "[I") (.int 0)) (.int 10)) (by decide +kernel))
  exact absurd hj (Nat.not_lt_zero _)
theorem ta_bo {A : Nat → Prop} (hgv : (Jvm.Cond.and given_1 narrow_1).before args s = true) (hA : ∀ a : Nat, a < s.heap.size → ¬ A a) : ∃ t : Nat, (Term.static "RiverSteamers$Acts" "BODIES" "[I").eval args s none [] s = some (.ref t) ∧ va_T .int t 24 (fun j => .int (boT.getD j 0)) A s s.heap := by
  have hs := flat_of_before _ hgv
  exact va_Tof (by decide) (hs (.arrayOf (.static "RiverSteamers$Acts" "BODIES" "[I") .int) (by decide +kernel)) (va_eqt (hs (.eq (.length (.static "RiverSteamers$Acts" "BODIES" "[I")) (.int 24)) (by decide +kernel))) (el_bo hgv) hA
end LS
theorem stg3 : ∀ k, (stg 3 []).2.1 k = 0 := by
  intro k
  show (if k < 3 then TF k else 0) = 0
  split
  · rename_i hk
    exact (by decide +kernel : ∀ k, k < 3 → TF k = 0) k hk
  · rfl
def FW (G : Gl) : Fn := fun s below args t => (args = #[.ref (ad G 2)] ∧ s.heap.size = gN G) → lw_Z below args s t
theorem law_end {G : Gl} {N : String} {gc gs i : Nat} {h : Hp} (h1 : gc ≤ 600000) (h2 : gs ≤ 7302250) : V G (mLw N) room_1 (FW G) gc gs 1737 (Lw i) [] h := by
  refine V_iconst (pc := 1737) 1 d_L_law_1737 (by decide) ?_
  intro p e s m args below meth c C H locs ls hS hH hl T hT X
  by_cases hc : args = #[.ref (ad G 2)] ∧ s.heap.size = gN G
  · obtain ⟨rfl, hz⟩ := hc
    have K := W.widen h1 h2 (va_forget (locs := locs) (fun q hq => by rw [hz]; exact hS.2.2 q hq) (lw_ret (l := G.1) (e := e) (m := m) (below := below) (meth := meth) (b := ad G 2) (H := H) (ls := ls) C.1 C.2.1 C.2.2.2.1 C.2.2.2.2.1 d_L_law_1738))
    obtain ⟨t, a, b⟩ := K T hT X
    exact ⟨t, a, by intro _; exact b⟩
  · exact ⟨_, Steps.refl _, by intro h; exact absurd h hc⟩
/-- from the entry, for every script of at most 3072 ints, the law comes to its end with true -/
theorem whole_start {p : Program} {e : Env} {s : State} {m : MethodId} {below : List Frame} {meth : Method} {c : Code} (l : Launch) (hflags : l.flags = flags0) {b L : Nat} {xs : Nat → Int32} (hL : L ≤ 3072) (C0 : lw_At p s m meth c b L xs) : W p l e room_1 s m #[Value.ref b] below meth c s.heap [] 0 0 (lw_Z below #[Value.ref b] s) (entryFrame m ([Value.ref b] : List Value).toArray 4) := by
  obtain ⟨hx, hcb, hret, hml, hown, hts, hX, hbl, hlocks, hgv⟩ := C0
  have htb : ∀ w ∈ TBg, w.before #[Value.ref b] s = true := fun w hw => hts w (List.mem_filter.mp hw).1
  obtain ⟨dC, dI, hD⟩ := ex_D htb
  obtain ⟨dA, hA0, hA1, hAo⟩ := ex_A hts
  have hN := ex_N hts
  have hA : ∀ a : Nat, a < s.heap.size → ¬ (fun q => s.heap.size ≤ q) a := fun a ha h => Nat.not_lt.mpr h ha
  obtain ⟨aK, eK, tK⟩ := ta_ka (A := fun q => s.heap.size ≤ q) hgv hA
  obtain ⟨aB, eB, tB⟩ := ta_bo (A := fun q => s.heap.size ≤ q) hgv hA
  have zK : va_Z "RiverSteamers" "KIND_ABOVE" "[I" (.ref aK) (fun q => s.heap.size ≤ q) s s.heap := va_Zof (hts (.laysStatic "RiverSteamers" "KIND_ABOVE" "[I") (List.mem_of_getElem? (i := 533) (by decide +kernel))) (htb _ n_X11.2) eK hA
  have zB : va_Z "RiverSteamers$Acts" "BODIES" "[I" (.ref aB) (fun q => s.heap.size ≤ q) s s.heap := va_Zof (hts (.laysStatic "RiverSteamers$Acts" "BODIES" "[I") (List.mem_of_getElem? (i := 926) (by decide +kernel))) (htb _ n_X0.2) eB hA
  obtain ⟨G, hG⟩ : ∃ G : Gl, G = (l, (s.heap.size, aK, aB, b), dC, dI, dA, L, xs) := ⟨_, rfl⟩
  have C : Cx G (mLw meth.name) p s m #[.ref b] meth c := by
    subst hG
    exact ⟨hx, hcb, hml, hret, hlocks, rfl, hown, htb, ⟨hD, hA0, hA1, hAo, hN⟩, ⟨zK, zB, tK, tB, hX, hbl⟩, Nat.le_refl _⟩
  have e1 : G.1 = l := by rw [hG]
  have e2 : G.2.2.2.2.2.1 = L := by rw [hG]
  have e3 : ad G 2 = b := by rw [hG]; rfl
  have e4 : gN G = s.heap.size := by rw [hG]; rfl
  have hV : V G (mLw meth.name) room_1 (FW G) 0 0 0 [some (.ref 2), none, none, none] [] (s0, stg 3 []) := law_all (by rw [e2]; exact hL) (fun k h hk => law_end (by omega) (by omega))
  have hH : HR G (s0, stg 3 []) s.heap := ⟨by rw [e4]; rfl, Nat.le_refl _, fun k hk => absurd (stg3 k) hk⟩
  rw [lg_entry_eq]
  have hl := lv_entry ([Value.ref b] : List Value) (n := 4) (Nat.le_of_ble_eq_true rfl)
  have e5 : pr G [some (.ref 2), none, none, none] 0 = lv_args 0 [Value.ref b] := by
    have e := en_args (G := G) [.ref 2] 0 (cats1 rfl) 3
    rw [← e3]
    exact e
  rw [← e5] at hl
  have K := hV p e s m #[.ref b] below meth c C s.heap [] _ va_S.rf hH hl
  rw [e1] at K
  intro T hT X
  obtain ⟨t, a1, a2⟩ := K T hT X
  exact ⟨t, a1, a2 ⟨by rw [e3], e4.symm⟩⟩
set_option maxHeartbeats 4000000 in
theorem lw_walk (l : Launch) (hflags : l.flags = flags0) (b : Addr) (xs : List Int32) : MetFree l x (headSpec (Jvm.Cond.code x code maxLocals ret :: tables_1) room_1) (lw_P b xs) (fun _ _ _ _ _ => True) lw_Q := by
  refine MetFree.of_bodyS (code := code) (maxLocals := maxLocals) (ret := ret) (by decide) ?_ ?_
  · intro args s m h hn
    obtain ⟨meth, c, h1, h2, h3, h4, h5, h6, -, -⟩ := Cond.code_spec hn (atoms_spec (ws := Jvm.Cond.code x code maxLocals ret :: tables_1) h _ List.mem_cons_self)
    exact ⟨meth, c, h1, h2, h3, h4, h5, h6⟩
  · intro p e s m args below meth c s₁ B hml0 hP _
    obtain ⟨rfl, hx, hbd, hgv⟩ := hP
    obtain ⟨scr, harrAt, hlist, hof, hsmall⟩ := hx
    obtain ⟨hcb, hkn, -, -⟩ := State.arrayAt?_spec harrAt
    have hown : s.vm.findClass R_law = some m.cls := findClass_of_methodNamed B.named
    have hts0 : ∀ c ∈ (Jvm.Cond.code x code maxLocals ret :: tables_1), c.before #[Value.ref b] s = true := atoms_spec (ws := Jvm.Cond.code x code maxLocals ret :: tables_1) B.pre
    have hts : ∀ w ∈ lw_tbl, w.before #[Value.ref b] s = true := k2_hts_sels lw_privs (fun w hw => hts0 w (List.mem_cons_of_mem _ hw)) lw_privs_ok
    have hml : c.maxLocals = 4 := B.maxLocals_eq (hts0 _ List.mem_cons_self)
    have X₀ : Stand p l e room_1 s m #[Value.ref b] below meth c s₁ [] 0 0 := Stand.of_body B
    have hh0 : s₁.heap = s.heap := by rw [B.state]; rfl
    have hsz : scr.slots.size = xs.length := by rw [← Array.length_toList, hlist, List.length_map]
    have hval : ∀ j : Nat, j < xs.length → scr.slots[j]? = some (.int (xs.getD j 0)) := fun j hj => by
      rw [← Array.getElem?_toList, hlist]
      simp [hj]
    have hbl : b < s.heap.size := (Array.getElem?_eq_some_iff.mp hcb).1
    have hX : va_X b xs.length (fun j => xs.getD j 0) s s.heap := ⟨scr, hcb, hof, hkn, hsz, hval⟩
    have K : W p l e room_1 s m #[Value.ref b] below meth c s₁.heap [] 0 0 (lw_Z below #[Value.ref b] s) (entryFrame m ([Value.ref b] : List Value).toArray 4) := by
      rw [hh0]
      exact whole_start l hflags hbd ⟨B.exec, B.bytes, B.returns, hml, hown, hts, hX, hbl, B.notSynchronized, hgv⟩
    obtain ⟨t, a1, o, b1, b2, b3⟩ := K s₁ rfl X₀
    exact ⟨t, o, a1, b1, b2, b3⟩
theorem lw_pre_spec {args : Array Value} {s : State} (h : (Jvm.Cond.and given_1 narrow_1).before args s = true) (hr : rest_1_c.before args s = true) : ∃ (b : Addr) (xs : List Int32), lw_P b xs args s := by
  have hs := flat_of_before _ h
  have hq := flat_of_before _ hr
  have hc : (Cond.count 1).before args s = true := hs _ (by decide +kernel)
  have harr : (Cond.arrayOf (.arg 0) .int).before args s = true := hs _ (by decide +kernel)
  have hle : (Cond.le (.length (.arg 0)) (.int 3072)).before args s = true := hs _ (by decide +kernel)
  have hlen : (Cond.isInt (.length (.arg 0))).before args s = true := hq _ (by decide +kernel)
  have hall : (Cond.all (.arg 0) (.isInt (.elem (.arg 0) (.index 0)))).before args s = true := hq _ (by decide +kernel)
  obtain ⟨b, xs, hb, hx⟩ := State.ints_of_pre rfl harr hlen hall
  have hsm : xs.length < 2 ^ 31 := hx.choose_spec.2.2.2
  have hev : (Term.length (.arg 0)).eval args s none [] s = some (.int xs.length.toInt32) := hx.length_eval hb
  have hv := Cond.le_ints hev (show (Term.int 3072).eval args s none [] s = some (.int 3072) from rfl)
  have hd : xs.length.toInt32 ≤ 3072 := by
    simpa [Cond.before, Cond.holds, hv] using hle
  have hN : xs.length ≤ 3072 := (Int32.ofNat_le_ofNat hsm (by decide)).mp (show Int32.ofNat xs.length ≤ Int32.ofNat 3072 from hd)
  exact ⟨b, xs, Cond.one_arg hc (show args[0]? = some (.ref b) from hb), hx, hN, h⟩
theorem lw_comes (l : Launch) (hflags : l.flags = flags0) : Comes l x (Jvm.Cond.code x code maxLocals ret :: tables_1) room_1 (fun tb e args s => Calls_1 tb e args s ∧ rest_1 tb e args s ∧ Pre_1 tb e args s)
    (fun _ _ args s o t => lw_Q args s o t) := by
  intro p e ha hc hk s m args below hf hfit hheap happ hpre
  obtain ⟨b, xs, hP⟩ := lw_pre_spec hpre.2.2 hpre.2.1
  obtain ⟨k, o, h1, h2, h3, hQ⟩ := lw_walk l hflags b xs p e ha hc hk s m args below hf ((Spec.applies_iff_loose hf).mp happ).1 hP trivial
  exact ⟨k, o, h1, h2, h3, hQ⟩
theorem lw_frame {s t : State} {o : Outcome} {args : Array Value} (h : Framed s o t [] 600000 7302250) :
    Framed s o t (fieldLocs frame_1_writes args s ++ arrayLocs frame_1_arrays args s ++ staticLocs frame_1_statics s) 600000 7302250 := h
theorem lw_limb (L : Cond) (hL : ∀ (args : Array Value) (s t : State), L.after args s (.returned (some (.int 1))) t = true) :
    ArmFor flags0 classFile x code maxLocals ret World_1 tables_1 room_1 Calls_1 rest_1 Pre_1
      (fun tb e a s o t => postC L tb e a s o t ∧ Framed s o t (fieldLocs frame_1_writes a s ++ arrayLocs frame_1_arrays a s ++ staticLocs frame_1_statics s) 600000 7302250) := by
  intro l hflags _ _ p e ha hc hk s m args below hf hfit hheap happ hpre
  obtain ⟨k, o, h1, h2, h3, rfl, hF⟩ := lw_comes l hflags p e ha hc hk s m args below hf hfit hheap happ hpre
  exact ⟨k, _, h1, h2, h3, hL args s _, lw_frame hF⟩
theorem i_vc : Claimed_1_1 ∧ Claimed_1_2 := ⟨lw_limb limb_1_1 (fun args s t => by simp [limb_1_1, Cond.after, Cond.holds, Cond.value]), lw_limb limb_1_2 (fun args s t => Cond.after_iff.mpr (by
  first | (rw [show limb_1_2 = Cond.eq .result (.int 1) from rfl, Cond.eq_ints (x := 1) (y := 1) rfl rfl]; simp; done) | (simp [limb_1_2, Cond.value, Term.eval]; done)))⟩
