/-! ===== methods that make no cell: room by level; answers by kind; the calls so ===== -/
def rl (k : Nat) : Room := { frames := k, cells := 0, slots := 0, locals := 60 * k }
def QI (K : Int32 → Hp → Prop) : Option Value → Hp → Prop := fun v h => match v with
  | some (.int r) => K r h
  | _ => False
def QV (K : Hp → Prop) : Option Value → Hp → Prop := fun v h => match v with
  | none => K h
  | _ => False
def QA (K : Option Nat → Hp → Prop) : Option Value → Hp → Prop := fun v h => ∃ r : Option Nat, v = some (rfv r) ∧ K r h
section RF
variable {G : Gl} {Y : MI} {R : Room} {F : Fn} {gc gs pc : Nat} {L : List (Option Value)} {S : List Value} {h : Hp}
theorem V_cvI {Y' : MI} {n idx c k : Nat} {q : vw_C} {St : List Value} (As : List Value) (hd : decode Y.2.1 pc = .ok (.invokevirtual idx, 3)) (w : CkM Y.1.cls idx Y' As.length) (w2 : Cond.instanceMethod Y'.1 ∈ TBg ∧ Cond.selects Y'.1.cls Y'.1 Y'.1 ∈ TBg)
    (hq : cl_[c]? = some q ∧ q.1 = Y'.1.cls) (hT : h.2.2.1 k = c + 1) (hst : St = As.reverse ++ .ref k :: S) (hW : (S.map fun v => v.category).sum ≤ 8) (hR : n + 1 ≤ R.frames ∧ 8 + (Y'.2.2.1 + 11) + 60 * n ≤ R.locals) (hg : gc ≤ R.cells ∧ gs ≤ R.slots)
    (M : CM G Y' (rl n) (.ref k :: As) h (QI (fun r h' => V G Y R F gc gs (pc + 3) L (.int r :: S) h'))) : V G Y R F gc gs pc L St h :=
  V_callv (R' := rl n) hd w w2 hq hT hst hW hR hg M (fun v h' hq => by
    match v, hq with
    | some (.int r), hq => exact hq)
theorem V_cvV {Y' : MI} {n idx c k : Nat} {q : vw_C} {St : List Value} (As : List Value) (hd : decode Y.2.1 pc = .ok (.invokevirtual idx, 3)) (w : CkM Y.1.cls idx Y' As.length) (w2 : Cond.instanceMethod Y'.1 ∈ TBg ∧ Cond.selects Y'.1.cls Y'.1 Y'.1 ∈ TBg)
    (hq : cl_[c]? = some q ∧ q.1 = Y'.1.cls) (hT : h.2.2.1 k = c + 1) (hst : St = As.reverse ++ .ref k :: S) (hW : (S.map fun v => v.category).sum ≤ 8) (hR : n + 1 ≤ R.frames ∧ 8 + (Y'.2.2.1 + 11) + 60 * n ≤ R.locals) (hg : gc ≤ R.cells ∧ gs ≤ R.slots)
    (M : CM G Y' (rl n) (.ref k :: As) h (QV (fun h' => V G Y R F gc gs (pc + 3) L S h'))) : V G Y R F gc gs pc L St h :=
  V_callv (R' := rl n) hd w w2 hq hT hst hW hR hg M (fun v h' hq => by
    match v, hq with
    | none, hq => exact hq)
theorem V_cvA {Y' : MI} {n idx c k : Nat} {q : vw_C} {St : List Value} (As : List Value) (hd : decode Y.2.1 pc = .ok (.invokevirtual idx, 3)) (w : CkM Y.1.cls idx Y' As.length) (w2 : Cond.instanceMethod Y'.1 ∈ TBg ∧ Cond.selects Y'.1.cls Y'.1 Y'.1 ∈ TBg)
    (hq : cl_[c]? = some q ∧ q.1 = Y'.1.cls) (hT : h.2.2.1 k = c + 1) (hst : St = As.reverse ++ .ref k :: S) (hW : (S.map fun v => v.category).sum ≤ 8) (hR : n + 1 ≤ R.frames ∧ 8 + (Y'.2.2.1 + 11) + 60 * n ≤ R.locals) (hg : gc ≤ R.cells ∧ gs ≤ R.slots)
    (M : CM G Y' (rl n) (.ref k :: As) h (QA (fun r h' => V G Y R F gc gs (pc + 3) L (rfv r :: S) h'))) : V G Y R F gc gs pc L St h :=
  V_callv (R' := rl n) hd w w2 hq hT hst hW hR hg M (fun v h' hq => by
    obtain ⟨r, rfl, hq⟩ := hq
    exact hq)
theorem V_csI {Y' : MI} {n idx : Nat} {St : List Value} (As : List Value) (hd : decode Y.2.1 pc = .ok (.invokestatic idx, 3)) (w : CkM Y.1.cls idx Y' As.length) (w2 : Cond.static Y'.1 ∈ TBg)
    (hst : St = As.reverse ++ S) (hW : (S.map fun v => v.category).sum ≤ 8) (hR : n + 1 ≤ R.frames ∧ 8 + (Y'.2.2.1 + 11) + 60 * n ≤ R.locals) (hg : gc ≤ R.cells ∧ gs ≤ R.slots)
    (M : CM G Y' (rl n) As h (QI (fun r h' => V G Y R F gc gs (pc + 3) L (.int r :: S) h'))) : V G Y R F gc gs pc L St h :=
  V_calls (R' := rl n) hd w w2 hst hW hR hg M (fun v h' hq => by
    match v, hq with
    | some (.int r), hq => exact hq)
theorem V_csV {Y' : MI} {n idx : Nat} {St : List Value} (As : List Value) (hd : decode Y.2.1 pc = .ok (.invokestatic idx, 3)) (w : CkM Y.1.cls idx Y' As.length) (w2 : Cond.static Y'.1 ∈ TBg)
    (hst : St = As.reverse ++ S) (hW : (S.map fun v => v.category).sum ≤ 8) (hR : n + 1 ≤ R.frames ∧ 8 + (Y'.2.2.1 + 11) + 60 * n ≤ R.locals) (hg : gc ≤ R.cells ∧ gs ≤ R.slots)
    (M : CM G Y' (rl n) As h (QV (fun h' => V G Y R F gc gs (pc + 3) L S h'))) : V G Y R F gc gs pc L St h :=
  V_calls (R' := rl n) hd w w2 hst hW hR hg M (fun v h' hq => by
    match v, hq with
    | none, hq => exact hq)
theorem V_retI {K : Int32 → Hp → Prop} {x : Int32} (hd : decode Y.2.1 pc = .ok (.ireturn, 1)) (hr : Y.2.2.2 = some .int) (hg : gc ≤ R.cells ∧ gs ≤ R.slots) (hq : K x h) : V G Y R (FM G R (QI K)) gc gs pc L [.int x] h := V_iret hd hr hg hq
theorem V_retZ {K : Int32 → Hp → Prop} {x : Int32} (hd : decode Y.2.1 pc = .ok (.ireturn, 1)) (hr : Y.2.2.2 = some .boolean) (hx : x = 0 ∨ x = 1) (hg : gc ≤ R.cells ∧ gs ≤ R.slots) (hq : K x h) : V G Y R (FM G R (QI K)) gc gs pc L [.int x] h := V_zret hd hr hx hg hq
theorem V_retV {K : Hp → Prop} (hd : decode Y.2.1 pc = .ok (.return_, 1)) (hr : Y.2.2.2 = none) (hg : gc ≤ R.cells ∧ gs ≤ R.slots) (hq : K h) : V G Y R (FM G R (QV K)) gc gs pc L [] h := V_vret hd hr hg hq
theorem V_retA {K : Option Nat → Hp → Prop} {r : Option Nat} {rt : FieldType} (hd : decode Y.2.1 pc = .ok (.areturn, 1)) (hr : Y.2.2.2 = some rt) (hrt : (∃ n, rt = .object n) ∨ ∃ t, rt = .array t) (hg : gc ≤ R.cells ∧ gs ≤ R.slots) (hq : K r h) : V G Y R (FM G R (QA K)) gc gs pc L [rfv r] h := V_aret hd hr hrt hg ⟨r, rfl, hq⟩
theorem B_if_lt {x : Int32} {off : Int} (tgt : Nat) (hd : decode Y.2.1 pc = .ok (.ifCond .lt off, 3)) (ht : (pc : Int) + off = (tgt : Int)) (kt : x.toInt < 0 → V G Y R F gc gs tgt L S h) (kf : ¬ x.toInt < 0 → V G Y R F gc gs (pc + 3) L S h) : V G Y R F gc gs pc L (.int x :: S) h :=
  V_if_lt tgt hd ht (fun c => kt (Int32.lt_iff_toInt_lt.mp c)) (fun c => kf (fun q => c (Int32.lt_iff_toInt_lt.mpr q)))
theorem B_if_ge {x : Int32} {off : Int} (tgt : Nat) (hd : decode Y.2.1 pc = .ok (.ifCond .ge off, 3)) (ht : (pc : Int) + off = (tgt : Int)) (kt : 0 ≤ x.toInt → V G Y R F gc gs tgt L S h) (kf : ¬ 0 ≤ x.toInt → V G Y R F gc gs (pc + 3) L S h) : V G Y R F gc gs pc L (.int x :: S) h :=
  V_if_ge tgt hd ht (fun c => kt (Int32.le_iff_toInt_le.mp c)) (fun c => kf (fun q => c (Int32.le_iff_toInt_le.mpr q)))
theorem B_if_gt {x : Int32} {off : Int} (tgt : Nat) (hd : decode Y.2.1 pc = .ok (.ifCond .gt off, 3)) (ht : (pc : Int) + off = (tgt : Int)) (kt : 0 < x.toInt → V G Y R F gc gs tgt L S h) (kf : ¬ 0 < x.toInt → V G Y R F gc gs (pc + 3) L S h) : V G Y R F gc gs pc L (.int x :: S) h :=
  V_if_gt tgt hd ht (fun c => kt (Int32.lt_iff_toInt_lt.mp c)) (fun c => kf (fun q => c (Int32.lt_iff_toInt_lt.mpr q)))
theorem B_if_le {x : Int32} {off : Int} (tgt : Nat) (hd : decode Y.2.1 pc = .ok (.ifCond .le off, 3)) (ht : (pc : Int) + off = (tgt : Int)) (kt : x.toInt ≤ 0 → V G Y R F gc gs tgt L S h) (kf : ¬ x.toInt ≤ 0 → V G Y R F gc gs (pc + 3) L S h) : V G Y R F gc gs pc L (.int x :: S) h :=
  V_if_le tgt hd ht (fun c => kt (Int32.le_iff_toInt_le.mp c)) (fun c => kf (fun q => c (Int32.le_iff_toInt_le.mpr q)))
theorem B_icmp_lt {x y : Int32} {off : Int} (tgt : Nat) (hd : decode Y.2.1 pc = .ok (.if_icmp .lt off, 3)) (ht : (pc : Int) + off = (tgt : Int)) (kt : x.toInt < y.toInt → V G Y R F gc gs tgt L S h) (kf : ¬ x.toInt < y.toInt → V G Y R F gc gs (pc + 3) L S h) : V G Y R F gc gs pc L (.int y :: .int x :: S) h :=
  V_icmp_lt tgt hd ht (fun c => kt (Int32.lt_iff_toInt_lt.mp c)) (fun c => kf (fun q => c (Int32.lt_iff_toInt_lt.mpr q)))
theorem B_icmp_ge {x y : Int32} {off : Int} (tgt : Nat) (hd : decode Y.2.1 pc = .ok (.if_icmp .ge off, 3)) (ht : (pc : Int) + off = (tgt : Int)) (kt : y.toInt ≤ x.toInt → V G Y R F gc gs tgt L S h) (kf : ¬ y.toInt ≤ x.toInt → V G Y R F gc gs (pc + 3) L S h) : V G Y R F gc gs pc L (.int y :: .int x :: S) h :=
  V_icmp_ge tgt hd ht (fun c => kt (Int32.le_iff_toInt_le.mp c)) (fun c => kf (fun q => c (Int32.le_iff_toInt_le.mpr q)))
theorem B_icmp_gt {x y : Int32} {off : Int} (tgt : Nat) (hd : decode Y.2.1 pc = .ok (.if_icmp .gt off, 3)) (ht : (pc : Int) + off = (tgt : Int)) (kt : y.toInt < x.toInt → V G Y R F gc gs tgt L S h) (kf : ¬ y.toInt < x.toInt → V G Y R F gc gs (pc + 3) L S h) : V G Y R F gc gs pc L (.int y :: .int x :: S) h :=
  V_icmp_gt tgt hd ht (fun c => kt (Int32.lt_iff_toInt_lt.mp c)) (fun c => kf (fun q => c (Int32.lt_iff_toInt_lt.mpr q)))
theorem B_icmp_le {x y : Int32} {off : Int} (tgt : Nat) (hd : decode Y.2.1 pc = .ok (.if_icmp .le off, 3)) (ht : (pc : Int) + off = (tgt : Int)) (kt : x.toInt ≤ y.toInt → V G Y R F gc gs tgt L S h) (kf : ¬ x.toInt ≤ y.toInt → V G Y R F gc gs (pc + 3) L S h) : V G Y R F gc gs pc L (.int y :: .int x :: S) h :=
  V_icmp_le tgt hd ht (fun c => kt (Int32.le_iff_toInt_le.mp c)) (fun c => kf (fun q => c (Int32.le_iff_toInt_le.mpr q)))
end RF
section RP
variable {G : Gl} {Y : MI} {R : Room} {F : Fn} {gc gs pc : Nat} {L : List (Option Value)} {S : List Value} {σ : Nat → Nat → Int32} {s : (Nat → Nat → Option Nat) × (Nat → Nat) × (Nat → Nat) × Nat}
theorem P_getI {idx c j k : Nat} {d : String} {fin : Bool} (hd : decode Y.2.1 pc = .ok (.getfield idx, 3)) (w : CkF Y.1.cls idx c j d false fin) (hT : s.2.1 k = c + 1)
    (K : V G Y R F gc gs (pc + 3) L (.int (σ k j) :: S) (σ, s)) : V G Y R F gc gs pc L (.ref k :: S) (σ, s) := V_getI hd w hT K
theorem P_getQ {idx c j k : Nat} {d : String} {fin : Bool} (hd : decode Y.2.1 pc = .ok (.getfield idx, 3)) (w : CkF Y.1.cls idx c j d true fin) (hT : s.2.1 k = c + 1)
    (K : V G Y R F gc gs (pc + 3) L (rfv (s.1 k j) :: S) (σ, s)) : V G Y R F gc gs pc L (.ref k :: S) (σ, s) := V_getQ hd w hT K
theorem P_getR {idx c j k x : Nat} {d : String} {fin : Bool} (hd : decode Y.2.1 pc = .ok (.getfield idx, 3)) (w : CkF Y.1.cls idx c j d true fin) (hT : s.2.1 k = c + 1) (hR : s.1 k j = some x)
    (K : V G Y R F gc gs (pc + 3) L (.ref x :: S) (σ, s)) : V G Y R F gc gs pc L (.ref k :: S) (σ, s) := V_getR hd w hT hR K
theorem P_putI {idx c j k : Nat} {x : Int32} (hd : decode Y.2.1 pc = .ok (.putfield idx, 3)) (w : CkF Y.1.cls idx c j "I" false false) (hT : s.2.1 k = c + 1)
    (K : V G Y R F gc gs (pc + 3) L S (up2 σ k j x, s)) : V G Y R F gc gs pc L (.int x :: .ref k :: S) (σ, s) := V_putI hd w hT K
theorem P_putZ {idx c j k : Nat} {x : Int32} (hd : decode Y.2.1 pc = .ok (.putfield idx, 3)) (w : CkF Y.1.cls idx c j "Z" false false) (hT : s.2.1 k = c + 1) (hx : x = 0 ∨ x = 1)
    (K : V G Y R F gc gs (pc + 3) L S (up2 σ k j x, s)) : V G Y R F gc gs pc L (.int x :: .ref k :: S) (σ, s) := V_putZ hd w hT hx K
theorem P_iald {k : Nat} {x : Int32} (i : Nat) (hd : decode Y.2.1 pc = .ok (.iaload, 1)) (hT : s.2.1 k = 20) (hx : x = nI i) (hi : i < s.2.2.1 k ∧ s.2.2.1 k < 2147483648)
    (K : V G Y R F gc gs (pc + 1) L (.int (σ k i) :: S) (σ, s)) : V G Y R F gc gs pc L (.int x :: .ref k :: S) (σ, s) := V_iald i hd hT hx hi K
theorem P_zald {k : Nat} {x : Int32} (i : Nat) (hd : decode Y.2.1 pc = .ok (.baload, 1)) (hT : s.2.1 k = 21) (hx : x = nI i) (hi : i < s.2.2.1 k ∧ s.2.2.1 k < 2147483648)
    (K : V G Y R F gc gs (pc + 1) L (.int (σ k i) :: S) (σ, s)) : V G Y R F gc gs pc L (.int x :: .ref k :: S) (σ, s) := V_zald i hd hT hx hi K
theorem P_aald {k c : Nat} {x : Int32} (i : Nat) (hd : decode Y.2.1 pc = .ok (.aaload, 1)) (hT : s.2.1 k = c + 40) (hc : c ∈ arrCs) (hx : x = nI i) (hi : i < s.2.2.1 k ∧ s.2.2.1 k < 2147483648) {y : Nat} (hy : s.1 k i = some y)
    (K : V G Y R F gc gs (pc + 1) L (.ref y :: S) (σ, s)) : V G Y R F gc gs pc L (.int x :: .ref k :: S) (σ, s) := V_aald i hd hT hc hx hi hy K
theorem P_iast {k : Nat} {x z : Int32} (i : Nat) (hd : decode Y.2.1 pc = .ok (.iastore, 1)) (hT : s.2.1 k = 20) (hx : x = nI i) (hi : i < s.2.2.1 k ∧ s.2.2.1 k < 2147483648)
    (K : V G Y R F gc gs (pc + 1) L S (up2 σ k i z, s)) : V G Y R F gc gs pc L (.int z :: .int x :: .ref k :: S) (σ, s) := V_iast i hd hT hx hi K
theorem P_zast {k : Nat} {x z : Int32} (i : Nat) (hd : decode Y.2.1 pc = .ok (.bastore, 1)) (hT : s.2.1 k = 21) (hx : x = nI i) (hi : i < s.2.2.1 k ∧ s.2.2.1 k < 2147483648) (hz : z = 0 ∨ z = 1)
    (K : V G Y R F gc gs (pc + 1) L S (up2 σ k i z, s)) : V G Y R F gc gs pc L (.int z :: .int x :: .ref k :: S) (σ, s) := V_zast i hd hT hx hi hz K
theorem P_alen {k : Nat} (hd : decode Y.2.1 pc = .ok (.arraylength, 1)) (hT : s.2.1 k = 20) (K : V G Y R F gc gs (pc + 1) L (.int (nI (s.2.2.1 k)) :: S) (σ, s)) : V G Y R F gc gs pc L (.ref k :: S) (σ, s) := V_alen hd hT K
end RP
theorem cats1 {as : List Value} (h : as.all (fun v => v.category == 1) = true) : ∀ v ∈ as, v.category = 1 := fun v hv => by
  have := List.all_eq_true.mp h v hv
  simpa using this
theorem CM.ofF {G : Gl} {Y : MI} {R : Room} {as : List Value} {h : Hp} {Q : Option Value → Hp → Prop} (hp : plainFor Y.1 = true) (hn : as.length ≤ Y.2.2.1) (hc : ∀ v ∈ as, v.category = 1)
    (hV : V G Y R (FM G R Q) 0 0 0 (enL as Y.2.2.1) [] h) : CM G Y R as h Q := by
  show MetFree G.1 Y.1 (headSpec (wsy Y) R) (Pc G as h) (fun _ _ _ _ _ => True) (fun a st o t => Qc G Q a st o t ∧ ∃ L, FrameEnd st o t L R.cells R.slots ∧ ∀ q ∈ L, (AA G) q.base)
  refine MetFree.of_bodySF (code := Y.2.1) (maxLocals := Y.2.2.1) (ret := Y.2.2.2) hp ?_ ?_
  · intro args s m h hn
    obtain ⟨meth, c, h1, h2, h3, h4, h5, h6, -, -⟩ := Cond.code_spec hn (atoms_spec (ws := wsy Y) h _ List.mem_cons_self)
    exact ⟨meth, c, h1, h2, h3, h4, h5, h6⟩
  · intro p e s m args below meth c s₁ B hml hv _
    obtain ⟨rfl, hH, hK, hS, hN⟩ := hv
    have hh0 : s₁.heap = s.heap := by rw [B.state]; rfl
    have hts := atoms_spec (ws := wsy Y) B.pre
    have hl := lv_entry (as.map (cv G)) (n := Y.2.2.1) (by rw [sl_len as hc]; exact hn)
    rw [← en_args as 0 hc (Y.2.2.1 - as.length)] at hl
    have k := hV p e s m _ below meth c ⟨B.exec, B.bytes, hml, B.returns, B.notSynchronized, (name_of_methodNamed B.named B.method).1, findClass_of_methodNamed B.named, fun w hw => hts w (List.mem_cons_of_mem _ hw), hK, hS, hN⟩ s.heap [] _ va_S.rf hH hl
    rw [lg_entry_eq]
    obtain ⟨t, a1, o, b1, b2, b3⟩ := k s₁ hh0 (Stand.of_body B)
    exact ⟨t, o, a1, b1, b2, ⟨b3.1, b3.2⟩⟩
theorem ti0 : (0 : Int32).toInt = 0 := by decide
theorem ti1 : (1 : Int32).toInt = 1 := by decide
theorem tim1 : (-1 : Int32).toInt = -1 := by decide
theorem tim20 : (-20 : Int32).toInt = -20 := by decide
theorem tim1000 : (-1000 : Int32).toInt = -1000 := by decide
