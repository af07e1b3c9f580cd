/-! ===== returns and calls ===== -/
section RC
variable {G : Gl} {Y : MI} {R : Room} {F : Fn} {gc gs pc : Nat} {L : List (Option Value)} {S : List Value} {h : Hp} {Q : Option Value → Hp → Prop}
theorem ret_q {s t : State} {args : Array Value} {H : Heap} {locs : List Loc} {v : Option Value} {w : Option Value} (hS : va_S (AA G) s.heap H locs) (hH : HR G h H) (hq : Q v h) (hw : w = v.map (cv G)) (ht : t.heap = H) : Qc G Q args s (.returned w) t :=
  ⟨⟨v, h, by rw [hw], hq, by rw [ht]; exact hH⟩, hS.F ht⟩
theorem V_iret {x : Int32} (hd : decode Y.2.1 pc = .ok (.ireturn, 1)) (hr : Y.2.2.2 = some .int) (hg : gc ≤ R.cells ∧ gs ≤ R.slots) (hq : Q (some (.int x)) h) : V G Y R (FM G R Q) gc gs pc L [.int x] h := by
  intro p e s m args below meth c C H locs ls hS hH hl
  exact W.widen hg.1 hg.2 (W.iret C.1 C.2.1 (C.2.2.2.1.trans hr) (fun t ht _ => ret_q (v := some (.int x)) hS hH hq rfl ht) hS.2.2 hd C.2.2.2.2.1)
theorem V_zret {x : Int32} (hd : decode Y.2.1 pc = .ok (.ireturn, 1)) (hr : Y.2.2.2 = some .boolean) (hx : x = 0 ∨ x = 1) (hg : gc ≤ R.cells ∧ gs ≤ R.slots) (hq : Q (some (.int x)) h) : V G Y R (FM G R Q) gc gs pc L [.int x] h := by
  intro p e s m args below meth c C H locs ls hS hH hl
  exact W.widen hg.1 hg.2 (W.zret C.1 C.2.1 (C.2.2.2.1.trans hr) (by rcases hx with rfl | rfl <;> rfl) (fun t ht _ => ret_q (v := some (.int x)) hS hH hq rfl ht) hS.2.2 hd C.2.2.2.2.1)
theorem V_vret (hd : decode Y.2.1 pc = .ok (.return_, 1)) (hr : Y.2.2.2 = none) (hg : gc ≤ R.cells ∧ gs ≤ R.slots) (hq : Q none h) : V G Y R (FM G R Q) gc gs pc L [] h := by
  intro p e s m args below meth c C H locs ls hS hH hl
  exact W.widen hg.1 hg.2 (W.vret C.1 C.2.1 (C.2.2.2.1.trans hr) (fun t ht _ => ret_q (v := none) hS hH hq rfl ht) hS.2.2 hd C.2.2.2.2.1)
theorem V_aret {r : Option Nat} {rt : FieldType} (hd : decode Y.2.1 pc = .ok (.areturn, 1)) (hr : Y.2.2.2 = some rt) (hrt : (∃ n, rt = .object n) ∨ ∃ t, rt = .array t) (hg : gc ≤ R.cells ∧ gs ≤ R.slots) (hq : Q (some (rfv r)) h) : V G Y R (FM G R Q) gc gs pc L [rfv r] h := by
  intro p e s m args below meth c C H locs ls hS hH hl
  exact W.widen hg.1 hg.2 (W.aret C.1 C.2.1 (C.2.2.2.1.trans hr) hrt (by cases r; exact Or.inl rfl; exact Or.inr ⟨_, rfl⟩) (fun t ht _ => ret_q (v := some (rfv r)) hS hH hq rfl ht) hS.2.2 hd C.2.2.2.2.1)
/-- behind a call -/
theorem V_run {Y' : MI} {R' : Room} {as : List Value} {St : List Value}
    (M : CM G Y' R' as h Q) (hQ : ∀ (v : Option Value) (h' : Hp), Q v h' → V G Y R F (gc + R'.cells) (gs + R'.slots) (pc + 3) L (v.toList ++ S) h')
    (hr : ∀ (p : Program) (e : Env) (s : State) (m : MethodId) (args : Array Value) (below : List Frame) (meth : Method) (c : Code), Cx G Y p s m args meth c → ∀ (H : Heap) (locs : List Loc) (ls : Array Slot), va_S (AA G) s.heap H locs → HR G h H → lv_has ls Y.2.2.1 (pr G L 0) →
      FrameBlind (Pc G as h) → (∀ U : State, U.heap = H → s.WarmedH U.vm → Pc G as h (as.map (cv G)).toArray U) →
      va_Run p G.1 e R s m args below meth c H locs gc gs R'.cells R'.slots (F0 m pc ls (St.map (cv G))) (S.map (cv G)) (Qc G Q (as.map (cv G)).toArray) (AA G)) :
    V G Y R F gc gs pc L St h := by
  intro p e s m args below meth c C H locs ls hS hH hl T hT X
  have hPc : ∀ U : State, U.heap = H → s.WarmedH U.vm → Pc G as h (as.map (cv G)).toArray U := fun U hU hW =>
    ⟨rfl, by rw [hU]; exact hH, C.2.2.2.2.2.2.2.2.1.warm hW, by rw [hU]; exact (sf_now C hS).moved hW.alike, by rw [hU]; exact Nat.le_trans C.2.2.2.2.2.2.2.2.2.2 hS.1⟩
  obtain ⟨v, st₀, t, T', LL, h0, X', hL, e1, e2, ⟨⟨w, h', hw, hK, hH'⟩, hz, hk⟩, st⟩ := hr p e s m args below meth c C H locs ls hS hH hl Pc.blind hPc T hT X
  rw [h0] at hz hk
  obtain rfl : v = w.map (cv G) := by cases hw; rfl
  have hS' : va_S (AA G) s.heap T'.heap (locs ++ LL) := ⟨Nat.le_trans hS.1 (by rw [e1]; exact hz), fun q h1 h2 => by rw [e1, hk q (Nat.lt_of_lt_of_le h1 hS.1) h2]; exact hS.2.1 q h1 h2, fun q hq => by
      rcases List.mem_append.mp hq with h | h
      · exact hS.2.2 q h
      · exact hL q h⟩
  obtain ⟨t2, a1, b1⟩ := hQ _ _ hK p e s m args below meth c C T'.heap (locs ++ LL) ls hS' (by rw [e1]; exact hH') hl T' rfl X'
  refine ⟨t2, st t2 ?_, b1⟩
  have e3 : ((w.toList ++ S).map (cv G)) = (w.map (cv G)).toList ++ S.map (cv G) := by cases w <;> rfl
  rw [e3] at a1
  exact a1
/-- a method's words at a call -/
def CkM (own : String) (idx : Nat) (Y' : MI) (n : Nat) : Prop :=
  Cond.code Y'.1 Y'.2.1 Y'.2.2.1 Y'.2.2.2 ∈ TBg ∧ Cond.initialized Y'.1.cls ∈ TBg ∧ (Y'.1.cls ≠ "java/lang/invoke/MethodHandle" ∧ Y'.1.cls ≠ "java/lang/invoke/VarHandle" ∧ (parseMethodDescriptor Y'.1.desc).map (fun d => d.parameters.length) = some n) ∧
  (Cond.methodLink own idx Y'.1 ∈ TBg ∨ ∃ host, Cond.methodLinkNest own idx Y'.1 host ∈ TBn)
theorem callB_own {Y' : MI} {R' : Room} {s : State} {args : Array Value} {own : String} {idx n : Nat} (hts : ∀ w ∈ TBg, w.before args s = true) (w : CkM own idx Y' n) (hl : Cond.methodLink own idx Y'.1 ∈ TBg) (hR : R'.frames + 1 ≤ R.frames ∧ 8 + (Y'.2.2.1 + 11) + R'.locals ≤ R.locals) :
    CallB R s args own idx Y'.1 Y'.2.1 Y'.2.2.1 Y'.2.2.2 (wsy Y') R' R'.cells R'.slots n :=
  callB_of (Ts := TBg) (ws' := TBg) n hts (tb_good w.1) rfl rfl rfl (hts _ w.2.1) (hts _ hl) w.2.2.1 hR
theorem callN_own {Y' : MI} {R' : Room} {s : State} {args : Array Value} {own host : String} {idx n : Nat} (hts : ∀ w ∈ TBg, w.before args s = true) (hK : KK G s) (w : CkM own idx Y' n) (hl : Cond.methodLinkNest own idx Y'.1 host ∈ TBn) (hR : R'.frames + 1 ≤ R.frames ∧ 8 + (Y'.2.2.1 + 11) + R'.locals ≤ R.locals) :
    va_CN R s args own idx Y'.1 host Y'.2.1 Y'.2.2.1 Y'.2.2.2 (wsy Y') R' R'.cells R'.slots n :=
  va_cnB (Ts := TBg) (ws' := TBg) n hts (tb_good w.1) rfl rfl rfl (hK.2.2.2.2 _ hl) (hts _ w.2.1) w.2.2.1 hR
theorem V_callv {Y' : MI} {R' : Room} {idx c k : Nat} {q : vw_C} {As St : List Value} (hd : decode Y.2.1 pc = .ok (.invokevirtual idx, 3)) (w : CkM Y.1.cls idx Y' As.length) (w2 : Cond.instanceMethod Y'.1 ∈ TBg ∧ Cond.selects Y'.1.cls Y'.1 Y'.1 ∈ TBg)
    (hq : cl_[c]? = some q ∧ q.1 = Y'.1.cls) (hT : h.2.2.1 k = c + 1) (hst : St = As.reverse ++ .ref k :: S) (hW : (S.map fun v => v.category).sum ≤ 8) (hR : R'.frames + 1 ≤ R.frames ∧ 8 + (Y'.2.2.1 + 11) + R'.locals ≤ R.locals) (hg : gc + R'.cells ≤ R.cells ∧ gs + R'.slots ≤ R.slots)
    (M : CM G Y' R' (.ref k :: As) h Q) (hQ : ∀ (v : Option Value) (h' : Hp), Q v h' → V G Y R F (gc + R'.cells) (gs + R'.slots) (pc + 3) L (v.toList ++ S) h') : V G Y R F gc gs pc L St h := by
  refine V_run M hQ (fun p e s m args below meth cd C H locs ls hS hH hl hbl hPc => ?_)
  obtain ⟨k1, k2, k3⟩ := hH.2.2 k (by rw [hT]; omega)
  rw [hT] at k3
  obtain ⟨q', hq', cell, g1, g2, g3, -⟩ := k3.o (cl_len hq.1)
  cases hq.1.symm.trans hq'
  have hfc := (C.2.2.2.2.2.2.2.2.1.1 c q hq.1).2.1
  have hts := C.2.2.2.2.2.2.2.1
  have hstk : St.map (cv G) = (As.map (cv G)).reverse ++ .ref (ad G k) :: S.map (cv G) := by rw [hst]; simp [cv]
  have hWW : 2 * (F0 m pc ls (St.map (cv G))).monitorRoom + ((S.map (cv G)).map fun v => v.category).sum ≤ 8 := lv_room (by rw [List.map_map]; simpa [Function.comp_def, cv_cat] using hW)
  have hpv : PreV s H Y'.1.cls (ad G k) (Pc G (.ref k :: As) h) (As.map (cv G)) := ⟨hbl, ⟨cell, g1, by rw [g3]; rfl, by rw [g2, ← hq.2]; exact hfc⟩, hPc⟩
  rcases w.2.2.2 with hw | ⟨host, hw⟩
  · exact va_runV (Ts := TBg) (own := Y.1.cls) (nL := Y.2.2.1) ⟨C.1, C.2.1, C.2.2.1, C.2.2.2.2.2.2.1, hts⟩ M ⟨callB_own hts w hw hR, hts _ w2.1, hts _ w2.2⟩ hpv rfl (by simp) hl.1 hstk hWW hd hg
  · exact va_runVN (Ts := TBg) (own := Y.1.cls) (nL := Y.2.2.1) ⟨C.1, C.2.1, C.2.2.1, C.2.2.2.2.2.2.1, hts⟩ M ⟨callN_own hts C.2.2.2.2.2.2.2.2.1 w hw hR, hts _ w2.1, hts _ w2.2⟩ hpv rfl (by simp) hl.1 hstk hWW hd hg
theorem V_calls {Y' : MI} {R' : Room} {idx : Nat} {As St : List Value} (hd : decode Y.2.1 pc = .ok (.invokestatic idx, 3)) (w : CkM Y.1.cls idx Y' As.length) (w2 : Cond.static Y'.1 ∈ TBg)
    (hst : St = As.reverse ++ S) (hW : (S.map fun v => v.category).sum ≤ 8) (hR : R'.frames + 1 ≤ R.frames ∧ 8 + (Y'.2.2.1 + 11) + R'.locals ≤ R.locals) (hg : gc + R'.cells ≤ R.cells ∧ gs + R'.slots ≤ R.slots)
    (M : CM G Y' R' As h Q) (hQ : ∀ (v : Option Value) (h' : Hp), Q v h' → V G Y R F (gc + R'.cells) (gs + R'.slots) (pc + 3) L (v.toList ++ S) h') : V G Y R F gc gs pc L St h := by
  refine V_run M hQ (fun p e s m args below meth cd C H locs ls hS hH hl hbl hPc => ?_)
  have hts := C.2.2.2.2.2.2.2.1
  have hstk : St.map (cv G) = (As.map (cv G)).reverse ++ S.map (cv G) := by rw [hst]; simp
  have hWW : 2 * (F0 m pc ls (St.map (cv G))).monitorRoom + ((S.map (cv G)).map fun v => v.category).sum ≤ 8 := lv_room (by rw [List.map_map]; simpa [Function.comp_def, cv_cat] using hW)
  rcases w.2.2.2 with hw | ⟨host, hw⟩
  · exact va_runS (Ts := TBg) (own := Y.1.cls) (nL := Y.2.2.1) ⟨C.1, C.2.1, C.2.2.1, C.2.2.2.2.2.2.1, hts⟩ M ⟨callB_own hts w hw hR, hts _ w2⟩ ⟨hbl, hPc⟩ rfl (by simp) hl.1 hstk hWW hd hg
  · exact va_runSN (Ts := TBg) (own := Y.1.cls) (nL := Y.2.2.1) ⟨C.1, C.2.1, C.2.2.1, C.2.2.2.2.2.2.1, hts⟩ M ⟨callN_own hts C.2.2.2.2.2.2.2.2.1 w hw hR, hts _ w2, trivial⟩ ⟨hbl, hPc⟩ rfl (by simp) hl.1 hstk hWW hd hg
theorem V_calli {Y' : MI} {R' : Room} {idx k : Nat} {As St : List Value} (hd : decode Y.2.1 pc = .ok (.invokespecial idx, 3)) (w : CkM Y.1.cls idx Y' As.length) (w2 : Cond.instanceMethod Y'.1 ∈ TBg) (hn : Y'.1.name = "<init>" ∧ Y'.2.2.2 = none)
    (hst : St = As.reverse ++ .ref k :: S) (hW : (S.map fun v => v.category).sum ≤ 8) (hR : R'.frames + 1 ≤ R.frames ∧ 8 + (Y'.2.2.1 + 11) + R'.locals ≤ R.locals) (hg : gc + R'.cells ≤ R.cells ∧ gs + R'.slots ≤ R.slots)
    (M : CM G Y' R' (.ref k :: As) h Q) (hQ : ∀ (v : Option Value) (h' : Hp), Q v h' → V G Y R F (gc + R'.cells) (gs + R'.slots) (pc + 3) L (v.toList ++ S) h') : V G Y R F gc gs pc L St h := by
  refine V_run M hQ (fun p e s m args below meth cd C H locs ls hS hH hl hbl hPc => ?_)
  have hts := C.2.2.2.2.2.2.2.1
  have hstk : St.map (cv G) = (As.map (cv G)).reverse ++ .ref (ad G k) :: S.map (cv G) := by rw [hst]; simp [cv]
  have hWW : 2 * (F0 m pc ls (St.map (cv G))).monitorRoom + ((S.map (cv G)).map fun v => v.category).sum ≤ 8 := lv_room (by rw [List.map_map]; simpa [Function.comp_def, cv_cat] using hW)
  rcases w.2.2.2 with hw | ⟨host, hw⟩
  · have hb := callB_own hts w hw hR
    rw [hn.2] at hb
    exact va_runI (Ts := TBg) (own := Y.1.cls) (nL := Y.2.2.1) ⟨C.1, C.2.1, C.2.2.1, C.2.2.2.2.2.2.1, hts⟩ M ⟨hb, hn.1, hts _ w2⟩ ⟨hbl, hPc⟩ rfl (by simp) hl.1 hstk hWW hd hg
  · have hb := callN_own hts C.2.2.2.2.2.2.2.2.1 w hw hR
    rw [hn.2] at hb
    exact va_runIN (Ts := TBg) (own := Y.1.cls) (nL := Y.2.2.1) ⟨C.1, C.2.1, C.2.2.1, C.2.2.2.2.2.2.1, hts⟩ M ⟨hb, hn.1, hts _ w2⟩ ⟨hbl, hPc⟩ rfl (by simp) hl.1 hstk hWW hd hg
theorem V_obj {idx k : Nat} (hd : decode Y.2.1 pc = .ok (.invokespecial idx, 3)) (w : Cond.methodLink Y.1.cls idx Lib.objectInit ∈ TBg ∧ Cond.instanceMethod Lib.objectInit ∈ TBg ∧ Cond.code Lib.objectInit ⟨#[0xb1]⟩ 1 none ∈ TBg)
    (hW : (S.map fun v => v.category).sum + 12 ≤ R.locals) (hf : 1 ≤ R.frames) (K : V G Y R F gc gs (pc + 3) L S h) : V G Y R F gc gs pc L (.ref k :: S) h := by
  intro p e s m args below meth c C H locs ls hS hH hl
  have hts := C.2.2.2.2.2.2.2.1
  have hWW : 2 * (F0 m pc ls ((.ref k :: S : List Value).map (cv G))).monitorRoom + ((S.map (cv G)).map fun v => v.category).sum + 12 ≤ R.locals := by
    have : ((S.map (cv G)).map fun v => v.category).sum = (S.map fun v => v.category).sum := by rw [List.map_map]; simp [Function.comp_def, cv_cat]
    rw [this]
    show 2 * 0 + _ + 12 ≤ _
    omega
  exact W.objInit C.1 C.2.1 C.2.2.2.2.2.2.1 (hts _ w.1) (hts _ w.2.1) (hts _ w.2.2) rfl (hl.1.trans C.2.2.1.symm) rfl hd hf hWW (K p e s m args below meth c C H locs ls hS hH hl)
end RC
