def up2 {α : Type} (f : Nat → Nat → α) (a i : Nat) (x : α) : Nat → Nat → α := fun b j => if b = a ∧ j = i then x else f b j
theorem up2_row {α : Type} (f : Nat → Nat → α) (a i : Nat) (x : α) {b : Nat} (h : b ≠ a) : up2 f a i x b = f b := by
  funext j
  simp [up2, h]
theorem up2_own {α : Type} (f : Nat → Nat → α) (a i : Nat) (x : α) (j : Nat) : up2 f a i x a j = if j = i then x else f a j := by
  simp [up2]
/-- ints in place i of cell a; a reference there; a new cell of kind t and length n -/
def sI (h : Hp) (a i : Nat) (x : Int32) : Hp := (up2 h.1 a i x, h.2)
def sR (h : Hp) (a i : Nat) (x : Option Nat) : Hp := (h.1, up2 h.2.1 a i x, h.2.2)
def nw (h : Hp) (t n : Nat) : Hp := (fun a i => if a = h.2.2.2.2 then 0 else h.1 a i, fun a i => if a = h.2.2.2.2 then none else h.2.1 a i, fun a => if a = h.2.2.2.2 then t else h.2.2.1 a, fun a => if a = h.2.2.2.2 then n else h.2.2.2.1 a, h.2.2.2.2 + 1)
/-- a field's words: of the class with number c the field in place j -/
def CkF (own : String) (idx c j : Nat) (d : String) (b fin : Bool) : Prop := ∃ q : vw_C, cl_[c]? = some q ∧ j < q.2.2 ∧ (isR c j = b ∧ (q.2.1 j).2.2.1 = d ∧ (q.2.1 j).2.2.2 = fin) ∧ (q.2.1 j).1 = q.1 ∧
  (Cond.fieldLink own idx q.1 (q.2.1 j).2.1 (q.2.1 j).2.2.1 ∈ TBg ∨ ∃ host, Cond.fieldLinkNest own idx q.1 (q.2.1 j).2.1 (q.2.1 j).2.2.1 host ∈ TBn)
section RH
variable {G : Gl} {Y : MI} {R : Room} {F : Fn} {gc gs pc : Nat} {L : List (Option Value)} {S : List Value} {h : Hp}
theorem V_get {idx c j k : Nat} {d : String} {b fin : Bool} (hd : decode Y.2.1 pc = .ok (.getfield idx, 3)) (w : CkF Y.1.cls idx c j d b fin) (hT : h.2.2.1 k = c + 1)
    {v : Value} (hv : cv G v = if isR c j = true then rv G (h.2.1 k j) else .int (h.1 k j)) (K : V G Y R F gc gs (pc + 3) L (v :: S) h) : V G Y R F gc gs pc L (.ref k :: S) h := by
  intro p e s m args below meth cd C H locs ls hS hH hl
  obtain ⟨C1, C2, C3, C4, C5, C6, C7, C8, C9, C10, C11⟩ := id C
  obtain ⟨q, hq, hj, hb, hdc, hw⟩ := w
  obtain ⟨k1, k2, k3⟩ := hH.2.2 k (by rw [hT]; omega)
  rw [hT] at k3
  obtain ⟨q', hq', cell, g1, g2, g3, g4⟩ := k3.o (cl_len hq)
  cases hq.symm.trans hq'
  obtain ⟨hSl, hfc, kC, hkC, hkind⟩ := C9.1 c q hq
  obtain ⟨cf, kf, fi, f, hi, hsl⟩ := hSl j hj
  have hst := (u_facts hfc hkC (u_lays C8 (cl_in c q hq) hj) hi).1
  have hv' : cell.slots[f.slot]? = some (cv G v) := by rw [hsl, g4 j hj, hv]
  rw [hdc] at hi
  rcases hw with hw | ⟨host, hw⟩
  · exact W.getf C1 C2 C7 (C8 _ hw) hi hst g1 (by rw [g3]; exact fun h => by cases h) hv' rfl rfl hd (K p e s m args below meth cd C H locs ls hS hH hl)
  · exact va_Wgetf C1 C2 C7 (va_Nw.use rfl (C9.2.2.2.2 _ hw)) hi hst g1 (by rw [g3]; exact fun h => by cases h) hv' rfl rfl hd (K p e s m args below meth cd C H locs ls hS hH hl)
theorem V_getI {idx c j k : Nat} {d : String} {fin : Bool} (hd : decode Y.2.1 pc = .ok (.getfield idx, 3)) (w : CkF Y.1.cls idx c j d false fin) (hT : h.2.2.1 k = c + 1)
    (K : V G Y R F gc gs (pc + 3) L (.int (h.1 k j) :: S) h) : V G Y R F gc gs pc L (.ref k :: S) h :=
  V_get hd w hT (by obtain ⟨q, hq, hj, hb, hw⟩ := w; rw [hb.1]; rfl) K
theorem V_getQ {idx c j k : Nat} {d : String} {fin : Bool} (hd : decode Y.2.1 pc = .ok (.getfield idx, 3)) (w : CkF Y.1.cls idx c j d true fin) (hT : h.2.2.1 k = c + 1)
    (K : V G Y R F gc gs (pc + 3) L (rfv (h.2.1 k j) :: S) h) : V G Y R F gc gs pc L (.ref k :: S) h :=
  V_get hd w hT (by obtain ⟨q, hq, hj, hb, hw⟩ := w; rw [hb.1, if_pos rfl, cv_rfv]) K
theorem V_getR {idx c j k x : Nat} {d : String} {fin : Bool} (hd : decode Y.2.1 pc = .ok (.getfield idx, 3)) (w : CkF Y.1.cls idx c j d true fin) (hT : h.2.2.1 k = c + 1) (hR : h.2.1 k j = some x)
    (K : V G Y R F gc gs (pc + 3) L (.ref x :: S) h) : V G Y R F gc gs pc L (.ref k :: S) h :=
  V_getQ hd w hT (by rw [hR]; exact K)
theorem V_put {idx c j k : Nat} {d : String} {b fin : Bool} {v : Value} {h' : Hp} (hd : decode Y.2.1 pc = .ok (.putfield idx, 3)) (w : CkF Y.1.cls idx c j d b fin) (hfin : fin = true → Y.1.name = "<init>" ∧ ∃ q : vw_C, cl_[c]? = some q ∧ q.1 = Y.1.cls) (hT : h.2.2.1 k = c + 1)
    (hty : ∃ ty, parseFieldDescriptor d = some ty ∧ narrow ty (cv G v) = cv G v ∧ fits ty (cv G v) = true) (h1 : h'.2.2 = h.2.2) (h2 : ∀ i, i ≠ k → h'.1 i = h.1 i ∧ h'.2.1 i = h.2.1 i)
    (h3 : ∀ i, (if isR c i = true then rv G (h'.2.1 k i) else .int (h'.1 k i)) = if i = j then cv G v else (if isR c i = true then rv G (h.2.1 k i) else .int (h.1 k i)))
    (h7 : c = 7 → zo (h.1 k 4) → zo (h'.1 k 4)) (K : V G Y R F gc gs (pc + 3) L S h') : V G Y R F gc gs pc L (v :: .ref k :: S) h := by
  intro p e s m args below meth cd C H locs ls hS hH hl
  obtain ⟨C1, C2, C3, C4, C5, C6, C7, C8, C9, C10, C11⟩ := id C
  obtain ⟨q, hq, hj, ⟨hb, hdd, hff⟩, hdc, hw⟩ := w
  obtain ⟨k1, k2, k3⟩ := hH.2.2 k (by rw [hT]; omega)
  rw [hT] at k3
  obtain ⟨q', hq', cell, g1, g2, g3, g4⟩ := k3.o (cl_len hq)
  cases hq.symm.trans hq'
  obtain ⟨ty, hpd, hn, hfit⟩ := hty
  obtain ⟨ty0, hty0⟩ := cl_ty c q hq
  have hK' : va_K (G.2.2.1, G.2.2.2.1) cl_ [] s := ⟨C9.1, fun _ _ h => by simp at h⟩
  have hap := va_apart (own := Y.1.cls) C8 (cl_in c q hq) ty0 hty0 (cl_nm c q hq) hK' hq
  obtain ⟨hSl, hfc, kC, hkC, hkind⟩ := C9.1 c q hq
  obtain ⟨cf, kf, fi, f, hi, hsl⟩ := hSl j hj
  have hlay0 := u_lays C8 (cl_in c q hq) hj
  have hst := (u_facts hfc hkC hlay0 hi).1
  have h6 := u_fits hfc hkC hkind hlay0 hi (by rw [hdd]; exact hpd) hn hfit
  have fin' : hasFlag f.accessFlags Acc.final = false ∨ (m.cls = cf ∧ meth.name = "<init>") := by
    have hlay := C8 _ (cl_in c q hq _ (u_in_lay hj))
    unfold u_lay at hlay
    cases fin with
    | false =>
      rw [if_neg (by rw [hff]; decide)] at hlay
      exact Or.inl (u_store hfc hkC hkind hlay hi (by rw [hdd]; exact hpd) hn hfit).1
    | true =>
      rw [if_pos hff] at hlay
      obtain ⟨f1, q2, hq2, f2⟩ := hfin rfl
      cases hq.symm.trans hq2
      obtain ⟨_, _, c', _, _, _, -, -, hf', -, -, -, hown2, -⟩ := Cond.laysFinal_spec hlay
      have e1 : c' = cf := by have := hi.symm.trans hf'; simp at this; exact this.1.symm
      rw [hdc, f2] at hown2
      exact Or.inr ⟨by rw [← e1]; exact Option.some.inj (C7.symm.trans hown2), by rw [C6]; exact f1⟩
  rw [hdc] at hi
  have ha : ad G k < H.size := (Array.getElem?_eq_some_iff.mp g1).1
  have hlt : f.slot < cell.slots.size := by rw [hsl]; exact k2_hasslot (g4 j hj)
  have cont : W p G.1 e R s m args below meth cd (H.setIfInBounds (ad G k) (cell.setSlot f.slot (cv G v))) (locs ++ [⟨ad G k, f.slot⟩]) gc gs (F s below args) (F0 m (pc + 3) ls (S.map (cv G))) := by
    have e2 : (H.setIfInBounds (ad G k) (cell.setSlot f.slot (cv G v))).size = H.size := by simp
    have e3 : ∀ x, x ≠ ad G k → (H.setIfInBounds (ad G k) (cell.setSlot f.slot (cv G v)))[x]? = H[x]? := fun x hx => by simp [Array.getElem?_setIfInBounds, Ne.symm hx]
    refine K p e s m args below meth cd C _ _ ls (hS.put e2 e3 (by rw [ad_ge G k1]; exact Nat.le_add_right _ _)) (hH.put k1 e2 e3 h1 h2 ?_) hl
    rw [hT]
    refine Or.inl ⟨c, q, rfl, hq, t_OB.to (V := updV (fun i => if isR c i = true then rv G (h.2.1 k i) else .int (h.1 k i)) j (cv G v)) ⟨cell.setSlot f.slot (cv G v), by simp [Array.getElem?_setIfInBounds, ha], g2, g3, by rw [hsl]; exact t_set g4 hap hj _⟩ (fun i _ => ?_), fun e => h7 e (k3.oz e)⟩
    rw [h3 i]
    rfl
  rcases hw with hw | ⟨host, hw⟩
  · exact W.putf C1 C2 C7 (C8 _ hw) hi hst fin' g1 (by rw [g3]; exact fun h => by cases h) hlt h6.1 (by rw [g2, g3]; exact h6.2) rfl rfl hd cont
  · exact va_Wputf C1 C2 C7 (va_Nw.use rfl (C9.2.2.2.2 _ hw)) hi hst fin' g1 (by rw [g3]; exact fun h => by cases h) hlt h6.1 (by rw [g2, g3]; exact h6.2) rfl rfl hd cont
theorem V_putI {idx c j k : Nat} {x : Int32} (hd : decode Y.2.1 pc = .ok (.putfield idx, 3)) (w : CkF Y.1.cls idx c j "I" false false) (hT : h.2.2.1 k = c + 1)
    (K : V G Y R F gc gs (pc + 3) L S (sI h k j x)) : V G Y R F gc gs pc L (.int x :: .ref k :: S) h := by
  refine V_put (h' := sI h k j x) hd w (fun h => by cases h) hT ⟨.int, rfl, rfl, rfl⟩ rfl (fun i hi => ⟨up2_row _ _ _ _ hi, rfl⟩) (fun i => ?_) (fun e z => by
    obtain ⟨q, hq, hj, hb, hw⟩ := w
    subst e
    have hj4 : ¬ 4 = j := fun e4 => by subst e4; cases hq; exact absurd hb.2.1 (by decide)
    show zo (up2 h.1 k j x k 4)
    rw [up2_own, if_neg hj4]; exact z) K
  have hb : isR c j = false := by obtain ⟨q, hq, hj, hb, hw⟩ := w; exact hb.1
  show (if isR c i = true then rv G (h.2.1 k i) else .int (up2 h.1 k j x k i)) = _
  rw [up2_own]
  by_cases hi : i = j
  · subst hi; simp [hb]; rfl
  · simp [hi]
theorem V_putZ {idx c j k : Nat} {x : Int32} (hd : decode Y.2.1 pc = .ok (.putfield idx, 3)) (w : CkF Y.1.cls idx c j "Z" false false) (hT : h.2.2.1 k = c + 1) (hx : x = 0 ∨ x = 1)
    (K : V G Y R F gc gs (pc + 3) L S (sI h k j x)) : V G Y R F gc gs pc L (.int x :: .ref k :: S) h := by
  refine V_put (h' := sI h k j x) hd w (fun h => by cases h) hT ⟨.boolean, rfl, by rcases hx with rfl | rfl <;> rfl, by rcases hx with rfl | rfl <;> rfl⟩ rfl (fun i hi => ⟨up2_row _ _ _ _ hi, rfl⟩) (fun i => ?_) (fun e z => by
    show zo (up2 h.1 k j x k 4)
    rw [up2_own]; split
    · exact hx
    · exact z) K
  have hb : isR c j = false := by obtain ⟨q, hq, hj, hb, hw⟩ := w; exact hb.1
  show (if isR c i = true then rv G (h.2.1 k i) else .int (up2 h.1 k j x k i)) = _
  rw [up2_own]
  by_cases hi : i = j
  · subst hi; simp [hb]; rfl
  · simp [hi]
theorem V_putQ {idx c j k x : Nat} {d : String} {fin : Bool} (hd : decode Y.2.1 pc = .ok (.putfield idx, 3)) (w : CkF Y.1.cls idx c j d true fin) (hfin : fin = true → Y.1.name = "<init>" ∧ ∃ q : vw_C, cl_[c]? = some q ∧ q.1 = Y.1.cls) (hT : h.2.2.1 k = c + 1)
    (hty : ∃ ty, parseFieldDescriptor d = some ty ∧ ((∃ n, ty = .object n) ∨ ∃ t, ty = .array t)) (K : V G Y R F gc gs (pc + 3) L S (sR h k j (some x))) : V G Y R F gc gs pc L (.ref x :: .ref k :: S) h := by
  obtain ⟨ty, ht, hk⟩ := hty
  refine V_put (h' := sR h k j (some x)) hd w hfin hT ⟨ty, ht, by rcases hk with ⟨n, rfl⟩ | ⟨t, rfl⟩ <;> rfl, by rcases hk with ⟨n, rfl⟩ | ⟨t, rfl⟩ <;> rfl⟩ rfl (fun i hi => ⟨rfl, up2_row _ _ _ _ hi⟩) (fun i => ?_) (fun _ z => z) K
  have hb : isR c j = true := by obtain ⟨q, hq, hj, hb, hw⟩ := w; exact hb.1
  show (if isR c i = true then rv G (up2 h.2.1 k j (some x) k i) else .int (h.1 k i)) = _
  rw [up2_own]
  by_cases hi : i = j
  · subst hi; simp [hb]; rfl
  · simp [hi]
theorem V_putN {idx c j k : Nat} {d : String} {fin : Bool} (hd : decode Y.2.1 pc = .ok (.putfield idx, 3)) (w : CkF Y.1.cls idx c j d true fin) (hfin : fin = true → Y.1.name = "<init>" ∧ ∃ q : vw_C, cl_[c]? = some q ∧ q.1 = Y.1.cls) (hT : h.2.2.1 k = c + 1)
    (hty : ∃ ty, parseFieldDescriptor d = some ty ∧ ((∃ n, ty = .object n) ∨ ∃ t, ty = .array t)) (K : V G Y R F gc gs (pc + 3) L S (sR h k j none)) : V G Y R F gc gs pc L (.null :: .ref k :: S) h := by
  obtain ⟨ty, ht, hk⟩ := hty
  refine V_put (h' := sR h k j none) hd w hfin hT ⟨ty, ht, by rcases hk with ⟨n, rfl⟩ | ⟨t, rfl⟩ <;> rfl, by rcases hk with ⟨n, rfl⟩ | ⟨t, rfl⟩ <;> rfl⟩ rfl (fun i hi => ⟨rfl, up2_row _ _ _ _ hi⟩) (fun i => ?_) (fun _ z => z) K
  have hb : isR c j = true := by obtain ⟨q, hq, hj, hb, hw⟩ := w; exact hb.1
  show (if isR c i = true then rv G (up2 h.2.1 k j none k i) else .int (h.1 k i)) = _
  rw [up2_own]
  by_cases hi : i = j
  · subst hi; simp [hb]; rfl
  · simp [hi]
end RH
