section RA
variable {G : Gl} {Y : MI} {R : Room} {F : Fn} {gc gs pc : Nat} {L : List (Option Value)} {S : List Value} {h : Hp}
theorem in_nI {i n : Nat} (hi : i < n ∧ n < 2147483648) : ¬ (nI i < 0 ∨ n ≤ (nI i).toNatClampNeg) := nI_in hi.1 hi.2
theorem V_iald {k : Nat} {x : Int32} (i : Nat) (hd : decode Y.2.1 pc = .ok (.iaload, 1)) (hT : h.2.2.1 k = 20) (hx : x = nI i) (hi : i < h.2.2.2.1 k ∧ h.2.2.2.1 k < 2147483648)
    (K : V G Y R F gc gs (pc + 1) L (.int (h.1 k i) :: S) h) : V G Y R F gc gs pc L (.int x :: .ref k :: S) h := by
  intro p e s m args below meth c C H locs ls hS hH hl
  subst hx
  obtain ⟨k1, k2, k3⟩ := hH.2.2 k (by rw [hT]; decide)
  rw [hT] at k3
  refine W.iald (v := .int (h.1 k i)) C.1 C.2.1 k3.i (C.2.2.2.2.2.2.2.2.1.2.1.1 _ _) (fun q => by cases q) (by rw [arrV_size]; exact in_nI hi) (by rw [nI_clamp (by omega), arrV_read _ _ hi.1]) rfl rfl hd (K p e s m args below meth c C H locs ls hS hH hl)
theorem V_zald {k : Nat} {x : Int32} (i : Nat) (hd : decode Y.2.1 pc = .ok (.baload, 1)) (hT : h.2.2.1 k = 21) (hx : x = nI i) (hi : i < h.2.2.2.1 k ∧ h.2.2.2.1 k < 2147483648)
    (K : V G Y R F gc gs (pc + 1) L (.int (h.1 k i) :: S) h) : V G Y R F gc gs pc L (.int x :: .ref k :: S) h := by
  intro p e s m args below meth c C H locs ls hS hH hl
  subst hx
  obtain ⟨k1, k2, k3⟩ := hH.2.2 k (by rw [hT]; decide)
  rw [hT] at k3
  refine W.zald (v := .int (h.1 k i)) C.1 C.2.1 k3.z (C.2.2.2.2.2.2.2.2.1.2.2.1.1 _ _) (fun q => by cases q) (by rw [arrV_size]; exact in_nI hi) (by rw [nI_clamp (by omega), arrV_read _ _ hi.1]) rfl rfl hd (K p e s m args below meth c C H locs ls hS hH hl)
theorem V_aald {k c : Nat} {x : Int32} (i : Nat) (hd : decode Y.2.1 pc = .ok (.aaload, 1)) (hT : h.2.2.1 k = c + 40) (hc : c ∈ arrCs) (hx : x = nI i) (hi : i < h.2.2.2.1 k ∧ h.2.2.2.1 k < 2147483648) {y : Nat} (hy : h.2.1 k i = some y)
    (K : V G Y R F gc gs (pc + 1) L (.ref y :: S) h) : V G Y R F gc gs pc L (.int x :: .ref k :: S) h := by
  intro p e s m args below meth cd C H locs ls hS hH hl
  subst hx
  obtain ⟨k1, k2, k3⟩ := hH.2.2 k (by rw [hT]; omega)
  rw [hT] at k3
  have hlc : c < 13 := by simp [arrCs] at hc; omega
  obtain ⟨q, hq⟩ : ∃ q, cl_[c]? = some q := ⟨_, List.getElem?_eq_getElem hlc⟩
  refine W.aald (v := .ref (ad G y)) (ty := .object q.1) C.1 C.2.1 k3.r ((C.2.2.2.2.2.2.2.2.1.2.2.2.1 c hc q hq).1 _ _) rfl (fun q => by cases q) (by rw [arrV_size]; exact in_nI hi) (by rw [nI_clamp (by omega), arrV_read _ _ hi.1, hy]; rfl) rfl rfl hd (K p e s m args below meth cd C H locs ls hS hH hl)
theorem V_iast {k : Nat} {x z : Int32} (i : Nat) (hd : decode Y.2.1 pc = .ok (.iastore, 1)) (hT : h.2.2.1 k = 20) (hx : x = nI i) (hi : i < h.2.2.2.1 k ∧ h.2.2.2.1 k < 2147483648)
    (K : V G Y R F gc gs (pc + 1) L S (sI h k i z)) : V G Y R F gc gs pc L (.int z :: .int x :: .ref k :: S) h := by
  intro p e s m args below meth c C H locs ls hS hH hl
  subst hx
  obtain ⟨k1, k2, k3⟩ := hH.2.2 k (by rw [hT]; decide)
  rw [hT] at k3
  refine W.iast C.1 C.2.1 k3.i (C.2.2.2.2.2.2.2.2.1.2.1.1 _ _) (fun q => by cases q) (by rw [arrV_size]; exact in_nI hi) rfl rfl hd (fun H1 e1 e2 e3 => ?_)
  refine K p e s m args below meth c C H1 _ ls (hS.put e2 e3 (by rw [ad_ge G k1]; exact Nat.le_add_right _ _)) (hH.put k1 e2 e3 rfl (fun j hj => ⟨up2_row _ _ _ _ hj, rfl⟩) ?_) hl
  rw [hT]
  refine Or.inr (Or.inl ⟨rfl, ?_⟩)
  rw [e1, arrV_store, nI_clamp (by omega)]
  congr 2
  funext j
  show updV _ i (.int z) j = .int (up2 h.1 k i z k j)
  rw [up2_own]
  by_cases hj : j = i <;> simp [updV, hj]
theorem V_zast {k : Nat} {x z : Int32} (i : Nat) (hd : decode Y.2.1 pc = .ok (.bastore, 1)) (hT : h.2.2.1 k = 21) (hx : x = nI i) (hi : i < h.2.2.2.1 k ∧ h.2.2.2.1 k < 2147483648) (hz : z = 0 ∨ z = 1)
    (K : V G Y R F gc gs (pc + 1) L S (sI h k i z)) : V G Y R F gc gs pc L (.int z :: .int x :: .ref k :: S) h := by
  intro p e s m args below meth c C H locs ls hS hH hl
  subst hx
  obtain ⟨k1, k2, k3⟩ := hH.2.2 k (by rw [hT]; decide)
  rw [hT] at k3
  refine W.zast C.1 C.2.1 k3.z (C.2.2.2.2.2.2.2.2.1.2.2.1.1 _ _) (fun q => by cases q) (by rw [arrV_size]; exact in_nI hi) rfl rfl hd (fun H1 e1 e2 e3 => ?_)
  refine K p e s m args below meth c C H1 _ ls (hS.put e2 e3 (by rw [ad_ge G k1]; exact Nat.le_add_right _ _)) (hH.put k1 e2 e3 rfl (fun j hj => ⟨up2_row _ _ _ _ hj, rfl⟩) ?_) hl
  rw [hT]
  refine Or.inr (Or.inr (Or.inl ⟨rfl, ?_, fun j hj => by
    show zo (up2 h.1 k i z k j)
    rw [up2_own]; split
    · exact hz
    · exact k3.zall j hj⟩))
  have hn : narrow .boolean (.int z) = .int z := by rcases hz with rfl | rfl <;> rfl
  rw [e1, hn, arrV_store, nI_clamp (by omega)]
  congr 2
  funext j
  show updV _ i (.int z) j = .int (up2 h.1 k i z k j)
  rw [up2_own]
  by_cases hj : j = i <;> simp [updV, hj]
theorem V_aast {k c y : Nat} {x : Int32} (i : Nat) (hd : decode Y.2.1 pc = .ok (.aastore, 1)) (hT : h.2.2.1 k = c + 40) (hc : c ∈ arrCs) (hx : x = nI i) (hi : i < h.2.2.2.1 k ∧ h.2.2.2.1 k < 2147483648) (hy : h.2.2.1 y = c + 1)
    (K : V G Y R F gc gs (pc + 1) L S (sR h k i (some y))) : V G Y R F gc gs pc L (.ref y :: .int x :: .ref k :: S) h := by
  intro p e s m args below meth cd C H locs ls hS hH hl
  subst hx
  obtain ⟨k1, k2, k3⟩ := hH.2.2 k (by rw [hT]; omega)
  rw [hT] at k3
  obtain ⟨y1, y2, y3⟩ := hH.2.2 y (by rw [hy]; omega)
  rw [hy] at y3
  have hlc : c < 13 := by simp [arrCs] at hc; omega
  obtain ⟨q, hq, cell, g1, g2, g3, -⟩ := y3.o hlc
  have hcls := (C.2.2.2.2.2.2.2.2.1.1 c q hq).2
  obtain ⟨kA, comp, a1, a2, a3, -⟩ := (C.2.2.2.2.2.2.2.2.1.2.2.2.1 c hc q hq).2.1
  have hcomp : comp = G.2.2.1 c := Option.some.inj (a3.symm.trans hcls.1)
  subst hcomp
  obtain ⟨kC, hkC, -⟩ := id hcls.2
  refine W.aast C.1 C.2.1 k3.r (fun q h => by cases h) (fun h => by cases h) a1 a2 rfl hkC ⟨nI_pos (by omega), by rw [arrV_size, nI_clamp (by omega)]; exact hi.1⟩ g1 (fun q h => by rw [g3] at h; cases h) (by rw [g2]; exact hkC) (by rw [g2]; exact va_assign hcls) rfl rfl hd (fun H1 e1 e2 e3 => ?_)
  refine K p e s m args below meth cd C H1 _ ls (hS.put e2 e3 (by rw [ad_ge G k1]; exact Nat.le_add_right _ _)) (hH.put k1 e2 e3 rfl (fun j hj => ⟨rfl, up2_row _ _ _ _ hj⟩) ?_) hl
  rw [hT]
  refine Or.inr (Or.inr (Or.inr ⟨c, rfl, ?_⟩))
  rw [e1, arrV_store, nI_clamp (by omega)]
  congr 2
  funext j
  show updV _ i (.ref (ad G y)) j = rv G (up2 h.2.1 k i (some y) k j)
  rw [up2_own]
  by_cases hj : j = i <;> simp [updV, hj, rv]
theorem V_alen {k : Nat} (hd : decode Y.2.1 pc = .ok (.arraylength, 1)) (hT : h.2.2.1 k = 20) (K : V G Y R F gc gs (pc + 1) L (.int (nI (h.2.2.2.1 k)) :: S) h) : V G Y R F gc gs pc L (.ref k :: S) h := by
  intro p e s m args below meth c C H locs ls hS hH hl
  obtain ⟨k1, k2, k3⟩ := hH.2.2 k (by rw [hT]; decide)
  rw [hT] at k3
  exact W.alen (n := nI (h.2.2.2.1 k)) C.1 C.2.1 k3.i (C.2.2.2.2.2.2.2.2.1.2.1.1 _ _) (by rw [arrV_size] <;> rfl) rfl rfl hd (K p e s m args below meth c C H locs ls hS hH hl)
theorem sf_now {s : State} {m : MethodId} {args : Array Value} {meth : Method} {c : Code} {p : Program} {H : Heap} {locs : List Loc} (C : Cx G Y p s m args meth c) (hS : va_S (AA G) s.heap H locs) : SF G s H :=
  C.2.2.2.2.2.2.2.2.2.1.kept C.2.2.2.2.2.2.2.2.2.2 hS.2.1
theorem V_slen (hd : decode Y.2.1 pc = .ok (.arraylength, 1)) (K : V G Y R F gc gs (pc + 1) L (.int (nI G.2.2.2.2.2.1) :: S) h) : V G Y R F gc gs pc L (.ref 2 :: S) h := by
  intro p e s m args below meth c C H locs ls hS hH hl
  obtain ⟨scr, h1, h2, h3, h4, h5⟩ := (sf_now C hS).2.2.2.2.1
  exact W.alen (n := nI G.2.2.2.2.2.1) C.1 C.2.1 h1 h2 (by rw [h4] <;> rfl) rfl rfl hd (K p e s m args below meth c C H locs ls hS hH hl)
theorem V_sld {x : Int32} (i : Nat) (hd : decode Y.2.1 pc = .ok (.iaload, 1)) (hx : x = nI i) (hi : i < G.2.2.2.2.2.1 ∧ G.2.2.2.2.2.1 < 2147483648) (K : V G Y R F gc gs (pc + 1) L (.int (G.2.2.2.2.2.2 i) :: S) h) : V G Y R F gc gs pc L (.int x :: .ref 2 :: S) h := by
  intro p e s m args below meth c C H locs ls hS hH hl
  subst hx
  obtain ⟨scr, h1, h2, h3, h4, h5⟩ := (sf_now C hS).2.2.2.2.1
  exact W.iald (v := .int (G.2.2.2.2.2.2 i)) C.1 C.2.1 h1 h2 h3 (by rw [h4]; exact in_nI hi) (by rw [nI_clamp (by omega)]; exact h5 i hi.1) rfl rfl hd (K p e s m args below meth c C H locs ls hS hH hl)
theorem V_kald {x : Int32} (i : Nat) (hd : decode Y.2.1 pc = .ok (.iaload, 1)) (hx : x = nI i) (hi : i < 6) (K : V G Y R F gc gs (pc + 1) L (.int (kaT.getD i 0) :: S) h) : V G Y R F gc gs pc L (.int x :: .ref 0 :: S) h := by
  intro p e s m args below meth c C H locs ls hS hH hl
  subst hx
  obtain ⟨cell, h1, h2, h3, h4, h5, h6, h7⟩ := (sf_now C hS).2.2.1
  exact W.iald (v := .int (kaT.getD i 0)) C.1 C.2.1 h1 h2 h3 (fun hh => in_nI (i := i) (n := 6) ⟨hi, by decide⟩ (hh.imp id (Nat.le_trans h4))) (by rw [nI_clamp (by omega)]; exact h6 i hi) rfl rfl hd (K p e s m args below meth c C H locs ls hS hH hl)
theorem V_bald {x : Int32} (i : Nat) (hd : decode Y.2.1 pc = .ok (.iaload, 1)) (hx : x = nI i) (hi : i < 24) (K : V G Y R F gc gs (pc + 1) L (.int (boT.getD i 0) :: S) h) : V G Y R F gc gs pc L (.int x :: .ref 1 :: S) h := by
  intro p e s m args below meth c C H locs ls hS hH hl
  subst hx
  obtain ⟨cell, h1, h2, h3, h4, h5, h6, h7⟩ := (sf_now C hS).2.2.2.1
  exact W.iald (v := .int (boT.getD i 0)) C.1 C.2.1 h1 h2 h3 (fun hh => in_nI (i := i) (n := 24) ⟨hi, by decide⟩ (hh.imp id (Nat.le_trans h4))) (by rw [nI_clamp (by omega)]; exact h6 i hi) rfl rfl hd (K p e s m args below meth c C H locs ls hS hH hl)
theorem V_getsK {idx : Nat} (hd : decode Y.2.1 pc = .ok (.getstatic idx, 3)) (w : Cond.fieldLink Y.1.cls idx "RiverSteamers" "KIND_ABOVE" "[I" ∈ TBg) (K : V G Y R F gc gs (pc + 3) L (.ref 0 :: S) h) : V G Y R F gc gs pc L S h := by
  intro p e s m args below meth c C H locs ls hS hH hl
  exact va_gets C.1 C.2.1 C.2.2.2.2.2.2.2.2.2.1.1 hS C.2.2.2.2.2.2.1 (C.2.2.2.2.2.2.2.1 _ w) (fun _ h => h) hd (K p e s m args below meth c C H locs ls hS hH hl)
theorem V_getsKN {idx : Nat} {host : String} (hd : decode Y.2.1 pc = .ok (.getstatic idx, 3)) (w : Cond.fieldLinkNest Y.1.cls idx "RiverSteamers" "KIND_ABOVE" "[I" host ∈ TBn) (K : V G Y R F gc gs (pc + 3) L (.ref 0 :: S) h) : V G Y R F gc gs pc L S h := by
  intro p e s m args below meth c C H locs ls hS hH hl
  exact va_getsN C.1 C.2.1 C.2.2.2.2.2.2.2.2.2.1.1 hS C.2.2.2.2.2.2.1 (va_Nw.use rfl (C.2.2.2.2.2.2.2.2.1.2.2.2.2 _ w)) (fun _ h => h) hd (K p e s m args below meth c C H locs ls hS hH hl)
theorem V_getsB {idx : Nat} (hd : decode Y.2.1 pc = .ok (.getstatic idx, 3)) (w : Cond.fieldLink Y.1.cls idx "RiverSteamers$Acts" "BODIES" "[I" ∈ TBg) (K : V G Y R F gc gs (pc + 3) L (.ref 1 :: S) h) : V G Y R F gc gs pc L S h := by
  intro p e s m args below meth c C H locs ls hS hH hl
  exact va_gets C.1 C.2.1 C.2.2.2.2.2.2.2.2.2.1.2.1 hS C.2.2.2.2.2.2.1 (C.2.2.2.2.2.2.2.1 _ w) (fun _ h => h) hd (K p e s m args below meth c C H locs ls hS hH hl)
theorem new_S {s : State} {H H1 : Heap} {locs : List Loc} (hS : va_S (AA G) s.heap H locs) (z : H1.size = H.size + 1) (o : ∀ q, q < H.size → H1[q]? = H[q]?) : va_S (AA G) s.heap H1 locs :=
  ⟨Nat.le_trans hS.1 (by omega), fun x h1 h2 => (o x (Nat.lt_of_lt_of_le h1 hS.1)).trans (hS.2.1 x h1 h2), hS.2.2⟩
theorem V_newI {x : Int32} (n : Nat) (hd : decode Y.2.1 pc = .ok (.newarray .int, 2)) (hx : x = nI n) (hn : n < 1000000) (hg : gc + 1 ≤ R.cells ∧ gs + n ≤ R.slots) (w : Cond.arrayClass .int ∈ TBg)
    (K : V G Y R F (gc + 1) (gs + n) (pc + 2) L (.ref h.2.2.2.2 :: S) (nw h 20 n)) : V G Y R F gc gs pc L (.int x :: S) h := by
  intro p e s m args below meth c C H locs ls hS hH hl
  subst hx
  have hcl := nI_clamp (n := n) (by omega)
  refine va_newaK (atype := .int) C.1 C.2.1 (C.2.2.2.2.2.2.2.1 _ w) rfl hd rfl (nI_pos (by omega)) hcl (by show n * 4 ≤ _; omega) hg.1 hg.2 rfl (fun H1 cA e1 z1 o1 a1 f1 => ?_)
  have hcA : cA = G.2.2.2.2.1 0 := Option.some.inj (f1.symm.trans C.2.2.2.2.2.2.2.2.1.2.1.2)
  subst hcA
  have k := K p e s m args below meth c C H1 locs ls (new_S hS z1 o1) (hH.new z1 o1 rfl (fun j hj => by simp [nw, hj]) (by
    refine Or.inr (Or.inl ⟨by simp [nw], ?_⟩)
    rw [e1]
    simp [nw]
    rfl)) hl
  rw [hH.nx]
  exact k
theorem V_newZ {x : Int32} (n : Nat) (hd : decode Y.2.1 pc = .ok (.newarray .boolean, 2)) (hx : x = nI n) (hn : n < 1000000) (hg : gc + 1 ≤ R.cells ∧ gs + n ≤ R.slots) (w : Cond.arrayClass .boolean ∈ TBg)
    (K : V G Y R F (gc + 1) (gs + n) (pc + 2) L (.ref h.2.2.2.2 :: S) (nw h 21 n)) : V G Y R F gc gs pc L (.int x :: S) h := by
  intro p e s m args below meth c C H locs ls hS hH hl
  subst hx
  have hcl := nI_clamp (n := n) (by omega)
  refine va_newaK (atype := .boolean) C.1 C.2.1 (C.2.2.2.2.2.2.2.1 _ w) rfl hd rfl (nI_pos (by omega)) hcl (by show n * 1 ≤ _; omega) hg.1 hg.2 rfl (fun H1 cA e1 z1 o1 a1 f1 => ?_)
  have hcA : cA = G.2.2.2.2.1 1 := Option.some.inj (f1.symm.trans C.2.2.2.2.2.2.2.2.1.2.2.1.2)
  subst hcA
  have k := K p e s m args below meth c C H1 locs ls (new_S hS z1 o1) (hH.new z1 o1 rfl (fun j hj => by simp [nw, hj]) (by
    refine Or.inr (Or.inr (Or.inl ⟨by simp [nw], ?_, fun j _ => Or.inl (by simp [nw])⟩))
    rw [e1]
    simp [nw]
    rfl)) hl
  rw [hH.nx]
  exact k
theorem V_newQ {x : Int32} {idx c : Nat} {q : vw_C} (n : Nat) (hd : decode Y.2.1 pc = .ok (.anewarray idx, 3)) (hc : c ∈ arrCs) (hq : cl_[c]? = some q) (w : Cond.classLink Y.1.cls idx q.1 ∈ TBg) (hx : x = nI n) (hn : n < 1000000) (hg : gc + 1 ≤ R.cells ∧ gs + n ≤ R.slots)
    (K : V G Y R F (gc + 1) (gs + n) (pc + 3) L (.ref h.2.2.2.2 :: S) (nw h (c + 40) n)) : V G Y R F gc gs pc L (.int x :: S) h := by
  intro p e s m args below meth cd C H locs ls hS hH hl
  subst hx
  have hcl := nI_clamp (n := n) (by omega)
  obtain ⟨a1, a2, a3⟩ := C.2.2.2.2.2.2.2.2.1.2.2.2.1 c hc q hq
  refine W.anew C.1 C.2.1 C.2.2.2.2.2.2.1 (C.2.2.2.2.2.2.2.1 _ w) (va_AO.use a3) rfl hd rfl (nI_pos (by omega)) (by rw [hcl]; omega) hg.1 (by rw [hcl]; exact hg.2) (fun cA kA comp f1 f2 f3 f4 => ?_)
  rw [hcl]
  obtain ⟨kA', comp', b1, b2, b3, b4⟩ := a2
  have hcA : cA = G.2.2.2.2.1 (c + 2) := Option.some.inj (f1.symm.trans b4)
  subst hcA
  generalize hH1 : H.push ({ cls := G.2.2.2.2.1 (c + 2), slots := Array.replicate n .null, vm := .none } : Cell) = H1
  have z1 : H1.size = H.size + 1 := by rw [← hH1, Array.size_push]
  have e1 : H1[H.size]? = some (arrV (G.2.2.2.2.1 (c + 2)) n (fun _ => .null)) := by rw [← hH1, Array.getElem?_push_size, ← arrV_new]
  have o1 : ∀ q : Nat, q < H.size → H1[q]? = H[q]? := fun q hq => by rw [← hH1, Array.getElem?_push, if_neg (Nat.ne_of_lt hq)]
  have k := K p e s m args below meth cd C H1 locs ls (new_S hS z1 o1) (hH.new z1 o1 rfl (fun j hj => by simp [nw, hj]) (by
    refine Or.inr (Or.inr (Or.inr ⟨c, by simp [nw], ?_⟩))
    rw [e1]
    simp [nw, rv])) hl
  rw [hH.nx]
  exact k
theorem V_newC {idx c : Nat} {q : vw_C} (hd : decode Y.2.1 pc = .ok (.new idx, 3)) (hq : cl_[c]? = some q) (w1 : Cond.classLink Y.1.cls idx q.1 ∈ TBg) (w2 : Cond.instantiable q.1 q.2.2 ∈ TBg) (w3 : Cond.initialized q.1 ∈ TBg)
    (hz : ∀ ty : Nat → FieldType, (∀ k, k < q.2.2 → parseFieldDescriptor (q.2.1 k).2.2.1 = some (ty k)) → ∀ j, j < q.2.2 → defaultValue (ty j) = if isR c j = true then .null else .int 0) (hg : gc + 1 ≤ R.cells ∧ gs + q.2.2 ≤ R.slots)
    (K : V G Y R F (gc + 1) (gs + q.2.2) (pc + 3) L (.ref h.2.2.2.2 :: S) (nw h (c + 1) 0)) : V G Y R F gc gs pc L S h := by
  intro p e s m args below meth cd C H locs ls hS hH hl
  have hts := C.2.2.2.2.2.2.2.1
  have hKn := C.2.2.2.2.2.2.2.2.1.1 c q hq
  obtain ⟨ty, hty⟩ := cl_ty c q hq
  refine W.newcK C.1 C.2.1 C.2.2.2.2.2.2.1 (hts _ w1) (hts _ w2) (hts _ w3) rfl hd hg.1 hg.2 hKn.2.1 rfl (fun H1 kC hkC e1 z1 o1 => ?_)
  have k := K p e s m args below meth cd C H1 locs ls (new_S hS z1 o1) (hH.new z1 o1 rfl (fun j hj => by simp [nw, hj]) (by
    refine Or.inl ⟨c, q, by simp [nw], hq, (u_born ty hts (cl_in c q hq) hKn hkC e1 hty).to (fun j hj => ?_), fun _ => Or.inl (by simp [nw])⟩
    rw [hz ty hty j hj]
    simp [nw, rv])) hl
  rw [hH.nx]
  exact k
/-- what the heap says may be used -/
theorem V_hr {P : Prop} (hP : ∀ H, HR G h H → P) (K : P → V G Y R F gc gs pc L S h) : V G Y R F gc gs pc L S h := by
  intro p e s m args below meth c C H locs ls hS hH hl
  exact K (hP H hH) p e s m args below meth c C H locs ls hS hH hl
end RA
