/-! ===== what to lade: all sets in rising order, and the sets of those bales that are there ===== -/
def foldN (g : Nat → Nat → Nat) (b : Nat) : Nat → Nat
  | 0 => b
  | n + 1 => g n (foldN g b n)
theorem foldN_add (g : Nat → Nat → Nat) (b a : Nat) : ∀ c, foldN g b (a + c) = foldN (fun s => g (a + s)) (foldN g b a) c
  | 0 => rfl
  | c + 1 => by
    show g (a + c) (foldN g b (a + c)) = g (a + c) _
    rw [foldN_add g b a c]
theorem foldN_cg {g g' : Nat → Nat → Nat} {b : Nat} : ∀ {n : Nat}, (∀ s, s < n → ∀ b, g s b = g' s b) → foldN g b n = foldN g' b n
  | 0, _ => rfl
  | n + 1, h => by rw [foldN, foldN, foldN_cg (fun s hs => h s (by omega)), h n (by omega)]
theorem foldN_id {g : Nat → Nat → Nat} {b : Nat} : ∀ {n : Nat}, (∀ s, s < n → ∀ b, g s b = b) → foldN g b n = b
  | 0, _ => rfl
  | n + 1, h => by rw [foldN, foldN_id (fun s hs => h s (by omega)), h n (by omega)]
theorem cnt_s1 {p : Nat → Bool} {n : Nat} (h : p n = true) : cnt p (n + 1) = cnt p n + 1 := by rw [cnt, if_pos h]
theorem cnt_s0 {p : Nat → Bool} {n : Nat} (h : ¬ p n = true) : cnt p (n + 1) = cnt p n := by rw [cnt, if_neg h, Nat.add_zero]
theorem cnt_inc {p : Nat → Bool} {m : Nat} : ∀ {n : Nat}, m ≤ n → cnt p m ≤ cnt p n
  | 0, h => by rw [show m = 0 by omega]; exact Nat.le_refl _
  | n + 1, h => by
    by_cases c : m = n + 1
    · rw [c]; exact Nat.le_refl _
    · have := cnt_inc (p := p) (m := m) (n := n) (by omega)
      rw [cnt]; omega
/-- the bits of k laid to the places that have p -/
def pd (p : Nat → Bool) : Nat → Nat → Nat
  | 0, _ => 0
  | n + 1, k => if p n = true ∧ k.testBit (cnt p n) = true then 2 ^ n + pd p n k else pd p n k
theorem pd_y {p : Nat → Bool} {n k : Nat} (h : p n = true ∧ k.testBit (cnt p n) = true) : pd p (n + 1) k = 2 ^ n + pd p n k := by rw [pd, if_pos h]
theorem pd_n {p : Nat → Bool} {n k : Nat} (h : ¬ (p n = true ∧ k.testBit (cnt p n) = true)) : pd p (n + 1) k = pd p n k := by rw [pd, if_neg h]
theorem pd_lt (p : Nat → Bool) (k : Nat) : ∀ n, pd p n k < 2 ^ n
  | 0 => by show 0 < 2 ^ 0; decide
  | n + 1 => by
    have h := pd_lt p k n
    rw [pd, Nat.pow_succ]
    split <;> omega
theorem pd_cg {p : Nat → Bool} {k l : Nat} : ∀ n, (∀ i, i < cnt p n → k.testBit i = l.testBit i) → pd p n k = pd p n l
  | 0, _ => rfl
  | n + 1, h => by
    have ih := pd_cg (p := p) (k := k) (l := l) n (fun i hi => h i (Nat.lt_of_lt_of_le hi (cnt_inc (Nat.le_succ n))))
    by_cases c : p n = true
    · rw [pd, pd, ih, h (cnt p n) (by rw [cnt_s1 c]; omega)]
    · rw [pd_n (fun w => c w.1), pd_n (fun w => c w.1), ih]
theorem pd_0 (p : Nat → Bool) : ∀ n, pd p n 0 = 0
  | 0 => rfl
  | n + 1 => by rw [pd_n (fun w => by rw [Nat.zero_testBit] at w; exact absurd w.2 (by decide)), pd_0 p n]
theorem tb_lt {x i : Nat} (h : x < 2 ^ i) : x.testBit i = false := Nat.testBit_lt_two_pow h
theorem sub_lo {p : Nat → Bool} {n s : Nat} (hs : s < 2 ^ n) : an s (bS p (n + 1)) = 0 ↔ an s (bS p n) = 0 := by
  rw [an_0, an_0]
  constructor
  · intro h i hi
    have k := h i hi
    have hin : i < n := Classical.byContradiction fun w => by
      rw [tb_lt (Nat.lt_of_lt_of_le hs (Nat.pow_le_pow_right (by decide) (by omega)))] at hi; cases hi
    rw [bS_bit, Bool.and_eq_true] at k ⊢
    exact ⟨decide_eq_true hin, k.2⟩
  · intro h i hi
    have k := h i hi
    rw [bS_bit, Bool.and_eq_true, decide_eq_true_iff] at k ⊢
    exact ⟨by omega, k.2⟩
theorem tb_top {n s i : Nat} (hs : s < 2 ^ n) : (2 ^ n + s).testBit i = if i = n then true else s.testBit i := by
  by_cases c : i = n
  · subst c; rw [if_pos rfl, Nat.testBit_two_pow_add_eq, tb_lt hs]; rfl
  · rw [if_neg c]
    rcases Nat.lt_or_ge i n with h | h
    · exact Nat.testBit_two_pow_add_gt h s
    · have h1 : (2 : Nat) ^ (n + 1) ≤ 2 ^ i := Nat.pow_le_pow_right (by decide) (by omega)
      rw [Nat.pow_succ] at h1
      rw [tb_lt (by omega), tb_lt (by omega)]
theorem sub_hi {p : Nat → Bool} {n s : Nat} (hs : s < 2 ^ n) : an (2 ^ n + s) (bS p (n + 1)) = 0 ↔ p n = true ∧ an s (bS p n) = 0 := by
  rw [an_0, an_0]
  constructor
  · intro h
    have k := h n (by rw [tb_top hs, if_pos rfl])
    rw [bS_bit, Bool.and_eq_true] at k
    refine ⟨k.2, fun i hi => ?_⟩
    have hin : i < n := Classical.byContradiction fun w => by
      rw [tb_lt (Nat.lt_of_lt_of_le hs (Nat.pow_le_pow_right (by decide) (by omega)))] at hi; cases hi
    have k2 := h i (by rw [tb_top hs, if_neg (by omega)]; exact hi)
    rw [bS_bit, Bool.and_eq_true] at k2 ⊢
    exact ⟨decide_eq_true hin, k2.2⟩
  · rintro ⟨h1, h2⟩ i hi
    rw [bS_bit, Bool.and_eq_true, decide_eq_true_iff]
    rw [tb_top hs] at hi
    by_cases c : i = n
    · subst c; exact ⟨by omega, h1⟩
    · rw [if_neg c] at hi
      have k := h2 i hi
      rw [bS_bit, Bool.and_eq_true, decide_eq_true_iff] at k
      exact ⟨by omega, k.2⟩
theorem pd_lo {p : Nat → Bool} {n k : Nat} (hk : k < 2 ^ (cnt p n)) : pd p (n + 1) k = pd p n k := pd_n (fun w => by rw [tb_lt hk] at w; exact absurd w.2 (by decide))
theorem pd_hi {p : Nat → Bool} {n k : Nat} (hp : p n = true) (hk : k < 2 ^ (cnt p n)) : pd p (n + 1) (2 ^ (cnt p n) + k) = 2 ^ n + pd p n k := by
  rw [pd_y ⟨hp, by rw [tb_top hk, if_pos rfl]⟩, pd_cg (l := k) n (fun i hi => by rw [tb_top hk, if_neg (by omega)])]
/-- all sets below 2 ^ n, those skipped that are none of p: the same as the sets of p's places alone -/
theorem fold_pd (p : Nat → Bool) : ∀ (n : Nat) (f : Nat → Nat → Nat) (b : Nat), foldN (fun s b => if an s (bS p n) = 0 then f s b else b) b (2 ^ n) = foldN (fun k b => f (pd p n k) b) b (2 ^ (cnt p n))
  | 0, f, b => by
    have e1 : ∀ g : Nat → Nat → Nat, foldN g b (2 ^ 0) = g 0 b := fun g => rfl
    rw [e1, show cnt p 0 = 0 from rfl, e1]
    show (if an 0 (bS p 0) = 0 then f 0 b else b) = f (pd p 0 0) b
    rw [if_pos (an_0.mpr (fun i hi => by rw [Nat.zero_testBit] at hi; cases hi))]
    rfl
  | n + 1, f, b => by
    rw [Nat.pow_succ, Nat.mul_two, foldN_add]
    rw [foldN_cg (n := 2 ^ n) (b := b) (g' := fun s b => if an s (bS p n) = 0 then f s b else b) (fun s hs b => by simp only [sub_lo hs]), fold_pd p n f b]
    by_cases c : p n = true
    · rw [foldN_cg (n := 2 ^ n) (g' := fun s b => if an s (bS p n) = 0 then f (2 ^ n + s) b else b) (fun s hs b => by simp only [sub_hi hs, c, true_and]), fold_pd p n (fun s => f (2 ^ n + s)), cnt_s1 c, Nat.pow_succ, Nat.mul_two, foldN_add]
      rw [foldN_cg (n := 2 ^ (cnt p n)) (b := b) (g := fun k b => f (pd p (n + 1) k) b) (g' := fun k b => f (pd p n k) b) (fun k hk b => by simp only [pd_lo hk])]
      exact (foldN_cg (fun k hk b => by simp only [pd_hi c hk])).symm
    · rw [foldN_id (n := 2 ^ n) (fun s hs b => by simp only [sub_hi hs, c, false_and, if_false, Bool.false_eq_true]), cnt_s0 c]
      exact (foldN_cg (fun k hk b => by simp only [pd_n (p := p) (n := n) (k := k) (fun w => c w.1)])).symm
/-- the numbers v at the places of q, added; and so with exclusive or -/
def sm (v : Nat → Nat) (q : Nat → Bool) : Nat → Nat
  | 0 => 0
  | n + 1 => sm v q n + (if q n = true then v n else 0)
def xs (v : Nat → Nat) (q : Nat → Bool) : Nat → Nat
  | 0 => 0
  | n + 1 => xs v q n ^^^ (if q n = true then v n else 0)
theorem sm_cg {v : Nat → Nat} {q q' : Nat → Bool} : ∀ {n : Nat}, (∀ i, i < n → q i = q' i) → sm v q n = sm v q' n
  | 0, _ => rfl
  | n + 1, h => by rw [sm, sm, sm_cg (fun i hi => h i (by omega)), h n (by omega)]
theorem xs_cg {v : Nat → Nat} {q q' : Nat → Bool} : ∀ {n : Nat}, (∀ i, i < n → q i = q' i) → xs v q n = xs v q' n
  | 0, _ => rfl
  | n + 1, h => by rw [xs, xs, xs_cg (fun i hi => h i (by omega)), h n (by omega)]
theorem sm_le {v : Nat → Nat} {q : Nat → Bool} {c : Nat} : ∀ {n : Nat}, (∀ i, i < n → v i ≤ c) → sm v q n ≤ c * n
  | 0, _ => Nat.zero_le _
  | n + 1, h => by
    have a := sm_le (q := q) (n := n) (fun i hi => h i (by omega))
    have b := h n (by omega)
    rw [sm, Nat.mul_succ]
    split <;> omega
theorem sm_0 {v : Nat → Nat} : ∀ {n : Nat}, sm v (fun i => (0 : Nat).testBit i) n = 0
  | 0 => rfl
  | n + 1 => by rw [sm, sm_0, if_neg (by rw [Nat.zero_testBit]; decide)]
theorem sm_fl {v : Nat → Nat} {q q' : Nat → Bool} {j : Nat} (h : ∀ i, i ≠ j → q' i = q i) (h0 : ¬ q j = true) (h1 : q' j = true) : ∀ {n : Nat}, j < n → sm v q' n = sm v q n + v j
  | 0, hn => absurd hn (by omega)
  | n + 1, hn => by
    rw [sm, sm]
    by_cases c : j = n
    · subst c
      rw [sm_cg (q := q') (q' := q) (fun i hi => h i (by omega)), if_pos h1, if_neg h0]; rfl
    · rw [sm_fl h h0 h1 (by omega), h n (by omega)]; omega
theorem xs_fl {v : Nat → Nat} {q q' : Nat → Bool} {j : Nat} (h : ∀ i, i ≠ j → q' i = q i) (h1 : q' j = !q j) : ∀ {n : Nat}, j < n → xs v q' n = xs v q n ^^^ v j
  | 0, hn => absurd hn (by omega)
  | n + 1, hn => by
    rw [xs, xs]
    by_cases c : j = n
    · subst c
      rw [xs_cg (q := q') (q' := q) (fun i hi => h i (by omega)), h1]
      cases q j
      · simp
      · simp [Nat.xor_assoc]
    · rw [xs_fl h h1 (by omega), h n (by omega), Nat.xor_assoc, Nat.xor_comm (v j), ← Nat.xor_assoc]
theorem xor_top {n x : Nat} (h : x < 2 ^ n) : x ^^^ 2 ^ n = 2 ^ n + x := Nat.eq_of_testBit_eq fun i => by
  rw [Nat.testBit_xor, tb_top h, Nat.testBit_two_pow]
  by_cases c : i = n
  · subst c; rw [tb_lt h, if_pos rfl]; simp
  · rw [if_neg c, decide_eq_false (fun e => c e.symm), Bool.xor_false]
/-- the place of the i-th of p -/
def ch (p : Nat → Bool) : Nat → Nat → Nat
  | 0, _ => 0
  | n + 1, i => if p n = true ∧ i = cnt p n then n else ch p n i
theorem ch_lt {p : Nat → Bool} {i : Nat} : ∀ {n : Nat}, i < cnt p n → ch p n i < n
  | 0, h => absurd h (by simp [cnt])
  | n + 1, h => by
    rw [ch]
    split
    · omega
    · rename_i w
      have : i < cnt p n := by
        by_cases c : p n = true
        · rw [cnt_s1 c] at h
          have : ¬ i = cnt p n := fun e => w ⟨c, e⟩
          omega
        · rw [cnt_s0 c] at h; exact h
      have := ch_lt (p := p) (i := i) (n := n) this
      omega
theorem ch_at {p : Nat → Bool} {k : Nat} (hp : p k = true) : ∀ {n : Nat}, k < n → ch p n (cnt p k) = k
  | 0, h => absurd h (by omega)
  | n + 1, h => by
    rw [ch]
    by_cases c : k = n
    · subst c; rw [if_pos ⟨hp, rfl⟩]
    · have h1 : cnt p (k + 1) ≤ cnt p n := cnt_inc (by omega)
      rw [cnt_s1 hp] at h1
      rw [if_neg (fun w => by omega)]
      exact ch_at hp (by omega)
theorem sm_pd {p : Nat → Bool} {v : Nat → Nat} {N k : Nat} : ∀ {n : Nat}, n ≤ N → sm (fun i => v (ch p N i)) (fun i => k.testBit i) (cnt p n) = sm v (fun i => (pd p n k).testBit i) n
  | 0, _ => rfl
  | n + 1, h => by
    have ih := sm_pd (p := p) (v := v) (N := N) (k := k) (n := n) (by omega)
    have hl := pd_lt p k n
    by_cases c : p n = true
    · rw [cnt_s1 c, sm, ih, ch_at c (by omega), sm]
      by_cases d : k.testBit (cnt p n) = true
      · have e := pd_y ⟨c, d⟩
        rw [if_pos d, e, sm_cg (q := fun i => (2 ^ n + pd p n k).testBit i) (q' := fun i => (pd p n k).testBit i) (fun i hi => by show (2 ^ n + pd p n k).testBit i = _; rw [tb_top hl, if_neg (by omega)]), if_pos (by rw [tb_top hl, if_pos rfl])]
      · have e : pd p (n + 1) k = pd p n k := pd_n (fun w => d w.2)
        rw [if_neg d, e, if_neg (by rw [tb_lt hl]; decide)]
    · have e : pd p (n + 1) k = pd p n k := pd_n (fun w => c w.1)
      rw [cnt_s0 c, ih, sm, e, if_neg (by rw [tb_lt hl]; decide)]; rfl
theorem xs_pd {p : Nat → Bool} {N k : Nat} : ∀ {n : Nat}, n ≤ N → xs (fun i => 2 ^ (ch p N i)) (fun i => k.testBit i) (cnt p n) = pd p n k
  | 0, _ => rfl
  | n + 1, h => by
    have ih := xs_pd (p := p) (N := N) (k := k) (n := n) (by omega)
    have hl := pd_lt p k n
    by_cases c : p n = true
    · rw [cnt_s1 c, xs, ih, ch_at c (by omega)]
      by_cases d : k.testBit (cnt p n) = true
      · rw [if_pos d, pd_y ⟨c, d⟩, xor_top hl]
      · rw [if_neg d, pd_n (fun w => d w.2), Nat.xor_zero]
    · rw [cnt_s0 c, ih, pd_n (fun w => c w.1)]
/-- from one set to the next: its bits ahead of j, the last one's from j on -/
def mx (k j i : Nat) : Bool := if i < j then k.testBit i else (k - 1).testBit i
theorem mx_0 {k : Nat} : mx k 0 = fun i => (k - 1).testBit i := by funext i; simp [mx]
theorem mx_ne {k j i : Nat} (h : i ≠ j) : mx k (j + 1) i = mx k j i := by
  unfold mx
  by_cases c : i < j
  · rw [if_pos (by omega), if_pos c]
  · rw [if_neg (by omega), if_neg c]
theorem mx_o {k j : Nat} : mx k j j = (k - 1).testBit j := by rw [mx, if_neg (by omega)]
theorem mx_n {k j : Nat} : mx k (j + 1) j = k.testBit j := by rw [mx, if_pos (by omega)]
theorem tb_stay {k i : Nat} (hk : 1 ≤ k) (h : k.testBit i = (k - 1).testBit i) : ∀ j, i ≤ j → k.testBit j = (k - 1).testBit j := by
  have e : k / 2 ^ i = (k - 1) / 2 ^ i := by
    have h1 : (k - 1) / 2 ^ i ≤ k / 2 ^ i := Nat.div_le_div_right (by omega)
    have h2 : k / 2 ^ i ≤ (k - 1) / 2 ^ i + 1 := by
      have hp : 0 < 2 ^ i := Nat.two_pow_pos i
      rw [← Nat.add_div_right _ hp]
      exact Nat.div_le_div_right (by omega)
    rw [Nat.testBit_eq_decide_div_mod_eq, Nat.testBit_eq_decide_div_mod_eq, decide_eq_decide] at h
    omega
  intro j hj
  obtain ⟨d, rfl⟩ : ∃ d, j = i + d := ⟨j - i, by omega⟩
  rw [Nat.testBit_eq_decide_div_mod_eq, Nat.testBit_eq_decide_div_mod_eq, Nat.pow_add, ← Nat.div_div_eq_div_mul, ← Nat.div_div_eq_div_mul, e]
theorem mx_end {k j i : Nat} (hk : 1 ≤ k) (h : ¬ (k ^^^ (k - 1)).testBit j = true) : mx k j i = k.testBit i := by
  rw [mx]
  split
  · rfl
  · refine (tb_stay (i := j) hk ?_ i (by omega)).symm
    rw [Nat.testBit_xor] at h
    cases c : k.testBit j <;> cases d : (k - 1).testBit j <;> simp [c, d] at h ⊢
theorem ch_bit {k j : Nat} (h : (k ^^^ (k - 1)).testBit j = true) : k.testBit j = !(k - 1).testBit j := by
  rw [Nat.testBit_xor] at h
  cases c : k.testBit j <;> cases d : (k - 1).testBit j <;> simp [c, d] at h ⊢
abbrev sn (v : Nat → Nat) (n s : Nat) : Nat := sm v (fun i => s.testBit i) n
theorem sn_0 {v : Nat → Nat} {n : Nat} : sn v n 0 = 0 := sm_0
/-- set s is taken, if it may be laded and is better than set c -/
def lf (v w : Nat → Nat) (n A rm hl : Nat) (z : Int32) (s c : Nat) : Nat := if (A + sn w n s ≤ rm ∧ ((hl + (A + sn w n s) / 10 : Nat) : Int) ≤ z.toInt) ∧ (sn v n c < sn v n s ∨ (sn v n s = sn v n c ∧ sn w n s < sn w n c)) then s else c
theorem lf_y {v w : Nat → Nat} {n A rm hl s c : Nat} {z : Int32} (h1 : A + sn w n s ≤ rm ∧ ((hl + (A + sn w n s) / 10 : Nat) : Int) ≤ z.toInt) (h2 : sn v n c < sn v n s ∨ (sn v n s = sn v n c ∧ sn w n s < sn w n c)) : lf v w n A rm hl z s c = s := by rw [lf, if_pos ⟨h1, h2⟩]
theorem lf_n1 {v w : Nat → Nat} {n A rm hl s c : Nat} {z : Int32} (h1 : ¬ (A + sn w n s ≤ rm ∧ ((hl + (A + sn w n s) / 10 : Nat) : Int) ≤ z.toInt)) : lf v w n A rm hl z s c = c := by rw [lf, if_neg (fun q => h1 q.1)]
theorem lf_n2 {v w : Nat → Nat} {n A rm hl s c : Nat} {z : Int32} (h2 : ¬ (sn v n c < sn v n s ∨ (sn v n s = sn v n c ∧ sn w n s < sn w n c))) : lf v w n A rm hl z s c = c := by rw [lf, if_neg (fun q => h2 q.2)]
theorem lf_0 {v w : Nat → Nat} {n A rm hl : Nat} {z : Int32} : lf v w n A rm hl z 0 0 = 0 := by rw [lf]; split <;> rfl
theorem lf_le {v w : Nat → Nat} {n A rm hl s c : Nat} {z : Int32} : lf v w n A rm hl z s c ≤ max s c := by rw [lf]; split <;> omega
/-- after the class's first k sets -/
def bC (v w : Nat → Nat) (p : Nat → Bool) (n A rm hl : Nat) (z : Int32) (k : Nat) : Nat := foldN (fun k c => lf v w n A rm hl z (pd p n k) c) 0 k
def bM (v w : Nat → Nat) (p : Nat → Bool) (n A rm hl : Nat) (z : Int32) (k : Nat) : Nat := foldN (fun s c => if an s (bS p n) = 0 then lf v w n A rm hl z s c else c) 0 k
theorem bC_s {v w : Nat → Nat} {p : Nat → Bool} {n A rm hl k c : Nat} {z : Int32} (h : lf v w n A rm hl z (pd p n k) (bC v w p n A rm hl z k) = c) : bC v w p n A rm hl z (k + 1) = c := h
theorem bC_1 {v w : Nat → Nat} {p : Nat → Bool} {n A rm hl : Nat} {z : Int32} : bC v w p n A rm hl z 1 = 0 := by
  show lf v w n A rm hl z (pd p n 0) 0 = 0
  rw [pd_0]; exact lf_0
theorem bM_y {v w : Nat → Nat} {p : Nat → Bool} {n A rm hl k c : Nat} {z : Int32} (h0 : an k (bS p n) = 0) (h : lf v w n A rm hl z k (bM v w p n A rm hl z k) = c) : bM v w p n A rm hl z (k + 1) = c := (if_pos h0).trans h
theorem bM_n {v w : Nat → Nat} {p : Nat → Bool} {n A rm hl k : Nat} {z : Int32} (h0 : ¬ an k (bS p n) = 0) : bM v w p n A rm hl z (k + 1) = bM v w p n A rm hl z k := if_neg h0
theorem bM_1 {v w : Nat → Nat} {p : Nat → Bool} {n A rm hl : Nat} {z : Int32} : bM v w p n A rm hl z 1 = 0 := by
  show (if an 0 (bS p n) = 0 then lf v w n A rm hl z 0 0 else 0) = 0
  rw [lf_0]; split <;> rfl
theorem bM_le {v w : Nat → Nat} {p : Nat → Bool} {n A rm hl : Nat} {z : Int32} : ∀ k, bM v w p n A rm hl z k ≤ k
  | 0 => Nat.le_refl _
  | k + 1 => by
    have ih := bM_le (v := v) (w := w) (p := p) (n := n) (A := A) (rm := rm) (hl := hl) (z := z) k
    by_cases c : an k (bS p n) = 0
    · rw [bM_y c rfl]
      have := lf_le (v := v) (w := w) (n := n) (A := A) (rm := rm) (hl := hl) (z := z) (s := k) (c := bM v w p n A rm hl z k)
      omega
    · rw [bM_n c]; omega
theorem bMC {v w : Nat → Nat} {p : Nat → Bool} {n A rm hl : Nat} {z : Int32} : bM v w p n A rm hl z (2 ^ n) = bC v w p n A rm hl z (2 ^ (cnt p n)) := fold_pd p n _ 0
theorem bS_y {p : Nat → Bool} {j : Nat} (hj : j < 31) (h : p j = true) : nI (bS p j) ||| ((1 : Int32) <<< (nI j &&& 31)) = nI (bS p (j + 1)) := by rw [bn_shl j hj, bn_or, bS, if_pos h]
theorem bS_no {p : Nat → Bool} {j : Nat} (h : ¬ p j = true) : nI (bS p j) ||| 0 = nI (bS p (j + 1)) := by
  show nI _ ||| nI 0 = _
  rw [bn_or, bS, if_neg h]
theorem ng_nI (a c : Nat) : nI (a + c) + -(nI c) = nI a := by rw [← Int32.sub_eq_add_neg, ← nI_add, Int32.add_sub_cancel]
theorem as_nI (a c : Nat) : nI (a + c) - nI a = nI c := by rw [pk_sub (Nat.le_add_right a c), Nat.add_sub_cancel_left]
theorem sub_0 {a c : Nat} (ha : a < 2 ^ 31) (hc : c < 2 ^ 31) : nI a - nI c = 0 ↔ a = c := by
  rw [← nI_eq ha hc]
  constructor
  · intro h
    have : nI a - nI c + nI c = 0 + nI c := by rw [h]
    rwa [Int32.sub_add_cancel, Int32.zero_add] at this
  · intro h; rw [h, Int32.sub_self]
theorem p2_12 {n : Nat} (h : n ≤ 12) : 2 ^ n ≤ 4096 := (Nat.pow_le_pow_right (by decide) h : 2 ^ n ≤ 2 ^ 12)
/-- bale k lies at landing y -/
def tp (V : Sg) (y : Int32) (k : Nat) : Bool := decide (V 163 k = 0 ∧ V 164 k = y)
def chF (σ : Sg) (p : Nat → Bool) : Nat → Sg
  | 0 => σ
  | n + 1 => if p n = true then up2 (chF σ p n) 130 (cnt p n) (nI n) else chF σ p n
theorem chF_y {σ : Sg} {p : Nat → Bool} {n : Nat} (h : p n = true) : up2 (chF σ p n) 130 (cnt p n) (nI n) = chF σ p (n + 1) := (if_pos h).symm
theorem chF_no {σ : Sg} {p : Nat → Bool} {n : Nat} (h : ¬ p n = true) : chF σ p n = chF σ p (n + 1) := (if_neg h).symm
theorem chF_o {σ : Sg} {p : Nat → Bool} {a i : Nat} (h : a ≠ 130) : ∀ {n : Nat}, chF σ p n a i = σ a i
  | 0 => rfl
  | n + 1 => by
    rw [chF]
    split
    · rw [up2_n (by omega)]; exact chF_o h
    · exact chF_o h
theorem chF_c {σ : Sg} {p : Nat → Bool} {i : Nat} : ∀ {n : Nat}, i < cnt p n → chF σ p n 130 i = nI (ch p n i)
  | 0, h => absurd h (by simp [cnt])
  | n + 1, h => by
    by_cases c : p n = true
    · rw [← chF_y c, ch]
      by_cases e : i = cnt p n
      · rw [if_pos ⟨c, e⟩, up2_e ⟨rfl, e⟩]
      · rw [if_neg (fun w => e w.2), up2_n (by omega)]
        exact chF_c (by rw [cnt_s1 c] at h; omega)
    · rw [← chF_no c, ch, if_neg (fun w => c w.1)]
      exact chF_c (by rw [cnt_s0 c] at h; exact h)
/-- what is known of bale k: its rate v k, its weight w k -/
def BK (σ : Sg) (v w : Nat → Nat) (k : Nat) : Prop := σ (97 + k) 2 = nI (v k) ∧ v k ≤ 999 ∧ σ (97 + k) 1 = nI (w k) ∧ w k ≤ 200
def BN (σ : Sg) (v w : Nat → Nat) (k : Nat) : Prop := σ 162 k = nI (v k) ∧ v k ≤ 999 ∧ σ 161 k = nI (w k) ∧ w k ≤ 200
def rtv (V : Sg) (k : Nat) : Nat := (V 162 k).toNatClampNeg
def wtv (V : Sg) (k : Nat) : Nat := (V 161 k).toNatClampNeg
theorem BN_of {ρ σ : Sg} {ns nb nl : Nat} (h : cA ρ 4 σ ns nb nl) : ∀ k, k < nl → BN σ (rtv σ) (wtv σ) k := fun k hk => by
  obtain ⟨-, -, ⟨x, h1, h2, ex⟩, ⟨y, hy, ey⟩, -⟩ := h k hk
  refine ⟨by rw [rtv, ey, nI_clamp (by omega)], by rw [rtv, ey, nI_clamp (by omega)]; omega, by rw [wtv, ex, nI_clamp (by omega)], by rw [wtv, ex, nI_clamp (by omega)]; omega⟩
theorem BK_of {σ : Sg} {ns nb nl : Nat} (h : cA σ 4 σ ns nb nl) : ∀ k, k < nl → BK σ (rtv σ) (wtv σ) k := fun k hk => by
  obtain ⟨g1, g2, g3, g4⟩ := BN_of h k hk
  have f := cA_f h hk
  exact ⟨f.2.2.1.trans g1, g2, f.2.1.trans g3, g4⟩
theorem fit_iff {s4 s1 s0 z : Int32} {A rm hl W : Nat} (e4 : s4 = nI A) (e1 : s1 = nI rm) (e0 : s0 = nI hl) (hA : A ≤ 3000) (hr : rm ≤ 999) (hh : hl ≤ 30) (hW : W ≤ 3000) : ((s4 + nI W).toInt ≤ s1.toInt ∧ (s0 + (s4 + nI W) / nI 10).toInt ≤ z.toInt) ↔ (A + W ≤ rm ∧ ((hl + (A + W) / 10 : Nat) : Int) ≤ z.toInt) := by
  rw [e4, e1, e0, nI_add, pk_div (by omega) (by decide) (by decide), nI_add, nI_toInt (by omega), nI_toInt (by omega), nI_toInt (by omega)]
  constructor
  · rintro ⟨a, c⟩; exact ⟨by omega, c⟩
  · rintro ⟨a, c⟩; exact ⟨by omega, c⟩
/-- the best set for boat i and water z -/
def ldR (V : Sg) (i nl : Nat) (z : Int32) : Nat := bM (rtv V) (wtv V) (tp V (V 153 i)) nl (aboS V i nl).toNatClampNeg (V 150 i).toNatClampNeg (V 149 i).toNatClampNeg z (2 ^ nl)
