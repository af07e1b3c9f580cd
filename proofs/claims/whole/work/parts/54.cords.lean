/-! ===== wood at least cost ===== -/
def von (w : Nat → Nat) (d c : Nat) : Nat := if c < d then 1000000000 else w (c - d)
/-- the least cost and how many cords, of the first n numbers of cords -/
def bmf (w : Nat → Nat) (p d c : Nat) : Nat → Nat × Nat
  | 0 => (1000000000, 0)
  | n + 1 => if von w d (c + n) < 1000000000 ∧ von w d (c + n) + n * p < (bmf w p d c n).1 then (von w d (c + n) + n * p, n) else bmf w p d c n
def kmx (p T c : Nat) : Nat := if p = 0 then 1 else T - c + 1
/-- by stretches that are left: the row of least costs -/
def wR (P N : Nat → Nat) (T L : Nat) : Nat → Nat → Nat
  | 0, _ => 0
  | r + 1, c => (bmf (wR P N T L r) (P (L - (r + 1))) (N (L - (r + 1))) c (kmx (P (L - (r + 1))) T c)).1
def wv (P N : Nat → Nat) (T L i : Nat) : Nat → Nat := wR P N T L (L - i)
def bR (P N : Nat → Nat) (T L i c : Nat) : Nat := (bmf (wv P N T L (i + 1)) (P i) (N i) c (kmx (P i) T c)).2
theorem bmf_y {w : Nat → Nat} {p d c n : Nat} (h : von w d (c + n) < 1000000000 ∧ von w d (c + n) + n * p < (bmf w p d c n).1) : bmf w p d c (n + 1) = (von w d (c + n) + n * p, n) := by rw [bmf, if_pos h]
theorem bmf_n {w : Nat → Nat} {p d c n : Nat} (h : ¬ (von w d (c + n) < 1000000000 ∧ von w d (c + n) + n * p < (bmf w p d c n).1)) : bmf w p d c (n + 1) = bmf w p d c n := by rw [bmf, if_neg h]
theorem wv_L {P N : Nat → Nat} {T L c : Nat} : wv P N T L L c = 0 := by rw [wv, Nat.sub_self]; rfl
theorem wv_s {P N : Nat → Nat} {T L i : Nat} (hi : i < L) (c : Nat) : wv P N T L i c = (bmf (wv P N T L (i + 1)) (P i) (N i) c (kmx (P i) T c)).1 := by
  obtain ⟨r, hr⟩ : ∃ r, L - i = r + 1 := ⟨L - i - 1, by omega⟩
  have h1 : L - (i + 1) = r := by omega
  have h2 : L - (r + 1) = i := by omega
  unfold wv
  rw [hr, h1, wR, h2]
theorem von_b {w : Nat → Nat} {d c B : Nat} (hw : ∀ x, w x = 1000000000 ∨ w x ≤ B) : von w d c = 1000000000 ∨ von w d c ≤ B := by
  rw [von]
  split
  · exact Or.inl rfl
  · exact hw _
theorem mul99 {n p : Nat} (hn : n ≤ 99) (hp : p ≤ 99) : n * p ≤ 9801 := Nat.mul_le_mul hn hp
theorem bmf_b {w : Nat → Nat} {p d c B : Nat} (hw : ∀ x, w x = 1000000000 ∨ w x ≤ B) (hp : p ≤ 99) : ∀ n, n ≤ 100 → (bmf w p d c n).1 = 1000000000 ∨ (bmf w p d c n).1 ≤ B + 9801
  | 0, _ => Or.inl rfl
  | n + 1, hn => by
    have a := mul99 (n := n) (p := p) (by omega) hp
    have e := von_b (d := d) (c := c + n) hw
    by_cases h : von w d (c + n) < 1000000000 ∧ von w d (c + n) + n * p < (bmf w p d c n).1
    · rw [bmf_y h]; right; show von w d (c + n) + n * p ≤ _; omega
    · rw [bmf_n h]; exact bmf_b hw hp n (by omega)
theorem kmx_le {p T c : Nat} (hT : T ≤ 99) : kmx p T c ≤ 100 := by rw [kmx]; split <;> omega
theorem wR_b {P N : Nat → Nat} {T L : Nat} (hP : ∀ i, i < L → P i ≤ 99) (hT : T ≤ 99) : ∀ r, r ≤ L → ∀ c, wR P N T L r c = 1000000000 ∨ wR P N T L r c ≤ 9801 * r
  | 0, _, c => Or.inr (Nat.le_refl _)
  | r + 1, hr, c => by
    have k := bmf_b (w := wR P N T L r) (p := P (L - (r + 1))) (d := N (L - (r + 1))) (c := c) (wR_b (N := N) hP hT r (by omega)) (hP _ (by omega)) (kmx (P (L - (r + 1))) T c) (kmx_le hT)
    rw [wR]
    omega
theorem wv_b {P N : Nat → Nat} {T L : Nat} (hP : ∀ i, i < L → P i ≤ 99) (hT : T ≤ 99) (hL : L ≤ 10) (i c : Nat) : wv P N T L i c = 1000000000 ∨ wv P N T L i c ≤ 98010 := by
  have k := wR_b (N := N) hP hT (L - i) (by omega) c
  show wR P N T L (L - i) c = _ ∨ wR P N T L (L - i) c ≤ _
  omega
theorem bmf_at {w : Nat → Nat} {p d c : Nat} : ∀ n, (bmf w p d c n).1 < 1000000000 → (bmf w p d c n).2 < n ∧ von w d (c + (bmf w p d c n).2) < 1000000000 ∧ (bmf w p d c n).1 = von w d (c + (bmf w p d c n).2) + (bmf w p d c n).2 * p
  | 0, h => absurd h (by show ¬ (1000000000 : Nat) < 1000000000; omega)
  | n + 1, h => by
    by_cases k : von w d (c + n) < 1000000000 ∧ von w d (c + n) + n * p < (bmf w p d c n).1
    · rw [bmf_y k]; exact ⟨Nat.lt_succ_self n, k.1, rfl⟩
    · rw [bmf_n k] at h ⊢
      obtain ⟨a, e, f⟩ := bmf_at n h
      exact ⟨by omega, e, f⟩
theorem bmf_le {w : Nat → Nat} {p d c m : Nat} (hm : von w d (c + m) < 1000000000) : ∀ n, m < n → (bmf w p d c n).1 ≤ von w d (c + m) + m * p
  | 0, h => absurd h (by omega)
  | n + 1, h => by
    by_cases e : m = n
    · subst e
      by_cases k : von w d (c + m) < 1000000000 ∧ von w d (c + m) + m * p < (bmf w p d c m).1
      · rw [bmf_y k]; exact Nat.le_refl _
      · rw [bmf_n k]; exact Nat.le_of_not_lt (fun q => k ⟨hm, q⟩)
    · have ih := bmf_le (p := p) hm n (by omega)
      by_cases k : von w d (c + n) < 1000000000 ∧ von w d (c + n) + n * p < (bmf w p d c n).1
      · rw [bmf_y k]; show von w d (c + n) + n * p ≤ _; omega
      · rw [bmf_n k]; exact ih
theorem bmf_first {w : Nat → Nat} {p d c m : Nat} (hm : von w d (c + m) < 1000000000) : ∀ n, m < (bmf w p d c n).2 → (bmf w p d c n).1 < von w d (c + m) + m * p
  | 0, h => absurd h (by show ¬ m < 0; omega)
  | n + 1, h => by
    by_cases k : von w d (c + n) < 1000000000 ∧ von w d (c + n) + n * p < (bmf w p d c n).1
    · rw [bmf_y k] at h ⊢
      have q := bmf_le (p := p) hm n h
      show von w d (c + n) + n * p < _
      omega
    · rw [bmf_n k] at h ⊢; exact bmf_first hm n h
/-- with one level more there is one number of cords less -/
theorem bmf_rec {w : Nat → Nat} {p d c : Nat} (hw : ∀ x, w x = 1000000000 ∨ w x ≤ 98010) (hp : p ≤ 99) : ∀ K, K ≤ 99 → (bmf w p d c (K + 1)).1 = if (bmf w p d (c + 1) K).1 = 1000000000 then von w d c else if von w d c ≤ (bmf w p d (c + 1) K).1 + p then von w d c else (bmf w p d (c + 1) K).1 + p
  | 0, _ => by
    have e := von_b (d := d) (c := c) hw
    rw [if_pos (show (bmf w p d (c + 1) 0).1 = 1000000000 from rfl)]
    by_cases k : von w d (c + 0) < 1000000000 ∧ von w d (c + 0) + 0 * p < (bmf w p d c 0).1
    · rw [bmf_y k]; show von w d (c + 0) + 0 * p = _; rw [Nat.zero_mul]; rfl
    · rw [bmf_n k]
      show 1000000000 = von w d c
      have : ¬ (von w d c < 1000000000 ∧ von w d c + 0 * p < 1000000000) := k
      rw [Nat.zero_mul] at this
      omega
  | K + 1, hK => by
    have ih := bmf_rec (p := p) (d := d) (c := c) hw hp K (by omega)
    have m1 := mul99 (n := K) (p := p) (by omega) hp
    have m2 : (K + 1) * p = K * p + p := Nat.succ_mul K p
    have e0 := von_b (d := d) (c := c) hw
    have e1 := von_b (d := d) (c := c + 1 + K) hw
    have eA := bmf_b (d := d) (c := c + 1) hw hp K (by omega)
    have ec : c + (K + 1) = c + 1 + K := by omega
    by_cases k : von w d (c + 1 + K) < 1000000000 ∧ von w d (c + 1 + K) + K * p < (bmf w p d (c + 1) K).1
    · have f1 : (bmf w p d (c + 1) (K + 1)).1 = von w d (c + 1 + K) + K * p := by rw [bmf_y k]
      rw [f1]
      by_cases k2 : von w d (c + (K + 1)) < 1000000000 ∧ von w d (c + (K + 1)) + (K + 1) * p < (bmf w p d c (K + 1)).1
      · have f2 : (bmf w p d c (K + 1 + 1)).1 = von w d (c + (K + 1)) + (K + 1) * p := by rw [bmf_y k2]
        rw [f2]
        rw [ec, m2] at k2 ⊢
        rw [ih] at k2
        split at k2 <;> (try split at k2) <;> (repeat' split) <;> omega
      · rw [bmf_n k2, ih]
        rw [ec, m2, ih] at k2
        split at k2 <;> (try split at k2) <;> (repeat' split) <;> omega
    · rw [show (bmf w p d (c + 1) (K + 1)).1 = (bmf w p d (c + 1) K).1 by rw [bmf_n k]]
      by_cases k2 : von w d (c + (K + 1)) < 1000000000 ∧ von w d (c + (K + 1)) + (K + 1) * p < (bmf w p d c (K + 1)).1
      · exfalso
        rw [ec, m2, ih] at k2
        split at k2 <;> (try split at k2) <;> omega
      · rw [bmf_n k2, ih]
/-- the class's marks: its least cost, and its best from nothing behind level c -/
def eN (v : Nat) : Nat := if v = 1000000000 then 1000000 else v
def eB (v p c : Nat) : Nat := if v = 1000000000 then 1000000 else v + p * c
def BB (P N : Nat → Nat) (T L i c : Nat) : Nat := if c = T + 1 then 1000000 else eB (wv P N T L i c) (P i) c
theorem eN_Z : eN 1000000000 = 1000000 := if_pos rfl
theorem eN_lt {v : Nat} (h : v ≤ 98010) : eN v = v := if_neg (by omega)
theorem eN_le {v : Nat} (h : v = 1000000000 ∨ v ≤ 98010) : eN v ≤ 1000000 := by rw [eN]; split <;> omega
theorem eN_eq {v : Nat} (h : v = 1000000000 ∨ v ≤ 98010) : eN v = 1000000 ↔ v = 1000000000 := by rw [eN]; split <;> omega
theorem step0 {P N : Nat → Nat} {T L i c : Nat} (hP : ∀ i, i < L → P i ≤ 99) (hT : T ≤ 99) (hL : L ≤ 10) (hi : i < L) (h0 : P i = 0) : wv P N T L i c = von (wv P N T L (i + 1)) (N i) c := by
  have e := von_b (d := N i) (c := c) (wv_b (N := N) hP hT hL (i + 1))
  rw [wv_s hi, h0, show kmx 0 T c = 0 + 1 from rfl]
  by_cases k : von (wv P N T L (i + 1)) (N i) (c + 0) < 1000000000 ∧ von (wv P N T L (i + 1)) (N i) (c + 0) + 0 * 0 < (bmf (wv P N T L (i + 1)) 0 (N i) c 0).1
  · rw [bmf_y k]; rfl
  · rw [bmf_n k]
    show 1000000000 = _
    have : ¬ (von (wv P N T L (i + 1)) (N i) c < 1000000000 ∧ von (wv P N T L (i + 1)) (N i) c + 0 * 0 < 1000000000) := k
    omega
theorem stepT {P N : Nat → Nat} {T L i : Nat} (hP : ∀ i, i < L → P i ≤ 99) (hT : T ≤ 99) (hL : L ≤ 10) (hi : i < L) : wv P N T L i T = von (wv P N T L (i + 1)) (N i) T := by
  have k := bmf_rec (d := N i) (c := T) (wv_b (N := N) hP hT hL (i + 1)) (hP i hi) 0 (by omega)
  rw [if_pos (show (bmf (wv P N T L (i + 1)) (P i) (N i) (T + 1) 0).1 = 1000000000 from rfl)] at k
  rw [wv_s hi, show kmx (P i) T T = 0 + 1 by rw [kmx]; split <;> omega]
  exact k
theorem stepU {P N : Nat → Nat} {T L i c : Nat} (hP : ∀ i, i < L → P i ≤ 99) (hT : T ≤ 99) (hL : L ≤ 10) (hi : i < L) (h0 : ¬ P i = 0) (hc : c < T) : wv P N T L i c = if wv P N T L i (c + 1) = 1000000000 then von (wv P N T L (i + 1)) (N i) c else if von (wv P N T L (i + 1)) (N i) c ≤ wv P N T L i (c + 1) + P i then von (wv P N T L (i + 1)) (N i) c else wv P N T L i (c + 1) + P i := by
  have k := bmf_rec (d := N i) (c := c) (wv_b (N := N) hP hT hL (i + 1)) (hP i hi) (T - c) (by omega)
  rw [wv_s hi c, wv_s hi (c + 1), show kmx (P i) T c = T - c + 1 by rw [kmx, if_neg h0], show kmx (P i) T (c + 1) = T - c by rw [kmx, if_neg h0]; omega]
  exact k
/-- one level of the class's step, where wood is sold -/
theorem stepB {P N : Nat → Nat} {T L i c : Nat} (hP : ∀ i, i < L → P i ≤ 99) (hT : T ≤ 99) (hL : L ≤ 10) (hi : i < L) (h0 : ¬ P i = 0) (hc : c ≤ T) : (von (wv P N T L (i + 1)) (N i) c = 1000000000 → BB P N T L i c = BB P N T L i (c + 1)) ∧ (¬ von (wv P N T L (i + 1)) (N i) c = 1000000000 → BB P N T L i c = min (BB P N T L i (c + 1)) (von (wv P N T L (i + 1)) (N i) c + P i * c)) := by
  have e := von_b (d := N i) (c := c) (wv_b (N := N) hP hT hL (i + 1))
  have m := mul99 (n := P i) (p := c) (hP i hi) (by omega)
  have ms : P i * (c + 1) = P i * c + P i := Nat.mul_succ _ _
  have b1 := wv_b (N := N) hP hT hL i c
  have b2 := wv_b (N := N) hP hT hL i (c + 1)
  by_cases d : c = T
  · subst d
    have k := stepT (N := N) hP hT hL hi
    rw [BB, BB, if_neg (by omega), if_pos rfl, eB, k]
    split <;> omega
  · have k := stepU (N := N) hP hT hL hi h0 (by omega : c < T)
    rw [BB, BB, if_neg (by omega), if_neg (by omega), eB, eB, ms]
    rw [k]
    have hp := hP i hi
    constructor
    · intro z
      repeat' split
      all_goals omega
    · intro z
      repeat' split
      all_goals omega
theorem BB_0 {P N : Nat → Nat} {T L i c : Nat} (hP : ∀ i, i < L → P i ≤ 99) (hT : T ≤ 99) (hL : L ≤ 10) (hi : i < L) (h0 : P i = 0) (hc : c ≤ T) : BB P N T L i c = eN (von (wv P N T L (i + 1)) (N i) c) := by
  rw [BB, if_neg (by omega), step0 hP hT hL hi h0, h0, eB, eN]
  split <;> omega
theorem BB_le {P N : Nat → Nat} {T L i c : Nat} (hP : ∀ i, i < L → P i ≤ 99) (hT : T ≤ 99) (hL : L ≤ 10) (hi : i < L) (hc : c ≤ T + 1) : BB P N T L i c ≤ 1000000 := by
  have b1 := wv_b (N := N) hP hT hL i c
  rw [BB]
  split
  · omega
  · have m := mul99 (n := P i) (p := c) (hP i hi) (by omega)
    rw [eB]; split <;> omega
/-- what the class lays for a level -/
theorem BB_lay {P N : Nat → Nat} {T L i c : Nat} (hP : ∀ i, i < L → P i ≤ 99) (hT : T ≤ 99) (hL : L ≤ 10) (hi : i < L) (hc : c ≤ T) : (BB P N T L i c = 1000000 → eN (wv P N T L i c) = 1000000) ∧ (¬ BB P N T L i c = 1000000 → P i * c ≤ BB P N T L i c ∧ BB P N T L i c - P i * c = eN (wv P N T L i c)) := by
  have b1 := wv_b (N := N) hP hT hL i c
  have m := mul99 (n := P i) (p := c) (hP i hi) (by omega)
  rw [BB, if_neg (by omega), eB, eN]
  constructor <;> intro h <;> (repeat' split) <;> (repeat' split at h) <;> omega
/-- the way of the wood that is bought -/
def lvw (P N : Nat → Nat) (T L : Nat) : Nat → Nat
  | 0 => 0
  | k + 1 => lvw P N T L k + bR P N T L k (lvw P N T L k) - N k
theorem bR_at {P N : Nat → Nat} {T L i c : Nat} (hi : i < L) (hc : c ≤ T) (h : wv P N T L i c < 1000000000) : c + bR P N T L i c ≤ T ∧ N i ≤ c + bR P N T L i c ∧ wv P N T L (i + 1) (c + bR P N T L i c - N i) < 1000000000 ∧ wv P N T L i c = wv P N T L (i + 1) (c + bR P N T L i c - N i) + bR P N T L i c * P i ∧ (P i = 0 → bR P N T L i c = 0) := by
  have hz := h
  rw [wv_s hi] at hz
  obtain ⟨a, e, f⟩ := bmf_at _ hz
  rw [← wv_s hi] at f
  have hb : bR P N T L i c = (bmf (wv P N T L (i + 1)) (P i) (N i) c (kmx (P i) T c)).2 := rfl
  rw [← hb] at a e f
  rw [kmx] at a
  have hd : ¬ c + bR P N T L i c < N i := fun w => by rw [von, if_pos w] at e; omega
  rw [von, if_neg hd] at e f
  refine ⟨?_, by omega, e, f, fun z => ?_⟩
  · split at a <;> omega
  · rw [if_pos z] at a; omega
theorem lvw_ok {P N : Nat → Nat} {T L : Nat} (h0 : wv P N T L 0 0 < 1000000000) : ∀ k, k ≤ L → lvw P N T L k ≤ T ∧ wv P N T L k (lvw P N T L k) < 1000000000
  | 0, _ => ⟨Nat.zero_le _, h0⟩
  | k + 1, hk => by
    obtain ⟨h1, h2⟩ := lvw_ok h0 k (by omega)
    obtain ⟨a, e, f, g⟩ := bR_at (by omega : k < L) h1 h2
    exact ⟨by rw [lvw]; omega, f⟩
theorem wv_0 {P N : Nat → Nat} {T L c : Nat} (hL : L = 0) : wv P N T L 0 c = 0 := by subst hL; rfl
def lof (f t i : Nat) : Nat := if f < t then f + i else f - i
def sof (f t i : Nat) : Nat := if f < t then f + i else f - i - 1
def wL (f t : Nat) : Nat := if f < t then t - f else f - t
def wP (V : Sg) (f t k : Nat) : Nat := (V 159 (lof f t k)).toNatClampNeg
def wN (V : Sg) (f t d k : Nat) : Nat := (longS V (sof f t k) d 0).toNatClampNeg
