/-! ===== what class and reference have in common ===== -/
abbrev Sg : Type := Nat → Nat → Int32
/-- a number below n -/
def rg (x : Int32) (n : Nat) : Prop := ∃ k : Nat, k < n ∧ x = nI k
def cnt (p : Nat → Bool) : Nat → Nat
  | 0 => 0
  | n + 1 => cnt p n + (if p n = true then 1 else 0)
/-- weight aboard of boat i: the first n bales -/
def aboS (V : Sg) (i : Nat) : Nat → Int32
  | 0 => 0
  | n + 1 => aboS V i n + (if V 163 n = 1 ∧ V 164 n = nI i then V 161 n else 0)
def cCnt (σ : Sg) (r : Nat) (V : Sg) (q ns nb nl nt nr : Nat) : Prop :=
  (q ≤ 9599 ∧ ns ≤ 10 ∧ nb ≤ 5 ∧ nl ≤ 12 ∧ nt ≤ 6 ∧ nr ≤ 8) ∧
  (V 139 1 = nI q ∧ V 139 2 = nI ns ∧ V 139 12 = nI nb ∧ V 139 24 = nI nl ∧ V 139 31 = nI nt ∧ V 139 35 = nI nr) ∧
  (σ r 0 = nI q ∧ σ r 1 = nI ns ∧ σ r 2 = nI nb ∧ σ r 3 = nI nl ∧ σ r 4 = nI nt ∧ σ r 5 = nI nr) ∧ σ r 7 = V 139 30
def cH (σ : Sg) (r : Nat) (V : Sg) : Prop :=
  (∀ d, d < 100 → (V 147 d = 0 ∧ σ (r + 1) d = -1000) ∨ (V 147 d = 1 ∧ σ (r + 1) d = V 146 d ∧ -20 ≤ (V 146 d).toInt ∧ (V 146 d).toInt ≤ 40)) ∧ σ r 6 = nI (cnt (fun d => V 147 d == 1) 100)
def cC (σ : Sg) (r : Nat) (V : Sg) : Prop := ∀ d, d < 100 → σ (r + 2) d = V 148 d ∧ (V 148 d = 0 ∨ V 148 d = 1)
def cS (σ : Sg) (r : Nat) (V : Sg) (ns : Nat) : Prop := ∀ k, k < ns →
  (σ (r + 9 + 2 * k) 0 = nI k ∧ σ (r + 9 + 2 * k) 1 = V 140 k ∧ σ (r + 9 + 2 * k) 2 = V 141 k ∧ σ (r + 9 + 2 * k) 3 = V 142 k ∧ σ (r + 9 + 2 * k) 4 = V 143 k) ∧
  rg (V 140 k) 6 ∧ (∃ l, 1 ≤ l ∧ l ≤ 20 ∧ V 141 k = nI l) ∧ rg (V 142 k) 100 ∧ (V 143 k = 0 ∨ V 143 k = 1) ∧
  ∀ d, d < 100 → (V 145 (100 * k + d) = 0 ∧ σ (r + 10 + 2 * k) d = -1000) ∨ (V 145 (100 * k + d) = 1 ∧ σ (r + 10 + 2 * k) d = V 144 (100 * k + d) ∧ -20 ≤ (V 144 (100 * k + d)).toInt ∧ (V 144 (100 * k + d)).toInt ≤ 20 ∧ (V 140 k = 1 ∨ V 140 k = nI 3))
/-- words: cell w waters, cell q quarters, of the class; the reference's from place m on -/
def cW (σ : Sg) (w q : Nat) (V : Sg) (m ns : Nat) : Prop := ∀ k, k < 10 →
  σ q k = V 158 (m + k) ∧ (V 158 (m + k) = -1 ∨ (k < ns ∧ rg (V 158 (m + k)) 9600 ∧ σ w k = V 157 (m + k)))
def cL (σ : Sg) (r : Nat) (V : Sg) (ns : Nat) : Prop := ∀ l, l < 11 →
  σ (r + 29 + 4 * l) 0 = V 159 l ∧ rg (V 159 l) 100 ∧ cW σ (r + 31 + 4 * l) (r + 32 + 4 * l) V (10 * (5 + l)) ns ∧ (ns < l → V 159 l = 0 ∧ ∀ k, k < 10 → V 158 (10 * (5 + l) + k) = -1)
def cB (σ : Sg) (r : Nat) (V : Sg) (ns nb nl : Nat) : Prop := ∀ i, i < nb →
  (σ (r + 73 + 4 * i) 0 = V 149 i ∧ σ (r + 73 + 4 * i) 1 = V 150 i ∧ σ (r + 73 + 4 * i) 2 = V 151 i ∧ σ (r + 73 + 4 * i) 3 = V 156 i ∧ σ (r + 73 + 4 * i) 4 = aboS V i nl ∧ σ (r + 73 + 4 * i) 5 = V 152 i ∧ σ (r + 73 + 4 * i) 6 = V 153 i) ∧
  (∃ x, 1 ≤ x ∧ x ≤ 30 ∧ V 149 i = nI x) ∧ (∃ x, 1 ≤ x ∧ x ≤ 999 ∧ V 150 i = nI x) ∧ (∃ x y, 1 ≤ x ∧ x ≤ 99 ∧ y ≤ x ∧ V 151 i = nI x ∧ V 156 i = nI y) ∧
  ((V 152 i = 0 ∧ rg (V 153 i) (ns + 1) ∧ V 155 i = 0) ∨ ((V 152 i = 1 ∨ V 152 i = nI 2) ∧ rg (V 153 i) ns ∧ σ (r + 73 + 4 * i) 8 = V 155 i) ∨ (V 152 i = nI 3 ∧ rg (V 153 i) ns ∧ V 155 i = 0 ∧ rg (V 154 i) (ns + 1) ∧ σ (r + 73 + 4 * i) 7 = V 154 i)) ∧
  cW σ (r + 75 + 4 * i) (r + 76 + 4 * i) V (10 * i) ns
def cA (σ : Sg) (r : Nat) (V : Sg) (ns nb nl : Nat) : Prop := ∀ j, j < nl →
  (σ (r + 93 + j) 0 = V 160 j ∧ σ (r + 93 + j) 1 = V 161 j ∧ σ (r + 93 + j) 2 = V 162 j ∧ σ (r + 93 + j) 3 = V 163 j ∧ σ (r + 93 + j) 4 = V 164 j) ∧
  rg (V 160 j) (ns + 1) ∧ (∃ x, 1 ≤ x ∧ x ≤ 200 ∧ V 161 j = nI x) ∧ rg (V 162 j) 1000 ∧
  ((V 163 j = 0 ∧ rg (V 164 j) (ns + 1) ∧ V 164 j ≠ V 160 j) ∨ (V 163 j = 1 ∧ rg (V 164 j) nb) ∨ (V 163 j = nI 2 ∧ rg (V 164 j) (ns + 1)) ∨ (V 163 j = nI 3 ∧ V 164 j = -1))
def cT (σ : Sg) (r : Nat) (V : Sg) (ns nt : Nat) : Prop := ∀ t, t < nt →
  (σ (r + 105 + t) 0 = V 165 t ∧ σ (r + 105 + t) 1 = V 166 t ∧ σ (r + 105 + t) 2 = V 167 t) ∧ rg (V 165 t) (ns + 1) ∧ rg (V 166 t) (ns + 1) ∧ rg (V 167 t) 10
def cU (σ : Sg) (r : Nat) (V : Sg) (nr : Nat) : Prop := ∀ t, t < nr →
  (σ (r + 111 + t) 0 = V 168 t ∧ σ (r + 111 + t) 1 = V 169 t ∧ σ (r + 111 + t) 2 = V 170 t ∧ σ (r + 111 + t) 3 = V 171 t) ∧ rg (V 168 t) 6 ∧ rg (V 169 t) 3 ∧ rg (V 170 t) 100 ∧ rg (V 171 t) 100
/-- the river at cell r is as the view V says -/
def RR (σ : Sg) (r : Nat) (V : Sg) (q ns nb nl nt nr : Nat) : Prop :=
  cCnt σ r V q ns nb nl nt nr ∧ cH σ r V ∧ cC σ r V ∧ cS σ r V ns ∧ cL σ r V ns ∧ cB σ r V ns nb nl ∧ cA σ r V ns nb nl ∧ cT σ r V ns nt ∧ cU σ r V nr
/-- the reference's kept rows as a view -/
def kv (σ : Sg) : Sg := fun a i => match a with
  | 139 => (match i with
    | 1 => σ 175 5
    | 2 => σ 175 0
    | 12 => σ 175 1
    | 24 => σ 175 2
    | 30 => σ 175 6
    | 31 => σ 175 3
    | 35 => σ 175 4
    | _ => 0)
  | 143 => σ 176 i
  | 144 => σ 177 i
  | 145 => σ 178 i
  | 146 => σ 179 i
  | 147 => σ 180 i
  | 148 => σ 181 i
  | 152 => σ 182 (5 * i)
  | 153 => σ 182 (5 * i + 1)
  | 154 => σ 182 (5 * i + 2)
  | 155 => σ 182 (5 * i + 3)
  | 156 => σ 182 (5 * i + 4)
  | 157 => σ 183 i
  | 158 => σ 184 i
  | 159 => σ 185 i
  | 163 => σ 186 i
  | 164 => σ 186 (12 + i)
  | _ => σ a i
def cX (σ : Sg) : Prop := σ 3 3 = σ 139 0 ∧ σ 3 2 = σ 139 45 ∧ rg (σ 3 2) 11
/-- the trace -/
def cP (σ : Sg) : Prop := ∃ n, n ≤ 50 ∧ σ 124 0 = nI n ∧ σ 139 59 = nI n ∧ ∀ j, j < n → σ 125 j = σ 187 j
/-- the sheets -/
def cQ (σ : Sg) : Prop := ∀ s, s < 4 → σ (131 + 2 * s) 0 = σ 188 s ∧ σ (131 + 2 * s) 1 = σ 189 s ∧ (σ 188 s = -1 ∨ rg (σ 188 s) 3) ∧ (∃ n, n ≤ 40 ∧ σ 189 s = nI n) ∧
  ∀ j, j < 40 → -1000 ≤ (σ 190 (40 * s + j)).toInt ∧ (σ 190 (40 * s + j)).toInt ≤ 1000 ∧ ((σ 191 (40 * s + j) = 0 ∧ σ (132 + 2 * s) j = σ 190 (40 * s + j)) ∨ (σ 191 (40 * s + j) = 1 ∧ σ 188 s = nI 2 ∧ σ (132 + 2 * s) j = -9999))
def cK (σ : Sg) (b : Bool) (ns nb nl nt nr : Nat) : Prop := (b = false → σ 139 44 = 0) ∧ (b = true → σ 139 44 = 1 ∧ ∃ q' ns' nb' nl' nt' nr', ns' ≤ ns ∧ nb' ≤ nb ∧ nl' ≤ nl ∧ nt' ≤ nt ∧ nr' ≤ nr ∧ RR σ 192 (kv σ) q' ns' nb' nl' nt' nr')
def Rel (σ : Sg) (b : Bool) : Prop := ∃ q ns nb nl nt nr, RR σ 4 σ q ns nb nl nt nr ∧ cX σ ∧ cP σ ∧ cQ σ ∧ cK σ b ns nb nl nt nr
