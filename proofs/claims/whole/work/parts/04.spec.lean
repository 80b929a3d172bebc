/-! ===== the mathematics that both sides are tied to ===== -/
/-- a Java boolean -/
def bI (b : Bool) : Int32 := if b then nI 1 else nI 0
theorem bI_t {P : Prop} {_ : Decidable P} (h : ¬ bI (decide P) = 0) : P := by
  by_cases hp : P
  · exact hp
  · simp [bI, hp, nI_0] at h
theorem bI_f {P : Prop} {_ : Decidable P} (h : bI (decide P) = 0) : ¬ P := by
  intro hp
  simp [bI, hp] at h
  exact absurd h (by decide +kernel)
theorem bI_T {P : Prop} {_ : Decidable P} (h : P) : nI 1 = bI (decide P) := by simp [bI, h]
theorem bI_F {P : Prop} {_ : Decidable P} (h : ¬ P) : nI 0 = bI (decide P) := by simp [bI, h]
/-- one below -/
def nP (k : Nat) : Int32 := nI k + Int32.ofInt (-1)
theorem nP_succ (k : Nat) : nP (k + 1) = nI k := pk_m1 k
theorem nP_0 : nP 0 = -1 := by decide +kernel
theorem nP_pos {k : Nat} (h : 1 ≤ k) : nP k = nI (k - 1) := by
  obtain ⟨j, rfl⟩ : ∃ j, k = j + 1 := ⟨k - 1, by omega⟩
  exact nP_succ j
theorem nP_neg {k : Nat} (hk : k < 2147483648) (h : nP k < 0) : k = 0 := by
  rcases Nat.eq_zero_or_pos k with q | q
  · exact q
  · rw [nP_pos q] at h
    exact absurd h (nI_pos (by omega))
theorem nP_nneg {k : Nat} (h : ¬ nP k < 0) : 1 ≤ k := by
  rcases Nat.eq_zero_or_pos k with q | q
  · rw [q, nP_0] at h
    exact absurd (by decide +kernel) h
  · exact q
/-- byte i of a long, the lowest is 0 -/
def byteOf (v : Int64) (i : Nat) : Int32 := (jlushr v (nI (8 * i))).toInt32 &&& nI 255
/-- d of w bytes of v written from n on, the highest first -/
def apD (f : Nat → Int32) (n : Nat) (v : Int64) (w : Nat) : Nat → (Nat → Int32)
  | 0 => f
  | d + 1 => upd (apD f n v w d) (n + d) (byteOf v (w - d - 1))
/-- a number of k bytes read from fr on -/
def nAt (f : Nat → Int32) (fr : Nat) : Nat → Int64
  | 0 => 0
  | k + 1 => jlshl (nAt f fr k) (nI 8) ||| (f (fr + k) &&& nI 255).toInt64
/-- byte i of n bytes, or -1 -/
def atI (f : Nat → Int32) (n : Nat) (i : Int32) : Int32 := if 0 ≤ i ∧ i < nI n then f i.toNatClampNeg else -1
/-! SHA-256 -/
def rotr (w r : Int32) : Int32 := jushr w r ||| jshl w (nI 32 - r)
def rotl (w r : Int32) : Int32 := jshl w r ||| jushr w (nI 32 - r)
/-- the first 16 words of a block, t of them filled -/
def shF (m : Nat → Int32) (fr : Nat) (w : Nat → Int32) : Nat → (Nat → Int32)
  | 0 => w
  | t + 1 => upd (shF m fr w t) t (((jshl (m (fr + 4 * t)) (nI 24) ||| jshl (m (fr + 4 * t + 1)) (nI 16)) ||| jshl (m (fr + 4 * t + 2)) (nI 8)) ||| m (fr + 4 * t + 3))
def shNew (w : Nat → Int32) (t : Nat) : Int32 :=
  ((((rotr (w (t - 2)) (nI 17) ^^^ rotr (w (t - 2)) (nI 19)) ^^^ jushr (w (t - 2)) (nI 10)) + w (t - 7)) + ((rotr (w (t - 15)) (nI 7) ^^^ rotr (w (t - 15)) (nI 18)) ^^^ jushr (w (t - 15)) (nI 3))) + w (t - 16)
/-- the words 16 .. 63, k of them filled -/
def shG (w : Nat → Int32) : Nat → (Nat → Int32)
  | 0 => w
  | k + 1 => upd (shG w k) (16 + k) (shNew (shG w k) (16 + k))
abbrev S8 : Type := Int32 × Int32 × Int32 × Int32 × Int32 × Int32 × Int32 × Int32
def shR (x : S8) (k w : Int32) : S8 :=
  match x with
  | (a, b, c, d, e, f, g, h) =>
    let one := (((h + ((rotr e (nI 6) ^^^ rotr e (nI 11)) ^^^ rotr e (nI 25))) + ((e &&& f) ^^^ ((e ^^^ -1) &&& g))) + k) + w
    let two := ((rotr a (nI 2) ^^^ rotr a (nI 13)) ^^^ rotr a (nI 22)) + (((a &&& b) ^^^ (a &&& c)) ^^^ (b &&& c))
    (one + two, a, b, c, d + one, e, f, g)
def shI (x : S8) (w : Nat → Int32) : Nat → S8
  | 0 => x
  | t + 1 => shR (shI x w t) (kRW t) (w t)
