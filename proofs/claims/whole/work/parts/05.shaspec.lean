/-! SHA-256's padding, blocks and answer, as the class does them -/
def tup (f : Nat → Int32) : S8 := (f 0, f 1, f 2, f 3, f 4, f 5, f 6, f 7)
def stAdd (f : Nat → Int32) (x : S8) : Nat → Int32 :=
  match x with
  | (a, b, c, d, e, p, q, h) => upd (upd (upd (upd (upd (upd (upd (upd f 0 (f 0 + a)) 1 (f 1 + b)) 2 (f 2 + c)) 3 (f 3 + d)) 4 (f 4 + e)) 5 (f 5 + p)) 6 (f 6 + q)) 7 (f 7 + h)
/-- where the padded message ends -/
def pE (n : Nat) : Nat := (n + 8) / 64 * 64 + 64
def bitsL (n : Nat) : Int64 := 8 * (nI n).toInt64
/-- behind the message: 128, and i zeros -/
def zF (m : Nat → Int32) (n : Nat) : Nat → (Nat → Int32)
  | 0 => upd m n (nI 128)
  | i + 1 => upd (zF m n i) (n + 1 + i) (nI 0)
def sh8 : Nat → Int32
  | 0 => nI 56
  | d + 1 => sh8 d + Int32.ofInt (-8)
theorem sh8_lt : ∀ d, d < 8 → sh8 d = nI (8 * (8 - d - 1)) := by decide +kernel
theorem sh8_8 : sh8 8 < 0 := by decide +kernel
theorem sh8_nn : ∀ d, d < 8 → ¬ sh8 d < 0 := by decide +kernel
def shP (m : Nat → Int32) (n : Nat) : Nat → Int32 := apD (zF m n (pE n - 9 - n)) (pE n - 8) (bitsL n) 8 8
/-- the first state -/
def ivF (f : Nat → Int32) : Nat → (Nat → Int32)
  | 0 => f
  | i + 1 => upd (ivF f i) i (kIV i)
/-- the schedule of the block at fr -/
def shW (m : Nat → Int32) (fr : Nat) (w : Nat → Int32) : Nat → Int32 := shG (shF m fr w 16) 48
/-- state and schedule behind k blocks -/
def shB (m st w : Nat → Int32) : Nat → (Nat → Int32) × (Nat → Int32)
  | 0 => (st, w)
  | k + 1 => (stAdd (shB m st w k).1 (shI (tup (shB m st w k).1) (shW m (64 * k) (shB m st w k).2) 64), shW m (64 * k) (shB m st w k).2)
/-- byte i of the answer -/
def shY (st : Nat → Int32) (i : Nat) : Int32 := jushr (st (i / 4)) (nI (24 - 8 * (i % 4))) &&& nI 255
def shO (st o : Nat → Int32) : Nat → (Nat → Int32)
  | 0 => o
  | i + 1 => upd (shO st o i) i (shY st i)
theorem shO_at (st o : Nat → Int32) : ∀ (k j : Nat), j < k → shO st o k j = shY st j
  | 0, j, h => absurd h (Nat.not_lt_zero j)
  | k + 1, j, h => by
    show upd (shO st o k) k (shY st k) j = _
    by_cases hj : j = k
    · subst hj; simp [upd]
    · simp only [upd, hj, if_false]
      exact shO_at st o k j (by omega)
