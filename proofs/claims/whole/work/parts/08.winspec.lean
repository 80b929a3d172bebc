/-! the window -/
abbrev lowU (a b : Int64) : Prop := (a ^^^ (-9223372036854775808)) < (b ^^^ (-9223372036854775808))
abbrev fit64 (d : Int64) : Prop := 0 ≤ d ∧ d < 64
def wMark (gt sn n : Int64) : Int64 × Int64 :=
  if sn = 0 then (n, 1) else if lowU gt n then (n, if fit64 (n - gt) then jlshl sn (n - gt).toInt32 ||| 1 else 1) else if fit64 (gt - n) then (gt, sn ||| jlshl 1 (gt - n).toInt32) else (gt, sn)
/-- Long.bitCount, as its code has it -/
def bc1 (i : Int64) : Int64 := i - (jlushr i (nI 1) &&& 6148914691236517205)
def bc2 (i : Int64) : Int64 := (i &&& 3689348814741910323) + (jlushr i (nI 2) &&& 3689348814741910323)
def bc3 (i : Int64) : Int64 := (i + jlushr i (nI 4)) &&& 1085102592571150095
def bc4 (i : Int64) (k : Nat) : Int64 := i + jlushr i (nI k)
def bitC (i : Int64) : Int32 := (bc4 (bc4 (bc4 (bc3 (bc2 (bc1 i))) 8) 16) 32).toInt32 &&& nI 127
/-! Salsa20 -/
def wrd (a b c d : Int32) : Int32 := ((a ||| jshl b (nI 8)) ||| jshl c (nI 16)) ||| jshl d (nI 24)
def kwd (f : Nat → Int32) (i : Nat) : Int32 := wrd (f i) (f (i + 1)) (f (i + 2)) (f (i + 3))
def inL (o k : Nat → Int32) : Nat → (Nat → Int32)
  | 0 => o
  | i + 1 => upd (upd (upd (inL o k i) (5 * i) (kEX i)) (1 + i) (kwd k (4 * i))) (11 + i) (kwd k (16 + 4 * i))
/-- the 16 words out of a key, the head of a record and a block's number -/
def sIn (k hd : Nat → Int32) (c : Int32) (j : Nat) : Int32 :=
  if j = 0 then kEX 0 else if j < 5 then kwd k (4 * (j - 1)) else if j = 5 then kEX 1 else if j = 6 then kwd hd 5 else if j = 7 then kwd hd 9 else if j = 8 then c else if j = 9 then nI 0 else if j = 10 then kEX 2 else if j < 15 then kwd k (16 + 4 * (j - 11)) else kEX 3
theorem sIn_of (o k hd : Nat → Int32) : EqB 16 (upd (upd (upd (upd (inL o k 4) 6 (kwd hd 5)) 7 (kwd hd 9)) 8 (nI 0)) 9 (nI 0)) (sIn k hd (nI 0)) := fun j hj => by
  rcases (show j = 0 ∨ j = 1 ∨ j = 2 ∨ j = 3 ∨ j = 4 ∨ j = 5 ∨ j = 6 ∨ j = 7 ∨ j = 8 ∨ j = 9 ∨ j = 10 ∨ j = 11 ∨ j = 12 ∨ j = 13 ∨ j = 14 ∨ j = 15 by omega) with rfl | rfl | rfl | rfl | rfl | rfl | rfl | rfl | rfl | rfl | rfl | rfl | rfl | rfl | rfl | rfl <;> rfl
theorem sIn_up (k hd : Nat → Int32) (c d : Int32) : EqB 16 (upd (sIn k hd c) 8 d) (sIn k hd d) := fun j hj => by
  rcases (show j = 0 ∨ j = 1 ∨ j = 2 ∨ j = 3 ∨ j = 4 ∨ j = 5 ∨ j = 6 ∨ j = 7 ∨ j = 8 ∨ j = 9 ∨ j = 10 ∨ j = 11 ∨ j = 12 ∨ j = 13 ∨ j = 14 ∨ j = 15 by omega) with rfl | rfl | rfl | rfl | rfl | rfl | rfl | rfl | rfl | rfl | rfl | rfl | rfl | rfl | rfl | rfl <;> rfl
def q1 (f : Nat → Int32) (a b d : Nat) : Nat → Int32 := upd f b (f b ^^^ rotl (f a + f d) (nI 7))
def q2 (f : Nat → Int32) (a b c : Nat) : Nat → Int32 := upd f c (f c ^^^ rotl (f b + f a) (nI 9))
def q3 (f : Nat → Int32) (b c d : Nat) : Nat → Int32 := upd f d (f d ^^^ rotl (f c + f b) (nI 13))
def q4 (f : Nat → Int32) (a c d : Nat) : Nat → Int32 := upd f a (f a ^^^ rotl (f d + f c) (nI 18))
def qr (f : Nat → Int32) (a b c d : Nat) : Nat → Int32 := q4 (q3 (q2 (q1 f a b d) a b c) b c d) a c d
def colR (f : Nat → Int32) : Nat → Int32 := qr (qr (qr (qr f 0 4 8 12) 5 9 13 1) 10 14 2 6) 15 3 7 11
def rowR (f : Nat → Int32) : Nat → Int32 := qr (qr (qr (qr f 0 1 2 3) 5 6 7 4) 10 11 8 9) 15 12 13 14
def dbl (f : Nat → Int32) : Nat → (Nat → Int32)
  | 0 => f
  | k + 1 => rowR (colR (dbl f k))
def cpF (b x : Nat → Int32) : Nat → (Nat → Int32)
  | 0 => b
  | i + 1 => upd (cpF b x i) i (x i)
theorem cpF_at (b x : Nat → Int32) : ∀ (n j : Nat), j < n → cpF b x n j = x j
  | 0, j, h => absurd h (Nat.not_lt_zero j)
  | n + 1, j, h => by
    show upd (cpF b x n) n (x n) j = _
    by_cases hj : j = n
    · subst hj; simp [upd]
    · simp only [upd, hj, if_false]; exact cpF_at b x n j (by omega)
def addF (b x : Nat → Int32) : Nat → (Nat → Int32)
  | 0 => b
  | i + 1 => upd (addF b x i) i (addF b x i i + x i)
theorem addF_hi (b x : Nat → Int32) : ∀ (n j : Nat), n ≤ j → addF b x n j = b j
  | 0, _, _ => rfl
  | n + 1, j, h => by
    show upd (addF b x n) n _ j = _
    have hj : j ≠ n := by omega
    simp only [upd, hj, if_false]; exact addF_hi b x n j (by omega)
theorem addF_at (b x : Nat → Int32) : ∀ (n j : Nat), j < n → addF b x n j = b j + x j
  | 0, j, h => absurd h (Nat.not_lt_zero j)
  | n + 1, j, h => by
    show upd (addF b x n) n (addF b x n n + x n) j = _
    by_cases hj : j = n
    · subst hj; simp [upd, addF_hi b x j j (Nat.le_refl j)]
    · simp only [upd, hj, if_false]; exact addF_at b x n j (by omega)
/-- a block of the stream -/
def sBlk (x : Nat → Int32) (j : Nat) : Int32 := dbl x 10 j + x j
theorem qr_cong {f f' : Nat → Int32} (h : EqB 16 f f') {a b c d : Nat} (ha : a < 16) (hb : b < 16) (hc : c < 16) (hd : d < 16) : EqB 16 (qr f a b c d) (qr f' a b c d) := by
  have h1 : EqB 16 (q1 f a b d) (q1 f' a b d) := EqB.up h b (by rw [h a ha, h b hb, h d hd])
  have h2 : EqB 16 (q2 (q1 f a b d) a b c) (q2 (q1 f' a b d) a b c) := EqB.up h1 c (by rw [h1 a ha, h1 b hb, h1 c hc])
  have h3 : EqB 16 (q3 (q2 (q1 f a b d) a b c) b c d) (q3 (q2 (q1 f' a b d) a b c) b c d) := EqB.up h2 d (by rw [h2 b hb, h2 c hc, h2 d hd])
  exact EqB.up h3 a (by rw [h3 a ha, h3 c hc, h3 d hd])
theorem colR_cong {f f' : Nat → Int32} (h : EqB 16 f f') : EqB 16 (colR f) (colR f') := qr_cong (qr_cong (qr_cong (qr_cong h (by omega) (by omega) (by omega) (by omega)) (by omega) (by omega) (by omega) (by omega)) (by omega) (by omega) (by omega) (by omega)) (by omega) (by omega) (by omega) (by omega)
theorem rowR_cong {f f' : Nat → Int32} (h : EqB 16 f f') : EqB 16 (rowR f) (rowR f') := qr_cong (qr_cong (qr_cong (qr_cong h (by omega) (by omega) (by omega) (by omega)) (by omega) (by omega) (by omega) (by omega)) (by omega) (by omega) (by omega) (by omega)) (by omega) (by omega) (by omega) (by omega)
theorem dbl_cong {f f' : Nat → Int32} (h : EqB 16 f f') : ∀ k, EqB 16 (dbl f k) (dbl f' k)
  | 0 => h
  | k + 1 => rowR_cong (colR_cong (dbl_cong h k))
theorem sBlk_of (b x : Nat → Int32) : EqB 16 (addF (dbl (cpF b x 16) 10) x 16) (sBlk x) := fun j hj => by
  rw [addF_at _ _ 16 j hj]
  unfold sBlk
  rw [dbl_cong (f := cpF b x 16) (f' := x) (cpF_at b x 16) 10 j hj]
theorem sBlk_cong {x x' : Nat → Int32} (h : EqB 16 x x') : EqB 16 (sBlk x) (sBlk x') := fun j hj => by
  unfold sBlk
  rw [dbl_cong h 10 j hj, h j hj]
/-- byte t of the stream -/
def sByte (k hd : Nat → Int32) (t : Nat) : Int32 := jushr (sBlk (sIn k hd (nI (t / 64))) (t % 64 / 4)) (nI (8 * (t % 64 % 4))) &&& nI 255
def sPos (t : Nat) : Nat := if t % 64 = 0 then 64 else t % 64
