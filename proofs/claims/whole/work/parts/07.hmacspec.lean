/-! HMAC-SHA-256 -/
def apA (m : Nat → Int32) (n : Nat) (x : Nat → Int32) : Nat → (Nat → Int32)
  | 0 => m
  | i + 1 => upd (apA m n x i) (n + i) (x i)
def bpF (m kf : Nat → Int32) (p : Int32) : Nat → (Nat → Int32)
  | 0 => m
  | i + 1 => upd (bpF m kf p i) i (kf i ^^^ p)
def kv (k : Nat → Int32) (i : Nat) : Int32 := if i < 32 then k i else nI 0
theorem kv_lt {k : Nat → Int32} {i : Nat} (h : i < 32) : k i = kv k i := by simp [kv, h]
theorem kv_ge {k : Nat → Int32} {i : Nat} (h : ¬ i < 32) : nI 0 = kv k i := by simp [kv, h]
def kbF (o k : Nat → Int32) : Nat → (Nat → Int32)
  | 0 => o
  | i + 1 => upd (kbF o k i) i (kv k i)
theorem kbF_at (o k : Nat → Int32) : ∀ (n j : Nat), j < n → kbF o k n j = kv k j
  | 0, j, h => absurd h (Nat.not_lt_zero j)
  | n + 1, j, h => by
    show upd (kbF o k n) n (kv k n) j = _
    by_cases hj : j = n
    · subst hj; simp [upd]
    · simp only [upd, hj, if_false]; exact kbF_at o k n j (by omega)
theorem bpF_at (m kf : Nat → Int32) (p : Int32) : ∀ (n j : Nat), j < n → bpF m kf p n j = kf j ^^^ p
  | 0, j, h => absurd h (Nat.not_lt_zero j)
  | n + 1, j, h => by
    show upd (bpF m kf p n) n (kf n ^^^ p) j = _
    by_cases hj : j = n
    · subst hj; simp [upd]
    · simp only [upd, hj, if_false]; exact bpF_at m kf p n j (by omega)
theorem apA_lo (m : Nat → Int32) (n : Nat) (x : Nat → Int32) : ∀ (k j : Nat), j < n → apA m n x k j = m j
  | 0, _, _ => rfl
  | k + 1, j, h => by
    show upd (apA m n x k) (n + k) (x k) j = _
    have hj : j ≠ n + k := by omega
    simp only [upd, hj, if_false]; exact apA_lo m n x k j h
theorem apA_hi (m : Nat → Int32) (n : Nat) (x : Nat → Int32) : ∀ (k j : Nat), j < k → apA m n x k (n + j) = x j
  | 0, j, h => absurd h (Nat.not_lt_zero j)
  | k + 1, j, h => by
    show upd (apA m n x k) (n + k) (x k) (n + j) = _
    by_cases hj : j = k
    · subst hj; simp [upd]
    · have hj2 : n + j ≠ n + k := by omega
      simp only [upd, hj2, if_false]; exact apA_hi m n x k j (by omega)
/-- the key block with a pad, and a message behind -/
def hmM (kb msg : Nat → Int32) (p : Int32) : Nat → Int32 := fun j => if j < 64 then kb j ^^^ p else msg (j - 64)
/-- the outer hash, out of the key block and the inner one's message -/
def hmF (kb mf : Nat → Int32) (n : Nat) : Nat → Int32 := dig (hmM kb (dig mf n) (nI 92)) 96
/-- HMAC-SHA-256 of n bytes with a key of 32 -/
def hmv (k msg : Nat → Int32) (n : Nat) : Nat → Int32 := hmF (kv k) (hmM (kv k) msg (nI 54)) (64 + n)
theorem hmM_ap (m kb d : Nat → Int32) (p : Int32) : EqB 96 (apA (bpF m kb p 64) 64 d 32) (hmM kb d p) := fun j hj => by
  unfold hmM
  by_cases h : j < 64
  · rw [if_pos h, apA_lo _ _ _ _ _ h, bpF_at _ _ _ _ _ h]
  · rw [if_neg h]
    have := apA_hi (bpF m kb p 64) 64 d 32 (j - 64) (by omega)
    rw [show 64 + (j - 64) = j by omega] at this
    exact this
theorem hmM_cong {kb kb' m m' : Nat → Int32} {n : Nat} (p : Int32) (h1 : EqB 64 kb kb') (h2 : EqB n m m') : EqB (64 + n) (hmM kb m p) (hmM kb' m' p) := fun j hj => by
  unfold hmM
  by_cases h : j < 64
  · rw [if_pos h, if_pos h, h1 j h]
  · rw [if_neg h, if_neg h, h2 (j - 64) (by omega)]
theorem hmF_of (m2 kb mf : Nat → Int32) (n : Nat) : EqB 32 (dig (apA (bpF m2 kb (nI 92) 64) 64 (dig mf n) 32) 96) (hmF kb mf n) := dig_cong (hmM_ap m2 kb (dig mf n) (nI 92))
theorem hmF_cong {kb kb' mf mf' : Nat → Int32} {n : Nat} (h1 : EqB 64 kb kb') (h2 : EqB n mf mf') : EqB 32 (hmF kb mf n) (hmF kb' mf' n) := dig_cong (hmM_cong (n := 32) (nI 92) h1 (dig_cong h2))
theorem hmv_cong {k k' m m' : Nat → Int32} {n : Nat} (h1 : EqB 32 k k') (h2 : EqB n m m') : EqB 32 (hmv k m n) (hmv k' m' n) := by
  have h3 : EqB 64 (kv k) (kv k') := fun j hj => by
    unfold kv
    by_cases h : j < 32
    · rw [if_pos h, if_pos h, h1 j h]
    · rw [if_neg h, if_neg h]
  exact hmF_cong h3 (hmM_cong (nI 54) h3 h2)
