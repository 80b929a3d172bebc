/-- numbers as a row of ints -/
def szF (z : Nat → Nat) : Nat → Int32 := fun j => nI (z j)
theorem szF_up (z : Nat → Nat) (k n : Nat) : upd (szF z) k (nI n) = szF (va_up z k n) := by
  funext j
  by_cases h : j = k
  · subst h; simp [upd, szF, va_up]
  · simp [upd, szF, va_up, h]
theorem pzF_sz (z : Nat → Nat) : ∀ n, pzF (szF z) n = szF (zc z n)
  | 0 => by rw [zc_0]; rfl
  | n + 1 => by
    show upd (pzF (szF z) n) n (nI 0) = _
    rw [pzF_sz z n, szF_up, zc_up]
theorem out_ne {i : Int32} (h : i.toInt < 0 ∨ 5 < i.toInt) {k : Nat} (hk : k ≤ 5) : ¬ i = nI k := fun q => by
  rw [q, nI_toInt (by omega)] at h
  omega
/-- how many of k places from a on hold true -/
def cntB (f : Nat → Int32) (a : Nat) : Nat → Nat
  | 0 => 0
  | k + 1 => if f (a + k) = 0 then cntB f a k else cntB f a k + 1
theorem cntB_le (f : Nat → Int32) (a : Nat) : ∀ k, cntB f a k ≤ k
  | 0 => Nat.le_refl 0
  | k + 1 => by
    have := cntB_le f a k
    show (if f (a + k) = 0 then cntB f a k else cntB f a k + 1) ≤ k + 1
    split <;> omega
