/-! words for the class's own methods -/
abbrev inR (x : Int32) (n : Nat) : Prop := 0 ≤ x ∧ x < nI n
theorem inR_nI {i n : Nat} (h : i < n) (hn : n < 2147483648 := by omega) : inR (nI i) n := ⟨nI_pos' (by omega), nI_lt h hn⟩
theorem inR_of {x : Int32} {n : Nat} (h : inR x n) (hn : n < 2147483648) : ∃ i : Nat, i < n ∧ x = nI i := by
  obtain ⟨j, h1, h2⟩ := nI_of (x := x) (Int32.not_lt.mpr h.1)
  subst h2
  exact ⟨j, (nI_ltI h1 hn).mp h.2, rfl⟩
theorem i32_le255 {x : Int32} (h : ¬ nI 255 < x) : x < nI 256 := by
  rw [Int32.lt_iff_toInt_lt, nI_toInt (by decide)] at h ⊢
  omega
theorem i32_gt255 {x : Int32} (h : nI 255 < x) : ¬ x < nI 256 := by
  rw [Int32.lt_iff_toInt_lt, nI_toInt (by decide)] at h ⊢
  omega
theorem nI_ne_m1 {k : Nat} (h : k < 2147483648) : ¬ nI k = -1 := fun q => by
  have := nI_pos (n := k) h
  rw [q] at this
  exact this (by decide +kernel)
def zro : Nat → Int32 := fun _ => nI 0
def kL (l : List (Nat → Int32)) : Nat → Nat → Int32 := fun j => l.getD j zro
def nL (l : List Nat) : Nat → Nat := fun j => l.getD j 0
def zc (z : Nat → Nat) (k : Nat) : Nat → Nat := fun j => if j < k then 0 else z j
theorem zc_0 {z : Nat → Nat} : zc z 0 = z := by
  funext j
  simp [zc]
theorem zc_up {z : Nat → Nat} {k : Nat} : va_up (zc z k) k 0 = zc z (k + 1) := by
  funext j
  by_cases h : j = k
  · subst h; simp [va_up, zc]
  · rw [va_up_ne _ _ h]
    unfold zc
    by_cases h2 : j < k
    · rw [if_pos h2, if_pos (by omega)]
    · rw [if_neg h2, if_neg (by omega)]
def pzF (o : Nat → Int32) : Nat → (Nat → Int32)
  | 0 => o
  | i + 1 => upd (pzF o i) i (nI 0)
theorem pzF_at (o : Nat → Int32) : ∀ (n j : Nat), j < n → pzF o n j = zro j
  | 0, j, h => absurd h (Nat.not_lt_zero j)
  | n + 1, j, h => by
    show upd (pzF o n) n (nI 0) j = _
    by_cases hj : j = n
    · subst hj; simp [upd, zro]
    · simp only [upd, hj, if_false]; exact pzF_at o n j (by omega)
/-- how many of the first k slots have a record -/
def cntF (z : Nat → Nat) : Nat → Nat
  | 0 => 0
  | k + 1 => if z k = 0 then cntF z k else cntF z k + 1
theorem cntF_le (z : Nat → Nat) : ∀ k, cntF z k ≤ k
  | 0 => Nat.le_refl 0
  | k + 1 => by
    have := cntF_le z k
    show (if z k = 0 then cntF z k else cntF z k + 1) ≤ k + 1
    split <;> omega
theorem jud_le (rf : Nat → Int32) (rn d ep : Nat) (tk : Nat → Int32) (gt sn : Int64) : jud rf rn d ep tk gt sn ≤ 6 := by
  unfold jud
  repeat' split
  all_goals omega
