theorem nAt_eq {wr f : Nat → Int32} {a fr : Nat} : ∀ (k : Nat), (∀ j, j < k → wr (a + fr + j) = f (fr + j)) → nAt wr (a + fr) k = nAt f fr k
  | 0, _ => rfl
  | k + 1, h => by
    show jlshl (nAt wr (a + fr) k) (nI 8) ||| (wr (a + fr + k) &&& nI 255).toInt64 = jlshl (nAt f fr k) (nI 8) ||| (f (fr + k) &&& nI 255).toInt64
    rw [nAt_eq k (fun j hj => h j (by omega)), h k (by omega)]
/-- what the reference's window becomes when its greatest goes b up: the places from k on are done -/
def shM (f : Nat → Int32) (a b k : Nat) : Nat → Int32 := fun j => if a + k ≤ j ∧ j < a + 64 then (if a + b ≤ j then bI (decide (¬ f (j - b) = 0)) else nI 0) else f j
theorem shM_64 (f : Nat → Int32) (a b : Nat) : shM f a b 64 = f := by
  funext j
  unfold shM
  rw [if_neg (by omega)]
theorem shM_up (f : Nat → Int32) (a b k : Nat) (hk : k < 64) : upd (shM f a b (k + 1)) (a + k) (if a + b ≤ a + k then bI (decide (¬ f (a + k - b) = 0)) else nI 0) = shM f a b k := by
  funext j
  unfold shM
  by_cases h : j = a + k
  · subst h
    simp only [upd, if_true]
    rw [if_pos (show a + k ≤ a + k ∧ a + k < a + 64 by omega)]
  · simp only [upd, h, if_false]
    by_cases h2 : a + (k + 1) ≤ j ∧ j < a + 64
    · rw [if_pos h2, if_pos (show a + k ≤ j ∧ j < a + 64 by omega)]
    · rw [if_neg h2, if_neg (show ¬ (a + k ≤ j ∧ j < a + 64) by omega)]
theorem shM_lo (f : Nat → Int32) (a b k j : Nat) (h : j < a + k) : shM f a b k j = f j := by
  unfold shM
  rw [if_neg (by omega)]
theorem sIn_key {k k' hd : Nat → Int32} {c : Int32} (h : EqB 32 k k') : EqB 16 (sIn k hd c) (sIn k' hd c) := fun j hj => by
  have hk : ∀ i, i + 3 < 32 → kwd k i = kwd k' i := fun i hi => kwd_eq (h i (by omega)) (h (i + 1) (by omega)) (h (i + 2) (by omega)) (h (i + 3) (by omega))
  unfold sIn
  by_cases h5 : j < 5
  · rcases Nat.eq_zero_or_pos j with q | q
    · simp [q]
    · rw [hk (4 * (j - 1)) (by omega)]
      simp [h5, show j ≠ 0 by omega]
  · by_cases h15 : 11 ≤ j ∧ j < 15
    · rw [hk (16 + 4 * (j - 11)) (by omega)]
      simp [h5, show j ≠ 0 by omega, show j ≠ 5 by omega, show j ≠ 6 by omega, show j ≠ 7 by omega, show j ≠ 8 by omega, show j ≠ 9 by omega, show j ≠ 10 by omega, h15.2]
    · rcases (show j = 5 ∨ j = 6 ∨ j = 7 ∨ j = 8 ∨ j = 9 ∨ j = 10 ∨ j = 15 by omega) with q | q | q | q | q | q | q <;> simp [q]
theorem sByte_key {k k' hd : Nat → Int32} {t : Nat} (h : EqB 32 k k') : sByte k hd t = sByte k' hd t := by
  unfold sByte
  rw [sBlk_cong (sIn_key h) (t % 64 / 4) (by omega)]
