/-- the reference's round words, stored one by one -/
def rdsF : Nat → (Nat → Int32)
  | 0 => fun _ => 0
  | n + 1 => upd (rdsF n) n (kRW n)
theorem rdsF_at : ∀ (n j : Nat), j < n → rdsF n j = kRW j
  | 0, j, h => absurd h (Nat.not_lt_zero j)
  | n + 1, j, h => by
    show upd (rdsF n) n (kRW n) j = _
    by_cases hj : j = n
    · subst hj; simp [upd]
    · simp only [upd, hj, if_false]; exact rdsF_at n j (by omega)
