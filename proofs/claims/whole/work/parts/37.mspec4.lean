theorem apD_out (f : Nat → Int32) (n : Nat) (v : Int64) (w : Nat) : ∀ (d j : Nat), j < n ∨ n + d ≤ j → apD f n v w d j = f j
  | 0, _, _ => rfl
  | d + 1, j, h => by
    show upd (apD f n v w d) (n + d) _ j = _
    have hj : j ≠ n + d := by omega
    simp only [upd, hj, if_false]; exact apD_out f n v w d j (by omega)
/-- the head as the reference writes it, from a place on -/
def hdM (w : Nat → Int32) (a i ep : Nat) (nx : Int64) (k : Nat) : Nat → Int32 := apD (apD (apD (upd w a (nI i)) (a + 1) (nI ep).toInt64 4 4) (a + 5) nx 8 8) (a + 13) (nI k).toInt64 2 2
theorem hdM_out (w : Nat → Int32) (a i ep : Nat) (nx : Int64) (k : Nat) {j : Nat} (h : j < a ∨ a + 15 ≤ j) : hdM w a i ep nx k j = w j := by
  unfold hdM
  rw [apD_out _ _ _ _ _ _ (by omega), apD_out _ _ _ _ _ _ (by omega), apD_out _ _ _ _ _ _ (by omega)]
  have hj : j ≠ a := by omega
  simp only [upd, hj, if_false]
theorem hdM_eq (w fb : Nat → Int32) (a i ep : Nat) (nx : Int64) (k : Nat) {j : Nat} (h : j < 15) : hdM w a i ep nx k (a + j) = hdF fb i ep nx k j := by
  unfold hdM hdF
  by_cases h13 : 13 ≤ j
  · have e1 := apD_hi (apD (apD (upd w a (nI i)) (a + 1) (nI ep).toInt64 4 4) (a + 5) nx 8 8) (a + 13) (nI k).toInt64 2 2 (j - 13) (by omega)
    have e2 := apD_hi (apD (apD (upd fb 0 (nI i)) 1 (nI ep).toInt64 4 4) 5 nx 8 8) 13 (nI k).toInt64 2 2 (j - 13) (by omega)
    rw [show a + 13 + (j - 13) = a + j by omega] at e1
    rw [show 13 + (j - 13) = j by omega] at e2
    rw [e1, e2]
  · rw [apD_out _ _ _ _ _ _ (by omega), apD_out _ 13 _ _ _ _ (by omega)]
    by_cases h5 : 5 ≤ j
    · have e1 := apD_hi (apD (upd w a (nI i)) (a + 1) (nI ep).toInt64 4 4) (a + 5) nx 8 8 (j - 5) (by omega)
      have e2 := apD_hi (apD (upd fb 0 (nI i)) 1 (nI ep).toInt64 4 4) 5 nx 8 8 (j - 5) (by omega)
      rw [show a + 5 + (j - 5) = a + j by omega] at e1
      rw [show 5 + (j - 5) = j by omega] at e2
      rw [e1, e2]
    · rw [apD_out _ _ _ _ _ _ (by omega), apD_out _ 5 _ _ _ _ (by omega)]
      by_cases h1 : 1 ≤ j
      · have e1 := apD_hi (upd w a (nI i)) (a + 1) (nI ep).toInt64 4 4 (j - 1) (by omega)
        have e2 := apD_hi (upd fb 0 (nI i)) 1 (nI ep).toInt64 4 4 (j - 1) (by omega)
        rw [show a + 1 + (j - 1) = a + j by omega] at e1
        rw [show 1 + (j - 1) = j by omega] at e2
        rw [e1, e2]
      · have : j = 0 := by omega
        subst this
        rw [apD_out _ _ _ _ _ _ (by omega), apD_out _ 1 _ _ _ _ (by omega)]
        simp [upd]
theorem wrF_lo (hd tx key : Nat → Int32) : ∀ (t j : Nat), j < 15 → wrF hd tx key t j = hd j
  | 0, _, _ => rfl
  | t + 1, j, h => by
    show upd (wrF hd tx key t) (15 + t) _ j = _
    have hj : j ≠ 15 + t := by omega
    simp only [upd, hj, if_false]; exact wrF_lo hd tx key t j h
theorem kwd_eq {f f' : Nat → Int32} {i : Nat} (h0 : f i = f' i) (h1 : f (i + 1) = f' (i + 1)) (h2 : f (i + 2) = f' (i + 2)) (h3 : f (i + 3) = f' (i + 3)) : kwd f i = kwd f' i := by
  unfold kwd
  rw [h0, h1, h2, h3]
/-- a part of a row from a place on is what f says below n; outside of [a, a+128) it is as before -/
def PartOf (wv w : Nat → Int32) (a n : Nat) (f : Nat → Int32) : Prop := (∀ j, j < n → wv (a + j) = f j) ∧ ∀ j, j < a ∨ a + 128 ≤ j → wv j = w j
theorem PartOf.step {wv w f : Nat → Int32} {a n : Nat} (h : PartOf wv w a n f) (hn : n < 128) (v : Int32) : PartOf (upd wv (a + n) v) w a (n + 1) (upd f n v) := by
  refine ⟨fun j hj => ?_, fun j hj => ?_⟩
  · by_cases q : j = n
    · subst q; simp [upd]
    · have q2 : a + j ≠ a + n := by omega
      simp only [upd, q, q2, if_false]
      exact h.1 j (by omega)
  · have q2 : j ≠ a + n := by omega
    simp only [upd, q2, if_false]
    exact h.2 j hj
theorem PartOf.k5 {wv w : Nat → Int32} {a n t : Nat} {hd tx key : Nat → Int32} (h : PartOf wv w a n (wrF hd tx key t)) (hn : 15 ≤ n) : kwd (shf wv a) 5 = kwd hd 5 := by
  refine kwd_eq ?_ ?_ ?_ ?_ <;> (refine (h.1 _ (by omega)).trans (wrF_lo hd tx key t _ (by omega)))
theorem PartOf.k9 {wv w : Nat → Int32} {a n t : Nat} {hd tx key : Nat → Int32} (h : PartOf wv w a n (wrF hd tx key t)) (hn : 15 ≤ n) : kwd (shf wv a) 9 = kwd hd 9 := by
  refine kwd_eq ?_ ?_ ?_ ?_ <;> (refine (h.1 _ (by omega)).trans (wrF_lo hd tx key t _ (by omega)))
