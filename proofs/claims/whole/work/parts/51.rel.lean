/-! what ties the two states: bytes, keys, records -/
def B8 (x : Int32) : Prop := x = x &&& nI 255
theorem B8_and (x : Int32) : B8 (x &&& nI 255) := by
  unfold B8
  rw [Int32.and_assoc, Int32.and_self]
theorem B8_xor {x y : Int32} (hx : B8 x) (hy : B8 y) : B8 (x ^^^ y) := by
  unfold B8 at *
  apply Int32.toBitVec_inj.mp
  have h1 := congrArg Int32.toBitVec hx
  have h2 := congrArg Int32.toBitVec hy
  simp only [Int32.toBitVec_and, Int32.toBitVec_xor] at *
  ext i hi
  have a := congrArg (fun v => v[i]) h1
  have b := congrArg (fun v => v[i]) h2
  simp only [BitVec.getElem_and, BitVec.getElem_xor] at *
  cases hx' : x.toBitVec[i] <;> cases hy' : y.toBitVec[i] <;> simp [hx', hy'] at a b ⊢ <;> simp [*]
theorem B8_nI {n : Nat} (h : n < 256) : B8 (nI n) := by
  unfold B8
  rw [pk_andN (by omega) 8 (by decide +kernel), Nat.mod_eq_of_lt h]
theorem B8_in {v : Int32} (h : inR v 256) : B8 v := by
  obtain ⟨i, hi, rfl⟩ := inR_of h (by decide)
  exact B8_nI hi
theorem B8_byteOf (v : Int64) (i : Nat) : B8 (byteOf v i) := B8_and _
theorem B8_sByte (k hd : Nat → Int32) (t : Nat) : B8 (sByte k hd t) := B8_and _
theorem B8_hmv (k m : Nat → Int32) (n j : Nat) : B8 (hmv k m n j) := B8_and _
theorem B8_hdF (o : Nat → Int32) (d ep : Nat) (nx : Int64) (k : Nat) (hd : d < 2) {j : Nat} (hj : j < 15) : B8 (hdF o d ep nx k j) := by
  unfold hdF
  by_cases h13 : 13 ≤ j
  · have e2 := apD_hi (apD (apD (upd o 0 (nI d)) 1 (nI ep).toInt64 4 4) 5 nx 8 8) 13 (nI k).toInt64 2 2 (j - 13) (by omega)
    rw [show 13 + (j - 13) = j by omega] at e2
    rw [e2]; exact B8_byteOf _ _
  · rw [apD_out _ 13 _ _ _ _ (by omega)]
    by_cases h5 : 5 ≤ j
    · have e2 := apD_hi (apD (upd o 0 (nI d)) 1 (nI ep).toInt64 4 4) 5 nx 8 8 (j - 5) (by omega)
      rw [show 5 + (j - 5) = j by omega] at e2
      rw [e2]; exact B8_byteOf _ _
    · rw [apD_out _ 5 _ _ _ _ (by omega)]
      by_cases h1 : 1 ≤ j
      · have e2 := apD_hi (upd o 0 (nI d)) 1 (nI ep).toInt64 4 4 (j - 1) (by omega)
        rw [show 1 + (j - 1) = j by omega] at e2
        rw [e2]; exact B8_byteOf _ _
      · have : j = 0 := by omega
        subst this
        rw [apD_out _ 1 _ _ _ _ (by omega)]
        simp only [upd, if_true]
        exact B8_nI (by omega)
theorem wrF_hi (hd tx key : Nat → Int32) : ∀ (t j : Nat), j < t → wrF hd tx key t (15 + j) = tx j ^^^ sByte key hd j
  | 0, j, h => absurd h (Nat.not_lt_zero j)
  | t + 1, j, h => by
    show upd (wrF hd tx key t) (15 + t) (tx t ^^^ sByte key hd t) (15 + j) = _
    by_cases hj : j = t
    · subst hj; simp [upd]
    · have hj2 : 15 + j ≠ 15 + t := by omega
      simp only [upd, hj2, if_false]; exact wrF_hi hd tx key t j (by omega)
theorem recF_lo (hd tx sk tk : Nat → Int32) (n : Nat) {j : Nat} (h : j < 15 + n) : recF hd tx sk tk n j = wrF hd tx sk n j := apA_lo _ _ _ _ _ h
theorem recF_hi (hd tx sk tk : Nat → Int32) (n : Nat) {j : Nat} (h : j < 16) : recF hd tx sk tk n (15 + n + j) = hmv tk (wrF hd tx sk n) (15 + n) j := apA_hi _ _ _ _ _ h
theorem B8_recF (o tx sk tk : Nat → Int32) (d ep : Nat) (nx : Int64) (n : Nat) (hd : d < 2) (ht : ∀ j, j < n → B8 (tx j)) {j : Nat} (hj : j < 15 + n + 16) : B8 (recF (hdF o d ep nx n) tx sk tk n j) := by
  by_cases h1 : j < 15
  · rw [recF_lo _ _ _ _ _ (by omega), wrF_lo _ _ _ _ _ h1]
    exact B8_hdF o d ep nx n hd h1
  · by_cases h2 : j < 15 + n
    · rw [recF_lo _ _ _ _ _ h2]
      have := wrF_hi (hdF o d ep nx n) tx sk n (j - 15) (by omega)
      rw [show 15 + (j - 15) = j by omega] at this
      rw [this]
      exact B8_xor (ht _ (by omega)) (B8_sByte _ _ _)
    · have := recF_hi (hdF o d ep nx n) tx sk tk n (j := j - (15 + n)) (by omega)
      rw [show 15 + n + (j - (15 + n)) = j by omega] at this
      rw [this]
      exact B8_hmv _ _ _ _
theorem wrF_key {hd tx k k' : Nat → Int32} (h : EqB 32 k k') : ∀ t, wrF hd tx k t = wrF hd tx k' t
  | 0 => rfl
  | t + 1 => by
    show upd (wrF hd tx k t) (15 + t) (tx t ^^^ sByte k hd t) = upd (wrF hd tx k' t) (15 + t) (tx t ^^^ sByte k' hd t)
    rw [wrF_key h t, sByte_key h]
theorem recF_key {hd tx sk sk' tk tk' : Nat → Int32} (n : Nat) (h1 : EqB 32 sk sk') (h2 : EqB 32 tk tk') : EqB (15 + n + 16) (recF hd tx sk tk n) (recF hd tx sk' tk' n) := fun j hj => by
  by_cases h : j < 15 + n
  · rw [recF_lo _ _ _ _ _ h, recF_lo _ _ _ _ _ h, wrF_key h1]
  · have e1 := recF_hi hd tx sk tk n (j := j - (15 + n)) (by omega)
    have e2 := recF_hi hd tx sk' tk' n (j := j - (15 + n)) (by omega)
    rw [show 15 + n + (j - (15 + n)) = j by omega] at e1 e2
    rw [e1, e2, wrF_key h1]
    exact hmv_cong h2 EqB.rf _ (by omega)
theorem laid_in (f : Nat → Int32) (a : Nat) (x : Nat → Int32) : ∀ (n j : Nat), j < n → laid f a x n (a + j) = x j
  | 0, j, h => absurd h (Nat.not_lt_zero j)
  | n + 1, j, h => by
    show upd (laid f a x n) (a + n) (x n) (a + j) = _
    by_cases hj : j = n
    · subst hj; simp [upd]
    · have hj2 : a + j ≠ a + n := by omega
      simp only [upd, hj2, if_false]; exact laid_in f a x n j (by omega)
theorem laid_out (f : Nat → Int32) (a : Nat) (x : Nat → Int32) : ∀ (n j : Nat), j < a ∨ a + n ≤ j → laid f a x n j = f j
  | 0, _, _ => rfl
  | n + 1, j, h => by
    show upd (laid f a x n) (a + n) (x n) j = _
    have hj : j ≠ a + n := by omega
    simp only [upd, hj, if_false]; exact laid_out f a x n j (by omega)
theorem keyD_cong {r r' : Nat → Int32} (h : EqB 32 r r') (d p : Nat) : EqB 32 (keyD r d p) (keyD r' d p) := hmv_cong h EqB.rf
