/-! the reference's own words -/
theorem shNew_alt (w : Nat → Int32) (t : Nat) : ((w (t - 16) + ((rotr (w (t - 15)) (nI 7) ^^^ rotr (w (t - 15)) (nI 18)) ^^^ jushr (w (t - 15)) (nI 3))) + w (t - 7)) + ((rotr (w (t - 2)) (nI 17) ^^^ rotr (w (t - 2)) (nI 19)) ^^^ jushr (w (t - 2)) (nI 10)) = shNew w t := by
  unfold shNew
  generalize (rotr (w (t - 15)) (nI 7) ^^^ rotr (w (t - 15)) (nI 18)) ^^^ jushr (w (t - 15)) (nI 3) = p
  generalize (rotr (w (t - 2)) (nI 17) ^^^ rotr (w (t - 2)) (nI 19)) ^^^ jushr (w (t - 2)) (nI 10) = q
  ac_rfl
/-- a byte behind the message -/
def pv (j : Nat) : Int32 := if j = 0 then nI 128 else nI 0
theorem pv_0 {j : Nat} (h : j = 0) : nI 128 = pv j := by simp [pv, h]
theorem pv_n {j : Nat} (h : ¬ j = 0) : nI 0 = pv j := by simp [pv, h]
def pw (m : Nat → Int32) (n : Nat) : Nat → (Nat → Int32)
  | 0 => m
  | j + 1 => upd (pw m n j) (n + j) (pv j)
theorem pw_lo (m : Nat → Int32) (n : Nat) : ∀ (k j : Nat), j < n → pw m n k j = m j
  | 0, _, _ => rfl
  | k + 1, j, h => by
    show upd (pw m n k) (n + k) (pv k) j = _
    have hj : j ≠ n + k := by omega
    simp only [upd, hj, if_false]; exact pw_lo m n k j h
theorem pw_hi (m : Nat → Int32) (n : Nat) : ∀ (k j : Nat), j < k → pw m n k (n + j) = pv j
  | 0, j, h => absurd h (Nat.not_lt_zero j)
  | k + 1, j, h => by
    show upd (pw m n k) (n + k) (pv k) (n + j) = _
    by_cases hj : j = k
    · subst hj; simp [upd]
    · have hj2 : n + j ≠ n + k := by omega
      simp only [upd, hj2, if_false]; exact pw_hi m n k j (by omega)
theorem zF_lo (m : Nat → Int32) (n : Nat) : ∀ (i j : Nat), j < n → zF m n i j = m j
  | 0, j, h => by
    show upd m n (nI 128) j = _
    have hj : j ≠ n := by omega
    simp only [upd, hj, if_false]
  | i + 1, j, h => by
    show upd (zF m n i) (n + 1 + i) (nI 0) j = _
    have hj : j ≠ n + 1 + i := by omega
    simp only [upd, hj, if_false]; exact zF_lo m n i j h
theorem zF_hi (m : Nat → Int32) (n : Nat) : ∀ (i j : Nat), j ≤ i → zF m n i (n + j) = pv j
  | 0, j, h => by
    have : j = 0 := by omega
    subst this
    show upd m n (nI 128) (n + 0) = _
    simp [upd, pv]
  | i + 1, j, h => by
    show upd (zF m n i) (n + 1 + i) (nI 0) (n + j) = _
    by_cases hj : j = i + 1
    · subst hj
      rw [show n + 1 + i = n + (i + 1) by omega]
      simp [upd, pv]
    · have hj2 : n + j ≠ n + 1 + i := by omega
      simp only [upd, hj2, if_false]; exact zF_hi m n i j (by omega)
theorem apD_lo (f : Nat → Int32) (n : Nat) (v : Int64) (w : Nat) : ∀ (d j : Nat), j < n → apD f n v w d j = f j
  | 0, _, _ => rfl
  | d + 1, j, h => by
    show upd (apD f n v w d) (n + d) _ j = _
    have hj : j ≠ n + d := by omega
    simp only [upd, hj, if_false]; exact apD_lo f n v w d j h
theorem apD_hi (f : Nat → Int32) (n : Nat) (v : Int64) (w : Nat) : ∀ (d j : Nat), j < d → apD f n v w d (n + j) = byteOf v (w - j - 1)
  | 0, j, h => absurd h (Nat.not_lt_zero j)
  | d + 1, j, h => by
    show upd (apD f n v w d) (n + d) (byteOf v (w - d - 1)) (n + j) = _
    by_cases hj : j = d
    · subst hj; simp [upd]
    · have hj2 : n + j ≠ n + d := by omega
      simp only [upd, hj2, if_false]; exact apD_hi f n v w d j (by omega)
/-- the padded row of the reference -/
def rowP (m : Nat → Int32) (n : Nat) : Nat → Int32 := upd (upd (upd (upd (pw m n (pE n - n)) (pE n - 4) (jushr (nI (8 * n)) (nI 24))) (pE n - 3) (jushr (nI (8 * n)) (nI 16) &&& nI 255)) (pE n - 2) (jushr (nI (8 * n)) (nI 8) &&& nI 255)) (pE n - 1) (nI (8 * n) &&& nI 255)
theorem bits_b : ∀ n, n < 184 → byteOf (bitsL n) 7 = nI 0 ∧ byteOf (bitsL n) 6 = nI 0 ∧ byteOf (bitsL n) 5 = nI 0 ∧ byteOf (bitsL n) 4 = nI 0 ∧ byteOf (bitsL n) 3 = jushr (nI (8 * n)) (nI 24) ∧ byteOf (bitsL n) 2 = jushr (nI (8 * n)) (nI 16) &&& nI 255 ∧ byteOf (bitsL n) 1 = jushr (nI (8 * n)) (nI 8) &&& nI 255 ∧ byteOf (bitsL n) 0 = nI (8 * n) &&& nI 255 := by decide +kernel
theorem rowP_eq (m : Nat → Int32) {n : Nat} (hn : n ≤ 183) : EqB (pE n) (rowP m n) (shP m n) := fun j hj => by
  have hE : pE n = (n + 8) / 64 * 64 + 64 := rfl
  obtain ⟨b7, b6, b5, b4, b3, b2, b1, b0⟩ := bits_b n (by omega)
  have hp : ∀ i, n ≤ i → i < pE n → pw m n (pE n - n) i = pv (i - n) := fun i h1 h2 => by
    have := pw_hi m n (pE n - n) (i - n) (by omega)
    rwa [show n + (i - n) = i by omega] at this
  have ha : ∀ k, k < 8 → shP m n (pE n - 8 + k) = byteOf (bitsL n) (8 - k - 1) := fun k hk => apD_hi _ _ _ _ 8 k hk
  by_cases h8 : j < pE n - 8
  · have e1 : rowP m n j = pw m n (pE n - n) j := by
      unfold rowP
      simp only [upd]
      rw [if_neg (by omega), if_neg (by omega), if_neg (by omega), if_neg (by omega)]
    have e2 : shP m n j = zF m n (pE n - 9 - n) j := apD_lo _ _ _ _ 8 j h8
    rw [e1, e2]
    by_cases hl : j < n
    · rw [pw_lo _ _ _ _ hl, zF_lo _ _ _ _ hl]
    · rw [hp j (by omega) hj]
      have := zF_hi m n (pE n - 9 - n) (j - n) (by omega)
      rw [show n + (j - n) = j by omega] at this
      exact this.symm
  · have hz : ∀ i, n < i → i < pE n → pw m n (pE n - n) i = nI 0 := fun i h1 h2 => by
      rw [hp i (by omega) h2]
      exact (pv_n (by omega)).symm
    unfold rowP
    simp only [upd]
    rcases (show j = pE n - 8 + 0 ∨ j = pE n - 8 + 1 ∨ j = pE n - 8 + 2 ∨ j = pE n - 8 + 3 ∨ j = pE n - 8 + 4 ∨ j = pE n - 8 + 5 ∨ j = pE n - 8 + 6 ∨ j = pE n - 8 + 7 by omega) with h | h | h | h | h | h | h | h <;> rw [h, ha _ (by omega)]
    · rw [if_neg (by omega), if_neg (by omega), if_neg (by omega), if_neg (by omega), hz _ (by omega) (by omega)]; exact b7.symm
    · rw [if_neg (by omega), if_neg (by omega), if_neg (by omega), if_neg (by omega), hz _ (by omega) (by omega)]; exact b6.symm
    · rw [if_neg (by omega), if_neg (by omega), if_neg (by omega), if_neg (by omega), hz _ (by omega) (by omega)]; exact b5.symm
    · rw [if_neg (by omega), if_neg (by omega), if_neg (by omega), if_neg (by omega), hz _ (by omega) (by omega)]; exact b4.symm
    · rw [if_neg (by omega), if_neg (by omega), if_neg (by omega), if_pos (by omega)]; exact b3.symm
    · rw [if_neg (by omega), if_neg (by omega), if_pos (by omega)]; exact b2.symm
    · rw [if_neg (by omega), if_pos (by omega)]; exact b1.symm
    · rw [if_pos (by omega)]; exact b0.symm
/-- the first state, stored one by one -/
def iv8 (f : Nat → Int32) : Nat → Int32 := upd (upd (upd (upd (upd (upd (upd (upd f 0 1779033703) 1 (-1150833019)) 2 1013904242) 3 (-1521486534)) 4 1359893119) 5 (-1694144372)) 6 528734635) 7 1541459225
theorem iv8_eq (f : Nat → Int32) : EqB 8 (iv8 f) (ivF (fun _ => 0) 8) := fun j hj => by
  rw [ivF_at _ 8 j hj]
  rcases (show j = 0 ∨ j = 1 ∨ j = 2 ∨ j = 3 ∨ j = 4 ∨ j = 5 ∨ j = 6 ∨ j = 7 by omega) with rfl | rfl | rfl | rfl | rfl | rfl | rfl | rfl <;> rfl
theorem mdig_of (m sf wf o : Nat → Int32) {n : Nat} (hn : n ≤ 183) : EqB 32 (shO (shB (rowP m n) (iv8 sf) wf (pE n / 64)).1 o 32) (dig m n) := fun j hj => by
  have hE : pE n = (n + 8) / 64 * 64 + 64 := rfl
  rw [shO_at _ _ 32 j hj]
  exact shY_cong (shB_cong wf (fun _ => 0) (iv8_eq sf) (pE n / 64) ((rowP_eq m hn).le (by omega))) j hj
theorem mhm_of (rf r2 kf mf : Nat → Int32) (n : Nat) : EqB 32 (dig (apA (bpF r2 (kv kf) (nI 92) 64) 64 (dig (apA (bpF rf (kv kf) (nI 54) 64) 64 mf n) (64 + n)) 32) 96) (hmv kf mf n) := fun j hj =>
  (hmF_of r2 (kv kf) _ (64 + n) j hj).trans (hmA_of rf kf mf n j hj)
/-- a row from a place on -/
def shf (f : Nat → Int32) (a : Nat) : Nat → Int32 := fun j => f (a + j)
/-- i bytes laid from a place on -/
def laid (f : Nat → Int32) (a : Nat) (x : Nat → Int32) : Nat → (Nat → Int32)
  | 0 => f
  | i + 1 => upd (laid f a x i) (a + i) (x i)
