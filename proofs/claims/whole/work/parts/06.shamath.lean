/-! SHA-256's answer depends on the message alone -/
def EqB (n : Nat) (f f' : Nat → Int32) : Prop := ∀ j, j < n → f j = f' j
theorem EqB.rf {n : Nat} {f : Nat → Int32} : EqB n f f := fun _ _ => rfl
theorem EqB.le {n k : Nat} {f f' : Nat → Int32} (h : EqB n f f') (hk : k ≤ n) : EqB k f f' := fun j hj => h j (by omega)
theorem EqB.up {n : Nat} {f f' : Nat → Int32} (h : EqB n f f') (k : Nat) {x y : Int32} (e : x = y) : EqB n (upd f k x) (upd f' k y) := fun j hj => by
  subst e
  by_cases q : j = k
  · simp [upd, q]
  · simp only [upd, q, if_false]; exact h j hj
theorem EqB.up1 {n : Nat} {f f' : Nat → Int32} (h : EqB n f f') {x y : Int32} (e : x = y) : EqB (n + 1) (upd f n x) (upd f' n y) := fun j hj => by
  subst e
  by_cases q : j = n
  · simp [upd, q]
  · simp only [upd, q, if_false]; exact h j (by omega)
theorem apD_cong {f f' : Nat → Int32} {n : Nat} (v : Int64) (w : Nat) (h : EqB n f f') : ∀ d, EqB (n + d) (apD f n v w d) (apD f' n v w d)
  | 0 => h
  | d + 1 => (apD_cong v w h d).up1 rfl
theorem zF_cong {m m' : Nat → Int32} {n : Nat} (h : EqB n m m') : ∀ i, EqB (n + 1 + i) (zF m n i) (zF m' n i)
  | 0 => h.up1 rfl
  | i + 1 => (zF_cong h i).up1 rfl
theorem shP_cong {m m' : Nat → Int32} {n : Nat} (h : EqB n m m') : EqB (pE n) (shP m n) (shP m' n) := by
  have hE : pE n = (n + 8) / 64 * 64 + 64 := rfl
  have h1 := zF_cong h (pE n - 9 - n)
  rw [show n + 1 + (pE n - 9 - n) = pE n - 8 by omega] at h1
  have h2 := apD_cong (bitsL n) 8 h1 8
  rw [show pE n - 8 + 8 = pE n by omega] at h2
  exact h2
theorem ivF_at (f : Nat → Int32) : ∀ (k j : Nat), j < k → ivF f k j = kIV j
  | 0, j, h => absurd h (Nat.not_lt_zero j)
  | k + 1, j, h => by
    show upd (ivF f k) k (kIV k) j = _
    by_cases hj : j = k
    · subst hj; simp [upd]
    · simp only [upd, hj, if_false]; exact ivF_at f k j (by omega)
theorem shF_cong {m m' : Nat → Int32} {fr : Nat} (w w' : Nat → Int32) (h : ∀ j, j < 64 → m (fr + j) = m' (fr + j)) : ∀ t, t ≤ 16 → EqB t (shF m fr w t) (shF m' fr w' t)
  | 0, _ => fun j hj => absurd hj (Nat.not_lt_zero j)
  | t + 1, ht => by
    refine (shF_cong w w' h t (by omega)).up1 ?_
    have e0 := h (4 * t) (by omega)
    have e1 := h (4 * t + 1) (by omega)
    have e2 := h (4 * t + 2) (by omega)
    have e3 := h (4 * t + 3) (by omega)
    rw [← Nat.add_assoc] at e1 e2 e3
    rw [e0, e1, e2, e3]
theorem shG_cong {w w' : Nat → Int32} (h : EqB 16 w w') : ∀ k, EqB (16 + k) (shG w k) (shG w' k)
  | 0 => h
  | k + 1 => by
    have ih := shG_cong h k
    refine ih.up1 ?_
    unfold shNew
    rw [ih (16 + k - 2) (by omega), ih (16 + k - 7) (by omega), ih (16 + k - 15) (by omega), ih (16 + k - 16) (by omega)]
theorem shW_cong {m m' : Nat → Int32} {fr : Nat} (w w' : Nat → Int32) (h : ∀ j, j < 64 → m (fr + j) = m' (fr + j)) : EqB 64 (shW m fr w) (shW m' fr w') := shG_cong (shF_cong w w' h 16 (Nat.le_refl 16)) 48
theorem shI_cong {w w' : Nat → Int32} (x : S8) {n : Nat} (h : EqB n w w') : ∀ k, k ≤ n → shI x w k = shI x w' k
  | 0, _ => rfl
  | k + 1, hk => by
    show shR (shI x w k) (kRW k) (w k) = shR (shI x w' k) (kRW k) (w' k)
    rw [shI_cong x h k (by omega), h k (by omega)]
theorem tup_cong {f f' : Nat → Int32} (h : EqB 8 f f') : tup f = tup f' := by
  unfold tup
  rw [h 0 (by omega), h 1 (by omega), h 2 (by omega), h 3 (by omega), h 4 (by omega), h 5 (by omega), h 6 (by omega), h 7 (by omega)]
theorem stAdd_cong {f f' : Nat → Int32} (h : EqB 8 f f') (x : S8) : EqB 8 (stAdd f x) (stAdd f' x) := by
  obtain ⟨a, b, c, d, e, p, q, r⟩ := x
  have k := fun j hj => h j hj
  unfold stAdd
  refine EqB.up (EqB.up (EqB.up (EqB.up (EqB.up (EqB.up (EqB.up (EqB.up h 0 ?_) 1 ?_) 2 ?_) 3 ?_) 4 ?_) 5 ?_) 6 ?_) 7 ?_
  all_goals (rw [h _ (by omega)])
theorem shB_cong {m m' st st' : Nat → Int32} (w w' : Nat → Int32) (hs : EqB 8 st st') : ∀ k, EqB (64 * k) m m' → EqB 8 (shB m st w k).1 (shB m' st' w' k).1
  | 0, _ => hs
  | k + 1, hm => by
    have ih := shB_cong w w' hs k (hm.le (by omega))
    show EqB 8 (stAdd (shB m st w k).1 (shI (tup (shB m st w k).1) (shW m (64 * k) (shB m st w k).2) 64)) (stAdd (shB m' st' w' k).1 (shI (tup (shB m' st' w' k).1) (shW m' (64 * k) (shB m' st' w' k).2) 64))
    rw [tup_cong ih, shI_cong _ (shW_cong (shB m st w k).2 (shB m' st' w' k).2 (fun j hj => hm (64 * k + j) (by omega))) 64 (Nat.le_refl 64)]
    exact stAdd_cong ih _
/-- SHA-256 of n bytes -/
def dig (m : Nat → Int32) (n : Nat) : Nat → Int32 := shY (shB (shP m n) (ivF (fun _ => 0) 8) (fun _ => 0) (pE n / 64)).1
theorem shY_cong {f f' : Nat → Int32} (h : EqB 8 f f') : EqB 32 (shY f) (shY f') := fun j hj => by
  unfold shY
  rw [h (j / 4) (by omega)]
theorem dig_of (m sf wf o : Nat → Int32) (n : Nat) : EqB 32 (shO (shB (shP m n) (ivF sf 8) wf (pE n / 64)).1 o 32) (dig m n) := fun j hj => by
  rw [shO_at _ _ 32 j hj]
  exact shY_cong (shB_cong wf (fun _ => 0) (fun i hi => by rw [ivF_at _ 8 i hi, ivF_at _ 8 i hi]) (pE n / 64) EqB.rf) j hj
theorem dig_cong {m m' : Nat → Int32} {n : Nat} (h : EqB n m m') : EqB 32 (dig m n) (dig m' n) := by
  refine shY_cong (shB_cong _ _ EqB.rf (pE n / 64) ((shP_cong h).le ?_))
  have hE : pE n = (n + 8) / 64 * 64 + 64 := rfl
  omega
