/-! keys and records -/
def msg3 (a b : Int32) : Nat → Int32 := fun j => if j = 0 then a else if j = 1 then b else nI 1
/-- a key made of a root: direction d, purpose p -/
def keyD (r : Nat → Int32) (d p : Nat) : Nat → Int32 := hmv r (msg3 (nI d) (nI p)) 3
theorem hmv_of {m m1 rf msg : Nat → Int32} {n : Nat} (h0 : ∀ j, j < 64 → m1 j = bpF m (kv rf) (nI 54) 64 j) (h1 : ∀ j, j < n → m1 (64 + j) = msg j) : EqB 32 (hmF (kv rf) m1 (64 + n)) (hmv rf msg n) := by
  refine hmF_cong EqB.rf (fun j hj => ?_)
  unfold hmM
  by_cases h : j < 64
  · rw [if_pos h, h0 j h, bpF_at _ _ _ _ _ h]
  · rw [if_neg h]
    have := h1 (j - 64) (by omega)
    rw [show 64 + (j - 64) = j by omega] at this
    exact this
theorem keyD_of (m rf : Nat → Int32) (d p : Nat) : EqB 32 (hmF (kv rf) (upd (upd (upd (bpF m (kv rf) (nI 54) 64) 64 (nI d)) (64 + 1) (nI p)) (64 + 1 + 1) (nI 1)) (64 + 1 + 1 + 1)) (keyD rf d p) := by
  refine hmv_of (n := 3) (m := m) (fun j hj => ?_) (fun j hj => ?_)
  · simp only [upd]
    rw [if_neg (by omega), if_neg (by omega), if_neg (by omega)]
  · rcases (show j = 0 ∨ j = 1 ∨ j = 2 by omega) with rfl | rfl | rfl <;> rfl
theorem hmA_of (m rf x : Nat → Int32) (k : Nat) : EqB 32 (hmF (kv rf) (apA (bpF m (kv rf) (nI 54) 64) 64 x k) (64 + k)) (hmv rf x k) :=
  hmv_of (m := m) (fun j hj => apA_lo _ _ _ _ _ hj) (fun j hj => apA_hi _ _ _ _ _ hj)
/-- the head of a record: direction, epoch, number, length -/
def hdF (o : Nat → Int32) (d ep : Nat) (nx : Int64) (k : Nat) : Nat → Int32 := apD (apD (apD (upd o 0 (nI d)) 1 (nI ep).toInt64 4 4) 5 nx 8 8) 13 (nI k).toInt64 2 2
/-- i bytes of text sealed behind a head -/
def wrF (hd tx key : Nat → Int32) : Nat → (Nat → Int32)
  | 0 => hd
  | i + 1 => upd (wrF hd tx key i) (15 + i) (tx i ^^^ sByte key hd i)
/-- a record: a head, k bytes sealed, the tag -/
def recF (hd tx sk tk : Nat → Int32) (k : Nat) : Nat → Int32 := apA (wrF hd tx sk k) (15 + k) (hmv tk (wrF hd tx sk k) (15 + k)) 16
/-- i bytes of a record opened -/
def rdF (o rf key : Nat → Int32) : Nat → (Nat → Int32)
  | 0 => o
  | i + 1 => upd (rdF o rf key i) i (rf (15 + i) ^^^ sByte key rf i)
abbrev shpOK (rf : Nat → Int32) (rn d : Nat) : Prop := rf 0 = nI d ∧ ¬ nI 96 < (nAt rf 13 2).toInt32 ∧ (nI 15 + (nAt rf 13 2).toInt32) + nI 16 = nI rn
abbrev tagOK (rf gf : Nat → Int32) (ta : Nat) : Prop := ∀ i, i < 16 → rf (ta + i) = gf i
abbrev wOld (gt sn n : Int64) : Prop := ¬ sn = 0 ∧ ¬ lowU gt n ∧ ¬ fit64 (gt - n)
abbrev wSeen (gt sn n : Int64) : Prop := ¬ lowU gt n ∧ fit64 (gt - n) ∧ jlushr sn (gt - n).toInt32 &&& 1 = 1
/-- what speaks against a record -/
def jud (rf : Nat → Int32) (rn d ep : Nat) (tk : Nat → Int32) (gt sn : Int64) : Nat :=
  if ¬ shpOK rf rn d then 2 else if ¬ (nAt rf 1 4).toInt32 = nI ep then 3 else if ¬ tagOK rf (hmv tk rf (rn - 16)) (rn - 16) then 4 else if wOld gt sn (nAt rf 5 8) then 5 else if wSeen gt sn (nAt rf 5 8) then 6 else 0
