theorem m3_of (mf : Nat → Int32) (a b : Int32) : EqB 3 (upd (upd (upd mf 0 a) 1 b) 2 (nI 1)) (msg3 a b) := fun j hj => by
  rcases (show j = 0 ∨ j = 1 ∨ j = 2 by omega) with rfl | rfl | rfl <;> rfl
def w0 (f : Nat → Int32) : Nat → Int32 := upd (upd (upd (upd f 0 1634760805) 5 857760878) 10 2036477234) 15 1797285236
def wL (o se : Nat → Int32) (d : Nat) : Nat → (Nat → Int32)
  | 0 => o
  | i + 1 => upd (upd (wL o se d i) (1 + i) (kwd se (32 * d + 4 * i))) (11 + i) (kwd se (32 * d + 4 * (4 + i)))
theorem wL_of (f se wr : Nat → Int32) (d t : Nat) (cn : Int32) : EqB 16 (upd (upd (upd (upd (wL (w0 f) se d 4) 6 (kwd wr (128 * t + 5))) 7 (kwd wr (128 * t + 9))) 8 cn) 9 (nI 0)) (sIn (shf se (32 * d)) (shf wr (128 * t)) cn) := fun j hj => by
  rcases (show j = 0 ∨ j = 1 ∨ j = 2 ∨ j = 3 ∨ j = 4 ∨ j = 5 ∨ j = 6 ∨ j = 7 ∨ j = 8 ∨ j = 9 ∨ j = 10 ∨ j = 11 ∨ j = 12 ∨ j = 13 ∨ j = 14 ∨ j = 15 by omega) with rfl | rfl | rfl | rfl | rfl | rfl | rfl | rfl | rfl | rfl | rfl | rfl | rfl | rfl | rfl | rfl <;> rfl
theorem sIn_hd {k hd hd' : Nat → Int32} {c : Int32} (h5 : kwd hd 5 = kwd hd' 5) (h9 : kwd hd 9 = kwd hd' 9) : sIn k hd c = sIn k hd' c := by
  funext j
  unfold sIn
  rw [h5, h9]
