/-! entering a walk: the end is a row of its own (hret), the caller's end stays a name (Q) -/
theorem enterV {l : Launch} {y : MethodName} {wd wd' : List Cond} {rm : Room} {g : GE} {av : List Value} {ws : va_W} {sz : Nat} {S : Type} {post : S → Prop} {w1 : S → va_W} {mc ms : Nat} {cc : ByteArray} {maxL : Nat}
    (hy : plainName y.cls = true) (hw : wd = Cond.code y cc maxL none :: wd') (hlen : (lg_sl av).length ≤ maxL)
    (body : ∀ p e s m below meth c (A : Nat → Prop) (ls : Array Slot) (ar : Array Value) (Q : State → Prop), EN p s m meth c ar y wd cc maxL none → CT g A s →
      (∀ {H : Heap} {locs : List Loc} {X pl : va_W} {pc cells slots : Nat} {ls : Array Slot}, WD g A s X pl H locs → ∀ u : S, post u → X ++ pl = w1 u → cells ≤ mc → slots ≤ ms → decode cc pc = .ok (.return_, 1) → W p l e rm s m ar below meth c H locs cells slots Q (F0 m pc ls [])) →
      WD g A s ws [] s.heap [] → lv_has ls maxL (lv_args 0 av) → W p l e rm s m ar below meth c s.heap [] 0 0 Q (F0 m 0 ls [])) : MV l y wd rm g av ws sz post w1 mc ms := by
  refine enterQ (fun A => va_Qv post (fun u t => PST g A (w1 u) t) A) hy hw hlen ?_
  intro p e s m below meth c A ls hE h0 hW hl
  refine body p e s m below meth c A ls _ _ hE h0 ?_ hW hl
  intro H locs X pl pc cells slots ls hW u hp hX h1 h2 hd
  exact W.widen h1 h2 (r_vret hE.1 hE.2.1 hE.2.2.1 hE.2.2.2.2.2.2.1 hW u hp hX hd)
theorem enterI {l : Launch} {y : MethodName} {wd wd' : List Cond} {rm : Room} {g : GE} {av : List Value} {ws : va_W} {sz : Nat} {S : Type} {post : Int32 → S → Prop} {w1 : S → va_W} {mc ms : Nat} {cc : ByteArray} {maxL : Nat}
    (hy : plainName y.cls = true) (hw : wd = Cond.code y cc maxL (some .int) :: wd') (hlen : (lg_sl av).length ≤ maxL)
    (body : ∀ p e s m below meth c (A : Nat → Prop) (ls : Array Slot) (ar : Array Value) (Q : State → Prop), EN p s m meth c ar y wd cc maxL (some .int) → CT g A s →
      (∀ {H : Heap} {locs : List Loc} {X pl : va_W} {pc cells slots : Nat} {ls : Array Slot} {v : Int32}, WD g A s X pl H locs → ∀ u : S, post v u → X ++ pl = w1 u → cells ≤ mc → slots ≤ ms → decode cc pc = .ok (.ireturn, 1) → W p l e rm s m ar below meth c H locs cells slots Q (F0 m pc ls [.int v])) →
      WD g A s ws [] s.heap [] → lv_has ls maxL (lv_args 0 av) → W p l e rm s m ar below meth c s.heap [] 0 0 Q (F0 m 0 ls [])) : MI l y wd rm g av ws sz post w1 mc ms := by
  refine enterQ (fun A => va_Qi post (fun u t => PST g A (w1 u) t) A) hy hw hlen ?_
  intro p e s m below meth c A ls hE h0 hW hl
  refine body p e s m below meth c A ls _ _ hE h0 ?_ hW hl
  intro H locs X pl pc cells slots ls v hW u hp hX h1 h2 hd
  exact W.widen h1 h2 (r_iret hE.1 hE.2.1 hE.2.2.1 hE.2.2.2.2.2.2.1 hW u hp hX hd)
theorem enterZ {l : Launch} {y : MethodName} {wd wd' : List Cond} {rm : Room} {g : GE} {av : List Value} {ws : va_W} {sz : Nat} {S : Type} {post : Int32 → S → Prop} {w1 : S → va_W} {mc ms : Nat} {cc : ByteArray} {maxL : Nat}
    (hy : plainName y.cls = true) (hw : wd = Cond.code y cc maxL (some .boolean) :: wd') (hlen : (lg_sl av).length ≤ maxL)
    (body : ∀ p e s m below meth c (A : Nat → Prop) (ls : Array Slot) (ar : Array Value) (Q : State → Prop), EN p s m meth c ar y wd cc maxL (some .boolean) → CT g A s →
      (∀ {H : Heap} {locs : List Loc} {X pl : va_W} {pc cells slots : Nat} {ls : Array Slot} {v : Int32}, narrow .boolean (.int v) = .int v → WD g A s X pl H locs → ∀ u : S, post v u → X ++ pl = w1 u → cells ≤ mc → slots ≤ ms → decode cc pc = .ok (.ireturn, 1) → W p l e rm s m ar below meth c H locs cells slots Q (F0 m pc ls [.int v])) →
      WD g A s ws [] s.heap [] → lv_has ls maxL (lv_args 0 av) → W p l e rm s m ar below meth c s.heap [] 0 0 Q (F0 m 0 ls [])) : MI l y wd rm g av ws sz post w1 mc ms := by
  refine enterQ (fun A => va_Qi post (fun u t => PST g A (w1 u) t) A) hy hw hlen ?_
  intro p e s m below meth c A ls hE h0 hW hl
  refine body p e s m below meth c A ls _ _ hE h0 ?_ hW hl
  intro H locs X pl pc cells slots ls v hz hW u hp hX h1 h2 hd
  exact W.widen h1 h2 (r_zret hE.1 hE.2.1 hE.2.2.1 hE.2.2.2.2.2.2.1 hz hW u hp hX hd)
theorem enterL {l : Launch} {y : MethodName} {wd wd' : List Cond} {rm : Room} {g : GE} {av : List Value} {ws : va_W} {sz : Nat} {S : Type} {post : Int64 → S → Prop} {w1 : S → va_W} {mc ms : Nat} {cc : ByteArray} {maxL : Nat}
    (hy : plainName y.cls = true) (hw : wd = Cond.code y cc maxL (some .long) :: wd') (hlen : (lg_sl av).length ≤ maxL)
    (body : ∀ p e s m below meth c (A : Nat → Prop) (ls : Array Slot) (ar : Array Value) (Q : State → Prop), EN p s m meth c ar y wd cc maxL (some .long) → CT g A s →
      (∀ {H : Heap} {locs : List Loc} {X pl : va_W} {pc cells slots : Nat} {ls : Array Slot} {v : Int64}, WD g A s X pl H locs → ∀ u : S, post v u → X ++ pl = w1 u → cells ≤ mc → slots ≤ ms → decode cc pc = .ok (.lreturn, 1) → W p l e rm s m ar below meth c H locs cells slots Q (F0 m pc ls [.long v])) →
      WD g A s ws [] s.heap [] → lv_has ls maxL (lv_args 0 av) → W p l e rm s m ar below meth c s.heap [] 0 0 Q (F0 m 0 ls [])) : ML l y wd rm g av ws sz post w1 mc ms := by
  refine enterQ (fun A => va_Ql post (fun u t => PST g A (w1 u) t) A) hy hw hlen ?_
  intro p e s m below meth c A ls hE h0 hW hl
  refine body p e s m below meth c A ls _ _ hE h0 ?_ hW hl
  intro H locs X pl pc cells slots ls v hW u hp hX h1 h2 hd
  exact W.widen h1 h2 (r_lret hE.1 hE.2.1 hE.2.2.1 hE.2.2.2.2.2.2.1 hW u hp hX hd)
/-- the contents of a row of ints count below its length alone -/
theorem vp_cell_cong {cA : ClassId} {n : Nat} {f f' : Nat → Int32} (e : ∀ j, j < n → f j = f' j) : vp_cell cA (n, .inl f) = vp_cell cA (n, .inl f') := by
  rw [vp_cell_i, vp_cell_i]
  unfold arrV
  congr 1
  apply congrArg
  funext j
  show Value.int (f j.val) = Value.int (f' j.val)
  rw [e j.val j.isLt]
theorem WD.cong {g : GE} {A : Nat → Prop} {s : State} {X pl : va_W} {H : Heap} {locs : List Loc} (h : WD g A s X pl H locs) (k : Nat) {a n : Nat} {cA : ClassId} {f f' : Nat → Int32} (hk : X[k]? = some (a, .inl (cA, n, .inl f))) (e : ∀ j, j < n → f j = f' j) : WD g A s (X.set k (a, .inl (cA, n, .inl f'))) pl H locs := by
  have h1 := h.at hk
  have h2 : va_at g.1 vwCl (a, .inl (cA, n, .inl f')) H := by
    have h3 : H[a]? = some (vp_cell cA (n, .inl f)) := h.1 k _ h1
    rw [vp_cell_cong e] at h3
    exact h3
  refine ⟨?_, ?_, h.2.2⟩
  · rw [← set_app hk]; exact h.1.set h.2.1 h1 h2 (fun _ _ => rfl)
  · rw [← set_app hk]; exact h.2.1.set h1
