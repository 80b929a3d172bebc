/-! calls of a method that has the slots too -/
theorem preS_ofP {g : GE} {A : Nat → Prop} {s : State} {X pl cx : va_W} {H : Heap} {locs : List Loc} (isC : List Nat) (av : List Value) (h0 : CT g A s) (h : WD g A s X pl H locs) (hC : isC.map (fun i => X[i]?) = cx.map some) (hn : va_nd isC = true) : PreS s H (va_Pc av (PRE g (cx ++ pl) H.size)) av := by
  refine ⟨PRE.blind, fun U hU hW => ⟨rfl, by rw [hU], ?_, va_K.moved hW.alike h0.1, (h.2.1.part isC hn hC).weaken (fun _ _ _ _ => trivial), ST.callee h0.2.1 h.2.2 (va_freeP h.2.1 h.2.2 h0.2.2 isC hC) hU hW.alike⟩⟩
  rw [hU]
  exact h.1.part isC hC
theorem preV_ofP {g : GE} {A : Nat → Prop} {s : State} {X pl cx : va_W} {H : Heap} {locs : List Loc} {b : Nat} {cq : vw_C} {fs : List Value} (isC : List Nat) (av : List Value) (h0 : CT g A s) (h : WD g A s X pl H locs) (hC : isC.map (fun i => X[i]?) = cx.map some) (hn : va_nd isC = true) (q0 ci : Nat) (hc : vwCl[ci]? = some cq) (he : X[q0]? = some (b, .inr (ci, fs))) : PreV s H cq.1 b (va_Pc (.ref b :: av) (PRE g (cx ++ pl) H.size)) av :=
  ⟨PRE.blind, va_recv h0.1 h.1 hc (h.at he), (preS_ofP isC (.ref b :: av) h0 h hC hn).2⟩
section RWE
variable {p : Program} {l : Launch} {e : Env} {R : Room} {s : State} {m : MethodId} {args : Array Value} {below : List Frame} {meth : Method} {c : Code} {H : Heap} {locs : List Loc} {cells slots : Nat} {Q : State → Prop}
variable {cc : ByteArray} {pc : Nat} {ls : Array Slot} {rest : List Value} {g : GE} {A : Nat → Prop} {a : Nat} {X pl : va_W}
theorem r_calliP {S : Type} {post : Int32 → S → Prop} {w1 pl1 : S → va_W} {wc wr : va_W} {mc ms : Nat} {st0 : List Value} {av : Array Value} (isC isR : List Nat) (h0 : CT g A s) (hw : WD g A s X pl H locs) (hC : isC.map (fun i => X[i]?) = wc.map some) (hR : isR.map (fun i => X[i]?) = wr.map some) (hn : va_nd isR = true) (hdis : ∀ i ∈ isR, i ∉ isC)
    (hr : va_Run p l e R s m args below meth c H locs cells slots mc ms (F0 m pc ls st0) rest (va_Qi post (fun u t => PST g (va_A (wc ++ pl) H.size) (w1 u ++ pl1 u) t) (va_A (wc ++ pl) H.size) av) (va_A (wc ++ pl) H.size))
    (kk : ∀ (r : Int32) (u : S) (H1 : Heap) (locs1 : List Loc), post r u → WD g A s (wr ++ w1 u) (pl1 u) H1 locs1 → W p l e R s m args below meth c H1 locs1 (cells + mc) (slots + ms) Q (F0 m (pc + 3) ls (.int r :: rest))) : W p l e R s m args below meth c H locs cells slots Q (F0 m pc ls st0) := by
  have hF := va_freeP hw.2.1 hw.2.2 h0.2.2 isC hC
  refine va_calli hr hw.2.2 (fun q _ h => hF q h) hF (fun r u t H1 locs1 ht hvm hp hB hz1 hk1 hS => kk r u H1 locs1 hp ?_)
  obtain ⟨b1, b2⟩ := hB
  rw [ht] at b1
  obtain ⟨x1, x2⟩ := va_joinP hw.1 hw.2.1 isC isR hC hR hn hdis hk1 hF b1 b2
  exact ⟨x1, x2, hS⟩
theorem r_callvP {S : Type} {post : S → Prop} {w1 pl1 : S → va_W} {wc wr : va_W} {mc ms : Nat} {st0 : List Value} {av : Array Value} (isC isR : List Nat) (h0 : CT g A s) (hw : WD g A s X pl H locs) (hC : isC.map (fun i => X[i]?) = wc.map some) (hR : isR.map (fun i => X[i]?) = wr.map some) (hn : va_nd isR = true) (hdis : ∀ i ∈ isR, i ∉ isC)
    (hr : va_Run p l e R s m args below meth c H locs cells slots mc ms (F0 m pc ls st0) rest (va_Qv post (fun u t => PST g (va_A (wc ++ pl) H.size) (w1 u ++ pl1 u) t) (va_A (wc ++ pl) H.size) av) (va_A (wc ++ pl) H.size))
    (kk : ∀ (u : S) (H1 : Heap) (locs1 : List Loc), post u → WD g A s (wr ++ w1 u) (pl1 u) H1 locs1 → W p l e R s m args below meth c H1 locs1 (cells + mc) (slots + ms) Q (F0 m (pc + 3) ls rest)) : W p l e R s m args below meth c H locs cells slots Q (F0 m pc ls st0) := by
  have hF := va_freeP hw.2.1 hw.2.2 h0.2.2 isC hC
  refine va_callv hr hw.2.2 (fun q _ h => hF q h) hF (fun u t H1 locs1 ht hvm hp hB hz1 hk1 hS => kk u H1 locs1 hp ?_)
  obtain ⟨b1, b2⟩ := hB
  rw [ht] at b1
  obtain ⟨x1, x2⟩ := va_joinP hw.1 hw.2.1 isC isR hC hR hn hdis hk1 hF b1 b2
  exact ⟨x1, x2, hS⟩
end RWE
