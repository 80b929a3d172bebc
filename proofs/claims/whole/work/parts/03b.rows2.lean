section RWC
variable {p : Program} {l : Launch} {e : Env} {R : Room} {s : State} {m : MethodId} {args : Array Value} {below : List Frame} {meth : Method} {c : Code} {H : Heap} {locs : List Loc} {cells slots : Nat} {Q : State → Prop}
variable {cc : ByteArray} {pc : Nat} {ls : Array Slot} {rest : List Value} {g : GE} {A : Nat → Prop} {a : Nat} {X pl : va_W}
theorem r_last (hexec : p.tables.exec = Jvm.exec) (hb : c.code = cc) (h0 : CT g A s) (hw : WD g A s X pl H locs) (q0 : Nat) {n : Nat} {f : Nat → Int64} (he : X[q0]? = some (a, .inl (g.2.1 1, n, .inr (.inl f)))) {i : Nat} {x : Int64} (hi : i < n) (hn : n < 2147483648) (hdg : decode cc pc = .ok (.lastore, 1))
    (kk : ∀ (H1 : Heap) (locs1 : List Loc), WD g A s (X.set q0 (a, .inl (g.2.1 1, n, .inr (.inl (vp_updL f i x))))) pl H1 locs1 → W p l e R s m args below meth c H1 locs1 cells slots Q (F0 m (pc + 1) ls rest)) : W p l e R s m args below meth c H locs cells slots Q (F0 m pc ls (.long x :: .int (nI i) :: .ref a :: rest)) := by
  refine va_last (D := g.1) (cl := vwCl) hexec hb h0.1 hw.1 hw.2.1 hw.2.2 q0 1 (hw.at he) rfl (vp_in_nI hi hn) hdg (fun H1 locs1 h1 h2 h3 => kk H1 locs1 ?_)
  rw [set_app he, nI_clamp (by omega)] at h1 h2
  exact ⟨h1, h2, h3⟩
theorem r_zast (hexec : p.tables.exec = Jvm.exec) (hb : c.code = cc) (h0 : CT g A s) (hw : WD g A s X pl H locs) (q0 : Nat) {n : Nat} {f : Nat → Int32} (he : X[q0]? = some (a, .inl (g.2.1 2, n, .inl f))) {i : Nat} {x : Int32} (hz : vp_nar .boolean x = x) (hi : i < n) (hn : n < 2147483648) (hdg : decode cc pc = .ok (.bastore, 1))
    (kk : ∀ (H1 : Heap) (locs1 : List Loc), WD g A s (X.set q0 (a, .inl (g.2.1 2, n, .inl (upd f i x)))) pl H1 locs1 → W p l e R s m args below meth c H1 locs1 cells slots Q (F0 m (pc + 1) ls rest)) : W p l e R s m args below meth c H locs cells slots Q (F0 m pc ls (.int x :: .int (nI i) :: .ref a :: rest)) := by
  refine va_zast (D := g.1) (cl := vwCl) hexec hb h0.1 hw.1 hw.2.1 hw.2.2 q0 2 (hw.at he) rfl (vp_in_nI hi hn) hdg (fun H1 locs1 h1 h2 h3 => kk H1 locs1 ?_)
  rw [set_app he, nI_clamp (by omega), hz] at h1 h2
  exact ⟨h1, h2, h3⟩
end RWC
