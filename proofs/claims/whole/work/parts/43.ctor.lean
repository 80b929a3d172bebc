/-! making objects and rows; private constructors of nest mates -/
def NL (U : State) : Prop := (va_Nw (.methodLinkNest RX1 11 yX2_init RX6) U ∧ va_Nw (.methodLinkNest RX1 20 yX3_init RX6) U ∧ va_Nw (.methodLinkNest RX1 39 yX5_init RX6) U ∧ va_Nw (.methodLinkNest RX2 9 yX4_init RX6) U ∧ va_Nw (.methodLinkNest RX6 21 yX2_init RX6) U ∧ va_Nw (.methodLinkNest RX6 38 yX0_init RX6) U) ∧ va_AO RX1 U ∧ va_AO RX0 U
theorem NL.warm {s U : State} (hW : s.WarmedH U.vm) (h : NL s) : NL U := ⟨⟨h.1.1.warmM hW, h.1.2.1.warmM hW, h.1.2.2.1.warmM hW, h.1.2.2.2.1.warmM hW, h.1.2.2.2.2.1.warmM hW, h.1.2.2.2.2.2.warmM hW⟩, h.2.1.moved hW.alike, h.2.2.moved hW.alike⟩
theorem NL.same {s U : State} (h9 : s.vm = U.vm) (h : NL s) : NL U := ⟨⟨h.1.1.same rfl h9, h.1.2.1.same rfl h9, h.1.2.2.1.same rfl h9, h.1.2.2.2.1.same rfl h9, h.1.2.2.2.2.1.same rfl h9, h.1.2.2.2.2.2.same rfl h9⟩, h.2.1.moved (by rw [← h9]; exact Vm.Alike.refl _), h.2.2.moved (by rw [← h9]; exact Vm.Alike.refl _)⟩
def PREn (g : GE) (ws : va_W) (sz : Nat) (U : State) : Prop := PRE g ws sz U ∧ NL U
abbrev MVn (l : Launch) (y : MethodName) (wd : List Cond) (rm : Room) (g : GE) (av : List Value) (ws : va_W) (sz : Nat) {S : Type} (post : S → Prop) (w1 : S → va_W) (mc ms : Nat) : Prop := Met l y wd rm (va_Pc av (PREn g ws sz)) (va_Qv post (fun u t => PST g (va_A ws sz) (w1 u) t) (va_A ws sz)) mc ms (va_A ws sz)
theorem preS_ofn {g : GE} {A : Nat → Prop} {s : State} {X pl wc : va_W} {H : Heap} {locs : List Loc} (isC : List Nat) (av : List Value) (hN : NL s) (h0 : CT g A s) (h : WD g A s X pl H locs) (hC : isC.map (fun i => X[i]?) = wc.map some) (hn : va_nd isC = true) : PreS s H (va_Pc av (PREn g wc H.size)) av := by
  obtain ⟨_, h2⟩ := preS_of isC av h0 h hC hn
  refine ⟨fun a U gg mk q => ?_, fun U hU hW => ⟨(h2 U hU hW).1, (h2 U hU hW).2, hN.warm hW⟩⟩
  obtain ⟨q0, q1, q2⟩ := q
  have := PRE.blind (av := av) a U gg mk ⟨q0, q1⟩
  exact ⟨this.1, this.2, q2.same rfl⟩
theorem enterVn {l : Launch} {y : MethodName} {wd wd' : List Cond} {rm : Room} {g : GE} {av : List Value} {ws : va_W} {sz : Nat} {S : Type} {post : S → Prop} {w1 : S → va_W} {mc ms : Nat} {cc : ByteArray} {maxL : Nat}
    (hy : plainName y.cls = true) (hw : wd = Cond.code y cc maxL none :: wd') (hlen : (lg_sl av).length ≤ maxL)
    (body : ∀ p e s m below meth c (A : Nat → Prop) (ls : Array Slot) (ar : Array Value) (Q : State → Prop), EN p s m meth c ar y wd cc maxL none → CT g A s →
      (∀ {H : Heap} {locs : List Loc} {X pl : va_W} {pc cells slots : Nat} {ls : Array Slot}, WD g A s X pl H locs → ∀ u : S, post u → X ++ pl = w1 u → cells ≤ mc → slots ≤ ms → decode cc pc = .ok (.return_, 1) → W p l e rm s m ar below meth c H locs cells slots Q (F0 m pc ls [])) →
      WD g A s ws [] s.heap [] → lv_has ls maxL (lv_args 0 av) → NL s → W p l e rm s m ar below meth c s.heap [] 0 0 Q (F0 m 0 ls [])) : MVn l y wd rm g av ws sz post w1 mc ms := by
  refine Met.ofW (cc := cc) (maxL := maxL) (ret := none) hy hw ?_
  intro p e s m args below meth c s₁ B hml hv
  obtain ⟨rfl, ⟨hsz, hP, hK, hD0, hST⟩, hNL⟩ := hv
  subst hsz
  rw [lg_entry_eq]
  have hE : EN p s m meth c av.toArray y wd cc maxL none := ⟨B.exec, B.bytes, B.returns, hml, findClass_of_methodNamed B.named, atoms_spec (ws := wd) B.pre, B.notSynchronized, (name_of_methodNamed B.named B.method).1⟩
  refine body p e s m below meth c (va_A ws s.heap.size) _ av.toArray _ hE ⟨hK, hST, fun q h => Or.inr h⟩ ?_ ⟨?_, ?_, va_S.rf⟩ (lv_entry av hlen) hNL
  · intro H locs X pl pc cells slots ls hW u hp hX h1 h2 hd
    exact W.widen h1 h2 (r_vret hE.1 hE.2.1 hE.2.2.1 hE.2.2.2.2.2.2.1 hW u hp hX hd)
  · rw [List.append_nil]; exact hP
  · rw [List.append_nil]; exact hD0.self
section RWF
variable {p : Program} {l : Launch} {e : Env} {R : Room} {s : State} {m : MethodId} {args : Array Value} {below : List Frame} {meth : Method} {c : Code} {H : Heap} {locs : List Loc} {cells slots : Nat} {Q : State → Prop}
variable {cc : ByteArray} {pc : Nat} {ls : Array Slot} {rest : List Value} {g : GE} {A : Nat → Prop} {a : Nat} {X : va_W}
theorem r_newI (hexec : p.tables.exec = Jvm.exec) (hb : c.code = cc) (harr : (Cond.arrayClass .int).before args s = true) (h0 : CT g A s) (hw : WD g A s X [] H locs) {N : Nat} (hN : N < 100000) (hcells : cells + 1 ≤ R.cells) (hslots : slots + N ≤ R.slots) (hdg : decode cc pc = .ok (.newarray .int, 2))
    (kk : ∀ (q : Nat) (H1 : Heap), WD g A s (X ++ [(q, .inl (g.2.1 0, N, .inl (fun _ => 0)))]) [] H1 locs → W p l e R s m args below meth c H1 locs (cells + 1) (slots + N) Q (F0 m (pc + 2) ls (.ref q :: rest))) : W p l e R s m args below meth c H locs cells slots Q (F0 m pc ls (.int (nI N) :: rest)) := by
  refine va_newa (atype := .int) (ty := .int) (D := g.1) (cl := vwCl) (a0 := (N, .inl (fun _ => 0))) hexec hb harr rfl h0.1 hw.1 hw.2.1 hw.2.2 h0.2.2 (fun cA => rfl) (nI_pos (by omega)) (nI_clamp (by omega)) (by show N * 4 ≤ _; omega) hcells hslots hdg (fun q cA H1 hK hP hD hS => kk q H1 ?_)
  have e1 : s.vm.findClass ("[" ++ FieldType.int.toString) = some cA := (hK.2 5 (cA, .int) rfl).2
  have e2 : s.vm.findClass ("[" ++ FieldType.int.toString) = some (g.2.1 0) := (h0.1.2 0 (g.2.1 0, .int) rfl).2
  have e3 : cA = g.2.1 0 := Option.some.inj (e1.symm.trans e2)
  subst e3
  refine ⟨?_, ?_, hS⟩
  · rw [List.append_nil] at hP ⊢; exact hP
  · rw [List.append_nil] at hD ⊢; exact hD
theorem r_newJ (hexec : p.tables.exec = Jvm.exec) (hb : c.code = cc) (harr : (Cond.arrayClass .long).before args s = true) (h0 : CT g A s) (hw : WD g A s X [] H locs) {N : Nat} (hN : N < 100000) (hcells : cells + 1 ≤ R.cells) (hslots : slots + N ≤ R.slots) (hdg : decode cc pc = .ok (.newarray .long, 2))
    (kk : ∀ (q : Nat) (H1 : Heap), WD g A s (X ++ [(q, .inl (g.2.1 1, N, .inr (.inl (fun _ => 0))))]) [] H1 locs → W p l e R s m args below meth c H1 locs (cells + 1) (slots + N) Q (F0 m (pc + 2) ls (.ref q :: rest))) : W p l e R s m args below meth c H locs cells slots Q (F0 m pc ls (.int (nI N) :: rest)) := by
  refine va_newa (atype := .long) (ty := .long) (D := g.1) (cl := vwCl) (a0 := (N, .inr (.inl (fun _ => 0)))) hexec hb harr rfl h0.1 hw.1 hw.2.1 hw.2.2 h0.2.2 (fun cA => rfl) (nI_pos (by omega)) (nI_clamp (by omega)) (by show N * 8 ≤ _; omega) hcells hslots hdg (fun q cA H1 hK hP hD hS => kk q H1 ?_)
  have e1 : s.vm.findClass ("[" ++ FieldType.long.toString) = some cA := (hK.2 5 (cA, .long) rfl).2
  have e2 : s.vm.findClass ("[" ++ FieldType.long.toString) = some (g.2.1 1) := (h0.1.2 1 (g.2.1 1, .long) rfl).2
  have e3 : cA = g.2.1 1 := Option.some.inj (e1.symm.trans e2)
  subst e3
  refine ⟨?_, ?_, hS⟩
  · rw [List.append_nil] at hP ⊢; exact hP
  · rw [List.append_nil] at hD ⊢; exact hD
theorem r_newZ (hexec : p.tables.exec = Jvm.exec) (hb : c.code = cc) (harr : (Cond.arrayClass .boolean).before args s = true) (h0 : CT g A s) (hw : WD g A s X [] H locs) {N : Nat} (hN : N < 100000) (hcells : cells + 1 ≤ R.cells) (hslots : slots + N ≤ R.slots) (hdg : decode cc pc = .ok (.newarray .boolean, 2))
    (kk : ∀ (q : Nat) (H1 : Heap), WD g A s (X ++ [(q, .inl (g.2.1 2, N, .inl (fun _ => 0)))]) [] H1 locs → W p l e R s m args below meth c H1 locs (cells + 1) (slots + N) Q (F0 m (pc + 2) ls (.ref q :: rest))) : W p l e R s m args below meth c H locs cells slots Q (F0 m pc ls (.int (nI N) :: rest)) := by
  refine va_newa (atype := .boolean) (ty := .boolean) (D := g.1) (cl := vwCl) (a0 := (N, .inl (fun _ => 0))) hexec hb harr rfl h0.1 hw.1 hw.2.1 hw.2.2 h0.2.2 (fun cA => rfl) (nI_pos (by omega)) (nI_clamp (by omega)) (by show N * 1 ≤ _; omega) hcells hslots hdg (fun q cA H1 hK hP hD hS => kk q H1 ?_)
  have e1 : s.vm.findClass ("[" ++ FieldType.boolean.toString) = some cA := (hK.2 5 (cA, .boolean) rfl).2
  have e2 : s.vm.findClass ("[" ++ FieldType.boolean.toString) = some (g.2.1 2) := (h0.1.2 2 (g.2.1 2, .boolean) rfl).2
  have e3 : cA = g.2.1 2 := Option.some.inj (e1.symm.trans e2)
  subst e3
  refine ⟨?_, ?_, hS⟩
  · rw [List.append_nil] at hP ⊢; exact hP
  · rw [List.append_nil] at hD ⊢; exact hD
theorem r_newQ (hexec : p.tables.exec = Jvm.exec) (hb : c.code = cc) {own C : String} {index t : Nat} (ht : (tyG g)[t]? = some (g.2.1 t, .object C)) (hown : s.vm.findClass own = some m.cls) (hclink : (Cond.classLink own index C).before args s = true) (hover : va_AO C s) (h0 : CT g A s) (hw : WD g A s X [] H locs) {N : Nat} (hN : N < 100000) (hcells : cells + 1 ≤ R.cells) (hslots : slots + N ≤ R.slots) (hdg : decode cc pc = .ok (.anewarray index, 3))
    (kk : ∀ (q : Nat) (H1 : Heap), WD g A s (X ++ [(q, .inl (g.2.1 t, N, .inr (.inr (.inr (.inr (fun _ => none))))))]) [] H1 locs → W p l e R s m args below meth c H1 locs (cells + 1) (slots + N) Q (F0 m (pc + 3) ls (.ref q :: rest))) : W p l e R s m args below meth c H locs cells slots Q (F0 m pc ls (.int (nI N) :: rest)) := by
  refine va_newq (D := g.1) (cl := vwCl) hexec hb hown hclink hover h0.1 hw.1 hw.2.1 hw.2.2 h0.2.2 (nI_pos (by omega)) (nI_clamp (by omega)) (by omega) hcells hslots hdg (fun q cA H1 hK hP hD hS => kk q H1 ?_)
  obtain ⟨_, _, _, _, _, e1⟩ := (hK.2 5 (cA, .object C) rfl).2
  obtain ⟨_, _, _, _, _, e2⟩ := (h0.1.2 t (g.2.1 t, .object C) ht).2
  have e3 : cA = g.2.1 t := Option.some.inj (e1.symm.trans e2)
  subst e3
  refine ⟨?_, ?_, hS⟩
  · rw [List.append_nil] at hP ⊢; exact hP
  · rw [List.append_nil] at hD ⊢; exact hD
theorem r_new (hexec : p.tables.exec = Jvm.exec) (hb : c.code = cc) {own C : String} {T : u_T} {N ci index : Nat} {Ts : List Cond} (hts : ∀ w ∈ Ts, w.before args s = true) (hin : ∀ w ∈ u_ws C T N, w ∈ Ts) (ty : Nat → FieldType) (hty : ∀ k, k < N → parseFieldDescriptor (T k).2.2.1 = some (ty k)) (hown : s.vm.findClass own = some m.cls) (hcl : (Cond.classLink own index C).before args s = true) (hinst : (Cond.instantiable C N).before args s = true) (hini : (Cond.initialized C).before args s = true) (h0 : CT g A s) (hw : WD g A s X [] H locs) (hc : vwCl[ci]? = some (C, T, N)) {fs : List Value} (hfs : ∀ j, j < N → defaultValue (ty j) = vp_V fs j) (hcells : cells + 1 ≤ R.cells) (hslots : slots + N ≤ R.slots) (hdg : decode cc pc = .ok (.new index, 3))
    (kk : ∀ (q : Nat) (H1 : Heap), WD g A s (X ++ [(q, .inr (ci, fs))]) [] H1 locs → W p l e R s m args below meth c H1 locs (cells + 1) (slots + N) Q (F0 m (pc + 3) ls (.ref q :: rest))) : W p l e R s m args below meth c H locs cells slots Q (F0 m pc ls rest) := by
  refine va_new (D := g.1) (cl := vwCl) hexec hb hts hin ty hty hown hcl hinst hini h0.1 hw.1 hw.2.1 hw.2.2 h0.2.2 hc hfs hcells hslots hdg (fun q H1 hP hD hS => kk q H1 ⟨?_, ?_, hS⟩)
  · rw [List.append_nil] at hP ⊢; exact hP
  · rw [List.append_nil] at hD ⊢; exact hD
theorem r_aast (hexec : p.tables.exec = Jvm.exec) (hb : c.code = cc) (h0 : CT g A s) (hw : WD g A s X [] H locs) (q0 t qk ci : Nat) {r : vw_C} {n v : Nat} {vs : List Value} {f : Nat → Option Nat} (he : X[q0]? = some (a, .inl (g.2.1 t, n, .inr (.inr (.inr (.inr f)))))) (ht : (tyG g)[t]? = some (g.2.1 t, .object r.1)) (hv : X[qk]? = some (v, .inr (ci, vs))) (hc : vwCl[ci]? = some r) {i : Nat} (hi : i < n) (hn : n < 2147483648) (hdg : decode cc pc = .ok (.aastore, 1))
    (kk : ∀ (H1 : Heap) (locs1 : List Loc), WD g A s (X.set q0 (a, .inl (g.2.1 t, n, .inr (.inr (.inr (.inr (va_up f i (some v)))))))) [] H1 locs1 → W p l e R s m args below meth c H1 locs1 cells slots Q (F0 m (pc + 1) ls rest)) : W p l e R s m args below meth c H locs cells slots Q (F0 m pc ls (.ref v :: .int (nI i) :: .ref a :: rest)) := by
  refine va_astq (D := g.1) (cl := vwCl) hexec hb h0.1 hw.1 hw.2.1 hw.2.2 q0 t qk ci (hw.at he) ht (hw.at hv) hc (vp_in_nI hi hn) hdg (fun H1 locs1 h1 h2 h3 => kk H1 locs1 ?_)
  rw [set_app he, nI_clamp (by omega)] at h1 h2
  exact ⟨h1, h2, h3⟩
end RWF
theorem vp_cell_congQ {cA : ClassId} {n : Nat} {f f' : Nat → Option Nat} (e : ∀ j, j < n → f j = f' j) : vp_cell cA (n, .inr (.inr (.inr (.inr f)))) = vp_cell cA (n, .inr (.inr (.inr (.inr f')))) := by
  rw [vp_cell_q, vp_cell_q]
  unfold arrV
  congr 1
  apply congrArg
  funext j
  show va_rf (f j.val) = va_rf (f' j.val)
  rw [e j.val j.isLt]
theorem WD.congQ {g : GE} {A : Nat → Prop} {s : State} {X pl : va_W} {H : Heap} {locs : List Loc} (h : WD g A s X pl H locs) (k : Nat) {a n : Nat} {cA : ClassId} {f f' : Nat → Option Nat} (hk : X[k]? = some (a, .inl (cA, n, .inr (.inr (.inr (.inr f)))))) (e : ∀ j, j < n → f j = f' j) : WD g A s (X.set k (a, .inl (cA, n, .inr (.inr (.inr (.inr f')))))) pl H locs := by
  have h1 := h.at hk
  have h2 : va_at g.1 vwCl (a, .inl (cA, n, .inr (.inr (.inr (.inr f'))))) H := by
    have h3 : H[a]? = some (vp_cell cA (n, .inr (.inr (.inr (.inr f))))) := h.1 k _ h1
    rw [vp_cell_congQ e] at h3
    exact h3
  refine ⟨?_, ?_, h.2.2⟩
  · rw [← set_app hk]; exact h.1.set h.2.1 h1 h2 (fun _ _ => rfl)
  · rw [← set_app hk]; exact h.2.1.set h1
