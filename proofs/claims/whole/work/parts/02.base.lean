/-! ===== my own base: constants, the standing facts of a walk, rows with the frame in one ===== -/
def kIVl : List Int32 := [1779033703, -1150833019, 1013904242, -1521486534, 1359893119, -1694144372, 528734635, 1541459225]
def kRWl : List Int32 := [1116352408, 1899447441, -1245643825, -373957723, 961987163, 1508970993, -1841331548, -1424204075, -670586216, 310598401, 607225278, 1426881987, 1925078388, -2132889090, -1680079193, -1046744716, -459576895, -272742522, 264347078, 604807628, 770255983, 1249150122, 1555081692, 1996064986, -1740746414, -1473132947, -1341970488, -1084653625, -958395405, -710438585, 113926993, 338241895, 666307205, 773529912, 1294757372, 1396182291, 1695183700, 1986661051, -2117940946, -1838011259, -1564481375, -1474664885, -1035236496, -949202525, -778901479, -694614492, -200395387, 275423344, 430227734, 506948616, 659060556, 883997877, 958139571, 1322822218, 1537002063, 1747873779, 1955562222, 2024104815, -2067236844, -1933114872, -1866530822, -1538233109, -1090935817, -965641998]
def kEXl : List Int32 := [1634760805, 857760878, 2036477234, 1797285236]
def kIV (j : Nat) : Int32 := kIVl.getD j 0
def kRW (j : Nat) : Int32 := kRWl.getD j 0
def kEX (j : Nat) : Int32 := kEXl.getD j 0

/-- Java's shifts -/
def jushr (x y : Int32) : Int32 := (x.toUInt32 >>> (y.toUInt32 &&& Int32.toUInt32 31)).toInt32
def jshl (x y : Int32) : Int32 := x <<< (y &&& 31)
def jshr (x y : Int32) : Int32 := x >>> (y &&& 31)
def jlushr (x : Int64) (y : Int32) : Int64 := (x.toUInt64 >>> (y.toInt64.toUInt64 &&& Int64.toUInt64 63)).toInt64
def jlshl (x : Int64) (y : Int32) : Int64 := x <<< (y.toInt64 &&& 63)
/-- the classes' numbers and slots; the array classes (int, long, boolean, Direction, ByteRow); the static arrays -/
abbrev GE : Type := va_G × (Nat → ClassId) × (Nat → Nat)
def tyG (g : GE) : List (ClassId × FieldType) := [(g.2.1 0, .int), (g.2.1 1, .long), (g.2.1 2, .boolean), (g.2.1 3, .object RX1), (g.2.1 4, .object RX0)]
def ST1 (C n : String) (t N : Nat) (f : Nat → Int32) (A : Nat → Prop) (U : State) (H : Heap) : Prop := va_Z C n "[I" (.ref t) A U H ∧ va_T .int t N (fun j => .int (f j)) A U H
def ST (g : GE) (A : Nat → Prop) (U : State) (H : Heap) : Prop := ST1 RX4 "FIRST_STATE" (g.2.2 0) 8 kIV A U H ∧ ST1 RX4 "ROUND_WORDS" (g.2.2 1) 64 kRW A U H ∧ ST1 RX3 "EXPAND" (g.2.2 2) 4 kEX A U H
theorem ST1.moved {C n : String} {t N : Nat} {f : Nat → Int32} {A : Nat → Prop} {u U : State} {H : Heap} (hvm : u.vm.Alike U.vm) (h : ST1 C n t N f A u H) : ST1 C n t N f A U H := ⟨h.1.moved hvm, h.2.moved hvm⟩
theorem ST1.kept {C n : String} {t N : Nat} {f : Nat → Int32} {A : Nat → Prop} {U : State} {H H1 : Heap} (h : ST1 C n t N f A U H) (hq : ∀ a : Nat, a < H.size → ¬ A a → H1[a]? = H[a]?) : ST1 C n t N f A U H1 := ⟨h.1.kept hq, h.2.kept hq⟩
theorem ST1.narrow {C n : String} {t N : Nat} {f : Nat → Int32} {A B : Nat → Prop} {U : State} {H : Heap} (h : ST1 C n t N f A U H) (hAB : ∀ q, B q → A q) : ST1 C n t N f B U H := ⟨h.1.narrow hAB, h.2.narrow hAB⟩
theorem ST.moved {g : GE} {A : Nat → Prop} {u U : State} {H : Heap} (hvm : u.vm.Alike U.vm) (h : ST g A u H) : ST g A U H := ⟨h.1.moved hvm, h.2.1.moved hvm, h.2.2.moved hvm⟩
theorem ST.kept {g : GE} {A : Nat → Prop} {U : State} {H H1 : Heap} (h : ST g A U H) (hq : ∀ a : Nat, a < H.size → ¬ A a → H1[a]? = H[a]?) : ST g A U H1 := ⟨h.1.kept hq, h.2.1.kept hq, h.2.2.kept hq⟩
theorem ST.narrow {g : GE} {A B : Nat → Prop} {U : State} {H : Heap} (h : ST g A U H) (hAB : ∀ q, B q → A q) : ST g B U H := ⟨h.1.narrow hAB, h.2.1.narrow hAB, h.2.2.narrow hAB⟩
/-- what stands through a method: the classes, the statics, and that new cells are free -/
def CT (g : GE) (A : Nat → Prop) (s : State) : Prop := va_K g.1 vwCl (tyG g) s ∧ ST g A s s.heap ∧ ∀ q, s.heap.size ≤ q → A q
/-- the world now: the cells X (by place) and the cells pl (any) -/
def WD (g : GE) (A : Nat → Prop) (s : State) (X pl : va_W) (H : Heap) (locs : List Loc) : Prop := va_P g.1 vwCl (X ++ pl) H ∧ va_D A (X ++ pl) ∧ va_S A s.heap H locs
def PRE (g : GE) (ws : va_W) (sz : Nat) (U : State) : Prop := U.heap.size = sz ∧ va_P g.1 vwCl ws U.heap ∧ va_K g.1 vwCl (tyG g) U ∧ va_D (fun _ => True) ws ∧ ST g (va_A ws sz) U U.heap
def PST (g : GE) (A : Nat → Prop) (ws : va_W) (t : State) : Prop := va_P g.1 vwCl ws t.heap ∧ va_D A ws
theorem WD.perm {g : GE} {A : Nat → Prop} {s : State} {X X' pl : va_W} {H : Heap} {locs : List Loc} (h : WD g A s X pl H locs) (is : List Nat) (hn : va_nd is = true) (hs : is.map (fun i => X[i]?) = X'.map some) : WD g A s X' pl H locs :=
  ⟨h.1.part is hs, h.2.1.part is hn hs, h.2.2⟩
theorem WD.to {g : GE} {A : Nat → Prop} {s : State} {X X' pl pl' : va_W} {H : Heap} {locs : List Loc} (h : WD g A s X pl H locs) (e : X ++ pl = X' ++ pl') : WD g A s X' pl' H locs := by
  unfold WD at h ⊢; rw [← e]; exact h
theorem WD.at {g : GE} {A : Nat → Prop} {s : State} {X pl : va_W} {H : Heap} {locs : List Loc} (_ : WD g A s X pl H locs) {k : Nat} {q : Nat × va_E} (hk : X[k]? = some q) : (X ++ pl)[k]? = some q := by
  rw [List.getElem?_append_left (List.getElem?_eq_some_iff.mp hk).1]; exact hk
theorem set_app {X pl : va_W} {k : Nat} {q q' : Nat × va_E} (hk : X[k]? = some q) : (X ++ pl).set k q' = X.set k q' ++ pl := by
  rw [List.set_append_left _ _ (List.getElem?_eq_some_iff.mp hk).1]
/-- the part that a callee gets is free to it -/
theorem WD.free {g : GE} {A : Nat → Prop} {s : State} {X pl wc : va_W} {H : Heap} {locs : List Loc} (h0 : CT g A s) (h : WD g A s X pl H locs) (isC : List Nat) (hC : isC.map (fun i => X[i]?) = wc.map some) : ∀ q, va_A wc H.size q → A q := by
  intro q hq
  rcases hq with ⟨k, e, hq⟩ | hq
  · obtain ⟨i, -, hi⟩ := va_in_of isC hC hq
    exact h.2.1.2 i (q, e) (h.at hi)
  · exact h0.2.2 q (Nat.le_trans h.2.2.1 hq)
theorem ST.callee {g : GE} {A B : Nat → Prop} {s U : State} {H : Heap} {locs : List Loc} (h0 : ST g A s s.heap) (hS : va_S A s.heap H locs) (hF : ∀ q, B q → A q) (hU : U.heap = H) (hvm : s.vm.Alike U.vm) : ST g B U U.heap := by
  rw [hU]
  exact ((h0.kept (H1 := H) (fun a h1 h2 => hS.2.1 a h1 h2)).narrow hF).moved hvm
theorem PRE.blind {g : GE} {ws : va_W} {sz : Nat} {av : List Value} : FrameBlind (va_Pc av (PRE g ws sz)) := by
  intro a U gg mk q
  obtain ⟨q0, q1, qP, qK, qD, qS⟩ := q
  exact ⟨q0, q1, qP, va_K.moved (u := U) (U := U.calling gg mk a) (Vm.Alike.refl U.vm) qK, qD, ST.moved (u := U) (U := U.calling gg mk a) (Vm.Alike.refl U.vm) qS⟩
theorem preS_of {g : GE} {A : Nat → Prop} {s : State} {X pl wc : va_W} {H : Heap} {locs : List Loc} (isC : List Nat) (av : List Value) (h0 : CT g A s) (h : WD g A s X pl H locs) (hC : isC.map (fun i => X[i]?) = wc.map some) (hn : va_nd isC = true) : PreS s H (va_Pc av (PRE g wc H.size)) av := by
  refine ⟨PRE.blind, fun U hU hW => ⟨rfl, by rw [hU], ?_, va_K.moved hW.alike h0.1, ?_, ?_⟩⟩
  · rw [hU]
    intro k q hk
    obtain ⟨i, -, hi⟩ := va_in_of isC hC hk
    exact h.1 i q (h.at hi)
  · have h1 : va_D A (wc ++ pl) := h.2.1.part isC hn hC
    refine ⟨fun i j p q hi hj e => h1.1 i j p q ?_ ?_ e, fun _ _ _ => trivial⟩
    · rw [List.getElem?_append_left (List.getElem?_eq_some_iff.mp hi).1]; exact hi
    · rw [List.getElem?_append_left (List.getElem?_eq_some_iff.mp hj).1]; exact hj
  · exact ST.callee h0.2.1 h.2.2 (WD.free h0 h isC hC) hU hW.alike
theorem preV_of {g : GE} {A : Nat → Prop} {s : State} {X pl wc : va_W} {H : Heap} {locs : List Loc} {b : Nat} {cq : vw_C} {fs : List Value} (isC : List Nat) (av : List Value) (h0 : CT g A s) (h : WD g A s X pl H locs) (hC : isC.map (fun i => X[i]?) = wc.map some) (hn : va_nd isC = true) (q0 ci : Nat) (hc : vwCl[ci]? = some cq) (he : X[q0]? = some (b, .inr (ci, fs))) : PreV s H cq.1 b (va_Pc (.ref b :: av) (PRE g wc H.size)) av :=
  ⟨PRE.blind, va_recv h0.1 h.1 hc (h.at he), (preS_of isC (.ref b :: av) h0 h hC hn).2⟩
/-- behind a call: the rest beside what came back -/
theorem WD.join {g : GE} {A : Nat → Prop} {s : State} {X pl wc wr w1 : va_W} {H H1 : Heap} {locs locs1 : List Loc} (h : WD g A s X pl H locs) (isC isR : List Nat) (hC : isC.map (fun i => X[i]?) = wc.map some) (hR : isR.map (fun i => X[i]?) = wr.map some) (hn : va_nd isR = true) (hdis : ∀ i ∈ isR, i ∉ isC)
    (hk : ∀ q : Nat, q < H.size → ¬ va_A wc H.size q → H1[q]? = H[q]?) (hF : ∀ q, va_A wc H.size q → A q) (hP1 : va_P g.1 vwCl w1 H1) (hD1 : va_D (va_A wc H.size) w1) (hS : va_S A s.heap H1 locs1) : WD g A s (wr ++ w1) pl H1 locs1 := by
  obtain ⟨a, b⟩ := va_joinQ h.1 h.2.1 isC isR hC hR hn hdis hk hF hP1 hD1
  exact ⟨a, b, hS⟩
/-- contracts: void, int, long -/
abbrev MV (l : Launch) (y : MethodName) (wd : List Cond) (rm : Room) (g : GE) (av : List Value) (ws : va_W) (sz : Nat) {S : Type} (post : S → Prop) (w1 : S → va_W) (mc ms : Nat) : Prop := Met l y wd rm (va_Pc av (PRE g ws sz)) (va_Qv post (fun u t => PST g (va_A ws sz) (w1 u) t) (va_A ws sz)) mc ms (va_A ws sz)
abbrev MI (l : Launch) (y : MethodName) (wd : List Cond) (rm : Room) (g : GE) (av : List Value) (ws : va_W) (sz : Nat) {S : Type} (post : Int32 → S → Prop) (w1 : S → va_W) (mc ms : Nat) : Prop := Met l y wd rm (va_Pc av (PRE g ws sz)) (va_Qi post (fun u t => PST g (va_A ws sz) (w1 u) t) (va_A ws sz)) mc ms (va_A ws sz)
abbrev ML (l : Launch) (y : MethodName) (wd : List Cond) (rm : Room) (g : GE) (av : List Value) (ws : va_W) (sz : Nat) {S : Type} (post : Int64 → S → Prop) (w1 : S → va_W) (mc ms : Nat) : Prop := Met l y wd rm (va_Pc av (PRE g ws sz)) (va_Ql post (fun u t => PST g (va_A ws sz) (w1 u) t) (va_A ws sz)) mc ms (va_A ws sz)
/-- what a walk has at hand: the machine, the code, the words, the end's type -/
def EN (p : Program) (s : State) (m : MethodId) (meth : Method) (c : Code) (args : Array Value) (y : MethodName) (wd : List Cond) (cc : ByteArray) (maxL : Nat) (ret : Option FieldType) : Prop :=
  p.tables.exec = Jvm.exec ∧ c.code = cc ∧ meth.sig.returnType = ret ∧ c.maxLocals = maxL ∧ s.vm.findClass y.cls = some m.cls ∧ (∀ w ∈ wd, w.before args s = true) ∧ meth.locks = false ∧ meth.name = y.name
theorem enterQ {l : Launch} {y : MethodName} {wd wd' : List Cond} {rm : Room} {g : GE} {av : List Value} {ws : va_W} {sz : Nat} {mc ms : Nat} {cc : ByteArray} {maxL : Nat} {ret : Option FieldType} (Qf : (Nat → Prop) → Array Value → State → Outcome → State → Prop)
    (hy : plainName y.cls = true) (hw : wd = Cond.code y cc maxL ret :: wd') (hlen : (lg_sl av).length ≤ maxL)
    (body : ∀ p e s m below meth c (A : Nat → Prop) (ls : Array Slot), EN p s m meth c av.toArray y wd cc maxL ret → CT g A s → WD g A s ws [] s.heap [] → lv_has ls maxL (lv_args 0 av) →
      W p l e rm s m av.toArray below meth c s.heap [] 0 0 (MQ below (Qf A) av.toArray s mc ms A) (F0 m 0 ls [])) : Met l y wd rm (va_Pc av (PRE g ws sz)) (Qf (va_A ws sz)) mc ms (va_A ws sz) := by
  refine Met.ofW (cc := cc) (maxL := maxL) (ret := ret) hy hw ?_
  intro p e s m args below meth c s₁ B hml hv
  obtain ⟨rfl, hsz, hP, hK, hD0, hST⟩ := hv
  subst hsz
  rw [lg_entry_eq]
  refine body p e s m below meth c (va_A ws s.heap.size) _ ⟨B.exec, B.bytes, B.returns, hml, findClass_of_methodNamed B.named, atoms_spec (ws := wd) B.pre, B.notSynchronized, (name_of_methodNamed B.named B.method).1⟩ ⟨hK, hST, fun q h => Or.inr h⟩ ⟨?_, ?_, va_S.rf⟩ (lv_entry av hlen)
  · rw [List.append_nil]; exact hP
  · rw [List.append_nil]; exact hD0.self
section RWB
variable {p : Program} {l : Launch} {e : Env} {R : Room} {s : State} {m : MethodId} {args : Array Value} {below : List Frame} {meth : Method} {c : Code} {H : Heap} {locs : List Loc} {cells slots : Nat} {Q : State → Prop}
variable {cc : ByteArray} {pc : Nat} {ls : Array Slot} {rest : List Value} {g : GE} {A : Nat → Prop} {a : Nat} {X pl : va_W}
theorem r_te {x y : Int32} (h : x = y) (k : W p l e R s m args below meth c H locs cells slots Q (F0 m pc ls (.int y :: rest))) : W p l e R s m args below meth c H locs cells slots Q (F0 m pc ls (.int x :: rest)) := by rw [h]; exact k
theorem r_tel {x y : Int64} (h : x = y) (k : W p l e R s m args below meth c H locs cells slots Q (F0 m pc ls (.long y :: rest))) : W p l e R s m args below meth c H locs cells slots Q (F0 m pc ls (.long x :: rest)) := by rw [h]; exact k
theorem r_get (hexec : p.tables.exec = Jvm.exec) (hb : c.code = cc) {own C : String} {T : u_T} {N ci index : Nat} {Ts : List Cond} (hts : ∀ w ∈ Ts, w.before args s = true) (hin : ∀ w ∈ u_ws C T N, w ∈ Ts) (hown : s.vm.findClass own = some m.cls) (h0 : CT g A s) (hw : WD g A s X pl H locs) (q0 : Nat) {fs : List Value} (he : X[q0]? = some (a, .inr (ci, fs))) (hc : vwCl[ci]? = some (C, T, N)) (k : Nat) (hk : k < N) (hlink : (Cond.fieldLink own index (T k).1 (T k).2.1 (T k).2.2.1).before args s = true) {v : Value} (hv : fs[k]? = some v) (hdg : decode cc pc = .ok (.getfield index, 3))
    (kk : W p l e R s m args below meth c H locs cells slots Q (F0 m (pc + 3) ls (v :: rest))) : W p l e R s m args below meth c H locs cells slots Q (F0 m pc ls (.ref a :: rest)) :=
  va_get (D := g.1) (cl := vwCl) hexec hb hts hin hown h0.1 hw.1 q0 (hw.at he) hc k hk hlink (fun _ h => h) hv hdg kk
theorem r_put (hexec : p.tables.exec = Jvm.exec) (hb : c.code = cc) {own C : String} {T : u_T} {N ci index : Nat} {Ts : List Cond} (hts : ∀ w ∈ Ts, w.before args s = true) (hin : ∀ w ∈ u_ws C T N, w ∈ Ts) (ty0 : Nat → FieldType) (hty : ∀ k, k < N → parseFieldDescriptor (T k).2.2.1 = some (ty0 k)) (hnm : ∀ a, a < N → ∀ b, b < N → a ≠ b → (T a).2.1 ≠ (T b).2.1) (hown : s.vm.findClass own = some m.cls) (h0 : CT g A s) (hw : WD g A s X pl H locs) (q0 : Nat) {fs : List Value} (he : X[q0]? = some (a, .inr (ci, fs))) (hc : vwCl[ci]? = some (C, T, N)) (k : Nat) (hk : k < N) (hlink : (Cond.fieldLink own index (T k).1 (T k).2.1 (T k).2.2.1).before args s = true) (hfin : (T k).2.2.2 = false) {v : Value} (hn : narrow (ty0 k) v = v) (hfit : fits (ty0 k) v = true) (hl : k < fs.length) (hdg : decode cc pc = .ok (.putfield index, 3))
    (kk : ∀ (H1 : Heap) (locs1 : List Loc), WD g A s (X.set q0 (a, .inr (ci, fs.set k v))) pl H1 locs1 → W p l e R s m args below meth c H1 locs1 cells slots Q (F0 m (pc + 3) ls rest)) : W p l e R s m args below meth c H locs cells slots Q (F0 m pc ls (v :: .ref a :: rest)) := by
  refine va_put (D := g.1) (cl := vwCl) hexec hb hts hin ty0 hty hnm hown h0.1 hw.1 hw.2.1 hw.2.2 q0 (hw.at he) hc k hk hlink (fun _ h => h) hfin (hty k hk) hn hfit hl hdg (fun H1 locs1 h1 h2 h3 => kk H1 locs1 ?_)
  rw [set_app he] at h1 h2
  exact ⟨h1, h2, h3⟩
theorem r_putF (hexec : p.tables.exec = Jvm.exec) (hb : c.code = cc) {own C : String} {T : u_T} {N ci index : Nat} {Ts : List Cond} (hts : ∀ w ∈ Ts, w.before args s = true) (hin : ∀ w ∈ u_ws C T N, w ∈ Ts) (ty0 : Nat → FieldType) (hty : ∀ k, k < N → parseFieldDescriptor (T k).2.2.1 = some (ty0 k)) (hnm : ∀ a, a < N → ∀ b, b < N → a ≠ b → (T a).2.1 ≠ (T b).2.1) (hown : s.vm.findClass own = some m.cls) (h0 : CT g A s) (hw : WD g A s X pl H locs) (q0 : Nat) {fs : List Value} (he : X[q0]? = some (a, .inr (ci, fs))) (hc : vwCl[ci]? = some (C, T, N)) (k : Nat) (hk : k < N) (hlink : (Cond.fieldLink own index (T k).1 (T k).2.1 (T k).2.2.1).before args s = true) (hfin : (T k).2.2.2 = true) (hin2 : meth.name = "<init>") (hdecl : (T k).1 = own) {v : Value} (hn : narrow (ty0 k) v = v) (hfit : fits (ty0 k) v = true) (hl : k < fs.length) (hdg : decode cc pc = .ok (.putfield index, 3))
    (kk : ∀ (H1 : Heap) (locs1 : List Loc), WD g A s (X.set q0 (a, .inr (ci, fs.set k v))) pl H1 locs1 → W p l e R s m args below meth c H1 locs1 cells slots Q (F0 m (pc + 3) ls rest)) : W p l e R s m args below meth c H locs cells slots Q (F0 m pc ls (v :: .ref a :: rest)) := by
  refine va_putF (D := g.1) (cl := vwCl) hexec hb hts hin ty0 hty hnm hown h0.1 hw.1 hw.2.1 hw.2.2 q0 (hw.at he) hc k hk hlink (fun _ h => h) hfin hin2 hdecl (hty k hk) hn hfit hl hdg (fun H1 locs1 h1 h2 h3 => kk H1 locs1 ?_)
  rw [set_app he] at h1 h2
  exact ⟨h1, h2, h3⟩
theorem r_iald (hexec : p.tables.exec = Jvm.exec) (hb : c.code = cc) (h0 : CT g A s) (hw : WD g A s X pl H locs) (q0 : Nat) {n : Nat} {f : Nat → Int32} (he : X[q0]? = some (a, .inl (g.2.1 0, n, .inl f))) {i : Nat} (hi : i < n) (hn : n < 2147483648) (hdg : decode cc pc = .ok (.iaload, 1))
    (kk : W p l e R s m args below meth c H locs cells slots Q (F0 m (pc + 1) ls (.int (f i) :: rest))) : W p l e R s m args below meth c H locs cells slots Q (F0 m pc ls (.int (nI i) :: .ref a :: rest)) := by
  refine va_iald (D := g.1) (cl := vwCl) hexec hb h0.1 hw.1 q0 0 (hw.at he) rfl (vp_in_nI hi hn) hdg ?_
  rw [nI_clamp (by omega)]
  exact kk
theorem r_iast (hexec : p.tables.exec = Jvm.exec) (hb : c.code = cc) (h0 : CT g A s) (hw : WD g A s X pl H locs) (q0 : Nat) {n : Nat} {f : Nat → Int32} (he : X[q0]? = some (a, .inl (g.2.1 0, n, .inl f))) {i : Nat} {x : Int32} (hi : i < n) (hn : n < 2147483648) (hdg : decode cc pc = .ok (.iastore, 1))
    (kk : ∀ (H1 : Heap) (locs1 : List Loc), WD g A s (X.set q0 (a, .inl (g.2.1 0, n, .inl (upd f i x)))) pl H1 locs1 → W p l e R s m args below meth c H1 locs1 cells slots Q (F0 m (pc + 1) ls rest)) : W p l e R s m args below meth c H locs cells slots Q (F0 m pc ls (.int x :: .int (nI i) :: .ref a :: rest)) := by
  refine va_iast (D := g.1) (cl := vwCl) hexec hb h0.1 hw.1 hw.2.1 hw.2.2 q0 0 (hw.at he) rfl (vp_in_nI hi hn) hdg (fun H1 locs1 h1 h2 h3 => kk H1 locs1 ?_)
  rw [set_app he, nI_clamp (by omega)] at h1 h2
  exact ⟨h1, h2, h3⟩
theorem r_lald (hexec : p.tables.exec = Jvm.exec) (hb : c.code = cc) (h0 : CT g A s) (hw : WD g A s X pl H locs) (q0 : Nat) {n : Nat} {f : Nat → Int64} (he : X[q0]? = some (a, .inl (g.2.1 1, n, .inr (.inl f)))) {i : Nat} (hi : i < n) (hn : n < 2147483648) (hdg : decode cc pc = .ok (.laload, 1))
    (kk : W p l e R s m args below meth c H locs cells slots Q (F0 m (pc + 1) ls (.long (f i) :: rest))) : W p l e R s m args below meth c H locs cells slots Q (F0 m pc ls (.int (nI i) :: .ref a :: rest)) := by
  refine va_lald (D := g.1) (cl := vwCl) hexec hb h0.1 hw.1 q0 1 (hw.at he) rfl (vp_in_nI hi hn) hdg ?_
  rw [nI_clamp (by omega)]
  exact kk
theorem r_zald (hexec : p.tables.exec = Jvm.exec) (hb : c.code = cc) (h0 : CT g A s) (hw : WD g A s X pl H locs) (q0 : Nat) {n : Nat} {f : Nat → Int32} (he : X[q0]? = some (a, .inl (g.2.1 2, n, .inl f))) {i : Nat} (hi : i < n) (hn : n < 2147483648) (hdg : decode cc pc = .ok (.baload, 1))
    (kk : W p l e R s m args below meth c H locs cells slots Q (F0 m (pc + 1) ls (.int (f i) :: rest))) : W p l e R s m args below meth c H locs cells slots Q (F0 m pc ls (.int (nI i) :: .ref a :: rest)) := by
  refine va_zald (D := g.1) (cl := vwCl) hexec hb h0.1 hw.1 q0 2 (hw.at he) rfl (vp_in_nI hi hn) hdg ?_
  rw [nI_clamp (by omega)]
  exact kk
theorem r_alen (hexec : p.tables.exec = Jvm.exec) (hb : c.code = cc) (h0 : CT g A s) (hw : WD g A s X pl H locs) (q0 : Nat) {n : Nat} {f : Nat → Int32} (he : X[q0]? = some (a, .inl (g.2.1 0, n, .inl f))) (hdg : decode cc pc = .ok (.arraylength, 1))
    (kk : W p l e R s m args below meth c H locs cells slots Q (F0 m (pc + 1) ls (.int (nI n) :: rest))) : W p l e R s m args below meth c H locs cells slots Q (F0 m pc ls (.ref a :: rest)) :=
  va_alen (D := g.1) (cl := vwCl) hexec hb h0.1 hw.1 q0 0 (hw.at he) (ty := .int) rfl rfl hdg kk
theorem r_tab (hexec : p.tables.exec = Jvm.exec) (hb : c.code = cc) {C n : String} {t N : Nat} {f : Nat → Int32} (hT : ST1 C n t N f A s s.heap) (hw : WD g A s X pl H locs) {i : Nat} (hi : i < N) (hN : N < 2147483648) (hdg : decode cc pc = .ok (.iaload, 1))
    (kk : W p l e R s m args below meth c H locs cells slots Q (F0 m (pc + 1) ls (.int (f i) :: rest))) : W p l e R s m args below meth c H locs cells slots Q (F0 m pc ls (.int (nI i) :: .ref t :: rest)) :=
  va_ti (v := .int (f i)) hexec hb hT.2 hw.2.2 (vp_in_nI hi hN) (by show Value.int (f _) = _; rw [nI_clamp (by omega)]) hdg kk
theorem r_gets (hexec : p.tables.exec = Jvm.exec) (hb : c.code = cc) {C n own : String} {t N : Nat} {f : Nat → Int32} {index : Nat} (hT : ST1 C n t N f A s s.heap) (hw : WD g A s X pl H locs) (hown : s.vm.findClass own = some m.cls) (hlink : (Cond.fieldLink own index C n "[I").before args s = true) (hdg : decode cc pc = .ok (.getstatic index, 3))
    (kk : W p l e R s m args below meth c H locs cells slots Q (F0 m (pc + 3) ls (.ref t :: rest))) : W p l e R s m args below meth c H locs cells slots Q (F0 m pc ls rest) :=
  va_gets hexec hb hT.1 hw.2.2 hown hlink (fun _ h => h) hdg kk
theorem r_vret {S : Type} {post : S → Prop} {w1 : S → va_W} (hexec : p.tables.exec = Jvm.exec) (hb : c.code = cc) (hr : meth.sig.returnType = none) (hlocks : meth.locks = false) (hw : WD g A s X pl H locs) (u : S) (hp : post u) (hX : X ++ pl = w1 u) (hdg : decode cc pc = .ok (.return_, 1)) :
    W p l e R s m args below meth c H locs cells slots (MQ below (va_Qv post (fun u t => PST g A (w1 u) t) A) args s cells slots A) (F0 m pc ls []) := by
  obtain ⟨h1, h2, h3⟩ := hw
  rw [hX] at h1 h2
  exact W.vret hexec hb hr (fun t ht hW => ⟨⟨u, rfl, hp, by rw [ht]; exact h1, h2⟩, h3.F ht⟩) h3.2.2 hdg hlocks
theorem r_iret {S : Type} {post : Int32 → S → Prop} {w1 : S → va_W} {v : Int32} (hexec : p.tables.exec = Jvm.exec) (hb : c.code = cc) (hr : meth.sig.returnType = some .int) (hlocks : meth.locks = false) (hw : WD g A s X pl H locs) (u : S) (hp : post v u) (hX : X ++ pl = w1 u) (hdg : decode cc pc = .ok (.ireturn, 1)) :
    W p l e R s m args below meth c H locs cells slots (MQ below (va_Qi post (fun u t => PST g A (w1 u) t) A) args s cells slots A) (F0 m pc ls [.int v]) := by
  obtain ⟨h1, h2, h3⟩ := hw
  rw [hX] at h1 h2
  exact W.iret hexec hb hr (fun t ht hW => ⟨⟨v, u, rfl, hp, by rw [ht]; exact h1, h2⟩, h3.F ht⟩) h3.2.2 hdg hlocks
theorem r_zret {S : Type} {post : Int32 → S → Prop} {w1 : S → va_W} {v : Int32} (hexec : p.tables.exec = Jvm.exec) (hb : c.code = cc) (hr : meth.sig.returnType = some .boolean) (hlocks : meth.locks = false) (hz : narrow .boolean (.int v) = .int v) (hw : WD g A s X pl H locs) (u : S) (hp : post v u) (hX : X ++ pl = w1 u) (hdg : decode cc pc = .ok (.ireturn, 1)) :
    W p l e R s m args below meth c H locs cells slots (MQ below (va_Qi post (fun u t => PST g A (w1 u) t) A) args s cells slots A) (F0 m pc ls [.int v]) := by
  obtain ⟨h1, h2, h3⟩ := hw
  rw [hX] at h1 h2
  exact W.zret hexec hb hr hz (fun t ht hW => ⟨⟨v, u, rfl, hp, by rw [ht]; exact h1, h2⟩, h3.F ht⟩) h3.2.2 hdg hlocks
theorem r_lret {S : Type} {post : Int64 → S → Prop} {w1 : S → va_W} {v : Int64} (hexec : p.tables.exec = Jvm.exec) (hb : c.code = cc) (hr : meth.sig.returnType = some .long) (hlocks : meth.locks = false) (hw : WD g A s X pl H locs) (u : S) (hp : post v u) (hX : X ++ pl = w1 u) (hdg : decode cc pc = .ok (.lreturn, 1)) :
    W p l e R s m args below meth c H locs cells slots (MQ below (va_Ql post (fun u t => PST g A (w1 u) t) A) args s cells slots A) (F0 m pc ls [.long v]) := by
  obtain ⟨h1, h2, h3⟩ := hw
  rw [hX] at h1 h2
  exact W.lret hexec hb hr (fun t ht hW => ⟨⟨v, u, rfl, hp, by rw [ht]; exact h1, h2⟩, h3.F ht⟩) h3.2.2 hdg hlocks
/-- a call with its frame: int, void, long -/
theorem r_calli {S : Type} {post : Int32 → S → Prop} {w1 : S → va_W} {wc wr : va_W} {mc ms : Nat} {st0 : List Value} {av : Array Value} (isC isR : List Nat) (h0 : CT g A s) (hw : WD g A s X pl H locs) (hC : isC.map (fun i => X[i]?) = wc.map some) (hR : isR.map (fun i => X[i]?) = wr.map some) (hn : va_nd isR = true) (hdis : ∀ i ∈ isR, i ∉ isC)
    (hr : va_Run p l e R s m args below meth c H locs cells slots mc ms (F0 m pc ls st0) rest (va_Qi post (fun u t => PST g (va_A wc H.size) (w1 u) t) (va_A wc H.size) av) (va_A wc H.size))
    (kk : ∀ (r : Int32) (u : S) (H1 : Heap) (locs1 : List Loc), post r u → WD g A s (wr ++ w1 u) pl H1 locs1 → W p l e R s m args below meth c H1 locs1 (cells + mc) (slots + ms) Q (F0 m (pc + 3) ls (.int r :: rest))) : W p l e R s m args below meth c H locs cells slots Q (F0 m pc ls st0) := by
  have hF := WD.free h0 hw isC hC
  refine va_calli hr hw.2.2 (fun q _ h => hF q h) hF (fun r u t H1 locs1 ht hvm hp hB hz1 hk1 hS => kk r u H1 locs1 hp ?_)
  obtain ⟨b1, b2⟩ := hB
  rw [ht] at b1
  exact hw.join isC isR hC hR hn hdis hk1 hF b1 b2 hS
theorem r_calll {S : Type} {post : Int64 → S → Prop} {w1 : S → va_W} {wc wr : va_W} {mc ms : Nat} {st0 : List Value} {av : Array Value} (isC isR : List Nat) (h0 : CT g A s) (hw : WD g A s X pl H locs) (hC : isC.map (fun i => X[i]?) = wc.map some) (hR : isR.map (fun i => X[i]?) = wr.map some) (hn : va_nd isR = true) (hdis : ∀ i ∈ isR, i ∉ isC)
    (hr : va_Run p l e R s m args below meth c H locs cells slots mc ms (F0 m pc ls st0) rest (va_Ql post (fun u t => PST g (va_A wc H.size) (w1 u) t) (va_A wc H.size) av) (va_A wc H.size))
    (kk : ∀ (r : Int64) (u : S) (H1 : Heap) (locs1 : List Loc), post r u → WD g A s (wr ++ w1 u) pl H1 locs1 → W p l e R s m args below meth c H1 locs1 (cells + mc) (slots + ms) Q (F0 m (pc + 3) ls (.long r :: rest))) : W p l e R s m args below meth c H locs cells slots Q (F0 m pc ls st0) := by
  have hF := WD.free h0 hw isC hC
  refine va_calll hr hw.2.2 (fun q _ h => hF q h) hF (fun r u t H1 locs1 ht hvm hp hB hz1 hk1 hS => kk r u H1 locs1 hp ?_)
  obtain ⟨b1, b2⟩ := hB
  rw [ht] at b1
  exact hw.join isC isR hC hR hn hdis hk1 hF b1 b2 hS
theorem r_callv {S : Type} {post : S → Prop} {w1 : S → va_W} {wc wr : va_W} {mc ms : Nat} {st0 : List Value} {av : Array Value} (isC isR : List Nat) (h0 : CT g A s) (hw : WD g A s X pl H locs) (hC : isC.map (fun i => X[i]?) = wc.map some) (hR : isR.map (fun i => X[i]?) = wr.map some) (hn : va_nd isR = true) (hdis : ∀ i ∈ isR, i ∉ isC)
    (hr : va_Run p l e R s m args below meth c H locs cells slots mc ms (F0 m pc ls st0) rest (va_Qv post (fun u t => PST g (va_A wc H.size) (w1 u) t) (va_A wc H.size) av) (va_A wc H.size))
    (kk : ∀ (u : S) (H1 : Heap) (locs1 : List Loc), post u → WD g A s (wr ++ w1 u) pl H1 locs1 → W p l e R s m args below meth c H1 locs1 (cells + mc) (slots + ms) Q (F0 m (pc + 3) ls rest)) : W p l e R s m args below meth c H locs cells slots Q (F0 m pc ls st0) := by
  have hF := WD.free h0 hw isC hC
  refine va_callv hr hw.2.2 (fun q _ h => hF q h) hF (fun u t H1 locs1 ht hvm hp hB hz1 hk1 hS => kk u H1 locs1 hp ?_)
  obtain ⟨b1, b2⟩ := hB
  rw [ht] at b1
  exact hw.join isC isR hC hR hn hdis hk1 hF b1 b2 hS
end RWB
