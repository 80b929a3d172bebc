/-! worlds up to order; the eight slots -/
theorem va_P_mem {D : va_G} {cl : List vw_C} {ws : va_W} {H : Heap} : va_P D cl ws H ↔ ∀ q ∈ ws, va_at D cl q H :=
  ⟨fun h q hq => by obtain ⟨i, hi⟩ := List.getElem?_of_mem hq; exact h i q hi, fun h k q hk => h q (List.mem_of_getElem? hk)⟩
theorem va_D_mem {A : Nat → Prop} {ws : va_W} : va_D A ws ↔ (ws.map Prod.fst).Nodup ∧ ∀ q ∈ ws, A q.1 := by
  have hN : (ws.map Prod.fst).Nodup ↔ ∀ (i j : Nat) (hi : i < ws.length) (hj : j < ws.length), i < j → (ws[i]).1 ≠ (ws[j]).1 := by
    rw [List.nodup_iff_pairwise_ne, List.pairwise_map, List.pairwise_iff_getElem]
  constructor
  · intro h
    refine ⟨hN.mpr (fun i j hi hj hij e => ?_), fun q hq => by obtain ⟨i, hi⟩ := List.getElem?_of_mem hq; exact h.2 i q hi⟩
    have := h.1 i j _ _ (List.getElem?_eq_getElem hi) (List.getElem?_eq_getElem hj) e
    omega
  · intro h
    refine ⟨fun i j p q hi hj e => ?_, fun k q hk => h.2 q (List.mem_of_getElem? hk)⟩
    obtain ⟨li, ei⟩ := List.getElem?_eq_some_iff.mp hi
    obtain ⟨lj, ej⟩ := List.getElem?_eq_some_iff.mp hj
    rcases Nat.lt_trichotomy i j with c | c | c
    · exact absurd (by rw [ei, ej]; exact e) (hN.mp h.1 i j li lj c)
    · exact c
    · exact absurd (by rw [ei, ej]; exact e.symm) (hN.mp h.1 j i lj li c)
theorem va_P_perm {D : va_G} {cl : List vw_C} {ws ws' : va_W} {H : Heap} (hp : ws.Perm ws') (h : va_P D cl ws H) : va_P D cl ws' H := va_P_mem.mpr (fun q hq => va_P_mem.mp h q (hp.mem_iff.mpr hq))
theorem va_D_perm {A : Nat → Prop} {ws ws' : va_W} (hp : ws.Perm ws') (h : va_D A ws) : va_D A ws' := by
  obtain ⟨h1, h2⟩ := va_D_mem.mp h
  exact va_D_mem.mpr ⟨(hp.map Prod.fst).nodup_iff.mp h1, fun q hq => h2 q (hp.mem_iff.mpr hq)⟩
theorem WD.ofPerm {g : GE} {A : Nat → Prop} {s : State} {X X' pl pl' : va_W} {H : Heap} {locs : List Loc} (h : WD g A s X pl H locs) (hp : (X ++ pl).Perm (X' ++ pl')) : WD g A s X' pl' H locs := ⟨va_P_perm hp h.1, va_D_perm hp h.2.1, h.2.2⟩
/-- the two cells of slot k -/
def slC (g : GE) (sa sb : Nat → Nat) (z : Nat → Nat) (f : Nat → Nat → Int32) (k : Nat) : va_W := [(sa k, .inr (0, [.ref (sb k), .int (nI (z k))])), (sb k, .inl (g.2.1 0, 127, .inl (f k)))]
def slAll (C : Nat → va_W) : va_W := (List.range 8).flatMap C
def slRest (C : Nat → va_W) (k : Nat) : va_W := ((List.range 8).filter (fun j => j != k)).flatMap C
theorem slPerm (C : Nat → va_W) {k : Nat} (hk : k < 8) : (slAll C).Perm (C k ++ slRest C k) := by
  unfold slAll slRest
  have h1 : (List.range 8).Perm (k :: (List.range 8).filter (fun j => j != k)) := by
    rcases (show k = 0 ∨ k = 1 ∨ k = 2 ∨ k = 3 ∨ k = 4 ∨ k = 5 ∨ k = 6 ∨ k = 7 by omega) with rfl | rfl | rfl | rfl | rfl | rfl | rfl | rfl <;> decide
  exact (h1.flatMap_right C).trans (by rw [List.flatMap_cons])
theorem flat_cong {C C' : Nat → va_W} : ∀ (l : List Nat), (∀ j ∈ l, C j = C' j) → l.flatMap C = l.flatMap C'
  | [], _ => rfl
  | a :: l, h => by
    rw [List.flatMap_cons, List.flatMap_cons, h a List.mem_cons_self, flat_cong l (fun j hj => h j (List.mem_cons_of_mem _ hj))]
theorem slRest_cong {C C' : Nat → va_W} {k : Nat} (h : ∀ j, j ≠ k → C j = C' j) : slRest C k = slRest C' k := by
  unfold slRest
  apply flat_cong
  intro j hj
  have := (List.mem_filter.mp hj).2
  exact h j (by simpa using this)
theorem slOpen {g : GE} {A : Nat → Prop} {s : State} {X : va_W} {H : Heap} {locs : List Loc} {sa sb z : Nat → Nat} {f : Nat → Nat → Int32} {k : Nat} (hk : k < 8) (h : WD g A s X (slAll (slC g sa sb z f)) H locs) : WD g A s (X ++ slC g sa sb z f k) (slRest (slC g sa sb z f) k) H locs :=
  h.ofPerm (by rw [List.append_assoc]; exact (slPerm _ hk).append_left X)
theorem va_up_id {α : Type} {f : Nat → α} {k : Nat} : va_up f k (f k) = f := by
  funext j
  by_cases h : j = k
  · subst h; rw [va_up_self]
  · rw [va_up_ne _ _ h]
theorem slClose {g : GE} {A : Nat → Prop} {s : State} {X : va_W} {H : Heap} {locs : List Loc} {sa sb z : Nat → Nat} {f : Nat → Nat → Int32} {k n2 : Nat} {f2 : Nat → Int32} (hk : k < 8) (h : WD g A s (X ++ [(sa k, .inr (0, [.ref (sb k), .int (nI n2)])), (sb k, .inl (g.2.1 0, 127, .inl f2))]) (slRest (slC g sa sb z f) k) H locs) : WD g A s X (slAll (slC g sa sb (va_up z k n2) (va_up f k f2))) H locs := by
  have e : slRest (slC g sa sb z f) k = slRest (slC g sa sb (va_up z k n2) (va_up f k f2)) k := slRest_cong (fun j hj => by unfold slC; rw [va_up_ne _ _ hj, va_up_ne _ _ hj])
  have e2 : slC g sa sb (va_up z k n2) (va_up f k f2) k = [(sa k, .inr (0, [.ref (sb k), .int (nI n2)])), (sb k, .inl (g.2.1 0, 127, .inl f2))] := by unfold slC; rw [va_up_self, va_up_self]
  rw [e, ← e2] at h
  exact h.ofPerm (by rw [List.append_assoc]; exact ((slPerm _ hk).append_left X).symm)
section RWD
variable {p : Program} {l : Launch} {e : Env} {R : Room} {s : State} {m : MethodId} {args : Array Value} {below : List Frame} {meth : Method} {c : Code} {H : Heap} {locs : List Loc} {cells slots : Nat} {Q : State → Prop}
variable {cc : ByteArray} {pc : Nat} {ls : Array Slot} {rest : List Value} {g : GE} {A : Nat → Prop} {a : Nat} {X pl : va_W}
theorem r_aaldD (hexec : p.tables.exec = Jvm.exec) (hb : c.code = cc) (h0 : CT g A s) (hw : WD g A s X pl H locs) (q0 : Nat) {n : Nat} {f : Nat → Option Nat} (he : X[q0]? = some (a, .inl (g.2.1 3, n, .inr (.inr (.inr (.inr f)))))) {i b : Nat} (hi : i < n) (hn : n < 2147483648) (hf : f i = some b) (hdg : decode cc pc = .ok (.aaload, 1))
    (kk : W p l e R s m args below meth c H locs cells slots Q (F0 m (pc + 1) ls (.ref b :: rest))) : W p l e R s m args below meth c H locs cells slots Q (F0 m pc ls (.int (nI i) :: .ref a :: rest)) := by
  refine va_aldq (D := g.1) (cl := vwCl) hexec hb h0.1 hw.1 q0 3 (hw.at he) rfl (vp_in_nI hi hn) hdg ?_
  rw [nI_clamp (by omega), hf]
  exact kk
theorem r_aaldB (hexec : p.tables.exec = Jvm.exec) (hb : c.code = cc) (h0 : CT g A s) (hw : WD g A s X pl H locs) (q0 : Nat) {n : Nat} {f : Nat → Option Nat} (he : X[q0]? = some (a, .inl (g.2.1 4, n, .inr (.inr (.inr (.inr f)))))) {i b : Nat} (hi : i < n) (hn : n < 2147483648) (hf : f i = some b) (hdg : decode cc pc = .ok (.aaload, 1))
    (kk : W p l e R s m args below meth c H locs cells slots Q (F0 m (pc + 1) ls (.ref b :: rest))) : W p l e R s m args below meth c H locs cells slots Q (F0 m pc ls (.int (nI i) :: .ref a :: rest)) := by
  refine va_aldq (D := g.1) (cl := vwCl) hexec hb h0.1 hw.1 q0 4 (hw.at he) rfl (vp_in_nI hi hn) hdg ?_
  rw [nI_clamp (by omega), hf]
  exact kk
end RWD
