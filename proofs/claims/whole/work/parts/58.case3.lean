set_option maxHeartbeats 4000000 in
set_option maxRecDepth 100000 in
theorem k_deliver {p : Program} {l : Launch} {e : Env} {s : State} {m : MethodId} {below : List Frame} {meth : Method} {c : Code} {b L n : Nat} {xs : Nat → Int32} {g : GE} {A : Nat → Prop} {Q : State → Prop} {H : Heap} {locs : List Loc} {ls : Array Slot} {ad sa sb md : Nat → Nat} (hC : LC p s m c b L xs g A) (hn4 : 4 * n + 4 ≤ L) (hI : LI g A s n ad sa sb md H locs) (hl : lv_has ls 4 [(3, .int (nI (4 * n))), (0, .ref b), (1, .ref (ad 0)), (2, .ref (md 25))]) (hk : ∀ (H : Heap) (locs : List Loc), LI g A s (n + 1) ad sa sb md H locs → W p l e room_1 s m #[Value.ref b] below meth c H locs 86 5159 Q (F0 m 415 ls [])) : W p l e room_1 s m #[Value.ref b] below meth c H locs 86 5159 Q (F0 m 201 ls []) := by
  obtain ⟨op, on, inn, pf, K, kn, obf, ibf, ep, nx, ef, tf, gt, sn, z, f, rf, wf, sf, dg, kf, otf, mf, se, te, epn, nxf, smf, gtf, snf, wr, wd, mx, hw, hR⟩ := hI
  obtain ⟨⟨ho, hon, hin⟩, hB, ⟨he0, he1⟩, hz, hwr, hs0, hd⟩ := id hR
  have hLB : L ≤ 2048 := hC.2.2.2.2.2.2.2.2.2
  have hz7 : ∀ j, j < 8 → z j ≤ 127 := fun j hj => (hz j hj).elim (fun q => by omega) (fun q => q.2)
  by_cases hk9 : inR (xs (4 * n + 1)) 8
  · skip
    obtain ⟨k, hk8, e1⟩ := inR_of hk9 (by decide)
    by_cases hi9 : inR (xs (4 * n + 2)) 2
    · skip
      obtain ⟨i, hi, e2⟩ := inR_of hi9 (by decide)
      rcases (show i = 0 ∨ i = 1 by omega) with rfl | rfl
      · exact k_deliver1 hC hn4 ⟨op, on, inn, pf, K, kn, obf, ibf, ep, nx, ef, tf, gt, sn, z, f, rf, wf, sf, dg, kf, otf, mf, se, te, epn, nxf, smf, gtf, snf, wr, wd, mx, hw, hR⟩ hl hk k hk8 e1 e2
      · exact k_deliver0 hC hn4 ⟨op, on, inn, pf, K, kn, obf, ibf, ep, nx, ef, tf, gt, sn, z, f, rf, wf, sf, dg, kf, otf, mf, se, te, epn, nxf, smf, gtf, snf, wr, wd, mx, hw, hR⟩ hl hk k hk8 e1 e2
    · skip
      refine t_deliver_b3 hC hn4 ad sa sb md op on inn pf K kn obf ibf ep nx ef tf gt sn z f rf wf sf dg kf otf mf se te epn nxf smf gtf snf wr wd mx k ((xs (4 * n + 2)))  e1 rfl (ho) (fun q => hi9 q.2.1) (hk8) (hz7 k hk8) (ho) (fun q => hi9 q.1) hw hl (fun   H locs hw => hk H locs ⟨op, on, inn, pf, K, kn, obf, ibf, ep, nx, ef, tf, gt, sn, z, f, rf, wf, sf, dg, kf, otf, mf, se, te, epn, nxf, smf, gtf, snf, wr, wd, mx, hw, ?_⟩)
      exact REL_up hR
  · skip
    refine t_deliver_b1 hC hn4 ad sa sb md op on inn pf K kn obf ibf ep nx ef tf gt sn z f rf wf sf dg kf otf mf se te epn nxf smf gtf snf wr wd mx ((xs (4 * n + 1))) ((xs (4 * n + 2)))  rfl rfl (ho) (fun q => hk9 q.1) (hk9) hw hl (fun   H locs hw => hk H locs ⟨op, on, inn, pf, K, kn, obf, ibf, ep, nx, ef, tf, gt, sn, z, f, rf, wf, sf, dg, kf, otf, mf, se, te, epn, nxf, smf, gtf, snf, wr, wd, mx, hw, ?_⟩)
    exact REL_up hR

set_option maxHeartbeats 4000000 in
set_option maxRecDepth 100000 in
theorem k_got {p : Program} {l : Launch} {e : Env} {s : State} {m : MethodId} {below : List Frame} {meth : Method} {c : Code} {b L n : Nat} {xs : Nat → Int32} {g : GE} {A : Nat → Prop} {Q : State → Prop} {H : Heap} {locs : List Loc} {ls : Array Slot} {ad sa sb md : Nat → Nat} (hC : LC p s m c b L xs g A) (hn4 : 4 * n + 4 ≤ L) (hI : LI g A s n ad sa sb md H locs) (hl : lv_has ls 4 [(3, .int (nI (4 * n))), (0, .ref b), (1, .ref (ad 0)), (2, .ref (md 25))]) (hk : ∀ (H : Heap) (locs : List Loc), LI g A s (n + 1) ad sa sb md H locs → W p l e room_1 s m #[Value.ref b] below meth c H locs 86 5159 Q (F0 m 415 ls [])) : W p l e room_1 s m #[Value.ref b] below meth c H locs 86 5159 Q (F0 m 234 ls []) := by
  obtain ⟨op, on, inn, pf, K, kn, obf, ibf, ep, nx, ef, tf, gt, sn, z, f, rf, wf, sf, dg, kf, otf, mf, se, te, epn, nxf, smf, gtf, snf, wr, wd, mx, hw, hR⟩ := hI
  obtain ⟨⟨ho, hon, hin⟩, hB, ⟨he0, he1⟩, hz, hwr, hs0, hd⟩ := id hR
  have hLB : L ≤ 2048 := hC.2.2.2.2.2.2.2.2.2
  have hz7 : ∀ j, j < 8 → z j ≤ 127 := fun j hj => (hz j hj).elim (fun q => by omega) (fun q => q.2)
  by_cases h : inR (xs (4 * n + 1)) inn
  · skip
    obtain ⟨i, hi, e1⟩ := inR_of h (by omega)
    refine t_got hC hn4 ad sa sb md op on inn pf K kn obf ibf ep nx ef tf gt sn z f rf wf sf dg kf otf mf se te epn nxf smf gtf snf wr wd mx i  e1 (hi) (by omega) (hi) (hin) hw hl (fun   H locs hw => hk H locs ⟨op, on, inn, pf, K, kn, obf, ibf, ep, nx, ef, tf, gt, sn, z, f, rf, wf, sf, dg, kf, otf, mf, se, te, epn, nxf, smf, gtf, snf, wr, wd, mx, hw, ?_⟩)
    exact REL_up hR
  · skip
    refine t_got_out hC hn4 ad sa sb md op on inn pf K kn obf ibf ep nx ef tf gt sn z f rf wf sf dg kf otf mf se te epn nxf smf gtf snf wr wd mx ((xs (4 * n + 1)))  rfl (out_of h) (out_of h) hw hl (fun   H locs hw => hk H locs ⟨op, on, inn, pf, K, kn, obf, ibf, ep, nx, ef, tf, gt, sn, z, f, rf, wf, sf, dg, kf, otf, mf, se, te, epn, nxf, smf, gtf, snf, wr, wd, mx, hw, ?_⟩)
    exact REL_up hR

set_option maxHeartbeats 4000000 in
set_option maxRecDepth 100000 in
theorem k_gotLen {p : Program} {l : Launch} {e : Env} {s : State} {m : MethodId} {below : List Frame} {meth : Method} {c : Code} {b L n : Nat} {xs : Nat → Int32} {g : GE} {A : Nat → Prop} {Q : State → Prop} {H : Heap} {locs : List Loc} {ls : Array Slot} {ad sa sb md : Nat → Nat} (hC : LC p s m c b L xs g A) (hn4 : 4 * n + 4 ≤ L) (hI : LI g A s n ad sa sb md H locs) (hl : lv_has ls 4 [(3, .int (nI (4 * n))), (0, .ref b), (1, .ref (ad 0)), (2, .ref (md 25))]) (hk : ∀ (H : Heap) (locs : List Loc), LI g A s (n + 1) ad sa sb md H locs → W p l e room_1 s m #[Value.ref b] below meth c H locs 86 5159 Q (F0 m 415 ls [])) : W p l e room_1 s m #[Value.ref b] below meth c H locs 86 5159 Q (F0 m 257 ls []) := by
  obtain ⟨op, on, inn, pf, K, kn, obf, ibf, ep, nx, ef, tf, gt, sn, z, f, rf, wf, sf, dg, kf, otf, mf, se, te, epn, nxf, smf, gtf, snf, wr, wd, mx, hw, hR⟩ := hI
  obtain ⟨⟨ho, hon, hin⟩, hB, ⟨he0, he1⟩, hz, hwr, hs0, hd⟩ := id hR
  have hLB : L ≤ 2048 := hC.2.2.2.2.2.2.2.2.2
  have hz7 : ∀ j, j < 8 → z j ≤ 127 := fun j hj => (hz j hj).elim (fun q => by omega) (fun q => q.2)
  refine t_gotLen hC hn4 ad sa sb md op on inn pf K kn obf ibf ep nx ef tf gt sn z f rf wf sf dg kf otf mf se te epn nxf smf gtf snf wr wd mx     hw hl (fun   H locs hw => hk H locs ⟨op, on, inn, pf, K, kn, obf, ibf, ep, nx, ef, tf, gt, sn, z, f, rf, wf, sf, dg, kf, otf, mf, se, te, epn, nxf, smf, gtf, snf, wr, wd, mx, hw, ?_⟩)
  exact REL_up hR

set_option maxHeartbeats 4000000 in
set_option maxRecDepth 100000 in
theorem k_corrupt {p : Program} {l : Launch} {e : Env} {s : State} {m : MethodId} {below : List Frame} {meth : Method} {c : Code} {b L n : Nat} {xs : Nat → Int32} {g : GE} {A : Nat → Prop} {Q : State → Prop} {H : Heap} {locs : List Loc} {ls : Array Slot} {ad sa sb md : Nat → Nat} (hC : LC p s m c b L xs g A) (hn4 : 4 * n + 4 ≤ L) (hI : LI g A s n ad sa sb md H locs) (hl : lv_has ls 4 [(3, .int (nI (4 * n))), (0, .ref b), (1, .ref (ad 0)), (2, .ref (md 25))]) (hk : ∀ (H : Heap) (locs : List Loc), LI g A s (n + 1) ad sa sb md H locs → W p l e room_1 s m #[Value.ref b] below meth c H locs 86 5159 Q (F0 m 415 ls [])) : W p l e room_1 s m #[Value.ref b] below meth c H locs 86 5159 Q (F0 m 270 ls []) := by
  obtain ⟨op, on, inn, pf, K, kn, obf, ibf, ep, nx, ef, tf, gt, sn, z, f, rf, wf, sf, dg, kf, otf, mf, se, te, epn, nxf, smf, gtf, snf, wr, wd, mx, hw, hR⟩ := hI
  obtain ⟨⟨ho, hon, hin⟩, hB, ⟨he0, he1⟩, hz, hwr, hs0, hd⟩ := id hR
  have hLB : L ≤ 2048 := hC.2.2.2.2.2.2.2.2.2
  have hz7 : ∀ j, j < 8 → z j ≤ 127 := fun j hj => (hz j hj).elim (fun q => by omega) (fun q => q.2)
  by_cases hk9 : inR (xs (4 * n + 1)) 8
  · skip
    obtain ⟨k, hk8, e1⟩ := inR_of hk9 (by decide)
    by_cases hv9 : inR (xs (4 * n + 3)) 256
    · skip
      by_cases hi9 : inR (xs (4 * n + 2)) (z k)
      · skip
        have h7 := hz7 k hk8
        obtain ⟨i, hi, e2⟩ := inR_of hi9 (by omega)
        refine t_corrupt hC hn4 ad sa sb md op on inn pf K kn obf ibf ep nx ef tf gt sn z f rf wf sf dg kf otf mf se te epn nxf smf gtf snf wr wd mx k i ((xs (4 * n + 3)))  e1 e2 rfl (hk8) (hi) (h7) (hv9) (hk8) (hi) (h7) (hv9) hw hl (fun   H locs hw => hk H locs ⟨op, on, inn, pf, K, kn, obf, ibf, ep, nx, ef, tf, gt, sn, z, ((va_up f k (upd (f k) i ((xs (4 * n + 3)))))), rf, wf, sf, dg, kf, otf, mf, se, te, epn, nxf, smf, gtf, snf, (upd wr (128 * k + i) ((xs (4 * n + 3)))), wd, mx, hw, ?_⟩)
        refine ⟨⟨ho, hon, hin⟩, hB, ⟨Nat.le_succ_of_le he0, Nat.le_succ_of_le he1⟩, hz, fun q hq j hj => ?_, hs0, hd⟩
        have h8 := hz7 q hq
        by_cases e9 : q = k
        · subst e9
          rw [va_up_self]
          by_cases e8 : j = i
          · subst e8
            simp only [upd, if_true]
            exact ⟨trivial, B8_in hv9⟩
          · rw [upd_ne e8, upd_ne (by omega)]
            exact hwr q hq j hj
        · rw [va_up_ne _ _ e9, upd_ne (by omega)]
          exact hwr q hq j hj
      · skip
        refine t_corrupt_out hC hn4 ad sa sb md op on inn pf K kn obf ibf ep nx ef tf gt sn z f rf wf sf dg kf otf mf se te epn nxf smf gtf snf wr wd mx k ((xs (4 * n + 2))) ((xs (4 * n + 3)))  e1 rfl rfl (hk8) (out_of hi9) (hv9) (hk8) (hz7 k hk8) (fun q => hi9 q.1) hw hl (fun   H locs hw => hk H locs ⟨op, on, inn, pf, K, kn, obf, ibf, ep, nx, ef, tf, gt, sn, z, f, rf, wf, sf, dg, kf, otf, mf, se, te, epn, nxf, smf, gtf, snf, wr, wd, mx, hw, ?_⟩)
        exact REL_up hR
    · skip
      refine t_corrupt_bo hC hn4 ad sa sb md op on inn pf K kn obf ibf ep nx ef tf gt sn z f rf wf sf dg kf otf mf se te epn nxf smf gtf snf wr wd mx k ((xs (4 * n + 2))) ((xs (4 * n + 3)))  e1 rfl rfl (fun q => hv9 q.2) (hk8) (hz7 k hk8) (fun q => hv9 q.2) hw hl (fun   H locs hw => hk H locs ⟨op, on, inn, pf, K, kn, obf, ibf, ep, nx, ef, tf, gt, sn, z, f, rf, wf, sf, dg, kf, otf, mf, se, te, epn, nxf, smf, gtf, snf, wr, wd, mx, hw, ?_⟩)
      exact REL_up hR
  · skip
    refine t_corrupt_bad hC hn4 ad sa sb md op on inn pf K kn obf ibf ep nx ef tf gt sn z f rf wf sf dg kf otf mf se te epn nxf smf gtf snf wr wd mx ((xs (4 * n + 1))) ((xs (4 * n + 2))) ((xs (4 * n + 3)))  rfl rfl rfl (fun q => hk9 q.1) (hk9) hw hl (fun   H locs hw => hk H locs ⟨op, on, inn, pf, K, kn, obf, ibf, ep, nx, ef, tf, gt, sn, z, f, rf, wf, sf, dg, kf, otf, mf, se, te, epn, nxf, smf, gtf, snf, wr, wd, mx, hw, ?_⟩)
    exact REL_up hR

set_option maxHeartbeats 4000000 in
set_option maxRecDepth 100000 in
theorem k_drop {p : Program} {l : Launch} {e : Env} {s : State} {m : MethodId} {below : List Frame} {meth : Method} {c : Code} {b L n : Nat} {xs : Nat → Int32} {g : GE} {A : Nat → Prop} {Q : State → Prop} {H : Heap} {locs : List Loc} {ls : Array Slot} {ad sa sb md : Nat → Nat} (hC : LC p s m c b L xs g A) (hn4 : 4 * n + 4 ≤ L) (hI : LI g A s n ad sa sb md H locs) (hl : lv_has ls 4 [(3, .int (nI (4 * n))), (0, .ref b), (1, .ref (ad 0)), (2, .ref (md 25))]) (hk : ∀ (H : Heap) (locs : List Loc), LI g A s (n + 1) ad sa sb md H locs → W p l e room_1 s m #[Value.ref b] below meth c H locs 86 5159 Q (F0 m 415 ls [])) : W p l e room_1 s m #[Value.ref b] below meth c H locs 86 5159 Q (F0 m 313 ls []) := by
  obtain ⟨op, on, inn, pf, K, kn, obf, ibf, ep, nx, ef, tf, gt, sn, z, f, rf, wf, sf, dg, kf, otf, mf, se, te, epn, nxf, smf, gtf, snf, wr, wd, mx, hw, hR⟩ := hI
  obtain ⟨⟨ho, hon, hin⟩, hB, ⟨he0, he1⟩, hz, hwr, hs0, hd⟩ := id hR
  have hLB : L ≤ 2048 := hC.2.2.2.2.2.2.2.2.2
  have hz7 : ∀ j, j < 8 → z j ≤ 127 := fun j hj => (hz j hj).elim (fun q => by omega) (fun q => q.2)
  by_cases hk9 : inR (xs (4 * n + 1)) 8
  · skip
    obtain ⟨k, hk8, e1⟩ := inR_of hk9 (by decide)
    by_cases h : z k = 0
    · skip
      refine t_drop_empty hC hn4 ad sa sb md op on inn pf K kn obf ibf ep nx ef tf gt sn z f rf wf sf dg kf otf mf se te epn nxf smf gtf snf wr wd mx k  e1 (hk8) (h) (hk8) (h) hw hl (fun   H locs hw => hk H locs ⟨op, on, inn, pf, K, kn, obf, ibf, ep, nx, ef, tf, gt, sn, z, f, rf, wf, sf, dg, kf, otf, mf, se, te, epn, nxf, smf, gtf, snf, wr, wd, mx, hw, ?_⟩)
      exact REL_up hR
    · skip
      refine t_drop hC hn4 ad sa sb md op on inn pf K kn obf ibf ep nx ef tf gt sn z f rf wf sf dg kf otf mf se te epn nxf smf gtf snf wr wd mx k  e1 (hk8) (h) (hz7 k hk8) (hk8) (h) (hz7 k hk8) hw hl (fun   H locs hw => hk H locs ⟨op, on, inn, pf, K, kn, obf, ibf, ep, nx, ef, tf, gt, sn, ((va_up z k 0)), f, rf, wf, sf, dg, kf, otf, mf, se, te, epn, nxf, smf, gtf, snf, wr, wd, mx, hw, ?_⟩)
      refine ⟨⟨ho, hon, hin⟩, hB, ⟨Nat.le_succ_of_le he0, Nat.le_succ_of_le he1⟩, fun q hq => ?_, fun q hq j hj => ?_, hs0, hd⟩
      · by_cases e9 : q = k
        · rw [e9, va_up_self]; exact Or.inl rfl
        · rw [va_up_ne _ _ e9]; exact hz q hq
      · by_cases e9 : q = k
        · rw [e9, va_up_self] at hj; exact absurd hj (Nat.not_lt_zero j)
        · rw [va_up_ne _ _ e9] at hj; exact hwr q hq j hj
  · skip
    refine t_drop_bad hC hn4 ad sa sb md op on inn pf K kn obf ibf ep nx ef tf gt sn z f rf wf sf dg kf otf mf se te epn nxf smf gtf snf wr wd mx ((xs (4 * n + 1)))  rfl (hk9) (hk9) hw hl (fun   H locs hw => hk H locs ⟨op, on, inn, pf, K, kn, obf, ibf, ep, nx, ef, tf, gt, sn, z, f, rf, wf, sf, dg, kf, otf, mf, se, te, epn, nxf, smf, gtf, snf, wr, wd, mx, hw, ?_⟩)
    exact REL_up hR

set_option maxHeartbeats 4000000 in
set_option maxRecDepth 100000 in
theorem k_rekey {p : Program} {l : Launch} {e : Env} {s : State} {m : MethodId} {below : List Frame} {meth : Method} {c : Code} {b L n : Nat} {xs : Nat → Int32} {g : GE} {A : Nat → Prop} {Q : State → Prop} {H : Heap} {locs : List Loc} {ls : Array Slot} {ad sa sb md : Nat → Nat} (hC : LC p s m c b L xs g A) (hn4 : 4 * n + 4 ≤ L) (hI : LI g A s n ad sa sb md H locs) (hl : lv_has ls 4 [(3, .int (nI (4 * n))), (0, .ref b), (1, .ref (ad 0)), (2, .ref (md 25))]) (hk : ∀ (H : Heap) (locs : List Loc), LI g A s (n + 1) ad sa sb md H locs → W p l e room_1 s m #[Value.ref b] below meth c H locs 86 5159 Q (F0 m 415 ls [])) : W p l e room_1 s m #[Value.ref b] below meth c H locs 86 5159 Q (F0 m 336 ls []) := by
  obtain ⟨op, on, inn, pf, K, kn, obf, ibf, ep, nx, ef, tf, gt, sn, z, f, rf, wf, sf, dg, kf, otf, mf, se, te, epn, nxf, smf, gtf, snf, wr, wd, mx, hw, hR⟩ := hI
  obtain ⟨⟨ho, hon, hin⟩, hB, ⟨he0, he1⟩, hz, hwr, hs0, hd⟩ := id hR
  have hLB : L ≤ 2048 := hC.2.2.2.2.2.2.2.2.2
  have hz7 : ∀ j, j < 8 → z j ≤ 127 := fun j hj => (hz j hj).elim (fun q => by omega) (fun q => q.2)
  by_cases h : inR (xs (4 * n + 1)) 2 ∧ ¬ op = 0
  · skip
    obtain ⟨i, hi, e1⟩ := inR_of h.1 (by decide)
    obtain ⟨⟨f01, f02, f03, f04, f05, f06⟩, f11, f12, f13, f14, f15, f16⟩ := hd h.2
    rcases (show i = 0 ∨ i = 1 by omega) with rfl | rfl
    · skip
      refine t_rekey_0 hC hn4 ad sa sb md op on inn pf K kn obf ibf ep nx ef tf gt sn z f rf wf sf dg kf otf mf se te epn nxf smf gtf snf wr wd mx   e1 (h.2) (ho) (by omega) (h.2) (ho) (by decide) (by rw [f03]; omega) (by rw [f03]) hw hl (fun K2_4 kn2_5 r2_9 w2_10 s2_11 g2_12 k2_13 o2_14 m2_15  H locs hw => hk H locs ⟨op, on, inn, pf, (kL [K2_4 0, K 1, K 2, K 3, K 4, K 5, K2_4 6, K2_4 7, K2_4 8, K2_4 9, K2_4 10, K 11, K 12, K 13, K 14, K 15, K 16, K 17, K 18, K 19, K 20, K 21]), (nL [kn 0, kn2_5 1, kn 2, kn 3, kn 4]), obf, ibf, (p2 (ep 0 + 1) (ep 1)), (p2 (0) (nx 1)), (p2 (keyD (hmv (tf 0) (ef 0) 32) 0 0) (ef 1)), (p2 (keyD (hmv (tf 0) (ef 0) 32) 0 1) (tf 1)), (p2 (0) (gt 1)), (p2 (0) (sn 1)), z, f, r2_9, w2_10, s2_11, g2_12, k2_13, o2_14, m2_15, (laid se (32 * 0) (keyD (hmv (shf te (32 * 0)) (shf se (32 * 0)) 32) 0 0) 32), (laid te (32 * 0) (keyD (hmv (shf te (32 * 0)) (shf se (32 * 0)) 32) 0 1) 32), ((va_up epn 0 (epn 0 + 1))), (vp_updL nxf 0 0), (upd smf 0 (nI 0)), gtf, snf, wr, wd, mx, hw, ?_⟩)
      exact ⟨⟨ho, hon, hin⟩, hB, ⟨Nat.succ_le_succ he0, Nat.le_succ_of_le he1⟩, hz, hwr, fun q => absurd q h.2, fun _ => ⟨⟨(fun j hj => (shf_in (32 * 0) 32 j hj).trans (keyD_cong (hmv_cong f02 f01) 0 0 j hj)), (fun j hj => (shf_in (32 * 0) 32 j hj).trans (keyD_cong (hmv_cong f02 f01) 0 1 j hj)), congrArg (fun q : Nat => q + 1) f03, rfl, bI_F (fun q => q rfl), fun q => absurd rfl q⟩, ⟨(shf_out f11 (by decide)), (shf_out f12 (by decide)), f13, f14, f15, f16⟩⟩⟩
    · skip
      refine t_rekey_1 hC hn4 ad sa sb md op on inn pf K kn obf ibf ep nx ef tf gt sn z f rf wf sf dg kf otf mf se te epn nxf smf gtf snf wr wd mx   e1 (h.2) (ho) (by omega) (h.2) (ho) (by decide) (by rw [f13]; omega) (by rw [f13]) hw hl (fun K2_4 kn2_5 r2_9 w2_10 s2_11 g2_12 k2_13 o2_14 m2_15  H locs hw => hk H locs ⟨op, on, inn, pf, (kL [K2_4 0, K 1, K 2, K 3, K 4, K 5, K 6, K 7, K 8, K 9, K 10, K 11, K 12, K 13, K2_4 14, K2_4 15, K2_4 16, K2_4 17, K2_4 18, K 19, K 20, K 21]), (nL [kn 0, kn 1, kn 2, kn2_5 3, kn 4]), obf, ibf, (p2 (ep 0) (ep 1 + 1)), (p2 (nx 0) (0)), (p2 (ef 0) (keyD (hmv (tf 1) (ef 1) 32) 1 0)), (p2 (tf 0) (keyD (hmv (tf 1) (ef 1) 32) 1 1)), (p2 (gt 0) (0)), (p2 (sn 0) (0)), z, f, r2_9, w2_10, s2_11, g2_12, k2_13, o2_14, m2_15, (laid se (32 * 1) (keyD (hmv (shf te (32 * 1)) (shf se (32 * 1)) 32) 1 0) 32), (laid te (32 * 1) (keyD (hmv (shf te (32 * 1)) (shf se (32 * 1)) 32) 1 1) 32), ((va_up epn 1 (epn 1 + 1))), (vp_updL nxf 1 0), (upd smf 1 (nI 0)), gtf, snf, wr, wd, mx, hw, ?_⟩)
      exact ⟨⟨ho, hon, hin⟩, hB, ⟨Nat.le_succ_of_le he0, Nat.succ_le_succ he1⟩, hz, hwr, fun q => absurd q h.2, fun _ => ⟨⟨(shf_out f01 (by decide)), (shf_out f02 (by decide)), f03, f04, f05, f06⟩, ⟨(fun j hj => (shf_in (32 * 1) 32 j hj).trans (keyD_cong (hmv_cong f12 f11) 1 0 j hj)), (fun j hj => (shf_in (32 * 1) 32 j hj).trans (keyD_cong (hmv_cong f12 f11) 1 1 j hj)), congrArg (fun q : Nat => q + 1) f13, rfl, bI_F (fun q => q rfl), fun q => absurd rfl q⟩⟩⟩
  · skip
    refine t_rekey_bad hC hn4 ad sa sb md op on inn pf K kn obf ibf ep nx ef tf gt sn z f rf wf sf dg kf otf mf se te epn nxf smf gtf snf wr wd mx ((xs (4 * n + 1)))  rfl (ho) (h) (ho) (h) hw hl (fun   H locs hw => hk H locs ⟨op, on, inn, pf, K, kn, obf, ibf, ep, nx, ef, tf, gt, sn, z, f, rf, wf, sf, dg, kf, otf, mf, se, te, epn, nxf, smf, gtf, snf, wr, wd, mx, hw, ?_⟩)
    exact REL_up hR

set_option maxHeartbeats 4000000 in
set_option maxRecDepth 100000 in
theorem k_wireAt {p : Program} {l : Launch} {e : Env} {s : State} {m : MethodId} {below : List Frame} {meth : Method} {c : Code} {b L n : Nat} {xs : Nat → Int32} {g : GE} {A : Nat → Prop} {Q : State → Prop} {H : Heap} {locs : List Loc} {ls : Array Slot} {ad sa sb md : Nat → Nat} (hC : LC p s m c b L xs g A) (hn4 : 4 * n + 4 ≤ L) (hI : LI g A s n ad sa sb md H locs) (hl : lv_has ls 4 [(3, .int (nI (4 * n))), (0, .ref b), (1, .ref (ad 0)), (2, .ref (md 25))]) (hk : ∀ (H : Heap) (locs : List Loc), LI g A s (n + 1) ad sa sb md H locs → W p l e room_1 s m #[Value.ref b] below meth c H locs 86 5159 Q (F0 m 415 ls [])) : W p l e room_1 s m #[Value.ref b] below meth c H locs 86 5159 Q (F0 m 359 ls []) := by
  obtain ⟨op, on, inn, pf, K, kn, obf, ibf, ep, nx, ef, tf, gt, sn, z, f, rf, wf, sf, dg, kf, otf, mf, se, te, epn, nxf, smf, gtf, snf, wr, wd, mx, hw, hR⟩ := hI
  obtain ⟨⟨ho, hon, hin⟩, hB, ⟨he0, he1⟩, hz, hwr, hs0, hd⟩ := id hR
  have hLB : L ≤ 2048 := hC.2.2.2.2.2.2.2.2.2
  have hz7 : ∀ j, j < 8 → z j ≤ 127 := fun j hj => (hz j hj).elim (fun q => by omega) (fun q => q.2)
  by_cases hk9 : inR (xs (4 * n + 1)) 8
  · skip
    obtain ⟨k, hk8, e1⟩ := inR_of hk9 (by decide)
    by_cases hi9 : inR (xs (4 * n + 2)) (z k)
    · skip
      have h7 := hz7 k hk8
      obtain ⟨i, hi, e2⟩ := inR_of hi9 (by omega)
      refine t_wireAt hC hn4 ad sa sb md op on inn pf K kn obf ibf ep nx ef tf gt sn z f rf wf sf dg kf otf mf se te epn nxf smf gtf snf wr wd mx k i  e1 e2 (hk8) (hi) (h7) (hk8) (hi) (h7) (((hwr k hk8 i hi).1).symm) hw hl (fun   H locs hw => hk H locs ⟨op, on, inn, pf, K, kn, obf, ibf, ep, nx, ef, tf, gt, sn, z, f, rf, wf, sf, dg, kf, otf, mf, se, te, epn, nxf, smf, gtf, snf, wr, wd, mx, hw, ?_⟩)
      exact REL_up hR
    · skip
      refine t_wireAt_out hC hn4 ad sa sb md op on inn pf K kn obf ibf ep nx ef tf gt sn z f rf wf sf dg kf otf mf se te epn nxf smf gtf snf wr wd mx k ((xs (4 * n + 2)))  e1 rfl (hk8) (out_of hi9) (hk8) (out_of hi9) (hz7 k hk8) hw hl (fun   H locs hw => hk H locs ⟨op, on, inn, pf, K, kn, obf, ibf, ep, nx, ef, tf, gt, sn, z, f, rf, wf, sf, dg, kf, otf, mf, se, te, epn, nxf, smf, gtf, snf, wr, wd, mx, hw, ?_⟩)
      exact REL_up hR
  · skip
    refine t_wireAt_bad hC hn4 ad sa sb md op on inn pf K kn obf ibf ep nx ef tf gt sn z f rf wf sf dg kf otf mf se te epn nxf smf gtf snf wr wd mx ((xs (4 * n + 1))) ((xs (4 * n + 2)))  rfl rfl (hk9) (hk9) hw hl (fun   H locs hw => hk H locs ⟨op, on, inn, pf, K, kn, obf, ibf, ep, nx, ef, tf, gt, sn, z, f, rf, wf, sf, dg, kf, otf, mf, se, te, epn, nxf, smf, gtf, snf, wr, wd, mx, hw, ?_⟩)
    exact REL_up hR
