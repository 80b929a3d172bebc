set_option maxHeartbeats 4000000 in
set_option maxRecDepth 100000 in
theorem k_count {p : Program} {l : Launch} {e : Env} {s : State} {m : MethodId} {below : List Frame} {meth : Method} {c : Code} {b L n : Nat} {xs : Nat → Int32} {g : GE} {A : Nat → Prop} {Q : State → Prop} {H : Heap} {locs : List Loc} {ls : Array Slot} {ad sa sb md : Nat → Nat} (hC : LC p s m c b L xs g A) (hn4 : 4 * n + 4 ≤ L) (hI : LI g A s n ad sa sb md H locs) (hl : lv_has ls 4 [(3, .int (nI (4 * n))), (0, .ref b), (1, .ref (ad 0)), (2, .ref (md 25))]) (hk : ∀ (H : Heap) (locs : List Loc), LI g A s (n + 1) ad sa sb md H locs → W p l e room_1 s m #[Value.ref b] below meth c H locs 86 5159 Q (F0 m 415 ls [])) : W p l e room_1 s m #[Value.ref b] below meth c H locs 86 5159 Q (F0 m 392 ls []) := by
  obtain ⟨op, on, inn, pf, K, kn, obf, ibf, ep, nx, ef, tf, gt, sn, z, f, rf, wf, sf, dg, kf, otf, mf, se, te, epn, nxf, smf, gtf, snf, wr, wd, mx, hw, hR⟩ := hI
  obtain ⟨⟨ho, hon, hin⟩, hB, ⟨he0, he1⟩, hz, hwr, hs0, hd⟩ := id hR
  have hLB : L ≤ 2048 := hC.2.2.2.2.2.2.2.2.2
  have hz7 : ∀ j, j < 8 → z j ≤ 127 := fun j hj => (hz j hj).elim (fun q => by omega) (fun q => q.2)
  by_cases h : inR (xs (4 * n + 1)) 6
  · skip
    obtain ⟨i, hi, e1⟩ := inR_of h (by decide)
    rcases (show i = 0 ∨ i = 1 ∨ i = 2 ∨ i = 3 ∨ i = 4 ∨ i = 5 by omega) with rfl | rfl | rfl | rfl | rfl | rfl
    · skip
      refine t_count_0 hC hn4 ad sa sb md op on inn pf K kn obf ibf ep nx ef tf gt sn z f rf wf sf dg kf otf mf se te epn nxf smf gtf snf wr wd mx   e1 (hz7) (hz7) hw hl (fun   H locs hw => hk H locs ⟨op, on, inn, pf, K, kn, obf, ibf, ep, nx, ef, tf, gt, sn, z, f, rf, wf, sf, dg, kf, otf, mf, se, te, epn, nxf, smf, gtf, snf, wr, wd, mx, hw, ?_⟩)
      exact REL_up hR
    · skip
      refine t_count_1 hC hn4 ad sa sb md op on inn pf K kn obf ibf ep nx ef tf gt sn z f rf wf sf dg kf otf mf se te epn nxf smf gtf snf wr wd mx   e1  hw hl (fun   H locs hw => hk H locs ⟨op, on, inn, pf, K, kn, obf, ibf, ep, nx, ef, tf, gt, sn, z, f, rf, wf, sf, dg, kf, otf, mf, se, te, epn, nxf, smf, gtf, snf, wr, wd, mx, hw, ?_⟩)
      exact REL_up hR
    · skip
      by_cases hc : op = 0
      · skip
        refine t_count_c2 hC hn4 ad sa sb md op on inn pf K kn obf ibf ep nx ef tf gt sn z f rf wf sf dg kf otf mf se te epn nxf smf gtf snf wr wd mx   e1 (hc) (hc) hw hl (fun   H locs hw => hk H locs ⟨op, on, inn, pf, K, kn, obf, ibf, ep, nx, ef, tf, gt, sn, z, f, rf, wf, sf, dg, kf, otf, mf, se, te, epn, nxf, smf, gtf, snf, wr, wd, mx, hw, ?_⟩)
        exact REL_up hR
      · skip
        refine t_count_2 hC hn4 ad sa sb md op on inn pf K kn obf ibf ep nx ef tf gt sn z f rf wf sf dg kf otf mf se te epn nxf smf gtf snf wr wd mx   e1 (hc) (ho) (hc) (ho) (by rw [(hd hc).1.2.2.1]) hw hl (fun   H locs hw => hk H locs ⟨op, on, inn, pf, K, kn, obf, ibf, ep, nx, ef, tf, gt, sn, z, f, rf, wf, sf, dg, kf, otf, mf, se, te, epn, nxf, smf, gtf, snf, wr, wd, mx, hw, ?_⟩)
        exact REL_up hR
    · skip
      by_cases hc : op = 0
      · skip
        refine t_count_c3 hC hn4 ad sa sb md op on inn pf K kn obf ibf ep nx ef tf gt sn z f rf wf sf dg kf otf mf se te epn nxf smf gtf snf wr wd mx   e1 (hc) (hc) hw hl (fun   H locs hw => hk H locs ⟨op, on, inn, pf, K, kn, obf, ibf, ep, nx, ef, tf, gt, sn, z, f, rf, wf, sf, dg, kf, otf, mf, se, te, epn, nxf, smf, gtf, snf, wr, wd, mx, hw, ?_⟩)
        exact REL_up hR
      · skip
        refine t_count_3 hC hn4 ad sa sb md op on inn pf K kn obf ibf ep nx ef tf gt sn z f rf wf sf dg kf otf mf se te epn nxf smf gtf snf wr wd mx   e1 (hc) (ho) (hc) (ho) (by rw [(hd hc).2.2.2.1]) hw hl (fun   H locs hw => hk H locs ⟨op, on, inn, pf, K, kn, obf, ibf, ep, nx, ef, tf, gt, sn, z, f, rf, wf, sf, dg, kf, otf, mf, se, te, epn, nxf, smf, gtf, snf, wr, wd, mx, hw, ?_⟩)
        exact REL_up hR
    · skip
      by_cases hc : op = 0
      · skip
        refine t_count_z4 hC hn4 ad sa sb md op on inn pf K kn obf ibf ep nx ef tf gt sn z f rf wf sf dg kf otf mf se te epn nxf smf gtf snf wr wd mx   e1 (ho) (Or.inl hc) (by rw [(hs0 hc).1]; exact bitC_0) hw hl (fun   H locs hw => hk H locs ⟨op, on, inn, pf, K, kn, obf, ibf, ep, nx, ef, tf, gt, sn, z, f, rf, wf, sf, dg, kf, otf, mf, se, te, epn, nxf, smf, gtf, snf, wr, wd, mx, hw, ?_⟩)
        exact REL_up hR
      · skip
        obtain ⟨-, -, -, -, f5, f6⟩ := (hd hc).1
        by_cases hs : sn 0 = 0
        · skip
          refine t_count_z4 hC hn4 ad sa sb md op on inn pf K kn obf ibf ep nx ef tf gt sn z f rf wf sf dg kf otf mf se te epn nxf smf gtf snf wr wd mx   e1 (ho) (Or.inr (sm_0 f5 hs)) (by rw [hs]; exact bitC_0) hw hl (fun   H locs hw => hk H locs ⟨op, on, inn, pf, K, kn, obf, ibf, ep, nx, ef, tf, gt, sn, z, f, rf, wf, sf, dg, kf, otf, mf, se, te, epn, nxf, smf, gtf, snf, wr, wd, mx, hw, ?_⟩)
          exact REL_up hR
        · skip
          refine t_count_4 hC hn4 ad sa sb md op on inn pf K kn obf ibf ep nx ef tf gt sn z f rf wf sf dg kf otf mf se te epn nxf smf gtf snf wr wd mx   e1 (hc) (ho) (sm_1 f5 hs) (bitC_rel (f6 hs).2) hw hl (fun   H locs hw => hk H locs ⟨op, on, inn, pf, K, kn, obf, ibf, ep, nx, ef, tf, gt, sn, z, f, rf, wf, sf, dg, kf, otf, mf, se, te, epn, nxf, smf, gtf, snf, wr, wd, mx, hw, ?_⟩)
          exact REL_up hR
    · skip
      by_cases hc : op = 0
      · skip
        refine t_count_z5 hC hn4 ad sa sb md op on inn pf K kn obf ibf ep nx ef tf gt sn z f rf wf sf dg kf otf mf se te epn nxf smf gtf snf wr wd mx   e1 (ho) (Or.inl hc) (by rw [(hs0 hc).2]; exact bitC_0) hw hl (fun   H locs hw => hk H locs ⟨op, on, inn, pf, K, kn, obf, ibf, ep, nx, ef, tf, gt, sn, z, f, rf, wf, sf, dg, kf, otf, mf, se, te, epn, nxf, smf, gtf, snf, wr, wd, mx, hw, ?_⟩)
        exact REL_up hR
      · skip
        obtain ⟨-, -, -, -, f5, f6⟩ := (hd hc).2
        by_cases hs : sn 1 = 0
        · skip
          refine t_count_z5 hC hn4 ad sa sb md op on inn pf K kn obf ibf ep nx ef tf gt sn z f rf wf sf dg kf otf mf se te epn nxf smf gtf snf wr wd mx   e1 (ho) (Or.inr (sm_0 f5 hs)) (by rw [hs]; exact bitC_0) hw hl (fun   H locs hw => hk H locs ⟨op, on, inn, pf, K, kn, obf, ibf, ep, nx, ef, tf, gt, sn, z, f, rf, wf, sf, dg, kf, otf, mf, se, te, epn, nxf, smf, gtf, snf, wr, wd, mx, hw, ?_⟩)
          exact REL_up hR
        · skip
          refine t_count_5 hC hn4 ad sa sb md op on inn pf K kn obf ibf ep nx ef tf gt sn z f rf wf sf dg kf otf mf se te epn nxf smf gtf snf wr wd mx   e1 (hc) (ho) (sm_1 f5 hs) (bitC_rel (f6 hs).2) hw hl (fun   H locs hw => hk H locs ⟨op, on, inn, pf, K, kn, obf, ibf, ep, nx, ef, tf, gt, sn, z, f, rf, wf, sf, dg, kf, otf, mf, se, te, epn, nxf, smf, gtf, snf, wr, wd, mx, hw, ?_⟩)
          exact REL_up hR
  · skip
    refine t_count_bad hC hn4 ad sa sb md op on inn pf K kn obf ibf ep nx ef tf gt sn z f rf wf sf dg kf otf mf se te epn nxf smf gtf snf wr wd mx ((xs (4 * n + 1)))  rfl (out_6 h) (out_6 h) hw hl (fun   H locs hw => hk H locs ⟨op, on, inn, pf, K, kn, obf, ibf, ep, nx, ef, tf, gt, sn, z, f, rf, wf, sf, dg, kf, otf, mf, se, te, epn, nxf, smf, gtf, snf, wr, wd, mx, hw, ?_⟩)
    exact REL_up hR
