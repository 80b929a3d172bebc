set_option maxHeartbeats 4000000 in
set_option maxRecDepth 100000 in
theorem k_deliver0 {p : Program} {l : Launch} {e : Env} {s : State} {m : MethodId} {below : List Frame} {meth : Method} {c : Code} {b L n : Nat} {xs : Nat → Int32} {g : GE} {A : Nat → Prop} {Q : State → Prop} {H : Heap} {locs : List Loc} {ls : Array Slot} {ad sa sb md : Nat → Nat} (hC : LC p s m c b L xs g A) (hn4 : 4 * n + 4 ≤ L) (hI : LI g A s n ad sa sb md H locs) (hl : lv_has ls 4 [(3, .int (nI (4 * n))), (0, .ref b), (1, .ref (ad 0)), (2, .ref (md 25))]) (hk : ∀ (H : Heap) (locs : List Loc), LI g A s (n + 1) ad sa sb md H locs → W p l e room_1 s m #[Value.ref b] below meth c H locs 86 5159 Q (F0 m 415 ls [])) (k : Nat) (hk8 : k < 8) (e1 : xs (4 * n + 1) = nI k) (e2 : xs (4 * n + 2) = nI 1) : W p l e room_1 s m #[Value.ref b] below meth c H locs 86 5159 Q (F0 m 201 ls []) := by
  obtain ⟨op, on, inn, pf, K, kn, obf, ibf, ep, nx, ef, tf, gt, sn, z, f, rf, wf, sf, dg, kf, otf, mf, se, te, epn, nxf, smf, gtf, snf, wr, wd, mx, hw, hR⟩ := hI
  obtain ⟨⟨ho, hon, hin⟩, hB, ⟨he0, he1⟩, hz, hwr, hs0, hd⟩ := id hR
  have hLB : L ≤ 2048 := hC.2.2.2.2.2.2.2.2.2
  have hz7 : ∀ j, j < 8 → z j ≤ 127 := fun j hj => (hz j hj).elim (fun q => by omega) (fun q => q.2)
  by_cases h : op = 0
  · skip
    refine t_deliver_b3 hC hn4 ad sa sb md op on inn pf K kn obf ibf ep nx ef tf gt sn z f rf wf sf dg kf otf mf se te epn nxf smf gtf snf wr wd mx k ((xs (4 * n + 2)))  e1 rfl (ho) (fun q => q.2.2 h) (hk8) (hz7 k hk8) (ho) (fun q => q.2 h) hw hl (fun   H locs hw => hk H locs ⟨op, on, inn, pf, K, kn, obf, ibf, ep, nx, ef, tf, gt, sn, z, f, rf, wf, sf, dg, kf, otf, mf, se, te, epn, nxf, smf, gtf, snf, wr, wd, mx, hw, ?_⟩)
    exact REL_up hR
  · skip
    obtain ⟨D0, D1⟩ := hd h
    obtain ⟨f1, f2, f3, f4, f5, f6⟩ := id D0
    rcases hz k hk8 with hz0 | ⟨hz1, hz2⟩
    · skip
      refine t_deliver_empty0 hC hn4 ad sa sb md op on inn pf K kn obf ibf ep nx ef tf gt sn z f rf wf sf dg kf otf mf se te epn nxf smf gtf snf wr wd mx k  e1 e2 (h) (ho) (hk8) (hz0) (hk8) (hz0) hw hl (fun   H locs hw => hk H locs ⟨op, on, inn, pf, K, kn, obf, ibf, ep, nx, ef, tf, gt, sn, z, f, rf, wf, sf, dg, kf, otf, mf, se, te, epn, nxf, smf, gtf, snf, wr, wd, mx, hw, ?_⟩)
      exact REL_up hR
    · skip
      by_cases hsh : shpOK (f k) (z k) 0
      · skip
        have hln := shp_ln hsh hz1
        by_cases h3 : (nAt (f k) 1 4).toInt32 = nI (ep 0)
        · skip
          have e16 : z k - 16 = 15 + (z k - 31) := by omega
          by_cases h4 : tagOK (f k) (hmv (tf 0) (f k) (z k - 16)) (z k - 16)
          · skip
            by_cases hs : sn 0 = 0
            · skip
              have hno := not_seen0 (gt := gt 0) (n := (nAt (f k) 5 8)) hs
              have hj := jud_0 (tk := tf 0) (gt := gt 0) (sn := sn 0) hsh h3 h4 (fun q => q.1 hs) hno
              refine t_deliver_0b0 hC hn4 ad sa sb md op on inn pf K kn obf ibf ep nx ef tf gt sn z f rf wf sf dg kf otf mf se te epn nxf smf gtf snf wr wd mx k (z k - 31) e1 e2 (h) (ho) (hk8) (hz1) (hz2) (hj) (hln) (by omega) (by omega) (h) (ho) (hk8) (hz1) (hz2) (fun j hj => (hwr k hk8 j hj).1) (fun j hj => (hwr k hk8 j hj).2) (hsh.1) (hln) (by omega) (by omega) (by rw [f3]; exact (ep_iff (by omega)).mp h3) (f2) (f1) (by rw [← e16]; exact h4) (Or.inl (sm_0 f5 hs)) (Or.inl (sm_0 f5 hs)) (by rw [hj]) hw hl (fun K2_4 kn2_5 r2_9 w2_10 s2_11 g2_12 k2_13 m2_14 wd2_15 mx2_16  H locs hw => hk H locs ⟨op, on, (z k - 31), pf, (kL [K 0, K 1, K 2, K 3, K 4, K 5, K2_4 6, K2_4 7, K2_4 8, K2_4 9, K2_4 10, K2_4 11, K2_4 12, K2_4 13, K 14, K 15, K 16, K 17, K 18, K 19, K 20, K 21]), (nL [kn 0, kn2_5 1, kn2_5 2, kn 3, kn 4]), obf, (rdF ibf (f k) (ef 0) (z k - 31)), ep, nx, ef, tf, (p2 ((wMark (gt 0) (sn 0) (nAt (f k) 5 8)).1) (gt 1)), (p2 ((wMark (gt 0) (sn 0) (nAt (f k) 5 8)).2) (sn 1)), z, f, r2_9, w2_10, s2_11, g2_12, k2_13, otf, m2_14, se, te, epn, nxf, (upd smf 0 (nI 1)), (vp_updL gtf 0 (nAt (f k) 5 8)), (upd (shM snf 0 64 0) (0 + 0) (nI 1)), wr, wd2_15, mx2_16, hw, ?_⟩)
              exact ⟨⟨ho, hon, by omega⟩, hB, ⟨Nat.le_succ_of_le he0, Nat.le_succ_of_le he1⟩, hz, hwr, fun q => absurd q h, fun _ => ⟨RD_b D0 (wMark_0 hs), RD_far D1 (fun q hq => upd_sh_ne (by omega) (by omega))⟩⟩
            · skip
              obtain ⟨hg, hW⟩ := f6 hs
              by_cases hl9 : lowU (gt 0) (nAt (f k) 5 8)
              · skip
                have hj := jud_0 (tk := tf 0) (gt := gt 0) (sn := sn 0) hsh h3 h4 (fun q => q.2.1 hl9) (fun q => q.1 hl9)
                by_cases hf : fit64 ((nAt (f k) 5 8) - gt 0)
                · skip
                  obtain ⟨bb, hb64, ebb⟩ := fit_num hf
                  refine t_deliver_0c0 hC hn4 ad sa sb md op on inn pf K kn obf ibf ep nx ef tf gt sn z f rf wf sf dg kf otf mf se te epn nxf smf gtf snf wr wd mx k (z k - 31) bb e1 e2 (h) (ho) (hk8) (hz1) (hz2) (hj) (hln) (by omega) (by omega) (h) (ho) (hk8) (hz1) (hz2) (fun j hj => (hwr k hk8 j hj).1) (fun j hj => (hwr k hk8 j hj).2) (hsh.1) (hln) (by omega) (by omega) (by rw [f3]; exact (ep_iff (by omega)).mp h3) (f2) (f1) (by rw [← e16]; exact h4) (sm_1 f5 hs) (by rw [hg]; exact hl9) (by rw [hg]; exact (fit_low _).mpr hf) (by rw [hg]; exact ebb) (hb64) (by rw [hj]) hw hl (fun K2_4 kn2_5 r2_9 w2_10 s2_11 g2_12 k2_13 m2_14 wd2_15 mx2_16  H locs hw => hk H locs ⟨op, on, (z k - 31), pf, (kL [K 0, K 1, K 2, K 3, K 4, K 5, K2_4 6, K2_4 7, K2_4 8, K2_4 9, K2_4 10, K2_4 11, K2_4 12, K2_4 13, K 14, K 15, K 16, K 17, K 18, K 19, K 20, K 21]), (nL [kn 0, kn2_5 1, kn2_5 2, kn 3, kn 4]), obf, (rdF ibf (f k) (ef 0) (z k - 31)), ep, nx, ef, tf, (p2 ((wMark (gt 0) (sn 0) (nAt (f k) 5 8)).1) (gt 1)), (p2 ((wMark (gt 0) (sn 0) (nAt (f k) 5 8)).2) (sn 1)), z, f, r2_9, w2_10, s2_11, g2_12, k2_13, otf, m2_14, se, te, epn, nxf, (upd smf 0 (nI 1)), (vp_updL gtf 0 (nAt (f k) 5 8)), (upd (shM snf 0 bb 0) (0 + 0) (nI 1)), wr, wd2_15, mx2_16, hw, ?_⟩)
                  exact ⟨⟨ho, hon, by omega⟩, hB, ⟨Nat.le_succ_of_le he0, Nat.le_succ_of_le he1⟩, hz, hwr, fun q => absurd q h, fun _ => ⟨RD_c D0 hs hl9 ebb hb64 hf, RD_far D1 (fun q hq => upd_sh_ne (by omega) (by omega))⟩⟩
                · skip
                  refine t_deliver_0b0 hC hn4 ad sa sb md op on inn pf K kn obf ibf ep nx ef tf gt sn z f rf wf sf dg kf otf mf se te epn nxf smf gtf snf wr wd mx k (z k - 31) e1 e2 (h) (ho) (hk8) (hz1) (hz2) (hj) (hln) (by omega) (by omega) (h) (ho) (hk8) (hz1) (hz2) (fun j hj => (hwr k hk8 j hj).1) (fun j hj => (hwr k hk8 j hj).2) (hsh.1) (hln) (by omega) (by omega) (by rw [f3]; exact (ep_iff (by omega)).mp h3) (f2) (f1) (by rw [← e16]; exact h4) (Or.inr (by rw [hg]; exact hl9)) (Or.inr (by rw [hg]; exact fun q => hf ((fit_low _).mp q))) (by rw [hj]) hw hl (fun K2_4 kn2_5 r2_9 w2_10 s2_11 g2_12 k2_13 m2_14 wd2_15 mx2_16  H locs hw => hk H locs ⟨op, on, (z k - 31), pf, (kL [K 0, K 1, K 2, K 3, K 4, K 5, K2_4 6, K2_4 7, K2_4 8, K2_4 9, K2_4 10, K2_4 11, K2_4 12, K2_4 13, K 14, K 15, K 16, K 17, K 18, K 19, K 20, K 21]), (nL [kn 0, kn2_5 1, kn2_5 2, kn 3, kn 4]), obf, (rdF ibf (f k) (ef 0) (z k - 31)), ep, nx, ef, tf, (p2 ((wMark (gt 0) (sn 0) (nAt (f k) 5 8)).1) (gt 1)), (p2 ((wMark (gt 0) (sn 0) (nAt (f k) 5 8)).2) (sn 1)), z, f, r2_9, w2_10, s2_11, g2_12, k2_13, otf, m2_14, se, te, epn, nxf, (upd smf 0 (nI 1)), (vp_updL gtf 0 (nAt (f k) 5 8)), (upd (shM snf 0 64 0) (0 + 0) (nI 1)), wr, wd2_15, mx2_16, hw, ?_⟩)
                  exact ⟨⟨ho, hon, by omega⟩, hB, ⟨Nat.le_succ_of_le he0, Nat.le_succ_of_le he1⟩, hz, hwr, fun q => absurd q h, fun _ => ⟨RD_b D0 (wMark_b hs hl9 hf), RD_far D1 (fun q hq => upd_sh_ne (by omega) (by omega))⟩⟩
              · skip
                by_cases hf : fit64 (gt 0 - (nAt (f k) 5 8))
                · skip
                  obtain ⟨qq, hq64, eqq⟩ := fit_num hf
                  by_cases ht : tb (sn 0) qq = true
                  · skip
                    have hj := jud_6 (tk := tf 0) (gt := gt 0) (sn := sn 0) hsh h3 h4 (fun q => q.2.2 hf) ⟨hl9, hf, (seen_iff eqq hq64).mpr ht⟩
                    refine t_deliver_60 hC hn4 ad sa sb md op on inn pf K kn obf ibf ep nx ef tf gt sn z f rf wf sf dg kf otf mf se te epn nxf smf gtf snf wr wd mx k (z k - 31) qq e1 e2 (h) (ho) (hk8) (hz1) (hz2) (by rw [hj]; decide) (h) (ho) (hk8) (hz1) (hz2) (fun j hj => (hwr k hk8 j hj).1) (fun j hj => (hwr k hk8 j hj).2) (hsh.1) (hln) (by omega) (by omega) (by rw [f3]; exact (ep_iff (by omega)).mp h3) (f2) (f1) (by rw [← e16]; exact h4) (sm_1 f5 hs) (by rw [hg]; exact hl9) (by rw [hg]; exact (fit_low _).mpr hf) (by rw [hg, eqq]; exact lN_i qq) (hq64) (fun q => absurd ((hW qq hq64).symm.trans q) (by rw [ht]; decide +kernel)) (by rw [hj]) hw hl (fun K2_4 kn2_5 r2_9 w2_10 s2_11 g2_12 k2_13 m2_14  H locs hw => hk H locs ⟨op, on, inn, pf, (kL [K 0, K 1, K 2, K 3, K 4, K 5, K2_4 6, K2_4 7, K2_4 8, K2_4 9, K2_4 10, K2_4 11, K2_4 12, K2_4 13, K 14, K 15, K 16, K 17, K 18, K 19, K 20, K 21]), (nL [kn 0, kn2_5 1, kn2_5 2, kn 3, kn 4]), obf, ibf, ep, nx, ef, tf, gt, sn, z, f, r2_9, w2_10, s2_11, g2_12, k2_13, otf, m2_14, se, te, epn, nxf, smf, gtf, snf, wr, wd, mx, hw, ?_⟩)
                    exact REL_up hR
                  · skip
                    have hj := jud_0 (tk := tf 0) (gt := gt 0) (sn := sn 0) hsh h3 h4 (fun q => q.2.2 hf) (fun q => ht ((seen_iff eqq hq64).mp q.2.2))
                    refine t_deliver_0a0 hC hn4 ad sa sb md op on inn pf K kn obf ibf ep nx ef tf gt sn z f rf wf sf dg kf otf mf se te epn nxf smf gtf snf wr wd mx k (z k - 31) qq e1 e2 (h) (ho) (hk8) (hz1) (hz2) (hj) (hln) (by omega) (by omega) (h) (ho) (hk8) (hz1) (hz2) (fun j hj => (hwr k hk8 j hj).1) (fun j hj => (hwr k hk8 j hj).2) (hsh.1) (hln) (by omega) (by omega) (by rw [f3]; exact (ep_iff (by omega)).mp h3) (f2) (f1) (by rw [← e16]; exact h4) (sm_1 f5 hs) (by rw [hg]; exact hl9) (by rw [hg]; exact (fit_low _).mpr hf) (by rw [hg, eqq]; exact lN_i qq) (hq64) ((hW qq hq64).trans (by rw [Bool.eq_false_iff.mpr ht]; decide +kernel)) (by rw [hj]) hw hl (fun K2_4 kn2_5 r2_9 w2_10 s2_11 g2_12 k2_13 m2_14 wd2_15 mx2_16  H locs hw => hk H locs ⟨op, on, (z k - 31), pf, (kL [K 0, K 1, K 2, K 3, K 4, K 5, K2_4 6, K2_4 7, K2_4 8, K2_4 9, K2_4 10, K2_4 11, K2_4 12, K2_4 13, K 14, K 15, K 16, K 17, K 18, K 19, K 20, K 21]), (nL [kn 0, kn2_5 1, kn2_5 2, kn 3, kn 4]), obf, (rdF ibf (f k) (ef 0) (z k - 31)), ep, nx, ef, tf, (p2 ((wMark (gt 0) (sn 0) (nAt (f k) 5 8)).1) (gt 1)), (p2 ((wMark (gt 0) (sn 0) (nAt (f k) 5 8)).2) (sn 1)), z, f, r2_9, w2_10, s2_11, g2_12, k2_13, otf, m2_14, se, te, epn, nxf, smf, gtf, (upd snf (0 + qq) (nI 1)), wr, wd2_15, mx2_16, hw, ?_⟩)
                    exact ⟨⟨ho, hon, by omega⟩, hB, ⟨Nat.le_succ_of_le he0, Nat.le_succ_of_le he1⟩, hz, hwr, fun q => absurd q h, fun _ => ⟨RD_a D0 hs hl9 eqq hq64 hf, RD_far D1 (fun q hq => upd_ne (by omega))⟩⟩
                · skip
                  have hj := jud_5 (tk := tf 0) (gt := gt 0) (sn := sn 0) hsh h3 h4 ⟨hs, hl9, hf⟩
                  refine t_deliver_50 hC hn4 ad sa sb md op on inn pf K kn obf ibf ep nx ef tf gt sn z f rf wf sf dg kf otf mf se te epn nxf smf gtf snf wr wd mx k (z k - 31) e1 e2 (h) (ho) (hk8) (hz1) (hz2) (by rw [hj]; decide) (h) (ho) (hk8) (hz1) (hz2) (fun j hj => (hwr k hk8 j hj).1) (fun j hj => (hwr k hk8 j hj).2) (hsh.1) (hln) (by omega) (by omega) (by rw [f3]; exact (ep_iff (by omega)).mp h3) (f2) (f1) (by rw [← e16]; exact h4) (sm_1 f5 hs) (by rw [hg]; exact hl9) (by rw [hg]; exact fun q => hf ((fit_low _).mp q)) (by rw [hj]) hw hl (fun K2_4 kn2_5 r2_9 w2_10 s2_11 g2_12 k2_13 m2_14  H locs hw => hk H locs ⟨op, on, inn, pf, (kL [K 0, K 1, K 2, K 3, K 4, K 5, K2_4 6, K2_4 7, K2_4 8, K2_4 9, K2_4 10, K2_4 11, K2_4 12, K2_4 13, K 14, K 15, K 16, K 17, K 18, K 19, K 20, K 21]), (nL [kn 0, kn2_5 1, kn2_5 2, kn 3, kn 4]), obf, ibf, ep, nx, ef, tf, gt, sn, z, f, r2_9, w2_10, s2_11, g2_12, k2_13, otf, m2_14, se, te, epn, nxf, smf, gtf, snf, wr, wd, mx, hw, ?_⟩)
                  exact REL_up hR
          · skip
            refine t_deliver_40 hC hn4 ad sa sb md op on inn pf K kn obf ibf ep nx ef tf gt sn z f rf wf sf dg kf otf mf se te epn nxf smf gtf snf wr wd mx k (z k - 31) e1 e2 (h) (ho) (hk8) (hz1) (hz2) (by rw [jud_4 hsh h3 h4]; decide) (h) (ho) (hk8) (hz1) (hz2) (fun j hj => (hwr k hk8 j hj).1) (fun j hj => (hwr k hk8 j hj).2) (hsh.1) (hln) (by omega) (by omega) (by rw [f3]; exact (ep_iff (by omega)).mp h3) (f2) (f1) (by rw [← e16]; exact h4) (by rw [jud_4 hsh h3 h4]) hw hl (fun K2_4 kn2_5 r2_9 w2_10 s2_11 g2_12 k2_13 m2_14  H locs hw => hk H locs ⟨op, on, inn, pf, (kL [K 0, K 1, K 2, K 3, K 4, K 5, K2_4 6, K2_4 7, K2_4 8, K2_4 9, K2_4 10, K2_4 11, K2_4 12, K2_4 13, K 14, K 15, K 16, K 17, K 18, K 19, K 20, K 21]), (nL [kn 0, kn2_5 1, kn2_5 2, kn 3, kn 4]), obf, ibf, ep, nx, ef, tf, gt, sn, z, f, r2_9, w2_10, s2_11, g2_12, k2_13, otf, m2_14, se, te, epn, nxf, smf, gtf, snf, wr, wd, mx, hw, ?_⟩)
            exact REL_up hR
        · skip
          refine t_deliver_30 hC hn4 ad sa sb md op on inn pf K kn obf ibf ep nx ef tf gt sn z f rf wf sf dg kf otf mf se te epn nxf smf gtf snf wr wd mx k (z k - 31) e1 e2 (h) (ho) (hk8) (hz1) (hz2) (by rw [jud_3 hsh h3]; decide) (h) (ho) (hk8) (hz1) (hz2) (fun j hj => (hwr k hk8 j hj).1) (fun j hj => (hwr k hk8 j hj).2) (hsh.1) (hln) (by omega) (by omega) (fun q => h3 ((ep_iff (by omega)).mpr (by rw [q, f3]))) (by rw [jud_3 hsh h3]) hw hl (fun K2_4 kn2_5  H locs hw => hk H locs ⟨op, on, inn, pf, (kL [K 0, K 1, K 2, K 3, K 4, K 5, K2_4 6, K2_4 7, K2_4 8, K2_4 9, K2_4 10, K2_4 11, K2_4 12, K2_4 13, K 14, K 15, K 16, K 17, K 18, K 19, K 20, K 21]), (nL [kn 0, kn2_5 1, kn2_5 2, kn 3, kn 4]), obf, ibf, ep, nx, ef, tf, gt, sn, z, f, rf, wf, sf, dg, kf, otf, mf, se, te, epn, nxf, smf, gtf, snf, wr, wd, mx, hw, ?_⟩)
          exact REL_up hR
      · skip
        refine t_deliver_20 hC hn4 ad sa sb md op on inn pf K kn obf ibf ep nx ef tf gt sn z f rf wf sf dg kf otf mf se te epn nxf smf gtf snf wr wd mx k  e1 e2 (h) (ho) (hk8) (hz1) (hz2) (by rw [jud_2 hsh]; decide) (h) (ho) (hk8) (hz1) (hz2) (fun j hj => (hwr k hk8 j hj).1) (fun j hj => (hwr k hk8 j hj).2) (hsh) (by rw [jud_2 hsh]) hw hl (fun K2_4 kn2_5  H locs hw => hk H locs ⟨op, on, inn, pf, (kL [K 0, K 1, K 2, K 3, K 4, K 5, K2_4 6, K2_4 7, K2_4 8, K2_4 9, K2_4 10, K2_4 11, K2_4 12, K2_4 13, K 14, K 15, K 16, K 17, K 18, K 19, K 20, K 21]), (nL [kn 0, kn2_5 1, kn2_5 2, kn 3, kn 4]), obf, ibf, ep, nx, ef, tf, gt, sn, z, f, rf, wf, sf, dg, kf, otf, mf, se, te, epn, nxf, smf, gtf, snf, wr, wd, mx, hw, ?_⟩)
        exact REL_up hR

set_option maxHeartbeats 4000000 in
set_option maxRecDepth 100000 in
theorem k_deliver1 {p : Program} {l : Launch} {e : Env} {s : State} {m : MethodId} {below : List Frame} {meth : Method} {c : Code} {b L n : Nat} {xs : Nat → Int32} {g : GE} {A : Nat → Prop} {Q : State → Prop} {H : Heap} {locs : List Loc} {ls : Array Slot} {ad sa sb md : Nat → Nat} (hC : LC p s m c b L xs g A) (hn4 : 4 * n + 4 ≤ L) (hI : LI g A s n ad sa sb md H locs) (hl : lv_has ls 4 [(3, .int (nI (4 * n))), (0, .ref b), (1, .ref (ad 0)), (2, .ref (md 25))]) (hk : ∀ (H : Heap) (locs : List Loc), LI g A s (n + 1) ad sa sb md H locs → W p l e room_1 s m #[Value.ref b] below meth c H locs 86 5159 Q (F0 m 415 ls [])) (k : Nat) (hk8 : k < 8) (e1 : xs (4 * n + 1) = nI k) (e2 : xs (4 * n + 2) = nI 0) : W p l e room_1 s m #[Value.ref b] below meth c H locs 86 5159 Q (F0 m 201 ls []) := by
  obtain ⟨op, on, inn, pf, K, kn, obf, ibf, ep, nx, ef, tf, gt, sn, z, f, rf, wf, sf, dg, kf, otf, mf, se, te, epn, nxf, smf, gtf, snf, wr, wd, mx, hw, hR⟩ := hI
  obtain ⟨⟨ho, hon, hin⟩, hB, ⟨he0, he1⟩, hz, hwr, hs0, hd⟩ := id hR
  have hLB : L ≤ 2048 := hC.2.2.2.2.2.2.2.2.2
  have hz7 : ∀ j, j < 8 → z j ≤ 127 := fun j hj => (hz j hj).elim (fun q => by omega) (fun q => q.2)
  by_cases h : op = 0
  · skip
    refine t_deliver_b3 hC hn4 ad sa sb md op on inn pf K kn obf ibf ep nx ef tf gt sn z f rf wf sf dg kf otf mf se te epn nxf smf gtf snf wr wd mx k ((xs (4 * n + 2)))  e1 rfl (ho) (fun q => q.2.2 h) (hk8) (hz7 k hk8) (ho) (fun q => q.2 h) hw hl (fun   H locs hw => hk H locs ⟨op, on, inn, pf, K, kn, obf, ibf, ep, nx, ef, tf, gt, sn, z, f, rf, wf, sf, dg, kf, otf, mf, se, te, epn, nxf, smf, gtf, snf, wr, wd, mx, hw, ?_⟩)
    exact REL_up hR
  · skip
    obtain ⟨D0, D1⟩ := hd h
    obtain ⟨f1, f2, f3, f4, f5, f6⟩ := id D1
    rcases hz k hk8 with hz0 | ⟨hz1, hz2⟩
    · skip
      refine t_deliver_empty1 hC hn4 ad sa sb md op on inn pf K kn obf ibf ep nx ef tf gt sn z f rf wf sf dg kf otf mf se te epn nxf smf gtf snf wr wd mx k  e1 e2 (h) (ho) (hk8) (hz0) (hk8) (hz0) hw hl (fun   H locs hw => hk H locs ⟨op, on, inn, pf, K, kn, obf, ibf, ep, nx, ef, tf, gt, sn, z, f, rf, wf, sf, dg, kf, otf, mf, se, te, epn, nxf, smf, gtf, snf, wr, wd, mx, hw, ?_⟩)
      exact REL_up hR
    · skip
      by_cases hsh : shpOK (f k) (z k) 1
      · skip
        have hln := shp_ln hsh hz1
        by_cases h3 : (nAt (f k) 1 4).toInt32 = nI (ep 1)
        · skip
          have e16 : z k - 16 = 15 + (z k - 31) := by omega
          by_cases h4 : tagOK (f k) (hmv (tf 1) (f k) (z k - 16)) (z k - 16)
          · skip
            by_cases hs : sn 1 = 0
            · skip
              have hno := not_seen0 (gt := gt 1) (n := (nAt (f k) 5 8)) hs
              have hj := jud_0 (tk := tf 1) (gt := gt 1) (sn := sn 1) hsh h3 h4 (fun q => q.1 hs) hno
              refine t_deliver_0b1 hC hn4 ad sa sb md op on inn pf K kn obf ibf ep nx ef tf gt sn z f rf wf sf dg kf otf mf se te epn nxf smf gtf snf wr wd mx k (z k - 31) e1 e2 (h) (ho) (hk8) (hz1) (hz2) (hj) (hln) (by omega) (by omega) (h) (ho) (hk8) (hz1) (hz2) (fun j hj => (hwr k hk8 j hj).1) (fun j hj => (hwr k hk8 j hj).2) (hsh.1) (hln) (by omega) (by omega) (by rw [f3]; exact (ep_iff (by omega)).mp h3) (f2) (f1) (by rw [← e16]; exact h4) (Or.inl (sm_0 f5 hs)) (Or.inl (sm_0 f5 hs)) (by rw [hj]) hw hl (fun K2_4 kn2_5 r2_9 w2_10 s2_11 g2_12 k2_13 m2_14 wd2_15 mx2_16  H locs hw => hk H locs ⟨op, on, (z k - 31), pf, (kL [K 0, K 1, K 2, K 3, K 4, K 5, K 6, K 7, K 8, K 9, K 10, K 11, K 12, K 13, K2_4 14, K2_4 15, K2_4 16, K2_4 17, K2_4 18, K2_4 19, K2_4 20, K2_4 21]), (nL [kn 0, kn 1, kn 2, kn2_5 3, kn2_5 4]), obf, (rdF ibf (f k) (ef 1) (z k - 31)), ep, nx, ef, tf, (p2 (gt 0) ((wMark (gt 1) (sn 1) (nAt (f k) 5 8)).1)), (p2 (sn 0) ((wMark (gt 1) (sn 1) (nAt (f k) 5 8)).2)), z, f, r2_9, w2_10, s2_11, g2_12, k2_13, otf, m2_14, se, te, epn, nxf, (upd smf 1 (nI 1)), (vp_updL gtf 1 (nAt (f k) 5 8)), (upd (shM snf 64 64 0) (64 + 0) (nI 1)), wr, wd2_15, mx2_16, hw, ?_⟩)
              exact ⟨⟨ho, hon, by omega⟩, hB, ⟨Nat.le_succ_of_le he0, Nat.le_succ_of_le he1⟩, hz, hwr, fun q => absurd q h, fun _ => ⟨RD_far D0 (fun q hq => upd_sh_ne (by omega) (by omega)), RD_b D1 (wMark_0 hs)⟩⟩
            · skip
              obtain ⟨hg, hW⟩ := f6 hs
              by_cases hl9 : lowU (gt 1) (nAt (f k) 5 8)
              · skip
                have hj := jud_0 (tk := tf 1) (gt := gt 1) (sn := sn 1) hsh h3 h4 (fun q => q.2.1 hl9) (fun q => q.1 hl9)
                by_cases hf : fit64 ((nAt (f k) 5 8) - gt 1)
                · skip
                  obtain ⟨bb, hb64, ebb⟩ := fit_num hf
                  refine t_deliver_0c1 hC hn4 ad sa sb md op on inn pf K kn obf ibf ep nx ef tf gt sn z f rf wf sf dg kf otf mf se te epn nxf smf gtf snf wr wd mx k (z k - 31) bb e1 e2 (h) (ho) (hk8) (hz1) (hz2) (hj) (hln) (by omega) (by omega) (h) (ho) (hk8) (hz1) (hz2) (fun j hj => (hwr k hk8 j hj).1) (fun j hj => (hwr k hk8 j hj).2) (hsh.1) (hln) (by omega) (by omega) (by rw [f3]; exact (ep_iff (by omega)).mp h3) (f2) (f1) (by rw [← e16]; exact h4) (sm_1 f5 hs) (by rw [hg]; exact hl9) (by rw [hg]; exact (fit_low _).mpr hf) (by rw [hg]; exact ebb) (hb64) (by rw [hj]) hw hl (fun K2_4 kn2_5 r2_9 w2_10 s2_11 g2_12 k2_13 m2_14 wd2_15 mx2_16  H locs hw => hk H locs ⟨op, on, (z k - 31), pf, (kL [K 0, K 1, K 2, K 3, K 4, K 5, K 6, K 7, K 8, K 9, K 10, K 11, K 12, K 13, K2_4 14, K2_4 15, K2_4 16, K2_4 17, K2_4 18, K2_4 19, K2_4 20, K2_4 21]), (nL [kn 0, kn 1, kn 2, kn2_5 3, kn2_5 4]), obf, (rdF ibf (f k) (ef 1) (z k - 31)), ep, nx, ef, tf, (p2 (gt 0) ((wMark (gt 1) (sn 1) (nAt (f k) 5 8)).1)), (p2 (sn 0) ((wMark (gt 1) (sn 1) (nAt (f k) 5 8)).2)), z, f, r2_9, w2_10, s2_11, g2_12, k2_13, otf, m2_14, se, te, epn, nxf, (upd smf 1 (nI 1)), (vp_updL gtf 1 (nAt (f k) 5 8)), (upd (shM snf 64 bb 0) (64 + 0) (nI 1)), wr, wd2_15, mx2_16, hw, ?_⟩)
                  exact ⟨⟨ho, hon, by omega⟩, hB, ⟨Nat.le_succ_of_le he0, Nat.le_succ_of_le he1⟩, hz, hwr, fun q => absurd q h, fun _ => ⟨RD_far D0 (fun q hq => upd_sh_ne (by omega) (by omega)), RD_c D1 hs hl9 ebb hb64 hf⟩⟩
                · skip
                  refine t_deliver_0b1 hC hn4 ad sa sb md op on inn pf K kn obf ibf ep nx ef tf gt sn z f rf wf sf dg kf otf mf se te epn nxf smf gtf snf wr wd mx k (z k - 31) e1 e2 (h) (ho) (hk8) (hz1) (hz2) (hj) (hln) (by omega) (by omega) (h) (ho) (hk8) (hz1) (hz2) (fun j hj => (hwr k hk8 j hj).1) (fun j hj => (hwr k hk8 j hj).2) (hsh.1) (hln) (by omega) (by omega) (by rw [f3]; exact (ep_iff (by omega)).mp h3) (f2) (f1) (by rw [← e16]; exact h4) (Or.inr (by rw [hg]; exact hl9)) (Or.inr (by rw [hg]; exact fun q => hf ((fit_low _).mp q))) (by rw [hj]) hw hl (fun K2_4 kn2_5 r2_9 w2_10 s2_11 g2_12 k2_13 m2_14 wd2_15 mx2_16  H locs hw => hk H locs ⟨op, on, (z k - 31), pf, (kL [K 0, K 1, K 2, K 3, K 4, K 5, K 6, K 7, K 8, K 9, K 10, K 11, K 12, K 13, K2_4 14, K2_4 15, K2_4 16, K2_4 17, K2_4 18, K2_4 19, K2_4 20, K2_4 21]), (nL [kn 0, kn 1, kn 2, kn2_5 3, kn2_5 4]), obf, (rdF ibf (f k) (ef 1) (z k - 31)), ep, nx, ef, tf, (p2 (gt 0) ((wMark (gt 1) (sn 1) (nAt (f k) 5 8)).1)), (p2 (sn 0) ((wMark (gt 1) (sn 1) (nAt (f k) 5 8)).2)), z, f, r2_9, w2_10, s2_11, g2_12, k2_13, otf, m2_14, se, te, epn, nxf, (upd smf 1 (nI 1)), (vp_updL gtf 1 (nAt (f k) 5 8)), (upd (shM snf 64 64 0) (64 + 0) (nI 1)), wr, wd2_15, mx2_16, hw, ?_⟩)
                  exact ⟨⟨ho, hon, by omega⟩, hB, ⟨Nat.le_succ_of_le he0, Nat.le_succ_of_le he1⟩, hz, hwr, fun q => absurd q h, fun _ => ⟨RD_far D0 (fun q hq => upd_sh_ne (by omega) (by omega)), RD_b D1 (wMark_b hs hl9 hf)⟩⟩
              · skip
                by_cases hf : fit64 (gt 1 - (nAt (f k) 5 8))
                · skip
                  obtain ⟨qq, hq64, eqq⟩ := fit_num hf
                  by_cases ht : tb (sn 1) qq = true
                  · skip
                    have hj := jud_6 (tk := tf 1) (gt := gt 1) (sn := sn 1) hsh h3 h4 (fun q => q.2.2 hf) ⟨hl9, hf, (seen_iff eqq hq64).mpr ht⟩
                    refine t_deliver_61 hC hn4 ad sa sb md op on inn pf K kn obf ibf ep nx ef tf gt sn z f rf wf sf dg kf otf mf se te epn nxf smf gtf snf wr wd mx k (z k - 31) qq e1 e2 (h) (ho) (hk8) (hz1) (hz2) (by rw [hj]; decide) (h) (ho) (hk8) (hz1) (hz2) (fun j hj => (hwr k hk8 j hj).1) (fun j hj => (hwr k hk8 j hj).2) (hsh.1) (hln) (by omega) (by omega) (by rw [f3]; exact (ep_iff (by omega)).mp h3) (f2) (f1) (by rw [← e16]; exact h4) (sm_1 f5 hs) (by rw [hg]; exact hl9) (by rw [hg]; exact (fit_low _).mpr hf) (by rw [hg, eqq]; exact lN_i qq) (hq64) (fun q => absurd ((hW qq hq64).symm.trans q) (by rw [ht]; decide +kernel)) (by rw [hj]) hw hl (fun K2_4 kn2_5 r2_9 w2_10 s2_11 g2_12 k2_13 m2_14  H locs hw => hk H locs ⟨op, on, inn, pf, (kL [K 0, K 1, K 2, K 3, K 4, K 5, K 6, K 7, K 8, K 9, K 10, K 11, K 12, K 13, K2_4 14, K2_4 15, K2_4 16, K2_4 17, K2_4 18, K2_4 19, K2_4 20, K2_4 21]), (nL [kn 0, kn 1, kn 2, kn2_5 3, kn2_5 4]), obf, ibf, ep, nx, ef, tf, gt, sn, z, f, r2_9, w2_10, s2_11, g2_12, k2_13, otf, m2_14, se, te, epn, nxf, smf, gtf, snf, wr, wd, mx, hw, ?_⟩)
                    exact REL_up hR
                  · skip
                    have hj := jud_0 (tk := tf 1) (gt := gt 1) (sn := sn 1) hsh h3 h4 (fun q => q.2.2 hf) (fun q => ht ((seen_iff eqq hq64).mp q.2.2))
                    refine t_deliver_0a1 hC hn4 ad sa sb md op on inn pf K kn obf ibf ep nx ef tf gt sn z f rf wf sf dg kf otf mf se te epn nxf smf gtf snf wr wd mx k (z k - 31) qq e1 e2 (h) (ho) (hk8) (hz1) (hz2) (hj) (hln) (by omega) (by omega) (h) (ho) (hk8) (hz1) (hz2) (fun j hj => (hwr k hk8 j hj).1) (fun j hj => (hwr k hk8 j hj).2) (hsh.1) (hln) (by omega) (by omega) (by rw [f3]; exact (ep_iff (by omega)).mp h3) (f2) (f1) (by rw [← e16]; exact h4) (sm_1 f5 hs) (by rw [hg]; exact hl9) (by rw [hg]; exact (fit_low _).mpr hf) (by rw [hg, eqq]; exact lN_i qq) (hq64) ((hW qq hq64).trans (by rw [Bool.eq_false_iff.mpr ht]; decide +kernel)) (by rw [hj]) hw hl (fun K2_4 kn2_5 r2_9 w2_10 s2_11 g2_12 k2_13 m2_14 wd2_15 mx2_16  H locs hw => hk H locs ⟨op, on, (z k - 31), pf, (kL [K 0, K 1, K 2, K 3, K 4, K 5, K 6, K 7, K 8, K 9, K 10, K 11, K 12, K 13, K2_4 14, K2_4 15, K2_4 16, K2_4 17, K2_4 18, K2_4 19, K2_4 20, K2_4 21]), (nL [kn 0, kn 1, kn 2, kn2_5 3, kn2_5 4]), obf, (rdF ibf (f k) (ef 1) (z k - 31)), ep, nx, ef, tf, (p2 (gt 0) ((wMark (gt 1) (sn 1) (nAt (f k) 5 8)).1)), (p2 (sn 0) ((wMark (gt 1) (sn 1) (nAt (f k) 5 8)).2)), z, f, r2_9, w2_10, s2_11, g2_12, k2_13, otf, m2_14, se, te, epn, nxf, smf, gtf, (upd snf (64 + qq) (nI 1)), wr, wd2_15, mx2_16, hw, ?_⟩)
                    exact ⟨⟨ho, hon, by omega⟩, hB, ⟨Nat.le_succ_of_le he0, Nat.le_succ_of_le he1⟩, hz, hwr, fun q => absurd q h, fun _ => ⟨RD_far D0 (fun q hq => upd_ne (by omega)), RD_a D1 hs hl9 eqq hq64 hf⟩⟩
                · skip
                  have hj := jud_5 (tk := tf 1) (gt := gt 1) (sn := sn 1) hsh h3 h4 ⟨hs, hl9, hf⟩
                  refine t_deliver_51 hC hn4 ad sa sb md op on inn pf K kn obf ibf ep nx ef tf gt sn z f rf wf sf dg kf otf mf se te epn nxf smf gtf snf wr wd mx k (z k - 31) e1 e2 (h) (ho) (hk8) (hz1) (hz2) (by rw [hj]; decide) (h) (ho) (hk8) (hz1) (hz2) (fun j hj => (hwr k hk8 j hj).1) (fun j hj => (hwr k hk8 j hj).2) (hsh.1) (hln) (by omega) (by omega) (by rw [f3]; exact (ep_iff (by omega)).mp h3) (f2) (f1) (by rw [← e16]; exact h4) (sm_1 f5 hs) (by rw [hg]; exact hl9) (by rw [hg]; exact fun q => hf ((fit_low _).mp q)) (by rw [hj]) hw hl (fun K2_4 kn2_5 r2_9 w2_10 s2_11 g2_12 k2_13 m2_14  H locs hw => hk H locs ⟨op, on, inn, pf, (kL [K 0, K 1, K 2, K 3, K 4, K 5, K 6, K 7, K 8, K 9, K 10, K 11, K 12, K 13, K2_4 14, K2_4 15, K2_4 16, K2_4 17, K2_4 18, K2_4 19, K2_4 20, K2_4 21]), (nL [kn 0, kn 1, kn 2, kn2_5 3, kn2_5 4]), obf, ibf, ep, nx, ef, tf, gt, sn, z, f, r2_9, w2_10, s2_11, g2_12, k2_13, otf, m2_14, se, te, epn, nxf, smf, gtf, snf, wr, wd, mx, hw, ?_⟩)
                  exact REL_up hR
          · skip
            refine t_deliver_41 hC hn4 ad sa sb md op on inn pf K kn obf ibf ep nx ef tf gt sn z f rf wf sf dg kf otf mf se te epn nxf smf gtf snf wr wd mx k (z k - 31) e1 e2 (h) (ho) (hk8) (hz1) (hz2) (by rw [jud_4 hsh h3 h4]; decide) (h) (ho) (hk8) (hz1) (hz2) (fun j hj => (hwr k hk8 j hj).1) (fun j hj => (hwr k hk8 j hj).2) (hsh.1) (hln) (by omega) (by omega) (by rw [f3]; exact (ep_iff (by omega)).mp h3) (f2) (f1) (by rw [← e16]; exact h4) (by rw [jud_4 hsh h3 h4]) hw hl (fun K2_4 kn2_5 r2_9 w2_10 s2_11 g2_12 k2_13 m2_14  H locs hw => hk H locs ⟨op, on, inn, pf, (kL [K 0, K 1, K 2, K 3, K 4, K 5, K 6, K 7, K 8, K 9, K 10, K 11, K 12, K 13, K2_4 14, K2_4 15, K2_4 16, K2_4 17, K2_4 18, K2_4 19, K2_4 20, K2_4 21]), (nL [kn 0, kn 1, kn 2, kn2_5 3, kn2_5 4]), obf, ibf, ep, nx, ef, tf, gt, sn, z, f, r2_9, w2_10, s2_11, g2_12, k2_13, otf, m2_14, se, te, epn, nxf, smf, gtf, snf, wr, wd, mx, hw, ?_⟩)
            exact REL_up hR
        · skip
          refine t_deliver_31 hC hn4 ad sa sb md op on inn pf K kn obf ibf ep nx ef tf gt sn z f rf wf sf dg kf otf mf se te epn nxf smf gtf snf wr wd mx k (z k - 31) e1 e2 (h) (ho) (hk8) (hz1) (hz2) (by rw [jud_3 hsh h3]; decide) (h) (ho) (hk8) (hz1) (hz2) (fun j hj => (hwr k hk8 j hj).1) (fun j hj => (hwr k hk8 j hj).2) (hsh.1) (hln) (by omega) (by omega) (fun q => h3 ((ep_iff (by omega)).mpr (by rw [q, f3]))) (by rw [jud_3 hsh h3]) hw hl (fun K2_4 kn2_5  H locs hw => hk H locs ⟨op, on, inn, pf, (kL [K 0, K 1, K 2, K 3, K 4, K 5, K 6, K 7, K 8, K 9, K 10, K 11, K 12, K 13, K2_4 14, K2_4 15, K2_4 16, K2_4 17, K2_4 18, K2_4 19, K2_4 20, K2_4 21]), (nL [kn 0, kn 1, kn 2, kn2_5 3, kn2_5 4]), obf, ibf, ep, nx, ef, tf, gt, sn, z, f, rf, wf, sf, dg, kf, otf, mf, se, te, epn, nxf, smf, gtf, snf, wr, wd, mx, hw, ?_⟩)
          exact REL_up hR
      · skip
        refine t_deliver_21 hC hn4 ad sa sb md op on inn pf K kn obf ibf ep nx ef tf gt sn z f rf wf sf dg kf otf mf se te epn nxf smf gtf snf wr wd mx k  e1 e2 (h) (ho) (hk8) (hz1) (hz2) (by rw [jud_2 hsh]; decide) (h) (ho) (hk8) (hz1) (hz2) (fun j hj => (hwr k hk8 j hj).1) (fun j hj => (hwr k hk8 j hj).2) (hsh) (by rw [jud_2 hsh]) hw hl (fun K2_4 kn2_5  H locs hw => hk H locs ⟨op, on, inn, pf, (kL [K 0, K 1, K 2, K 3, K 4, K 5, K 6, K 7, K 8, K 9, K 10, K 11, K 12, K 13, K2_4 14, K2_4 15, K2_4 16, K2_4 17, K2_4 18, K2_4 19, K2_4 20, K2_4 21]), (nL [kn 0, kn 1, kn 2, kn2_5 3, kn2_5 4]), obf, ibf, ep, nx, ef, tf, gt, sn, z, f, rf, wf, sf, dg, kf, otf, mf, se, te, epn, nxf, smf, gtf, snf, wr, wd, mx, hw, ?_⟩)
        exact REL_up hR
