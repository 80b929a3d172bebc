set_option maxHeartbeats 4000000 in
set_option maxRecDepth 100000 in
theorem k_init {p : Program} {l : Launch} {e : Env} {s : State} {m : MethodId} {below : List Frame} {meth : Method} {c : Code} {b L n : Nat} {xs : Nat → Int32} {g : GE} {A : Nat → Prop} {Q : State → Prop} {H : Heap} {locs : List Loc} {ls : Array Slot} {ad sa sb md : Nat → Nat} (hC : LC p s m c b L xs g A) (hn4 : 4 * n + 4 ≤ L) (hI : LI g A s n ad sa sb md H locs) (hl : lv_has ls 4 [(3, .int (nI (4 * n))), (0, .ref b), (1, .ref (ad 0)), (2, .ref (md 25))]) (hk : ∀ (H : Heap) (locs : List Loc), LI g A s (n + 1) ad sa sb md H locs → W p l e room_1 s m #[Value.ref b] below meth c H locs 86 5159 Q (F0 m 415 ls [])) : W p l e room_1 s m #[Value.ref b] below meth c H locs 86 5159 Q (F0 m 100 ls []) := by
  obtain ⟨op, on, inn, pf, K, kn, obf, ibf, ep, nx, ef, tf, gt, sn, z, f, rf, wf, sf, dg, kf, otf, mf, se, te, epn, nxf, smf, gtf, snf, wr, wd, mx, hw, hR⟩ := hI
  obtain ⟨⟨ho, hon, hin⟩, hB, ⟨he0, he1⟩, hz, hwr, hs0, hd⟩ := id hR
  have hLB : L ≤ 2048 := hC.2.2.2.2.2.2.2.2.2
  have hz7 : ∀ j, j < 8 → z j ≤ 127 := fun j hj => (hz j hj).elim (fun q => by omega) (fun q => q.2)
  refine t_init hC hn4 ad sa sb md op on inn pf K kn obf ibf ep nx ef tf gt sn z f rf wf sf dg kf otf mf se te epn nxf smf gtf snf wr wd mx     hw hl (fun   H locs hw => hk H locs ⟨0, 0, 0, zro, K, kn, obf, ibf, (p2 (0) (0)), (p2 (0) (0)), ef, tf, (p2 (0) (0)), (p2 (0) (0)), ((zc z 8)), f, rf, wf, sf, dg, kf, otf, mf, se, te, epn, nxf, smf, gtf, snf, wr, wd, mx, hw, ?_⟩)
  exact ⟨⟨by decide, by decide, by decide⟩, fun j hj => absurd hj (Nat.not_lt_zero j), ⟨Nat.zero_le _, Nat.zero_le _⟩, fun k hk => Or.inl (if_pos hk), fun k hk j hj => absurd hj (by rw [show zc z 8 k = 0 from if_pos hk]; exact Nat.not_lt_zero j), fun _ => ⟨rfl, rfl⟩, fun h => absurd rfl h⟩

set_option maxHeartbeats 4000000 in
set_option maxRecDepth 100000 in
theorem k_setPsk {p : Program} {l : Launch} {e : Env} {s : State} {m : MethodId} {below : List Frame} {meth : Method} {c : Code} {b L n : Nat} {xs : Nat → Int32} {g : GE} {A : Nat → Prop} {Q : State → Prop} {H : Heap} {locs : List Loc} {ls : Array Slot} {ad sa sb md : Nat → Nat} (hC : LC p s m c b L xs g A) (hn4 : 4 * n + 4 ≤ L) (hI : LI g A s n ad sa sb md H locs) (hl : lv_has ls 4 [(3, .int (nI (4 * n))), (0, .ref b), (1, .ref (ad 0)), (2, .ref (md 25))]) (hk : ∀ (H : Heap) (locs : List Loc), LI g A s (n + 1) ad sa sb md H locs → W p l e room_1 s m #[Value.ref b] below meth c H locs 86 5159 Q (F0 m 415 ls [])) : W p l e room_1 s m #[Value.ref b] below meth c H locs 86 5159 Q (F0 m 111 ls []) := by
  obtain ⟨op, on, inn, pf, K, kn, obf, ibf, ep, nx, ef, tf, gt, sn, z, f, rf, wf, sf, dg, kf, otf, mf, se, te, epn, nxf, smf, gtf, snf, wr, wd, mx, hw, hR⟩ := hI
  obtain ⟨⟨ho, hon, hin⟩, hB, ⟨he0, he1⟩, hz, hwr, hs0, hd⟩ := id hR
  have hLB : L ≤ 2048 := hC.2.2.2.2.2.2.2.2.2
  have hz7 : ∀ j, j < 8 → z j ≤ 127 := fun j hj => (hz j hj).elim (fun q => by omega) (fun q => q.2)
  by_cases h : op = 0 ∧ inR (xs (4 * n + 1)) 32 ∧ inR (xs (4 * n + 2)) 256
  · skip
    obtain ⟨i, hi, e1⟩ := inR_of h.2.1 (by decide)
    refine t_setPsk hC hn4 ad sa sb md op on inn pf K kn obf ibf ep nx ef tf gt sn z f rf wf sf dg kf otf mf se te epn nxf smf gtf snf wr wd mx i ((xs (4 * n + 2)))  e1 rfl (h.1) (hi) (h.2.2) (h.1) (hi) (h.2.2) hw hl (fun   H locs hw => hk H locs ⟨op, on, inn, (upd pf i ((xs (4 * n + 2)))), K, kn, obf, ibf, ep, nx, ef, tf, gt, sn, z, f, rf, wf, sf, dg, kf, otf, mf, se, te, epn, nxf, smf, gtf, snf, wr, wd, mx, hw, ?_⟩)
    exact REL_up hR
  · skip
    refine t_setPsk_bad hC hn4 ad sa sb md op on inn pf K kn obf ibf ep nx ef tf gt sn z f rf wf sf dg kf otf mf se te epn nxf smf gtf snf wr wd mx ((xs (4 * n + 1))) ((xs (4 * n + 2)))  rfl rfl (ho) (h) (ho) (h) hw hl (fun   H locs hw => hk H locs ⟨op, on, inn, pf, K, kn, obf, ibf, ep, nx, ef, tf, gt, sn, z, f, rf, wf, sf, dg, kf, otf, mf, se, te, epn, nxf, smf, gtf, snf, wr, wd, mx, hw, ?_⟩)
    exact REL_up hR

set_option maxHeartbeats 4000000 in
set_option maxRecDepth 100000 in
theorem k_open {p : Program} {l : Launch} {e : Env} {s : State} {m : MethodId} {below : List Frame} {meth : Method} {c : Code} {b L n : Nat} {xs : Nat → Int32} {g : GE} {A : Nat → Prop} {Q : State → Prop} {H : Heap} {locs : List Loc} {ls : Array Slot} {ad sa sb md : Nat → Nat} (hC : LC p s m c b L xs g A) (hn4 : 4 * n + 4 ≤ L) (hI : LI g A s n ad sa sb md H locs) (hl : lv_has ls 4 [(3, .int (nI (4 * n))), (0, .ref b), (1, .ref (ad 0)), (2, .ref (md 25))]) (hk : ∀ (H : Heap) (locs : List Loc), LI g A s (n + 1) ad sa sb md H locs → W p l e room_1 s m #[Value.ref b] below meth c H locs 86 5159 Q (F0 m 415 ls [])) : W p l e room_1 s m #[Value.ref b] below meth c H locs 86 5159 Q (F0 m 144 ls []) := by
  obtain ⟨op, on, inn, pf, K, kn, obf, ibf, ep, nx, ef, tf, gt, sn, z, f, rf, wf, sf, dg, kf, otf, mf, se, te, epn, nxf, smf, gtf, snf, wr, wd, mx, hw, hR⟩ := hI
  obtain ⟨⟨ho, hon, hin⟩, hB, ⟨he0, he1⟩, hz, hwr, hs0, hd⟩ := id hR
  have hLB : L ≤ 2048 := hC.2.2.2.2.2.2.2.2.2
  have hz7 : ∀ j, j < 8 → z j ≤ 127 := fun j hj => (hz j hj).elim (fun q => by omega) (fun q => q.2)
  by_cases h : op = 0
  · skip
    subst h
    refine t_open hC hn4 ad sa sb md on inn pf K kn obf ibf ep nx ef tf gt sn z f rf wf sf dg kf otf mf se te epn nxf smf gtf snf wr wd mx     hw hl (fun K2_4 kn2_5 r2_9 w2_10 s2_11 g2_12 k2_13 o2_14 m2_15  H locs hw => hk H locs ⟨1, on, inn, pf, (kL [K2_4 0, K2_4 1, K2_4 2, K2_4 3, K2_4 4, K2_4 5, K2_4 6, K2_4 7, K2_4 8, K2_4 9, K2_4 10, K 11, K 12, K 13, K2_4 14, K2_4 15, K2_4 16, K2_4 17, K2_4 18, K 19, K 20, K 21]), (nL [kn2_5 0, kn2_5 1, kn 2, kn2_5 3, kn 4]), obf, ibf, (p2 (0) (0)), (p2 (0) (0)), (p2 (keyD (hmv zro pf 32) 0 0) (keyD (hmv zro pf 32) 1 0)), (p2 (keyD (hmv zro pf 32) 0 1) (keyD (hmv zro pf 32) 1 1)), (p2 (0) (0)), (p2 (0) (0)), z, f, r2_9, w2_10, s2_11, g2_12, k2_13, o2_14, m2_15, (laid (laid se (32 * 0) (keyD (hmv zro pf 32) 0 0) 32) (32 * 1) (keyD (hmv zro pf 32) 1 0) 32), (laid (laid te (32 * 0) (keyD (hmv zro pf 32) 0 1) 32) (32 * 1) (keyD (hmv zro pf 32) 1 1) 32), ((va_up (va_up epn 0 0) 1 0)), (vp_updL (vp_updL nxf 0 0) 1 0), (upd (upd smf 0 (nI 0)) 1 (nI 0)), gtf, snf, wr, wd, mx, hw, ?_⟩)
    exact ⟨⟨by decide, hon, hin⟩, hB, ⟨Nat.zero_le _, Nat.zero_le _⟩, hz, hwr, fun q => absurd q (by decide), fun _ => ⟨⟨shf_out (shf_in (32 * 0) 32) (by decide), shf_out (shf_in (32 * 0) 32) (by decide), rfl, rfl, bI_F (fun q => q rfl), fun q => absurd rfl q⟩, ⟨shf_in (32 * 1) 32, shf_in (32 * 1) 32, rfl, rfl, bI_F (fun q => q rfl), fun q => absurd rfl q⟩⟩⟩
  · skip
    have h1 : op = 1 := by omega
    subst h1
    refine t_open_again hC hn4 ad sa sb md on inn pf K kn obf ibf ep nx ef tf gt sn z f rf wf sf dg kf otf mf se te epn nxf smf gtf snf wr wd mx    (by decide) (by decide) hw hl (fun   H locs hw => hk H locs ⟨1, on, inn, pf, K, kn, obf, ibf, ep, nx, ef, tf, gt, sn, z, f, rf, wf, sf, dg, kf, otf, mf, se, te, epn, nxf, smf, gtf, snf, wr, wd, mx, hw, ?_⟩)
    exact REL_up hR

set_option maxHeartbeats 4000000 in
set_option maxRecDepth 100000 in
theorem k_put {p : Program} {l : Launch} {e : Env} {s : State} {m : MethodId} {below : List Frame} {meth : Method} {c : Code} {b L n : Nat} {xs : Nat → Int32} {g : GE} {A : Nat → Prop} {Q : State → Prop} {H : Heap} {locs : List Loc} {ls : Array Slot} {ad sa sb md : Nat → Nat} (hC : LC p s m c b L xs g A) (hn4 : 4 * n + 4 ≤ L) (hI : LI g A s n ad sa sb md H locs) (hl : lv_has ls 4 [(3, .int (nI (4 * n))), (0, .ref b), (1, .ref (ad 0)), (2, .ref (md 25))]) (hk : ∀ (H : Heap) (locs : List Loc), LI g A s (n + 1) ad sa sb md H locs → W p l e room_1 s m #[Value.ref b] below meth c H locs 86 5159 Q (F0 m 415 ls [])) : W p l e room_1 s m #[Value.ref b] below meth c H locs 86 5159 Q (F0 m 155 ls []) := by
  obtain ⟨op, on, inn, pf, K, kn, obf, ibf, ep, nx, ef, tf, gt, sn, z, f, rf, wf, sf, dg, kf, otf, mf, se, te, epn, nxf, smf, gtf, snf, wr, wd, mx, hw, hR⟩ := hI
  obtain ⟨⟨ho, hon, hin⟩, hB, ⟨he0, he1⟩, hz, hwr, hs0, hd⟩ := id hR
  have hLB : L ≤ 2048 := hC.2.2.2.2.2.2.2.2.2
  have hz7 : ∀ j, j < 8 → z j ≤ 127 := fun j hj => (hz j hj).elim (fun q => by omega) (fun q => q.2)
  by_cases h : inR (xs (4 * n + 1)) 256 ∧ on < 96
  · skip
    refine t_put hC hn4 ad sa sb md op on inn pf K kn obf ibf ep nx ef tf gt sn z f rf wf sf dg kf otf mf se te epn nxf smf gtf snf wr wd mx ((xs (4 * n + 1)))  rfl (h.1) (h.2) (h.1) (h.2) hw hl (fun   H locs hw => hk H locs ⟨op, (on + 1), inn, pf, K, kn, (upd obf on ((xs (4 * n + 1)))), ibf, ep, nx, ef, tf, gt, sn, z, f, rf, wf, sf, dg, kf, otf, mf, se, te, epn, nxf, smf, gtf, snf, wr, wd, mx, hw, ?_⟩)
    exact ⟨⟨ho, h.2, hin⟩, fun j hj => (by by_cases q : j = on; rw [q]; simp only [upd, if_true]; exact B8_in h.1; rw [upd_ne q]; exact hB j (by omega)), ⟨Nat.le_succ_of_le he0, Nat.le_succ_of_le he1⟩, hz, hwr, hs0, hd⟩
  · skip
    refine t_put_bad hC hn4 ad sa sb md op on inn pf K kn obf ibf ep nx ef tf gt sn z f rf wf sf dg kf otf mf se te epn nxf smf gtf snf wr wd mx ((xs (4 * n + 1)))  rfl (hon) (h) (hon) (h) hw hl (fun   H locs hw => hk H locs ⟨op, on, inn, pf, K, kn, obf, ibf, ep, nx, ef, tf, gt, sn, z, f, rf, wf, sf, dg, kf, otf, mf, se, te, epn, nxf, smf, gtf, snf, wr, wd, mx, hw, ?_⟩)
    exact REL_up hR

set_option maxHeartbeats 4000000 in
set_option maxRecDepth 100000 in
theorem k_send {p : Program} {l : Launch} {e : Env} {s : State} {m : MethodId} {below : List Frame} {meth : Method} {c : Code} {b L n : Nat} {xs : Nat → Int32} {g : GE} {A : Nat → Prop} {Q : State → Prop} {H : Heap} {locs : List Loc} {ls : Array Slot} {ad sa sb md : Nat → Nat} (hC : LC p s m c b L xs g A) (hn4 : 4 * n + 4 ≤ L) (hI : LI g A s n ad sa sb md H locs) (hl : lv_has ls 4 [(3, .int (nI (4 * n))), (0, .ref b), (1, .ref (ad 0)), (2, .ref (md 25))]) (hk : ∀ (H : Heap) (locs : List Loc), LI g A s (n + 1) ad sa sb md H locs → W p l e room_1 s m #[Value.ref b] below meth c H locs 86 5159 Q (F0 m 415 ls [])) : W p l e room_1 s m #[Value.ref b] below meth c H locs 86 5159 Q (F0 m 178 ls []) := by
  obtain ⟨op, on, inn, pf, K, kn, obf, ibf, ep, nx, ef, tf, gt, sn, z, f, rf, wf, sf, dg, kf, otf, mf, se, te, epn, nxf, smf, gtf, snf, wr, wd, mx, hw, hR⟩ := hI
  obtain ⟨⟨ho, hon, hin⟩, hB, ⟨he0, he1⟩, hz, hwr, hs0, hd⟩ := id hR
  have hLB : L ≤ 2048 := hC.2.2.2.2.2.2.2.2.2
  have hz7 : ∀ j, j < 8 → z j ≤ 127 := fun j hj => (hz j hj).elim (fun q => by omega) (fun q => q.2)
  by_cases h : inR (xs (4 * n + 1)) 2 ∧ ¬ op = 0
  · skip
    obtain ⟨i, hi, e1⟩ := inR_of h.1 (by decide)
    obtain ⟨⟨f01, f02, f03, f04, f05, f06⟩, f11, f12, f13, f14, f15, f16⟩ := hd h.2
    rcases (show i = 0 ∨ i = 1 by omega) with rfl | rfl
    · skip
      rcases first_empty z with ⟨k, hk8, hk0, hk1⟩ | hno
      · skip
        refine t_send_0 hC hn4 ad sa sb md op on inn pf K kn obf ibf ep nx ef tf gt sn z f rf wf sf dg kf otf mf se te epn nxf smf gtf snf wr wd mx  k e1 (h.2) (ho) (hon) (hk8) (hk0) (hk1) (hz7) (h.2) (ho) (by decide) (hon) (hk8) (hk0) (hk1) (hz7) (by rw [f03]; omega) hw hl (fun K2_4 kn2_5 r2_9 w2_10 s2_11 g2_12 k2_13 m2_14 W2_15 wd2_16 mx2_17 hp8 H locs hw => hk H locs ⟨op, 0, inn, pf, (kL [K 0, K 1, K 2, K 3, K 4, K 5, K2_4 6, K2_4 7, K2_4 8, K2_4 9, K2_4 10, K2_4 11, K2_4 12, K2_4 13, K 14, K 15, K 16, K 17, K 18, K 19, K 20, K 21]), (nL [kn 0, kn2_5 1, kn2_5 2, kn 3, kn 4]), obf, ibf, ep, (p2 (nx 0 + 1) (nx 1)), ef, tf, gt, sn, ((va_up z k (15 + on + 16))), ((va_up f k (recF (hdF (f k) 0 (ep 0) (nx 0) on) obf (ef 0) (tf 0) on))), r2_9, w2_10, s2_11, g2_12, k2_13, otf, m2_14, se, te, epn, (vp_updL nxf 0 (nxf 0 + 1)), smf, gtf, snf, W2_15, wd2_16, mx2_17, hw, ?_⟩)
        rw [f03, f04] at hp8
        refine ⟨⟨ho, by decide, hin⟩, fun j hj => absurd hj (Nat.not_lt_zero j), ⟨Nat.le_succ_of_le he0, Nat.le_succ_of_le he1⟩, fun q hq => ?_, fun q hq j hj => ?_, hs0, fun _ => ⟨⟨f01, f02, f03, congrArg (fun q : Int64 => q + 1) f04, f05, f06⟩, ⟨f11, f12, f13, f14, f15, f16⟩⟩⟩
        · by_cases e9 : q = k
          · rw [e9, va_up_self]; exact Or.inr ⟨by omega, by omega⟩
          · rw [va_up_ne _ _ e9]; exact hz q hq
        · by_cases e9 : q = k
          · subst e9
            rw [va_up_self] at hj ⊢
            exact ⟨(hp8.1 j hj).trans (recF_key on f01 f02 j hj), B8_recF _ _ _ _ _ _ _ _ (by decide) hB hj⟩
          · rw [va_up_ne _ _ e9] at hj ⊢
            have h7 := hz7 q hq
            rw [hp8.2 (128 * q + j) (by omega)]
            exact hwr q hq j hj
      · skip
        refine t_send_none0 hC hn4 ad sa sb md op on inn pf K kn obf ibf ep nx ef tf gt sn z f rf wf sf dg kf otf mf se te epn nxf smf gtf snf wr wd mx   e1 (h.2) (ho) (hno) (hz7) (h.2) (ho) (by decide) (hno) (hz7) hw hl (fun   H locs hw => hk H locs ⟨op, on, inn, pf, K, kn, obf, ibf, ep, nx, ef, tf, gt, sn, z, f, rf, wf, sf, dg, kf, otf, mf, se, te, epn, nxf, smf, gtf, snf, wr, wd, mx, hw, ?_⟩)
        exact REL_up hR
    · skip
      rcases first_empty z with ⟨k, hk8, hk0, hk1⟩ | hno
      · skip
        refine t_send_1 hC hn4 ad sa sb md op on inn pf K kn obf ibf ep nx ef tf gt sn z f rf wf sf dg kf otf mf se te epn nxf smf gtf snf wr wd mx  k e1 (h.2) (ho) (hon) (hk8) (hk0) (hk1) (hz7) (h.2) (ho) (by decide) (hon) (hk8) (hk0) (hk1) (hz7) (by rw [f13]; omega) hw hl (fun K2_4 kn2_5 r2_9 w2_10 s2_11 g2_12 k2_13 m2_14 W2_15 wd2_16 mx2_17 hp8 H locs hw => hk H locs ⟨op, 0, inn, pf, (kL [K 0, K 1, K 2, K 3, K 4, K 5, K 6, K 7, K 8, K 9, K 10, K 11, K 12, K 13, K2_4 14, K2_4 15, K2_4 16, K2_4 17, K2_4 18, K2_4 19, K2_4 20, K2_4 21]), (nL [kn 0, kn 1, kn 2, kn2_5 3, kn2_5 4]), obf, ibf, ep, (p2 (nx 0) (nx 1 + 1)), ef, tf, gt, sn, ((va_up z k (15 + on + 16))), ((va_up f k (recF (hdF (f k) 1 (ep 1) (nx 1) on) obf (ef 1) (tf 1) on))), r2_9, w2_10, s2_11, g2_12, k2_13, otf, m2_14, se, te, epn, (vp_updL nxf 1 (nxf 1 + 1)), smf, gtf, snf, W2_15, wd2_16, mx2_17, hw, ?_⟩)
        rw [f13, f14] at hp8
        refine ⟨⟨ho, by decide, hin⟩, fun j hj => absurd hj (Nat.not_lt_zero j), ⟨Nat.le_succ_of_le he0, Nat.le_succ_of_le he1⟩, fun q hq => ?_, fun q hq j hj => ?_, hs0, fun _ => ⟨⟨f01, f02, f03, f04, f05, f06⟩, ⟨f11, f12, f13, congrArg (fun q : Int64 => q + 1) f14, f15, f16⟩⟩⟩
        · by_cases e9 : q = k
          · rw [e9, va_up_self]; exact Or.inr ⟨by omega, by omega⟩
          · rw [va_up_ne _ _ e9]; exact hz q hq
        · by_cases e9 : q = k
          · subst e9
            rw [va_up_self] at hj ⊢
            exact ⟨(hp8.1 j hj).trans (recF_key on f11 f12 j hj), B8_recF _ _ _ _ _ _ _ _ (by decide) hB hj⟩
          · rw [va_up_ne _ _ e9] at hj ⊢
            have h7 := hz7 q hq
            rw [hp8.2 (128 * q + j) (by omega)]
            exact hwr q hq j hj
      · skip
        refine t_send_none1 hC hn4 ad sa sb md op on inn pf K kn obf ibf ep nx ef tf gt sn z f rf wf sf dg kf otf mf se te epn nxf smf gtf snf wr wd mx   e1 (h.2) (ho) (hno) (hz7) (h.2) (ho) (by decide) (hno) (hz7) hw hl (fun   H locs hw => hk H locs ⟨op, on, inn, pf, K, kn, obf, ibf, ep, nx, ef, tf, gt, sn, z, f, rf, wf, sf, dg, kf, otf, mf, se, te, epn, nxf, smf, gtf, snf, wr, wd, mx, hw, ?_⟩)
        exact REL_up hR
  · skip
    refine t_send_bad hC hn4 ad sa sb md op on inn pf K kn obf ibf ep nx ef tf gt sn z f rf wf sf dg kf otf mf se te epn nxf smf gtf snf wr wd mx ((xs (4 * n + 1)))  rfl (ho) (h) (ho) (h) hw hl (fun   H locs hw => hk H locs ⟨op, on, inn, pf, K, kn, obf, ibf, ep, nx, ef, tf, gt, sn, z, f, rf, wf, sf, dg, kf, otf, mf, se, te, epn, nxf, smf, gtf, snf, wr, wd, mx, hw, ?_⟩)
    exact REL_up hR
