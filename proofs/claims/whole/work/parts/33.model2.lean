set_option maxHeartbeats 4000000 in
set_option maxRecDepth 100000 in
theorem c_X7_makeKeys (l : Launch) (g : GE) (md : Nat → Nat) (op : Nat) (on : Nat) (inn : Nat) (rf : Nat → Int32) (wf : Nat → Int32) (sf : Nat → Int32) (dg : Nat → Int32) (kf : Nat → Int32) (otf : Nat → Int32) (mf : Nat → Int32) (se : Nat → Int32) (te : Nat → Int32) (nxf : Nat → Int64) (smf : Nat → Int32) (d : Nat) (hd : d < 2) (sz : Nat) : MV l yX7_makeKeys wsX7_makeKeys { frames := 4, cells := 0, slots := 0, locals := 99 } g [.ref (md 25), .int (nI d)] [(md 25, .inr (7, [.ref (md 0), .int (nI op), .ref (md 2), .ref (md 3), .ref (md 4), .ref (md 5), .ref (md 6), .ref (md 7), .ref (md 8), .ref (md 9), .ref (md 10), .ref (md 11), .int (nI on), .ref (md 13), .int (nI inn), .ref (md 15), .ref (md 16), .ref (md 17), .ref (md 18), .ref (md 19), .ref (md 20), .ref (md 21), .ref (md 22), .ref (md 23), .ref (md 24)])), (md 17, .inl (g.2.1 0, 400, .inl (rf))), (md 16, .inl (g.2.1 0, 64, .inl (wf))), (md 15, .inl (g.2.1 0, 8, .inl (sf))), (md 22, .inl (g.2.1 0, 64, .inl (kRW))), (md 18, .inl (g.2.1 0, 32, .inl (dg))), (md 19, .inl (g.2.1 0, 32, .inl (kf))), (md 20, .inl (g.2.1 0, 32, .inl (otf))), (md 21, .inl (g.2.1 0, 160, .inl (mf))), (md 2, .inl (g.2.1 0, 64, .inl (se))), (md 3, .inl (g.2.1 0, 64, .inl (te))), (md 5, .inl (g.2.1 1, 2, .inr (.inl (nxf)))), (md 6, .inl (g.2.1 2, 2, .inl (smf)))] sz (fun (u : (Nat → Int32) × (Nat → Int32) × (Nat → Int32) × (Nat → Int32) × (Nat → Int32) × (Nat → Int32) × (Nat → Int32)) => True) (fun (u : (Nat → Int32) × (Nat → Int32) × (Nat → Int32) × (Nat → Int32) × (Nat → Int32) × (Nat → Int32) × (Nat → Int32)) => [(md 25, .inr (7, [.ref (md 0), .int (nI op), .ref (md 2), .ref (md 3), .ref (md 4), .ref (md 5), .ref (md 6), .ref (md 7), .ref (md 8), .ref (md 9), .ref (md 10), .ref (md 11), .int (nI on), .ref (md 13), .int (nI inn), .ref (md 15), .ref (md 16), .ref (md 17), .ref (md 18), .ref (md 19), .ref (md 20), .ref (md 21), .ref (md 22), .ref (md 23), .ref (md 24)])), (md 17, .inl (g.2.1 0, 400, .inl (u.1))), (md 16, .inl (g.2.1 0, 64, .inl (u.2.1))), (md 15, .inl (g.2.1 0, 8, .inl (u.2.2.1))), (md 22, .inl (g.2.1 0, 64, .inl (kRW))), (md 18, .inl (g.2.1 0, 32, .inl (u.2.2.2.1))), (md 19, .inl (g.2.1 0, 32, .inl (u.2.2.2.2.1))), (md 20, .inl (g.2.1 0, 32, .inl (u.2.2.2.2.2.1))), (md 21, .inl (g.2.1 0, 160, .inl (u.2.2.2.2.2.2))), (md 2, .inl (g.2.1 0, 64, .inl (laid se (32 * d) (keyD dg d 0) 32))), (md 3, .inl (g.2.1 0, 64, .inl (laid te (32 * d) (keyD dg d 1) 32))), (md 5, .inl (g.2.1 1, 2, .inr (.inl (vp_updL nxf d 0)))), (md 6, .inl (g.2.1 2, 2, .inl (upd smf d (nI 0))))]) 0 0 := by
  refine enterV (by decide) rfl (Nat.le_of_ble_eq_true rfl) ?_
  intro p e s m below meth c A ls ar Q hE h0 hret hw hl
  obtain ⟨hx, hb, hr, hml, hown, hts, hlocks, hname⟩ := hE
  have hown : s.vm.findClass RX7 = some m.cls := hown
  have hw : WD g A s [(md 25, .inr (7, [.ref (md 0), .int (nI op), .ref (md 2), .ref (md 3), .ref (md 4), .ref (md 5), .ref (md 6), .ref (md 7), .ref (md 8), .ref (md 9), .ref (md 10), .ref (md 11), .int (nI on), .ref (md 13), .int (nI inn), .ref (md 15), .ref (md 16), .ref (md 17), .ref (md 18), .ref (md 19), .ref (md 20), .ref (md 21), .ref (md 22), .ref (md 23), .ref (md 24)])), (md 17, .inl (g.2.1 0, 400, .inl (rf))), (md 16, .inl (g.2.1 0, 64, .inl (wf))), (md 15, .inl (g.2.1 0, 8, .inl (sf))), (md 22, .inl (g.2.1 0, 64, .inl (kRW))), (md 18, .inl (g.2.1 0, 32, .inl (dg))), (md 19, .inl (g.2.1 0, 32, .inl (kf))), (md 20, .inl (g.2.1 0, 32, .inl (otf))), (md 21, .inl (g.2.1 0, 160, .inl (mf))), (md 2, .inl (g.2.1 0, 64, .inl (se))), (md 3, .inl (g.2.1 0, 64, .inl (te))), (md 5, .inl (g.2.1 1, 2, .inr (.inl (nxf)))), (md 6, .inl (g.2.1 2, 2, .inl (smf)))] [] s.heap [] := hw
  have hinX7 : ∀ w ∈ u_ws RX7 TX7 25, w ∈ wsX7_makeKeys := by decide +kernel
  have k13 := hts (.fieldLink RX7 13 "RecordWireModel" "sealKeys" "[I") (by decide +kernel)
  have k16 := hts (.fieldLink RX7 16 "RecordWireModel" "tagKeys" "[I") (by decide +kernel)
  have k22 := hts (.fieldLink RX7 22 "RecordWireModel" "nexts" "[J") (by decide +kernel)
  have k26 := hts (.fieldLink RX7 26 "RecordWireModel" "some" "[Z") (by decide +kernel)
  have k57 := hts (.fieldLink RX7 57 "RecordWireModel" "digest" "[I") (by decide +kernel)
  have k60 := hts (.fieldLink RX7 60 "RecordWireModel" "key" "[I") (by decide +kernel)
  have k63 := hts (.fieldLink RX7 63 "RecordWireModel" "other" "[I") (by decide +kernel)
  have k66 := hts (.fieldLink RX7 66 "RecordWireModel" "message" "[I") (by decide +kernel)
  have hl : lv_has ls 4 [(0, .ref (md 25)), (1, .int (nI d))] := hl
  refine lv_iconst (v := nI 0) hx hb dX7_makeKeys_0 (by decide +kernel) ?_
  refine lv_istore_n (lv' := [(2, .int (nI 0)), (0, .ref (md 25)), (1, .int (nI d))]) hx hb dX7_makeKeys_1 rfl hl (by decide) rfl (fun ls hl => ?_)
  have lp2 : ∀ (fu : Nat) (i : Nat), 32 - i < fu → (i ≤ 32) → ∀ (H : Heap) (locs : List Loc) (ls : Array Slot), WD g A s [(md 25, .inr (7, [.ref (md 0), .int (nI op), .ref (md 2), .ref (md 3), .ref (md 4), .ref (md 5), .ref (md 6), .ref (md 7), .ref (md 8), .ref (md 9), .ref (md 10), .ref (md 11), .int (nI on), .ref (md 13), .int (nI inn), .ref (md 15), .ref (md 16), .ref (md 17), .ref (md 18), .ref (md 19), .ref (md 20), .ref (md 21), .ref (md 22), .ref (md 23), .ref (md 24)])), (md 17, .inl (g.2.1 0, 400, .inl (rf))), (md 16, .inl (g.2.1 0, 64, .inl (wf))), (md 15, .inl (g.2.1 0, 8, .inl (sf))), (md 22, .inl (g.2.1 0, 64, .inl (kRW))), (md 18, .inl (g.2.1 0, 32, .inl (dg))), (md 19, .inl (g.2.1 0, 32, .inl (kf))), (md 20, .inl (g.2.1 0, 32, .inl (cpF otf dg i))), (md 21, .inl (g.2.1 0, 160, .inl (mf))), (md 2, .inl (g.2.1 0, 64, .inl (se))), (md 3, .inl (g.2.1 0, 64, .inl (te))), (md 5, .inl (g.2.1 1, 2, .inr (.inl (nxf)))), (md 6, .inl (g.2.1 2, 2, .inl (smf)))] [] H locs → lv_has ls 4 [(2, .int (nI i)), (0, .ref (md 25)), (1, .int (nI d))] → W p l e { frames := 4, cells := 0, slots := 0, locals := 99 } s m ar below meth c H locs 0 0 Q (F0 m 2 ls []) := by
    intro fu
    induction fu with
    | zero => intro i hmz; exact absurd hmz (Nat.not_lt_zero _)
    | succ fu ih =>
      intro i hms hi H locs ls hw hl
      refine lv_iload_n hx hb dX7_makeKeys_2 rfl (lv_at hl 0 rfl) ?_
      refine lv_bipush (v := nI 32) hx hb dX7_makeKeys_3 (by decide +kernel) ?_
      refine lv_icmp_ge (tgt := 26) hx hb dX7_makeKeys_5 (by decide) (fun c1 => ?_) (fun c1 => ?_)
      · skip
        have c1 : 32 ≤ i := (nI_leI (by omega) (by omega)).mp c1
        have hq : i = 32 := by omega
        have hwS2 := hw; have hlS3 := hl
        subst i
        have hw := hwS2; have hl := hlS3
        have hw := hw.cong 7 rfl (f' := dg) (cpF_at _ dg 32)
        have hw : WD g A s [(md 25, .inr (7, [.ref (md 0), .int (nI op), .ref (md 2), .ref (md 3), .ref (md 4), .ref (md 5), .ref (md 6), .ref (md 7), .ref (md 8), .ref (md 9), .ref (md 10), .ref (md 11), .int (nI on), .ref (md 13), .int (nI inn), .ref (md 15), .ref (md 16), .ref (md 17), .ref (md 18), .ref (md 19), .ref (md 20), .ref (md 21), .ref (md 22), .ref (md 23), .ref (md 24)])), (md 17, .inl (g.2.1 0, 400, .inl (rf))), (md 16, .inl (g.2.1 0, 64, .inl (wf))), (md 15, .inl (g.2.1 0, 8, .inl (sf))), (md 22, .inl (g.2.1 0, 64, .inl (kRW))), (md 18, .inl (g.2.1 0, 32, .inl (dg))), (md 19, .inl (g.2.1 0, 32, .inl (kf))), (md 20, .inl (g.2.1 0, 32, .inl (dg))), (md 21, .inl (g.2.1 0, 160, .inl (mf))), (md 2, .inl (g.2.1 0, 64, .inl (se))), (md 3, .inl (g.2.1 0, 64, .inl (te))), (md 5, .inl (g.2.1 1, 2, .inr (.inl (nxf)))), (md 6, .inl (g.2.1 2, 2, .inl (smf)))] [] _ _ := hw
        refine lv_iconst (v := nI 0) hx hb dX7_makeKeys_26 (by decide +kernel) ?_
        refine lv_istore_n (lv' := [(2, .int (nI 0)), (0, .ref (md 25)), (1, .int (nI d))]) hx hb dX7_makeKeys_27 rfl hl (by decide) rfl (fun ls hl => ?_)
        refine lv_iload_n hx hb dX7_makeKeys_28 rfl (lv_at hl 0 rfl) ?_
        refine lv_iconst (v := nI 2) hx hb dX7_makeKeys_29 (by decide +kernel) ?_
        refine lv_icmp_ge (tgt := 146) hx hb dX7_makeKeys_30 (by decide) (fun c4 => ?_) (fun c4 => ?_)
        · skip
          have c4 : 2 ≤ 0 := (nI_leI (by omega) (by omega)).mp c4
          exfalso; omega
        · skip
          have c4 : ¬ 2 ≤ 0 := fun q => c4 (((nI_leI (by omega) (by omega)).mpr q))
          refine lv_iconst (v := nI 0) hx hb dX7_makeKeys_33 (by decide +kernel) ?_
          refine lv_istore_n (lv' := [(3, .int (nI 0)), (2, .int (nI 0)), (0, .ref (md 25)), (1, .int (nI d))]) hx hb dX7_makeKeys_34 rfl hl (by decide) rfl (fun ls hl => ?_)
          have lp35 : ∀ (fu : Nat) (i : Nat), 32 - i < fu → (i ≤ 32) → ∀ (H : Heap) (locs : List Loc) (ls : Array Slot), WD g A s [(md 25, .inr (7, [.ref (md 0), .int (nI op), .ref (md 2), .ref (md 3), .ref (md 4), .ref (md 5), .ref (md 6), .ref (md 7), .ref (md 8), .ref (md 9), .ref (md 10), .ref (md 11), .int (nI on), .ref (md 13), .int (nI inn), .ref (md 15), .ref (md 16), .ref (md 17), .ref (md 18), .ref (md 19), .ref (md 20), .ref (md 21), .ref (md 22), .ref (md 23), .ref (md 24)])), (md 17, .inl (g.2.1 0, 400, .inl (rf))), (md 16, .inl (g.2.1 0, 64, .inl (wf))), (md 15, .inl (g.2.1 0, 8, .inl (sf))), (md 22, .inl (g.2.1 0, 64, .inl (kRW))), (md 18, .inl (g.2.1 0, 32, .inl (dg))), (md 19, .inl (g.2.1 0, 32, .inl (cpF kf dg i))), (md 20, .inl (g.2.1 0, 32, .inl (dg))), (md 21, .inl (g.2.1 0, 160, .inl (mf))), (md 2, .inl (g.2.1 0, 64, .inl (se))), (md 3, .inl (g.2.1 0, 64, .inl (te))), (md 5, .inl (g.2.1 1, 2, .inr (.inl (nxf)))), (md 6, .inl (g.2.1 2, 2, .inl (smf)))] [] H locs → lv_has ls 4 [(3, .int (nI i)), (0, .ref (md 25)), (1, .int (nI d)), (2, .int (nI 0))] → W p l e { frames := 4, cells := 0, slots := 0, locals := 99 } s m ar below meth c H locs 0 0 Q (F0 m 35 ls []) := by
            intro fu
            induction fu with
            | zero => intro i hmz; exact absurd hmz (Nat.not_lt_zero _)
            | succ fu ih =>
              intro i hms hi H locs ls hw hl
              refine lv_iload_n hx hb dX7_makeKeys_35 rfl (lv_at hl 0 rfl) ?_
              refine lv_bipush (v := nI 32) hx hb dX7_makeKeys_36 (by decide +kernel) ?_
              refine lv_icmp_ge (tgt := 59) hx hb dX7_makeKeys_38 (by decide) (fun c5 => ?_) (fun c5 => ?_)
              · skip
                have c5 : 32 ≤ i := (nI_leI (by omega) (by omega)).mp c5
                have hq : i = 32 := by omega
                have hwS6 := hw; have hlS7 := hl
                subst i
                have hw := hwS6; have hl := hlS7
                have hw := hw.cong 6 rfl (f' := dg) (cpF_at _ dg 32)
                have hw : WD g A s [(md 25, .inr (7, [.ref (md 0), .int (nI op), .ref (md 2), .ref (md 3), .ref (md 4), .ref (md 5), .ref (md 6), .ref (md 7), .ref (md 8), .ref (md 9), .ref (md 10), .ref (md 11), .int (nI on), .ref (md 13), .int (nI inn), .ref (md 15), .ref (md 16), .ref (md 17), .ref (md 18), .ref (md 19), .ref (md 20), .ref (md 21), .ref (md 22), .ref (md 23), .ref (md 24)])), (md 17, .inl (g.2.1 0, 400, .inl (rf))), (md 16, .inl (g.2.1 0, 64, .inl (wf))), (md 15, .inl (g.2.1 0, 8, .inl (sf))), (md 22, .inl (g.2.1 0, 64, .inl (kRW))), (md 18, .inl (g.2.1 0, 32, .inl (dg))), (md 19, .inl (g.2.1 0, 32, .inl (dg))), (md 20, .inl (g.2.1 0, 32, .inl (dg))), (md 21, .inl (g.2.1 0, 160, .inl (mf))), (md 2, .inl (g.2.1 0, 64, .inl (se))), (md 3, .inl (g.2.1 0, 64, .inl (te))), (md 5, .inl (g.2.1 1, 2, .inr (.inl (nxf)))), (md 6, .inl (g.2.1 2, 2, .inl (smf)))] [] _ _ := hw
                refine lv_aload_n hx hb dX7_makeKeys_59 rfl (lv_at hl 1 rfl) ?_
                refine r_get (ci := 7) (v := .ref (md 21)) (C := RX7) (T := TX7) (N := 25) hx hb hts hinX7 hown h0 hw 0 rfl rfl 21 (by decide) k66 rfl dX7_makeKeys_60 ?_
                refine lv_iconst (v := nI 0) hx hb dX7_makeKeys_63 (by decide +kernel) ?_
                refine lv_iload_n hx hb dX7_makeKeys_64 rfl (lv_at hl 2 rfl) ?_
                refine r_iast hx hb h0 hw 8 rfl (i := 0) (by omega) (by omega) dX7_makeKeys_65 (fun H locs hw => ?_)
                have hw : WD g A s [(md 25, .inr (7, [.ref (md 0), .int (nI op), .ref (md 2), .ref (md 3), .ref (md 4), .ref (md 5), .ref (md 6), .ref (md 7), .ref (md 8), .ref (md 9), .ref (md 10), .ref (md 11), .int (nI on), .ref (md 13), .int (nI inn), .ref (md 15), .ref (md 16), .ref (md 17), .ref (md 18), .ref (md 19), .ref (md 20), .ref (md 21), .ref (md 22), .ref (md 23), .ref (md 24)])), (md 17, .inl (g.2.1 0, 400, .inl (rf))), (md 16, .inl (g.2.1 0, 64, .inl (wf))), (md 15, .inl (g.2.1 0, 8, .inl (sf))), (md 22, .inl (g.2.1 0, 64, .inl (kRW))), (md 18, .inl (g.2.1 0, 32, .inl (dg))), (md 19, .inl (g.2.1 0, 32, .inl (dg))), (md 20, .inl (g.2.1 0, 32, .inl (dg))), (md 21, .inl (g.2.1 0, 160, .inl (upd mf 0 (nI d)))), (md 2, .inl (g.2.1 0, 64, .inl (se))), (md 3, .inl (g.2.1 0, 64, .inl (te))), (md 5, .inl (g.2.1 1, 2, .inr (.inl (nxf)))), (md 6, .inl (g.2.1 2, 2, .inl (smf)))] [] H locs := hw
                refine lv_aload_n hx hb dX7_makeKeys_66 rfl (lv_at hl 1 rfl) ?_
                refine r_get (ci := 7) (v := .ref (md 21)) (C := RX7) (T := TX7) (N := 25) hx hb hts hinX7 hown h0 hw 0 rfl rfl 21 (by decide) k66 rfl dX7_makeKeys_67 ?_
                refine lv_iconst (v := nI 1) hx hb dX7_makeKeys_70 (by decide +kernel) ?_
                refine lv_iload_n hx hb dX7_makeKeys_71 rfl (lv_at hl 3 rfl) ?_
                refine r_iast hx hb h0 hw 8 rfl (i := 1) (by omega) (by omega) dX7_makeKeys_72 (fun H locs hw => ?_)
                have hw : WD g A s [(md 25, .inr (7, [.ref (md 0), .int (nI op), .ref (md 2), .ref (md 3), .ref (md 4), .ref (md 5), .ref (md 6), .ref (md 7), .ref (md 8), .ref (md 9), .ref (md 10), .ref (md 11), .int (nI on), .ref (md 13), .int (nI inn), .ref (md 15), .ref (md 16), .ref (md 17), .ref (md 18), .ref (md 19), .ref (md 20), .ref (md 21), .ref (md 22), .ref (md 23), .ref (md 24)])), (md 17, .inl (g.2.1 0, 400, .inl (rf))), (md 16, .inl (g.2.1 0, 64, .inl (wf))), (md 15, .inl (g.2.1 0, 8, .inl (sf))), (md 22, .inl (g.2.1 0, 64, .inl (kRW))), (md 18, .inl (g.2.1 0, 32, .inl (dg))), (md 19, .inl (g.2.1 0, 32, .inl (dg))), (md 20, .inl (g.2.1 0, 32, .inl (dg))), (md 21, .inl (g.2.1 0, 160, .inl (upd (upd mf 0 (nI d)) 1 (nI 0)))), (md 2, .inl (g.2.1 0, 64, .inl (se))), (md 3, .inl (g.2.1 0, 64, .inl (te))), (md 5, .inl (g.2.1 1, 2, .inr (.inl (nxf)))), (md 6, .inl (g.2.1 2, 2, .inl (smf)))] [] H locs := hw
                refine lv_aload_n hx hb dX7_makeKeys_73 rfl (lv_at hl 1 rfl) ?_
                refine r_get (ci := 7) (v := .ref (md 21)) (C := RX7) (T := TX7) (N := 25) hx hb hts hinX7 hown h0 hw 0 rfl rfl 21 (by decide) k66 rfl dX7_makeKeys_74 ?_
                refine lv_iconst (v := nI 2) hx hb dX7_makeKeys_77 (by decide +kernel) ?_
                refine lv_iconst (v := nI 1) hx hb dX7_makeKeys_78 (by decide +kernel) ?_
                refine r_iast hx hb h0 hw 8 rfl (i := 2) (by omega) (by omega) dX7_makeKeys_79 (fun H locs hw => ?_)
                have hw : WD g A s [(md 25, .inr (7, [.ref (md 0), .int (nI op), .ref (md 2), .ref (md 3), .ref (md 4), .ref (md 5), .ref (md 6), .ref (md 7), .ref (md 8), .ref (md 9), .ref (md 10), .ref (md 11), .int (nI on), .ref (md 13), .int (nI inn), .ref (md 15), .ref (md 16), .ref (md 17), .ref (md 18), .ref (md 19), .ref (md 20), .ref (md 21), .ref (md 22), .ref (md 23), .ref (md 24)])), (md 17, .inl (g.2.1 0, 400, .inl (rf))), (md 16, .inl (g.2.1 0, 64, .inl (wf))), (md 15, .inl (g.2.1 0, 8, .inl (sf))), (md 22, .inl (g.2.1 0, 64, .inl (kRW))), (md 18, .inl (g.2.1 0, 32, .inl (dg))), (md 19, .inl (g.2.1 0, 32, .inl (dg))), (md 20, .inl (g.2.1 0, 32, .inl (dg))), (md 21, .inl (g.2.1 0, 160, .inl (upd (upd (upd mf 0 (nI d)) 1 (nI 0)) 2 (nI 1)))), (md 2, .inl (g.2.1 0, 64, .inl (se))), (md 3, .inl (g.2.1 0, 64, .inl (te))), (md 5, .inl (g.2.1 1, 2, .inr (.inl (nxf)))), (md 6, .inl (g.2.1 2, 2, .inl (smf)))] [] H locs := hw
                refine lv_aload_n hx hb dX7_makeKeys_80 rfl (lv_at hl 1 rfl) ?_
                refine lv_iconst (v := nI 3) hx hb dX7_makeKeys_81 (by decide +kernel) ?_
                refine r_callv (wr := [(md 20, .inl (g.2.1 0, 32, .inl (dg))), (md 2, .inl (g.2.1 0, 64, .inl (se))), (md 3, .inl (g.2.1 0, 64, .inl (te))), (md 5, .inl (g.2.1 1, 2, .inr (.inl (nxf)))), (md 6, .inl (g.2.1 2, 2, .inl (smf)))]) [0, 1, 2, 3, 4, 5, 6, 8] [7, 9, 10, 11, 12] h0 hw rfl rfl (by decide) (by decide) (va_runV (As := [.int (nI 3)]) (rest := []) ⟨hx, hb, hml, hown, hts⟩ (c_X7_hmac l g md op on inn rf wf sf dg dg (upd (upd (upd mf 0 (nI d)) 1 (nI 0)) 2 (nI 1)) 3 (by omega) _) (cwV 1 hts gX7_makeKeys_X7_hmac rfl rfl rfl (by decide +kernel) ⟨Nat.le_of_ble_eq_true rfl, Nat.le_of_ble_eq_true rfl⟩) (preV_of [0, 1, 2, 3, 4, 5, 6, 8] [.int (nI 3)] h0 hw rfl (by decide) 0 7 rfl rfl) rfl rfl hl.1 rfl (lv_room (Nat.le_of_ble_eq_true rfl)) dX7_makeKeys_82 ⟨Nat.le_of_ble_eq_true rfl, Nat.le_of_ble_eq_true rfl⟩) (fun u9 H locs hp10 hw => ?_)
                obtain ⟨r2_11, w2_12, s2_13⟩ := u9
                have hw : WD g A s [(md 20, .inl (g.2.1 0, 32, .inl (dg))), (md 2, .inl (g.2.1 0, 64, .inl (se))), (md 3, .inl (g.2.1 0, 64, .inl (te))), (md 5, .inl (g.2.1 1, 2, .inr (.inl (nxf)))), (md 6, .inl (g.2.1 2, 2, .inl (smf))), (md 25, .inr (7, [.ref (md 0), .int (nI op), .ref (md 2), .ref (md 3), .ref (md 4), .ref (md 5), .ref (md 6), .ref (md 7), .ref (md 8), .ref (md 9), .ref (md 10), .ref (md 11), .int (nI on), .ref (md 13), .int (nI inn), .ref (md 15), .ref (md 16), .ref (md 17), .ref (md 18), .ref (md 19), .ref (md 20), .ref (md 21), .ref (md 22), .ref (md 23), .ref (md 24)])), (md 17, .inl (g.2.1 0, 400, .inl (r2_11))), (md 16, .inl (g.2.1 0, 64, .inl (w2_12))), (md 15, .inl (g.2.1 0, 8, .inl (s2_13))), (md 22, .inl (g.2.1 0, 64, .inl (kRW))), (md 18, .inl (g.2.1 0, 32, .inl (hmv dg (upd (upd (upd mf 0 (nI d)) 1 (nI 0)) 2 (nI 1)) 3))), (md 19, .inl (g.2.1 0, 32, .inl (dg))), (md 21, .inl (g.2.1 0, 160, .inl (upd (upd (upd mf 0 (nI d)) 1 (nI 0)) 2 (nI 1))))] [] H locs := hw
                have hw := hw.cong 10 rfl (f' := keyD dg d 0) (hmv_cong EqB.rf (m3_of _ (nI d) (nI 0)))
                have hw : WD g A s [(md 20, .inl (g.2.1 0, 32, .inl (dg))), (md 2, .inl (g.2.1 0, 64, .inl (se))), (md 3, .inl (g.2.1 0, 64, .inl (te))), (md 5, .inl (g.2.1 1, 2, .inr (.inl (nxf)))), (md 6, .inl (g.2.1 2, 2, .inl (smf))), (md 25, .inr (7, [.ref (md 0), .int (nI op), .ref (md 2), .ref (md 3), .ref (md 4), .ref (md 5), .ref (md 6), .ref (md 7), .ref (md 8), .ref (md 9), .ref (md 10), .ref (md 11), .int (nI on), .ref (md 13), .int (nI inn), .ref (md 15), .ref (md 16), .ref (md 17), .ref (md 18), .ref (md 19), .ref (md 20), .ref (md 21), .ref (md 22), .ref (md 23), .ref (md 24)])), (md 17, .inl (g.2.1 0, 400, .inl (r2_11))), (md 16, .inl (g.2.1 0, 64, .inl (w2_12))), (md 15, .inl (g.2.1 0, 8, .inl (s2_13))), (md 22, .inl (g.2.1 0, 64, .inl (kRW))), (md 18, .inl (g.2.1 0, 32, .inl (keyD dg d 0))), (md 19, .inl (g.2.1 0, 32, .inl (dg))), (md 21, .inl (g.2.1 0, 160, .inl (upd (upd (upd mf 0 (nI d)) 1 (nI 0)) 2 (nI 1))))] [] _ _ := hw
                refine lv_iconst (v := nI 0) hx hb dX7_makeKeys_85 (by decide +kernel) ?_
                refine lv_istore_n (lv' := [(3, .int (nI 0)), (0, .ref (md 25)), (1, .int (nI d)), (2, .int (nI 0))]) hx hb dX7_makeKeys_86 rfl hl (by decide) rfl (fun ls hl => ?_)
                have lp87 : ∀ (fu : Nat) (i : Nat), 32 - i < fu → (i ≤ 32) → ∀ (H : Heap) (locs : List Loc) (ls : Array Slot), WD g A s [(md 20, .inl (g.2.1 0, 32, .inl (dg))), (md 2, .inl (g.2.1 0, 64, .inl (laid se (32 * d) (keyD dg d 0) i))), (md 3, .inl (g.2.1 0, 64, .inl (te))), (md 5, .inl (g.2.1 1, 2, .inr (.inl (nxf)))), (md 6, .inl (g.2.1 2, 2, .inl (smf))), (md 25, .inr (7, [.ref (md 0), .int (nI op), .ref (md 2), .ref (md 3), .ref (md 4), .ref (md 5), .ref (md 6), .ref (md 7), .ref (md 8), .ref (md 9), .ref (md 10), .ref (md 11), .int (nI on), .ref (md 13), .int (nI inn), .ref (md 15), .ref (md 16), .ref (md 17), .ref (md 18), .ref (md 19), .ref (md 20), .ref (md 21), .ref (md 22), .ref (md 23), .ref (md 24)])), (md 17, .inl (g.2.1 0, 400, .inl (r2_11))), (md 16, .inl (g.2.1 0, 64, .inl (w2_12))), (md 15, .inl (g.2.1 0, 8, .inl (s2_13))), (md 22, .inl (g.2.1 0, 64, .inl (kRW))), (md 18, .inl (g.2.1 0, 32, .inl (keyD dg d 0))), (md 19, .inl (g.2.1 0, 32, .inl (dg))), (md 21, .inl (g.2.1 0, 160, .inl (upd (upd (upd mf 0 (nI d)) 1 (nI 0)) 2 (nI 1))))] [] H locs → lv_has ls 4 [(3, .int (nI i)), (0, .ref (md 25)), (1, .int (nI d)), (2, .int (nI 0))] → W p l e { frames := 4, cells := 0, slots := 0, locals := 99 } s m ar below meth c H locs 0 0 Q (F0 m 87 ls []) := by
                  intro fu
                  induction fu with
                  | zero => intro i hmz; exact absurd hmz (Nat.not_lt_zero _)
                  | succ fu ih =>
                    intro i hms hi H locs ls hw hl
                    refine lv_iload_n hx hb dX7_makeKeys_87 rfl (lv_at hl 0 rfl) ?_
                    refine lv_bipush (v := nI 32) hx hb dX7_makeKeys_88 (by decide +kernel) ?_
                    refine lv_icmp_ge (tgt := 140) hx hb dX7_makeKeys_90 (by decide) (fun c14 => ?_) (fun c14 => ?_)
                    · skip
                      have c14 : 32 ≤ i := (nI_leI (by omega) (by omega)).mp c14
                      have hq : i = 32 := by omega
                      have hwS15 := hw; have hlS16 := hl
                      subst i
                      have hw := hwS15; have hl := hlS16
                      refine lv_iinc (v := nI 1) (lv' := [(2, .int (nI 1)), (3, .int (nI 32)), (0, .ref (md 25)), (1, .int (nI d))]) hx hb dX7_makeKeys_140 hl (k := 3) rfl (nI_add 0 1) (by decide) rfl (fun ls hl => ?_)
                      refine lv_goto (tgt := 28) hx hb dX7_makeKeys_143 (by decide) ?_
                      refine lv_iload_n hx hb dX7_makeKeys_28 rfl (lv_at hl 0 rfl) ?_
                      refine lv_iconst (v := nI 2) hx hb dX7_makeKeys_29 (by decide +kernel) ?_
                      refine lv_icmp_ge (tgt := 146) hx hb dX7_makeKeys_30 (by decide) (fun c17 => ?_) (fun c17 => ?_)
                      · skip
                        have c17 : 2 ≤ 1 := (nI_leI (by omega) (by omega)).mp c17
                        exfalso; omega
                      · skip
                        have c17 : ¬ 2 ≤ 1 := fun q => c17 (((nI_leI (by omega) (by omega)).mpr q))
                        refine lv_iconst (v := nI 0) hx hb dX7_makeKeys_33 (by decide +kernel) ?_
                        refine lv_istore_n (lv' := [(3, .int (nI 0)), (2, .int (nI 1)), (0, .ref (md 25)), (1, .int (nI d))]) hx hb dX7_makeKeys_34 rfl hl (by decide) rfl (fun ls hl => ?_)
                        have lp35 : ∀ (fu : Nat) (i : Nat), 32 - i < fu → (i ≤ 32) → ∀ (H : Heap) (locs : List Loc) (ls : Array Slot), WD g A s [(md 20, .inl (g.2.1 0, 32, .inl (dg))), (md 2, .inl (g.2.1 0, 64, .inl (laid se (32 * d) (keyD dg d 0) 32))), (md 3, .inl (g.2.1 0, 64, .inl (te))), (md 5, .inl (g.2.1 1, 2, .inr (.inl (nxf)))), (md 6, .inl (g.2.1 2, 2, .inl (smf))), (md 25, .inr (7, [.ref (md 0), .int (nI op), .ref (md 2), .ref (md 3), .ref (md 4), .ref (md 5), .ref (md 6), .ref (md 7), .ref (md 8), .ref (md 9), .ref (md 10), .ref (md 11), .int (nI on), .ref (md 13), .int (nI inn), .ref (md 15), .ref (md 16), .ref (md 17), .ref (md 18), .ref (md 19), .ref (md 20), .ref (md 21), .ref (md 22), .ref (md 23), .ref (md 24)])), (md 17, .inl (g.2.1 0, 400, .inl (r2_11))), (md 16, .inl (g.2.1 0, 64, .inl (w2_12))), (md 15, .inl (g.2.1 0, 8, .inl (s2_13))), (md 22, .inl (g.2.1 0, 64, .inl (kRW))), (md 18, .inl (g.2.1 0, 32, .inl (keyD dg d 0))), (md 19, .inl (g.2.1 0, 32, .inl (cpF dg dg i))), (md 21, .inl (g.2.1 0, 160, .inl (upd (upd (upd mf 0 (nI d)) 1 (nI 0)) 2 (nI 1))))] [] H locs → lv_has ls 4 [(3, .int (nI i)), (0, .ref (md 25)), (1, .int (nI d)), (2, .int (nI 1))] → W p l e { frames := 4, cells := 0, slots := 0, locals := 99 } s m ar below meth c H locs 0 0 Q (F0 m 35 ls []) := by
                          intro fu
                          induction fu with
                          | zero => intro i hmz; exact absurd hmz (Nat.not_lt_zero _)
                          | succ fu ih =>
                            intro i hms hi H locs ls hw hl
                            refine lv_iload_n hx hb dX7_makeKeys_35 rfl (lv_at hl 0 rfl) ?_
                            refine lv_bipush (v := nI 32) hx hb dX7_makeKeys_36 (by decide +kernel) ?_
                            refine lv_icmp_ge (tgt := 59) hx hb dX7_makeKeys_38 (by decide) (fun c18 => ?_) (fun c18 => ?_)
                            · skip
                              have c18 : 32 ≤ i := (nI_leI (by omega) (by omega)).mp c18
                              have hq : i = 32 := by omega
                              have hwS19 := hw; have hlS20 := hl
                              subst i
                              have hw := hwS19; have hl := hlS20
                              have hw := hw.cong 11 rfl (f' := dg) (cpF_at _ dg 32)
                              have hw : WD g A s [(md 20, .inl (g.2.1 0, 32, .inl (dg))), (md 2, .inl (g.2.1 0, 64, .inl (laid se (32 * d) (keyD dg d 0) 32))), (md 3, .inl (g.2.1 0, 64, .inl (te))), (md 5, .inl (g.2.1 1, 2, .inr (.inl (nxf)))), (md 6, .inl (g.2.1 2, 2, .inl (smf))), (md 25, .inr (7, [.ref (md 0), .int (nI op), .ref (md 2), .ref (md 3), .ref (md 4), .ref (md 5), .ref (md 6), .ref (md 7), .ref (md 8), .ref (md 9), .ref (md 10), .ref (md 11), .int (nI on), .ref (md 13), .int (nI inn), .ref (md 15), .ref (md 16), .ref (md 17), .ref (md 18), .ref (md 19), .ref (md 20), .ref (md 21), .ref (md 22), .ref (md 23), .ref (md 24)])), (md 17, .inl (g.2.1 0, 400, .inl (r2_11))), (md 16, .inl (g.2.1 0, 64, .inl (w2_12))), (md 15, .inl (g.2.1 0, 8, .inl (s2_13))), (md 22, .inl (g.2.1 0, 64, .inl (kRW))), (md 18, .inl (g.2.1 0, 32, .inl (keyD dg d 0))), (md 19, .inl (g.2.1 0, 32, .inl (dg))), (md 21, .inl (g.2.1 0, 160, .inl (upd (upd (upd mf 0 (nI d)) 1 (nI 0)) 2 (nI 1))))] [] _ _ := hw
                              refine lv_aload_n hx hb dX7_makeKeys_59 rfl (lv_at hl 1 rfl) ?_
                              refine r_get (ci := 7) (v := .ref (md 21)) (C := RX7) (T := TX7) (N := 25) hx hb hts hinX7 hown h0 hw 5 rfl rfl 21 (by decide) k66 rfl dX7_makeKeys_60 ?_
                              refine lv_iconst (v := nI 0) hx hb dX7_makeKeys_63 (by decide +kernel) ?_
                              refine lv_iload_n hx hb dX7_makeKeys_64 rfl (lv_at hl 2 rfl) ?_
                              refine r_iast hx hb h0 hw 12 rfl (i := 0) (by omega) (by omega) dX7_makeKeys_65 (fun H locs hw => ?_)
                              have hw : WD g A s [(md 20, .inl (g.2.1 0, 32, .inl (dg))), (md 2, .inl (g.2.1 0, 64, .inl (laid se (32 * d) (keyD dg d 0) 32))), (md 3, .inl (g.2.1 0, 64, .inl (te))), (md 5, .inl (g.2.1 1, 2, .inr (.inl (nxf)))), (md 6, .inl (g.2.1 2, 2, .inl (smf))), (md 25, .inr (7, [.ref (md 0), .int (nI op), .ref (md 2), .ref (md 3), .ref (md 4), .ref (md 5), .ref (md 6), .ref (md 7), .ref (md 8), .ref (md 9), .ref (md 10), .ref (md 11), .int (nI on), .ref (md 13), .int (nI inn), .ref (md 15), .ref (md 16), .ref (md 17), .ref (md 18), .ref (md 19), .ref (md 20), .ref (md 21), .ref (md 22), .ref (md 23), .ref (md 24)])), (md 17, .inl (g.2.1 0, 400, .inl (r2_11))), (md 16, .inl (g.2.1 0, 64, .inl (w2_12))), (md 15, .inl (g.2.1 0, 8, .inl (s2_13))), (md 22, .inl (g.2.1 0, 64, .inl (kRW))), (md 18, .inl (g.2.1 0, 32, .inl (keyD dg d 0))), (md 19, .inl (g.2.1 0, 32, .inl (dg))), (md 21, .inl (g.2.1 0, 160, .inl (upd (upd (upd (upd mf 0 (nI d)) 1 (nI 0)) 2 (nI 1)) 0 (nI d))))] [] H locs := hw
                              refine lv_aload_n hx hb dX7_makeKeys_66 rfl (lv_at hl 1 rfl) ?_
                              refine r_get (ci := 7) (v := .ref (md 21)) (C := RX7) (T := TX7) (N := 25) hx hb hts hinX7 hown h0 hw 5 rfl rfl 21 (by decide) k66 rfl dX7_makeKeys_67 ?_
                              refine lv_iconst (v := nI 1) hx hb dX7_makeKeys_70 (by decide +kernel) ?_
                              refine lv_iload_n hx hb dX7_makeKeys_71 rfl (lv_at hl 3 rfl) ?_
                              refine r_iast hx hb h0 hw 12 rfl (i := 1) (by omega) (by omega) dX7_makeKeys_72 (fun H locs hw => ?_)
                              have hw : WD g A s [(md 20, .inl (g.2.1 0, 32, .inl (dg))), (md 2, .inl (g.2.1 0, 64, .inl (laid se (32 * d) (keyD dg d 0) 32))), (md 3, .inl (g.2.1 0, 64, .inl (te))), (md 5, .inl (g.2.1 1, 2, .inr (.inl (nxf)))), (md 6, .inl (g.2.1 2, 2, .inl (smf))), (md 25, .inr (7, [.ref (md 0), .int (nI op), .ref (md 2), .ref (md 3), .ref (md 4), .ref (md 5), .ref (md 6), .ref (md 7), .ref (md 8), .ref (md 9), .ref (md 10), .ref (md 11), .int (nI on), .ref (md 13), .int (nI inn), .ref (md 15), .ref (md 16), .ref (md 17), .ref (md 18), .ref (md 19), .ref (md 20), .ref (md 21), .ref (md 22), .ref (md 23), .ref (md 24)])), (md 17, .inl (g.2.1 0, 400, .inl (r2_11))), (md 16, .inl (g.2.1 0, 64, .inl (w2_12))), (md 15, .inl (g.2.1 0, 8, .inl (s2_13))), (md 22, .inl (g.2.1 0, 64, .inl (kRW))), (md 18, .inl (g.2.1 0, 32, .inl (keyD dg d 0))), (md 19, .inl (g.2.1 0, 32, .inl (dg))), (md 21, .inl (g.2.1 0, 160, .inl (upd (upd (upd (upd (upd mf 0 (nI d)) 1 (nI 0)) 2 (nI 1)) 0 (nI d)) 1 (nI 1))))] [] H locs := hw
                              refine lv_aload_n hx hb dX7_makeKeys_73 rfl (lv_at hl 1 rfl) ?_
                              refine r_get (ci := 7) (v := .ref (md 21)) (C := RX7) (T := TX7) (N := 25) hx hb hts hinX7 hown h0 hw 5 rfl rfl 21 (by decide) k66 rfl dX7_makeKeys_74 ?_
                              refine lv_iconst (v := nI 2) hx hb dX7_makeKeys_77 (by decide +kernel) ?_
                              refine lv_iconst (v := nI 1) hx hb dX7_makeKeys_78 (by decide +kernel) ?_
                              refine r_iast hx hb h0 hw 12 rfl (i := 2) (by omega) (by omega) dX7_makeKeys_79 (fun H locs hw => ?_)
                              have hw : WD g A s [(md 20, .inl (g.2.1 0, 32, .inl (dg))), (md 2, .inl (g.2.1 0, 64, .inl (laid se (32 * d) (keyD dg d 0) 32))), (md 3, .inl (g.2.1 0, 64, .inl (te))), (md 5, .inl (g.2.1 1, 2, .inr (.inl (nxf)))), (md 6, .inl (g.2.1 2, 2, .inl (smf))), (md 25, .inr (7, [.ref (md 0), .int (nI op), .ref (md 2), .ref (md 3), .ref (md 4), .ref (md 5), .ref (md 6), .ref (md 7), .ref (md 8), .ref (md 9), .ref (md 10), .ref (md 11), .int (nI on), .ref (md 13), .int (nI inn), .ref (md 15), .ref (md 16), .ref (md 17), .ref (md 18), .ref (md 19), .ref (md 20), .ref (md 21), .ref (md 22), .ref (md 23), .ref (md 24)])), (md 17, .inl (g.2.1 0, 400, .inl (r2_11))), (md 16, .inl (g.2.1 0, 64, .inl (w2_12))), (md 15, .inl (g.2.1 0, 8, .inl (s2_13))), (md 22, .inl (g.2.1 0, 64, .inl (kRW))), (md 18, .inl (g.2.1 0, 32, .inl (keyD dg d 0))), (md 19, .inl (g.2.1 0, 32, .inl (dg))), (md 21, .inl (g.2.1 0, 160, .inl (upd (upd (upd (upd (upd (upd mf 0 (nI d)) 1 (nI 0)) 2 (nI 1)) 0 (nI d)) 1 (nI 1)) 2 (nI 1))))] [] H locs := hw
                              refine lv_aload_n hx hb dX7_makeKeys_80 rfl (lv_at hl 1 rfl) ?_
                              refine lv_iconst (v := nI 3) hx hb dX7_makeKeys_81 (by decide +kernel) ?_
                              refine r_callv (wr := [(md 20, .inl (g.2.1 0, 32, .inl (dg))), (md 2, .inl (g.2.1 0, 64, .inl (laid se (32 * d) (keyD dg d 0) 32))), (md 3, .inl (g.2.1 0, 64, .inl (te))), (md 5, .inl (g.2.1 1, 2, .inr (.inl (nxf)))), (md 6, .inl (g.2.1 2, 2, .inl (smf)))]) [5, 6, 7, 8, 9, 10, 11, 12] [0, 1, 2, 3, 4] h0 hw rfl rfl (by decide) (by decide) (va_runV (As := [.int (nI 3)]) (rest := []) ⟨hx, hb, hml, hown, hts⟩ (c_X7_hmac l g md op on inn r2_11 w2_12 s2_13 (keyD dg d 0) dg (upd (upd (upd (upd (upd (upd mf 0 (nI d)) 1 (nI 0)) 2 (nI 1)) 0 (nI d)) 1 (nI 1)) 2 (nI 1)) 3 (by omega) _) (cwV 1 hts gX7_makeKeys_X7_hmac rfl rfl rfl (by decide +kernel) ⟨Nat.le_of_ble_eq_true rfl, Nat.le_of_ble_eq_true rfl⟩) (preV_of [5, 6, 7, 8, 9, 10, 11, 12] [.int (nI 3)] h0 hw rfl (by decide) 5 7 rfl rfl) rfl rfl hl.1 rfl (lv_room (Nat.le_of_ble_eq_true rfl)) dX7_makeKeys_82 ⟨Nat.le_of_ble_eq_true rfl, Nat.le_of_ble_eq_true rfl⟩) (fun u22 H locs hp23 hw => ?_)
                              obtain ⟨r2_24, w2_25, s2_26⟩ := u22
                              have hw : WD g A s [(md 20, .inl (g.2.1 0, 32, .inl (dg))), (md 2, .inl (g.2.1 0, 64, .inl (laid se (32 * d) (keyD dg d 0) 32))), (md 3, .inl (g.2.1 0, 64, .inl (te))), (md 5, .inl (g.2.1 1, 2, .inr (.inl (nxf)))), (md 6, .inl (g.2.1 2, 2, .inl (smf))), (md 25, .inr (7, [.ref (md 0), .int (nI op), .ref (md 2), .ref (md 3), .ref (md 4), .ref (md 5), .ref (md 6), .ref (md 7), .ref (md 8), .ref (md 9), .ref (md 10), .ref (md 11), .int (nI on), .ref (md 13), .int (nI inn), .ref (md 15), .ref (md 16), .ref (md 17), .ref (md 18), .ref (md 19), .ref (md 20), .ref (md 21), .ref (md 22), .ref (md 23), .ref (md 24)])), (md 17, .inl (g.2.1 0, 400, .inl (r2_24))), (md 16, .inl (g.2.1 0, 64, .inl (w2_25))), (md 15, .inl (g.2.1 0, 8, .inl (s2_26))), (md 22, .inl (g.2.1 0, 64, .inl (kRW))), (md 18, .inl (g.2.1 0, 32, .inl (hmv dg (upd (upd (upd (upd (upd (upd mf 0 (nI d)) 1 (nI 0)) 2 (nI 1)) 0 (nI d)) 1 (nI 1)) 2 (nI 1)) 3))), (md 19, .inl (g.2.1 0, 32, .inl (dg))), (md 21, .inl (g.2.1 0, 160, .inl (upd (upd (upd (upd (upd (upd mf 0 (nI d)) 1 (nI 0)) 2 (nI 1)) 0 (nI d)) 1 (nI 1)) 2 (nI 1))))] [] H locs := hw
                              have hw := hw.cong 10 rfl (f' := keyD dg d 1) (hmv_cong EqB.rf (m3_of _ (nI d) (nI 1)))
                              have hw : WD g A s [(md 20, .inl (g.2.1 0, 32, .inl (dg))), (md 2, .inl (g.2.1 0, 64, .inl (laid se (32 * d) (keyD dg d 0) 32))), (md 3, .inl (g.2.1 0, 64, .inl (te))), (md 5, .inl (g.2.1 1, 2, .inr (.inl (nxf)))), (md 6, .inl (g.2.1 2, 2, .inl (smf))), (md 25, .inr (7, [.ref (md 0), .int (nI op), .ref (md 2), .ref (md 3), .ref (md 4), .ref (md 5), .ref (md 6), .ref (md 7), .ref (md 8), .ref (md 9), .ref (md 10), .ref (md 11), .int (nI on), .ref (md 13), .int (nI inn), .ref (md 15), .ref (md 16), .ref (md 17), .ref (md 18), .ref (md 19), .ref (md 20), .ref (md 21), .ref (md 22), .ref (md 23), .ref (md 24)])), (md 17, .inl (g.2.1 0, 400, .inl (r2_24))), (md 16, .inl (g.2.1 0, 64, .inl (w2_25))), (md 15, .inl (g.2.1 0, 8, .inl (s2_26))), (md 22, .inl (g.2.1 0, 64, .inl (kRW))), (md 18, .inl (g.2.1 0, 32, .inl (keyD dg d 1))), (md 19, .inl (g.2.1 0, 32, .inl (dg))), (md 21, .inl (g.2.1 0, 160, .inl (upd (upd (upd (upd (upd (upd mf 0 (nI d)) 1 (nI 0)) 2 (nI 1)) 0 (nI d)) 1 (nI 1)) 2 (nI 1))))] [] _ _ := hw
                              refine lv_iconst (v := nI 0) hx hb dX7_makeKeys_85 (by decide +kernel) ?_
                              refine lv_istore_n (lv' := [(3, .int (nI 0)), (0, .ref (md 25)), (1, .int (nI d)), (2, .int (nI 1))]) hx hb dX7_makeKeys_86 rfl hl (by decide) rfl (fun ls hl => ?_)
                              have lp87 : ∀ (fu : Nat) (i : Nat), 32 - i < fu → (i ≤ 32) → ∀ (H : Heap) (locs : List Loc) (ls : Array Slot), WD g A s [(md 20, .inl (g.2.1 0, 32, .inl (dg))), (md 2, .inl (g.2.1 0, 64, .inl (laid se (32 * d) (keyD dg d 0) 32))), (md 3, .inl (g.2.1 0, 64, .inl (laid te (32 * d) (keyD dg d 1) i))), (md 5, .inl (g.2.1 1, 2, .inr (.inl (nxf)))), (md 6, .inl (g.2.1 2, 2, .inl (smf))), (md 25, .inr (7, [.ref (md 0), .int (nI op), .ref (md 2), .ref (md 3), .ref (md 4), .ref (md 5), .ref (md 6), .ref (md 7), .ref (md 8), .ref (md 9), .ref (md 10), .ref (md 11), .int (nI on), .ref (md 13), .int (nI inn), .ref (md 15), .ref (md 16), .ref (md 17), .ref (md 18), .ref (md 19), .ref (md 20), .ref (md 21), .ref (md 22), .ref (md 23), .ref (md 24)])), (md 17, .inl (g.2.1 0, 400, .inl (r2_24))), (md 16, .inl (g.2.1 0, 64, .inl (w2_25))), (md 15, .inl (g.2.1 0, 8, .inl (s2_26))), (md 22, .inl (g.2.1 0, 64, .inl (kRW))), (md 18, .inl (g.2.1 0, 32, .inl (keyD dg d 1))), (md 19, .inl (g.2.1 0, 32, .inl (dg))), (md 21, .inl (g.2.1 0, 160, .inl (upd (upd (upd (upd (upd (upd mf 0 (nI d)) 1 (nI 0)) 2 (nI 1)) 0 (nI d)) 1 (nI 1)) 2 (nI 1))))] [] H locs → lv_has ls 4 [(3, .int (nI i)), (0, .ref (md 25)), (1, .int (nI d)), (2, .int (nI 1))] → W p l e { frames := 4, cells := 0, slots := 0, locals := 99 } s m ar below meth c H locs 0 0 Q (F0 m 87 ls []) := by
                                intro fu
                                induction fu with
                                | zero => intro i hmz; exact absurd hmz (Nat.not_lt_zero _)
                                | succ fu ih =>
                                  intro i hms hi H locs ls hw hl
                                  refine lv_iload_n hx hb dX7_makeKeys_87 rfl (lv_at hl 0 rfl) ?_
                                  refine lv_bipush (v := nI 32) hx hb dX7_makeKeys_88 (by decide +kernel) ?_
                                  refine lv_icmp_ge (tgt := 140) hx hb dX7_makeKeys_90 (by decide) (fun c27 => ?_) (fun c27 => ?_)
                                  · skip
                                    have c27 : 32 ≤ i := (nI_leI (by omega) (by omega)).mp c27
                                    have hq : i = 32 := by omega
                                    have hwS28 := hw; have hlS29 := hl
                                    subst i
                                    have hw := hwS28; have hl := hlS29
                                    refine lv_iinc (v := nI 2) (lv' := [(2, .int (nI 2)), (3, .int (nI 32)), (0, .ref (md 25)), (1, .int (nI d))]) hx hb dX7_makeKeys_140 hl (k := 3) rfl (nI_add 1 1) (by decide) rfl (fun ls hl => ?_)
                                    refine lv_goto (tgt := 28) hx hb dX7_makeKeys_143 (by decide) ?_
                                    refine lv_iload_n hx hb dX7_makeKeys_28 rfl (lv_at hl 0 rfl) ?_
                                    refine lv_iconst (v := nI 2) hx hb dX7_makeKeys_29 (by decide +kernel) ?_
                                    refine lv_icmp_ge (tgt := 146) hx hb dX7_makeKeys_30 (by decide) (fun c30 => ?_) (fun c30 => ?_)
                                    · skip
                                      have c30 : 2 ≤ 2 := (nI_leI (by omega) (by omega)).mp c30
                                      refine lv_aload_n hx hb dX7_makeKeys_146 rfl (lv_at hl 2 rfl) ?_
                                      refine r_get (ci := 7) (v := .ref (md 5)) (C := RX7) (T := TX7) (N := 25) hx hb hts hinX7 hown h0 hw 5 rfl rfl 5 (by decide) k22 rfl dX7_makeKeys_147 ?_
                                      refine lv_iload_n hx hb dX7_makeKeys_150 rfl (lv_at hl 3 rfl) ?_
                                      refine lv_lconst (v := 0) hx hb dX7_makeKeys_151 (by decide +kernel) ?_
                                      refine r_last hx hb h0 hw 3 rfl (i := d) (by omega) (by omega) dX7_makeKeys_152 (fun H locs hw => ?_)
                                      have hw : WD g A s [(md 20, .inl (g.2.1 0, 32, .inl (dg))), (md 2, .inl (g.2.1 0, 64, .inl (laid se (32 * d) (keyD dg d 0) 32))), (md 3, .inl (g.2.1 0, 64, .inl (laid te (32 * d) (keyD dg d 1) 32))), (md 5, .inl (g.2.1 1, 2, .inr (.inl (vp_updL nxf d 0)))), (md 6, .inl (g.2.1 2, 2, .inl (smf))), (md 25, .inr (7, [.ref (md 0), .int (nI op), .ref (md 2), .ref (md 3), .ref (md 4), .ref (md 5), .ref (md 6), .ref (md 7), .ref (md 8), .ref (md 9), .ref (md 10), .ref (md 11), .int (nI on), .ref (md 13), .int (nI inn), .ref (md 15), .ref (md 16), .ref (md 17), .ref (md 18), .ref (md 19), .ref (md 20), .ref (md 21), .ref (md 22), .ref (md 23), .ref (md 24)])), (md 17, .inl (g.2.1 0, 400, .inl (r2_24))), (md 16, .inl (g.2.1 0, 64, .inl (w2_25))), (md 15, .inl (g.2.1 0, 8, .inl (s2_26))), (md 22, .inl (g.2.1 0, 64, .inl (kRW))), (md 18, .inl (g.2.1 0, 32, .inl (keyD dg d 1))), (md 19, .inl (g.2.1 0, 32, .inl (dg))), (md 21, .inl (g.2.1 0, 160, .inl (upd (upd (upd (upd (upd (upd mf 0 (nI d)) 1 (nI 0)) 2 (nI 1)) 0 (nI d)) 1 (nI 1)) 2 (nI 1))))] [] H locs := hw
                                      refine lv_aload_n hx hb dX7_makeKeys_153 rfl (lv_at hl 2 rfl) ?_
                                      refine r_get (ci := 7) (v := .ref (md 6)) (C := RX7) (T := TX7) (N := 25) hx hb hts hinX7 hown h0 hw 5 rfl rfl 6 (by decide) k26 rfl dX7_makeKeys_154 ?_
                                      refine lv_iload_n hx hb dX7_makeKeys_157 rfl (lv_at hl 3 rfl) ?_
                                      refine lv_iconst (v := nI 0) hx hb dX7_makeKeys_158 (by decide +kernel) ?_
                                      refine r_zast hx hb h0 hw 4 rfl (i := d) (by decide +kernel) (by omega) (by omega) dX7_makeKeys_159 (fun H locs hw => ?_)
                                      have hw : WD g A s [(md 20, .inl (g.2.1 0, 32, .inl (dg))), (md 2, .inl (g.2.1 0, 64, .inl (laid se (32 * d) (keyD dg d 0) 32))), (md 3, .inl (g.2.1 0, 64, .inl (laid te (32 * d) (keyD dg d 1) 32))), (md 5, .inl (g.2.1 1, 2, .inr (.inl (vp_updL nxf d 0)))), (md 6, .inl (g.2.1 2, 2, .inl (upd smf d (nI 0)))), (md 25, .inr (7, [.ref (md 0), .int (nI op), .ref (md 2), .ref (md 3), .ref (md 4), .ref (md 5), .ref (md 6), .ref (md 7), .ref (md 8), .ref (md 9), .ref (md 10), .ref (md 11), .int (nI on), .ref (md 13), .int (nI inn), .ref (md 15), .ref (md 16), .ref (md 17), .ref (md 18), .ref (md 19), .ref (md 20), .ref (md 21), .ref (md 22), .ref (md 23), .ref (md 24)])), (md 17, .inl (g.2.1 0, 400, .inl (r2_24))), (md 16, .inl (g.2.1 0, 64, .inl (w2_25))), (md 15, .inl (g.2.1 0, 8, .inl (s2_26))), (md 22, .inl (g.2.1 0, 64, .inl (kRW))), (md 18, .inl (g.2.1 0, 32, .inl (keyD dg d 1))), (md 19, .inl (g.2.1 0, 32, .inl (dg))), (md 21, .inl (g.2.1 0, 160, .inl (upd (upd (upd (upd (upd (upd mf 0 (nI d)) 1 (nI 0)) 2 (nI 1)) 0 (nI d)) 1 (nI 1)) 2 (nI 1))))] [] H locs := hw
                                      exact hret (hw.perm (X' := [(md 25, .inr (7, [.ref (md 0), .int (nI op), .ref (md 2), .ref (md 3), .ref (md 4), .ref (md 5), .ref (md 6), .ref (md 7), .ref (md 8), .ref (md 9), .ref (md 10), .ref (md 11), .int (nI on), .ref (md 13), .int (nI inn), .ref (md 15), .ref (md 16), .ref (md 17), .ref (md 18), .ref (md 19), .ref (md 20), .ref (md 21), .ref (md 22), .ref (md 23), .ref (md 24)])), (md 17, .inl (g.2.1 0, 400, .inl (r2_24))), (md 16, .inl (g.2.1 0, 64, .inl (w2_25))), (md 15, .inl (g.2.1 0, 8, .inl (s2_26))), (md 22, .inl (g.2.1 0, 64, .inl (kRW))), (md 18, .inl (g.2.1 0, 32, .inl (keyD dg d 1))), (md 19, .inl (g.2.1 0, 32, .inl (dg))), (md 20, .inl (g.2.1 0, 32, .inl (dg))), (md 21, .inl (g.2.1 0, 160, .inl (upd (upd (upd (upd (upd (upd mf 0 (nI d)) 1 (nI 0)) 2 (nI 1)) 0 (nI d)) 1 (nI 1)) 2 (nI 1)))), (md 2, .inl (g.2.1 0, 64, .inl (laid se (32 * d) (keyD dg d 0) 32))), (md 3, .inl (g.2.1 0, 64, .inl (laid te (32 * d) (keyD dg d 1) 32))), (md 5, .inl (g.2.1 1, 2, .inr (.inl (vp_updL nxf d 0)))), (md 6, .inl (g.2.1 2, 2, .inl (upd smf d (nI 0))))]) [5, 6, 7, 8, 9, 10, 11, 0, 12, 1, 2, 3, 4] (by decide) rfl) (r2_24, w2_25, s2_26, keyD dg d 1, dg, dg, upd (upd (upd (upd (upd (upd mf 0 (nI d)) 1 (nI 0)) 2 (nI 1)) 0 (nI d)) 1 (nI 1)) 2 (nI 1)) (trivial) (rfl) (by omega) (by omega) dX7_makeKeys_160
                                    · skip
                                      have c30 : ¬ 2 ≤ 2 := fun q => c30 (((nI_leI (by omega) (by omega)).mpr q))
                                      exfalso; omega
                                  · skip
                                    have c27 : ¬ 32 ≤ i := fun q => c27 (((nI_leI (by omega) (by omega)).mpr q))
                                    refine lv_iload_n hx hb dX7_makeKeys_93 rfl (lv_at hl 3 rfl) ?_
                                    refine lv_if_ne (tgt := 117) hx hb dX7_makeKeys_94 (by decide) (fun c31 => ?_) (fun c31 => ?_)
                                    · skip
                                      rw [← nI_0] at c31
                                      have c31 : ¬ 1 = 0 := fun q => c31 (((nI_eq (by omega) (by omega)).mpr q))
                                      refine lv_aload_n hx hb dX7_makeKeys_117 rfl (lv_at hl 1 rfl) ?_
                                      refine r_get (ci := 7) (v := .ref (md 3)) (C := RX7) (T := TX7) (N := 25) hx hb hts hinX7 hown h0 hw 5 rfl rfl 3 (by decide) k16 rfl dX7_makeKeys_118 ?_
                                      refine lv_bipush (v := nI 32) hx hb dX7_makeKeys_121 (by decide +kernel) ?_
                                      refine lv_iload_n hx hb dX7_makeKeys_123 rfl (lv_at hl 2 rfl) ?_
                                      refine lv_imul hx hb dX7_makeKeys_124 ?_
                                      refine r_te (y := nI (32 * d)) (pk_mul 32 d) ?_
                                      refine lv_iload_n hx hb dX7_makeKeys_125 rfl (lv_at hl 0 rfl) ?_
                                      refine lv_iadd hx hb dX7_makeKeys_126 ?_
                                      refine r_te (y := nI (32 * d + i)) (nI_add (32 * d) i) ?_
                                      refine lv_aload_n hx hb dX7_makeKeys_127 rfl (lv_at hl 1 rfl) ?_
                                      refine r_get (ci := 7) (v := .ref (md 18)) (C := RX7) (T := TX7) (N := 25) hx hb hts hinX7 hown h0 hw 5 rfl rfl 18 (by decide) k57 rfl dX7_makeKeys_128 ?_
                                      refine lv_iload_n hx hb dX7_makeKeys_131 rfl (lv_at hl 0 rfl) ?_
                                      refine r_iald hx hb h0 hw 10 rfl (i := i) (by omega) (by omega) dX7_makeKeys_132 ?_
                                      refine r_iast hx hb h0 hw 2 rfl (i := 32 * d + i) (by omega) (by omega) dX7_makeKeys_133 (fun H locs hw => ?_)
                                      have hw : WD g A s [(md 20, .inl (g.2.1 0, 32, .inl (dg))), (md 2, .inl (g.2.1 0, 64, .inl (laid se (32 * d) (keyD dg d 0) 32))), (md 3, .inl (g.2.1 0, 64, .inl (upd (laid te (32 * d) (keyD dg d 1) i) (32 * d + i) ((keyD dg d 1) i)))), (md 5, .inl (g.2.1 1, 2, .inr (.inl (nxf)))), (md 6, .inl (g.2.1 2, 2, .inl (smf))), (md 25, .inr (7, [.ref (md 0), .int (nI op), .ref (md 2), .ref (md 3), .ref (md 4), .ref (md 5), .ref (md 6), .ref (md 7), .ref (md 8), .ref (md 9), .ref (md 10), .ref (md 11), .int (nI on), .ref (md 13), .int (nI inn), .ref (md 15), .ref (md 16), .ref (md 17), .ref (md 18), .ref (md 19), .ref (md 20), .ref (md 21), .ref (md 22), .ref (md 23), .ref (md 24)])), (md 17, .inl (g.2.1 0, 400, .inl (r2_24))), (md 16, .inl (g.2.1 0, 64, .inl (w2_25))), (md 15, .inl (g.2.1 0, 8, .inl (s2_26))), (md 22, .inl (g.2.1 0, 64, .inl (kRW))), (md 18, .inl (g.2.1 0, 32, .inl (keyD dg d 1))), (md 19, .inl (g.2.1 0, 32, .inl (dg))), (md 21, .inl (g.2.1 0, 160, .inl (upd (upd (upd (upd (upd (upd mf 0 (nI d)) 1 (nI 0)) 2 (nI 1)) 0 (nI d)) 1 (nI 1)) 2 (nI 1))))] [] H locs := hw
                                      refine lv_iinc (v := nI (i + 1)) (lv' := [(3, .int (nI (i + 1))), (0, .ref (md 25)), (1, .int (nI d)), (2, .int (nI 1))]) hx hb dX7_makeKeys_134 hl (k := 0) rfl (nI_add i 1) (by decide) rfl (fun ls hl => ?_)
                                      refine lv_goto (tgt := 87) hx hb dX7_makeKeys_137 (by decide) ?_
                                      exact ih (i + 1) (by omega) (by omega) _ _ _ hw (lv_sub hl [0, 1, 2, 3] rfl)
                                    · skip
                                      rw [← nI_0] at c31
                                      have c31 : 1 = 0 := (nI_eq (by omega) (by omega)).mp c31
                                      exfalso; omega
                              exact lp87 (32 - 0 + 1) 0 (by omega) (by omega) _ _ _ hw (lv_sub hl [0, 1, 2, 3] rfl)
                            · skip
                              have c18 : ¬ 32 ≤ i := fun q => c18 (((nI_leI (by omega) (by omega)).mpr q))
                              refine lv_aload_n hx hb dX7_makeKeys_41 rfl (lv_at hl 1 rfl) ?_
                              refine r_get (ci := 7) (v := .ref (md 19)) (C := RX7) (T := TX7) (N := 25) hx hb hts hinX7 hown h0 hw 5 rfl rfl 19 (by decide) k60 rfl dX7_makeKeys_42 ?_
                              refine lv_iload_n hx hb dX7_makeKeys_45 rfl (lv_at hl 0 rfl) ?_
                              refine lv_aload_n hx hb dX7_makeKeys_46 rfl (lv_at hl 1 rfl) ?_
                              refine r_get (ci := 7) (v := .ref (md 20)) (C := RX7) (T := TX7) (N := 25) hx hb hts hinX7 hown h0 hw 5 rfl rfl 20 (by decide) k63 rfl dX7_makeKeys_47 ?_
                              refine lv_iload_n hx hb dX7_makeKeys_50 rfl (lv_at hl 0 rfl) ?_
                              refine r_iald hx hb h0 hw 0 rfl (i := i) (by omega) (by omega) dX7_makeKeys_51 ?_
                              refine r_iast hx hb h0 hw 11 rfl (i := i) (by omega) (by omega) dX7_makeKeys_52 (fun H locs hw => ?_)
                              have hw : WD g A s [(md 20, .inl (g.2.1 0, 32, .inl (dg))), (md 2, .inl (g.2.1 0, 64, .inl (laid se (32 * d) (keyD dg d 0) 32))), (md 3, .inl (g.2.1 0, 64, .inl (te))), (md 5, .inl (g.2.1 1, 2, .inr (.inl (nxf)))), (md 6, .inl (g.2.1 2, 2, .inl (smf))), (md 25, .inr (7, [.ref (md 0), .int (nI op), .ref (md 2), .ref (md 3), .ref (md 4), .ref (md 5), .ref (md 6), .ref (md 7), .ref (md 8), .ref (md 9), .ref (md 10), .ref (md 11), .int (nI on), .ref (md 13), .int (nI inn), .ref (md 15), .ref (md 16), .ref (md 17), .ref (md 18), .ref (md 19), .ref (md 20), .ref (md 21), .ref (md 22), .ref (md 23), .ref (md 24)])), (md 17, .inl (g.2.1 0, 400, .inl (r2_11))), (md 16, .inl (g.2.1 0, 64, .inl (w2_12))), (md 15, .inl (g.2.1 0, 8, .inl (s2_13))), (md 22, .inl (g.2.1 0, 64, .inl (kRW))), (md 18, .inl (g.2.1 0, 32, .inl (keyD dg d 0))), (md 19, .inl (g.2.1 0, 32, .inl (upd (cpF dg dg i) i (dg i)))), (md 21, .inl (g.2.1 0, 160, .inl (upd (upd (upd mf 0 (nI d)) 1 (nI 0)) 2 (nI 1))))] [] H locs := hw
                              refine lv_iinc (v := nI (i + 1)) (lv' := [(3, .int (nI (i + 1))), (0, .ref (md 25)), (1, .int (nI d)), (2, .int (nI 1))]) hx hb dX7_makeKeys_53 hl (k := 0) rfl (nI_add i 1) (by decide) rfl (fun ls hl => ?_)
                              refine lv_goto (tgt := 35) hx hb dX7_makeKeys_56 (by decide) ?_
                              exact ih (i + 1) (by omega) (by omega) _ _ _ hw (lv_sub hl [0, 1, 2, 3] rfl)
                        exact lp35 (32 - 0 + 1) 0 (by omega) (by omega) _ _ _ hw (lv_sub hl [0, 2, 3, 1] rfl)
                    · skip
                      have c14 : ¬ 32 ≤ i := fun q => c14 (((nI_leI (by omega) (by omega)).mpr q))
                      refine lv_iload_n hx hb dX7_makeKeys_93 rfl (lv_at hl 3 rfl) ?_
                      refine lv_if_ne (tgt := 117) hx hb dX7_makeKeys_94 (by decide) (fun c32 => ?_) (fun c32 => ?_)
                      · skip
                        rw [← nI_0] at c32
                        have c32 : ¬ 0 = 0 := fun q => c32 (((nI_eq (by omega) (by omega)).mpr q))
                        exfalso; omega
                      · skip
                        rw [← nI_0] at c32
                        have c32 : 0 = 0 := (nI_eq (by omega) (by omega)).mp c32
                        refine lv_aload_n hx hb dX7_makeKeys_97 rfl (lv_at hl 1 rfl) ?_
                        refine r_get (ci := 7) (v := .ref (md 2)) (C := RX7) (T := TX7) (N := 25) hx hb hts hinX7 hown h0 hw 5 rfl rfl 2 (by decide) k13 rfl dX7_makeKeys_98 ?_
                        refine lv_bipush (v := nI 32) hx hb dX7_makeKeys_101 (by decide +kernel) ?_
                        refine lv_iload_n hx hb dX7_makeKeys_103 rfl (lv_at hl 2 rfl) ?_
                        refine lv_imul hx hb dX7_makeKeys_104 ?_
                        refine r_te (y := nI (32 * d)) (pk_mul 32 d) ?_
                        refine lv_iload_n hx hb dX7_makeKeys_105 rfl (lv_at hl 0 rfl) ?_
                        refine lv_iadd hx hb dX7_makeKeys_106 ?_
                        refine r_te (y := nI (32 * d + i)) (nI_add (32 * d) i) ?_
                        refine lv_aload_n hx hb dX7_makeKeys_107 rfl (lv_at hl 1 rfl) ?_
                        refine r_get (ci := 7) (v := .ref (md 18)) (C := RX7) (T := TX7) (N := 25) hx hb hts hinX7 hown h0 hw 5 rfl rfl 18 (by decide) k57 rfl dX7_makeKeys_108 ?_
                        refine lv_iload_n hx hb dX7_makeKeys_111 rfl (lv_at hl 0 rfl) ?_
                        refine r_iald hx hb h0 hw 10 rfl (i := i) (by omega) (by omega) dX7_makeKeys_112 ?_
                        refine r_iast hx hb h0 hw 1 rfl (i := 32 * d + i) (by omega) (by omega) dX7_makeKeys_113 (fun H locs hw => ?_)
                        have hw : WD g A s [(md 20, .inl (g.2.1 0, 32, .inl (dg))), (md 2, .inl (g.2.1 0, 64, .inl (upd (laid se (32 * d) (keyD dg d 0) i) (32 * d + i) ((keyD dg d 0) i)))), (md 3, .inl (g.2.1 0, 64, .inl (te))), (md 5, .inl (g.2.1 1, 2, .inr (.inl (nxf)))), (md 6, .inl (g.2.1 2, 2, .inl (smf))), (md 25, .inr (7, [.ref (md 0), .int (nI op), .ref (md 2), .ref (md 3), .ref (md 4), .ref (md 5), .ref (md 6), .ref (md 7), .ref (md 8), .ref (md 9), .ref (md 10), .ref (md 11), .int (nI on), .ref (md 13), .int (nI inn), .ref (md 15), .ref (md 16), .ref (md 17), .ref (md 18), .ref (md 19), .ref (md 20), .ref (md 21), .ref (md 22), .ref (md 23), .ref (md 24)])), (md 17, .inl (g.2.1 0, 400, .inl (r2_11))), (md 16, .inl (g.2.1 0, 64, .inl (w2_12))), (md 15, .inl (g.2.1 0, 8, .inl (s2_13))), (md 22, .inl (g.2.1 0, 64, .inl (kRW))), (md 18, .inl (g.2.1 0, 32, .inl (keyD dg d 0))), (md 19, .inl (g.2.1 0, 32, .inl (dg))), (md 21, .inl (g.2.1 0, 160, .inl (upd (upd (upd mf 0 (nI d)) 1 (nI 0)) 2 (nI 1))))] [] H locs := hw
                        refine lv_goto (tgt := 134) hx hb dX7_makeKeys_114 (by decide) ?_
                        refine lv_iinc (v := nI (i + 1)) (lv' := [(3, .int (nI (i + 1))), (0, .ref (md 25)), (1, .int (nI d)), (2, .int (nI 0))]) hx hb dX7_makeKeys_134 hl (k := 0) rfl (nI_add i 1) (by decide) rfl (fun ls hl => ?_)
                        refine lv_goto (tgt := 87) hx hb dX7_makeKeys_137 (by decide) ?_
                        exact ih (i + 1) (by omega) (by omega) _ _ _ hw (lv_sub hl [0, 1, 2, 3] rfl)
                exact lp87 (32 - 0 + 1) 0 (by omega) (by omega) _ _ _ hw (lv_sub hl [0, 1, 2, 3] rfl)
              · skip
                have c5 : ¬ 32 ≤ i := fun q => c5 (((nI_leI (by omega) (by omega)).mpr q))
                refine lv_aload_n hx hb dX7_makeKeys_41 rfl (lv_at hl 1 rfl) ?_
                refine r_get (ci := 7) (v := .ref (md 19)) (C := RX7) (T := TX7) (N := 25) hx hb hts hinX7 hown h0 hw 0 rfl rfl 19 (by decide) k60 rfl dX7_makeKeys_42 ?_
                refine lv_iload_n hx hb dX7_makeKeys_45 rfl (lv_at hl 0 rfl) ?_
                refine lv_aload_n hx hb dX7_makeKeys_46 rfl (lv_at hl 1 rfl) ?_
                refine r_get (ci := 7) (v := .ref (md 20)) (C := RX7) (T := TX7) (N := 25) hx hb hts hinX7 hown h0 hw 0 rfl rfl 20 (by decide) k63 rfl dX7_makeKeys_47 ?_
                refine lv_iload_n hx hb dX7_makeKeys_50 rfl (lv_at hl 0 rfl) ?_
                refine r_iald hx hb h0 hw 7 rfl (i := i) (by omega) (by omega) dX7_makeKeys_51 ?_
                refine r_iast hx hb h0 hw 6 rfl (i := i) (by omega) (by omega) dX7_makeKeys_52 (fun H locs hw => ?_)
                have hw : WD g A s [(md 25, .inr (7, [.ref (md 0), .int (nI op), .ref (md 2), .ref (md 3), .ref (md 4), .ref (md 5), .ref (md 6), .ref (md 7), .ref (md 8), .ref (md 9), .ref (md 10), .ref (md 11), .int (nI on), .ref (md 13), .int (nI inn), .ref (md 15), .ref (md 16), .ref (md 17), .ref (md 18), .ref (md 19), .ref (md 20), .ref (md 21), .ref (md 22), .ref (md 23), .ref (md 24)])), (md 17, .inl (g.2.1 0, 400, .inl (rf))), (md 16, .inl (g.2.1 0, 64, .inl (wf))), (md 15, .inl (g.2.1 0, 8, .inl (sf))), (md 22, .inl (g.2.1 0, 64, .inl (kRW))), (md 18, .inl (g.2.1 0, 32, .inl (dg))), (md 19, .inl (g.2.1 0, 32, .inl (upd (cpF kf dg i) i (dg i)))), (md 20, .inl (g.2.1 0, 32, .inl (dg))), (md 21, .inl (g.2.1 0, 160, .inl (mf))), (md 2, .inl (g.2.1 0, 64, .inl (se))), (md 3, .inl (g.2.1 0, 64, .inl (te))), (md 5, .inl (g.2.1 1, 2, .inr (.inl (nxf)))), (md 6, .inl (g.2.1 2, 2, .inl (smf)))] [] H locs := hw
                refine lv_iinc (v := nI (i + 1)) (lv' := [(3, .int (nI (i + 1))), (0, .ref (md 25)), (1, .int (nI d)), (2, .int (nI 0))]) hx hb dX7_makeKeys_53 hl (k := 0) rfl (nI_add i 1) (by decide) rfl (fun ls hl => ?_)
                refine lv_goto (tgt := 35) hx hb dX7_makeKeys_56 (by decide) ?_
                exact ih (i + 1) (by omega) (by omega) _ _ _ hw (lv_sub hl [0, 1, 2, 3] rfl)
          exact lp35 (32 - 0 + 1) 0 (by omega) (by omega) _ _ _ hw (lv_sub hl [0, 2, 3, 1] rfl)
      · skip
        have c1 : ¬ 32 ≤ i := fun q => c1 (((nI_leI (by omega) (by omega)).mpr q))
        refine lv_aload_n hx hb dX7_makeKeys_8 rfl (lv_at hl 1 rfl) ?_
        refine r_get (ci := 7) (v := .ref (md 20)) (C := RX7) (T := TX7) (N := 25) hx hb hts hinX7 hown h0 hw 0 rfl rfl 20 (by decide) k63 rfl dX7_makeKeys_9 ?_
        refine lv_iload_n hx hb dX7_makeKeys_12 rfl (lv_at hl 0 rfl) ?_
        refine lv_aload_n hx hb dX7_makeKeys_13 rfl (lv_at hl 1 rfl) ?_
        refine r_get (ci := 7) (v := .ref (md 18)) (C := RX7) (T := TX7) (N := 25) hx hb hts hinX7 hown h0 hw 0 rfl rfl 18 (by decide) k57 rfl dX7_makeKeys_14 ?_
        refine lv_iload_n hx hb dX7_makeKeys_17 rfl (lv_at hl 0 rfl) ?_
        refine r_iald hx hb h0 hw 5 rfl (i := i) (by omega) (by omega) dX7_makeKeys_18 ?_
        refine r_iast hx hb h0 hw 7 rfl (i := i) (by omega) (by omega) dX7_makeKeys_19 (fun H locs hw => ?_)
        have hw : WD g A s [(md 25, .inr (7, [.ref (md 0), .int (nI op), .ref (md 2), .ref (md 3), .ref (md 4), .ref (md 5), .ref (md 6), .ref (md 7), .ref (md 8), .ref (md 9), .ref (md 10), .ref (md 11), .int (nI on), .ref (md 13), .int (nI inn), .ref (md 15), .ref (md 16), .ref (md 17), .ref (md 18), .ref (md 19), .ref (md 20), .ref (md 21), .ref (md 22), .ref (md 23), .ref (md 24)])), (md 17, .inl (g.2.1 0, 400, .inl (rf))), (md 16, .inl (g.2.1 0, 64, .inl (wf))), (md 15, .inl (g.2.1 0, 8, .inl (sf))), (md 22, .inl (g.2.1 0, 64, .inl (kRW))), (md 18, .inl (g.2.1 0, 32, .inl (dg))), (md 19, .inl (g.2.1 0, 32, .inl (kf))), (md 20, .inl (g.2.1 0, 32, .inl (upd (cpF otf dg i) i (dg i)))), (md 21, .inl (g.2.1 0, 160, .inl (mf))), (md 2, .inl (g.2.1 0, 64, .inl (se))), (md 3, .inl (g.2.1 0, 64, .inl (te))), (md 5, .inl (g.2.1 1, 2, .inr (.inl (nxf)))), (md 6, .inl (g.2.1 2, 2, .inl (smf)))] [] H locs := hw
        refine lv_iinc (v := nI (i + 1)) (lv' := [(2, .int (nI (i + 1))), (0, .ref (md 25)), (1, .int (nI d))]) hx hb dX7_makeKeys_20 hl (k := 0) rfl (nI_add i 1) (by decide) rfl (fun ls hl => ?_)
        refine lv_goto (tgt := 2) hx hb dX7_makeKeys_23 (by decide) ?_
        exact ih (i + 1) (by omega) (by omega) _ _ _ hw (lv_sub hl [0, 1, 2] rfl)
  exact lp2 (32 - 0 + 1) 0 (by omega) (by omega) _ _ _ hw (lv_sub hl [0, 1, 2] rfl)

set_option maxHeartbeats 4000000 in
set_option maxRecDepth 100000 in
theorem c_X7_keyWord (l : Launch) (g : GE) (md : Nat → Nat) (op : Nat) (on : Nat) (inn : Nat) (se : Nat → Int32) (d : Nat) (k : Nat) (hd : d < 2) (hk : k < 8) (sz : Nat) : MI l yX7_keyWord wsX7_keyWord { frames := 0, cells := 0, slots := 0, locals := 0 } g [.ref (md 25), .int (nI d), .int (nI k)] [(md 25, .inr (7, [.ref (md 0), .int (nI op), .ref (md 2), .ref (md 3), .ref (md 4), .ref (md 5), .ref (md 6), .ref (md 7), .ref (md 8), .ref (md 9), .ref (md 10), .ref (md 11), .int (nI on), .ref (md 13), .int (nI inn), .ref (md 15), .ref (md 16), .ref (md 17), .ref (md 18), .ref (md 19), .ref (md 20), .ref (md 21), .ref (md 22), .ref (md 23), .ref (md 24)])), (md 2, .inl (g.2.1 0, 64, .inl (se)))] sz (fun (r : Int32) (_ : Unit) => r = kwd se (32 * d + 4 * k)) (fun (_ : Unit) => [(md 25, .inr (7, [.ref (md 0), .int (nI op), .ref (md 2), .ref (md 3), .ref (md 4), .ref (md 5), .ref (md 6), .ref (md 7), .ref (md 8), .ref (md 9), .ref (md 10), .ref (md 11), .int (nI on), .ref (md 13), .int (nI inn), .ref (md 15), .ref (md 16), .ref (md 17), .ref (md 18), .ref (md 19), .ref (md 20), .ref (md 21), .ref (md 22), .ref (md 23), .ref (md 24)])), (md 2, .inl (g.2.1 0, 64, .inl (se)))]) 0 0 := by
  refine enterI (by decide) rfl (Nat.le_of_ble_eq_true rfl) ?_
  intro p e s m below meth c A ls ar Q hE h0 hret hw hl
  obtain ⟨hx, hb, hr, hml, hown, hts, hlocks, hname⟩ := hE
  have hown : s.vm.findClass RX7 = some m.cls := hown
  have hw : WD g A s [(md 25, .inr (7, [.ref (md 0), .int (nI op), .ref (md 2), .ref (md 3), .ref (md 4), .ref (md 5), .ref (md 6), .ref (md 7), .ref (md 8), .ref (md 9), .ref (md 10), .ref (md 11), .int (nI on), .ref (md 13), .int (nI inn), .ref (md 15), .ref (md 16), .ref (md 17), .ref (md 18), .ref (md 19), .ref (md 20), .ref (md 21), .ref (md 22), .ref (md 23), .ref (md 24)])), (md 2, .inl (g.2.1 0, 64, .inl (se)))] [] s.heap [] := hw
  have hinX7 : ∀ w ∈ u_ws RX7 TX7 25, w ∈ wsX7_keyWord := by decide +kernel
  have k13 := hts (.fieldLink RX7 13 "RecordWireModel" "sealKeys" "[I") (by decide +kernel)
  have hl : lv_has ls 4 [(0, .ref (md 25)), (1, .int (nI d)), (2, .int (nI k))] := hl
  refine lv_bipush (v := nI 32) hx hb dX7_keyWord_0 (by decide +kernel) ?_
  refine lv_iload_n hx hb dX7_keyWord_2 rfl (lv_at hl 1 rfl) ?_
  refine lv_imul hx hb dX7_keyWord_3 ?_
  refine r_te (y := nI (32 * d)) (pk_mul 32 d) ?_
  refine lv_iconst (v := nI 4) hx hb dX7_keyWord_4 (by decide +kernel) ?_
  refine lv_iload_n hx hb dX7_keyWord_5 rfl (lv_at hl 2 rfl) ?_
  refine lv_imul hx hb dX7_keyWord_6 ?_
  refine r_te (y := nI (4 * k)) (pk_mul 4 k) ?_
  refine lv_iadd hx hb dX7_keyWord_7 ?_
  refine r_te (y := nI (32 * d + (4 * k))) (nI_add (32 * d) (4 * k)) ?_
  refine lv_istore_n (lv' := [(3, .int (nI (32 * d + (4 * k)))), (0, .ref (md 25)), (1, .int (nI d)), (2, .int (nI k))]) hx hb dX7_keyWord_8 rfl hl (by decide) rfl (fun ls hl => ?_)
  refine lv_aload_n hx hb dX7_keyWord_9 rfl (lv_at hl 1 rfl) ?_
  refine r_get (ci := 7) (v := .ref (md 2)) (C := RX7) (T := TX7) (N := 25) hx hb hts hinX7 hown h0 hw 0 rfl rfl 2 (by decide) k13 rfl dX7_keyWord_10 ?_
  refine lv_iload_n hx hb dX7_keyWord_13 rfl (lv_at hl 0 rfl) ?_
  refine r_iald hx hb h0 hw 1 rfl (i := 32 * d + (4 * k)) (by omega) (by omega) dX7_keyWord_14 ?_
  refine lv_aload_n hx hb dX7_keyWord_15 rfl (lv_at hl 1 rfl) ?_
  refine r_get (ci := 7) (v := .ref (md 2)) (C := RX7) (T := TX7) (N := 25) hx hb hts hinX7 hown h0 hw 0 rfl rfl 2 (by decide) k13 rfl dX7_keyWord_16 ?_
  refine lv_iload_n hx hb dX7_keyWord_19 rfl (lv_at hl 0 rfl) ?_
  refine lv_iconst (v := nI 1) hx hb dX7_keyWord_20 (by decide +kernel) ?_
  refine lv_iadd hx hb dX7_keyWord_21 ?_
  refine r_te (y := nI (32 * d + (4 * k) + 1)) (nI_add (32 * d + (4 * k)) 1) ?_
  refine r_iald hx hb h0 hw 1 rfl (i := 32 * d + (4 * k) + 1) (by omega) (by omega) dX7_keyWord_22 ?_
  refine lv_bipush (v := nI 8) hx hb dX7_keyWord_23 (by decide +kernel) ?_
  refine lv_ishl hx hb dX7_keyWord_25 ?_
  refine r_te (y := jshl (se (32 * d + (4 * k) + 1)) (nI 8)) rfl ?_
  refine lv_ior hx hb dX7_keyWord_26 ?_
  refine lv_aload_n hx hb dX7_keyWord_27 rfl (lv_at hl 1 rfl) ?_
  refine r_get (ci := 7) (v := .ref (md 2)) (C := RX7) (T := TX7) (N := 25) hx hb hts hinX7 hown h0 hw 0 rfl rfl 2 (by decide) k13 rfl dX7_keyWord_28 ?_
  refine lv_iload_n hx hb dX7_keyWord_31 rfl (lv_at hl 0 rfl) ?_
  refine lv_iconst (v := nI 2) hx hb dX7_keyWord_32 (by decide +kernel) ?_
  refine lv_iadd hx hb dX7_keyWord_33 ?_
  refine r_te (y := nI (32 * d + (4 * k) + 2)) (nI_add (32 * d + (4 * k)) 2) ?_
  refine r_iald hx hb h0 hw 1 rfl (i := 32 * d + (4 * k) + 2) (by omega) (by omega) dX7_keyWord_34 ?_
  refine lv_bipush (v := nI 16) hx hb dX7_keyWord_35 (by decide +kernel) ?_
  refine lv_ishl hx hb dX7_keyWord_37 ?_
  refine r_te (y := jshl (se (32 * d + (4 * k) + 2)) (nI 16)) rfl ?_
  refine lv_ior hx hb dX7_keyWord_38 ?_
  refine lv_aload_n hx hb dX7_keyWord_39 rfl (lv_at hl 1 rfl) ?_
  refine r_get (ci := 7) (v := .ref (md 2)) (C := RX7) (T := TX7) (N := 25) hx hb hts hinX7 hown h0 hw 0 rfl rfl 2 (by decide) k13 rfl dX7_keyWord_40 ?_
  refine lv_iload_n hx hb dX7_keyWord_43 rfl (lv_at hl 0 rfl) ?_
  refine lv_iconst (v := nI 3) hx hb dX7_keyWord_44 (by decide +kernel) ?_
  refine lv_iadd hx hb dX7_keyWord_45 ?_
  refine r_te (y := nI (32 * d + (4 * k) + 3)) (nI_add (32 * d + (4 * k)) 3) ?_
  refine r_iald hx hb h0 hw 1 rfl (i := 32 * d + (4 * k) + 3) (by omega) (by omega) dX7_keyWord_46 ?_
  refine lv_bipush (v := nI 24) hx hb dX7_keyWord_47 (by decide +kernel) ?_
  refine lv_ishl hx hb dX7_keyWord_49 ?_
  refine r_te (y := jshl (se (32 * d + (4 * k) + 3)) (nI 24)) rfl ?_
  refine lv_ior hx hb dX7_keyWord_50 ?_
  exact hret hw () (rfl) (rfl) (by omega) (by omega) dX7_keyWord_51

set_option maxHeartbeats 4000000 in
set_option maxRecDepth 100000 in
theorem c_X7_wireWord (l : Launch) (g : GE) (md : Nat → Nat) (op : Nat) (on : Nat) (inn : Nat) (wr : Nat → Int32) (t : Nat) (k : Nat) (ht : t < 8) (hk : k + 3 < 128) (sz : Nat) : MI l yX7_wireWord wsX7_wireWord { frames := 0, cells := 0, slots := 0, locals := 0 } g [.ref (md 25), .int (nI t), .int (nI k)] [(md 25, .inr (7, [.ref (md 0), .int (nI op), .ref (md 2), .ref (md 3), .ref (md 4), .ref (md 5), .ref (md 6), .ref (md 7), .ref (md 8), .ref (md 9), .ref (md 10), .ref (md 11), .int (nI on), .ref (md 13), .int (nI inn), .ref (md 15), .ref (md 16), .ref (md 17), .ref (md 18), .ref (md 19), .ref (md 20), .ref (md 21), .ref (md 22), .ref (md 23), .ref (md 24)])), (md 9, .inl (g.2.1 0, 1024, .inl (wr)))] sz (fun (r : Int32) (_ : Unit) => r = kwd wr (128 * t + k)) (fun (_ : Unit) => [(md 25, .inr (7, [.ref (md 0), .int (nI op), .ref (md 2), .ref (md 3), .ref (md 4), .ref (md 5), .ref (md 6), .ref (md 7), .ref (md 8), .ref (md 9), .ref (md 10), .ref (md 11), .int (nI on), .ref (md 13), .int (nI inn), .ref (md 15), .ref (md 16), .ref (md 17), .ref (md 18), .ref (md 19), .ref (md 20), .ref (md 21), .ref (md 22), .ref (md 23), .ref (md 24)])), (md 9, .inl (g.2.1 0, 1024, .inl (wr)))]) 0 0 := by
  refine enterI (by decide) rfl (Nat.le_of_ble_eq_true rfl) ?_
  intro p e s m below meth c A ls ar Q hE h0 hret hw hl
  obtain ⟨hx, hb, hr, hml, hown, hts, hlocks, hname⟩ := hE
  have hown : s.vm.findClass RX7 = some m.cls := hown
  have hw : WD g A s [(md 25, .inr (7, [.ref (md 0), .int (nI op), .ref (md 2), .ref (md 3), .ref (md 4), .ref (md 5), .ref (md 6), .ref (md 7), .ref (md 8), .ref (md 9), .ref (md 10), .ref (md 11), .int (nI on), .ref (md 13), .int (nI inn), .ref (md 15), .ref (md 16), .ref (md 17), .ref (md 18), .ref (md 19), .ref (md 20), .ref (md 21), .ref (md 22), .ref (md 23), .ref (md 24)])), (md 9, .inl (g.2.1 0, 1024, .inl (wr)))] [] s.heap [] := hw
  have hinX7 : ∀ w ∈ u_ws RX7 TX7 25, w ∈ wsX7_wireWord := by decide +kernel
  have k36 := hts (.fieldLink RX7 36 "RecordWireModel" "wire" "[I") (by decide +kernel)
  have hl : lv_has ls 4 [(0, .ref (md 25)), (1, .int (nI t)), (2, .int (nI k))] := hl
  refine lv_sipush (v := nI 128) hx hb dX7_wireWord_0 (by decide +kernel) ?_
  refine lv_iload_n hx hb dX7_wireWord_3 rfl (lv_at hl 1 rfl) ?_
  refine lv_imul hx hb dX7_wireWord_4 ?_
  refine r_te (y := nI (128 * t)) (pk_mul 128 t) ?_
  refine lv_iload_n hx hb dX7_wireWord_5 rfl (lv_at hl 2 rfl) ?_
  refine lv_iadd hx hb dX7_wireWord_6 ?_
  refine r_te (y := nI (128 * t + k)) (nI_add (128 * t) k) ?_
  refine lv_istore_n (lv' := [(3, .int (nI (128 * t + k))), (0, .ref (md 25)), (1, .int (nI t)), (2, .int (nI k))]) hx hb dX7_wireWord_7 rfl hl (by decide) rfl (fun ls hl => ?_)
  refine lv_aload_n hx hb dX7_wireWord_8 rfl (lv_at hl 1 rfl) ?_
  refine r_get (ci := 7) (v := .ref (md 9)) (C := RX7) (T := TX7) (N := 25) hx hb hts hinX7 hown h0 hw 0 rfl rfl 9 (by decide) k36 rfl dX7_wireWord_9 ?_
  refine lv_iload_n hx hb dX7_wireWord_12 rfl (lv_at hl 0 rfl) ?_
  refine r_iald hx hb h0 hw 1 rfl (i := 128 * t + k) (by omega) (by omega) dX7_wireWord_13 ?_
  refine lv_aload_n hx hb dX7_wireWord_14 rfl (lv_at hl 1 rfl) ?_
  refine r_get (ci := 7) (v := .ref (md 9)) (C := RX7) (T := TX7) (N := 25) hx hb hts hinX7 hown h0 hw 0 rfl rfl 9 (by decide) k36 rfl dX7_wireWord_15 ?_
  refine lv_iload_n hx hb dX7_wireWord_18 rfl (lv_at hl 0 rfl) ?_
  refine lv_iconst (v := nI 1) hx hb dX7_wireWord_19 (by decide +kernel) ?_
  refine lv_iadd hx hb dX7_wireWord_20 ?_
  refine r_te (y := nI (128 * t + k + 1)) (nI_add (128 * t + k) 1) ?_
  refine r_iald hx hb h0 hw 1 rfl (i := 128 * t + k + 1) (by omega) (by omega) dX7_wireWord_21 ?_
  refine lv_bipush (v := nI 8) hx hb dX7_wireWord_22 (by decide +kernel) ?_
  refine lv_ishl hx hb dX7_wireWord_24 ?_
  refine r_te (y := jshl (wr (128 * t + k + 1)) (nI 8)) rfl ?_
  refine lv_ior hx hb dX7_wireWord_25 ?_
  refine lv_aload_n hx hb dX7_wireWord_26 rfl (lv_at hl 1 rfl) ?_
  refine r_get (ci := 7) (v := .ref (md 9)) (C := RX7) (T := TX7) (N := 25) hx hb hts hinX7 hown h0 hw 0 rfl rfl 9 (by decide) k36 rfl dX7_wireWord_27 ?_
  refine lv_iload_n hx hb dX7_wireWord_30 rfl (lv_at hl 0 rfl) ?_
  refine lv_iconst (v := nI 2) hx hb dX7_wireWord_31 (by decide +kernel) ?_
  refine lv_iadd hx hb dX7_wireWord_32 ?_
  refine r_te (y := nI (128 * t + k + 2)) (nI_add (128 * t + k) 2) ?_
  refine r_iald hx hb h0 hw 1 rfl (i := 128 * t + k + 2) (by omega) (by omega) dX7_wireWord_33 ?_
  refine lv_bipush (v := nI 16) hx hb dX7_wireWord_34 (by decide +kernel) ?_
  refine lv_ishl hx hb dX7_wireWord_36 ?_
  refine r_te (y := jshl (wr (128 * t + k + 2)) (nI 16)) rfl ?_
  refine lv_ior hx hb dX7_wireWord_37 ?_
  refine lv_aload_n hx hb dX7_wireWord_38 rfl (lv_at hl 1 rfl) ?_
  refine r_get (ci := 7) (v := .ref (md 9)) (C := RX7) (T := TX7) (N := 25) hx hb hts hinX7 hown h0 hw 0 rfl rfl 9 (by decide) k36 rfl dX7_wireWord_39 ?_
  refine lv_iload_n hx hb dX7_wireWord_42 rfl (lv_at hl 0 rfl) ?_
  refine lv_iconst (v := nI 3) hx hb dX7_wireWord_43 (by decide +kernel) ?_
  refine lv_iadd hx hb dX7_wireWord_44 ?_
  refine r_te (y := nI (128 * t + k + 3)) (nI_add (128 * t + k) 3) ?_
  refine r_iald hx hb h0 hw 1 rfl (i := 128 * t + k + 3) (by omega) (by omega) dX7_wireWord_45 ?_
  refine lv_bipush (v := nI 24) hx hb dX7_wireWord_46 (by decide +kernel) ?_
  refine lv_ishl hx hb dX7_wireWord_48 ?_
  refine r_te (y := jshl (wr (128 * t + k + 3)) (nI 24)) rfl ?_
  refine lv_ior hx hb dX7_wireWord_49 ?_
  exact hret hw () (rfl) (rfl) (by omega) (by omega) dX7_wireWord_50

set_option maxHeartbeats 4000000 in
set_option maxRecDepth 100000 in
theorem c_X7_quarter (l : Launch) (g : GE) (md : Nat → Nat) (op : Nat) (on : Nat) (inn : Nat) (f : Nat → Int32) (qa : Nat) (qb : Nat) (qc : Nat) (qd : Nat) (h_a : qa < 16) (h_b : qb < 16) (h_c : qc < 16) (h_d : qd < 16) (sz : Nat) : MV l yX7_quarter wsX7_quarter { frames := 1, cells := 0, slots := 0, locals := 21 } g [.ref (md 25), .int (nI qa), .int (nI qb), .int (nI qc), .int (nI qd)] [(md 25, .inr (7, [.ref (md 0), .int (nI op), .ref (md 2), .ref (md 3), .ref (md 4), .ref (md 5), .ref (md 6), .ref (md 7), .ref (md 8), .ref (md 9), .ref (md 10), .ref (md 11), .int (nI on), .ref (md 13), .int (nI inn), .ref (md 15), .ref (md 16), .ref (md 17), .ref (md 18), .ref (md 19), .ref (md 20), .ref (md 21), .ref (md 22), .ref (md 23), .ref (md 24)])), (md 24, .inl (g.2.1 0, 16, .inl (f)))] sz (fun (_ : Unit) => True) (fun (_ : Unit) => [(md 25, .inr (7, [.ref (md 0), .int (nI op), .ref (md 2), .ref (md 3), .ref (md 4), .ref (md 5), .ref (md 6), .ref (md 7), .ref (md 8), .ref (md 9), .ref (md 10), .ref (md 11), .int (nI on), .ref (md 13), .int (nI inn), .ref (md 15), .ref (md 16), .ref (md 17), .ref (md 18), .ref (md 19), .ref (md 20), .ref (md 21), .ref (md 22), .ref (md 23), .ref (md 24)])), (md 24, .inl (g.2.1 0, 16, .inl (qr f qa qb qc qd)))]) 0 0 := by
  refine enterV (by decide) rfl (Nat.le_of_ble_eq_true rfl) ?_
  intro p e s m below meth c A ls ar Q hE h0 hret hw hl
  obtain ⟨hx, hb, hr, hml, hown, hts, hlocks, hname⟩ := hE
  have hown : s.vm.findClass RX7 = some m.cls := hown
  have hw : WD g A s [(md 25, .inr (7, [.ref (md 0), .int (nI op), .ref (md 2), .ref (md 3), .ref (md 4), .ref (md 5), .ref (md 6), .ref (md 7), .ref (md 8), .ref (md 9), .ref (md 10), .ref (md 11), .int (nI on), .ref (md 13), .int (nI inn), .ref (md 15), .ref (md 16), .ref (md 17), .ref (md 18), .ref (md 19), .ref (md 20), .ref (md 21), .ref (md 22), .ref (md 23), .ref (md 24)])), (md 24, .inl (g.2.1 0, 16, .inl (f)))] [] s.heap [] := hw
  have hinX7 : ∀ w ∈ u_ws RX7 TX7 25, w ∈ wsX7_quarter := by decide +kernel
  have k139 := hts (.fieldLink RX7 139 "RecordWireModel" "mixed" "[I") (by decide +kernel)
  have hl : lv_has ls 5 [(0, .ref (md 25)), (1, .int (nI qa)), (2, .int (nI qb)), (3, .int (nI qc)), (4, .int (nI qd))] := hl
  refine lv_aload_n hx hb dX7_quarter_0 rfl (lv_at hl 0 rfl) ?_
  refine r_get (ci := 7) (v := .ref (md 24)) (C := RX7) (T := TX7) (N := 25) hx hb hts hinX7 hown h0 hw 0 rfl rfl 24 (by decide) k139 rfl dX7_quarter_1 ?_
  refine lv_iload_n hx hb dX7_quarter_4 rfl (lv_at hl 2 rfl) ?_
  refine lv_dup2_11 hx hb dX7_quarter_5 rfl rfl ?_
  refine r_iald hx hb h0 hw 1 rfl (i := qb) (by omega) (by omega) dX7_quarter_6 ?_
  refine lv_aload_n hx hb dX7_quarter_7 rfl (lv_at hl 0 rfl) ?_
  refine r_get (ci := 7) (v := .ref (md 24)) (C := RX7) (T := TX7) (N := 25) hx hb hts hinX7 hown h0 hw 0 rfl rfl 24 (by decide) k139 rfl dX7_quarter_8 ?_
  refine lv_iload_n hx hb dX7_quarter_11 rfl (lv_at hl 1 rfl) ?_
  refine r_iald hx hb h0 hw 1 rfl (i := qa) (by omega) (by omega) dX7_quarter_12 ?_
  refine lv_aload_n hx hb dX7_quarter_13 rfl (lv_at hl 0 rfl) ?_
  refine r_get (ci := 7) (v := .ref (md 24)) (C := RX7) (T := TX7) (N := 25) hx hb hts hinX7 hown h0 hw 0 rfl rfl 24 (by decide) k139 rfl dX7_quarter_14 ?_
  refine lv_iload hx hb dX7_quarter_17 (lv_at hl 4 rfl) ?_
  refine r_iald hx hb h0 hw 1 rfl (i := qd) (by omega) (by omega) dX7_quarter_19 ?_
  refine lv_iadd hx hb dX7_quarter_20 ?_
  refine lv_bipush (v := nI 7) hx hb dX7_quarter_21 (by decide +kernel) ?_
  refine r_calli (wr := [(md 25, .inr (7, [.ref (md 0), .int (nI op), .ref (md 2), .ref (md 3), .ref (md 4), .ref (md 5), .ref (md 6), .ref (md 7), .ref (md 8), .ref (md 9), .ref (md 10), .ref (md 11), .int (nI on), .ref (md 13), .int (nI inn), .ref (md 15), .ref (md 16), .ref (md 17), .ref (md 18), .ref (md 19), .ref (md 20), .ref (md 21), .ref (md 22), .ref (md 23), .ref (md 24)])), (md 24, .inl (g.2.1 0, 16, .inl (f)))]) [] [0, 1] h0 hw rfl rfl (by decide) (by decide) (va_runS (As := [.int ((f qa) + (f qd)), .int (nI 7)]) (rest := [.int (f qb), .int (nI qb), .ref (md 24)]) ⟨hx, hb, hml, hown, hts⟩ (c_X7_left l g ((f qa) + (f qd)) (nI 7)  _) (va_cwS 2 hts gX7_quarter_X7_left rfl rfl rfl (by decide +kernel) ⟨Nat.le_of_ble_eq_true rfl, Nat.le_of_ble_eq_true rfl⟩) (preS_of [] [.int ((f qa) + (f qd)), .int (nI 7)] h0 hw rfl (by decide)) rfl rfl hl.1 rfl (lv_room (Nat.le_of_ble_eq_true rfl)) dX7_quarter_23 ⟨Nat.le_of_ble_eq_true rfl, Nat.le_of_ble_eq_true rfl⟩) (fun r1 u2 H locs hp3 hw => ?_)
  have hw : WD g A s [(md 25, .inr (7, [.ref (md 0), .int (nI op), .ref (md 2), .ref (md 3), .ref (md 4), .ref (md 5), .ref (md 6), .ref (md 7), .ref (md 8), .ref (md 9), .ref (md 10), .ref (md 11), .int (nI on), .ref (md 13), .int (nI inn), .ref (md 15), .ref (md 16), .ref (md 17), .ref (md 18), .ref (md 19), .ref (md 20), .ref (md 21), .ref (md 22), .ref (md 23), .ref (md 24)])), (md 24, .inl (g.2.1 0, 16, .inl (f)))] [] H locs := hw
  subst hp3
  refine lv_ixor hx hb dX7_quarter_26 ?_
  refine r_iast hx hb h0 hw 1 rfl (i := qb) (by omega) (by omega) dX7_quarter_27 (fun H locs hw => ?_)
  have hw : WD g A s [(md 25, .inr (7, [.ref (md 0), .int (nI op), .ref (md 2), .ref (md 3), .ref (md 4), .ref (md 5), .ref (md 6), .ref (md 7), .ref (md 8), .ref (md 9), .ref (md 10), .ref (md 11), .int (nI on), .ref (md 13), .int (nI inn), .ref (md 15), .ref (md 16), .ref (md 17), .ref (md 18), .ref (md 19), .ref (md 20), .ref (md 21), .ref (md 22), .ref (md 23), .ref (md 24)])), (md 24, .inl (g.2.1 0, 16, .inl (upd f qb ((f qb) ^^^ (rotl ((f qa) + (f qd)) (nI 7))))))] [] H locs := hw
  have hw : WD g A s [(md 25, .inr (7, [.ref (md 0), .int (nI op), .ref (md 2), .ref (md 3), .ref (md 4), .ref (md 5), .ref (md 6), .ref (md 7), .ref (md 8), .ref (md 9), .ref (md 10), .ref (md 11), .int (nI on), .ref (md 13), .int (nI inn), .ref (md 15), .ref (md 16), .ref (md 17), .ref (md 18), .ref (md 19), .ref (md 20), .ref (md 21), .ref (md 22), .ref (md 23), .ref (md 24)])), (md 24, .inl (g.2.1 0, 16, .inl (q1 f qa qb qd)))] [] H locs := hw
  refine lv_aload_n hx hb dX7_quarter_28 rfl (lv_at hl 0 rfl) ?_
  refine r_get (ci := 7) (v := .ref (md 24)) (C := RX7) (T := TX7) (N := 25) hx hb hts hinX7 hown h0 hw 0 rfl rfl 24 (by decide) k139 rfl dX7_quarter_29 ?_
  refine lv_iload_n hx hb dX7_quarter_32 rfl (lv_at hl 3 rfl) ?_
  refine lv_dup2_11 hx hb dX7_quarter_33 rfl rfl ?_
  refine r_iald hx hb h0 hw 1 rfl (i := qc) (by omega) (by omega) dX7_quarter_34 ?_
  refine lv_aload_n hx hb dX7_quarter_35 rfl (lv_at hl 0 rfl) ?_
  refine r_get (ci := 7) (v := .ref (md 24)) (C := RX7) (T := TX7) (N := 25) hx hb hts hinX7 hown h0 hw 0 rfl rfl 24 (by decide) k139 rfl dX7_quarter_36 ?_
  refine lv_iload_n hx hb dX7_quarter_39 rfl (lv_at hl 2 rfl) ?_
  refine r_iald hx hb h0 hw 1 rfl (i := qb) (by omega) (by omega) dX7_quarter_40 ?_
  refine lv_aload_n hx hb dX7_quarter_41 rfl (lv_at hl 0 rfl) ?_
  refine r_get (ci := 7) (v := .ref (md 24)) (C := RX7) (T := TX7) (N := 25) hx hb hts hinX7 hown h0 hw 0 rfl rfl 24 (by decide) k139 rfl dX7_quarter_42 ?_
  refine lv_iload_n hx hb dX7_quarter_45 rfl (lv_at hl 1 rfl) ?_
  refine r_iald hx hb h0 hw 1 rfl (i := qa) (by omega) (by omega) dX7_quarter_46 ?_
  refine lv_iadd hx hb dX7_quarter_47 ?_
  refine lv_bipush (v := nI 9) hx hb dX7_quarter_48 (by decide +kernel) ?_
  refine r_calli (wr := [(md 25, .inr (7, [.ref (md 0), .int (nI op), .ref (md 2), .ref (md 3), .ref (md 4), .ref (md 5), .ref (md 6), .ref (md 7), .ref (md 8), .ref (md 9), .ref (md 10), .ref (md 11), .int (nI on), .ref (md 13), .int (nI inn), .ref (md 15), .ref (md 16), .ref (md 17), .ref (md 18), .ref (md 19), .ref (md 20), .ref (md 21), .ref (md 22), .ref (md 23), .ref (md 24)])), (md 24, .inl (g.2.1 0, 16, .inl (q1 f qa qb qd)))]) [] [0, 1] h0 hw rfl rfl (by decide) (by decide) (va_runS (As := [.int (((q1 f qa qb qd) qb) + ((q1 f qa qb qd) qa)), .int (nI 9)]) (rest := [.int ((q1 f qa qb qd) qc), .int (nI qc), .ref (md 24)]) ⟨hx, hb, hml, hown, hts⟩ (c_X7_left l g (((q1 f qa qb qd) qb) + ((q1 f qa qb qd) qa)) (nI 9)  _) (va_cwS 2 hts gX7_quarter_X7_left rfl rfl rfl (by decide +kernel) ⟨Nat.le_of_ble_eq_true rfl, Nat.le_of_ble_eq_true rfl⟩) (preS_of [] [.int (((q1 f qa qb qd) qb) + ((q1 f qa qb qd) qa)), .int (nI 9)] h0 hw rfl (by decide)) rfl rfl hl.1 rfl (lv_room (Nat.le_of_ble_eq_true rfl)) dX7_quarter_50 ⟨Nat.le_of_ble_eq_true rfl, Nat.le_of_ble_eq_true rfl⟩) (fun r4 u5 H locs hp6 hw => ?_)
  have hw : WD g A s [(md 25, .inr (7, [.ref (md 0), .int (nI op), .ref (md 2), .ref (md 3), .ref (md 4), .ref (md 5), .ref (md 6), .ref (md 7), .ref (md 8), .ref (md 9), .ref (md 10), .ref (md 11), .int (nI on), .ref (md 13), .int (nI inn), .ref (md 15), .ref (md 16), .ref (md 17), .ref (md 18), .ref (md 19), .ref (md 20), .ref (md 21), .ref (md 22), .ref (md 23), .ref (md 24)])), (md 24, .inl (g.2.1 0, 16, .inl (q1 f qa qb qd)))] [] H locs := hw
  subst hp6
  refine lv_ixor hx hb dX7_quarter_53 ?_
  refine r_iast hx hb h0 hw 1 rfl (i := qc) (by omega) (by omega) dX7_quarter_54 (fun H locs hw => ?_)
  have hw : WD g A s [(md 25, .inr (7, [.ref (md 0), .int (nI op), .ref (md 2), .ref (md 3), .ref (md 4), .ref (md 5), .ref (md 6), .ref (md 7), .ref (md 8), .ref (md 9), .ref (md 10), .ref (md 11), .int (nI on), .ref (md 13), .int (nI inn), .ref (md 15), .ref (md 16), .ref (md 17), .ref (md 18), .ref (md 19), .ref (md 20), .ref (md 21), .ref (md 22), .ref (md 23), .ref (md 24)])), (md 24, .inl (g.2.1 0, 16, .inl (upd (q1 f qa qb qd) qc (((q1 f qa qb qd) qc) ^^^ (rotl (((q1 f qa qb qd) qb) + ((q1 f qa qb qd) qa)) (nI 9))))))] [] H locs := hw
  have hw : WD g A s [(md 25, .inr (7, [.ref (md 0), .int (nI op), .ref (md 2), .ref (md 3), .ref (md 4), .ref (md 5), .ref (md 6), .ref (md 7), .ref (md 8), .ref (md 9), .ref (md 10), .ref (md 11), .int (nI on), .ref (md 13), .int (nI inn), .ref (md 15), .ref (md 16), .ref (md 17), .ref (md 18), .ref (md 19), .ref (md 20), .ref (md 21), .ref (md 22), .ref (md 23), .ref (md 24)])), (md 24, .inl (g.2.1 0, 16, .inl (q2 (q1 f qa qb qd) qa qb qc)))] [] H locs := hw
  refine lv_aload_n hx hb dX7_quarter_55 rfl (lv_at hl 0 rfl) ?_
  refine r_get (ci := 7) (v := .ref (md 24)) (C := RX7) (T := TX7) (N := 25) hx hb hts hinX7 hown h0 hw 0 rfl rfl 24 (by decide) k139 rfl dX7_quarter_56 ?_
  refine lv_iload hx hb dX7_quarter_59 (lv_at hl 4 rfl) ?_
  refine lv_dup2_11 hx hb dX7_quarter_61 rfl rfl ?_
  refine r_iald hx hb h0 hw 1 rfl (i := qd) (by omega) (by omega) dX7_quarter_62 ?_
  refine lv_aload_n hx hb dX7_quarter_63 rfl (lv_at hl 0 rfl) ?_
  refine r_get (ci := 7) (v := .ref (md 24)) (C := RX7) (T := TX7) (N := 25) hx hb hts hinX7 hown h0 hw 0 rfl rfl 24 (by decide) k139 rfl dX7_quarter_64 ?_
  refine lv_iload_n hx hb dX7_quarter_67 rfl (lv_at hl 3 rfl) ?_
  refine r_iald hx hb h0 hw 1 rfl (i := qc) (by omega) (by omega) dX7_quarter_68 ?_
  refine lv_aload_n hx hb dX7_quarter_69 rfl (lv_at hl 0 rfl) ?_
  refine r_get (ci := 7) (v := .ref (md 24)) (C := RX7) (T := TX7) (N := 25) hx hb hts hinX7 hown h0 hw 0 rfl rfl 24 (by decide) k139 rfl dX7_quarter_70 ?_
  refine lv_iload_n hx hb dX7_quarter_73 rfl (lv_at hl 2 rfl) ?_
  refine r_iald hx hb h0 hw 1 rfl (i := qb) (by omega) (by omega) dX7_quarter_74 ?_
  refine lv_iadd hx hb dX7_quarter_75 ?_
  refine lv_bipush (v := nI 13) hx hb dX7_quarter_76 (by decide +kernel) ?_
  refine r_calli (wr := [(md 25, .inr (7, [.ref (md 0), .int (nI op), .ref (md 2), .ref (md 3), .ref (md 4), .ref (md 5), .ref (md 6), .ref (md 7), .ref (md 8), .ref (md 9), .ref (md 10), .ref (md 11), .int (nI on), .ref (md 13), .int (nI inn), .ref (md 15), .ref (md 16), .ref (md 17), .ref (md 18), .ref (md 19), .ref (md 20), .ref (md 21), .ref (md 22), .ref (md 23), .ref (md 24)])), (md 24, .inl (g.2.1 0, 16, .inl (q2 (q1 f qa qb qd) qa qb qc)))]) [] [0, 1] h0 hw rfl rfl (by decide) (by decide) (va_runS (As := [.int (((q2 (q1 f qa qb qd) qa qb qc) qc) + ((q2 (q1 f qa qb qd) qa qb qc) qb)), .int (nI 13)]) (rest := [.int ((q2 (q1 f qa qb qd) qa qb qc) qd), .int (nI qd), .ref (md 24)]) ⟨hx, hb, hml, hown, hts⟩ (c_X7_left l g (((q2 (q1 f qa qb qd) qa qb qc) qc) + ((q2 (q1 f qa qb qd) qa qb qc) qb)) (nI 13)  _) (va_cwS 2 hts gX7_quarter_X7_left rfl rfl rfl (by decide +kernel) ⟨Nat.le_of_ble_eq_true rfl, Nat.le_of_ble_eq_true rfl⟩) (preS_of [] [.int (((q2 (q1 f qa qb qd) qa qb qc) qc) + ((q2 (q1 f qa qb qd) qa qb qc) qb)), .int (nI 13)] h0 hw rfl (by decide)) rfl rfl hl.1 rfl (lv_room (Nat.le_of_ble_eq_true rfl)) dX7_quarter_78 ⟨Nat.le_of_ble_eq_true rfl, Nat.le_of_ble_eq_true rfl⟩) (fun r7 u8 H locs hp9 hw => ?_)
  have hw : WD g A s [(md 25, .inr (7, [.ref (md 0), .int (nI op), .ref (md 2), .ref (md 3), .ref (md 4), .ref (md 5), .ref (md 6), .ref (md 7), .ref (md 8), .ref (md 9), .ref (md 10), .ref (md 11), .int (nI on), .ref (md 13), .int (nI inn), .ref (md 15), .ref (md 16), .ref (md 17), .ref (md 18), .ref (md 19), .ref (md 20), .ref (md 21), .ref (md 22), .ref (md 23), .ref (md 24)])), (md 24, .inl (g.2.1 0, 16, .inl (q2 (q1 f qa qb qd) qa qb qc)))] [] H locs := hw
  subst hp9
  refine lv_ixor hx hb dX7_quarter_81 ?_
  refine r_iast hx hb h0 hw 1 rfl (i := qd) (by omega) (by omega) dX7_quarter_82 (fun H locs hw => ?_)
  have hw : WD g A s [(md 25, .inr (7, [.ref (md 0), .int (nI op), .ref (md 2), .ref (md 3), .ref (md 4), .ref (md 5), .ref (md 6), .ref (md 7), .ref (md 8), .ref (md 9), .ref (md 10), .ref (md 11), .int (nI on), .ref (md 13), .int (nI inn), .ref (md 15), .ref (md 16), .ref (md 17), .ref (md 18), .ref (md 19), .ref (md 20), .ref (md 21), .ref (md 22), .ref (md 23), .ref (md 24)])), (md 24, .inl (g.2.1 0, 16, .inl (upd (q2 (q1 f qa qb qd) qa qb qc) qd (((q2 (q1 f qa qb qd) qa qb qc) qd) ^^^ (rotl (((q2 (q1 f qa qb qd) qa qb qc) qc) + ((q2 (q1 f qa qb qd) qa qb qc) qb)) (nI 13))))))] [] H locs := hw
  have hw : WD g A s [(md 25, .inr (7, [.ref (md 0), .int (nI op), .ref (md 2), .ref (md 3), .ref (md 4), .ref (md 5), .ref (md 6), .ref (md 7), .ref (md 8), .ref (md 9), .ref (md 10), .ref (md 11), .int (nI on), .ref (md 13), .int (nI inn), .ref (md 15), .ref (md 16), .ref (md 17), .ref (md 18), .ref (md 19), .ref (md 20), .ref (md 21), .ref (md 22), .ref (md 23), .ref (md 24)])), (md 24, .inl (g.2.1 0, 16, .inl (q3 (q2 (q1 f qa qb qd) qa qb qc) qb qc qd)))] [] H locs := hw
  refine lv_aload_n hx hb dX7_quarter_83 rfl (lv_at hl 0 rfl) ?_
  refine r_get (ci := 7) (v := .ref (md 24)) (C := RX7) (T := TX7) (N := 25) hx hb hts hinX7 hown h0 hw 0 rfl rfl 24 (by decide) k139 rfl dX7_quarter_84 ?_
  refine lv_iload_n hx hb dX7_quarter_87 rfl (lv_at hl 1 rfl) ?_
  refine lv_dup2_11 hx hb dX7_quarter_88 rfl rfl ?_
  refine r_iald hx hb h0 hw 1 rfl (i := qa) (by omega) (by omega) dX7_quarter_89 ?_
  refine lv_aload_n hx hb dX7_quarter_90 rfl (lv_at hl 0 rfl) ?_
  refine r_get (ci := 7) (v := .ref (md 24)) (C := RX7) (T := TX7) (N := 25) hx hb hts hinX7 hown h0 hw 0 rfl rfl 24 (by decide) k139 rfl dX7_quarter_91 ?_
  refine lv_iload hx hb dX7_quarter_94 (lv_at hl 4 rfl) ?_
  refine r_iald hx hb h0 hw 1 rfl (i := qd) (by omega) (by omega) dX7_quarter_96 ?_
  refine lv_aload_n hx hb dX7_quarter_97 rfl (lv_at hl 0 rfl) ?_
  refine r_get (ci := 7) (v := .ref (md 24)) (C := RX7) (T := TX7) (N := 25) hx hb hts hinX7 hown h0 hw 0 rfl rfl 24 (by decide) k139 rfl dX7_quarter_98 ?_
  refine lv_iload_n hx hb dX7_quarter_101 rfl (lv_at hl 3 rfl) ?_
  refine r_iald hx hb h0 hw 1 rfl (i := qc) (by omega) (by omega) dX7_quarter_102 ?_
  refine lv_iadd hx hb dX7_quarter_103 ?_
  refine lv_bipush (v := nI 18) hx hb dX7_quarter_104 (by decide +kernel) ?_
  refine r_calli (wr := [(md 25, .inr (7, [.ref (md 0), .int (nI op), .ref (md 2), .ref (md 3), .ref (md 4), .ref (md 5), .ref (md 6), .ref (md 7), .ref (md 8), .ref (md 9), .ref (md 10), .ref (md 11), .int (nI on), .ref (md 13), .int (nI inn), .ref (md 15), .ref (md 16), .ref (md 17), .ref (md 18), .ref (md 19), .ref (md 20), .ref (md 21), .ref (md 22), .ref (md 23), .ref (md 24)])), (md 24, .inl (g.2.1 0, 16, .inl (q3 (q2 (q1 f qa qb qd) qa qb qc) qb qc qd)))]) [] [0, 1] h0 hw rfl rfl (by decide) (by decide) (va_runS (As := [.int (((q3 (q2 (q1 f qa qb qd) qa qb qc) qb qc qd) qd) + ((q3 (q2 (q1 f qa qb qd) qa qb qc) qb qc qd) qc)), .int (nI 18)]) (rest := [.int ((q3 (q2 (q1 f qa qb qd) qa qb qc) qb qc qd) qa), .int (nI qa), .ref (md 24)]) ⟨hx, hb, hml, hown, hts⟩ (c_X7_left l g (((q3 (q2 (q1 f qa qb qd) qa qb qc) qb qc qd) qd) + ((q3 (q2 (q1 f qa qb qd) qa qb qc) qb qc qd) qc)) (nI 18)  _) (va_cwS 2 hts gX7_quarter_X7_left rfl rfl rfl (by decide +kernel) ⟨Nat.le_of_ble_eq_true rfl, Nat.le_of_ble_eq_true rfl⟩) (preS_of [] [.int (((q3 (q2 (q1 f qa qb qd) qa qb qc) qb qc qd) qd) + ((q3 (q2 (q1 f qa qb qd) qa qb qc) qb qc qd) qc)), .int (nI 18)] h0 hw rfl (by decide)) rfl rfl hl.1 rfl (lv_room (Nat.le_of_ble_eq_true rfl)) dX7_quarter_106 ⟨Nat.le_of_ble_eq_true rfl, Nat.le_of_ble_eq_true rfl⟩) (fun r10 u11 H locs hp12 hw => ?_)
  have hw : WD g A s [(md 25, .inr (7, [.ref (md 0), .int (nI op), .ref (md 2), .ref (md 3), .ref (md 4), .ref (md 5), .ref (md 6), .ref (md 7), .ref (md 8), .ref (md 9), .ref (md 10), .ref (md 11), .int (nI on), .ref (md 13), .int (nI inn), .ref (md 15), .ref (md 16), .ref (md 17), .ref (md 18), .ref (md 19), .ref (md 20), .ref (md 21), .ref (md 22), .ref (md 23), .ref (md 24)])), (md 24, .inl (g.2.1 0, 16, .inl (q3 (q2 (q1 f qa qb qd) qa qb qc) qb qc qd)))] [] H locs := hw
  subst hp12
  refine lv_ixor hx hb dX7_quarter_109 ?_
  refine r_iast hx hb h0 hw 1 rfl (i := qa) (by omega) (by omega) dX7_quarter_110 (fun H locs hw => ?_)
  have hw : WD g A s [(md 25, .inr (7, [.ref (md 0), .int (nI op), .ref (md 2), .ref (md 3), .ref (md 4), .ref (md 5), .ref (md 6), .ref (md 7), .ref (md 8), .ref (md 9), .ref (md 10), .ref (md 11), .int (nI on), .ref (md 13), .int (nI inn), .ref (md 15), .ref (md 16), .ref (md 17), .ref (md 18), .ref (md 19), .ref (md 20), .ref (md 21), .ref (md 22), .ref (md 23), .ref (md 24)])), (md 24, .inl (g.2.1 0, 16, .inl (upd (q3 (q2 (q1 f qa qb qd) qa qb qc) qb qc qd) qa (((q3 (q2 (q1 f qa qb qd) qa qb qc) qb qc qd) qa) ^^^ (rotl (((q3 (q2 (q1 f qa qb qd) qa qb qc) qb qc qd) qd) + ((q3 (q2 (q1 f qa qb qd) qa qb qc) qb qc qd) qc)) (nI 18))))))] [] H locs := hw
  have hw : WD g A s [(md 25, .inr (7, [.ref (md 0), .int (nI op), .ref (md 2), .ref (md 3), .ref (md 4), .ref (md 5), .ref (md 6), .ref (md 7), .ref (md 8), .ref (md 9), .ref (md 10), .ref (md 11), .int (nI on), .ref (md 13), .int (nI inn), .ref (md 15), .ref (md 16), .ref (md 17), .ref (md 18), .ref (md 19), .ref (md 20), .ref (md 21), .ref (md 22), .ref (md 23), .ref (md 24)])), (md 24, .inl (g.2.1 0, 16, .inl (qr f qa qb qc qd)))] [] H locs := hw
  exact hret hw () (trivial) (rfl) (by omega) (by omega) dX7_quarter_111

set_option maxHeartbeats 4000000 in
set_option maxRecDepth 100000 in
theorem c_X7_stream (l : Launch) (g : GE) (md : Nat → Nat) (op : Nat) (on : Nat) (inn : Nat) (se : Nat → Int32) (wr : Nat → Int32) (wd : Nat → Int32) (mx : Nat → Int32) (d : Nat) (t : Nat) (cn : Int32) (hd : d < 2) (ht : t < 8) (sz : Nat) : MV l yX7_stream wsX7_stream { frames := 2, cells := 0, slots := 0, locals := 45 } g [.ref (md 25), .int (nI d), .int (nI t), .int (cn)] [(md 25, .inr (7, [.ref (md 0), .int (nI op), .ref (md 2), .ref (md 3), .ref (md 4), .ref (md 5), .ref (md 6), .ref (md 7), .ref (md 8), .ref (md 9), .ref (md 10), .ref (md 11), .int (nI on), .ref (md 13), .int (nI inn), .ref (md 15), .ref (md 16), .ref (md 17), .ref (md 18), .ref (md 19), .ref (md 20), .ref (md 21), .ref (md 22), .ref (md 23), .ref (md 24)])), (md 2, .inl (g.2.1 0, 64, .inl (se))), (md 9, .inl (g.2.1 0, 1024, .inl (wr))), (md 23, .inl (g.2.1 0, 16, .inl (wd))), (md 24, .inl (g.2.1 0, 16, .inl (mx)))] sz (fun (_ : Unit) => True) (fun (_ : Unit) => [(md 25, .inr (7, [.ref (md 0), .int (nI op), .ref (md 2), .ref (md 3), .ref (md 4), .ref (md 5), .ref (md 6), .ref (md 7), .ref (md 8), .ref (md 9), .ref (md 10), .ref (md 11), .int (nI on), .ref (md 13), .int (nI inn), .ref (md 15), .ref (md 16), .ref (md 17), .ref (md 18), .ref (md 19), .ref (md 20), .ref (md 21), .ref (md 22), .ref (md 23), .ref (md 24)])), (md 2, .inl (g.2.1 0, 64, .inl (se))), (md 9, .inl (g.2.1 0, 1024, .inl (wr))), (md 23, .inl (g.2.1 0, 16, .inl (sIn (shf se (32 * d)) (shf wr (128 * t)) cn))), (md 24, .inl (g.2.1 0, 16, .inl (dbl (sIn (shf se (32 * d)) (shf wr (128 * t)) cn) 10)))]) 0 0 := by
  refine enterV (by decide) rfl (Nat.le_of_ble_eq_true rfl) ?_
  intro p e s m below meth c A ls ar Q hE h0 hret hw hl
  obtain ⟨hx, hb, hr, hml, hown, hts, hlocks, hname⟩ := hE
  have hown : s.vm.findClass RX7 = some m.cls := hown
  have hw : WD g A s [(md 25, .inr (7, [.ref (md 0), .int (nI op), .ref (md 2), .ref (md 3), .ref (md 4), .ref (md 5), .ref (md 6), .ref (md 7), .ref (md 8), .ref (md 9), .ref (md 10), .ref (md 11), .int (nI on), .ref (md 13), .int (nI inn), .ref (md 15), .ref (md 16), .ref (md 17), .ref (md 18), .ref (md 19), .ref (md 20), .ref (md 21), .ref (md 22), .ref (md 23), .ref (md 24)])), (md 2, .inl (g.2.1 0, 64, .inl (se))), (md 9, .inl (g.2.1 0, 1024, .inl (wr))), (md 23, .inl (g.2.1 0, 16, .inl (wd))), (md 24, .inl (g.2.1 0, 16, .inl (mx)))] [] s.heap [] := hw
  have hinX7 : ∀ w ∈ u_ws RX7 TX7 25, w ∈ wsX7_stream := by decide +kernel
  have k136 := hts (.fieldLink RX7 136 "RecordWireModel" "words" "[I") (by decide +kernel)
  have k139 := hts (.fieldLink RX7 139 "RecordWireModel" "mixed" "[I") (by decide +kernel)
  have k184 := hts (.constant RX7 184 (1634760805)) (by decide +kernel)
  have k185 := hts (.constant RX7 185 (857760878)) (by decide +kernel)
  have k186 := hts (.constant RX7 186 (2036477234)) (by decide +kernel)
  have k187 := hts (.constant RX7 187 (1797285236)) (by decide +kernel)
  have hl : lv_has ls 5 [(0, .ref (md 25)), (1, .int (nI d)), (2, .int (nI t)), (3, .int (cn))] := hl
  refine lv_aload_n hx hb dX7_stream_0 rfl (lv_at hl 0 rfl) ?_
  refine r_get (ci := 7) (v := .ref (md 23)) (C := RX7) (T := TX7) (N := 25) hx hb hts hinX7 hown h0 hw 0 rfl rfl 23 (by decide) k136 rfl dX7_stream_1 ?_
  refine lv_iconst (v := nI 0) hx hb dX7_stream_4 (by decide +kernel) ?_
  refine lv_ldc hx hb hown k184 dX7_stream_5 ?_
  refine r_iast hx hb h0 hw 3 rfl (i := 0) (by omega) (by omega) dX7_stream_7 (fun H locs hw => ?_)
  have hw : WD g A s [(md 25, .inr (7, [.ref (md 0), .int (nI op), .ref (md 2), .ref (md 3), .ref (md 4), .ref (md 5), .ref (md 6), .ref (md 7), .ref (md 8), .ref (md 9), .ref (md 10), .ref (md 11), .int (nI on), .ref (md 13), .int (nI inn), .ref (md 15), .ref (md 16), .ref (md 17), .ref (md 18), .ref (md 19), .ref (md 20), .ref (md 21), .ref (md 22), .ref (md 23), .ref (md 24)])), (md 2, .inl (g.2.1 0, 64, .inl (se))), (md 9, .inl (g.2.1 0, 1024, .inl (wr))), (md 23, .inl (g.2.1 0, 16, .inl (upd wd 0 1634760805))), (md 24, .inl (g.2.1 0, 16, .inl (mx)))] [] H locs := hw
  refine lv_aload_n hx hb dX7_stream_8 rfl (lv_at hl 0 rfl) ?_
  refine r_get (ci := 7) (v := .ref (md 23)) (C := RX7) (T := TX7) (N := 25) hx hb hts hinX7 hown h0 hw 0 rfl rfl 23 (by decide) k136 rfl dX7_stream_9 ?_
  refine lv_iconst (v := nI 5) hx hb dX7_stream_12 (by decide +kernel) ?_
  refine lv_ldc hx hb hown k185 dX7_stream_13 ?_
  refine r_iast hx hb h0 hw 3 rfl (i := 5) (by omega) (by omega) dX7_stream_15 (fun H locs hw => ?_)
  have hw : WD g A s [(md 25, .inr (7, [.ref (md 0), .int (nI op), .ref (md 2), .ref (md 3), .ref (md 4), .ref (md 5), .ref (md 6), .ref (md 7), .ref (md 8), .ref (md 9), .ref (md 10), .ref (md 11), .int (nI on), .ref (md 13), .int (nI inn), .ref (md 15), .ref (md 16), .ref (md 17), .ref (md 18), .ref (md 19), .ref (md 20), .ref (md 21), .ref (md 22), .ref (md 23), .ref (md 24)])), (md 2, .inl (g.2.1 0, 64, .inl (se))), (md 9, .inl (g.2.1 0, 1024, .inl (wr))), (md 23, .inl (g.2.1 0, 16, .inl (upd (upd wd 0 1634760805) 5 857760878))), (md 24, .inl (g.2.1 0, 16, .inl (mx)))] [] H locs := hw
  refine lv_aload_n hx hb dX7_stream_16 rfl (lv_at hl 0 rfl) ?_
  refine r_get (ci := 7) (v := .ref (md 23)) (C := RX7) (T := TX7) (N := 25) hx hb hts hinX7 hown h0 hw 0 rfl rfl 23 (by decide) k136 rfl dX7_stream_17 ?_
  refine lv_bipush (v := nI 10) hx hb dX7_stream_20 (by decide +kernel) ?_
  refine lv_ldc hx hb hown k186 dX7_stream_22 ?_
  refine r_iast hx hb h0 hw 3 rfl (i := 10) (by omega) (by omega) dX7_stream_24 (fun H locs hw => ?_)
  have hw : WD g A s [(md 25, .inr (7, [.ref (md 0), .int (nI op), .ref (md 2), .ref (md 3), .ref (md 4), .ref (md 5), .ref (md 6), .ref (md 7), .ref (md 8), .ref (md 9), .ref (md 10), .ref (md 11), .int (nI on), .ref (md 13), .int (nI inn), .ref (md 15), .ref (md 16), .ref (md 17), .ref (md 18), .ref (md 19), .ref (md 20), .ref (md 21), .ref (md 22), .ref (md 23), .ref (md 24)])), (md 2, .inl (g.2.1 0, 64, .inl (se))), (md 9, .inl (g.2.1 0, 1024, .inl (wr))), (md 23, .inl (g.2.1 0, 16, .inl (upd (upd (upd wd 0 1634760805) 5 857760878) 10 2036477234))), (md 24, .inl (g.2.1 0, 16, .inl (mx)))] [] H locs := hw
  refine lv_aload_n hx hb dX7_stream_25 rfl (lv_at hl 0 rfl) ?_
  refine r_get (ci := 7) (v := .ref (md 23)) (C := RX7) (T := TX7) (N := 25) hx hb hts hinX7 hown h0 hw 0 rfl rfl 23 (by decide) k136 rfl dX7_stream_26 ?_
  refine lv_bipush (v := nI 15) hx hb dX7_stream_29 (by decide +kernel) ?_
  refine lv_ldc hx hb hown k187 dX7_stream_31 ?_
  refine r_iast hx hb h0 hw 3 rfl (i := 15) (by omega) (by omega) dX7_stream_33 (fun H locs hw => ?_)
  have hw : WD g A s [(md 25, .inr (7, [.ref (md 0), .int (nI op), .ref (md 2), .ref (md 3), .ref (md 4), .ref (md 5), .ref (md 6), .ref (md 7), .ref (md 8), .ref (md 9), .ref (md 10), .ref (md 11), .int (nI on), .ref (md 13), .int (nI inn), .ref (md 15), .ref (md 16), .ref (md 17), .ref (md 18), .ref (md 19), .ref (md 20), .ref (md 21), .ref (md 22), .ref (md 23), .ref (md 24)])), (md 2, .inl (g.2.1 0, 64, .inl (se))), (md 9, .inl (g.2.1 0, 1024, .inl (wr))), (md 23, .inl (g.2.1 0, 16, .inl (upd (upd (upd (upd wd 0 1634760805) 5 857760878) 10 2036477234) 15 1797285236))), (md 24, .inl (g.2.1 0, 16, .inl (mx)))] [] H locs := hw
  have hw : WD g A s [(md 25, .inr (7, [.ref (md 0), .int (nI op), .ref (md 2), .ref (md 3), .ref (md 4), .ref (md 5), .ref (md 6), .ref (md 7), .ref (md 8), .ref (md 9), .ref (md 10), .ref (md 11), .int (nI on), .ref (md 13), .int (nI inn), .ref (md 15), .ref (md 16), .ref (md 17), .ref (md 18), .ref (md 19), .ref (md 20), .ref (md 21), .ref (md 22), .ref (md 23), .ref (md 24)])), (md 2, .inl (g.2.1 0, 64, .inl (se))), (md 9, .inl (g.2.1 0, 1024, .inl (wr))), (md 23, .inl (g.2.1 0, 16, .inl (w0 wd))), (md 24, .inl (g.2.1 0, 16, .inl (mx)))] [] H locs := hw
  refine lv_iconst (v := nI 0) hx hb dX7_stream_34 (by decide +kernel) ?_
  refine lv_istore (lv' := [(4, .int (nI 0)), (0, .ref (md 25)), (1, .int (nI d)), (2, .int (nI t)), (3, .int (cn))]) hx hb dX7_stream_35 hl (by decide) rfl (fun ls hl => ?_)
  have lp37 : ∀ (fu : Nat) (i : Nat), 4 - i < fu → (i ≤ 4) → ∀ (H : Heap) (locs : List Loc) (ls : Array Slot), WD g A s [(md 25, .inr (7, [.ref (md 0), .int (nI op), .ref (md 2), .ref (md 3), .ref (md 4), .ref (md 5), .ref (md 6), .ref (md 7), .ref (md 8), .ref (md 9), .ref (md 10), .ref (md 11), .int (nI on), .ref (md 13), .int (nI inn), .ref (md 15), .ref (md 16), .ref (md 17), .ref (md 18), .ref (md 19), .ref (md 20), .ref (md 21), .ref (md 22), .ref (md 23), .ref (md 24)])), (md 2, .inl (g.2.1 0, 64, .inl (se))), (md 9, .inl (g.2.1 0, 1024, .inl (wr))), (md 23, .inl (g.2.1 0, 16, .inl (wL (w0 wd) se d i))), (md 24, .inl (g.2.1 0, 16, .inl (mx)))] [] H locs → lv_has ls 5 [(4, .int (nI i)), (0, .ref (md 25)), (1, .int (nI d)), (2, .int (nI t)), (3, .int (cn))] → W p l e { frames := 2, cells := 0, slots := 0, locals := 45 } s m ar below meth c H locs 0 0 Q (F0 m 37 ls []) := by
    intro fu
    induction fu with
    | zero => intro i hmz; exact absurd hmz (Nat.not_lt_zero _)
    | succ fu ih =>
      intro i hms hi H locs ls hw hl
      refine lv_iload hx hb dX7_stream_37 (lv_at hl 0 rfl) ?_
      refine lv_iconst (v := nI 4) hx hb dX7_stream_39 (by decide +kernel) ?_
      refine lv_icmp_ge (tgt := 84) hx hb dX7_stream_40 (by decide) (fun c1 => ?_) (fun c1 => ?_)
      · skip
        have c1 : 4 ≤ i := (nI_leI (by omega) (by omega)).mp c1
        have hq : i = 4 := by omega
        have hwS2 := hw; have hlS3 := hl
        subst i
        have hw := hwS2; have hl := hlS3
        refine lv_aload_n hx hb dX7_stream_84 rfl (lv_at hl 1 rfl) ?_
        refine r_get (ci := 7) (v := .ref (md 23)) (C := RX7) (T := TX7) (N := 25) hx hb hts hinX7 hown h0 hw 0 rfl rfl 23 (by decide) k136 rfl dX7_stream_85 ?_
        refine lv_bipush (v := nI 6) hx hb dX7_stream_88 (by decide +kernel) ?_
        refine lv_aload_n hx hb dX7_stream_90 rfl (lv_at hl 1 rfl) ?_
        refine lv_iload_n hx hb dX7_stream_91 rfl (lv_at hl 3 rfl) ?_
        refine lv_iconst (v := nI 5) hx hb dX7_stream_92 (by decide +kernel) ?_
        refine r_calli (wr := [(md 2, .inl (g.2.1 0, 64, .inl (se))), (md 23, .inl (g.2.1 0, 16, .inl (wL (w0 wd) se d 4))), (md 24, .inl (g.2.1 0, 16, .inl (mx)))]) [0, 2] [1, 3, 4] h0 hw rfl rfl (by decide) (by decide) (va_runV (As := [.int (nI t), .int (nI 5)]) (rest := [.int (nI 6), .ref (md 23)]) ⟨hx, hb, hml, hown, hts⟩ (c_X7_wireWord l g md op on inn wr t 5 (by omega) (by omega) _) (cwV 2 hts gX7_stream_X7_wireWord rfl rfl rfl (by decide +kernel) ⟨Nat.le_of_ble_eq_true rfl, Nat.le_of_ble_eq_true rfl⟩) (preV_of [0, 2] [.int (nI t), .int (nI 5)] h0 hw rfl (by decide) 0 7 rfl rfl) rfl rfl hl.1 rfl (lv_room (Nat.le_of_ble_eq_true rfl)) dX7_stream_93 ⟨Nat.le_of_ble_eq_true rfl, Nat.le_of_ble_eq_true rfl⟩) (fun r4 u5 H locs hp6 hw => ?_)
        have hw : WD g A s [(md 2, .inl (g.2.1 0, 64, .inl (se))), (md 23, .inl (g.2.1 0, 16, .inl (wL (w0 wd) se d 4))), (md 24, .inl (g.2.1 0, 16, .inl (mx))), (md 25, .inr (7, [.ref (md 0), .int (nI op), .ref (md 2), .ref (md 3), .ref (md 4), .ref (md 5), .ref (md 6), .ref (md 7), .ref (md 8), .ref (md 9), .ref (md 10), .ref (md 11), .int (nI on), .ref (md 13), .int (nI inn), .ref (md 15), .ref (md 16), .ref (md 17), .ref (md 18), .ref (md 19), .ref (md 20), .ref (md 21), .ref (md 22), .ref (md 23), .ref (md 24)])), (md 9, .inl (g.2.1 0, 1024, .inl (wr)))] [] H locs := hw
        subst hp6
        refine r_iast hx hb h0 hw 1 rfl (i := 6) (by omega) (by omega) dX7_stream_96 (fun H locs hw => ?_)
        have hw : WD g A s [(md 2, .inl (g.2.1 0, 64, .inl (se))), (md 23, .inl (g.2.1 0, 16, .inl (upd (wL (w0 wd) se d 4) 6 (kwd wr (128 * t + 5))))), (md 24, .inl (g.2.1 0, 16, .inl (mx))), (md 25, .inr (7, [.ref (md 0), .int (nI op), .ref (md 2), .ref (md 3), .ref (md 4), .ref (md 5), .ref (md 6), .ref (md 7), .ref (md 8), .ref (md 9), .ref (md 10), .ref (md 11), .int (nI on), .ref (md 13), .int (nI inn), .ref (md 15), .ref (md 16), .ref (md 17), .ref (md 18), .ref (md 19), .ref (md 20), .ref (md 21), .ref (md 22), .ref (md 23), .ref (md 24)])), (md 9, .inl (g.2.1 0, 1024, .inl (wr)))] [] H locs := hw
        refine lv_aload_n hx hb dX7_stream_97 rfl (lv_at hl 1 rfl) ?_
        refine r_get (ci := 7) (v := .ref (md 23)) (C := RX7) (T := TX7) (N := 25) hx hb hts hinX7 hown h0 hw 3 rfl rfl 23 (by decide) k136 rfl dX7_stream_98 ?_
        refine lv_bipush (v := nI 7) hx hb dX7_stream_101 (by decide +kernel) ?_
        refine lv_aload_n hx hb dX7_stream_103 rfl (lv_at hl 1 rfl) ?_
        refine lv_iload_n hx hb dX7_stream_104 rfl (lv_at hl 3 rfl) ?_
        refine lv_bipush (v := nI 9) hx hb dX7_stream_105 (by decide +kernel) ?_
        refine r_calli (wr := [(md 2, .inl (g.2.1 0, 64, .inl (se))), (md 23, .inl (g.2.1 0, 16, .inl (upd (wL (w0 wd) se d 4) 6 (kwd wr (128 * t + 5))))), (md 24, .inl (g.2.1 0, 16, .inl (mx)))]) [3, 4] [0, 1, 2] h0 hw rfl rfl (by decide) (by decide) (va_runV (As := [.int (nI t), .int (nI 9)]) (rest := [.int (nI 7), .ref (md 23)]) ⟨hx, hb, hml, hown, hts⟩ (c_X7_wireWord l g md op on inn wr t 9 (by omega) (by omega) _) (cwV 2 hts gX7_stream_X7_wireWord rfl rfl rfl (by decide +kernel) ⟨Nat.le_of_ble_eq_true rfl, Nat.le_of_ble_eq_true rfl⟩) (preV_of [3, 4] [.int (nI t), .int (nI 9)] h0 hw rfl (by decide) 3 7 rfl rfl) rfl rfl hl.1 rfl (lv_room (Nat.le_of_ble_eq_true rfl)) dX7_stream_107 ⟨Nat.le_of_ble_eq_true rfl, Nat.le_of_ble_eq_true rfl⟩) (fun r7 u8 H locs hp9 hw => ?_)
        have hw : WD g A s [(md 2, .inl (g.2.1 0, 64, .inl (se))), (md 23, .inl (g.2.1 0, 16, .inl (upd (wL (w0 wd) se d 4) 6 (kwd wr (128 * t + 5))))), (md 24, .inl (g.2.1 0, 16, .inl (mx))), (md 25, .inr (7, [.ref (md 0), .int (nI op), .ref (md 2), .ref (md 3), .ref (md 4), .ref (md 5), .ref (md 6), .ref (md 7), .ref (md 8), .ref (md 9), .ref (md 10), .ref (md 11), .int (nI on), .ref (md 13), .int (nI inn), .ref (md 15), .ref (md 16), .ref (md 17), .ref (md 18), .ref (md 19), .ref (md 20), .ref (md 21), .ref (md 22), .ref (md 23), .ref (md 24)])), (md 9, .inl (g.2.1 0, 1024, .inl (wr)))] [] H locs := hw
        subst hp9
        refine r_iast hx hb h0 hw 1 rfl (i := 7) (by omega) (by omega) dX7_stream_110 (fun H locs hw => ?_)
        have hw : WD g A s [(md 2, .inl (g.2.1 0, 64, .inl (se))), (md 23, .inl (g.2.1 0, 16, .inl (upd (upd (wL (w0 wd) se d 4) 6 (kwd wr (128 * t + 5))) 7 (kwd wr (128 * t + 9))))), (md 24, .inl (g.2.1 0, 16, .inl (mx))), (md 25, .inr (7, [.ref (md 0), .int (nI op), .ref (md 2), .ref (md 3), .ref (md 4), .ref (md 5), .ref (md 6), .ref (md 7), .ref (md 8), .ref (md 9), .ref (md 10), .ref (md 11), .int (nI on), .ref (md 13), .int (nI inn), .ref (md 15), .ref (md 16), .ref (md 17), .ref (md 18), .ref (md 19), .ref (md 20), .ref (md 21), .ref (md 22), .ref (md 23), .ref (md 24)])), (md 9, .inl (g.2.1 0, 1024, .inl (wr)))] [] H locs := hw
        refine lv_aload_n hx hb dX7_stream_111 rfl (lv_at hl 1 rfl) ?_
        refine r_get (ci := 7) (v := .ref (md 23)) (C := RX7) (T := TX7) (N := 25) hx hb hts hinX7 hown h0 hw 3 rfl rfl 23 (by decide) k136 rfl dX7_stream_112 ?_
        refine lv_bipush (v := nI 8) hx hb dX7_stream_115 (by decide +kernel) ?_
        refine lv_iload_n hx hb dX7_stream_117 rfl (lv_at hl 4 rfl) ?_
        refine r_iast hx hb h0 hw 1 rfl (i := 8) (by omega) (by omega) dX7_stream_118 (fun H locs hw => ?_)
        have hw : WD g A s [(md 2, .inl (g.2.1 0, 64, .inl (se))), (md 23, .inl (g.2.1 0, 16, .inl (upd (upd (upd (wL (w0 wd) se d 4) 6 (kwd wr (128 * t + 5))) 7 (kwd wr (128 * t + 9))) 8 cn))), (md 24, .inl (g.2.1 0, 16, .inl (mx))), (md 25, .inr (7, [.ref (md 0), .int (nI op), .ref (md 2), .ref (md 3), .ref (md 4), .ref (md 5), .ref (md 6), .ref (md 7), .ref (md 8), .ref (md 9), .ref (md 10), .ref (md 11), .int (nI on), .ref (md 13), .int (nI inn), .ref (md 15), .ref (md 16), .ref (md 17), .ref (md 18), .ref (md 19), .ref (md 20), .ref (md 21), .ref (md 22), .ref (md 23), .ref (md 24)])), (md 9, .inl (g.2.1 0, 1024, .inl (wr)))] [] H locs := hw
        refine lv_aload_n hx hb dX7_stream_119 rfl (lv_at hl 1 rfl) ?_
        refine r_get (ci := 7) (v := .ref (md 23)) (C := RX7) (T := TX7) (N := 25) hx hb hts hinX7 hown h0 hw 3 rfl rfl 23 (by decide) k136 rfl dX7_stream_120 ?_
        refine lv_bipush (v := nI 9) hx hb dX7_stream_123 (by decide +kernel) ?_
        refine lv_iconst (v := nI 0) hx hb dX7_stream_125 (by decide +kernel) ?_
        refine r_iast hx hb h0 hw 1 rfl (i := 9) (by omega) (by omega) dX7_stream_126 (fun H locs hw => ?_)
        have hw : WD g A s [(md 2, .inl (g.2.1 0, 64, .inl (se))), (md 23, .inl (g.2.1 0, 16, .inl (upd (upd (upd (upd (wL (w0 wd) se d 4) 6 (kwd wr (128 * t + 5))) 7 (kwd wr (128 * t + 9))) 8 cn) 9 (nI 0)))), (md 24, .inl (g.2.1 0, 16, .inl (mx))), (md 25, .inr (7, [.ref (md 0), .int (nI op), .ref (md 2), .ref (md 3), .ref (md 4), .ref (md 5), .ref (md 6), .ref (md 7), .ref (md 8), .ref (md 9), .ref (md 10), .ref (md 11), .int (nI on), .ref (md 13), .int (nI inn), .ref (md 15), .ref (md 16), .ref (md 17), .ref (md 18), .ref (md 19), .ref (md 20), .ref (md 21), .ref (md 22), .ref (md 23), .ref (md 24)])), (md 9, .inl (g.2.1 0, 1024, .inl (wr)))] [] H locs := hw
        have hw := hw.cong 1 rfl (f' := sIn (shf se (32 * d)) (shf wr (128 * t)) cn) (wL_of wd se wr d t cn)
        have hw : WD g A s [(md 2, .inl (g.2.1 0, 64, .inl (se))), (md 23, .inl (g.2.1 0, 16, .inl (sIn (shf se (32 * d)) (shf wr (128 * t)) cn))), (md 24, .inl (g.2.1 0, 16, .inl (mx))), (md 25, .inr (7, [.ref (md 0), .int (nI op), .ref (md 2), .ref (md 3), .ref (md 4), .ref (md 5), .ref (md 6), .ref (md 7), .ref (md 8), .ref (md 9), .ref (md 10), .ref (md 11), .int (nI on), .ref (md 13), .int (nI inn), .ref (md 15), .ref (md 16), .ref (md 17), .ref (md 18), .ref (md 19), .ref (md 20), .ref (md 21), .ref (md 22), .ref (md 23), .ref (md 24)])), (md 9, .inl (g.2.1 0, 1024, .inl (wr)))] [] _ _ := hw
        refine lv_iconst (v := nI 0) hx hb dX7_stream_127 (by decide +kernel) ?_
        refine lv_istore (lv' := [(4, .int (nI 0)), (0, .ref (md 25)), (1, .int (nI d)), (2, .int (nI t)), (3, .int (cn))]) hx hb dX7_stream_128 hl (by decide) rfl (fun ls hl => ?_)
        have lp130 : ∀ (fu : Nat) (i : Nat), 16 - i < fu → (i ≤ 16) → ∀ (H : Heap) (locs : List Loc) (ls : Array Slot), WD g A s [(md 2, .inl (g.2.1 0, 64, .inl (se))), (md 23, .inl (g.2.1 0, 16, .inl (sIn (shf se (32 * d)) (shf wr (128 * t)) cn))), (md 24, .inl (g.2.1 0, 16, .inl (cpF mx (sIn (shf se (32 * d)) (shf wr (128 * t)) cn) i))), (md 25, .inr (7, [.ref (md 0), .int (nI op), .ref (md 2), .ref (md 3), .ref (md 4), .ref (md 5), .ref (md 6), .ref (md 7), .ref (md 8), .ref (md 9), .ref (md 10), .ref (md 11), .int (nI on), .ref (md 13), .int (nI inn), .ref (md 15), .ref (md 16), .ref (md 17), .ref (md 18), .ref (md 19), .ref (md 20), .ref (md 21), .ref (md 22), .ref (md 23), .ref (md 24)])), (md 9, .inl (g.2.1 0, 1024, .inl (wr)))] [] H locs → lv_has ls 5 [(4, .int (nI i)), (0, .ref (md 25))] → W p l e { frames := 2, cells := 0, slots := 0, locals := 45 } s m ar below meth c H locs 0 0 Q (F0 m 130 ls []) := by
          intro fu
          induction fu with
          | zero => intro i hmz; exact absurd hmz (Nat.not_lt_zero _)
          | succ fu ih =>
            intro i hms hi H locs ls hw hl
            refine lv_iload hx hb dX7_stream_130 (lv_at hl 0 rfl) ?_
            refine lv_bipush (v := nI 16) hx hb dX7_stream_132 (by decide +kernel) ?_
            refine lv_icmp_ge (tgt := 157) hx hb dX7_stream_134 (by decide) (fun c10 => ?_) (fun c10 => ?_)
            · skip
              have c10 : 16 ≤ i := (nI_leI (by omega) (by omega)).mp c10
              have hq : i = 16 := by omega
              have hwS11 := hw; have hlS12 := hl
              subst i
              have hw := hwS11; have hl := hlS12
              have hw := hw.cong 2 rfl (f' := sIn (shf se (32 * d)) (shf wr (128 * t)) cn) (cpF_at mx (sIn (shf se (32 * d)) (shf wr (128 * t)) cn) 16)
              have hw : WD g A s [(md 2, .inl (g.2.1 0, 64, .inl (se))), (md 23, .inl (g.2.1 0, 16, .inl (sIn (shf se (32 * d)) (shf wr (128 * t)) cn))), (md 24, .inl (g.2.1 0, 16, .inl (sIn (shf se (32 * d)) (shf wr (128 * t)) cn))), (md 25, .inr (7, [.ref (md 0), .int (nI op), .ref (md 2), .ref (md 3), .ref (md 4), .ref (md 5), .ref (md 6), .ref (md 7), .ref (md 8), .ref (md 9), .ref (md 10), .ref (md 11), .int (nI on), .ref (md 13), .int (nI inn), .ref (md 15), .ref (md 16), .ref (md 17), .ref (md 18), .ref (md 19), .ref (md 20), .ref (md 21), .ref (md 22), .ref (md 23), .ref (md 24)])), (md 9, .inl (g.2.1 0, 1024, .inl (wr)))] [] _ _ := hw
              refine lv_iconst (v := nI 0) hx hb dX7_stream_157 (by decide +kernel) ?_
              refine lv_istore (lv' := [(4, .int (nI 0)), (0, .ref (md 25))]) hx hb dX7_stream_158 hl (by decide) rfl (fun ls hl => ?_)
              have lp160 : ∀ (fu : Nat) (i : Nat), 10 - i < fu → (i ≤ 10) → ∀ (H : Heap) (locs : List Loc) (ls : Array Slot), WD g A s [(md 2, .inl (g.2.1 0, 64, .inl (se))), (md 23, .inl (g.2.1 0, 16, .inl (sIn (shf se (32 * d)) (shf wr (128 * t)) cn))), (md 24, .inl (g.2.1 0, 16, .inl (dbl (sIn (shf se (32 * d)) (shf wr (128 * t)) cn) i))), (md 25, .inr (7, [.ref (md 0), .int (nI op), .ref (md 2), .ref (md 3), .ref (md 4), .ref (md 5), .ref (md 6), .ref (md 7), .ref (md 8), .ref (md 9), .ref (md 10), .ref (md 11), .int (nI on), .ref (md 13), .int (nI inn), .ref (md 15), .ref (md 16), .ref (md 17), .ref (md 18), .ref (md 19), .ref (md 20), .ref (md 21), .ref (md 22), .ref (md 23), .ref (md 24)])), (md 9, .inl (g.2.1 0, 1024, .inl (wr)))] [] H locs → lv_has ls 5 [(4, .int (nI i)), (0, .ref (md 25))] → W p l e { frames := 2, cells := 0, slots := 0, locals := 45 } s m ar below meth c H locs 0 0 Q (F0 m 160 ls []) := by
                intro fu
                induction fu with
                | zero => intro i hmz; exact absurd hmz (Nat.not_lt_zero _)
                | succ fu ih =>
                  intro i hms hi H locs ls hw hl
                  refine lv_iload hx hb dX7_stream_160 (lv_at hl 0 rfl) ?_
                  refine lv_bipush (v := nI 10) hx hb dX7_stream_162 (by decide +kernel) ?_
                  refine lv_icmp_ge (tgt := 257) hx hb dX7_stream_164 (by decide) (fun c13 => ?_) (fun c13 => ?_)
                  · skip
                    have c13 : 10 ≤ i := (nI_leI (by omega) (by omega)).mp c13
                    have hq : i = 10 := by omega
                    have hwS14 := hw; have hlS15 := hl
                    subst i
                    have hw := hwS14; have hl := hlS15
                    exact hret (hw.perm (X' := [(md 25, .inr (7, [.ref (md 0), .int (nI op), .ref (md 2), .ref (md 3), .ref (md 4), .ref (md 5), .ref (md 6), .ref (md 7), .ref (md 8), .ref (md 9), .ref (md 10), .ref (md 11), .int (nI on), .ref (md 13), .int (nI inn), .ref (md 15), .ref (md 16), .ref (md 17), .ref (md 18), .ref (md 19), .ref (md 20), .ref (md 21), .ref (md 22), .ref (md 23), .ref (md 24)])), (md 2, .inl (g.2.1 0, 64, .inl (se))), (md 9, .inl (g.2.1 0, 1024, .inl (wr))), (md 23, .inl (g.2.1 0, 16, .inl (sIn (shf se (32 * d)) (shf wr (128 * t)) cn))), (md 24, .inl (g.2.1 0, 16, .inl (dbl (sIn (shf se (32 * d)) (shf wr (128 * t)) cn) 10)))]) [3, 0, 4, 1, 2] (by decide) rfl) () (trivial) (rfl) (by omega) (by omega) dX7_stream_257
                  · skip
                    have c13 : ¬ 10 ≤ i := fun q => c13 (((nI_leI (by omega) (by omega)).mpr q))
                    refine lv_aload_n hx hb dX7_stream_167 rfl (lv_at hl 1 rfl) ?_
                    refine lv_iconst (v := nI 0) hx hb dX7_stream_168 (by decide +kernel) ?_
                    refine lv_iconst (v := nI 4) hx hb dX7_stream_169 (by decide +kernel) ?_
                    refine lv_bipush (v := nI 8) hx hb dX7_stream_170 (by decide +kernel) ?_
                    refine lv_bipush (v := nI 12) hx hb dX7_stream_172 (by decide +kernel) ?_
                    refine r_callv (wr := [(md 2, .inl (g.2.1 0, 64, .inl (se))), (md 23, .inl (g.2.1 0, 16, .inl (sIn (shf se (32 * d)) (shf wr (128 * t)) cn))), (md 9, .inl (g.2.1 0, 1024, .inl (wr)))]) [3, 2] [0, 1, 4] h0 hw rfl rfl (by decide) (by decide) (va_runV (As := [.int (nI 0), .int (nI 4), .int (nI 8), .int (nI 12)]) (rest := []) ⟨hx, hb, hml, hown, hts⟩ (c_X7_quarter l g md op on inn (dbl (sIn (shf se (32 * d)) (shf wr (128 * t)) cn) i) 0 4 8 12 (by omega) (by omega) (by omega) (by omega) _) (cwV 4 hts gX7_stream_X7_quarter rfl rfl rfl (by decide +kernel) ⟨Nat.le_of_ble_eq_true rfl, Nat.le_of_ble_eq_true rfl⟩) (preV_of [3, 2] [.int (nI 0), .int (nI 4), .int (nI 8), .int (nI 12)] h0 hw rfl (by decide) 3 7 rfl rfl) rfl rfl hl.1 rfl (lv_room (Nat.le_of_ble_eq_true rfl)) dX7_stream_174 ⟨Nat.le_of_ble_eq_true rfl, Nat.le_of_ble_eq_true rfl⟩) (fun u17 H locs hp18 hw => ?_)
                    have hw : WD g A s [(md 2, .inl (g.2.1 0, 64, .inl (se))), (md 23, .inl (g.2.1 0, 16, .inl (sIn (shf se (32 * d)) (shf wr (128 * t)) cn))), (md 9, .inl (g.2.1 0, 1024, .inl (wr))), (md 25, .inr (7, [.ref (md 0), .int (nI op), .ref (md 2), .ref (md 3), .ref (md 4), .ref (md 5), .ref (md 6), .ref (md 7), .ref (md 8), .ref (md 9), .ref (md 10), .ref (md 11), .int (nI on), .ref (md 13), .int (nI inn), .ref (md 15), .ref (md 16), .ref (md 17), .ref (md 18), .ref (md 19), .ref (md 20), .ref (md 21), .ref (md 22), .ref (md 23), .ref (md 24)])), (md 24, .inl (g.2.1 0, 16, .inl (qr (dbl (sIn (shf se (32 * d)) (shf wr (128 * t)) cn) i) 0 4 8 12)))] [] H locs := hw
                    refine lv_aload_n hx hb dX7_stream_177 rfl (lv_at hl 1 rfl) ?_
                    refine lv_iconst (v := nI 5) hx hb dX7_stream_178 (by decide +kernel) ?_
                    refine lv_bipush (v := nI 9) hx hb dX7_stream_179 (by decide +kernel) ?_
                    refine lv_bipush (v := nI 13) hx hb dX7_stream_181 (by decide +kernel) ?_
                    refine lv_iconst (v := nI 1) hx hb dX7_stream_183 (by decide +kernel) ?_
                    refine r_callv (wr := [(md 2, .inl (g.2.1 0, 64, .inl (se))), (md 23, .inl (g.2.1 0, 16, .inl (sIn (shf se (32 * d)) (shf wr (128 * t)) cn))), (md 9, .inl (g.2.1 0, 1024, .inl (wr)))]) [3, 4] [0, 1, 2] h0 hw rfl rfl (by decide) (by decide) (va_runV (As := [.int (nI 5), .int (nI 9), .int (nI 13), .int (nI 1)]) (rest := []) ⟨hx, hb, hml, hown, hts⟩ (c_X7_quarter l g md op on inn (qr (dbl (sIn (shf se (32 * d)) (shf wr (128 * t)) cn) i) 0 4 8 12) 5 9 13 1 (by omega) (by omega) (by omega) (by omega) _) (cwV 4 hts gX7_stream_X7_quarter rfl rfl rfl (by decide +kernel) ⟨Nat.le_of_ble_eq_true rfl, Nat.le_of_ble_eq_true rfl⟩) (preV_of [3, 4] [.int (nI 5), .int (nI 9), .int (nI 13), .int (nI 1)] h0 hw rfl (by decide) 3 7 rfl rfl) rfl rfl hl.1 rfl (lv_room (Nat.le_of_ble_eq_true rfl)) dX7_stream_184 ⟨Nat.le_of_ble_eq_true rfl, Nat.le_of_ble_eq_true rfl⟩) (fun u20 H locs hp21 hw => ?_)
                    have hw : WD g A s [(md 2, .inl (g.2.1 0, 64, .inl (se))), (md 23, .inl (g.2.1 0, 16, .inl (sIn (shf se (32 * d)) (shf wr (128 * t)) cn))), (md 9, .inl (g.2.1 0, 1024, .inl (wr))), (md 25, .inr (7, [.ref (md 0), .int (nI op), .ref (md 2), .ref (md 3), .ref (md 4), .ref (md 5), .ref (md 6), .ref (md 7), .ref (md 8), .ref (md 9), .ref (md 10), .ref (md 11), .int (nI on), .ref (md 13), .int (nI inn), .ref (md 15), .ref (md 16), .ref (md 17), .ref (md 18), .ref (md 19), .ref (md 20), .ref (md 21), .ref (md 22), .ref (md 23), .ref (md 24)])), (md 24, .inl (g.2.1 0, 16, .inl (qr (qr (dbl (sIn (shf se (32 * d)) (shf wr (128 * t)) cn) i) 0 4 8 12) 5 9 13 1)))] [] H locs := hw
                    refine lv_aload_n hx hb dX7_stream_187 rfl (lv_at hl 1 rfl) ?_
                    refine lv_bipush (v := nI 10) hx hb dX7_stream_188 (by decide +kernel) ?_
                    refine lv_bipush (v := nI 14) hx hb dX7_stream_190 (by decide +kernel) ?_
                    refine lv_iconst (v := nI 2) hx hb dX7_stream_192 (by decide +kernel) ?_
                    refine lv_bipush (v := nI 6) hx hb dX7_stream_193 (by decide +kernel) ?_
                    refine r_callv (wr := [(md 2, .inl (g.2.1 0, 64, .inl (se))), (md 23, .inl (g.2.1 0, 16, .inl (sIn (shf se (32 * d)) (shf wr (128 * t)) cn))), (md 9, .inl (g.2.1 0, 1024, .inl (wr)))]) [3, 4] [0, 1, 2] h0 hw rfl rfl (by decide) (by decide) (va_runV (As := [.int (nI 10), .int (nI 14), .int (nI 2), .int (nI 6)]) (rest := []) ⟨hx, hb, hml, hown, hts⟩ (c_X7_quarter l g md op on inn (qr (qr (dbl (sIn (shf se (32 * d)) (shf wr (128 * t)) cn) i) 0 4 8 12) 5 9 13 1) 10 14 2 6 (by omega) (by omega) (by omega) (by omega) _) (cwV 4 hts gX7_stream_X7_quarter rfl rfl rfl (by decide +kernel) ⟨Nat.le_of_ble_eq_true rfl, Nat.le_of_ble_eq_true rfl⟩) (preV_of [3, 4] [.int (nI 10), .int (nI 14), .int (nI 2), .int (nI 6)] h0 hw rfl (by decide) 3 7 rfl rfl) rfl rfl hl.1 rfl (lv_room (Nat.le_of_ble_eq_true rfl)) dX7_stream_195 ⟨Nat.le_of_ble_eq_true rfl, Nat.le_of_ble_eq_true rfl⟩) (fun u23 H locs hp24 hw => ?_)
                    have hw : WD g A s [(md 2, .inl (g.2.1 0, 64, .inl (se))), (md 23, .inl (g.2.1 0, 16, .inl (sIn (shf se (32 * d)) (shf wr (128 * t)) cn))), (md 9, .inl (g.2.1 0, 1024, .inl (wr))), (md 25, .inr (7, [.ref (md 0), .int (nI op), .ref (md 2), .ref (md 3), .ref (md 4), .ref (md 5), .ref (md 6), .ref (md 7), .ref (md 8), .ref (md 9), .ref (md 10), .ref (md 11), .int (nI on), .ref (md 13), .int (nI inn), .ref (md 15), .ref (md 16), .ref (md 17), .ref (md 18), .ref (md 19), .ref (md 20), .ref (md 21), .ref (md 22), .ref (md 23), .ref (md 24)])), (md 24, .inl (g.2.1 0, 16, .inl (qr (qr (qr (dbl (sIn (shf se (32 * d)) (shf wr (128 * t)) cn) i) 0 4 8 12) 5 9 13 1) 10 14 2 6)))] [] H locs := hw
                    refine lv_aload_n hx hb dX7_stream_198 rfl (lv_at hl 1 rfl) ?_
                    refine lv_bipush (v := nI 15) hx hb dX7_stream_199 (by decide +kernel) ?_
                    refine lv_iconst (v := nI 3) hx hb dX7_stream_201 (by decide +kernel) ?_
                    refine lv_bipush (v := nI 7) hx hb dX7_stream_202 (by decide +kernel) ?_
                    refine lv_bipush (v := nI 11) hx hb dX7_stream_204 (by decide +kernel) ?_
                    refine r_callv (wr := [(md 2, .inl (g.2.1 0, 64, .inl (se))), (md 23, .inl (g.2.1 0, 16, .inl (sIn (shf se (32 * d)) (shf wr (128 * t)) cn))), (md 9, .inl (g.2.1 0, 1024, .inl (wr)))]) [3, 4] [0, 1, 2] h0 hw rfl rfl (by decide) (by decide) (va_runV (As := [.int (nI 15), .int (nI 3), .int (nI 7), .int (nI 11)]) (rest := []) ⟨hx, hb, hml, hown, hts⟩ (c_X7_quarter l g md op on inn (qr (qr (qr (dbl (sIn (shf se (32 * d)) (shf wr (128 * t)) cn) i) 0 4 8 12) 5 9 13 1) 10 14 2 6) 15 3 7 11 (by omega) (by omega) (by omega) (by omega) _) (cwV 4 hts gX7_stream_X7_quarter rfl rfl rfl (by decide +kernel) ⟨Nat.le_of_ble_eq_true rfl, Nat.le_of_ble_eq_true rfl⟩) (preV_of [3, 4] [.int (nI 15), .int (nI 3), .int (nI 7), .int (nI 11)] h0 hw rfl (by decide) 3 7 rfl rfl) rfl rfl hl.1 rfl (lv_room (Nat.le_of_ble_eq_true rfl)) dX7_stream_206 ⟨Nat.le_of_ble_eq_true rfl, Nat.le_of_ble_eq_true rfl⟩) (fun u26 H locs hp27 hw => ?_)
                    have hw : WD g A s [(md 2, .inl (g.2.1 0, 64, .inl (se))), (md 23, .inl (g.2.1 0, 16, .inl (sIn (shf se (32 * d)) (shf wr (128 * t)) cn))), (md 9, .inl (g.2.1 0, 1024, .inl (wr))), (md 25, .inr (7, [.ref (md 0), .int (nI op), .ref (md 2), .ref (md 3), .ref (md 4), .ref (md 5), .ref (md 6), .ref (md 7), .ref (md 8), .ref (md 9), .ref (md 10), .ref (md 11), .int (nI on), .ref (md 13), .int (nI inn), .ref (md 15), .ref (md 16), .ref (md 17), .ref (md 18), .ref (md 19), .ref (md 20), .ref (md 21), .ref (md 22), .ref (md 23), .ref (md 24)])), (md 24, .inl (g.2.1 0, 16, .inl (qr (qr (qr (qr (dbl (sIn (shf se (32 * d)) (shf wr (128 * t)) cn) i) 0 4 8 12) 5 9 13 1) 10 14 2 6) 15 3 7 11)))] [] H locs := hw
                    refine lv_aload_n hx hb dX7_stream_209 rfl (lv_at hl 1 rfl) ?_
                    refine lv_iconst (v := nI 0) hx hb dX7_stream_210 (by decide +kernel) ?_
                    refine lv_iconst (v := nI 1) hx hb dX7_stream_211 (by decide +kernel) ?_
                    refine lv_iconst (v := nI 2) hx hb dX7_stream_212 (by decide +kernel) ?_
                    refine lv_iconst (v := nI 3) hx hb dX7_stream_213 (by decide +kernel) ?_
                    refine r_callv (wr := [(md 2, .inl (g.2.1 0, 64, .inl (se))), (md 23, .inl (g.2.1 0, 16, .inl (sIn (shf se (32 * d)) (shf wr (128 * t)) cn))), (md 9, .inl (g.2.1 0, 1024, .inl (wr)))]) [3, 4] [0, 1, 2] h0 hw rfl rfl (by decide) (by decide) (va_runV (As := [.int (nI 0), .int (nI 1), .int (nI 2), .int (nI 3)]) (rest := []) ⟨hx, hb, hml, hown, hts⟩ (c_X7_quarter l g md op on inn (qr (qr (qr (qr (dbl (sIn (shf se (32 * d)) (shf wr (128 * t)) cn) i) 0 4 8 12) 5 9 13 1) 10 14 2 6) 15 3 7 11) 0 1 2 3 (by omega) (by omega) (by omega) (by omega) _) (cwV 4 hts gX7_stream_X7_quarter rfl rfl rfl (by decide +kernel) ⟨Nat.le_of_ble_eq_true rfl, Nat.le_of_ble_eq_true rfl⟩) (preV_of [3, 4] [.int (nI 0), .int (nI 1), .int (nI 2), .int (nI 3)] h0 hw rfl (by decide) 3 7 rfl rfl) rfl rfl hl.1 rfl (lv_room (Nat.le_of_ble_eq_true rfl)) dX7_stream_214 ⟨Nat.le_of_ble_eq_true rfl, Nat.le_of_ble_eq_true rfl⟩) (fun u29 H locs hp30 hw => ?_)
                    have hw : WD g A s [(md 2, .inl (g.2.1 0, 64, .inl (se))), (md 23, .inl (g.2.1 0, 16, .inl (sIn (shf se (32 * d)) (shf wr (128 * t)) cn))), (md 9, .inl (g.2.1 0, 1024, .inl (wr))), (md 25, .inr (7, [.ref (md 0), .int (nI op), .ref (md 2), .ref (md 3), .ref (md 4), .ref (md 5), .ref (md 6), .ref (md 7), .ref (md 8), .ref (md 9), .ref (md 10), .ref (md 11), .int (nI on), .ref (md 13), .int (nI inn), .ref (md 15), .ref (md 16), .ref (md 17), .ref (md 18), .ref (md 19), .ref (md 20), .ref (md 21), .ref (md 22), .ref (md 23), .ref (md 24)])), (md 24, .inl (g.2.1 0, 16, .inl (qr (qr (qr (qr (qr (dbl (sIn (shf se (32 * d)) (shf wr (128 * t)) cn) i) 0 4 8 12) 5 9 13 1) 10 14 2 6) 15 3 7 11) 0 1 2 3)))] [] H locs := hw
                    refine lv_aload_n hx hb dX7_stream_217 rfl (lv_at hl 1 rfl) ?_
                    refine lv_iconst (v := nI 5) hx hb dX7_stream_218 (by decide +kernel) ?_
                    refine lv_bipush (v := nI 6) hx hb dX7_stream_219 (by decide +kernel) ?_
                    refine lv_bipush (v := nI 7) hx hb dX7_stream_221 (by decide +kernel) ?_
                    refine lv_iconst (v := nI 4) hx hb dX7_stream_223 (by decide +kernel) ?_
                    refine r_callv (wr := [(md 2, .inl (g.2.1 0, 64, .inl (se))), (md 23, .inl (g.2.1 0, 16, .inl (sIn (shf se (32 * d)) (shf wr (128 * t)) cn))), (md 9, .inl (g.2.1 0, 1024, .inl (wr)))]) [3, 4] [0, 1, 2] h0 hw rfl rfl (by decide) (by decide) (va_runV (As := [.int (nI 5), .int (nI 6), .int (nI 7), .int (nI 4)]) (rest := []) ⟨hx, hb, hml, hown, hts⟩ (c_X7_quarter l g md op on inn (qr (qr (qr (qr (qr (dbl (sIn (shf se (32 * d)) (shf wr (128 * t)) cn) i) 0 4 8 12) 5 9 13 1) 10 14 2 6) 15 3 7 11) 0 1 2 3) 5 6 7 4 (by omega) (by omega) (by omega) (by omega) _) (cwV 4 hts gX7_stream_X7_quarter rfl rfl rfl (by decide +kernel) ⟨Nat.le_of_ble_eq_true rfl, Nat.le_of_ble_eq_true rfl⟩) (preV_of [3, 4] [.int (nI 5), .int (nI 6), .int (nI 7), .int (nI 4)] h0 hw rfl (by decide) 3 7 rfl rfl) rfl rfl hl.1 rfl (lv_room (Nat.le_of_ble_eq_true rfl)) dX7_stream_224 ⟨Nat.le_of_ble_eq_true rfl, Nat.le_of_ble_eq_true rfl⟩) (fun u32 H locs hp33 hw => ?_)
                    have hw : WD g A s [(md 2, .inl (g.2.1 0, 64, .inl (se))), (md 23, .inl (g.2.1 0, 16, .inl (sIn (shf se (32 * d)) (shf wr (128 * t)) cn))), (md 9, .inl (g.2.1 0, 1024, .inl (wr))), (md 25, .inr (7, [.ref (md 0), .int (nI op), .ref (md 2), .ref (md 3), .ref (md 4), .ref (md 5), .ref (md 6), .ref (md 7), .ref (md 8), .ref (md 9), .ref (md 10), .ref (md 11), .int (nI on), .ref (md 13), .int (nI inn), .ref (md 15), .ref (md 16), .ref (md 17), .ref (md 18), .ref (md 19), .ref (md 20), .ref (md 21), .ref (md 22), .ref (md 23), .ref (md 24)])), (md 24, .inl (g.2.1 0, 16, .inl (qr (qr (qr (qr (qr (qr (dbl (sIn (shf se (32 * d)) (shf wr (128 * t)) cn) i) 0 4 8 12) 5 9 13 1) 10 14 2 6) 15 3 7 11) 0 1 2 3) 5 6 7 4)))] [] H locs := hw
                    refine lv_aload_n hx hb dX7_stream_227 rfl (lv_at hl 1 rfl) ?_
                    refine lv_bipush (v := nI 10) hx hb dX7_stream_228 (by decide +kernel) ?_
                    refine lv_bipush (v := nI 11) hx hb dX7_stream_230 (by decide +kernel) ?_
                    refine lv_bipush (v := nI 8) hx hb dX7_stream_232 (by decide +kernel) ?_
                    refine lv_bipush (v := nI 9) hx hb dX7_stream_234 (by decide +kernel) ?_
                    refine r_callv (wr := [(md 2, .inl (g.2.1 0, 64, .inl (se))), (md 23, .inl (g.2.1 0, 16, .inl (sIn (shf se (32 * d)) (shf wr (128 * t)) cn))), (md 9, .inl (g.2.1 0, 1024, .inl (wr)))]) [3, 4] [0, 1, 2] h0 hw rfl rfl (by decide) (by decide) (va_runV (As := [.int (nI 10), .int (nI 11), .int (nI 8), .int (nI 9)]) (rest := []) ⟨hx, hb, hml, hown, hts⟩ (c_X7_quarter l g md op on inn (qr (qr (qr (qr (qr (qr (dbl (sIn (shf se (32 * d)) (shf wr (128 * t)) cn) i) 0 4 8 12) 5 9 13 1) 10 14 2 6) 15 3 7 11) 0 1 2 3) 5 6 7 4) 10 11 8 9 (by omega) (by omega) (by omega) (by omega) _) (cwV 4 hts gX7_stream_X7_quarter rfl rfl rfl (by decide +kernel) ⟨Nat.le_of_ble_eq_true rfl, Nat.le_of_ble_eq_true rfl⟩) (preV_of [3, 4] [.int (nI 10), .int (nI 11), .int (nI 8), .int (nI 9)] h0 hw rfl (by decide) 3 7 rfl rfl) rfl rfl hl.1 rfl (lv_room (Nat.le_of_ble_eq_true rfl)) dX7_stream_236 ⟨Nat.le_of_ble_eq_true rfl, Nat.le_of_ble_eq_true rfl⟩) (fun u35 H locs hp36 hw => ?_)
                    have hw : WD g A s [(md 2, .inl (g.2.1 0, 64, .inl (se))), (md 23, .inl (g.2.1 0, 16, .inl (sIn (shf se (32 * d)) (shf wr (128 * t)) cn))), (md 9, .inl (g.2.1 0, 1024, .inl (wr))), (md 25, .inr (7, [.ref (md 0), .int (nI op), .ref (md 2), .ref (md 3), .ref (md 4), .ref (md 5), .ref (md 6), .ref (md 7), .ref (md 8), .ref (md 9), .ref (md 10), .ref (md 11), .int (nI on), .ref (md 13), .int (nI inn), .ref (md 15), .ref (md 16), .ref (md 17), .ref (md 18), .ref (md 19), .ref (md 20), .ref (md 21), .ref (md 22), .ref (md 23), .ref (md 24)])), (md 24, .inl (g.2.1 0, 16, .inl (qr (qr (qr (qr (qr (qr (qr (dbl (sIn (shf se (32 * d)) (shf wr (128 * t)) cn) i) 0 4 8 12) 5 9 13 1) 10 14 2 6) 15 3 7 11) 0 1 2 3) 5 6 7 4) 10 11 8 9)))] [] H locs := hw
                    refine lv_aload_n hx hb dX7_stream_239 rfl (lv_at hl 1 rfl) ?_
                    refine lv_bipush (v := nI 15) hx hb dX7_stream_240 (by decide +kernel) ?_
                    refine lv_bipush (v := nI 12) hx hb dX7_stream_242 (by decide +kernel) ?_
                    refine lv_bipush (v := nI 13) hx hb dX7_stream_244 (by decide +kernel) ?_
                    refine lv_bipush (v := nI 14) hx hb dX7_stream_246 (by decide +kernel) ?_
                    refine r_callv (wr := [(md 2, .inl (g.2.1 0, 64, .inl (se))), (md 23, .inl (g.2.1 0, 16, .inl (sIn (shf se (32 * d)) (shf wr (128 * t)) cn))), (md 9, .inl (g.2.1 0, 1024, .inl (wr)))]) [3, 4] [0, 1, 2] h0 hw rfl rfl (by decide) (by decide) (va_runV (As := [.int (nI 15), .int (nI 12), .int (nI 13), .int (nI 14)]) (rest := []) ⟨hx, hb, hml, hown, hts⟩ (c_X7_quarter l g md op on inn (qr (qr (qr (qr (qr (qr (qr (dbl (sIn (shf se (32 * d)) (shf wr (128 * t)) cn) i) 0 4 8 12) 5 9 13 1) 10 14 2 6) 15 3 7 11) 0 1 2 3) 5 6 7 4) 10 11 8 9) 15 12 13 14 (by omega) (by omega) (by omega) (by omega) _) (cwV 4 hts gX7_stream_X7_quarter rfl rfl rfl (by decide +kernel) ⟨Nat.le_of_ble_eq_true rfl, Nat.le_of_ble_eq_true rfl⟩) (preV_of [3, 4] [.int (nI 15), .int (nI 12), .int (nI 13), .int (nI 14)] h0 hw rfl (by decide) 3 7 rfl rfl) rfl rfl hl.1 rfl (lv_room (Nat.le_of_ble_eq_true rfl)) dX7_stream_248 ⟨Nat.le_of_ble_eq_true rfl, Nat.le_of_ble_eq_true rfl⟩) (fun u38 H locs hp39 hw => ?_)
                    have hw : WD g A s [(md 2, .inl (g.2.1 0, 64, .inl (se))), (md 23, .inl (g.2.1 0, 16, .inl (sIn (shf se (32 * d)) (shf wr (128 * t)) cn))), (md 9, .inl (g.2.1 0, 1024, .inl (wr))), (md 25, .inr (7, [.ref (md 0), .int (nI op), .ref (md 2), .ref (md 3), .ref (md 4), .ref (md 5), .ref (md 6), .ref (md 7), .ref (md 8), .ref (md 9), .ref (md 10), .ref (md 11), .int (nI on), .ref (md 13), .int (nI inn), .ref (md 15), .ref (md 16), .ref (md 17), .ref (md 18), .ref (md 19), .ref (md 20), .ref (md 21), .ref (md 22), .ref (md 23), .ref (md 24)])), (md 24, .inl (g.2.1 0, 16, .inl (qr (qr (qr (qr (qr (qr (qr (qr (dbl (sIn (shf se (32 * d)) (shf wr (128 * t)) cn) i) 0 4 8 12) 5 9 13 1) 10 14 2 6) 15 3 7 11) 0 1 2 3) 5 6 7 4) 10 11 8 9) 15 12 13 14)))] [] H locs := hw
                    refine lv_iinc (v := nI (i + 1)) (lv' := [(4, .int (nI (i + 1))), (0, .ref (md 25))]) hx hb dX7_stream_251 hl (k := 0) rfl (nI_add i 1) (by decide) rfl (fun ls hl => ?_)
                    refine lv_goto (tgt := 160) hx hb dX7_stream_254 (by decide) ?_
                    exact ih (i + 1) (by omega) (by omega) _ _ _ (hw.perm [0, 1, 4, 3, 2] (by decide) rfl) (lv_sub hl [0, 1] rfl)
              exact lp160 (10 - 0 + 1) 0 (by omega) (by omega) _ _ _ hw (lv_sub hl [0, 1] rfl)
            · skip
              have c10 : ¬ 16 ≤ i := fun q => c10 (((nI_leI (by omega) (by omega)).mpr q))
              refine lv_aload_n hx hb dX7_stream_137 rfl (lv_at hl 1 rfl) ?_
              refine r_get (ci := 7) (v := .ref (md 24)) (C := RX7) (T := TX7) (N := 25) hx hb hts hinX7 hown h0 hw 3 rfl rfl 24 (by decide) k139 rfl dX7_stream_138 ?_
              refine lv_iload hx hb dX7_stream_141 (lv_at hl 0 rfl) ?_
              refine lv_aload_n hx hb dX7_stream_143 rfl (lv_at hl 1 rfl) ?_
              refine r_get (ci := 7) (v := .ref (md 23)) (C := RX7) (T := TX7) (N := 25) hx hb hts hinX7 hown h0 hw 3 rfl rfl 23 (by decide) k136 rfl dX7_stream_144 ?_
              refine lv_iload hx hb dX7_stream_147 (lv_at hl 0 rfl) ?_
              refine r_iald hx hb h0 hw 1 rfl (i := i) (by omega) (by omega) dX7_stream_149 ?_
              refine r_iast hx hb h0 hw 2 rfl (i := i) (by omega) (by omega) dX7_stream_150 (fun H locs hw => ?_)
              have hw : WD g A s [(md 2, .inl (g.2.1 0, 64, .inl (se))), (md 23, .inl (g.2.1 0, 16, .inl (sIn (shf se (32 * d)) (shf wr (128 * t)) cn))), (md 24, .inl (g.2.1 0, 16, .inl (upd (cpF mx (sIn (shf se (32 * d)) (shf wr (128 * t)) cn) i) i ((sIn (shf se (32 * d)) (shf wr (128 * t)) cn) i)))), (md 25, .inr (7, [.ref (md 0), .int (nI op), .ref (md 2), .ref (md 3), .ref (md 4), .ref (md 5), .ref (md 6), .ref (md 7), .ref (md 8), .ref (md 9), .ref (md 10), .ref (md 11), .int (nI on), .ref (md 13), .int (nI inn), .ref (md 15), .ref (md 16), .ref (md 17), .ref (md 18), .ref (md 19), .ref (md 20), .ref (md 21), .ref (md 22), .ref (md 23), .ref (md 24)])), (md 9, .inl (g.2.1 0, 1024, .inl (wr)))] [] H locs := hw
              refine lv_iinc (v := nI (i + 1)) (lv' := [(4, .int (nI (i + 1))), (0, .ref (md 25))]) hx hb dX7_stream_151 hl (k := 0) rfl (nI_add i 1) (by decide) rfl (fun ls hl => ?_)
              refine lv_goto (tgt := 130) hx hb dX7_stream_154 (by decide) ?_
              exact ih (i + 1) (by omega) (by omega) _ _ _ hw (lv_sub hl [0, 1] rfl)
        exact lp130 (16 - 0 + 1) 0 (by omega) (by omega) _ _ _ hw (lv_sub hl [0, 1] rfl)
      · skip
        have c1 : ¬ 4 ≤ i := fun q => c1 (((nI_leI (by omega) (by omega)).mpr q))
        refine lv_aload_n hx hb dX7_stream_43 rfl (lv_at hl 1 rfl) ?_
        refine r_get (ci := 7) (v := .ref (md 23)) (C := RX7) (T := TX7) (N := 25) hx hb hts hinX7 hown h0 hw 0 rfl rfl 23 (by decide) k136 rfl dX7_stream_44 ?_
        refine lv_iconst (v := nI 1) hx hb dX7_stream_47 (by decide +kernel) ?_
        refine lv_iload hx hb dX7_stream_48 (lv_at hl 0 rfl) ?_
        refine lv_iadd hx hb dX7_stream_50 ?_
        refine r_te (y := nI (1 + i)) (nI_add 1 i) ?_
        refine lv_aload_n hx hb dX7_stream_51 rfl (lv_at hl 1 rfl) ?_
        refine lv_iload_n hx hb dX7_stream_52 rfl (lv_at hl 2 rfl) ?_
        refine lv_iload hx hb dX7_stream_53 (lv_at hl 0 rfl) ?_
        refine r_calli (wr := [(md 9, .inl (g.2.1 0, 1024, .inl (wr))), (md 23, .inl (g.2.1 0, 16, .inl (wL (w0 wd) se d i))), (md 24, .inl (g.2.1 0, 16, .inl (mx)))]) [0, 1] [2, 3, 4] h0 hw rfl rfl (by decide) (by decide) (va_runV (As := [.int (nI d), .int (nI i)]) (rest := [.int (nI (1 + i)), .ref (md 23)]) ⟨hx, hb, hml, hown, hts⟩ (c_X7_keyWord l g md op on inn se d i (by omega) (by omega) _) (cwV 2 hts gX7_stream_X7_keyWord rfl rfl rfl (by decide +kernel) ⟨Nat.le_of_ble_eq_true rfl, Nat.le_of_ble_eq_true rfl⟩) (preV_of [0, 1] [.int (nI d), .int (nI i)] h0 hw rfl (by decide) 0 7 rfl rfl) rfl rfl hl.1 rfl (lv_room (Nat.le_of_ble_eq_true rfl)) dX7_stream_55 ⟨Nat.le_of_ble_eq_true rfl, Nat.le_of_ble_eq_true rfl⟩) (fun r40 u41 H locs hp42 hw => ?_)
        have hw : WD g A s [(md 9, .inl (g.2.1 0, 1024, .inl (wr))), (md 23, .inl (g.2.1 0, 16, .inl (wL (w0 wd) se d i))), (md 24, .inl (g.2.1 0, 16, .inl (mx))), (md 25, .inr (7, [.ref (md 0), .int (nI op), .ref (md 2), .ref (md 3), .ref (md 4), .ref (md 5), .ref (md 6), .ref (md 7), .ref (md 8), .ref (md 9), .ref (md 10), .ref (md 11), .int (nI on), .ref (md 13), .int (nI inn), .ref (md 15), .ref (md 16), .ref (md 17), .ref (md 18), .ref (md 19), .ref (md 20), .ref (md 21), .ref (md 22), .ref (md 23), .ref (md 24)])), (md 2, .inl (g.2.1 0, 64, .inl (se)))] [] H locs := hw
        subst hp42
        refine r_iast hx hb h0 hw 1 rfl (i := 1 + i) (by omega) (by omega) dX7_stream_58 (fun H locs hw => ?_)
        have hw : WD g A s [(md 9, .inl (g.2.1 0, 1024, .inl (wr))), (md 23, .inl (g.2.1 0, 16, .inl (upd (wL (w0 wd) se d i) (1 + i) (kwd se (32 * d + 4 * i))))), (md 24, .inl (g.2.1 0, 16, .inl (mx))), (md 25, .inr (7, [.ref (md 0), .int (nI op), .ref (md 2), .ref (md 3), .ref (md 4), .ref (md 5), .ref (md 6), .ref (md 7), .ref (md 8), .ref (md 9), .ref (md 10), .ref (md 11), .int (nI on), .ref (md 13), .int (nI inn), .ref (md 15), .ref (md 16), .ref (md 17), .ref (md 18), .ref (md 19), .ref (md 20), .ref (md 21), .ref (md 22), .ref (md 23), .ref (md 24)])), (md 2, .inl (g.2.1 0, 64, .inl (se)))] [] H locs := hw
        refine lv_aload_n hx hb dX7_stream_59 rfl (lv_at hl 1 rfl) ?_
        refine r_get (ci := 7) (v := .ref (md 23)) (C := RX7) (T := TX7) (N := 25) hx hb hts hinX7 hown h0 hw 3 rfl rfl 23 (by decide) k136 rfl dX7_stream_60 ?_
        refine lv_bipush (v := nI 11) hx hb dX7_stream_63 (by decide +kernel) ?_
        refine lv_iload hx hb dX7_stream_65 (lv_at hl 0 rfl) ?_
        refine lv_iadd hx hb dX7_stream_67 ?_
        refine r_te (y := nI (11 + i)) (nI_add 11 i) ?_
        refine lv_aload_n hx hb dX7_stream_68 rfl (lv_at hl 1 rfl) ?_
        refine lv_iload_n hx hb dX7_stream_69 rfl (lv_at hl 2 rfl) ?_
        refine lv_iconst (v := nI 4) hx hb dX7_stream_70 (by decide +kernel) ?_
        refine lv_iload hx hb dX7_stream_71 (lv_at hl 0 rfl) ?_
        refine lv_iadd hx hb dX7_stream_73 ?_
        refine r_te (y := nI (4 + i)) (nI_add 4 i) ?_
        refine r_calli (wr := [(md 9, .inl (g.2.1 0, 1024, .inl (wr))), (md 23, .inl (g.2.1 0, 16, .inl (upd (wL (w0 wd) se d i) (1 + i) (kwd se (32 * d + 4 * i))))), (md 24, .inl (g.2.1 0, 16, .inl (mx)))]) [3, 4] [0, 1, 2] h0 hw rfl rfl (by decide) (by decide) (va_runV (As := [.int (nI d), .int (nI (4 + i))]) (rest := [.int (nI (11 + i)), .ref (md 23)]) ⟨hx, hb, hml, hown, hts⟩ (c_X7_keyWord l g md op on inn se d (4 + i) (by omega) (by omega) _) (cwV 2 hts gX7_stream_X7_keyWord rfl rfl rfl (by decide +kernel) ⟨Nat.le_of_ble_eq_true rfl, Nat.le_of_ble_eq_true rfl⟩) (preV_of [3, 4] [.int (nI d), .int (nI (4 + i))] h0 hw rfl (by decide) 3 7 rfl rfl) rfl rfl hl.1 rfl (lv_room (Nat.le_of_ble_eq_true rfl)) dX7_stream_74 ⟨Nat.le_of_ble_eq_true rfl, Nat.le_of_ble_eq_true rfl⟩) (fun r43 u44 H locs hp45 hw => ?_)
        have hw : WD g A s [(md 9, .inl (g.2.1 0, 1024, .inl (wr))), (md 23, .inl (g.2.1 0, 16, .inl (upd (wL (w0 wd) se d i) (1 + i) (kwd se (32 * d + 4 * i))))), (md 24, .inl (g.2.1 0, 16, .inl (mx))), (md 25, .inr (7, [.ref (md 0), .int (nI op), .ref (md 2), .ref (md 3), .ref (md 4), .ref (md 5), .ref (md 6), .ref (md 7), .ref (md 8), .ref (md 9), .ref (md 10), .ref (md 11), .int (nI on), .ref (md 13), .int (nI inn), .ref (md 15), .ref (md 16), .ref (md 17), .ref (md 18), .ref (md 19), .ref (md 20), .ref (md 21), .ref (md 22), .ref (md 23), .ref (md 24)])), (md 2, .inl (g.2.1 0, 64, .inl (se)))] [] H locs := hw
        subst hp45
        refine r_iast hx hb h0 hw 1 rfl (i := 11 + i) (by omega) (by omega) dX7_stream_77 (fun H locs hw => ?_)
        have hw : WD g A s [(md 9, .inl (g.2.1 0, 1024, .inl (wr))), (md 23, .inl (g.2.1 0, 16, .inl (upd (upd (wL (w0 wd) se d i) (1 + i) (kwd se (32 * d + 4 * i))) (11 + i) (kwd se (32 * d + 4 * (4 + i)))))), (md 24, .inl (g.2.1 0, 16, .inl (mx))), (md 25, .inr (7, [.ref (md 0), .int (nI op), .ref (md 2), .ref (md 3), .ref (md 4), .ref (md 5), .ref (md 6), .ref (md 7), .ref (md 8), .ref (md 9), .ref (md 10), .ref (md 11), .int (nI on), .ref (md 13), .int (nI inn), .ref (md 15), .ref (md 16), .ref (md 17), .ref (md 18), .ref (md 19), .ref (md 20), .ref (md 21), .ref (md 22), .ref (md 23), .ref (md 24)])), (md 2, .inl (g.2.1 0, 64, .inl (se)))] [] H locs := hw
        refine lv_iinc (v := nI (i + 1)) (lv' := [(4, .int (nI (i + 1))), (0, .ref (md 25)), (1, .int (nI d)), (2, .int (nI t)), (3, .int (cn))]) hx hb dX7_stream_78 hl (k := 0) rfl (nI_add i 1) (by decide) rfl (fun ls hl => ?_)
        refine lv_goto (tgt := 37) hx hb dX7_stream_81 (by decide) ?_
        exact ih (i + 1) (by omega) (by omega) _ _ _ (hw.perm [3, 4, 0, 1, 2] (by decide) rfl) (lv_sub hl [0, 1, 2, 3, 4] rfl)
  exact lp37 (4 - 0 + 1) 0 (by omega) (by omega) _ _ _ hw (lv_sub hl [0, 1, 2, 3, 4] rfl)

set_option maxHeartbeats 4000000 in
set_option maxRecDepth 100000 in
theorem c_X7_sB_fill (l : Launch) (g : GE) (md : Nat → Nat) (op : Nat) (on : Nat) (inn : Nat) (se : Nat → Int32) (wr : Nat → Int32) (wd : Nat → Int32) (mx : Nat → Int32) (ke : Nat → Int32) (hf : Nat → Int32) (d : Nat) (t : Nat) (i : Nat) (hd : d < 2) (ht : t < 8) (hi : i < 1000) (hke : ke = shf se (32 * d)) (h5 : kwd (shf wr (128 * t)) 5 = kwd hf 5) (h9 : kwd (shf wr (128 * t)) 9 = kwd hf 9) (hgo : ¬ i % 64 = 0 → mx = dbl (sIn ke hf (nI (i / 64))) 10 ∧ wd = sIn ke hf (nI (i / 64))) (hm : i % 64 = 0) (sz : Nat) : MI l yX7_streamByte wsX7_streamByte { frames := 3, cells := 0, slots := 0, locals := 69 } g [.ref (md 25), .int (nI d), .int (nI t), .int (nI i)] [(md 25, .inr (7, [.ref (md 0), .int (nI op), .ref (md 2), .ref (md 3), .ref (md 4), .ref (md 5), .ref (md 6), .ref (md 7), .ref (md 8), .ref (md 9), .ref (md 10), .ref (md 11), .int (nI on), .ref (md 13), .int (nI inn), .ref (md 15), .ref (md 16), .ref (md 17), .ref (md 18), .ref (md 19), .ref (md 20), .ref (md 21), .ref (md 22), .ref (md 23), .ref (md 24)])), (md 2, .inl (g.2.1 0, 64, .inl (se))), (md 9, .inl (g.2.1 0, 1024, .inl (wr))), (md 23, .inl (g.2.1 0, 16, .inl (wd))), (md 24, .inl (g.2.1 0, 16, .inl (mx)))] sz (fun (r : Int32) (u : (Nat → Int32) × (Nat → Int32)) => r = sByte ke hf i ∧ u.1 = dbl (sIn ke hf (nI (i / 64))) 10 ∧ u.2 = sIn ke hf (nI (i / 64))) (fun (u : (Nat → Int32) × (Nat → Int32)) => [(md 25, .inr (7, [.ref (md 0), .int (nI op), .ref (md 2), .ref (md 3), .ref (md 4), .ref (md 5), .ref (md 6), .ref (md 7), .ref (md 8), .ref (md 9), .ref (md 10), .ref (md 11), .int (nI on), .ref (md 13), .int (nI inn), .ref (md 15), .ref (md 16), .ref (md 17), .ref (md 18), .ref (md 19), .ref (md 20), .ref (md 21), .ref (md 22), .ref (md 23), .ref (md 24)])), (md 2, .inl (g.2.1 0, 64, .inl (se))), (md 9, .inl (g.2.1 0, 1024, .inl (wr))), (md 23, .inl (g.2.1 0, 16, .inl (u.2))), (md 24, .inl (g.2.1 0, 16, .inl (u.1)))]) 0 0 := by
  refine enterI (by decide) rfl (Nat.le_of_ble_eq_true rfl) ?_
  intro p e s m below meth c A ls ar Q hE h0 hret hw hl
  obtain ⟨hx, hb, hr, hml, hown, hts, hlocks, hname⟩ := hE
  have hown : s.vm.findClass RX7 = some m.cls := hown
  have hw : WD g A s [(md 25, .inr (7, [.ref (md 0), .int (nI op), .ref (md 2), .ref (md 3), .ref (md 4), .ref (md 5), .ref (md 6), .ref (md 7), .ref (md 8), .ref (md 9), .ref (md 10), .ref (md 11), .int (nI on), .ref (md 13), .int (nI inn), .ref (md 15), .ref (md 16), .ref (md 17), .ref (md 18), .ref (md 19), .ref (md 20), .ref (md 21), .ref (md 22), .ref (md 23), .ref (md 24)])), (md 2, .inl (g.2.1 0, 64, .inl (se))), (md 9, .inl (g.2.1 0, 1024, .inl (wr))), (md 23, .inl (g.2.1 0, 16, .inl (wd))), (md 24, .inl (g.2.1 0, 16, .inl (mx)))] [] s.heap [] := hw
  have hinX7 : ∀ w ∈ u_ws RX7 TX7 25, w ∈ wsX7_streamByte := by decide +kernel
  have k136 := hts (.fieldLink RX7 136 "RecordWireModel" "words" "[I") (by decide +kernel)
  have k139 := hts (.fieldLink RX7 139 "RecordWireModel" "mixed" "[I") (by decide +kernel)
  have hS := sIn_hd (k := ke) (c := nI (i / 64)) h5 h9
  have hl : lv_has ls 5 [(0, .ref (md 25)), (1, .int (nI d)), (2, .int (nI t)), (3, .int (nI i))] := hl
  refine lv_iload_n hx hb dX7_streamByte_0 rfl (lv_at hl 3 rfl) ?_
  refine lv_bipush (v := nI 64) hx hb dX7_streamByte_1 (by decide +kernel) ?_
  refine lv_irem hx hb dX7_streamByte_3 (by decide +kernel) ?_
  refine r_te (y := nI (i % 64)) (pk_rem (by omega) (by decide) (by decide)) ?_
  refine lv_if_ne (tgt := 17) hx hb dX7_streamByte_4 (by decide) (fun c1 => ?_) (fun c1 => ?_)
  · skip
    rw [← nI_0] at c1
    have c1 : ¬ (i % 64) = 0 := fun q => c1 (((nI_eq (by omega) (by omega)).mpr q))
    exfalso; omega
  · skip
    rw [← nI_0] at c1
    have c1 : (i % 64) = 0 := (nI_eq (by omega) (by omega)).mp c1
    refine lv_aload_n hx hb dX7_streamByte_7 rfl (lv_at hl 0 rfl) ?_
    refine lv_iload_n hx hb dX7_streamByte_8 rfl (lv_at hl 1 rfl) ?_
    refine lv_iload_n hx hb dX7_streamByte_9 rfl (lv_at hl 2 rfl) ?_
    refine lv_iload_n hx hb dX7_streamByte_10 rfl (lv_at hl 3 rfl) ?_
    refine lv_bipush (v := nI 64) hx hb dX7_streamByte_11 (by decide +kernel) ?_
    refine lv_idiv hx hb dX7_streamByte_13 (by decide +kernel) ?_
    refine r_te (y := nI (i / 64)) (pk_div (by omega) (by decide) (by decide)) ?_
    refine r_callv (wr := []) [0, 1, 2, 3, 4] [] h0 hw rfl rfl (by decide) (by decide) (va_runV (As := [.int (nI d), .int (nI t), .int (nI (i / 64))]) (rest := []) ⟨hx, hb, hml, hown, hts⟩ (c_X7_stream l g md op on inn se wr wd mx d t (nI (i / 64)) (by omega) (by omega) _) (cwV 3 hts gX7_streamByte_X7_stream rfl rfl rfl (by decide +kernel) ⟨Nat.le_of_ble_eq_true rfl, Nat.le_of_ble_eq_true rfl⟩) (preV_of [0, 1, 2, 3, 4] [.int (nI d), .int (nI t), .int (nI (i / 64))] h0 hw rfl (by decide) 0 7 rfl rfl) rfl rfl hl.1 rfl (lv_room (Nat.le_of_ble_eq_true rfl)) dX7_streamByte_14 ⟨Nat.le_of_ble_eq_true rfl, Nat.le_of_ble_eq_true rfl⟩) (fun u3 H locs hp4 hw => ?_)
    have hw : WD g A s [(md 25, .inr (7, [.ref (md 0), .int (nI op), .ref (md 2), .ref (md 3), .ref (md 4), .ref (md 5), .ref (md 6), .ref (md 7), .ref (md 8), .ref (md 9), .ref (md 10), .ref (md 11), .int (nI on), .ref (md 13), .int (nI inn), .ref (md 15), .ref (md 16), .ref (md 17), .ref (md 18), .ref (md 19), .ref (md 20), .ref (md 21), .ref (md 22), .ref (md 23), .ref (md 24)])), (md 2, .inl (g.2.1 0, 64, .inl (se))), (md 9, .inl (g.2.1 0, 1024, .inl (wr))), (md 23, .inl (g.2.1 0, 16, .inl (sIn (shf se (32 * d)) (shf wr (128 * t)) (nI (i / 64))))), (md 24, .inl (g.2.1 0, 16, .inl (dbl (sIn (shf se (32 * d)) (shf wr (128 * t)) (nI (i / 64))) 10)))] [] H locs := hw
    refine lv_iload_n hx hb dX7_streamByte_17 rfl (lv_at hl 3 rfl) ?_
    refine lv_bipush (v := nI 64) hx hb dX7_streamByte_18 (by decide +kernel) ?_
    refine lv_irem hx hb dX7_streamByte_20 (by decide +kernel) ?_
    refine r_te (y := nI (i % 64)) (pk_rem (by omega) (by decide) (by decide)) ?_
    refine lv_iconst (v := nI 4) hx hb dX7_streamByte_21 (by decide +kernel) ?_
    refine lv_idiv hx hb dX7_streamByte_22 (by decide +kernel) ?_
    refine r_te (y := nI ((i % 64) / 4)) (pk_div (by omega) (by decide) (by decide)) ?_
    refine lv_istore (lv' := [(4, .int (nI ((i % 64) / 4))), (0, .ref (md 25)), (1, .int (nI d)), (2, .int (nI t)), (3, .int (nI i))]) hx hb dX7_streamByte_23 hl (by decide) rfl (fun ls hl => ?_)
    refine lv_aload_n hx hb dX7_streamByte_25 rfl (lv_at hl 1 rfl) ?_
    refine r_get (ci := 7) (v := .ref (md 24)) (C := RX7) (T := TX7) (N := 25) hx hb hts hinX7 hown h0 hw 0 rfl rfl 24 (by decide) k139 rfl dX7_streamByte_26 ?_
    refine lv_iload hx hb dX7_streamByte_29 (lv_at hl 0 rfl) ?_
    refine r_iald hx hb h0 hw 4 rfl (i := (i % 64) / 4) (by omega) (by omega) dX7_streamByte_31 ?_
    refine lv_aload_n hx hb dX7_streamByte_32 rfl (lv_at hl 1 rfl) ?_
    refine r_get (ci := 7) (v := .ref (md 23)) (C := RX7) (T := TX7) (N := 25) hx hb hts hinX7 hown h0 hw 0 rfl rfl 23 (by decide) k136 rfl dX7_streamByte_33 ?_
    refine lv_iload hx hb dX7_streamByte_36 (lv_at hl 0 rfl) ?_
    refine r_iald hx hb h0 hw 3 rfl (i := (i % 64) / 4) (by omega) (by omega) dX7_streamByte_38 ?_
    refine lv_iadd hx hb dX7_streamByte_39 ?_
    refine lv_bipush (v := nI 8) hx hb dX7_streamByte_40 (by decide +kernel) ?_
    refine lv_iload_n hx hb dX7_streamByte_42 rfl (lv_at hl 4 rfl) ?_
    refine lv_iconst (v := nI 4) hx hb dX7_streamByte_43 (by decide +kernel) ?_
    refine lv_irem hx hb dX7_streamByte_44 (by decide +kernel) ?_
    refine r_te (y := nI (i % 4)) (pk_rem (by omega) (by decide) (by decide)) ?_
    refine lv_imul hx hb dX7_streamByte_45 ?_
    refine r_te (y := nI (8 * (i % 4))) (pk_mul 8 (i % 4)) ?_
    refine lv_iushr (v := jushr (((dbl (sIn (shf se (32 * d)) (shf wr (128 * t)) (nI (i / 64))) 10) ((i % 64) / 4)) + ((sIn (shf se (32 * d)) (shf wr (128 * t)) (nI (i / 64))) ((i % 64) / 4))) (nI (8 * (i % 4)))) hx hb dX7_streamByte_46 rfl ?_
    refine lv_sipush (v := nI 255) hx hb dX7_streamByte_47 (by decide +kernel) ?_
    refine lv_iand hx hb dX7_streamByte_50 ?_
    exact hret hw (dbl (sIn (shf se (32 * d)) (shf wr (128 * t)) (nI (i / 64))) 10, sIn (shf se (32 * d)) (shf wr (128 * t)) (nI (i / 64))) (⟨by unfold sByte sBlk; rw [← hS, hke, show i % 64 % 4 = i % 4 by omega], by rw [← hS, hke], by rw [← hS, hke]⟩) (rfl) (by omega) (by omega) dX7_streamByte_51

set_option maxHeartbeats 4000000 in
set_option maxRecDepth 100000 in
theorem c_X7_sB_go (l : Launch) (g : GE) (md : Nat → Nat) (op : Nat) (on : Nat) (inn : Nat) (se : Nat → Int32) (wr : Nat → Int32) (wd : Nat → Int32) (mx : Nat → Int32) (ke : Nat → Int32) (hf : Nat → Int32) (d : Nat) (t : Nat) (i : Nat) (hd : d < 2) (ht : t < 8) (hi : i < 1000) (hke : ke = shf se (32 * d)) (h5 : kwd (shf wr (128 * t)) 5 = kwd hf 5) (h9 : kwd (shf wr (128 * t)) 9 = kwd hf 9) (hgo : ¬ i % 64 = 0 → mx = dbl (sIn ke hf (nI (i / 64))) 10 ∧ wd = sIn ke hf (nI (i / 64))) (hm : ¬ i % 64 = 0) (sz : Nat) : MI l yX7_streamByte wsX7_streamByte { frames := 3, cells := 0, slots := 0, locals := 69 } g [.ref (md 25), .int (nI d), .int (nI t), .int (nI i)] [(md 25, .inr (7, [.ref (md 0), .int (nI op), .ref (md 2), .ref (md 3), .ref (md 4), .ref (md 5), .ref (md 6), .ref (md 7), .ref (md 8), .ref (md 9), .ref (md 10), .ref (md 11), .int (nI on), .ref (md 13), .int (nI inn), .ref (md 15), .ref (md 16), .ref (md 17), .ref (md 18), .ref (md 19), .ref (md 20), .ref (md 21), .ref (md 22), .ref (md 23), .ref (md 24)])), (md 2, .inl (g.2.1 0, 64, .inl (se))), (md 9, .inl (g.2.1 0, 1024, .inl (wr))), (md 23, .inl (g.2.1 0, 16, .inl (wd))), (md 24, .inl (g.2.1 0, 16, .inl (mx)))] sz (fun (r : Int32) (u : (Nat → Int32) × (Nat → Int32)) => r = sByte ke hf i ∧ u.1 = dbl (sIn ke hf (nI (i / 64))) 10 ∧ u.2 = sIn ke hf (nI (i / 64))) (fun (u : (Nat → Int32) × (Nat → Int32)) => [(md 25, .inr (7, [.ref (md 0), .int (nI op), .ref (md 2), .ref (md 3), .ref (md 4), .ref (md 5), .ref (md 6), .ref (md 7), .ref (md 8), .ref (md 9), .ref (md 10), .ref (md 11), .int (nI on), .ref (md 13), .int (nI inn), .ref (md 15), .ref (md 16), .ref (md 17), .ref (md 18), .ref (md 19), .ref (md 20), .ref (md 21), .ref (md 22), .ref (md 23), .ref (md 24)])), (md 2, .inl (g.2.1 0, 64, .inl (se))), (md 9, .inl (g.2.1 0, 1024, .inl (wr))), (md 23, .inl (g.2.1 0, 16, .inl (u.2))), (md 24, .inl (g.2.1 0, 16, .inl (u.1)))]) 0 0 := by
  refine enterI (by decide) rfl (Nat.le_of_ble_eq_true rfl) ?_
  intro p e s m below meth c A ls ar Q hE h0 hret hw hl
  obtain ⟨hx, hb, hr, hml, hown, hts, hlocks, hname⟩ := hE
  have hown : s.vm.findClass RX7 = some m.cls := hown
  have hw : WD g A s [(md 25, .inr (7, [.ref (md 0), .int (nI op), .ref (md 2), .ref (md 3), .ref (md 4), .ref (md 5), .ref (md 6), .ref (md 7), .ref (md 8), .ref (md 9), .ref (md 10), .ref (md 11), .int (nI on), .ref (md 13), .int (nI inn), .ref (md 15), .ref (md 16), .ref (md 17), .ref (md 18), .ref (md 19), .ref (md 20), .ref (md 21), .ref (md 22), .ref (md 23), .ref (md 24)])), (md 2, .inl (g.2.1 0, 64, .inl (se))), (md 9, .inl (g.2.1 0, 1024, .inl (wr))), (md 23, .inl (g.2.1 0, 16, .inl (wd))), (md 24, .inl (g.2.1 0, 16, .inl (mx)))] [] s.heap [] := hw
  have hinX7 : ∀ w ∈ u_ws RX7 TX7 25, w ∈ wsX7_streamByte := by decide +kernel
  have k136 := hts (.fieldLink RX7 136 "RecordWireModel" "words" "[I") (by decide +kernel)
  have k139 := hts (.fieldLink RX7 139 "RecordWireModel" "mixed" "[I") (by decide +kernel)
  obtain ⟨hg1, hg2⟩ := hgo hm
  have hl : lv_has ls 5 [(0, .ref (md 25)), (1, .int (nI d)), (2, .int (nI t)), (3, .int (nI i))] := hl
  refine lv_iload_n hx hb dX7_streamByte_0 rfl (lv_at hl 3 rfl) ?_
  refine lv_bipush (v := nI 64) hx hb dX7_streamByte_1 (by decide +kernel) ?_
  refine lv_irem hx hb dX7_streamByte_3 (by decide +kernel) ?_
  refine r_te (y := nI (i % 64)) (pk_rem (by omega) (by decide) (by decide)) ?_
  refine lv_if_ne (tgt := 17) hx hb dX7_streamByte_4 (by decide) (fun c1 => ?_) (fun c1 => ?_)
  · skip
    rw [← nI_0] at c1
    have c1 : ¬ (i % 64) = 0 := fun q => c1 (((nI_eq (by omega) (by omega)).mpr q))
    refine lv_iload_n hx hb dX7_streamByte_17 rfl (lv_at hl 3 rfl) ?_
    refine lv_bipush (v := nI 64) hx hb dX7_streamByte_18 (by decide +kernel) ?_
    refine lv_irem hx hb dX7_streamByte_20 (by decide +kernel) ?_
    refine r_te (y := nI (i % 64)) (pk_rem (by omega) (by decide) (by decide)) ?_
    refine lv_iconst (v := nI 4) hx hb dX7_streamByte_21 (by decide +kernel) ?_
    refine lv_idiv hx hb dX7_streamByte_22 (by decide +kernel) ?_
    refine r_te (y := nI ((i % 64) / 4)) (pk_div (by omega) (by decide) (by decide)) ?_
    refine lv_istore (lv' := [(4, .int (nI ((i % 64) / 4))), (0, .ref (md 25)), (1, .int (nI d)), (2, .int (nI t)), (3, .int (nI i))]) hx hb dX7_streamByte_23 hl (by decide) rfl (fun ls hl => ?_)
    refine lv_aload_n hx hb dX7_streamByte_25 rfl (lv_at hl 1 rfl) ?_
    refine r_get (ci := 7) (v := .ref (md 24)) (C := RX7) (T := TX7) (N := 25) hx hb hts hinX7 hown h0 hw 0 rfl rfl 24 (by decide) k139 rfl dX7_streamByte_26 ?_
    refine lv_iload hx hb dX7_streamByte_29 (lv_at hl 0 rfl) ?_
    refine r_iald hx hb h0 hw 4 rfl (i := (i % 64) / 4) (by omega) (by omega) dX7_streamByte_31 ?_
    refine lv_aload_n hx hb dX7_streamByte_32 rfl (lv_at hl 1 rfl) ?_
    refine r_get (ci := 7) (v := .ref (md 23)) (C := RX7) (T := TX7) (N := 25) hx hb hts hinX7 hown h0 hw 0 rfl rfl 23 (by decide) k136 rfl dX7_streamByte_33 ?_
    refine lv_iload hx hb dX7_streamByte_36 (lv_at hl 0 rfl) ?_
    refine r_iald hx hb h0 hw 3 rfl (i := (i % 64) / 4) (by omega) (by omega) dX7_streamByte_38 ?_
    refine lv_iadd hx hb dX7_streamByte_39 ?_
    refine lv_bipush (v := nI 8) hx hb dX7_streamByte_40 (by decide +kernel) ?_
    refine lv_iload_n hx hb dX7_streamByte_42 rfl (lv_at hl 4 rfl) ?_
    refine lv_iconst (v := nI 4) hx hb dX7_streamByte_43 (by decide +kernel) ?_
    refine lv_irem hx hb dX7_streamByte_44 (by decide +kernel) ?_
    refine r_te (y := nI (i % 4)) (pk_rem (by omega) (by decide) (by decide)) ?_
    refine lv_imul hx hb dX7_streamByte_45 ?_
    refine r_te (y := nI (8 * (i % 4))) (pk_mul 8 (i % 4)) ?_
    refine lv_iushr (v := jushr ((mx ((i % 64) / 4)) + (wd ((i % 64) / 4))) (nI (8 * (i % 4)))) hx hb dX7_streamByte_46 rfl ?_
    refine lv_sipush (v := nI 255) hx hb dX7_streamByte_47 (by decide +kernel) ?_
    refine lv_iand hx hb dX7_streamByte_50 ?_
    exact hret hw (mx, wd) (⟨by unfold sByte sBlk; rw [hg1, hg2, show i % 64 % 4 = i % 4 by omega], hg1, hg2⟩) (rfl) (by omega) (by omega) dX7_streamByte_51
  · skip
    rw [← nI_0] at c1
    have c1 : (i % 64) = 0 := (nI_eq (by omega) (by omega)).mp c1
    exfalso; omega

theorem c_X7_streamByte (l : Launch) (g : GE) (md : Nat → Nat) (op : Nat) (on : Nat) (inn : Nat) (se : Nat → Int32) (wr : Nat → Int32) (wd : Nat → Int32) (mx : Nat → Int32) (ke : Nat → Int32) (hf : Nat → Int32) (d : Nat) (t : Nat) (i : Nat) (hd : d < 2) (ht : t < 8) (hi : i < 1000) (hke : ke = shf se (32 * d)) (h5 : kwd (shf wr (128 * t)) 5 = kwd hf 5) (h9 : kwd (shf wr (128 * t)) 9 = kwd hf 9) (hgo : ¬ i % 64 = 0 → mx = dbl (sIn ke hf (nI (i / 64))) 10 ∧ wd = sIn ke hf (nI (i / 64))) (sz : Nat) : MI l yX7_streamByte wsX7_streamByte { frames := 3, cells := 0, slots := 0, locals := 69 } g [.ref (md 25), .int (nI d), .int (nI t), .int (nI i)] [(md 25, .inr (7, [.ref (md 0), .int (nI op), .ref (md 2), .ref (md 3), .ref (md 4), .ref (md 5), .ref (md 6), .ref (md 7), .ref (md 8), .ref (md 9), .ref (md 10), .ref (md 11), .int (nI on), .ref (md 13), .int (nI inn), .ref (md 15), .ref (md 16), .ref (md 17), .ref (md 18), .ref (md 19), .ref (md 20), .ref (md 21), .ref (md 22), .ref (md 23), .ref (md 24)])), (md 2, .inl (g.2.1 0, 64, .inl (se))), (md 9, .inl (g.2.1 0, 1024, .inl (wr))), (md 23, .inl (g.2.1 0, 16, .inl (wd))), (md 24, .inl (g.2.1 0, 16, .inl (mx)))] sz (fun (r : Int32) (u : (Nat → Int32) × (Nat → Int32)) => r = sByte ke hf i ∧ u.1 = dbl (sIn ke hf (nI (i / 64))) 10 ∧ u.2 = sIn ke hf (nI (i / 64))) (fun (u : (Nat → Int32) × (Nat → Int32)) => [(md 25, .inr (7, [.ref (md 0), .int (nI op), .ref (md 2), .ref (md 3), .ref (md 4), .ref (md 5), .ref (md 6), .ref (md 7), .ref (md 8), .ref (md 9), .ref (md 10), .ref (md 11), .int (nI on), .ref (md 13), .int (nI inn), .ref (md 15), .ref (md 16), .ref (md 17), .ref (md 18), .ref (md 19), .ref (md 20), .ref (md 21), .ref (md 22), .ref (md 23), .ref (md 24)])), (md 2, .inl (g.2.1 0, 64, .inl (se))), (md 9, .inl (g.2.1 0, 1024, .inl (wr))), (md 23, .inl (g.2.1 0, 16, .inl (u.2))), (md 24, .inl (g.2.1 0, 16, .inl (u.1)))]) 0 0 := by
  by_cases hm : i % 64 = 0
  · exact c_X7_sB_fill l g md op on inn se wr wd mx ke hf d t i hd ht hi hke h5 h9 hgo hm sz
  · exact c_X7_sB_go l g md op on inn se wr wd mx ke hf d t i hd ht hi hke h5 h9 hgo hm sz

set_option maxHeartbeats 4000000 in
set_option maxRecDepth 100000 in
theorem c_X7_tag (l : Launch) (g : GE) (md : Nat → Nat) (op : Nat) (on : Nat) (inn : Nat) (rf : Nat → Int32) (wf : Nat → Int32) (sf : Nat → Int32) (dg : Nat → Int32) (kf : Nat → Int32) (mf : Nat → Int32) (te : Nat → Int32) (wr : Nat → Int32) (d : Nat) (t : Nat) (n : Nat) (hd : d < 2) (ht : t < 8) (hn : n ≤ 119) (sz : Nat) : MV l yX7_tag wsX7_tag { frames := 4, cells := 0, slots := 0, locals := 99 } g [.ref (md 25), .int (nI d), .int (nI t), .int (nI n)] [(md 25, .inr (7, [.ref (md 0), .int (nI op), .ref (md 2), .ref (md 3), .ref (md 4), .ref (md 5), .ref (md 6), .ref (md 7), .ref (md 8), .ref (md 9), .ref (md 10), .ref (md 11), .int (nI on), .ref (md 13), .int (nI inn), .ref (md 15), .ref (md 16), .ref (md 17), .ref (md 18), .ref (md 19), .ref (md 20), .ref (md 21), .ref (md 22), .ref (md 23), .ref (md 24)])), (md 17, .inl (g.2.1 0, 400, .inl (rf))), (md 16, .inl (g.2.1 0, 64, .inl (wf))), (md 15, .inl (g.2.1 0, 8, .inl (sf))), (md 22, .inl (g.2.1 0, 64, .inl (kRW))), (md 18, .inl (g.2.1 0, 32, .inl (dg))), (md 19, .inl (g.2.1 0, 32, .inl (kf))), (md 21, .inl (g.2.1 0, 160, .inl (mf))), (md 3, .inl (g.2.1 0, 64, .inl (te))), (md 9, .inl (g.2.1 0, 1024, .inl (wr)))] sz (fun (u : (Nat → Int32) × (Nat → Int32) × (Nat → Int32) × (Nat → Int32) × (Nat → Int32)) => True) (fun (u : (Nat → Int32) × (Nat → Int32) × (Nat → Int32) × (Nat → Int32) × (Nat → Int32)) => [(md 25, .inr (7, [.ref (md 0), .int (nI op), .ref (md 2), .ref (md 3), .ref (md 4), .ref (md 5), .ref (md 6), .ref (md 7), .ref (md 8), .ref (md 9), .ref (md 10), .ref (md 11), .int (nI on), .ref (md 13), .int (nI inn), .ref (md 15), .ref (md 16), .ref (md 17), .ref (md 18), .ref (md 19), .ref (md 20), .ref (md 21), .ref (md 22), .ref (md 23), .ref (md 24)])), (md 17, .inl (g.2.1 0, 400, .inl (u.1))), (md 16, .inl (g.2.1 0, 64, .inl (u.2.1))), (md 15, .inl (g.2.1 0, 8, .inl (u.2.2.1))), (md 22, .inl (g.2.1 0, 64, .inl (kRW))), (md 18, .inl (g.2.1 0, 32, .inl (hmv (shf te (32 * d)) (shf wr (128 * t)) n))), (md 19, .inl (g.2.1 0, 32, .inl (u.2.2.2.1))), (md 21, .inl (g.2.1 0, 160, .inl (u.2.2.2.2))), (md 3, .inl (g.2.1 0, 64, .inl (te))), (md 9, .inl (g.2.1 0, 1024, .inl (wr)))]) 0 0 := by
  refine enterV (by decide) rfl (Nat.le_of_ble_eq_true rfl) ?_
  intro p e s m below meth c A ls ar Q hE h0 hret hw hl
  obtain ⟨hx, hb, hr, hml, hown, hts, hlocks, hname⟩ := hE
  have hown : s.vm.findClass RX7 = some m.cls := hown
  have hw : WD g A s [(md 25, .inr (7, [.ref (md 0), .int (nI op), .ref (md 2), .ref (md 3), .ref (md 4), .ref (md 5), .ref (md 6), .ref (md 7), .ref (md 8), .ref (md 9), .ref (md 10), .ref (md 11), .int (nI on), .ref (md 13), .int (nI inn), .ref (md 15), .ref (md 16), .ref (md 17), .ref (md 18), .ref (md 19), .ref (md 20), .ref (md 21), .ref (md 22), .ref (md 23), .ref (md 24)])), (md 17, .inl (g.2.1 0, 400, .inl (rf))), (md 16, .inl (g.2.1 0, 64, .inl (wf))), (md 15, .inl (g.2.1 0, 8, .inl (sf))), (md 22, .inl (g.2.1 0, 64, .inl (kRW))), (md 18, .inl (g.2.1 0, 32, .inl (dg))), (md 19, .inl (g.2.1 0, 32, .inl (kf))), (md 21, .inl (g.2.1 0, 160, .inl (mf))), (md 3, .inl (g.2.1 0, 64, .inl (te))), (md 9, .inl (g.2.1 0, 1024, .inl (wr)))] [] s.heap [] := hw
  have hinX7 : ∀ w ∈ u_ws RX7 TX7 25, w ∈ wsX7_tag := by decide +kernel
  have k16 := hts (.fieldLink RX7 16 "RecordWireModel" "tagKeys" "[I") (by decide +kernel)
  have k36 := hts (.fieldLink RX7 36 "RecordWireModel" "wire" "[I") (by decide +kernel)
  have k60 := hts (.fieldLink RX7 60 "RecordWireModel" "key" "[I") (by decide +kernel)
  have k66 := hts (.fieldLink RX7 66 "RecordWireModel" "message" "[I") (by decide +kernel)
  have hl : lv_has ls 5 [(0, .ref (md 25)), (1, .int (nI d)), (2, .int (nI t)), (3, .int (nI n))] := hl
  refine lv_iconst (v := nI 0) hx hb dX7_tag_0 (by decide +kernel) ?_
  refine lv_istore (lv' := [(4, .int (nI 0)), (0, .ref (md 25)), (1, .int (nI d)), (2, .int (nI t)), (3, .int (nI n))]) hx hb dX7_tag_1 hl (by decide) rfl (fun ls hl => ?_)
  have lp3 : ∀ (fu : Nat) (i : Nat), 32 - i < fu → (i ≤ 32) → ∀ (H : Heap) (locs : List Loc) (ls : Array Slot), WD g A s [(md 25, .inr (7, [.ref (md 0), .int (nI op), .ref (md 2), .ref (md 3), .ref (md 4), .ref (md 5), .ref (md 6), .ref (md 7), .ref (md 8), .ref (md 9), .ref (md 10), .ref (md 11), .int (nI on), .ref (md 13), .int (nI inn), .ref (md 15), .ref (md 16), .ref (md 17), .ref (md 18), .ref (md 19), .ref (md 20), .ref (md 21), .ref (md 22), .ref (md 23), .ref (md 24)])), (md 17, .inl (g.2.1 0, 400, .inl (rf))), (md 16, .inl (g.2.1 0, 64, .inl (wf))), (md 15, .inl (g.2.1 0, 8, .inl (sf))), (md 22, .inl (g.2.1 0, 64, .inl (kRW))), (md 18, .inl (g.2.1 0, 32, .inl (dg))), (md 19, .inl (g.2.1 0, 32, .inl (cpF kf (shf te (32 * d)) i))), (md 21, .inl (g.2.1 0, 160, .inl (mf))), (md 3, .inl (g.2.1 0, 64, .inl (te))), (md 9, .inl (g.2.1 0, 1024, .inl (wr)))] [] H locs → lv_has ls 5 [(4, .int (nI i)), (0, .ref (md 25)), (1, .int (nI d)), (2, .int (nI t)), (3, .int (nI n))] → W p l e { frames := 4, cells := 0, slots := 0, locals := 99 } s m ar below meth c H locs 0 0 Q (F0 m 3 ls []) := by
    intro fu
    induction fu with
    | zero => intro i hmz; exact absurd hmz (Nat.not_lt_zero _)
    | succ fu ih =>
      intro i hms hi H locs ls hw hl
      refine lv_iload hx hb dX7_tag_3 (lv_at hl 0 rfl) ?_
      refine lv_bipush (v := nI 32) hx hb dX7_tag_5 (by decide +kernel) ?_
      refine lv_icmp_ge (tgt := 35) hx hb dX7_tag_7 (by decide) (fun c1 => ?_) (fun c1 => ?_)
      · skip
        have c1 : 32 ≤ i := (nI_leI (by omega) (by omega)).mp c1
        have hq : i = 32 := by omega
        have hwS2 := hw; have hlS3 := hl
        subst i
        have hw := hwS2; have hl := hlS3
        refine lv_iconst (v := nI 0) hx hb dX7_tag_35 (by decide +kernel) ?_
        refine lv_istore (lv' := [(4, .int (nI 0)), (0, .ref (md 25)), (1, .int (nI d)), (2, .int (nI t)), (3, .int (nI n))]) hx hb dX7_tag_36 hl (by decide) rfl (fun ls hl => ?_)
        have lp38 : ∀ (fu : Nat) (i : Nat), n - i < fu → (i ≤ n) → ∀ (H : Heap) (locs : List Loc) (ls : Array Slot), WD g A s [(md 25, .inr (7, [.ref (md 0), .int (nI op), .ref (md 2), .ref (md 3), .ref (md 4), .ref (md 5), .ref (md 6), .ref (md 7), .ref (md 8), .ref (md 9), .ref (md 10), .ref (md 11), .int (nI on), .ref (md 13), .int (nI inn), .ref (md 15), .ref (md 16), .ref (md 17), .ref (md 18), .ref (md 19), .ref (md 20), .ref (md 21), .ref (md 22), .ref (md 23), .ref (md 24)])), (md 17, .inl (g.2.1 0, 400, .inl (rf))), (md 16, .inl (g.2.1 0, 64, .inl (wf))), (md 15, .inl (g.2.1 0, 8, .inl (sf))), (md 22, .inl (g.2.1 0, 64, .inl (kRW))), (md 18, .inl (g.2.1 0, 32, .inl (dg))), (md 19, .inl (g.2.1 0, 32, .inl (cpF kf (shf te (32 * d)) 32))), (md 21, .inl (g.2.1 0, 160, .inl (cpF mf (shf wr (128 * t)) i))), (md 3, .inl (g.2.1 0, 64, .inl (te))), (md 9, .inl (g.2.1 0, 1024, .inl (wr)))] [] H locs → lv_has ls 5 [(4, .int (nI i)), (0, .ref (md 25)), (2, .int (nI t)), (3, .int (nI n))] → W p l e { frames := 4, cells := 0, slots := 0, locals := 99 } s m ar below meth c H locs 0 0 Q (F0 m 38 ls []) := by
          intro fu
          induction fu with
          | zero => intro i hmz; exact absurd hmz (Nat.not_lt_zero _)
          | succ fu ih =>
            intro i hms hi H locs ls hw hl
            refine lv_iload hx hb dX7_tag_38 (lv_at hl 0 rfl) ?_
            refine lv_iload_n hx hb dX7_tag_40 rfl (lv_at hl 3 rfl) ?_
            refine lv_icmp_ge (tgt := 70) hx hb dX7_tag_41 (by decide) (fun c4 => ?_) (fun c4 => ?_)
            · skip
              have c4 : n ≤ i := (nI_leI (by omega) (by omega)).mp c4
              have hq : i = n := by omega
              have hwS5 := hw; have hlS6 := hl
              subst i
              have hw := hwS5; have hl := hlS6
              refine lv_aload_n hx hb dX7_tag_70 rfl (lv_at hl 1 rfl) ?_
              refine lv_iload_n hx hb dX7_tag_71 rfl (lv_at hl 3 rfl) ?_
              refine r_callv (wr := [(md 3, .inl (g.2.1 0, 64, .inl (te))), (md 9, .inl (g.2.1 0, 1024, .inl (wr)))]) [0, 1, 2, 3, 4, 5, 6, 7] [8, 9] h0 hw rfl rfl (by decide) (by decide) (va_runV (As := [.int (nI n)]) (rest := []) ⟨hx, hb, hml, hown, hts⟩ (c_X7_hmac l g md op on inn rf wf sf dg (cpF kf (shf te (32 * d)) 32) (cpF mf (shf wr (128 * t)) n) n (by omega) _) (cwV 1 hts gX7_tag_X7_hmac rfl rfl rfl (by decide +kernel) ⟨Nat.le_of_ble_eq_true rfl, Nat.le_of_ble_eq_true rfl⟩) (preV_of [0, 1, 2, 3, 4, 5, 6, 7] [.int (nI n)] h0 hw rfl (by decide) 0 7 rfl rfl) rfl rfl hl.1 rfl (lv_room (Nat.le_of_ble_eq_true rfl)) dX7_tag_72 ⟨Nat.le_of_ble_eq_true rfl, Nat.le_of_ble_eq_true rfl⟩) (fun u8 H locs hp9 hw => ?_)
              obtain ⟨r2_10, w2_11, s2_12⟩ := u8
              have hw : WD g A s [(md 3, .inl (g.2.1 0, 64, .inl (te))), (md 9, .inl (g.2.1 0, 1024, .inl (wr))), (md 25, .inr (7, [.ref (md 0), .int (nI op), .ref (md 2), .ref (md 3), .ref (md 4), .ref (md 5), .ref (md 6), .ref (md 7), .ref (md 8), .ref (md 9), .ref (md 10), .ref (md 11), .int (nI on), .ref (md 13), .int (nI inn), .ref (md 15), .ref (md 16), .ref (md 17), .ref (md 18), .ref (md 19), .ref (md 20), .ref (md 21), .ref (md 22), .ref (md 23), .ref (md 24)])), (md 17, .inl (g.2.1 0, 400, .inl (r2_10))), (md 16, .inl (g.2.1 0, 64, .inl (w2_11))), (md 15, .inl (g.2.1 0, 8, .inl (s2_12))), (md 22, .inl (g.2.1 0, 64, .inl (kRW))), (md 18, .inl (g.2.1 0, 32, .inl (hmv (cpF kf (shf te (32 * d)) 32) (cpF mf (shf wr (128 * t)) n) n))), (md 19, .inl (g.2.1 0, 32, .inl (cpF kf (shf te (32 * d)) 32))), (md 21, .inl (g.2.1 0, 160, .inl (cpF mf (shf wr (128 * t)) n)))] [] H locs := hw
              have hw := hw.cong 7 rfl (f' := hmv (shf te (32 * d)) (shf wr (128 * t)) n) (hmv_cong (cpF_at kf (shf te (32 * d)) 32) (cpF_at mf (shf wr (128 * t)) n))
              have hw : WD g A s [(md 3, .inl (g.2.1 0, 64, .inl (te))), (md 9, .inl (g.2.1 0, 1024, .inl (wr))), (md 25, .inr (7, [.ref (md 0), .int (nI op), .ref (md 2), .ref (md 3), .ref (md 4), .ref (md 5), .ref (md 6), .ref (md 7), .ref (md 8), .ref (md 9), .ref (md 10), .ref (md 11), .int (nI on), .ref (md 13), .int (nI inn), .ref (md 15), .ref (md 16), .ref (md 17), .ref (md 18), .ref (md 19), .ref (md 20), .ref (md 21), .ref (md 22), .ref (md 23), .ref (md 24)])), (md 17, .inl (g.2.1 0, 400, .inl (r2_10))), (md 16, .inl (g.2.1 0, 64, .inl (w2_11))), (md 15, .inl (g.2.1 0, 8, .inl (s2_12))), (md 22, .inl (g.2.1 0, 64, .inl (kRW))), (md 18, .inl (g.2.1 0, 32, .inl (hmv (shf te (32 * d)) (shf wr (128 * t)) n))), (md 19, .inl (g.2.1 0, 32, .inl (cpF kf (shf te (32 * d)) 32))), (md 21, .inl (g.2.1 0, 160, .inl (cpF mf (shf wr (128 * t)) n)))] [] _ _ := hw
              exact hret (hw.perm (X' := [(md 25, .inr (7, [.ref (md 0), .int (nI op), .ref (md 2), .ref (md 3), .ref (md 4), .ref (md 5), .ref (md 6), .ref (md 7), .ref (md 8), .ref (md 9), .ref (md 10), .ref (md 11), .int (nI on), .ref (md 13), .int (nI inn), .ref (md 15), .ref (md 16), .ref (md 17), .ref (md 18), .ref (md 19), .ref (md 20), .ref (md 21), .ref (md 22), .ref (md 23), .ref (md 24)])), (md 17, .inl (g.2.1 0, 400, .inl (r2_10))), (md 16, .inl (g.2.1 0, 64, .inl (w2_11))), (md 15, .inl (g.2.1 0, 8, .inl (s2_12))), (md 22, .inl (g.2.1 0, 64, .inl (kRW))), (md 18, .inl (g.2.1 0, 32, .inl (hmv (shf te (32 * d)) (shf wr (128 * t)) n))), (md 19, .inl (g.2.1 0, 32, .inl (cpF kf (shf te (32 * d)) 32))), (md 21, .inl (g.2.1 0, 160, .inl (cpF mf (shf wr (128 * t)) n))), (md 3, .inl (g.2.1 0, 64, .inl (te))), (md 9, .inl (g.2.1 0, 1024, .inl (wr)))]) [2, 3, 4, 5, 6, 7, 8, 9, 0, 1] (by decide) rfl) (r2_10, w2_11, s2_12, cpF kf (shf te (32 * d)) 32, cpF mf (shf wr (128 * t)) n) (trivial) (rfl) (by omega) (by omega) dX7_tag_75
            · skip
              have c4 : ¬ n ≤ i := fun q => c4 (((nI_leI (by omega) (by omega)).mpr q))
              refine lv_aload_n hx hb dX7_tag_44 rfl (lv_at hl 1 rfl) ?_
              refine r_get (ci := 7) (v := .ref (md 21)) (C := RX7) (T := TX7) (N := 25) hx hb hts hinX7 hown h0 hw 0 rfl rfl 21 (by decide) k66 rfl dX7_tag_45 ?_
              refine lv_iload hx hb dX7_tag_48 (lv_at hl 0 rfl) ?_
              refine lv_aload_n hx hb dX7_tag_50 rfl (lv_at hl 1 rfl) ?_
              refine r_get (ci := 7) (v := .ref (md 9)) (C := RX7) (T := TX7) (N := 25) hx hb hts hinX7 hown h0 hw 0 rfl rfl 9 (by decide) k36 rfl dX7_tag_51 ?_
              refine lv_sipush (v := nI 128) hx hb dX7_tag_54 (by decide +kernel) ?_
              refine lv_iload_n hx hb dX7_tag_57 rfl (lv_at hl 2 rfl) ?_
              refine lv_imul hx hb dX7_tag_58 ?_
              refine r_te (y := nI (128 * t)) (pk_mul 128 t) ?_
              refine lv_iload hx hb dX7_tag_59 (lv_at hl 0 rfl) ?_
              refine lv_iadd hx hb dX7_tag_61 ?_
              refine r_te (y := nI (128 * t + i)) (nI_add (128 * t) i) ?_
              refine r_iald hx hb h0 hw 9 rfl (i := 128 * t + i) (by omega) (by omega) dX7_tag_62 ?_
              refine r_iast hx hb h0 hw 7 rfl (i := i) (by omega) (by omega) dX7_tag_63 (fun H locs hw => ?_)
              have hw : WD g A s [(md 25, .inr (7, [.ref (md 0), .int (nI op), .ref (md 2), .ref (md 3), .ref (md 4), .ref (md 5), .ref (md 6), .ref (md 7), .ref (md 8), .ref (md 9), .ref (md 10), .ref (md 11), .int (nI on), .ref (md 13), .int (nI inn), .ref (md 15), .ref (md 16), .ref (md 17), .ref (md 18), .ref (md 19), .ref (md 20), .ref (md 21), .ref (md 22), .ref (md 23), .ref (md 24)])), (md 17, .inl (g.2.1 0, 400, .inl (rf))), (md 16, .inl (g.2.1 0, 64, .inl (wf))), (md 15, .inl (g.2.1 0, 8, .inl (sf))), (md 22, .inl (g.2.1 0, 64, .inl (kRW))), (md 18, .inl (g.2.1 0, 32, .inl (dg))), (md 19, .inl (g.2.1 0, 32, .inl (cpF kf (shf te (32 * d)) 32))), (md 21, .inl (g.2.1 0, 160, .inl (upd (cpF mf (shf wr (128 * t)) i) i (wr (128 * t + i))))), (md 3, .inl (g.2.1 0, 64, .inl (te))), (md 9, .inl (g.2.1 0, 1024, .inl (wr)))] [] H locs := hw
              refine lv_iinc (v := nI (i + 1)) (lv' := [(4, .int (nI (i + 1))), (0, .ref (md 25)), (2, .int (nI t)), (3, .int (nI n))]) hx hb dX7_tag_64 hl (k := 0) rfl (nI_add i 1) (by decide) rfl (fun ls hl => ?_)
              refine lv_goto (tgt := 38) hx hb dX7_tag_67 (by decide) ?_
              exact ih (i + 1) (by omega) (by omega) _ _ _ hw (lv_sub hl [0, 1, 2, 3] rfl)
        exact lp38 (n - 0 + 1) 0 (by omega) (by omega) _ _ _ hw (lv_sub hl [0, 1, 3, 4] rfl)
      · skip
        have c1 : ¬ 32 ≤ i := fun q => c1 (((nI_leI (by omega) (by omega)).mpr q))
        refine lv_aload_n hx hb dX7_tag_10 rfl (lv_at hl 1 rfl) ?_
        refine r_get (ci := 7) (v := .ref (md 19)) (C := RX7) (T := TX7) (N := 25) hx hb hts hinX7 hown h0 hw 0 rfl rfl 19 (by decide) k60 rfl dX7_tag_11 ?_
        refine lv_iload hx hb dX7_tag_14 (lv_at hl 0 rfl) ?_
        refine lv_aload_n hx hb dX7_tag_16 rfl (lv_at hl 1 rfl) ?_
        refine r_get (ci := 7) (v := .ref (md 3)) (C := RX7) (T := TX7) (N := 25) hx hb hts hinX7 hown h0 hw 0 rfl rfl 3 (by decide) k16 rfl dX7_tag_17 ?_
        refine lv_bipush (v := nI 32) hx hb dX7_tag_20 (by decide +kernel) ?_
        refine lv_iload_n hx hb dX7_tag_22 rfl (lv_at hl 2 rfl) ?_
        refine lv_imul hx hb dX7_tag_23 ?_
        refine r_te (y := nI (32 * d)) (pk_mul 32 d) ?_
        refine lv_iload hx hb dX7_tag_24 (lv_at hl 0 rfl) ?_
        refine lv_iadd hx hb dX7_tag_26 ?_
        refine r_te (y := nI (32 * d + i)) (nI_add (32 * d) i) ?_
        refine r_iald hx hb h0 hw 8 rfl (i := 32 * d + i) (by omega) (by omega) dX7_tag_27 ?_
        refine r_iast hx hb h0 hw 6 rfl (i := i) (by omega) (by omega) dX7_tag_28 (fun H locs hw => ?_)
        have hw : WD g A s [(md 25, .inr (7, [.ref (md 0), .int (nI op), .ref (md 2), .ref (md 3), .ref (md 4), .ref (md 5), .ref (md 6), .ref (md 7), .ref (md 8), .ref (md 9), .ref (md 10), .ref (md 11), .int (nI on), .ref (md 13), .int (nI inn), .ref (md 15), .ref (md 16), .ref (md 17), .ref (md 18), .ref (md 19), .ref (md 20), .ref (md 21), .ref (md 22), .ref (md 23), .ref (md 24)])), (md 17, .inl (g.2.1 0, 400, .inl (rf))), (md 16, .inl (g.2.1 0, 64, .inl (wf))), (md 15, .inl (g.2.1 0, 8, .inl (sf))), (md 22, .inl (g.2.1 0, 64, .inl (kRW))), (md 18, .inl (g.2.1 0, 32, .inl (dg))), (md 19, .inl (g.2.1 0, 32, .inl (upd (cpF kf (shf te (32 * d)) i) i (te (32 * d + i))))), (md 21, .inl (g.2.1 0, 160, .inl (mf))), (md 3, .inl (g.2.1 0, 64, .inl (te))), (md 9, .inl (g.2.1 0, 1024, .inl (wr)))] [] H locs := hw
        refine lv_iinc (v := nI (i + 1)) (lv' := [(4, .int (nI (i + 1))), (0, .ref (md 25)), (1, .int (nI d)), (2, .int (nI t)), (3, .int (nI n))]) hx hb dX7_tag_29 hl (k := 0) rfl (nI_add i 1) (by decide) rfl (fun ls hl => ?_)
        refine lv_goto (tgt := 3) hx hb dX7_tag_32 (by decide) ?_
        exact ih (i + 1) (by omega) (by omega) _ _ _ hw (lv_sub hl [0, 1, 2, 3, 4] rfl)
  exact lp3 (32 - 0 + 1) 0 (by omega) (by omega) _ _ _ hw (lv_sub hl [0, 1, 2, 3, 4] rfl)

set_option maxHeartbeats 4000000 in
set_option maxRecDepth 100000 in
theorem c_X7_number (l : Launch) (g : GE) (md : Nat → Nat) (op : Nat) (on : Nat) (inn : Nat) (wr : Nat → Int32) (a : Nat) (v : Int64) (k : Nat) (ha : a + k ≤ 1024) (hk : k ≤ 8) (sz : Nat) : MV l yX7_number wsX7_number { frames := 0, cells := 0, slots := 0, locals := 0 } g [.ref (md 25), .int (nI a), .long (v), .int (nI k)] [(md 25, .inr (7, [.ref (md 0), .int (nI op), .ref (md 2), .ref (md 3), .ref (md 4), .ref (md 5), .ref (md 6), .ref (md 7), .ref (md 8), .ref (md 9), .ref (md 10), .ref (md 11), .int (nI on), .ref (md 13), .int (nI inn), .ref (md 15), .ref (md 16), .ref (md 17), .ref (md 18), .ref (md 19), .ref (md 20), .ref (md 21), .ref (md 22), .ref (md 23), .ref (md 24)])), (md 9, .inl (g.2.1 0, 1024, .inl (wr)))] sz (fun (_ : Unit) => True) (fun (_ : Unit) => [(md 25, .inr (7, [.ref (md 0), .int (nI op), .ref (md 2), .ref (md 3), .ref (md 4), .ref (md 5), .ref (md 6), .ref (md 7), .ref (md 8), .ref (md 9), .ref (md 10), .ref (md 11), .int (nI on), .ref (md 13), .int (nI inn), .ref (md 15), .ref (md 16), .ref (md 17), .ref (md 18), .ref (md 19), .ref (md 20), .ref (md 21), .ref (md 22), .ref (md 23), .ref (md 24)])), (md 9, .inl (g.2.1 0, 1024, .inl (apD wr a v k k)))]) 0 0 := by
  refine enterV (by decide) rfl (Nat.le_of_ble_eq_true rfl) ?_
  intro p e s m below meth c A ls ar Q hE h0 hret hw hl
  obtain ⟨hx, hb, hr, hml, hown, hts, hlocks, hname⟩ := hE
  have hown : s.vm.findClass RX7 = some m.cls := hown
  have hw : WD g A s [(md 25, .inr (7, [.ref (md 0), .int (nI op), .ref (md 2), .ref (md 3), .ref (md 4), .ref (md 5), .ref (md 6), .ref (md 7), .ref (md 8), .ref (md 9), .ref (md 10), .ref (md 11), .int (nI on), .ref (md 13), .int (nI inn), .ref (md 15), .ref (md 16), .ref (md 17), .ref (md 18), .ref (md 19), .ref (md 20), .ref (md 21), .ref (md 22), .ref (md 23), .ref (md 24)])), (md 9, .inl (g.2.1 0, 1024, .inl (wr)))] [] s.heap [] := hw
  have hinX7 : ∀ w ∈ u_ws RX7 TX7 25, w ∈ wsX7_number := by decide +kernel
  have k36 := hts (.fieldLink RX7 36 "RecordWireModel" "wire" "[I") (by decide +kernel)
  have hl : lv_has ls 6 [(0, .ref (md 25)), (1, .int (nI a)), (2, .long (v)), (4, .int (nI k))] := hl
  refine lv_iconst (v := nI 0) hx hb dX7_number_0 (by decide +kernel) ?_
  refine lv_istore (lv' := [(5, .int (nI 0)), (0, .ref (md 25)), (1, .int (nI a)), (2, .long (v)), (4, .int (nI k))]) hx hb dX7_number_1 hl (by decide) rfl (fun ls hl => ?_)
  have lp3 : ∀ (fu : Nat) (i : Nat), k - i < fu → (i ≤ k) → ∀ (H : Heap) (locs : List Loc) (ls : Array Slot), WD g A s [(md 25, .inr (7, [.ref (md 0), .int (nI op), .ref (md 2), .ref (md 3), .ref (md 4), .ref (md 5), .ref (md 6), .ref (md 7), .ref (md 8), .ref (md 9), .ref (md 10), .ref (md 11), .int (nI on), .ref (md 13), .int (nI inn), .ref (md 15), .ref (md 16), .ref (md 17), .ref (md 18), .ref (md 19), .ref (md 20), .ref (md 21), .ref (md 22), .ref (md 23), .ref (md 24)])), (md 9, .inl (g.2.1 0, 1024, .inl (apD wr a v k i)))] [] H locs → lv_has ls 6 [(5, .int (nI i)), (0, .ref (md 25)), (1, .int (nI a)), (2, .long (v)), (4, .int (nI k))] → W p l e { frames := 0, cells := 0, slots := 0, locals := 0 } s m ar below meth c H locs 0 0 Q (F0 m 3 ls []) := by
    intro fu
    induction fu with
    | zero => intro i hmz; exact absurd hmz (Nat.not_lt_zero _)
    | succ fu ih =>
      intro i hms hi H locs ls hw hl
      refine lv_iload hx hb dX7_number_3 (lv_at hl 0 rfl) ?_
      refine lv_iload hx hb dX7_number_5 (lv_at hl 4 rfl) ?_
      refine lv_icmp_ge (tgt := 42) hx hb dX7_number_7 (by decide) (fun c1 => ?_) (fun c1 => ?_)
      · skip
        have c1 : k ≤ i := (nI_leI (by omega) (by omega)).mp c1
        have hq : i = k := by omega
        have hwS2 := hw; have hlS3 := hl
        subst i
        have hw := hwS2; have hl := hlS3
        exact hret hw () (trivial) (rfl) (by omega) (by omega) dX7_number_42
      · skip
        have c1 : ¬ k ≤ i := fun q => c1 (((nI_leI (by omega) (by omega)).mpr q))
        refine lv_aload_n hx hb dX7_number_10 rfl (lv_at hl 1 rfl) ?_
        refine r_get (ci := 7) (v := .ref (md 9)) (C := RX7) (T := TX7) (N := 25) hx hb hts hinX7 hown h0 hw 0 rfl rfl 9 (by decide) k36 rfl dX7_number_11 ?_
        refine lv_iload_n hx hb dX7_number_14 rfl (lv_at hl 2 rfl) ?_
        refine lv_iload hx hb dX7_number_15 (lv_at hl 0 rfl) ?_
        refine lv_iadd hx hb dX7_number_17 ?_
        refine r_te (y := nI (a + i)) (nI_add a i) ?_
        refine lv_lload_n hx hb dX7_number_18 rfl (lv_at hl 3 rfl) ?_
        refine lv_bipush (v := nI 8) hx hb dX7_number_19 (by decide +kernel) ?_
        refine lv_iload hx hb dX7_number_21 (lv_at hl 4 rfl) ?_
        refine lv_iconst (v := nI 1) hx hb dX7_number_23 (by decide +kernel) ?_
        refine lv_isub hx hb dX7_number_24 ?_
        refine r_te (y := nI (k - 1)) (pk_sub (by omega)) ?_
        refine lv_iload hx hb dX7_number_25 (lv_at hl 0 rfl) ?_
        refine lv_isub hx hb dX7_number_27 ?_
        refine r_te (y := nI (k - 1 - i)) (pk_sub (by omega)) ?_
        refine lv_imul hx hb dX7_number_28 ?_
        refine r_te (y := nI (8 * (k - 1 - i))) (pk_mul 8 (k - 1 - i)) ?_
        refine r_te (y := nI (8 * (k - i - 1))) (by rw [show k - 1 - i = k - i - 1 by omega]) ?_
        refine lv_lushr (v := jlushr v (nI (8 * (k - i - 1)))) hx hb dX7_number_29 rfl ?_
        refine lv_l2i (v := (jlushr v (nI (8 * (k - i - 1)))).toInt32) hx hb dX7_number_30 rfl ?_
        refine lv_sipush (v := nI 255) hx hb dX7_number_31 (by decide +kernel) ?_
        refine lv_iand hx hb dX7_number_34 ?_
        refine r_iast hx hb h0 hw 1 rfl (i := a + i) (by omega) (by omega) dX7_number_35 (fun H locs hw => ?_)
        have hw : WD g A s [(md 25, .inr (7, [.ref (md 0), .int (nI op), .ref (md 2), .ref (md 3), .ref (md 4), .ref (md 5), .ref (md 6), .ref (md 7), .ref (md 8), .ref (md 9), .ref (md 10), .ref (md 11), .int (nI on), .ref (md 13), .int (nI inn), .ref (md 15), .ref (md 16), .ref (md 17), .ref (md 18), .ref (md 19), .ref (md 20), .ref (md 21), .ref (md 22), .ref (md 23), .ref (md 24)])), (md 9, .inl (g.2.1 0, 1024, .inl (upd (apD wr a v k i) (a + i) (((jlushr v (nI (8 * (k - i - 1)))).toInt32) &&& (nI 255)))))] [] H locs := hw
        refine lv_iinc (v := nI (i + 1)) (lv' := [(5, .int (nI (i + 1))), (0, .ref (md 25)), (1, .int (nI a)), (2, .long (v)), (4, .int (nI k))]) hx hb dX7_number_36 hl (k := 0) rfl (nI_add i 1) (by decide) rfl (fun ls hl => ?_)
        refine lv_goto (tgt := 3) hx hb dX7_number_39 (by decide) ?_
        exact ih (i + 1) (by omega) (by omega) _ _ _ hw (lv_sub hl [0, 1, 2, 3, 4] rfl)
  exact lp3 (k - 0 + 1) 0 (by omega) (by omega) _ _ _ hw (lv_sub hl [0, 1, 2, 3, 4] rfl)

set_option maxHeartbeats 4000000 in
set_option maxRecDepth 100000 in
theorem c_X7_numberAt (l : Launch) (g : GE) (md : Nat → Nat) (op : Nat) (on : Nat) (inn : Nat) (wr : Nat → Int32) (a : Nat) (k : Nat) (ha : a + k ≤ 1024) (hb8 : ∀ j, j < k → wr (a + j) = wr (a + j) &&& nI 255) (sz : Nat) : ML l yX7_numberAt wsX7_numberAt { frames := 0, cells := 0, slots := 0, locals := 0 } g [.ref (md 25), .int (nI a), .int (nI k)] [(md 25, .inr (7, [.ref (md 0), .int (nI op), .ref (md 2), .ref (md 3), .ref (md 4), .ref (md 5), .ref (md 6), .ref (md 7), .ref (md 8), .ref (md 9), .ref (md 10), .ref (md 11), .int (nI on), .ref (md 13), .int (nI inn), .ref (md 15), .ref (md 16), .ref (md 17), .ref (md 18), .ref (md 19), .ref (md 20), .ref (md 21), .ref (md 22), .ref (md 23), .ref (md 24)])), (md 9, .inl (g.2.1 0, 1024, .inl (wr)))] sz (fun (r : Int64) (_ : Unit) => r = nAt wr a k) (fun (_ : Unit) => [(md 25, .inr (7, [.ref (md 0), .int (nI op), .ref (md 2), .ref (md 3), .ref (md 4), .ref (md 5), .ref (md 6), .ref (md 7), .ref (md 8), .ref (md 9), .ref (md 10), .ref (md 11), .int (nI on), .ref (md 13), .int (nI inn), .ref (md 15), .ref (md 16), .ref (md 17), .ref (md 18), .ref (md 19), .ref (md 20), .ref (md 21), .ref (md 22), .ref (md 23), .ref (md 24)])), (md 9, .inl (g.2.1 0, 1024, .inl (wr)))]) 0 0 := by
  refine enterL (by decide) rfl (Nat.le_of_ble_eq_true rfl) ?_
  intro p e s m below meth c A ls ar Q hE h0 hret hw hl
  obtain ⟨hx, hb, hr, hml, hown, hts, hlocks, hname⟩ := hE
  have hown : s.vm.findClass RX7 = some m.cls := hown
  have hw : WD g A s [(md 25, .inr (7, [.ref (md 0), .int (nI op), .ref (md 2), .ref (md 3), .ref (md 4), .ref (md 5), .ref (md 6), .ref (md 7), .ref (md 8), .ref (md 9), .ref (md 10), .ref (md 11), .int (nI on), .ref (md 13), .int (nI inn), .ref (md 15), .ref (md 16), .ref (md 17), .ref (md 18), .ref (md 19), .ref (md 20), .ref (md 21), .ref (md 22), .ref (md 23), .ref (md 24)])), (md 9, .inl (g.2.1 0, 1024, .inl (wr)))] [] s.heap [] := hw
  have hinX7 : ∀ w ∈ u_ws RX7 TX7 25, w ∈ wsX7_numberAt := by decide +kernel
  have k36 := hts (.fieldLink RX7 36 "RecordWireModel" "wire" "[I") (by decide +kernel)
  have hl : lv_has ls 6 [(0, .ref (md 25)), (1, .int (nI a)), (2, .int (nI k))] := hl
  refine lv_lconst (v := 0) hx hb dX7_numberAt_0 (by decide +kernel) ?_
  refine lv_lstore_n (lv' := [(3, .long (0)), (0, .ref (md 25)), (1, .int (nI a)), (2, .int (nI k))]) hx hb dX7_numberAt_1 rfl hl (by decide) rfl (fun ls hl => ?_)
  refine lv_iconst (v := nI 0) hx hb dX7_numberAt_2 (by decide +kernel) ?_
  refine lv_istore (lv' := [(5, .int (nI 0)), (3, .long (0)), (0, .ref (md 25)), (1, .int (nI a)), (2, .int (nI k))]) hx hb dX7_numberAt_3 hl (by decide) rfl (fun ls hl => ?_)
  have lp5 : ∀ (fu : Nat) (i : Nat), k - i < fu → (i ≤ k) → ∀ (H : Heap) (locs : List Loc) (ls : Array Slot), WD g A s [(md 25, .inr (7, [.ref (md 0), .int (nI op), .ref (md 2), .ref (md 3), .ref (md 4), .ref (md 5), .ref (md 6), .ref (md 7), .ref (md 8), .ref (md 9), .ref (md 10), .ref (md 11), .int (nI on), .ref (md 13), .int (nI inn), .ref (md 15), .ref (md 16), .ref (md 17), .ref (md 18), .ref (md 19), .ref (md 20), .ref (md 21), .ref (md 22), .ref (md 23), .ref (md 24)])), (md 9, .inl (g.2.1 0, 1024, .inl (wr)))] [] H locs → lv_has ls 6 [(5, .int (nI i)), (0, .ref (md 25)), (1, .int (nI a)), (2, .int (nI k)), (3, .long (nAt wr a i))] → W p l e { frames := 0, cells := 0, slots := 0, locals := 0 } s m ar below meth c H locs 0 0 Q (F0 m 5 ls []) := by
    intro fu
    induction fu with
    | zero => intro i hmz; exact absurd hmz (Nat.not_lt_zero _)
    | succ fu ih =>
      intro i hms hi H locs ls hw hl
      refine lv_iload hx hb dX7_numberAt_5 (lv_at hl 0 rfl) ?_
      refine lv_iload_n hx hb dX7_numberAt_7 rfl (lv_at hl 3 rfl) ?_
      refine lv_icmp_ge (tgt := 33) hx hb dX7_numberAt_8 (by decide) (fun c1 => ?_) (fun c1 => ?_)
      · skip
        have c1 : k ≤ i := (nI_leI (by omega) (by omega)).mp c1
        have hq : i = k := by omega
        have hwS2 := hw; have hlS3 := hl
        subst i
        have hw := hwS2; have hl := hlS3
        refine lv_lload_n hx hb dX7_numberAt_33 rfl (lv_at hl 4 rfl) ?_
        exact hret hw () (rfl) (rfl) (by omega) (by omega) dX7_numberAt_34
      · skip
        have c1 : ¬ k ≤ i := fun q => c1 (((nI_leI (by omega) (by omega)).mpr q))
        refine lv_lload_n hx hb dX7_numberAt_11 rfl (lv_at hl 4 rfl) ?_
        refine lv_bipush (v := nI 8) hx hb dX7_numberAt_12 (by decide +kernel) ?_
        refine lv_lshl (v := jlshl (nAt wr a i) (nI 8)) hx hb dX7_numberAt_14 rfl ?_
        refine lv_aload_n hx hb dX7_numberAt_15 rfl (lv_at hl 1 rfl) ?_
        refine r_get (ci := 7) (v := .ref (md 9)) (C := RX7) (T := TX7) (N := 25) hx hb hts hinX7 hown h0 hw 0 rfl rfl 9 (by decide) k36 rfl dX7_numberAt_16 ?_
        refine lv_iload_n hx hb dX7_numberAt_19 rfl (lv_at hl 2 rfl) ?_
        refine lv_iload hx hb dX7_numberAt_20 (lv_at hl 0 rfl) ?_
        refine lv_iadd hx hb dX7_numberAt_22 ?_
        refine r_te (y := nI (a + i)) (nI_add a i) ?_
        refine r_iald hx hb h0 hw 1 rfl (i := a + i) (by omega) (by omega) dX7_numberAt_23 ?_
        refine r_te (y := wr (a + i) &&& nI 255) (hb8 i (by omega)) ?_
        refine lv_i2l (v := (wr (a + i) &&& nI 255).toInt64) hx hb dX7_numberAt_24 rfl ?_
        refine lv_lor hx hb dX7_numberAt_25 ?_
        refine lv_topl (fun z4 ez4 => ?_)
        refine lv_lstore_n (lv' := [(3, .long (z4)), (5, .int (nI i)), (0, .ref (md 25)), (1, .int (nI a)), (2, .int (nI k))]) hx hb dX7_numberAt_26 rfl hl (by decide) rfl (fun ls hl => ?_)
        refine lv_iinc (v := nI (i + 1)) (lv' := [(5, .int (nI (i + 1))), (3, .long (z4)), (0, .ref (md 25)), (1, .int (nI a)), (2, .int (nI k))]) hx hb dX7_numberAt_27 hl (k := 1) rfl (nI_add i 1) (by decide) rfl (fun ls hl => ?_)
        refine lv_goto (tgt := 5) hx hb dX7_numberAt_30 (by decide) ?_
        subst ez4
        exact ih (i + 1) (by omega) (by omega) _ _ _ hw (lv_sub hl [0, 2, 3, 4, 1] rfl)
  exact lp5 (k - 0 + 1) 0 (by omega) (by omega) _ _ _ hw (lv_sub hl [0, 2, 3, 4, 1] rfl)
