set_option maxHeartbeats 4000000 in
set_option maxRecDepth 100000 in
theorem c_X7_rekey (l : Launch) (g : GE) (md : Nat → Nat) (op : Nat) (on : Nat) (inn : Nat) (rf : Nat → Int32) (wf : Nat → Int32) (sf : Nat → Int32) (dg : Nat → Int32) (kf : Nat → Int32) (otf : Nat → Int32) (mf : Nat → Int32) (se : Nat → Int32) (te : Nat → Int32) (nxf : Nat → Int64) (smf : Nat → Int32) (epn : Nat → Nat) (i : Nat) (hop : ¬ op = 0) (hop2 : op < 2) (hi : i < 2) (he : epn i < 10000) (sz : Nat) : MI l yX7_rekey wsX7_rekey { frames := 5, cells := 0, slots := 0, locals := 122 } g [.ref (md 25), .int (nI i)] [(md 25, .inr (7, [.ref (md 0), .int (nI op), .ref (md 2), .ref (md 3), .ref (md 4), .ref (md 5), .ref (md 6), .ref (md 7), .ref (md 8), .ref (md 9), .ref (md 10), .ref (md 11), .int (nI on), .ref (md 13), .int (nI inn), .ref (md 15), .ref (md 16), .ref (md 17), .ref (md 18), .ref (md 19), .ref (md 20), .ref (md 21), .ref (md 22), .ref (md 23), .ref (md 24)])), (md 17, .inl (g.2.1 0, 400, .inl (rf))), (md 16, .inl (g.2.1 0, 64, .inl (wf))), (md 15, .inl (g.2.1 0, 8, .inl (sf))), (md 22, .inl (g.2.1 0, 64, .inl (kRW))), (md 18, .inl (g.2.1 0, 32, .inl (dg))), (md 19, .inl (g.2.1 0, 32, .inl (kf))), (md 20, .inl (g.2.1 0, 32, .inl (otf))), (md 21, .inl (g.2.1 0, 160, .inl (mf))), (md 2, .inl (g.2.1 0, 64, .inl (se))), (md 3, .inl (g.2.1 0, 64, .inl (te))), (md 5, .inl (g.2.1 1, 2, .inr (.inl (nxf)))), (md 6, .inl (g.2.1 2, 2, .inl (smf))), (md 4, .inl (g.2.1 0, 2, .inl (szF epn)))] sz (fun (r : Int32) (u : (Nat → Int32) × (Nat → Int32) × (Nat → Int32) × (Nat → Int32) × (Nat → Int32) × (Nat → Int32) × (Nat → Int32)) => r = nI (epn i + 1)) (fun (u : (Nat → Int32) × (Nat → Int32) × (Nat → Int32) × (Nat → Int32) × (Nat → Int32) × (Nat → Int32) × (Nat → Int32)) => [(md 25, .inr (7, [.ref (md 0), .int (nI op), .ref (md 2), .ref (md 3), .ref (md 4), .ref (md 5), .ref (md 6), .ref (md 7), .ref (md 8), .ref (md 9), .ref (md 10), .ref (md 11), .int (nI on), .ref (md 13), .int (nI inn), .ref (md 15), .ref (md 16), .ref (md 17), .ref (md 18), .ref (md 19), .ref (md 20), .ref (md 21), .ref (md 22), .ref (md 23), .ref (md 24)])), (md 17, .inl (g.2.1 0, 400, .inl (u.1))), (md 16, .inl (g.2.1 0, 64, .inl (u.2.1))), (md 15, .inl (g.2.1 0, 8, .inl (u.2.2.1))), (md 22, .inl (g.2.1 0, 64, .inl (kRW))), (md 18, .inl (g.2.1 0, 32, .inl (u.2.2.2.1))), (md 19, .inl (g.2.1 0, 32, .inl (u.2.2.2.2.1))), (md 20, .inl (g.2.1 0, 32, .inl (u.2.2.2.2.2.1))), (md 21, .inl (g.2.1 0, 160, .inl (u.2.2.2.2.2.2))), (md 2, .inl (g.2.1 0, 64, .inl (laid se (32 * i) (keyD (hmv (shf te (32 * i)) (shf se (32 * i)) 32) i 0) 32))), (md 3, .inl (g.2.1 0, 64, .inl (laid te (32 * i) (keyD (hmv (shf te (32 * i)) (shf se (32 * i)) 32) i 1) 32))), (md 5, .inl (g.2.1 1, 2, .inr (.inl (vp_updL nxf i 0)))), (md 6, .inl (g.2.1 2, 2, .inl (upd smf i (nI 0)))), (md 4, .inl (g.2.1 0, 2, .inl (szF (va_up epn i (epn i + 1)))))]) 0 0 := by
  refine enterI (by decide) rfl (Nat.le_of_ble_eq_true rfl) ?_
  intro p e s m below meth c A ls ar Q hE h0 hret hw hl
  obtain ⟨hx, hb, hr, hml, hown, hts, hlocks, hname⟩ := hE
  have hown : s.vm.findClass RX7 = some m.cls := hown
  have hw : WD g A s [(md 25, .inr (7, [.ref (md 0), .int (nI op), .ref (md 2), .ref (md 3), .ref (md 4), .ref (md 5), .ref (md 6), .ref (md 7), .ref (md 8), .ref (md 9), .ref (md 10), .ref (md 11), .int (nI on), .ref (md 13), .int (nI inn), .ref (md 15), .ref (md 16), .ref (md 17), .ref (md 18), .ref (md 19), .ref (md 20), .ref (md 21), .ref (md 22), .ref (md 23), .ref (md 24)])), (md 17, .inl (g.2.1 0, 400, .inl (rf))), (md 16, .inl (g.2.1 0, 64, .inl (wf))), (md 15, .inl (g.2.1 0, 8, .inl (sf))), (md 22, .inl (g.2.1 0, 64, .inl (kRW))), (md 18, .inl (g.2.1 0, 32, .inl (dg))), (md 19, .inl (g.2.1 0, 32, .inl (kf))), (md 20, .inl (g.2.1 0, 32, .inl (otf))), (md 21, .inl (g.2.1 0, 160, .inl (mf))), (md 2, .inl (g.2.1 0, 64, .inl (se))), (md 3, .inl (g.2.1 0, 64, .inl (te))), (md 5, .inl (g.2.1 1, 2, .inr (.inl (nxf)))), (md 6, .inl (g.2.1 2, 2, .inl (smf))), (md 4, .inl (g.2.1 0, 2, .inl (szF epn)))] [] s.heap [] := hw
  have hinX7 : ∀ w ∈ u_ws RX7 TX7 25, w ∈ wsX7_rekey := by decide +kernel
  have k13 := hts (.fieldLink RX7 13 "RecordWireModel" "sealKeys" "[I") (by decide +kernel)
  have k16 := hts (.fieldLink RX7 16 "RecordWireModel" "tagKeys" "[I") (by decide +kernel)
  have k19 := hts (.fieldLink RX7 19 "RecordWireModel" "epochs" "[I") (by decide +kernel)
  have k60 := hts (.fieldLink RX7 60 "RecordWireModel" "key" "[I") (by decide +kernel)
  have k66 := hts (.fieldLink RX7 66 "RecordWireModel" "message" "[I") (by decide +kernel)
  have k145 := hts (.fieldLink RX7 145 "RecordWireModel" "isOpen" "Z") (by decide +kernel)
  have hl : lv_has ls 3 [(0, .ref (md 25)), (1, .int (nI i))] := hl
  refine lv_iload_n hx hb dX7_rekey_0 rfl (lv_at hl 1 rfl) ?_
  refine lv_if_eq (tgt := 9) hx hb dX7_rekey_1 (by decide) (fun c1 => ?_) (fun c1 => ?_)
  · skip
    rw [← nI_0] at c1
    have c1 : i = 0 := (nI_eq (by omega) (by omega)).mp c1
    refine lv_aload_n hx hb dX7_rekey_9 rfl (lv_at hl 0 rfl) ?_
    refine r_get (ci := 7) (v := .int (nI op)) (C := RX7) (T := TX7) (N := 25) hx hb hts hinX7 hown h0 hw 0 rfl rfl 1 (by decide) k145 rfl dX7_rekey_10 ?_
    refine lv_if_ne (tgt := 18) hx hb dX7_rekey_13 (by decide) (fun c2 => ?_) (fun c2 => ?_)
    · skip
      rw [← nI_0] at c2
      have c2 : ¬ op = 0 := fun q => c2 (((nI_eq (by omega) (by omega)).mpr q))
      refine lv_iconst (v := nI 0) hx hb dX7_rekey_18 (by decide +kernel) ?_
      refine lv_istore_n (lv' := [(2, .int (nI 0)), (0, .ref (md 25)), (1, .int (nI i))]) hx hb dX7_rekey_19 rfl hl (by decide) rfl (fun ls hl => ?_)
      have lp20 : ∀ (fu : Nat) (j : Nat), 32 - j < fu → (j ≤ 32) → ∀ (H : Heap) (locs : List Loc) (ls : Array Slot), WD g A s [(md 25, .inr (7, [.ref (md 0), .int (nI op), .ref (md 2), .ref (md 3), .ref (md 4), .ref (md 5), .ref (md 6), .ref (md 7), .ref (md 8), .ref (md 9), .ref (md 10), .ref (md 11), .int (nI on), .ref (md 13), .int (nI inn), .ref (md 15), .ref (md 16), .ref (md 17), .ref (md 18), .ref (md 19), .ref (md 20), .ref (md 21), .ref (md 22), .ref (md 23), .ref (md 24)])), (md 17, .inl (g.2.1 0, 400, .inl (rf))), (md 16, .inl (g.2.1 0, 64, .inl (wf))), (md 15, .inl (g.2.1 0, 8, .inl (sf))), (md 22, .inl (g.2.1 0, 64, .inl (kRW))), (md 18, .inl (g.2.1 0, 32, .inl (dg))), (md 19, .inl (g.2.1 0, 32, .inl (cpF kf (shf te (32 * i)) j))), (md 20, .inl (g.2.1 0, 32, .inl (otf))), (md 21, .inl (g.2.1 0, 160, .inl (cpF mf (shf se (32 * i)) j))), (md 2, .inl (g.2.1 0, 64, .inl (se))), (md 3, .inl (g.2.1 0, 64, .inl (te))), (md 5, .inl (g.2.1 1, 2, .inr (.inl (nxf)))), (md 6, .inl (g.2.1 2, 2, .inl (smf))), (md 4, .inl (g.2.1 0, 2, .inl (szF epn)))] [] H locs → lv_has ls 3 [(2, .int (nI j)), (0, .ref (md 25)), (1, .int (nI i))] → W p l e { frames := 5, cells := 0, slots := 0, locals := 122 } s m ar below meth c H locs 0 0 Q (F0 m 20 ls []) := by
        intro fu
        induction fu with
        | zero => intro j hmz; exact absurd hmz (Nat.not_lt_zero _)
        | succ fu ih =>
          intro j hms hj H locs ls hw hl
          refine lv_iload_n hx hb dX7_rekey_20 rfl (lv_at hl 0 rfl) ?_
          refine lv_bipush (v := nI 32) hx hb dX7_rekey_21 (by decide +kernel) ?_
          refine lv_icmp_ge (tgt := 66) hx hb dX7_rekey_23 (by decide) (fun c3 => ?_) (fun c3 => ?_)
          · skip
            have c3 : 32 ≤ j := (nI_leI (by omega) (by omega)).mp c3
            have hq : j = 32 := by omega
            have hwS4 := hw; have hlS5 := hl
            subst j
            have hw := hwS4; have hl := hlS5
            refine lv_aload_n hx hb dX7_rekey_66 rfl (lv_at hl 1 rfl) ?_
            refine lv_bipush (v := nI 32) hx hb dX7_rekey_67 (by decide +kernel) ?_
            refine r_callv (wr := [(md 20, .inl (g.2.1 0, 32, .inl (otf))), (md 2, .inl (g.2.1 0, 64, .inl (se))), (md 3, .inl (g.2.1 0, 64, .inl (te))), (md 5, .inl (g.2.1 1, 2, .inr (.inl (nxf)))), (md 6, .inl (g.2.1 2, 2, .inl (smf))), (md 4, .inl (g.2.1 0, 2, .inl (szF epn)))]) [0, 1, 2, 3, 4, 5, 6, 8] [7, 9, 10, 11, 12, 13] h0 hw rfl rfl (by decide) (by decide) (va_runV (As := [.int (nI 32)]) (rest := []) ⟨hx, hb, hml, hown, hts⟩ (c_X7_hmac l g md op on inn rf wf sf dg (cpF kf (shf te (32 * i)) 32) (cpF mf (shf se (32 * i)) 32) 32 (by omega) _) (cwV 1 hts gX7_rekey_X7_hmac rfl rfl rfl (by decide +kernel) ⟨Nat.le_of_ble_eq_true rfl, Nat.le_of_ble_eq_true rfl⟩) (preV_of [0, 1, 2, 3, 4, 5, 6, 8] [.int (nI 32)] h0 hw rfl (by decide) 0 7 rfl rfl) rfl rfl hl.1 rfl (lv_room (Nat.le_of_ble_eq_true rfl)) dX7_rekey_69 ⟨Nat.le_of_ble_eq_true rfl, Nat.le_of_ble_eq_true rfl⟩) (fun u7 H locs hp8 hw => ?_)
            obtain ⟨r2_9, w2_10, s2_11⟩ := u7
            have hw : WD g A s [(md 20, .inl (g.2.1 0, 32, .inl (otf))), (md 2, .inl (g.2.1 0, 64, .inl (se))), (md 3, .inl (g.2.1 0, 64, .inl (te))), (md 5, .inl (g.2.1 1, 2, .inr (.inl (nxf)))), (md 6, .inl (g.2.1 2, 2, .inl (smf))), (md 4, .inl (g.2.1 0, 2, .inl (szF epn))), (md 25, .inr (7, [.ref (md 0), .int (nI op), .ref (md 2), .ref (md 3), .ref (md 4), .ref (md 5), .ref (md 6), .ref (md 7), .ref (md 8), .ref (md 9), .ref (md 10), .ref (md 11), .int (nI on), .ref (md 13), .int (nI inn), .ref (md 15), .ref (md 16), .ref (md 17), .ref (md 18), .ref (md 19), .ref (md 20), .ref (md 21), .ref (md 22), .ref (md 23), .ref (md 24)])), (md 17, .inl (g.2.1 0, 400, .inl (r2_9))), (md 16, .inl (g.2.1 0, 64, .inl (w2_10))), (md 15, .inl (g.2.1 0, 8, .inl (s2_11))), (md 22, .inl (g.2.1 0, 64, .inl (kRW))), (md 18, .inl (g.2.1 0, 32, .inl (hmv (cpF kf (shf te (32 * i)) 32) (cpF mf (shf se (32 * i)) 32) 32))), (md 19, .inl (g.2.1 0, 32, .inl (cpF kf (shf te (32 * i)) 32))), (md 21, .inl (g.2.1 0, 160, .inl (cpF mf (shf se (32 * i)) 32)))] [] H locs := hw
            have hw := hw.cong 11 rfl (f' := hmv (shf te (32 * i)) (shf se (32 * i)) 32) (hmv_cong (cpF_at kf (shf te (32 * i)) 32) (cpF_at mf (shf se (32 * i)) 32))
            have hw : WD g A s [(md 20, .inl (g.2.1 0, 32, .inl (otf))), (md 2, .inl (g.2.1 0, 64, .inl (se))), (md 3, .inl (g.2.1 0, 64, .inl (te))), (md 5, .inl (g.2.1 1, 2, .inr (.inl (nxf)))), (md 6, .inl (g.2.1 2, 2, .inl (smf))), (md 4, .inl (g.2.1 0, 2, .inl (szF epn))), (md 25, .inr (7, [.ref (md 0), .int (nI op), .ref (md 2), .ref (md 3), .ref (md 4), .ref (md 5), .ref (md 6), .ref (md 7), .ref (md 8), .ref (md 9), .ref (md 10), .ref (md 11), .int (nI on), .ref (md 13), .int (nI inn), .ref (md 15), .ref (md 16), .ref (md 17), .ref (md 18), .ref (md 19), .ref (md 20), .ref (md 21), .ref (md 22), .ref (md 23), .ref (md 24)])), (md 17, .inl (g.2.1 0, 400, .inl (r2_9))), (md 16, .inl (g.2.1 0, 64, .inl (w2_10))), (md 15, .inl (g.2.1 0, 8, .inl (s2_11))), (md 22, .inl (g.2.1 0, 64, .inl (kRW))), (md 18, .inl (g.2.1 0, 32, .inl (hmv (shf te (32 * i)) (shf se (32 * i)) 32))), (md 19, .inl (g.2.1 0, 32, .inl (cpF kf (shf te (32 * i)) 32))), (md 21, .inl (g.2.1 0, 160, .inl (cpF mf (shf se (32 * i)) 32)))] [] _ _ := hw
            refine lv_aload_n hx hb dX7_rekey_72 rfl (lv_at hl 1 rfl) ?_
            refine lv_iload_n hx hb dX7_rekey_73 rfl (lv_at hl 2 rfl) ?_
            refine r_callv (wr := [(md 4, .inl (g.2.1 0, 2, .inl (szF epn)))]) [6, 7, 8, 9, 10, 11, 12, 0, 13, 1, 2, 3, 4] [5] h0 hw rfl rfl (by decide) (by decide) (va_runV (As := [.int (nI i)]) (rest := []) ⟨hx, hb, hml, hown, hts⟩ (c_X7_makeKeys l g md op on inn r2_9 w2_10 s2_11 (hmv (shf te (32 * i)) (shf se (32 * i)) 32) (cpF kf (shf te (32 * i)) 32) otf (cpF mf (shf se (32 * i)) 32) se te nxf smf i (by omega) _) (cwV 1 hts gX7_rekey_X7_makeKeys rfl rfl rfl (by decide +kernel) ⟨Nat.le_of_ble_eq_true rfl, Nat.le_of_ble_eq_true rfl⟩) (preV_of [6, 7, 8, 9, 10, 11, 12, 0, 13, 1, 2, 3, 4] [.int (nI i)] h0 hw rfl (by decide) 6 7 rfl rfl) rfl rfl hl.1 rfl (lv_room (Nat.le_of_ble_eq_true rfl)) dX7_rekey_74 ⟨Nat.le_of_ble_eq_true rfl, Nat.le_of_ble_eq_true rfl⟩) (fun u13 H locs hp14 hw => ?_)
            obtain ⟨r2_15, w2_16, s2_17, g2_18, k2_19, o2_20, m2_21⟩ := u13
            have hw : WD g A s [(md 4, .inl (g.2.1 0, 2, .inl (szF epn))), (md 25, .inr (7, [.ref (md 0), .int (nI op), .ref (md 2), .ref (md 3), .ref (md 4), .ref (md 5), .ref (md 6), .ref (md 7), .ref (md 8), .ref (md 9), .ref (md 10), .ref (md 11), .int (nI on), .ref (md 13), .int (nI inn), .ref (md 15), .ref (md 16), .ref (md 17), .ref (md 18), .ref (md 19), .ref (md 20), .ref (md 21), .ref (md 22), .ref (md 23), .ref (md 24)])), (md 17, .inl (g.2.1 0, 400, .inl (r2_15))), (md 16, .inl (g.2.1 0, 64, .inl (w2_16))), (md 15, .inl (g.2.1 0, 8, .inl (s2_17))), (md 22, .inl (g.2.1 0, 64, .inl (kRW))), (md 18, .inl (g.2.1 0, 32, .inl (g2_18))), (md 19, .inl (g.2.1 0, 32, .inl (k2_19))), (md 20, .inl (g.2.1 0, 32, .inl (o2_20))), (md 21, .inl (g.2.1 0, 160, .inl (m2_21))), (md 2, .inl (g.2.1 0, 64, .inl (laid se (32 * i) (keyD (hmv (shf te (32 * i)) (shf se (32 * i)) 32) i 0) 32))), (md 3, .inl (g.2.1 0, 64, .inl (laid te (32 * i) (keyD (hmv (shf te (32 * i)) (shf se (32 * i)) 32) i 1) 32))), (md 5, .inl (g.2.1 1, 2, .inr (.inl (vp_updL nxf i 0)))), (md 6, .inl (g.2.1 2, 2, .inl (upd smf i (nI 0))))] [] H locs := hw
            refine lv_aload_n hx hb dX7_rekey_77 rfl (lv_at hl 1 rfl) ?_
            refine r_get (ci := 7) (v := .ref (md 4)) (C := RX7) (T := TX7) (N := 25) hx hb hts hinX7 hown h0 hw 1 rfl rfl 4 (by decide) k19 rfl dX7_rekey_78 ?_
            refine lv_iload_n hx hb dX7_rekey_81 rfl (lv_at hl 2 rfl) ?_
            refine lv_dup2_11 hx hb dX7_rekey_82 rfl rfl ?_
            refine r_iald hx hb h0 hw 0 rfl (i := i) (by omega) (by omega) dX7_rekey_83 ?_
            refine r_te (y := nI (epn i)) rfl ?_
            refine lv_iconst (v := nI 1) hx hb dX7_rekey_84 (by decide +kernel) ?_
            refine lv_iadd hx hb dX7_rekey_85 ?_
            refine r_te (y := nI (epn i + 1)) (nI_add (epn i) 1) ?_
            refine r_iast hx hb h0 hw 0 rfl (i := i) (by omega) (by omega) dX7_rekey_86 (fun H locs hw => ?_)
            have hw : WD g A s [(md 4, .inl (g.2.1 0, 2, .inl (upd (szF epn) i (nI (epn i + 1))))), (md 25, .inr (7, [.ref (md 0), .int (nI op), .ref (md 2), .ref (md 3), .ref (md 4), .ref (md 5), .ref (md 6), .ref (md 7), .ref (md 8), .ref (md 9), .ref (md 10), .ref (md 11), .int (nI on), .ref (md 13), .int (nI inn), .ref (md 15), .ref (md 16), .ref (md 17), .ref (md 18), .ref (md 19), .ref (md 20), .ref (md 21), .ref (md 22), .ref (md 23), .ref (md 24)])), (md 17, .inl (g.2.1 0, 400, .inl (r2_15))), (md 16, .inl (g.2.1 0, 64, .inl (w2_16))), (md 15, .inl (g.2.1 0, 8, .inl (s2_17))), (md 22, .inl (g.2.1 0, 64, .inl (kRW))), (md 18, .inl (g.2.1 0, 32, .inl (g2_18))), (md 19, .inl (g.2.1 0, 32, .inl (k2_19))), (md 20, .inl (g.2.1 0, 32, .inl (o2_20))), (md 21, .inl (g.2.1 0, 160, .inl (m2_21))), (md 2, .inl (g.2.1 0, 64, .inl (laid se (32 * i) (keyD (hmv (shf te (32 * i)) (shf se (32 * i)) 32) i 0) 32))), (md 3, .inl (g.2.1 0, 64, .inl (laid te (32 * i) (keyD (hmv (shf te (32 * i)) (shf se (32 * i)) 32) i 1) 32))), (md 5, .inl (g.2.1 1, 2, .inr (.inl (vp_updL nxf i 0)))), (md 6, .inl (g.2.1 2, 2, .inl (upd smf i (nI 0))))] [] H locs := hw
            have hw : WD g A s [(md 4, .inl (g.2.1 0, 2, .inl (szF (va_up epn i (epn i + 1))))), (md 25, .inr (7, [.ref (md 0), .int (nI op), .ref (md 2), .ref (md 3), .ref (md 4), .ref (md 5), .ref (md 6), .ref (md 7), .ref (md 8), .ref (md 9), .ref (md 10), .ref (md 11), .int (nI on), .ref (md 13), .int (nI inn), .ref (md 15), .ref (md 16), .ref (md 17), .ref (md 18), .ref (md 19), .ref (md 20), .ref (md 21), .ref (md 22), .ref (md 23), .ref (md 24)])), (md 17, .inl (g.2.1 0, 400, .inl (r2_15))), (md 16, .inl (g.2.1 0, 64, .inl (w2_16))), (md 15, .inl (g.2.1 0, 8, .inl (s2_17))), (md 22, .inl (g.2.1 0, 64, .inl (kRW))), (md 18, .inl (g.2.1 0, 32, .inl (g2_18))), (md 19, .inl (g.2.1 0, 32, .inl (k2_19))), (md 20, .inl (g.2.1 0, 32, .inl (o2_20))), (md 21, .inl (g.2.1 0, 160, .inl (m2_21))), (md 2, .inl (g.2.1 0, 64, .inl (laid se (32 * i) (keyD (hmv (shf te (32 * i)) (shf se (32 * i)) 32) i 0) 32))), (md 3, .inl (g.2.1 0, 64, .inl (laid te (32 * i) (keyD (hmv (shf te (32 * i)) (shf se (32 * i)) 32) i 1) 32))), (md 5, .inl (g.2.1 1, 2, .inr (.inl (vp_updL nxf i 0)))), (md 6, .inl (g.2.1 2, 2, .inl (upd smf i (nI 0))))] [] H locs := by rw [← szF_up]; exact hw
            refine lv_aload_n hx hb dX7_rekey_87 rfl (lv_at hl 1 rfl) ?_
            refine r_get (ci := 7) (v := .ref (md 4)) (C := RX7) (T := TX7) (N := 25) hx hb hts hinX7 hown h0 hw 1 rfl rfl 4 (by decide) k19 rfl dX7_rekey_88 ?_
            refine lv_iload_n hx hb dX7_rekey_91 rfl (lv_at hl 2 rfl) ?_
            refine r_iald hx hb h0 hw 0 rfl (i := i) (by omega) (by omega) dX7_rekey_92 ?_
            refine r_te (y := nI (epn i + 1)) (by show nI (va_up epn i (epn i + 1) i) = _; rw [va_up_self]) ?_
            exact hret (hw.perm (X' := [(md 25, .inr (7, [.ref (md 0), .int (nI op), .ref (md 2), .ref (md 3), .ref (md 4), .ref (md 5), .ref (md 6), .ref (md 7), .ref (md 8), .ref (md 9), .ref (md 10), .ref (md 11), .int (nI on), .ref (md 13), .int (nI inn), .ref (md 15), .ref (md 16), .ref (md 17), .ref (md 18), .ref (md 19), .ref (md 20), .ref (md 21), .ref (md 22), .ref (md 23), .ref (md 24)])), (md 17, .inl (g.2.1 0, 400, .inl (r2_15))), (md 16, .inl (g.2.1 0, 64, .inl (w2_16))), (md 15, .inl (g.2.1 0, 8, .inl (s2_17))), (md 22, .inl (g.2.1 0, 64, .inl (kRW))), (md 18, .inl (g.2.1 0, 32, .inl (g2_18))), (md 19, .inl (g.2.1 0, 32, .inl (k2_19))), (md 20, .inl (g.2.1 0, 32, .inl (o2_20))), (md 21, .inl (g.2.1 0, 160, .inl (m2_21))), (md 2, .inl (g.2.1 0, 64, .inl (laid se (32 * i) (keyD (hmv (shf te (32 * i)) (shf se (32 * i)) 32) i 0) 32))), (md 3, .inl (g.2.1 0, 64, .inl (laid te (32 * i) (keyD (hmv (shf te (32 * i)) (shf se (32 * i)) 32) i 1) 32))), (md 5, .inl (g.2.1 1, 2, .inr (.inl (vp_updL nxf i 0)))), (md 6, .inl (g.2.1 2, 2, .inl (upd smf i (nI 0)))), (md 4, .inl (g.2.1 0, 2, .inl (szF (va_up epn i (epn i + 1)))))]) [1, 2, 3, 4, 5, 6, 7, 8, 9, 10, 11, 12, 13, 0] (by decide) rfl) (r2_15, w2_16, s2_17, g2_18, k2_19, o2_20, m2_21) (rfl) (rfl) (by omega) (by omega) dX7_rekey_93
          · skip
            have c3 : ¬ 32 ≤ j := fun q => c3 (((nI_leI (by omega) (by omega)).mpr q))
            refine lv_aload_n hx hb dX7_rekey_26 rfl (lv_at hl 1 rfl) ?_
            refine r_get (ci := 7) (v := .ref (md 19)) (C := RX7) (T := TX7) (N := 25) hx hb hts hinX7 hown h0 hw 0 rfl rfl 19 (by decide) k60 rfl dX7_rekey_27 ?_
            refine lv_iload_n hx hb dX7_rekey_30 rfl (lv_at hl 0 rfl) ?_
            refine lv_aload_n hx hb dX7_rekey_31 rfl (lv_at hl 1 rfl) ?_
            refine r_get (ci := 7) (v := .ref (md 3)) (C := RX7) (T := TX7) (N := 25) hx hb hts hinX7 hown h0 hw 0 rfl rfl 3 (by decide) k16 rfl dX7_rekey_32 ?_
            refine lv_bipush (v := nI 32) hx hb dX7_rekey_35 (by decide +kernel) ?_
            refine lv_iload_n hx hb dX7_rekey_37 rfl (lv_at hl 2 rfl) ?_
            refine lv_imul hx hb dX7_rekey_38 ?_
            refine r_te (y := nI (32 * i)) (pk_mul 32 i) ?_
            refine lv_iload_n hx hb dX7_rekey_39 rfl (lv_at hl 0 rfl) ?_
            refine lv_iadd hx hb dX7_rekey_40 ?_
            refine r_te (y := nI (32 * i + j)) (nI_add (32 * i) j) ?_
            refine r_iald hx hb h0 hw 10 rfl (i := 32 * i + j) (by omega) (by omega) dX7_rekey_41 ?_
            refine r_iast hx hb h0 hw 6 rfl (i := j) (by omega) (by omega) dX7_rekey_42 (fun H locs hw => ?_)
            have hw : WD g A s [(md 25, .inr (7, [.ref (md 0), .int (nI op), .ref (md 2), .ref (md 3), .ref (md 4), .ref (md 5), .ref (md 6), .ref (md 7), .ref (md 8), .ref (md 9), .ref (md 10), .ref (md 11), .int (nI on), .ref (md 13), .int (nI inn), .ref (md 15), .ref (md 16), .ref (md 17), .ref (md 18), .ref (md 19), .ref (md 20), .ref (md 21), .ref (md 22), .ref (md 23), .ref (md 24)])), (md 17, .inl (g.2.1 0, 400, .inl (rf))), (md 16, .inl (g.2.1 0, 64, .inl (wf))), (md 15, .inl (g.2.1 0, 8, .inl (sf))), (md 22, .inl (g.2.1 0, 64, .inl (kRW))), (md 18, .inl (g.2.1 0, 32, .inl (dg))), (md 19, .inl (g.2.1 0, 32, .inl (upd (cpF kf (shf te (32 * i)) j) j (te (32 * i + j))))), (md 20, .inl (g.2.1 0, 32, .inl (otf))), (md 21, .inl (g.2.1 0, 160, .inl (cpF mf (shf se (32 * i)) j))), (md 2, .inl (g.2.1 0, 64, .inl (se))), (md 3, .inl (g.2.1 0, 64, .inl (te))), (md 5, .inl (g.2.1 1, 2, .inr (.inl (nxf)))), (md 6, .inl (g.2.1 2, 2, .inl (smf))), (md 4, .inl (g.2.1 0, 2, .inl (szF epn)))] [] H locs := hw
            refine lv_aload_n hx hb dX7_rekey_43 rfl (lv_at hl 1 rfl) ?_
            refine r_get (ci := 7) (v := .ref (md 21)) (C := RX7) (T := TX7) (N := 25) hx hb hts hinX7 hown h0 hw 0 rfl rfl 21 (by decide) k66 rfl dX7_rekey_44 ?_
            refine lv_iload_n hx hb dX7_rekey_47 rfl (lv_at hl 0 rfl) ?_
            refine lv_aload_n hx hb dX7_rekey_48 rfl (lv_at hl 1 rfl) ?_
            refine r_get (ci := 7) (v := .ref (md 2)) (C := RX7) (T := TX7) (N := 25) hx hb hts hinX7 hown h0 hw 0 rfl rfl 2 (by decide) k13 rfl dX7_rekey_49 ?_
            refine lv_bipush (v := nI 32) hx hb dX7_rekey_52 (by decide +kernel) ?_
            refine lv_iload_n hx hb dX7_rekey_54 rfl (lv_at hl 2 rfl) ?_
            refine lv_imul hx hb dX7_rekey_55 ?_
            refine r_te (y := nI (32 * i)) (pk_mul 32 i) ?_
            refine lv_iload_n hx hb dX7_rekey_56 rfl (lv_at hl 0 rfl) ?_
            refine lv_iadd hx hb dX7_rekey_57 ?_
            refine r_te (y := nI (32 * i + j)) (nI_add (32 * i) j) ?_
            refine r_iald hx hb h0 hw 9 rfl (i := 32 * i + j) (by omega) (by omega) dX7_rekey_58 ?_
            refine r_iast hx hb h0 hw 8 rfl (i := j) (by omega) (by omega) dX7_rekey_59 (fun H locs hw => ?_)
            have hw : WD g A s [(md 25, .inr (7, [.ref (md 0), .int (nI op), .ref (md 2), .ref (md 3), .ref (md 4), .ref (md 5), .ref (md 6), .ref (md 7), .ref (md 8), .ref (md 9), .ref (md 10), .ref (md 11), .int (nI on), .ref (md 13), .int (nI inn), .ref (md 15), .ref (md 16), .ref (md 17), .ref (md 18), .ref (md 19), .ref (md 20), .ref (md 21), .ref (md 22), .ref (md 23), .ref (md 24)])), (md 17, .inl (g.2.1 0, 400, .inl (rf))), (md 16, .inl (g.2.1 0, 64, .inl (wf))), (md 15, .inl (g.2.1 0, 8, .inl (sf))), (md 22, .inl (g.2.1 0, 64, .inl (kRW))), (md 18, .inl (g.2.1 0, 32, .inl (dg))), (md 19, .inl (g.2.1 0, 32, .inl (upd (cpF kf (shf te (32 * i)) j) j (te (32 * i + j))))), (md 20, .inl (g.2.1 0, 32, .inl (otf))), (md 21, .inl (g.2.1 0, 160, .inl (upd (cpF mf (shf se (32 * i)) j) j (se (32 * i + j))))), (md 2, .inl (g.2.1 0, 64, .inl (se))), (md 3, .inl (g.2.1 0, 64, .inl (te))), (md 5, .inl (g.2.1 1, 2, .inr (.inl (nxf)))), (md 6, .inl (g.2.1 2, 2, .inl (smf))), (md 4, .inl (g.2.1 0, 2, .inl (szF epn)))] [] H locs := hw
            refine lv_iinc (v := nI (j + 1)) (lv' := [(2, .int (nI (j + 1))), (0, .ref (md 25)), (1, .int (nI i))]) hx hb dX7_rekey_60 hl (k := 0) rfl (nI_add j 1) (by decide) rfl (fun ls hl => ?_)
            refine lv_goto (tgt := 20) hx hb dX7_rekey_63 (by decide) ?_
            exact ih (j + 1) (by omega) (by omega) _ _ _ hw (lv_sub hl [0, 1, 2] rfl)
      exact lp20 (32 - 0 + 1) 0 (by omega) (by omega) _ _ _ hw (lv_sub hl [0, 1, 2] rfl)
    · skip
      rw [← nI_0] at c2
      have c2 : op = 0 := (nI_eq (by omega) (by omega)).mp c2
      exfalso; omega
  · skip
    rw [← nI_0] at c1
    have c1 : ¬ i = 0 := fun q => c1 (((nI_eq (by omega) (by omega)).mpr q))
    refine lv_iload_n hx hb dX7_rekey_4 rfl (lv_at hl 1 rfl) ?_
    refine lv_iconst (v := nI 1) hx hb dX7_rekey_5 (by decide +kernel) ?_
    refine lv_icmp_ne (tgt := 16) hx hb dX7_rekey_6 (by decide) (fun c22 => ?_) (fun c22 => ?_)
    · skip
      have c22 : ¬ i = 1 := fun q => c22 (((nI_eq (by omega) (by omega)).mpr q))
      exfalso; omega
    · skip
      have c22 : i = 1 := (nI_eq (by omega) (by omega)).mp c22
      refine lv_aload_n hx hb dX7_rekey_9 rfl (lv_at hl 0 rfl) ?_
      refine r_get (ci := 7) (v := .int (nI op)) (C := RX7) (T := TX7) (N := 25) hx hb hts hinX7 hown h0 hw 0 rfl rfl 1 (by decide) k145 rfl dX7_rekey_10 ?_
      refine lv_if_ne (tgt := 18) hx hb dX7_rekey_13 (by decide) (fun c23 => ?_) (fun c23 => ?_)
      · skip
        rw [← nI_0] at c23
        have c23 : ¬ op = 0 := fun q => c23 (((nI_eq (by omega) (by omega)).mpr q))
        refine lv_iconst (v := nI 0) hx hb dX7_rekey_18 (by decide +kernel) ?_
        refine lv_istore_n (lv' := [(2, .int (nI 0)), (0, .ref (md 25)), (1, .int (nI i))]) hx hb dX7_rekey_19 rfl hl (by decide) rfl (fun ls hl => ?_)
        have lp20 : ∀ (fu : Nat) (j : Nat), 32 - j < fu → (j ≤ 32) → ∀ (H : Heap) (locs : List Loc) (ls : Array Slot), WD g A s [(md 25, .inr (7, [.ref (md 0), .int (nI op), .ref (md 2), .ref (md 3), .ref (md 4), .ref (md 5), .ref (md 6), .ref (md 7), .ref (md 8), .ref (md 9), .ref (md 10), .ref (md 11), .int (nI on), .ref (md 13), .int (nI inn), .ref (md 15), .ref (md 16), .ref (md 17), .ref (md 18), .ref (md 19), .ref (md 20), .ref (md 21), .ref (md 22), .ref (md 23), .ref (md 24)])), (md 17, .inl (g.2.1 0, 400, .inl (rf))), (md 16, .inl (g.2.1 0, 64, .inl (wf))), (md 15, .inl (g.2.1 0, 8, .inl (sf))), (md 22, .inl (g.2.1 0, 64, .inl (kRW))), (md 18, .inl (g.2.1 0, 32, .inl (dg))), (md 19, .inl (g.2.1 0, 32, .inl (cpF kf (shf te (32 * i)) j))), (md 20, .inl (g.2.1 0, 32, .inl (otf))), (md 21, .inl (g.2.1 0, 160, .inl (cpF mf (shf se (32 * i)) j))), (md 2, .inl (g.2.1 0, 64, .inl (se))), (md 3, .inl (g.2.1 0, 64, .inl (te))), (md 5, .inl (g.2.1 1, 2, .inr (.inl (nxf)))), (md 6, .inl (g.2.1 2, 2, .inl (smf))), (md 4, .inl (g.2.1 0, 2, .inl (szF epn)))] [] H locs → lv_has ls 3 [(2, .int (nI j)), (0, .ref (md 25)), (1, .int (nI i))] → W p l e { frames := 5, cells := 0, slots := 0, locals := 122 } s m ar below meth c H locs 0 0 Q (F0 m 20 ls []) := by
          intro fu
          induction fu with
          | zero => intro j hmz; exact absurd hmz (Nat.not_lt_zero _)
          | succ fu ih =>
            intro j hms hj H locs ls hw hl
            refine lv_iload_n hx hb dX7_rekey_20 rfl (lv_at hl 0 rfl) ?_
            refine lv_bipush (v := nI 32) hx hb dX7_rekey_21 (by decide +kernel) ?_
            refine lv_icmp_ge (tgt := 66) hx hb dX7_rekey_23 (by decide) (fun c24 => ?_) (fun c24 => ?_)
            · skip
              have c24 : 32 ≤ j := (nI_leI (by omega) (by omega)).mp c24
              have hq : j = 32 := by omega
              have hwS25 := hw; have hlS26 := hl
              subst j
              have hw := hwS25; have hl := hlS26
              refine lv_aload_n hx hb dX7_rekey_66 rfl (lv_at hl 1 rfl) ?_
              refine lv_bipush (v := nI 32) hx hb dX7_rekey_67 (by decide +kernel) ?_
              refine r_callv (wr := [(md 20, .inl (g.2.1 0, 32, .inl (otf))), (md 2, .inl (g.2.1 0, 64, .inl (se))), (md 3, .inl (g.2.1 0, 64, .inl (te))), (md 5, .inl (g.2.1 1, 2, .inr (.inl (nxf)))), (md 6, .inl (g.2.1 2, 2, .inl (smf))), (md 4, .inl (g.2.1 0, 2, .inl (szF epn)))]) [0, 1, 2, 3, 4, 5, 6, 8] [7, 9, 10, 11, 12, 13] h0 hw rfl rfl (by decide) (by decide) (va_runV (As := [.int (nI 32)]) (rest := []) ⟨hx, hb, hml, hown, hts⟩ (c_X7_hmac l g md op on inn rf wf sf dg (cpF kf (shf te (32 * i)) 32) (cpF mf (shf se (32 * i)) 32) 32 (by omega) _) (cwV 1 hts gX7_rekey_X7_hmac rfl rfl rfl (by decide +kernel) ⟨Nat.le_of_ble_eq_true rfl, Nat.le_of_ble_eq_true rfl⟩) (preV_of [0, 1, 2, 3, 4, 5, 6, 8] [.int (nI 32)] h0 hw rfl (by decide) 0 7 rfl rfl) rfl rfl hl.1 rfl (lv_room (Nat.le_of_ble_eq_true rfl)) dX7_rekey_69 ⟨Nat.le_of_ble_eq_true rfl, Nat.le_of_ble_eq_true rfl⟩) (fun u28 H locs hp29 hw => ?_)
              obtain ⟨r2_30, w2_31, s2_32⟩ := u28
              have hw : WD g A s [(md 20, .inl (g.2.1 0, 32, .inl (otf))), (md 2, .inl (g.2.1 0, 64, .inl (se))), (md 3, .inl (g.2.1 0, 64, .inl (te))), (md 5, .inl (g.2.1 1, 2, .inr (.inl (nxf)))), (md 6, .inl (g.2.1 2, 2, .inl (smf))), (md 4, .inl (g.2.1 0, 2, .inl (szF epn))), (md 25, .inr (7, [.ref (md 0), .int (nI op), .ref (md 2), .ref (md 3), .ref (md 4), .ref (md 5), .ref (md 6), .ref (md 7), .ref (md 8), .ref (md 9), .ref (md 10), .ref (md 11), .int (nI on), .ref (md 13), .int (nI inn), .ref (md 15), .ref (md 16), .ref (md 17), .ref (md 18), .ref (md 19), .ref (md 20), .ref (md 21), .ref (md 22), .ref (md 23), .ref (md 24)])), (md 17, .inl (g.2.1 0, 400, .inl (r2_30))), (md 16, .inl (g.2.1 0, 64, .inl (w2_31))), (md 15, .inl (g.2.1 0, 8, .inl (s2_32))), (md 22, .inl (g.2.1 0, 64, .inl (kRW))), (md 18, .inl (g.2.1 0, 32, .inl (hmv (cpF kf (shf te (32 * i)) 32) (cpF mf (shf se (32 * i)) 32) 32))), (md 19, .inl (g.2.1 0, 32, .inl (cpF kf (shf te (32 * i)) 32))), (md 21, .inl (g.2.1 0, 160, .inl (cpF mf (shf se (32 * i)) 32)))] [] H locs := hw
              have hw := hw.cong 11 rfl (f' := hmv (shf te (32 * i)) (shf se (32 * i)) 32) (hmv_cong (cpF_at kf (shf te (32 * i)) 32) (cpF_at mf (shf se (32 * i)) 32))
              have hw : WD g A s [(md 20, .inl (g.2.1 0, 32, .inl (otf))), (md 2, .inl (g.2.1 0, 64, .inl (se))), (md 3, .inl (g.2.1 0, 64, .inl (te))), (md 5, .inl (g.2.1 1, 2, .inr (.inl (nxf)))), (md 6, .inl (g.2.1 2, 2, .inl (smf))), (md 4, .inl (g.2.1 0, 2, .inl (szF epn))), (md 25, .inr (7, [.ref (md 0), .int (nI op), .ref (md 2), .ref (md 3), .ref (md 4), .ref (md 5), .ref (md 6), .ref (md 7), .ref (md 8), .ref (md 9), .ref (md 10), .ref (md 11), .int (nI on), .ref (md 13), .int (nI inn), .ref (md 15), .ref (md 16), .ref (md 17), .ref (md 18), .ref (md 19), .ref (md 20), .ref (md 21), .ref (md 22), .ref (md 23), .ref (md 24)])), (md 17, .inl (g.2.1 0, 400, .inl (r2_30))), (md 16, .inl (g.2.1 0, 64, .inl (w2_31))), (md 15, .inl (g.2.1 0, 8, .inl (s2_32))), (md 22, .inl (g.2.1 0, 64, .inl (kRW))), (md 18, .inl (g.2.1 0, 32, .inl (hmv (shf te (32 * i)) (shf se (32 * i)) 32))), (md 19, .inl (g.2.1 0, 32, .inl (cpF kf (shf te (32 * i)) 32))), (md 21, .inl (g.2.1 0, 160, .inl (cpF mf (shf se (32 * i)) 32)))] [] _ _ := hw
              refine lv_aload_n hx hb dX7_rekey_72 rfl (lv_at hl 1 rfl) ?_
              refine lv_iload_n hx hb dX7_rekey_73 rfl (lv_at hl 2 rfl) ?_
              refine r_callv (wr := [(md 4, .inl (g.2.1 0, 2, .inl (szF epn)))]) [6, 7, 8, 9, 10, 11, 12, 0, 13, 1, 2, 3, 4] [5] h0 hw rfl rfl (by decide) (by decide) (va_runV (As := [.int (nI i)]) (rest := []) ⟨hx, hb, hml, hown, hts⟩ (c_X7_makeKeys l g md op on inn r2_30 w2_31 s2_32 (hmv (shf te (32 * i)) (shf se (32 * i)) 32) (cpF kf (shf te (32 * i)) 32) otf (cpF mf (shf se (32 * i)) 32) se te nxf smf i (by omega) _) (cwV 1 hts gX7_rekey_X7_makeKeys rfl rfl rfl (by decide +kernel) ⟨Nat.le_of_ble_eq_true rfl, Nat.le_of_ble_eq_true rfl⟩) (preV_of [6, 7, 8, 9, 10, 11, 12, 0, 13, 1, 2, 3, 4] [.int (nI i)] h0 hw rfl (by decide) 6 7 rfl rfl) rfl rfl hl.1 rfl (lv_room (Nat.le_of_ble_eq_true rfl)) dX7_rekey_74 ⟨Nat.le_of_ble_eq_true rfl, Nat.le_of_ble_eq_true rfl⟩) (fun u34 H locs hp35 hw => ?_)
              obtain ⟨r2_36, w2_37, s2_38, g2_39, k2_40, o2_41, m2_42⟩ := u34
              have hw : WD g A s [(md 4, .inl (g.2.1 0, 2, .inl (szF epn))), (md 25, .inr (7, [.ref (md 0), .int (nI op), .ref (md 2), .ref (md 3), .ref (md 4), .ref (md 5), .ref (md 6), .ref (md 7), .ref (md 8), .ref (md 9), .ref (md 10), .ref (md 11), .int (nI on), .ref (md 13), .int (nI inn), .ref (md 15), .ref (md 16), .ref (md 17), .ref (md 18), .ref (md 19), .ref (md 20), .ref (md 21), .ref (md 22), .ref (md 23), .ref (md 24)])), (md 17, .inl (g.2.1 0, 400, .inl (r2_36))), (md 16, .inl (g.2.1 0, 64, .inl (w2_37))), (md 15, .inl (g.2.1 0, 8, .inl (s2_38))), (md 22, .inl (g.2.1 0, 64, .inl (kRW))), (md 18, .inl (g.2.1 0, 32, .inl (g2_39))), (md 19, .inl (g.2.1 0, 32, .inl (k2_40))), (md 20, .inl (g.2.1 0, 32, .inl (o2_41))), (md 21, .inl (g.2.1 0, 160, .inl (m2_42))), (md 2, .inl (g.2.1 0, 64, .inl (laid se (32 * i) (keyD (hmv (shf te (32 * i)) (shf se (32 * i)) 32) i 0) 32))), (md 3, .inl (g.2.1 0, 64, .inl (laid te (32 * i) (keyD (hmv (shf te (32 * i)) (shf se (32 * i)) 32) i 1) 32))), (md 5, .inl (g.2.1 1, 2, .inr (.inl (vp_updL nxf i 0)))), (md 6, .inl (g.2.1 2, 2, .inl (upd smf i (nI 0))))] [] H locs := hw
              refine lv_aload_n hx hb dX7_rekey_77 rfl (lv_at hl 1 rfl) ?_
              refine r_get (ci := 7) (v := .ref (md 4)) (C := RX7) (T := TX7) (N := 25) hx hb hts hinX7 hown h0 hw 1 rfl rfl 4 (by decide) k19 rfl dX7_rekey_78 ?_
              refine lv_iload_n hx hb dX7_rekey_81 rfl (lv_at hl 2 rfl) ?_
              refine lv_dup2_11 hx hb dX7_rekey_82 rfl rfl ?_
              refine r_iald hx hb h0 hw 0 rfl (i := i) (by omega) (by omega) dX7_rekey_83 ?_
              refine r_te (y := nI (epn i)) rfl ?_
              refine lv_iconst (v := nI 1) hx hb dX7_rekey_84 (by decide +kernel) ?_
              refine lv_iadd hx hb dX7_rekey_85 ?_
              refine r_te (y := nI (epn i + 1)) (nI_add (epn i) 1) ?_
              refine r_iast hx hb h0 hw 0 rfl (i := i) (by omega) (by omega) dX7_rekey_86 (fun H locs hw => ?_)
              have hw : WD g A s [(md 4, .inl (g.2.1 0, 2, .inl (upd (szF epn) i (nI (epn i + 1))))), (md 25, .inr (7, [.ref (md 0), .int (nI op), .ref (md 2), .ref (md 3), .ref (md 4), .ref (md 5), .ref (md 6), .ref (md 7), .ref (md 8), .ref (md 9), .ref (md 10), .ref (md 11), .int (nI on), .ref (md 13), .int (nI inn), .ref (md 15), .ref (md 16), .ref (md 17), .ref (md 18), .ref (md 19), .ref (md 20), .ref (md 21), .ref (md 22), .ref (md 23), .ref (md 24)])), (md 17, .inl (g.2.1 0, 400, .inl (r2_36))), (md 16, .inl (g.2.1 0, 64, .inl (w2_37))), (md 15, .inl (g.2.1 0, 8, .inl (s2_38))), (md 22, .inl (g.2.1 0, 64, .inl (kRW))), (md 18, .inl (g.2.1 0, 32, .inl (g2_39))), (md 19, .inl (g.2.1 0, 32, .inl (k2_40))), (md 20, .inl (g.2.1 0, 32, .inl (o2_41))), (md 21, .inl (g.2.1 0, 160, .inl (m2_42))), (md 2, .inl (g.2.1 0, 64, .inl (laid se (32 * i) (keyD (hmv (shf te (32 * i)) (shf se (32 * i)) 32) i 0) 32))), (md 3, .inl (g.2.1 0, 64, .inl (laid te (32 * i) (keyD (hmv (shf te (32 * i)) (shf se (32 * i)) 32) i 1) 32))), (md 5, .inl (g.2.1 1, 2, .inr (.inl (vp_updL nxf i 0)))), (md 6, .inl (g.2.1 2, 2, .inl (upd smf i (nI 0))))] [] H locs := hw
              have hw : WD g A s [(md 4, .inl (g.2.1 0, 2, .inl (szF (va_up epn i (epn i + 1))))), (md 25, .inr (7, [.ref (md 0), .int (nI op), .ref (md 2), .ref (md 3), .ref (md 4), .ref (md 5), .ref (md 6), .ref (md 7), .ref (md 8), .ref (md 9), .ref (md 10), .ref (md 11), .int (nI on), .ref (md 13), .int (nI inn), .ref (md 15), .ref (md 16), .ref (md 17), .ref (md 18), .ref (md 19), .ref (md 20), .ref (md 21), .ref (md 22), .ref (md 23), .ref (md 24)])), (md 17, .inl (g.2.1 0, 400, .inl (r2_36))), (md 16, .inl (g.2.1 0, 64, .inl (w2_37))), (md 15, .inl (g.2.1 0, 8, .inl (s2_38))), (md 22, .inl (g.2.1 0, 64, .inl (kRW))), (md 18, .inl (g.2.1 0, 32, .inl (g2_39))), (md 19, .inl (g.2.1 0, 32, .inl (k2_40))), (md 20, .inl (g.2.1 0, 32, .inl (o2_41))), (md 21, .inl (g.2.1 0, 160, .inl (m2_42))), (md 2, .inl (g.2.1 0, 64, .inl (laid se (32 * i) (keyD (hmv (shf te (32 * i)) (shf se (32 * i)) 32) i 0) 32))), (md 3, .inl (g.2.1 0, 64, .inl (laid te (32 * i) (keyD (hmv (shf te (32 * i)) (shf se (32 * i)) 32) i 1) 32))), (md 5, .inl (g.2.1 1, 2, .inr (.inl (vp_updL nxf i 0)))), (md 6, .inl (g.2.1 2, 2, .inl (upd smf i (nI 0))))] [] H locs := by rw [← szF_up]; exact hw
              refine lv_aload_n hx hb dX7_rekey_87 rfl (lv_at hl 1 rfl) ?_
              refine r_get (ci := 7) (v := .ref (md 4)) (C := RX7) (T := TX7) (N := 25) hx hb hts hinX7 hown h0 hw 1 rfl rfl 4 (by decide) k19 rfl dX7_rekey_88 ?_
              refine lv_iload_n hx hb dX7_rekey_91 rfl (lv_at hl 2 rfl) ?_
              refine r_iald hx hb h0 hw 0 rfl (i := i) (by omega) (by omega) dX7_rekey_92 ?_
              refine r_te (y := nI (epn i + 1)) (by show nI (va_up epn i (epn i + 1) i) = _; rw [va_up_self]) ?_
              exact hret (hw.perm (X' := [(md 25, .inr (7, [.ref (md 0), .int (nI op), .ref (md 2), .ref (md 3), .ref (md 4), .ref (md 5), .ref (md 6), .ref (md 7), .ref (md 8), .ref (md 9), .ref (md 10), .ref (md 11), .int (nI on), .ref (md 13), .int (nI inn), .ref (md 15), .ref (md 16), .ref (md 17), .ref (md 18), .ref (md 19), .ref (md 20), .ref (md 21), .ref (md 22), .ref (md 23), .ref (md 24)])), (md 17, .inl (g.2.1 0, 400, .inl (r2_36))), (md 16, .inl (g.2.1 0, 64, .inl (w2_37))), (md 15, .inl (g.2.1 0, 8, .inl (s2_38))), (md 22, .inl (g.2.1 0, 64, .inl (kRW))), (md 18, .inl (g.2.1 0, 32, .inl (g2_39))), (md 19, .inl (g.2.1 0, 32, .inl (k2_40))), (md 20, .inl (g.2.1 0, 32, .inl (o2_41))), (md 21, .inl (g.2.1 0, 160, .inl (m2_42))), (md 2, .inl (g.2.1 0, 64, .inl (laid se (32 * i) (keyD (hmv (shf te (32 * i)) (shf se (32 * i)) 32) i 0) 32))), (md 3, .inl (g.2.1 0, 64, .inl (laid te (32 * i) (keyD (hmv (shf te (32 * i)) (shf se (32 * i)) 32) i 1) 32))), (md 5, .inl (g.2.1 1, 2, .inr (.inl (vp_updL nxf i 0)))), (md 6, .inl (g.2.1 2, 2, .inl (upd smf i (nI 0)))), (md 4, .inl (g.2.1 0, 2, .inl (szF (va_up epn i (epn i + 1)))))]) [1, 2, 3, 4, 5, 6, 7, 8, 9, 10, 11, 12, 13, 0] (by decide) rfl) (r2_36, w2_37, s2_38, g2_39, k2_40, o2_41, m2_42) (rfl) (rfl) (by omega) (by omega) dX7_rekey_93
            · skip
              have c24 : ¬ 32 ≤ j := fun q => c24 (((nI_leI (by omega) (by omega)).mpr q))
              refine lv_aload_n hx hb dX7_rekey_26 rfl (lv_at hl 1 rfl) ?_
              refine r_get (ci := 7) (v := .ref (md 19)) (C := RX7) (T := TX7) (N := 25) hx hb hts hinX7 hown h0 hw 0 rfl rfl 19 (by decide) k60 rfl dX7_rekey_27 ?_
              refine lv_iload_n hx hb dX7_rekey_30 rfl (lv_at hl 0 rfl) ?_
              refine lv_aload_n hx hb dX7_rekey_31 rfl (lv_at hl 1 rfl) ?_
              refine r_get (ci := 7) (v := .ref (md 3)) (C := RX7) (T := TX7) (N := 25) hx hb hts hinX7 hown h0 hw 0 rfl rfl 3 (by decide) k16 rfl dX7_rekey_32 ?_
              refine lv_bipush (v := nI 32) hx hb dX7_rekey_35 (by decide +kernel) ?_
              refine lv_iload_n hx hb dX7_rekey_37 rfl (lv_at hl 2 rfl) ?_
              refine lv_imul hx hb dX7_rekey_38 ?_
              refine r_te (y := nI (32 * i)) (pk_mul 32 i) ?_
              refine lv_iload_n hx hb dX7_rekey_39 rfl (lv_at hl 0 rfl) ?_
              refine lv_iadd hx hb dX7_rekey_40 ?_
              refine r_te (y := nI (32 * i + j)) (nI_add (32 * i) j) ?_
              refine r_iald hx hb h0 hw 10 rfl (i := 32 * i + j) (by omega) (by omega) dX7_rekey_41 ?_
              refine r_iast hx hb h0 hw 6 rfl (i := j) (by omega) (by omega) dX7_rekey_42 (fun H locs hw => ?_)
              have hw : WD g A s [(md 25, .inr (7, [.ref (md 0), .int (nI op), .ref (md 2), .ref (md 3), .ref (md 4), .ref (md 5), .ref (md 6), .ref (md 7), .ref (md 8), .ref (md 9), .ref (md 10), .ref (md 11), .int (nI on), .ref (md 13), .int (nI inn), .ref (md 15), .ref (md 16), .ref (md 17), .ref (md 18), .ref (md 19), .ref (md 20), .ref (md 21), .ref (md 22), .ref (md 23), .ref (md 24)])), (md 17, .inl (g.2.1 0, 400, .inl (rf))), (md 16, .inl (g.2.1 0, 64, .inl (wf))), (md 15, .inl (g.2.1 0, 8, .inl (sf))), (md 22, .inl (g.2.1 0, 64, .inl (kRW))), (md 18, .inl (g.2.1 0, 32, .inl (dg))), (md 19, .inl (g.2.1 0, 32, .inl (upd (cpF kf (shf te (32 * i)) j) j (te (32 * i + j))))), (md 20, .inl (g.2.1 0, 32, .inl (otf))), (md 21, .inl (g.2.1 0, 160, .inl (cpF mf (shf se (32 * i)) j))), (md 2, .inl (g.2.1 0, 64, .inl (se))), (md 3, .inl (g.2.1 0, 64, .inl (te))), (md 5, .inl (g.2.1 1, 2, .inr (.inl (nxf)))), (md 6, .inl (g.2.1 2, 2, .inl (smf))), (md 4, .inl (g.2.1 0, 2, .inl (szF epn)))] [] H locs := hw
              refine lv_aload_n hx hb dX7_rekey_43 rfl (lv_at hl 1 rfl) ?_
              refine r_get (ci := 7) (v := .ref (md 21)) (C := RX7) (T := TX7) (N := 25) hx hb hts hinX7 hown h0 hw 0 rfl rfl 21 (by decide) k66 rfl dX7_rekey_44 ?_
              refine lv_iload_n hx hb dX7_rekey_47 rfl (lv_at hl 0 rfl) ?_
              refine lv_aload_n hx hb dX7_rekey_48 rfl (lv_at hl 1 rfl) ?_
              refine r_get (ci := 7) (v := .ref (md 2)) (C := RX7) (T := TX7) (N := 25) hx hb hts hinX7 hown h0 hw 0 rfl rfl 2 (by decide) k13 rfl dX7_rekey_49 ?_
              refine lv_bipush (v := nI 32) hx hb dX7_rekey_52 (by decide +kernel) ?_
              refine lv_iload_n hx hb dX7_rekey_54 rfl (lv_at hl 2 rfl) ?_
              refine lv_imul hx hb dX7_rekey_55 ?_
              refine r_te (y := nI (32 * i)) (pk_mul 32 i) ?_
              refine lv_iload_n hx hb dX7_rekey_56 rfl (lv_at hl 0 rfl) ?_
              refine lv_iadd hx hb dX7_rekey_57 ?_
              refine r_te (y := nI (32 * i + j)) (nI_add (32 * i) j) ?_
              refine r_iald hx hb h0 hw 9 rfl (i := 32 * i + j) (by omega) (by omega) dX7_rekey_58 ?_
              refine r_iast hx hb h0 hw 8 rfl (i := j) (by omega) (by omega) dX7_rekey_59 (fun H locs hw => ?_)
              have hw : WD g A s [(md 25, .inr (7, [.ref (md 0), .int (nI op), .ref (md 2), .ref (md 3), .ref (md 4), .ref (md 5), .ref (md 6), .ref (md 7), .ref (md 8), .ref (md 9), .ref (md 10), .ref (md 11), .int (nI on), .ref (md 13), .int (nI inn), .ref (md 15), .ref (md 16), .ref (md 17), .ref (md 18), .ref (md 19), .ref (md 20), .ref (md 21), .ref (md 22), .ref (md 23), .ref (md 24)])), (md 17, .inl (g.2.1 0, 400, .inl (rf))), (md 16, .inl (g.2.1 0, 64, .inl (wf))), (md 15, .inl (g.2.1 0, 8, .inl (sf))), (md 22, .inl (g.2.1 0, 64, .inl (kRW))), (md 18, .inl (g.2.1 0, 32, .inl (dg))), (md 19, .inl (g.2.1 0, 32, .inl (upd (cpF kf (shf te (32 * i)) j) j (te (32 * i + j))))), (md 20, .inl (g.2.1 0, 32, .inl (otf))), (md 21, .inl (g.2.1 0, 160, .inl (upd (cpF mf (shf se (32 * i)) j) j (se (32 * i + j))))), (md 2, .inl (g.2.1 0, 64, .inl (se))), (md 3, .inl (g.2.1 0, 64, .inl (te))), (md 5, .inl (g.2.1 1, 2, .inr (.inl (nxf)))), (md 6, .inl (g.2.1 2, 2, .inl (smf))), (md 4, .inl (g.2.1 0, 2, .inl (szF epn)))] [] H locs := hw
              refine lv_iinc (v := nI (j + 1)) (lv' := [(2, .int (nI (j + 1))), (0, .ref (md 25)), (1, .int (nI i))]) hx hb dX7_rekey_60 hl (k := 0) rfl (nI_add j 1) (by decide) rfl (fun ls hl => ?_)
              refine lv_goto (tgt := 20) hx hb dX7_rekey_63 (by decide) ?_
              exact ih (j + 1) (by omega) (by omega) _ _ _ hw (lv_sub hl [0, 1, 2] rfl)
        exact lp20 (32 - 0 + 1) 0 (by omega) (by omega) _ _ _ hw (lv_sub hl [0, 1, 2] rfl)
      · skip
        rw [← nI_0] at c23
        have c23 : op = 0 := (nI_eq (by omega) (by omega)).mp c23
        exfalso; omega

set_option maxHeartbeats 4000000 in
set_option maxRecDepth 100000 in
theorem c_X7_rekey_bad (l : Launch) (g : GE) (md : Nat → Nat) (op : Nat) (on : Nat) (inn : Nat) (i : Int32) (hop2 : op < 2) (hbad : ¬ (inR i 2 ∧ ¬ op = 0)) (sz : Nat) : MI l yX7_rekey wsX7_rekey { frames := 5, cells := 0, slots := 0, locals := 122 } g [.ref (md 25), .int (i)] [(md 25, .inr (7, [.ref (md 0), .int (nI op), .ref (md 2), .ref (md 3), .ref (md 4), .ref (md 5), .ref (md 6), .ref (md 7), .ref (md 8), .ref (md 9), .ref (md 10), .ref (md 11), .int (nI on), .ref (md 13), .int (nI inn), .ref (md 15), .ref (md 16), .ref (md 17), .ref (md 18), .ref (md 19), .ref (md 20), .ref (md 21), .ref (md 22), .ref (md 23), .ref (md 24)]))] sz (fun (r : Int32) (_ : Unit) => r = -1) (fun (_ : Unit) => [(md 25, .inr (7, [.ref (md 0), .int (nI op), .ref (md 2), .ref (md 3), .ref (md 4), .ref (md 5), .ref (md 6), .ref (md 7), .ref (md 8), .ref (md 9), .ref (md 10), .ref (md 11), .int (nI on), .ref (md 13), .int (nI inn), .ref (md 15), .ref (md 16), .ref (md 17), .ref (md 18), .ref (md 19), .ref (md 20), .ref (md 21), .ref (md 22), .ref (md 23), .ref (md 24)]))]) 0 0 := by
  refine enterI (by decide) rfl (Nat.le_of_ble_eq_true rfl) ?_
  intro p e s m below meth c A ls ar Q hE h0 hret hw hl
  obtain ⟨hx, hb, hr, hml, hown, hts, hlocks, hname⟩ := hE
  have hown : s.vm.findClass RX7 = some m.cls := hown
  have hw : WD g A s [(md 25, .inr (7, [.ref (md 0), .int (nI op), .ref (md 2), .ref (md 3), .ref (md 4), .ref (md 5), .ref (md 6), .ref (md 7), .ref (md 8), .ref (md 9), .ref (md 10), .ref (md 11), .int (nI on), .ref (md 13), .int (nI inn), .ref (md 15), .ref (md 16), .ref (md 17), .ref (md 18), .ref (md 19), .ref (md 20), .ref (md 21), .ref (md 22), .ref (md 23), .ref (md 24)]))] [] s.heap [] := hw
  have hinX7 : ∀ w ∈ u_ws RX7 TX7 25, w ∈ wsX7_rekey := by decide +kernel
  have k13 := hts (.fieldLink RX7 13 "RecordWireModel" "sealKeys" "[I") (by decide +kernel)
  have k16 := hts (.fieldLink RX7 16 "RecordWireModel" "tagKeys" "[I") (by decide +kernel)
  have k19 := hts (.fieldLink RX7 19 "RecordWireModel" "epochs" "[I") (by decide +kernel)
  have k60 := hts (.fieldLink RX7 60 "RecordWireModel" "key" "[I") (by decide +kernel)
  have k66 := hts (.fieldLink RX7 66 "RecordWireModel" "message" "[I") (by decide +kernel)
  have k145 := hts (.fieldLink RX7 145 "RecordWireModel" "isOpen" "Z") (by decide +kernel)
  have hl : lv_has ls 3 [(0, .ref (md 25)), (1, .int (i))] := hl
  refine lv_iload_n hx hb dX7_rekey_0 rfl (lv_at hl 1 rfl) ?_
  refine lv_if_eq (tgt := 9) hx hb dX7_rekey_1 (by decide) (fun c1 => ?_) (fun c1 => ?_)
  · skip
    have q1 : inR i 2 := by rw [c1]; decide +kernel
    refine lv_aload_n hx hb dX7_rekey_9 rfl (lv_at hl 0 rfl) ?_
    refine r_get (ci := 7) (v := .int (nI op)) (C := RX7) (T := TX7) (N := 25) hx hb hts hinX7 hown h0 hw 0 rfl rfl 1 (by decide) k145 rfl dX7_rekey_10 ?_
    refine lv_if_ne (tgt := 18) hx hb dX7_rekey_13 (by decide) (fun c2 => ?_) (fun c2 => ?_)
    · skip
      rw [← nI_0] at c2
      have c2 : ¬ op = 0 := fun q => c2 (((nI_eq (by omega) (by omega)).mpr q))
      exact absurd ⟨q1, c2⟩ hbad
    · skip
      rw [← nI_0] at c2
      have c2 : op = 0 := (nI_eq (by omega) (by omega)).mp c2
      refine lv_iconst (v := -1) hx hb dX7_rekey_16 (by decide +kernel) ?_
      exact hret hw () (rfl) (rfl) (by omega) (by omega) dX7_rekey_17
  · skip
    refine lv_iload_n hx hb dX7_rekey_4 rfl (lv_at hl 1 rfl) ?_
    refine lv_iconst (v := nI 1) hx hb dX7_rekey_5 (by decide +kernel) ?_
    refine lv_icmp_ne (tgt := 16) hx hb dX7_rekey_6 (by decide) (fun c3 => ?_) (fun c3 => ?_)
    · skip
      refine lv_iconst (v := -1) hx hb dX7_rekey_16 (by decide +kernel) ?_
      exact hret hw () (rfl) (rfl) (by omega) (by omega) dX7_rekey_17
    · skip
      have q1 : inR i 2 := by rw [c3]; decide +kernel
      refine lv_aload_n hx hb dX7_rekey_9 rfl (lv_at hl 0 rfl) ?_
      refine r_get (ci := 7) (v := .int (nI op)) (C := RX7) (T := TX7) (N := 25) hx hb hts hinX7 hown h0 hw 0 rfl rfl 1 (by decide) k145 rfl dX7_rekey_10 ?_
      refine lv_if_ne (tgt := 18) hx hb dX7_rekey_13 (by decide) (fun c4 => ?_) (fun c4 => ?_)
      · skip
        rw [← nI_0] at c4
        have c4 : ¬ op = 0 := fun q => c4 (((nI_eq (by omega) (by omega)).mpr q))
        exact absurd ⟨q1, c4⟩ hbad
      · skip
        rw [← nI_0] at c4
        have c4 : op = 0 := (nI_eq (by omega) (by omega)).mp c4
        refine lv_iconst (v := -1) hx hb dX7_rekey_16 (by decide +kernel) ?_
        exact hret hw () (rfl) (rfl) (by omega) (by omega) dX7_rekey_17

set_option maxHeartbeats 4000000 in
set_option maxRecDepth 100000 in
theorem c_X7_open (l : Launch) (g : GE) (md : Nat → Nat) (on : Nat) (inn : Nat) (rf : Nat → Int32) (wf : Nat → Int32) (sf : Nat → Int32) (dg : Nat → Int32) (kf : Nat → Int32) (otf : Nat → Int32) (mf : Nat → Int32) (se : Nat → Int32) (te : Nat → Int32) (nxf : Nat → Int64) (smf : Nat → Int32) (epn : Nat → Nat) (pf : Nat → Int32) (sz : Nat) : MV l yX7_open wsX7_open { frames := 5, cells := 0, slots := 0, locals := 122 } g [.ref (md 25)] [(md 25, .inr (7, [.ref (md 0), .int (nI 0), .ref (md 2), .ref (md 3), .ref (md 4), .ref (md 5), .ref (md 6), .ref (md 7), .ref (md 8), .ref (md 9), .ref (md 10), .ref (md 11), .int (nI on), .ref (md 13), .int (nI inn), .ref (md 15), .ref (md 16), .ref (md 17), .ref (md 18), .ref (md 19), .ref (md 20), .ref (md 21), .ref (md 22), .ref (md 23), .ref (md 24)])), (md 17, .inl (g.2.1 0, 400, .inl (rf))), (md 16, .inl (g.2.1 0, 64, .inl (wf))), (md 15, .inl (g.2.1 0, 8, .inl (sf))), (md 22, .inl (g.2.1 0, 64, .inl (kRW))), (md 18, .inl (g.2.1 0, 32, .inl (dg))), (md 19, .inl (g.2.1 0, 32, .inl (kf))), (md 20, .inl (g.2.1 0, 32, .inl (otf))), (md 21, .inl (g.2.1 0, 160, .inl (mf))), (md 2, .inl (g.2.1 0, 64, .inl (se))), (md 3, .inl (g.2.1 0, 64, .inl (te))), (md 5, .inl (g.2.1 1, 2, .inr (.inl (nxf)))), (md 6, .inl (g.2.1 2, 2, .inl (smf))), (md 4, .inl (g.2.1 0, 2, .inl (szF epn))), (md 0, .inl (g.2.1 0, 32, .inl (pf)))] sz (fun (u : (Nat → Int32) × (Nat → Int32) × (Nat → Int32) × (Nat → Int32) × (Nat → Int32) × (Nat → Int32) × (Nat → Int32)) => True) (fun (u : (Nat → Int32) × (Nat → Int32) × (Nat → Int32) × (Nat → Int32) × (Nat → Int32) × (Nat → Int32) × (Nat → Int32)) => [(md 25, .inr (7, [.ref (md 0), .int (nI 1), .ref (md 2), .ref (md 3), .ref (md 4), .ref (md 5), .ref (md 6), .ref (md 7), .ref (md 8), .ref (md 9), .ref (md 10), .ref (md 11), .int (nI on), .ref (md 13), .int (nI inn), .ref (md 15), .ref (md 16), .ref (md 17), .ref (md 18), .ref (md 19), .ref (md 20), .ref (md 21), .ref (md 22), .ref (md 23), .ref (md 24)])), (md 17, .inl (g.2.1 0, 400, .inl (u.1))), (md 16, .inl (g.2.1 0, 64, .inl (u.2.1))), (md 15, .inl (g.2.1 0, 8, .inl (u.2.2.1))), (md 22, .inl (g.2.1 0, 64, .inl (kRW))), (md 18, .inl (g.2.1 0, 32, .inl (u.2.2.2.1))), (md 19, .inl (g.2.1 0, 32, .inl (u.2.2.2.2.1))), (md 20, .inl (g.2.1 0, 32, .inl (u.2.2.2.2.2.1))), (md 21, .inl (g.2.1 0, 160, .inl (u.2.2.2.2.2.2))), (md 2, .inl (g.2.1 0, 64, .inl (laid (laid se (32 * 0) (keyD (hmv zro pf 32) 0 0) 32) (32 * 1) (keyD (hmv zro pf 32) 1 0) 32))), (md 3, .inl (g.2.1 0, 64, .inl (laid (laid te (32 * 0) (keyD (hmv zro pf 32) 0 1) 32) (32 * 1) (keyD (hmv zro pf 32) 1 1) 32))), (md 5, .inl (g.2.1 1, 2, .inr (.inl (vp_updL (vp_updL nxf 0 0) 1 0)))), (md 6, .inl (g.2.1 2, 2, .inl (upd (upd smf 0 (nI 0)) 1 (nI 0)))), (md 4, .inl (g.2.1 0, 2, .inl (szF (va_up (va_up epn 0 0) 1 0)))), (md 0, .inl (g.2.1 0, 32, .inl (pf)))]) 0 0 := by
  refine enterV (by decide) rfl (Nat.le_of_ble_eq_true rfl) ?_
  intro p e s m below meth c A ls ar Q hE h0 hret hw hl
  obtain ⟨hx, hb, hr, hml, hown, hts, hlocks, hname⟩ := hE
  have hown : s.vm.findClass RX7 = some m.cls := hown
  have hw : WD g A s [(md 25, .inr (7, [.ref (md 0), .int (nI 0), .ref (md 2), .ref (md 3), .ref (md 4), .ref (md 5), .ref (md 6), .ref (md 7), .ref (md 8), .ref (md 9), .ref (md 10), .ref (md 11), .int (nI on), .ref (md 13), .int (nI inn), .ref (md 15), .ref (md 16), .ref (md 17), .ref (md 18), .ref (md 19), .ref (md 20), .ref (md 21), .ref (md 22), .ref (md 23), .ref (md 24)])), (md 17, .inl (g.2.1 0, 400, .inl (rf))), (md 16, .inl (g.2.1 0, 64, .inl (wf))), (md 15, .inl (g.2.1 0, 8, .inl (sf))), (md 22, .inl (g.2.1 0, 64, .inl (kRW))), (md 18, .inl (g.2.1 0, 32, .inl (dg))), (md 19, .inl (g.2.1 0, 32, .inl (kf))), (md 20, .inl (g.2.1 0, 32, .inl (otf))), (md 21, .inl (g.2.1 0, 160, .inl (mf))), (md 2, .inl (g.2.1 0, 64, .inl (se))), (md 3, .inl (g.2.1 0, 64, .inl (te))), (md 5, .inl (g.2.1 1, 2, .inr (.inl (nxf)))), (md 6, .inl (g.2.1 2, 2, .inl (smf))), (md 4, .inl (g.2.1 0, 2, .inl (szF epn))), (md 0, .inl (g.2.1 0, 32, .inl (pf)))] [] s.heap [] := hw
  have hinX7 : ∀ w ∈ u_ws RX7 TX7 25, w ∈ wsX7_open := by decide +kernel
  have k7 := hts (.fieldLink RX7 7 "RecordWireModel" "psk" "[I") (by decide +kernel)
  have k19 := hts (.fieldLink RX7 19 "RecordWireModel" "epochs" "[I") (by decide +kernel)
  have k60 := hts (.fieldLink RX7 60 "RecordWireModel" "key" "[I") (by decide +kernel)
  have k66 := hts (.fieldLink RX7 66 "RecordWireModel" "message" "[I") (by decide +kernel)
  have k145 := hts (.fieldLink RX7 145 "RecordWireModel" "isOpen" "Z") (by decide +kernel)
  have hl : lv_has ls 3 [(0, .ref (md 25))] := hl
  refine lv_iconst (v := nI 0) hx hb dX7_open_0 (by decide +kernel) ?_
  refine lv_istore_n (lv' := [(1, .int (nI 0)), (0, .ref (md 25))]) hx hb dX7_open_1 rfl hl (by decide) rfl (fun ls hl => ?_)
  refine lv_iload_n hx hb dX7_open_2 rfl (lv_at hl 0 rfl) ?_
  refine lv_iconst (v := nI 2) hx hb dX7_open_3 (by decide +kernel) ?_
  refine lv_icmp_ge (tgt := 71) hx hb dX7_open_4 (by decide) (fun c1 => ?_) (fun c1 => ?_)
  · skip
    have c1 : 2 ≤ 0 := (nI_leI (by omega) (by omega)).mp c1
    exfalso; omega
  · skip
    have c1 : ¬ 2 ≤ 0 := fun q => c1 (((nI_leI (by omega) (by omega)).mpr q))
    refine lv_aload_n hx hb dX7_open_7 rfl (lv_at hl 1 rfl) ?_
    refine r_get (ci := 7) (v := .int (nI 0)) (C := RX7) (T := TX7) (N := 25) hx hb hts hinX7 hown h0 hw 0 rfl rfl 1 (by decide) k145 rfl dX7_open_8 ?_
    refine lv_if_ne (tgt := 71) hx hb dX7_open_11 (by decide) (fun c2 => ?_) (fun c2 => ?_)
    · skip
      rw [← nI_0] at c2
      have c2 : ¬ 0 = 0 := fun q => c2 (((nI_eq (by omega) (by omega)).mpr q))
      exfalso; omega
    · skip
      rw [← nI_0] at c2
      have c2 : 0 = 0 := (nI_eq (by omega) (by omega)).mp c2
      refine lv_iconst (v := nI 0) hx hb dX7_open_14 (by decide +kernel) ?_
      refine lv_istore_n (lv' := [(2, .int (nI 0)), (1, .int (nI 0)), (0, .ref (md 25))]) hx hb dX7_open_15 rfl hl (by decide) rfl (fun ls hl => ?_)
      have lp16 : ∀ (fu : Nat) (j : Nat), 32 - j < fu → (j ≤ 32) → ∀ (H : Heap) (locs : List Loc) (ls : Array Slot), WD g A s [(md 25, .inr (7, [.ref (md 0), .int (nI 0), .ref (md 2), .ref (md 3), .ref (md 4), .ref (md 5), .ref (md 6), .ref (md 7), .ref (md 8), .ref (md 9), .ref (md 10), .ref (md 11), .int (nI on), .ref (md 13), .int (nI inn), .ref (md 15), .ref (md 16), .ref (md 17), .ref (md 18), .ref (md 19), .ref (md 20), .ref (md 21), .ref (md 22), .ref (md 23), .ref (md 24)])), (md 17, .inl (g.2.1 0, 400, .inl (rf))), (md 16, .inl (g.2.1 0, 64, .inl (wf))), (md 15, .inl (g.2.1 0, 8, .inl (sf))), (md 22, .inl (g.2.1 0, 64, .inl (kRW))), (md 18, .inl (g.2.1 0, 32, .inl (dg))), (md 19, .inl (g.2.1 0, 32, .inl (pzF kf j))), (md 20, .inl (g.2.1 0, 32, .inl (otf))), (md 21, .inl (g.2.1 0, 160, .inl (cpF mf pf j))), (md 2, .inl (g.2.1 0, 64, .inl (se))), (md 3, .inl (g.2.1 0, 64, .inl (te))), (md 5, .inl (g.2.1 1, 2, .inr (.inl (nxf)))), (md 6, .inl (g.2.1 2, 2, .inl (smf))), (md 4, .inl (g.2.1 0, 2, .inl (szF epn))), (md 0, .inl (g.2.1 0, 32, .inl (pf)))] [] H locs → lv_has ls 3 [(2, .int (nI j)), (0, .ref (md 25)), (1, .int (nI 0))] → W p l e { frames := 5, cells := 0, slots := 0, locals := 122 } s m ar below meth c H locs 0 0 Q (F0 m 16 ls []) := by
        intro fu
        induction fu with
        | zero => intro j hmz; exact absurd hmz (Nat.not_lt_zero _)
        | succ fu ih =>
          intro j hms hj H locs ls hw hl
          refine lv_iload_n hx hb dX7_open_16 rfl (lv_at hl 0 rfl) ?_
          refine lv_bipush (v := nI 32) hx hb dX7_open_17 (by decide +kernel) ?_
          refine lv_icmp_ge (tgt := 47) hx hb dX7_open_19 (by decide) (fun c3 => ?_) (fun c3 => ?_)
          · skip
            have c3 : 32 ≤ j := (nI_leI (by omega) (by omega)).mp c3
            have hq : j = 32 := by omega
            have hwS4 := hw; have hlS5 := hl
            subst j
            have hw := hwS4; have hl := hlS5
            have hw := hw.cong 6 rfl (f' := zro) (pzF_at _ 32)
            have hw : WD g A s [(md 25, .inr (7, [.ref (md 0), .int (nI 0), .ref (md 2), .ref (md 3), .ref (md 4), .ref (md 5), .ref (md 6), .ref (md 7), .ref (md 8), .ref (md 9), .ref (md 10), .ref (md 11), .int (nI on), .ref (md 13), .int (nI inn), .ref (md 15), .ref (md 16), .ref (md 17), .ref (md 18), .ref (md 19), .ref (md 20), .ref (md 21), .ref (md 22), .ref (md 23), .ref (md 24)])), (md 17, .inl (g.2.1 0, 400, .inl (rf))), (md 16, .inl (g.2.1 0, 64, .inl (wf))), (md 15, .inl (g.2.1 0, 8, .inl (sf))), (md 22, .inl (g.2.1 0, 64, .inl (kRW))), (md 18, .inl (g.2.1 0, 32, .inl (dg))), (md 19, .inl (g.2.1 0, 32, .inl (zro))), (md 20, .inl (g.2.1 0, 32, .inl (otf))), (md 21, .inl (g.2.1 0, 160, .inl (cpF mf pf 32))), (md 2, .inl (g.2.1 0, 64, .inl (se))), (md 3, .inl (g.2.1 0, 64, .inl (te))), (md 5, .inl (g.2.1 1, 2, .inr (.inl (nxf)))), (md 6, .inl (g.2.1 2, 2, .inl (smf))), (md 4, .inl (g.2.1 0, 2, .inl (szF epn))), (md 0, .inl (g.2.1 0, 32, .inl (pf)))] [] _ _ := hw
            refine lv_aload_n hx hb dX7_open_47 rfl (lv_at hl 1 rfl) ?_
            refine lv_bipush (v := nI 32) hx hb dX7_open_48 (by decide +kernel) ?_
            refine r_callv (wr := [(md 20, .inl (g.2.1 0, 32, .inl (otf))), (md 2, .inl (g.2.1 0, 64, .inl (se))), (md 3, .inl (g.2.1 0, 64, .inl (te))), (md 5, .inl (g.2.1 1, 2, .inr (.inl (nxf)))), (md 6, .inl (g.2.1 2, 2, .inl (smf))), (md 4, .inl (g.2.1 0, 2, .inl (szF epn))), (md 0, .inl (g.2.1 0, 32, .inl (pf)))]) [0, 1, 2, 3, 4, 5, 6, 8] [7, 9, 10, 11, 12, 13, 14] h0 hw rfl rfl (by decide) (by decide) (va_runV (As := [.int (nI 32)]) (rest := []) ⟨hx, hb, hml, hown, hts⟩ (c_X7_hmac l g md 0 on inn rf wf sf dg zro (cpF mf pf 32) 32 (by omega) _) (cwV 1 hts gX7_open_X7_hmac rfl rfl rfl (by decide +kernel) ⟨Nat.le_of_ble_eq_true rfl, Nat.le_of_ble_eq_true rfl⟩) (preV_of [0, 1, 2, 3, 4, 5, 6, 8] [.int (nI 32)] h0 hw rfl (by decide) 0 7 rfl rfl) rfl rfl hl.1 rfl (lv_room (Nat.le_of_ble_eq_true rfl)) dX7_open_50 ⟨Nat.le_of_ble_eq_true rfl, Nat.le_of_ble_eq_true rfl⟩) (fun u7 H locs hp8 hw => ?_)
            obtain ⟨r2_9, w2_10, s2_11⟩ := u7
            have hw : WD g A s [(md 20, .inl (g.2.1 0, 32, .inl (otf))), (md 2, .inl (g.2.1 0, 64, .inl (se))), (md 3, .inl (g.2.1 0, 64, .inl (te))), (md 5, .inl (g.2.1 1, 2, .inr (.inl (nxf)))), (md 6, .inl (g.2.1 2, 2, .inl (smf))), (md 4, .inl (g.2.1 0, 2, .inl (szF epn))), (md 0, .inl (g.2.1 0, 32, .inl (pf))), (md 25, .inr (7, [.ref (md 0), .int (nI 0), .ref (md 2), .ref (md 3), .ref (md 4), .ref (md 5), .ref (md 6), .ref (md 7), .ref (md 8), .ref (md 9), .ref (md 10), .ref (md 11), .int (nI on), .ref (md 13), .int (nI inn), .ref (md 15), .ref (md 16), .ref (md 17), .ref (md 18), .ref (md 19), .ref (md 20), .ref (md 21), .ref (md 22), .ref (md 23), .ref (md 24)])), (md 17, .inl (g.2.1 0, 400, .inl (r2_9))), (md 16, .inl (g.2.1 0, 64, .inl (w2_10))), (md 15, .inl (g.2.1 0, 8, .inl (s2_11))), (md 22, .inl (g.2.1 0, 64, .inl (kRW))), (md 18, .inl (g.2.1 0, 32, .inl (hmv zro (cpF mf pf 32) 32))), (md 19, .inl (g.2.1 0, 32, .inl (zro))), (md 21, .inl (g.2.1 0, 160, .inl (cpF mf pf 32)))] [] H locs := hw
            have hw := hw.cong 12 rfl (f' := hmv zro pf 32) (hmv_cong EqB.rf (cpF_at _ pf 32))
            have hw : WD g A s [(md 20, .inl (g.2.1 0, 32, .inl (otf))), (md 2, .inl (g.2.1 0, 64, .inl (se))), (md 3, .inl (g.2.1 0, 64, .inl (te))), (md 5, .inl (g.2.1 1, 2, .inr (.inl (nxf)))), (md 6, .inl (g.2.1 2, 2, .inl (smf))), (md 4, .inl (g.2.1 0, 2, .inl (szF epn))), (md 0, .inl (g.2.1 0, 32, .inl (pf))), (md 25, .inr (7, [.ref (md 0), .int (nI 0), .ref (md 2), .ref (md 3), .ref (md 4), .ref (md 5), .ref (md 6), .ref (md 7), .ref (md 8), .ref (md 9), .ref (md 10), .ref (md 11), .int (nI on), .ref (md 13), .int (nI inn), .ref (md 15), .ref (md 16), .ref (md 17), .ref (md 18), .ref (md 19), .ref (md 20), .ref (md 21), .ref (md 22), .ref (md 23), .ref (md 24)])), (md 17, .inl (g.2.1 0, 400, .inl (r2_9))), (md 16, .inl (g.2.1 0, 64, .inl (w2_10))), (md 15, .inl (g.2.1 0, 8, .inl (s2_11))), (md 22, .inl (g.2.1 0, 64, .inl (kRW))), (md 18, .inl (g.2.1 0, 32, .inl (hmv zro pf 32))), (md 19, .inl (g.2.1 0, 32, .inl (zro))), (md 21, .inl (g.2.1 0, 160, .inl (cpF mf pf 32)))] [] _ _ := hw
            refine lv_aload_n hx hb dX7_open_53 rfl (lv_at hl 1 rfl) ?_
            refine lv_iload_n hx hb dX7_open_54 rfl (lv_at hl 2 rfl) ?_
            refine r_callv (wr := [(md 4, .inl (g.2.1 0, 2, .inl (szF epn))), (md 0, .inl (g.2.1 0, 32, .inl (pf)))]) [7, 8, 9, 10, 11, 12, 13, 0, 14, 1, 2, 3, 4] [5, 6] h0 hw rfl rfl (by decide) (by decide) (va_runV (As := [.int (nI 0)]) (rest := []) ⟨hx, hb, hml, hown, hts⟩ (c_X7_makeKeys l g md 0 on inn r2_9 w2_10 s2_11 (hmv zro pf 32) zro otf (cpF mf pf 32) se te nxf smf 0 (by omega) _) (cwV 1 hts gX7_open_X7_makeKeys rfl rfl rfl (by decide +kernel) ⟨Nat.le_of_ble_eq_true rfl, Nat.le_of_ble_eq_true rfl⟩) (preV_of [7, 8, 9, 10, 11, 12, 13, 0, 14, 1, 2, 3, 4] [.int (nI 0)] h0 hw rfl (by decide) 7 7 rfl rfl) rfl rfl hl.1 rfl (lv_room (Nat.le_of_ble_eq_true rfl)) dX7_open_55 ⟨Nat.le_of_ble_eq_true rfl, Nat.le_of_ble_eq_true rfl⟩) (fun u13 H locs hp14 hw => ?_)
            obtain ⟨r2_15, w2_16, s2_17, g2_18, k2_19, o2_20, m2_21⟩ := u13
            have hw : WD g A s [(md 4, .inl (g.2.1 0, 2, .inl (szF epn))), (md 0, .inl (g.2.1 0, 32, .inl (pf))), (md 25, .inr (7, [.ref (md 0), .int (nI 0), .ref (md 2), .ref (md 3), .ref (md 4), .ref (md 5), .ref (md 6), .ref (md 7), .ref (md 8), .ref (md 9), .ref (md 10), .ref (md 11), .int (nI on), .ref (md 13), .int (nI inn), .ref (md 15), .ref (md 16), .ref (md 17), .ref (md 18), .ref (md 19), .ref (md 20), .ref (md 21), .ref (md 22), .ref (md 23), .ref (md 24)])), (md 17, .inl (g.2.1 0, 400, .inl (r2_15))), (md 16, .inl (g.2.1 0, 64, .inl (w2_16))), (md 15, .inl (g.2.1 0, 8, .inl (s2_17))), (md 22, .inl (g.2.1 0, 64, .inl (kRW))), (md 18, .inl (g.2.1 0, 32, .inl (g2_18))), (md 19, .inl (g.2.1 0, 32, .inl (k2_19))), (md 20, .inl (g.2.1 0, 32, .inl (o2_20))), (md 21, .inl (g.2.1 0, 160, .inl (m2_21))), (md 2, .inl (g.2.1 0, 64, .inl (laid se (32 * 0) (keyD (hmv zro pf 32) 0 0) 32))), (md 3, .inl (g.2.1 0, 64, .inl (laid te (32 * 0) (keyD (hmv zro pf 32) 0 1) 32))), (md 5, .inl (g.2.1 1, 2, .inr (.inl (vp_updL nxf 0 0)))), (md 6, .inl (g.2.1 2, 2, .inl (upd smf 0 (nI 0))))] [] H locs := hw
            refine lv_aload_n hx hb dX7_open_58 rfl (lv_at hl 1 rfl) ?_
            refine r_get (ci := 7) (v := .ref (md 4)) (C := RX7) (T := TX7) (N := 25) hx hb hts hinX7 hown h0 hw 2 rfl rfl 4 (by decide) k19 rfl dX7_open_59 ?_
            refine lv_iload_n hx hb dX7_open_62 rfl (lv_at hl 2 rfl) ?_
            refine lv_iconst (v := nI 0) hx hb dX7_open_63 (by decide +kernel) ?_
            refine r_iast hx hb h0 hw 0 rfl (i := 0) (by omega) (by omega) dX7_open_64 (fun H locs hw => ?_)
            have hw : WD g A s [(md 4, .inl (g.2.1 0, 2, .inl (upd (szF epn) 0 (nI 0)))), (md 0, .inl (g.2.1 0, 32, .inl (pf))), (md 25, .inr (7, [.ref (md 0), .int (nI 0), .ref (md 2), .ref (md 3), .ref (md 4), .ref (md 5), .ref (md 6), .ref (md 7), .ref (md 8), .ref (md 9), .ref (md 10), .ref (md 11), .int (nI on), .ref (md 13), .int (nI inn), .ref (md 15), .ref (md 16), .ref (md 17), .ref (md 18), .ref (md 19), .ref (md 20), .ref (md 21), .ref (md 22), .ref (md 23), .ref (md 24)])), (md 17, .inl (g.2.1 0, 400, .inl (r2_15))), (md 16, .inl (g.2.1 0, 64, .inl (w2_16))), (md 15, .inl (g.2.1 0, 8, .inl (s2_17))), (md 22, .inl (g.2.1 0, 64, .inl (kRW))), (md 18, .inl (g.2.1 0, 32, .inl (g2_18))), (md 19, .inl (g.2.1 0, 32, .inl (k2_19))), (md 20, .inl (g.2.1 0, 32, .inl (o2_20))), (md 21, .inl (g.2.1 0, 160, .inl (m2_21))), (md 2, .inl (g.2.1 0, 64, .inl (laid se (32 * 0) (keyD (hmv zro pf 32) 0 0) 32))), (md 3, .inl (g.2.1 0, 64, .inl (laid te (32 * 0) (keyD (hmv zro pf 32) 0 1) 32))), (md 5, .inl (g.2.1 1, 2, .inr (.inl (vp_updL nxf 0 0)))), (md 6, .inl (g.2.1 2, 2, .inl (upd smf 0 (nI 0))))] [] H locs := hw
            have hw : WD g A s [(md 4, .inl (g.2.1 0, 2, .inl (szF (va_up epn 0 0)))), (md 0, .inl (g.2.1 0, 32, .inl (pf))), (md 25, .inr (7, [.ref (md 0), .int (nI 0), .ref (md 2), .ref (md 3), .ref (md 4), .ref (md 5), .ref (md 6), .ref (md 7), .ref (md 8), .ref (md 9), .ref (md 10), .ref (md 11), .int (nI on), .ref (md 13), .int (nI inn), .ref (md 15), .ref (md 16), .ref (md 17), .ref (md 18), .ref (md 19), .ref (md 20), .ref (md 21), .ref (md 22), .ref (md 23), .ref (md 24)])), (md 17, .inl (g.2.1 0, 400, .inl (r2_15))), (md 16, .inl (g.2.1 0, 64, .inl (w2_16))), (md 15, .inl (g.2.1 0, 8, .inl (s2_17))), (md 22, .inl (g.2.1 0, 64, .inl (kRW))), (md 18, .inl (g.2.1 0, 32, .inl (g2_18))), (md 19, .inl (g.2.1 0, 32, .inl (k2_19))), (md 20, .inl (g.2.1 0, 32, .inl (o2_20))), (md 21, .inl (g.2.1 0, 160, .inl (m2_21))), (md 2, .inl (g.2.1 0, 64, .inl (laid se (32 * 0) (keyD (hmv zro pf 32) 0 0) 32))), (md 3, .inl (g.2.1 0, 64, .inl (laid te (32 * 0) (keyD (hmv zro pf 32) 0 1) 32))), (md 5, .inl (g.2.1 1, 2, .inr (.inl (vp_updL nxf 0 0)))), (md 6, .inl (g.2.1 2, 2, .inl (upd smf 0 (nI 0))))] [] H locs := by rw [← szF_up]; exact hw
            refine lv_iinc (v := nI 1) (lv' := [(1, .int (nI 1)), (2, .int (nI 32)), (0, .ref (md 25))]) hx hb dX7_open_65 hl (k := 2) rfl (nI_add 0 1) (by decide) rfl (fun ls hl => ?_)
            refine lv_goto (tgt := 2) hx hb dX7_open_68 (by decide) ?_
            refine lv_iload_n hx hb dX7_open_2 rfl (lv_at hl 0 rfl) ?_
            refine lv_iconst (v := nI 2) hx hb dX7_open_3 (by decide +kernel) ?_
            refine lv_icmp_ge (tgt := 71) hx hb dX7_open_4 (by decide) (fun c22 => ?_) (fun c22 => ?_)
            · skip
              have c22 : 2 ≤ 1 := (nI_leI (by omega) (by omega)).mp c22
              exfalso; omega
            · skip
              have c22 : ¬ 2 ≤ 1 := fun q => c22 (((nI_leI (by omega) (by omega)).mpr q))
              refine lv_aload_n hx hb dX7_open_7 rfl (lv_at hl 2 rfl) ?_
              refine r_get (ci := 7) (v := .int (nI 0)) (C := RX7) (T := TX7) (N := 25) hx hb hts hinX7 hown h0 hw 2 rfl rfl 1 (by decide) k145 rfl dX7_open_8 ?_
              refine lv_if_ne (tgt := 71) hx hb dX7_open_11 (by decide) (fun c23 => ?_) (fun c23 => ?_)
              · skip
                rw [← nI_0] at c23
                have c23 : ¬ 0 = 0 := fun q => c23 (((nI_eq (by omega) (by omega)).mpr q))
                exfalso; omega
              · skip
                rw [← nI_0] at c23
                have c23 : 0 = 0 := (nI_eq (by omega) (by omega)).mp c23
                refine lv_iconst (v := nI 0) hx hb dX7_open_14 (by decide +kernel) ?_
                refine lv_istore_n (lv' := [(2, .int (nI 0)), (1, .int (nI 1)), (0, .ref (md 25))]) hx hb dX7_open_15 rfl hl (by decide) rfl (fun ls hl => ?_)
                have lp16 : ∀ (fu : Nat) (j : Nat), 32 - j < fu → (j ≤ 32) → ∀ (H : Heap) (locs : List Loc) (ls : Array Slot), WD g A s [(md 4, .inl (g.2.1 0, 2, .inl (szF (va_up epn 0 0)))), (md 0, .inl (g.2.1 0, 32, .inl (pf))), (md 25, .inr (7, [.ref (md 0), .int (nI 0), .ref (md 2), .ref (md 3), .ref (md 4), .ref (md 5), .ref (md 6), .ref (md 7), .ref (md 8), .ref (md 9), .ref (md 10), .ref (md 11), .int (nI on), .ref (md 13), .int (nI inn), .ref (md 15), .ref (md 16), .ref (md 17), .ref (md 18), .ref (md 19), .ref (md 20), .ref (md 21), .ref (md 22), .ref (md 23), .ref (md 24)])), (md 17, .inl (g.2.1 0, 400, .inl (r2_15))), (md 16, .inl (g.2.1 0, 64, .inl (w2_16))), (md 15, .inl (g.2.1 0, 8, .inl (s2_17))), (md 22, .inl (g.2.1 0, 64, .inl (kRW))), (md 18, .inl (g.2.1 0, 32, .inl (g2_18))), (md 19, .inl (g.2.1 0, 32, .inl (pzF k2_19 j))), (md 20, .inl (g.2.1 0, 32, .inl (o2_20))), (md 21, .inl (g.2.1 0, 160, .inl (cpF m2_21 pf j))), (md 2, .inl (g.2.1 0, 64, .inl (laid se (32 * 0) (keyD (hmv zro pf 32) 0 0) 32))), (md 3, .inl (g.2.1 0, 64, .inl (laid te (32 * 0) (keyD (hmv zro pf 32) 0 1) 32))), (md 5, .inl (g.2.1 1, 2, .inr (.inl (vp_updL nxf 0 0)))), (md 6, .inl (g.2.1 2, 2, .inl (upd smf 0 (nI 0))))] [] H locs → lv_has ls 3 [(2, .int (nI j)), (0, .ref (md 25)), (1, .int (nI 1))] → W p l e { frames := 5, cells := 0, slots := 0, locals := 122 } s m ar below meth c H locs 0 0 Q (F0 m 16 ls []) := by
                  intro fu
                  induction fu with
                  | zero => intro j hmz; exact absurd hmz (Nat.not_lt_zero _)
                  | succ fu ih =>
                    intro j hms hj H locs ls hw hl
                    refine lv_iload_n hx hb dX7_open_16 rfl (lv_at hl 0 rfl) ?_
                    refine lv_bipush (v := nI 32) hx hb dX7_open_17 (by decide +kernel) ?_
                    refine lv_icmp_ge (tgt := 47) hx hb dX7_open_19 (by decide) (fun c24 => ?_) (fun c24 => ?_)
                    · skip
                      have c24 : 32 ≤ j := (nI_leI (by omega) (by omega)).mp c24
                      have hq : j = 32 := by omega
                      have hwS25 := hw; have hlS26 := hl
                      subst j
                      have hw := hwS25; have hl := hlS26
                      have hw := hw.cong 8 rfl (f' := zro) (pzF_at _ 32)
                      have hw : WD g A s [(md 4, .inl (g.2.1 0, 2, .inl (szF (va_up epn 0 0)))), (md 0, .inl (g.2.1 0, 32, .inl (pf))), (md 25, .inr (7, [.ref (md 0), .int (nI 0), .ref (md 2), .ref (md 3), .ref (md 4), .ref (md 5), .ref (md 6), .ref (md 7), .ref (md 8), .ref (md 9), .ref (md 10), .ref (md 11), .int (nI on), .ref (md 13), .int (nI inn), .ref (md 15), .ref (md 16), .ref (md 17), .ref (md 18), .ref (md 19), .ref (md 20), .ref (md 21), .ref (md 22), .ref (md 23), .ref (md 24)])), (md 17, .inl (g.2.1 0, 400, .inl (r2_15))), (md 16, .inl (g.2.1 0, 64, .inl (w2_16))), (md 15, .inl (g.2.1 0, 8, .inl (s2_17))), (md 22, .inl (g.2.1 0, 64, .inl (kRW))), (md 18, .inl (g.2.1 0, 32, .inl (g2_18))), (md 19, .inl (g.2.1 0, 32, .inl (zro))), (md 20, .inl (g.2.1 0, 32, .inl (o2_20))), (md 21, .inl (g.2.1 0, 160, .inl (cpF m2_21 pf 32))), (md 2, .inl (g.2.1 0, 64, .inl (laid se (32 * 0) (keyD (hmv zro pf 32) 0 0) 32))), (md 3, .inl (g.2.1 0, 64, .inl (laid te (32 * 0) (keyD (hmv zro pf 32) 0 1) 32))), (md 5, .inl (g.2.1 1, 2, .inr (.inl (vp_updL nxf 0 0)))), (md 6, .inl (g.2.1 2, 2, .inl (upd smf 0 (nI 0))))] [] _ _ := hw
                      refine lv_aload_n hx hb dX7_open_47 rfl (lv_at hl 1 rfl) ?_
                      refine lv_bipush (v := nI 32) hx hb dX7_open_48 (by decide +kernel) ?_
                      refine r_callv (wr := [(md 4, .inl (g.2.1 0, 2, .inl (szF (va_up epn 0 0)))), (md 0, .inl (g.2.1 0, 32, .inl (pf))), (md 20, .inl (g.2.1 0, 32, .inl (o2_20))), (md 2, .inl (g.2.1 0, 64, .inl (laid se (32 * 0) (keyD (hmv zro pf 32) 0 0) 32))), (md 3, .inl (g.2.1 0, 64, .inl (laid te (32 * 0) (keyD (hmv zro pf 32) 0 1) 32))), (md 5, .inl (g.2.1 1, 2, .inr (.inl (vp_updL nxf 0 0)))), (md 6, .inl (g.2.1 2, 2, .inl (upd smf 0 (nI 0))))]) [2, 3, 4, 5, 6, 7, 8, 10] [0, 1, 9, 11, 12, 13, 14] h0 hw rfl rfl (by decide) (by decide) (va_runV (As := [.int (nI 32)]) (rest := []) ⟨hx, hb, hml, hown, hts⟩ (c_X7_hmac l g md 0 on inn r2_15 w2_16 s2_17 g2_18 zro (cpF m2_21 pf 32) 32 (by omega) _) (cwV 1 hts gX7_open_X7_hmac rfl rfl rfl (by decide +kernel) ⟨Nat.le_of_ble_eq_true rfl, Nat.le_of_ble_eq_true rfl⟩) (preV_of [2, 3, 4, 5, 6, 7, 8, 10] [.int (nI 32)] h0 hw rfl (by decide) 2 7 rfl rfl) rfl rfl hl.1 rfl (lv_room (Nat.le_of_ble_eq_true rfl)) dX7_open_50 ⟨Nat.le_of_ble_eq_true rfl, Nat.le_of_ble_eq_true rfl⟩) (fun u28 H locs hp29 hw => ?_)
                      obtain ⟨r2_30, w2_31, s2_32⟩ := u28
                      have hw : WD g A s [(md 4, .inl (g.2.1 0, 2, .inl (szF (va_up epn 0 0)))), (md 0, .inl (g.2.1 0, 32, .inl (pf))), (md 20, .inl (g.2.1 0, 32, .inl (o2_20))), (md 2, .inl (g.2.1 0, 64, .inl (laid se (32 * 0) (keyD (hmv zro pf 32) 0 0) 32))), (md 3, .inl (g.2.1 0, 64, .inl (laid te (32 * 0) (keyD (hmv zro pf 32) 0 1) 32))), (md 5, .inl (g.2.1 1, 2, .inr (.inl (vp_updL nxf 0 0)))), (md 6, .inl (g.2.1 2, 2, .inl (upd smf 0 (nI 0)))), (md 25, .inr (7, [.ref (md 0), .int (nI 0), .ref (md 2), .ref (md 3), .ref (md 4), .ref (md 5), .ref (md 6), .ref (md 7), .ref (md 8), .ref (md 9), .ref (md 10), .ref (md 11), .int (nI on), .ref (md 13), .int (nI inn), .ref (md 15), .ref (md 16), .ref (md 17), .ref (md 18), .ref (md 19), .ref (md 20), .ref (md 21), .ref (md 22), .ref (md 23), .ref (md 24)])), (md 17, .inl (g.2.1 0, 400, .inl (r2_30))), (md 16, .inl (g.2.1 0, 64, .inl (w2_31))), (md 15, .inl (g.2.1 0, 8, .inl (s2_32))), (md 22, .inl (g.2.1 0, 64, .inl (kRW))), (md 18, .inl (g.2.1 0, 32, .inl (hmv zro (cpF m2_21 pf 32) 32))), (md 19, .inl (g.2.1 0, 32, .inl (zro))), (md 21, .inl (g.2.1 0, 160, .inl (cpF m2_21 pf 32)))] [] H locs := hw
                      have hw := hw.cong 12 rfl (f' := hmv zro pf 32) (hmv_cong EqB.rf (cpF_at _ pf 32))
                      have hw : WD g A s [(md 4, .inl (g.2.1 0, 2, .inl (szF (va_up epn 0 0)))), (md 0, .inl (g.2.1 0, 32, .inl (pf))), (md 20, .inl (g.2.1 0, 32, .inl (o2_20))), (md 2, .inl (g.2.1 0, 64, .inl (laid se (32 * 0) (keyD (hmv zro pf 32) 0 0) 32))), (md 3, .inl (g.2.1 0, 64, .inl (laid te (32 * 0) (keyD (hmv zro pf 32) 0 1) 32))), (md 5, .inl (g.2.1 1, 2, .inr (.inl (vp_updL nxf 0 0)))), (md 6, .inl (g.2.1 2, 2, .inl (upd smf 0 (nI 0)))), (md 25, .inr (7, [.ref (md 0), .int (nI 0), .ref (md 2), .ref (md 3), .ref (md 4), .ref (md 5), .ref (md 6), .ref (md 7), .ref (md 8), .ref (md 9), .ref (md 10), .ref (md 11), .int (nI on), .ref (md 13), .int (nI inn), .ref (md 15), .ref (md 16), .ref (md 17), .ref (md 18), .ref (md 19), .ref (md 20), .ref (md 21), .ref (md 22), .ref (md 23), .ref (md 24)])), (md 17, .inl (g.2.1 0, 400, .inl (r2_30))), (md 16, .inl (g.2.1 0, 64, .inl (w2_31))), (md 15, .inl (g.2.1 0, 8, .inl (s2_32))), (md 22, .inl (g.2.1 0, 64, .inl (kRW))), (md 18, .inl (g.2.1 0, 32, .inl (hmv zro pf 32))), (md 19, .inl (g.2.1 0, 32, .inl (zro))), (md 21, .inl (g.2.1 0, 160, .inl (cpF m2_21 pf 32)))] [] _ _ := hw
                      refine lv_aload_n hx hb dX7_open_53 rfl (lv_at hl 1 rfl) ?_
                      refine lv_iload_n hx hb dX7_open_54 rfl (lv_at hl 2 rfl) ?_
                      refine r_callv (wr := [(md 4, .inl (g.2.1 0, 2, .inl (szF (va_up epn 0 0)))), (md 0, .inl (g.2.1 0, 32, .inl (pf)))]) [7, 8, 9, 10, 11, 12, 13, 2, 14, 3, 4, 5, 6] [0, 1] h0 hw rfl rfl (by decide) (by decide) (va_runV (As := [.int (nI 1)]) (rest := []) ⟨hx, hb, hml, hown, hts⟩ (c_X7_makeKeys l g md 0 on inn r2_30 w2_31 s2_32 (hmv zro pf 32) zro o2_20 (cpF m2_21 pf 32) (laid se (32 * 0) (keyD (hmv zro pf 32) 0 0) 32) (laid te (32 * 0) (keyD (hmv zro pf 32) 0 1) 32) (vp_updL nxf 0 0) (upd smf 0 (nI 0)) 1 (by omega) _) (cwV 1 hts gX7_open_X7_makeKeys rfl rfl rfl (by decide +kernel) ⟨Nat.le_of_ble_eq_true rfl, Nat.le_of_ble_eq_true rfl⟩) (preV_of [7, 8, 9, 10, 11, 12, 13, 2, 14, 3, 4, 5, 6] [.int (nI 1)] h0 hw rfl (by decide) 7 7 rfl rfl) rfl rfl hl.1 rfl (lv_room (Nat.le_of_ble_eq_true rfl)) dX7_open_55 ⟨Nat.le_of_ble_eq_true rfl, Nat.le_of_ble_eq_true rfl⟩) (fun u34 H locs hp35 hw => ?_)
                      obtain ⟨r2_36, w2_37, s2_38, g2_39, k2_40, o2_41, m2_42⟩ := u34
                      have hw : WD g A s [(md 4, .inl (g.2.1 0, 2, .inl (szF (va_up epn 0 0)))), (md 0, .inl (g.2.1 0, 32, .inl (pf))), (md 25, .inr (7, [.ref (md 0), .int (nI 0), .ref (md 2), .ref (md 3), .ref (md 4), .ref (md 5), .ref (md 6), .ref (md 7), .ref (md 8), .ref (md 9), .ref (md 10), .ref (md 11), .int (nI on), .ref (md 13), .int (nI inn), .ref (md 15), .ref (md 16), .ref (md 17), .ref (md 18), .ref (md 19), .ref (md 20), .ref (md 21), .ref (md 22), .ref (md 23), .ref (md 24)])), (md 17, .inl (g.2.1 0, 400, .inl (r2_36))), (md 16, .inl (g.2.1 0, 64, .inl (w2_37))), (md 15, .inl (g.2.1 0, 8, .inl (s2_38))), (md 22, .inl (g.2.1 0, 64, .inl (kRW))), (md 18, .inl (g.2.1 0, 32, .inl (g2_39))), (md 19, .inl (g.2.1 0, 32, .inl (k2_40))), (md 20, .inl (g.2.1 0, 32, .inl (o2_41))), (md 21, .inl (g.2.1 0, 160, .inl (m2_42))), (md 2, .inl (g.2.1 0, 64, .inl (laid (laid se (32 * 0) (keyD (hmv zro pf 32) 0 0) 32) (32 * 1) (keyD (hmv zro pf 32) 1 0) 32))), (md 3, .inl (g.2.1 0, 64, .inl (laid (laid te (32 * 0) (keyD (hmv zro pf 32) 0 1) 32) (32 * 1) (keyD (hmv zro pf 32) 1 1) 32))), (md 5, .inl (g.2.1 1, 2, .inr (.inl (vp_updL (vp_updL nxf 0 0) 1 0)))), (md 6, .inl (g.2.1 2, 2, .inl (upd (upd smf 0 (nI 0)) 1 (nI 0))))] [] H locs := hw
                      refine lv_aload_n hx hb dX7_open_58 rfl (lv_at hl 1 rfl) ?_
                      refine r_get (ci := 7) (v := .ref (md 4)) (C := RX7) (T := TX7) (N := 25) hx hb hts hinX7 hown h0 hw 2 rfl rfl 4 (by decide) k19 rfl dX7_open_59 ?_
                      refine lv_iload_n hx hb dX7_open_62 rfl (lv_at hl 2 rfl) ?_
                      refine lv_iconst (v := nI 0) hx hb dX7_open_63 (by decide +kernel) ?_
                      refine r_iast hx hb h0 hw 0 rfl (i := 1) (by omega) (by omega) dX7_open_64 (fun H locs hw => ?_)
                      have hw : WD g A s [(md 4, .inl (g.2.1 0, 2, .inl (upd (szF (va_up epn 0 0)) 1 (nI 0)))), (md 0, .inl (g.2.1 0, 32, .inl (pf))), (md 25, .inr (7, [.ref (md 0), .int (nI 0), .ref (md 2), .ref (md 3), .ref (md 4), .ref (md 5), .ref (md 6), .ref (md 7), .ref (md 8), .ref (md 9), .ref (md 10), .ref (md 11), .int (nI on), .ref (md 13), .int (nI inn), .ref (md 15), .ref (md 16), .ref (md 17), .ref (md 18), .ref (md 19), .ref (md 20), .ref (md 21), .ref (md 22), .ref (md 23), .ref (md 24)])), (md 17, .inl (g.2.1 0, 400, .inl (r2_36))), (md 16, .inl (g.2.1 0, 64, .inl (w2_37))), (md 15, .inl (g.2.1 0, 8, .inl (s2_38))), (md 22, .inl (g.2.1 0, 64, .inl (kRW))), (md 18, .inl (g.2.1 0, 32, .inl (g2_39))), (md 19, .inl (g.2.1 0, 32, .inl (k2_40))), (md 20, .inl (g.2.1 0, 32, .inl (o2_41))), (md 21, .inl (g.2.1 0, 160, .inl (m2_42))), (md 2, .inl (g.2.1 0, 64, .inl (laid (laid se (32 * 0) (keyD (hmv zro pf 32) 0 0) 32) (32 * 1) (keyD (hmv zro pf 32) 1 0) 32))), (md 3, .inl (g.2.1 0, 64, .inl (laid (laid te (32 * 0) (keyD (hmv zro pf 32) 0 1) 32) (32 * 1) (keyD (hmv zro pf 32) 1 1) 32))), (md 5, .inl (g.2.1 1, 2, .inr (.inl (vp_updL (vp_updL nxf 0 0) 1 0)))), (md 6, .inl (g.2.1 2, 2, .inl (upd (upd smf 0 (nI 0)) 1 (nI 0))))] [] H locs := hw
                      have hw : WD g A s [(md 4, .inl (g.2.1 0, 2, .inl (szF (va_up (va_up epn 0 0) 1 0)))), (md 0, .inl (g.2.1 0, 32, .inl (pf))), (md 25, .inr (7, [.ref (md 0), .int (nI 0), .ref (md 2), .ref (md 3), .ref (md 4), .ref (md 5), .ref (md 6), .ref (md 7), .ref (md 8), .ref (md 9), .ref (md 10), .ref (md 11), .int (nI on), .ref (md 13), .int (nI inn), .ref (md 15), .ref (md 16), .ref (md 17), .ref (md 18), .ref (md 19), .ref (md 20), .ref (md 21), .ref (md 22), .ref (md 23), .ref (md 24)])), (md 17, .inl (g.2.1 0, 400, .inl (r2_36))), (md 16, .inl (g.2.1 0, 64, .inl (w2_37))), (md 15, .inl (g.2.1 0, 8, .inl (s2_38))), (md 22, .inl (g.2.1 0, 64, .inl (kRW))), (md 18, .inl (g.2.1 0, 32, .inl (g2_39))), (md 19, .inl (g.2.1 0, 32, .inl (k2_40))), (md 20, .inl (g.2.1 0, 32, .inl (o2_41))), (md 21, .inl (g.2.1 0, 160, .inl (m2_42))), (md 2, .inl (g.2.1 0, 64, .inl (laid (laid se (32 * 0) (keyD (hmv zro pf 32) 0 0) 32) (32 * 1) (keyD (hmv zro pf 32) 1 0) 32))), (md 3, .inl (g.2.1 0, 64, .inl (laid (laid te (32 * 0) (keyD (hmv zro pf 32) 0 1) 32) (32 * 1) (keyD (hmv zro pf 32) 1 1) 32))), (md 5, .inl (g.2.1 1, 2, .inr (.inl (vp_updL (vp_updL nxf 0 0) 1 0)))), (md 6, .inl (g.2.1 2, 2, .inl (upd (upd smf 0 (nI 0)) 1 (nI 0))))] [] H locs := by rw [← szF_up]; exact hw
                      refine lv_iinc (v := nI 2) (lv' := [(1, .int (nI 2)), (2, .int (nI 32)), (0, .ref (md 25))]) hx hb dX7_open_65 hl (k := 2) rfl (nI_add 1 1) (by decide) rfl (fun ls hl => ?_)
                      refine lv_goto (tgt := 2) hx hb dX7_open_68 (by decide) ?_
                      refine lv_iload_n hx hb dX7_open_2 rfl (lv_at hl 0 rfl) ?_
                      refine lv_iconst (v := nI 2) hx hb dX7_open_3 (by decide +kernel) ?_
                      refine lv_icmp_ge (tgt := 71) hx hb dX7_open_4 (by decide) (fun c43 => ?_) (fun c43 => ?_)
                      · skip
                        have c43 : 2 ≤ 2 := (nI_leI (by omega) (by omega)).mp c43
                        refine lv_aload_n hx hb dX7_open_71 rfl (lv_at hl 2 rfl) ?_
                        refine lv_iconst (v := nI 1) hx hb dX7_open_72 (by decide +kernel) ?_
                        refine r_put (ci := 7) (v := .int (nI 1)) (C := RX7) (T := TX7) (N := 25) hx hb hts hinX7 tyX7 tyX7_ok nmX7 hown h0 hw 2 rfl rfl 1 (by decide) k145 rfl rfl rfl (Nat.le_of_ble_eq_true rfl) dX7_open_73 (fun H locs hw => ?_)
                        have hw : WD g A s [(md 4, .inl (g.2.1 0, 2, .inl (szF (va_up (va_up epn 0 0) 1 0)))), (md 0, .inl (g.2.1 0, 32, .inl (pf))), (md 25, .inr (7, [.ref (md 0), .int (nI 1), .ref (md 2), .ref (md 3), .ref (md 4), .ref (md 5), .ref (md 6), .ref (md 7), .ref (md 8), .ref (md 9), .ref (md 10), .ref (md 11), .int (nI on), .ref (md 13), .int (nI inn), .ref (md 15), .ref (md 16), .ref (md 17), .ref (md 18), .ref (md 19), .ref (md 20), .ref (md 21), .ref (md 22), .ref (md 23), .ref (md 24)])), (md 17, .inl (g.2.1 0, 400, .inl (r2_36))), (md 16, .inl (g.2.1 0, 64, .inl (w2_37))), (md 15, .inl (g.2.1 0, 8, .inl (s2_38))), (md 22, .inl (g.2.1 0, 64, .inl (kRW))), (md 18, .inl (g.2.1 0, 32, .inl (g2_39))), (md 19, .inl (g.2.1 0, 32, .inl (k2_40))), (md 20, .inl (g.2.1 0, 32, .inl (o2_41))), (md 21, .inl (g.2.1 0, 160, .inl (m2_42))), (md 2, .inl (g.2.1 0, 64, .inl (laid (laid se (32 * 0) (keyD (hmv zro pf 32) 0 0) 32) (32 * 1) (keyD (hmv zro pf 32) 1 0) 32))), (md 3, .inl (g.2.1 0, 64, .inl (laid (laid te (32 * 0) (keyD (hmv zro pf 32) 0 1) 32) (32 * 1) (keyD (hmv zro pf 32) 1 1) 32))), (md 5, .inl (g.2.1 1, 2, .inr (.inl (vp_updL (vp_updL nxf 0 0) 1 0)))), (md 6, .inl (g.2.1 2, 2, .inl (upd (upd smf 0 (nI 0)) 1 (nI 0))))] [] H locs := hw
                        exact hret (hw.perm (X' := [(md 25, .inr (7, [.ref (md 0), .int (nI 1), .ref (md 2), .ref (md 3), .ref (md 4), .ref (md 5), .ref (md 6), .ref (md 7), .ref (md 8), .ref (md 9), .ref (md 10), .ref (md 11), .int (nI on), .ref (md 13), .int (nI inn), .ref (md 15), .ref (md 16), .ref (md 17), .ref (md 18), .ref (md 19), .ref (md 20), .ref (md 21), .ref (md 22), .ref (md 23), .ref (md 24)])), (md 17, .inl (g.2.1 0, 400, .inl (r2_36))), (md 16, .inl (g.2.1 0, 64, .inl (w2_37))), (md 15, .inl (g.2.1 0, 8, .inl (s2_38))), (md 22, .inl (g.2.1 0, 64, .inl (kRW))), (md 18, .inl (g.2.1 0, 32, .inl (g2_39))), (md 19, .inl (g.2.1 0, 32, .inl (k2_40))), (md 20, .inl (g.2.1 0, 32, .inl (o2_41))), (md 21, .inl (g.2.1 0, 160, .inl (m2_42))), (md 2, .inl (g.2.1 0, 64, .inl (laid (laid se (32 * 0) (keyD (hmv zro pf 32) 0 0) 32) (32 * 1) (keyD (hmv zro pf 32) 1 0) 32))), (md 3, .inl (g.2.1 0, 64, .inl (laid (laid te (32 * 0) (keyD (hmv zro pf 32) 0 1) 32) (32 * 1) (keyD (hmv zro pf 32) 1 1) 32))), (md 5, .inl (g.2.1 1, 2, .inr (.inl (vp_updL (vp_updL nxf 0 0) 1 0)))), (md 6, .inl (g.2.1 2, 2, .inl (upd (upd smf 0 (nI 0)) 1 (nI 0)))), (md 4, .inl (g.2.1 0, 2, .inl (szF (va_up (va_up epn 0 0) 1 0)))), (md 0, .inl (g.2.1 0, 32, .inl (pf)))]) [2, 3, 4, 5, 6, 7, 8, 9, 10, 11, 12, 13, 14, 0, 1] (by decide) rfl) (r2_36, w2_37, s2_38, g2_39, k2_40, o2_41, m2_42) (trivial) (rfl) (by omega) (by omega) dX7_open_76
                      · skip
                        have c43 : ¬ 2 ≤ 2 := fun q => c43 (((nI_leI (by omega) (by omega)).mpr q))
                        exfalso; omega
                    · skip
                      have c24 : ¬ 32 ≤ j := fun q => c24 (((nI_leI (by omega) (by omega)).mpr q))
                      refine lv_aload_n hx hb dX7_open_22 rfl (lv_at hl 1 rfl) ?_
                      refine r_get (ci := 7) (v := .ref (md 19)) (C := RX7) (T := TX7) (N := 25) hx hb hts hinX7 hown h0 hw 2 rfl rfl 19 (by decide) k60 rfl dX7_open_23 ?_
                      refine lv_iload_n hx hb dX7_open_26 rfl (lv_at hl 0 rfl) ?_
                      refine lv_iconst (v := nI 0) hx hb dX7_open_27 (by decide +kernel) ?_
                      refine r_iast hx hb h0 hw 8 rfl (i := j) (by omega) (by omega) dX7_open_28 (fun H locs hw => ?_)
                      have hw : WD g A s [(md 4, .inl (g.2.1 0, 2, .inl (szF (va_up epn 0 0)))), (md 0, .inl (g.2.1 0, 32, .inl (pf))), (md 25, .inr (7, [.ref (md 0), .int (nI 0), .ref (md 2), .ref (md 3), .ref (md 4), .ref (md 5), .ref (md 6), .ref (md 7), .ref (md 8), .ref (md 9), .ref (md 10), .ref (md 11), .int (nI on), .ref (md 13), .int (nI inn), .ref (md 15), .ref (md 16), .ref (md 17), .ref (md 18), .ref (md 19), .ref (md 20), .ref (md 21), .ref (md 22), .ref (md 23), .ref (md 24)])), (md 17, .inl (g.2.1 0, 400, .inl (r2_15))), (md 16, .inl (g.2.1 0, 64, .inl (w2_16))), (md 15, .inl (g.2.1 0, 8, .inl (s2_17))), (md 22, .inl (g.2.1 0, 64, .inl (kRW))), (md 18, .inl (g.2.1 0, 32, .inl (g2_18))), (md 19, .inl (g.2.1 0, 32, .inl (upd (pzF k2_19 j) j (nI 0)))), (md 20, .inl (g.2.1 0, 32, .inl (o2_20))), (md 21, .inl (g.2.1 0, 160, .inl (cpF m2_21 pf j))), (md 2, .inl (g.2.1 0, 64, .inl (laid se (32 * 0) (keyD (hmv zro pf 32) 0 0) 32))), (md 3, .inl (g.2.1 0, 64, .inl (laid te (32 * 0) (keyD (hmv zro pf 32) 0 1) 32))), (md 5, .inl (g.2.1 1, 2, .inr (.inl (vp_updL nxf 0 0)))), (md 6, .inl (g.2.1 2, 2, .inl (upd smf 0 (nI 0))))] [] H locs := hw
                      refine lv_aload_n hx hb dX7_open_29 rfl (lv_at hl 1 rfl) ?_
                      refine r_get (ci := 7) (v := .ref (md 21)) (C := RX7) (T := TX7) (N := 25) hx hb hts hinX7 hown h0 hw 2 rfl rfl 21 (by decide) k66 rfl dX7_open_30 ?_
                      refine lv_iload_n hx hb dX7_open_33 rfl (lv_at hl 0 rfl) ?_
                      refine lv_aload_n hx hb dX7_open_34 rfl (lv_at hl 1 rfl) ?_
                      refine r_get (ci := 7) (v := .ref (md 0)) (C := RX7) (T := TX7) (N := 25) hx hb hts hinX7 hown h0 hw 2 rfl rfl 0 (by decide) k7 rfl dX7_open_35 ?_
                      refine lv_iload_n hx hb dX7_open_38 rfl (lv_at hl 0 rfl) ?_
                      refine r_iald hx hb h0 hw 1 rfl (i := j) (by omega) (by omega) dX7_open_39 ?_
                      refine r_iast hx hb h0 hw 10 rfl (i := j) (by omega) (by omega) dX7_open_40 (fun H locs hw => ?_)
                      have hw : WD g A s [(md 4, .inl (g.2.1 0, 2, .inl (szF (va_up epn 0 0)))), (md 0, .inl (g.2.1 0, 32, .inl (pf))), (md 25, .inr (7, [.ref (md 0), .int (nI 0), .ref (md 2), .ref (md 3), .ref (md 4), .ref (md 5), .ref (md 6), .ref (md 7), .ref (md 8), .ref (md 9), .ref (md 10), .ref (md 11), .int (nI on), .ref (md 13), .int (nI inn), .ref (md 15), .ref (md 16), .ref (md 17), .ref (md 18), .ref (md 19), .ref (md 20), .ref (md 21), .ref (md 22), .ref (md 23), .ref (md 24)])), (md 17, .inl (g.2.1 0, 400, .inl (r2_15))), (md 16, .inl (g.2.1 0, 64, .inl (w2_16))), (md 15, .inl (g.2.1 0, 8, .inl (s2_17))), (md 22, .inl (g.2.1 0, 64, .inl (kRW))), (md 18, .inl (g.2.1 0, 32, .inl (g2_18))), (md 19, .inl (g.2.1 0, 32, .inl (upd (pzF k2_19 j) j (nI 0)))), (md 20, .inl (g.2.1 0, 32, .inl (o2_20))), (md 21, .inl (g.2.1 0, 160, .inl (upd (cpF m2_21 pf j) j (pf j)))), (md 2, .inl (g.2.1 0, 64, .inl (laid se (32 * 0) (keyD (hmv zro pf 32) 0 0) 32))), (md 3, .inl (g.2.1 0, 64, .inl (laid te (32 * 0) (keyD (hmv zro pf 32) 0 1) 32))), (md 5, .inl (g.2.1 1, 2, .inr (.inl (vp_updL nxf 0 0)))), (md 6, .inl (g.2.1 2, 2, .inl (upd smf 0 (nI 0))))] [] H locs := hw
                      refine lv_iinc (v := nI (j + 1)) (lv' := [(2, .int (nI (j + 1))), (0, .ref (md 25)), (1, .int (nI 1))]) hx hb dX7_open_41 hl (k := 0) rfl (nI_add j 1) (by decide) rfl (fun ls hl => ?_)
                      refine lv_goto (tgt := 16) hx hb dX7_open_44 (by decide) ?_
                      exact ih (j + 1) (by omega) (by omega) _ _ _ hw (lv_sub hl [0, 1, 2] rfl)
                exact lp16 (32 - 0 + 1) 0 (by omega) (by omega) _ _ _ hw (lv_sub hl [0, 2, 1] rfl)
          · skip
            have c3 : ¬ 32 ≤ j := fun q => c3 (((nI_leI (by omega) (by omega)).mpr q))
            refine lv_aload_n hx hb dX7_open_22 rfl (lv_at hl 1 rfl) ?_
            refine r_get (ci := 7) (v := .ref (md 19)) (C := RX7) (T := TX7) (N := 25) hx hb hts hinX7 hown h0 hw 0 rfl rfl 19 (by decide) k60 rfl dX7_open_23 ?_
            refine lv_iload_n hx hb dX7_open_26 rfl (lv_at hl 0 rfl) ?_
            refine lv_iconst (v := nI 0) hx hb dX7_open_27 (by decide +kernel) ?_
            refine r_iast hx hb h0 hw 6 rfl (i := j) (by omega) (by omega) dX7_open_28 (fun H locs hw => ?_)
            have hw : WD g A s [(md 25, .inr (7, [.ref (md 0), .int (nI 0), .ref (md 2), .ref (md 3), .ref (md 4), .ref (md 5), .ref (md 6), .ref (md 7), .ref (md 8), .ref (md 9), .ref (md 10), .ref (md 11), .int (nI on), .ref (md 13), .int (nI inn), .ref (md 15), .ref (md 16), .ref (md 17), .ref (md 18), .ref (md 19), .ref (md 20), .ref (md 21), .ref (md 22), .ref (md 23), .ref (md 24)])), (md 17, .inl (g.2.1 0, 400, .inl (rf))), (md 16, .inl (g.2.1 0, 64, .inl (wf))), (md 15, .inl (g.2.1 0, 8, .inl (sf))), (md 22, .inl (g.2.1 0, 64, .inl (kRW))), (md 18, .inl (g.2.1 0, 32, .inl (dg))), (md 19, .inl (g.2.1 0, 32, .inl (upd (pzF kf j) j (nI 0)))), (md 20, .inl (g.2.1 0, 32, .inl (otf))), (md 21, .inl (g.2.1 0, 160, .inl (cpF mf pf j))), (md 2, .inl (g.2.1 0, 64, .inl (se))), (md 3, .inl (g.2.1 0, 64, .inl (te))), (md 5, .inl (g.2.1 1, 2, .inr (.inl (nxf)))), (md 6, .inl (g.2.1 2, 2, .inl (smf))), (md 4, .inl (g.2.1 0, 2, .inl (szF epn))), (md 0, .inl (g.2.1 0, 32, .inl (pf)))] [] H locs := hw
            refine lv_aload_n hx hb dX7_open_29 rfl (lv_at hl 1 rfl) ?_
            refine r_get (ci := 7) (v := .ref (md 21)) (C := RX7) (T := TX7) (N := 25) hx hb hts hinX7 hown h0 hw 0 rfl rfl 21 (by decide) k66 rfl dX7_open_30 ?_
            refine lv_iload_n hx hb dX7_open_33 rfl (lv_at hl 0 rfl) ?_
            refine lv_aload_n hx hb dX7_open_34 rfl (lv_at hl 1 rfl) ?_
            refine r_get (ci := 7) (v := .ref (md 0)) (C := RX7) (T := TX7) (N := 25) hx hb hts hinX7 hown h0 hw 0 rfl rfl 0 (by decide) k7 rfl dX7_open_35 ?_
            refine lv_iload_n hx hb dX7_open_38 rfl (lv_at hl 0 rfl) ?_
            refine r_iald hx hb h0 hw 14 rfl (i := j) (by omega) (by omega) dX7_open_39 ?_
            refine r_iast hx hb h0 hw 8 rfl (i := j) (by omega) (by omega) dX7_open_40 (fun H locs hw => ?_)
            have hw : WD g A s [(md 25, .inr (7, [.ref (md 0), .int (nI 0), .ref (md 2), .ref (md 3), .ref (md 4), .ref (md 5), .ref (md 6), .ref (md 7), .ref (md 8), .ref (md 9), .ref (md 10), .ref (md 11), .int (nI on), .ref (md 13), .int (nI inn), .ref (md 15), .ref (md 16), .ref (md 17), .ref (md 18), .ref (md 19), .ref (md 20), .ref (md 21), .ref (md 22), .ref (md 23), .ref (md 24)])), (md 17, .inl (g.2.1 0, 400, .inl (rf))), (md 16, .inl (g.2.1 0, 64, .inl (wf))), (md 15, .inl (g.2.1 0, 8, .inl (sf))), (md 22, .inl (g.2.1 0, 64, .inl (kRW))), (md 18, .inl (g.2.1 0, 32, .inl (dg))), (md 19, .inl (g.2.1 0, 32, .inl (upd (pzF kf j) j (nI 0)))), (md 20, .inl (g.2.1 0, 32, .inl (otf))), (md 21, .inl (g.2.1 0, 160, .inl (upd (cpF mf pf j) j (pf j)))), (md 2, .inl (g.2.1 0, 64, .inl (se))), (md 3, .inl (g.2.1 0, 64, .inl (te))), (md 5, .inl (g.2.1 1, 2, .inr (.inl (nxf)))), (md 6, .inl (g.2.1 2, 2, .inl (smf))), (md 4, .inl (g.2.1 0, 2, .inl (szF epn))), (md 0, .inl (g.2.1 0, 32, .inl (pf)))] [] H locs := hw
            refine lv_iinc (v := nI (j + 1)) (lv' := [(2, .int (nI (j + 1))), (0, .ref (md 25)), (1, .int (nI 0))]) hx hb dX7_open_41 hl (k := 0) rfl (nI_add j 1) (by decide) rfl (fun ls hl => ?_)
            refine lv_goto (tgt := 16) hx hb dX7_open_44 (by decide) ?_
            exact ih (j + 1) (by omega) (by omega) _ _ _ hw (lv_sub hl [0, 1, 2] rfl)
      exact lp16 (32 - 0 + 1) 0 (by omega) (by omega) _ _ _ hw (lv_sub hl [0, 2, 1] rfl)

set_option maxHeartbeats 4000000 in
set_option maxRecDepth 100000 in
theorem c_X7_open_again (l : Launch) (g : GE) (md : Nat → Nat) (on : Nat) (inn : Nat) (sz : Nat) : MV l yX7_open wsX7_open { frames := 5, cells := 0, slots := 0, locals := 122 } g [.ref (md 25)] [(md 25, .inr (7, [.ref (md 0), .int (nI 1), .ref (md 2), .ref (md 3), .ref (md 4), .ref (md 5), .ref (md 6), .ref (md 7), .ref (md 8), .ref (md 9), .ref (md 10), .ref (md 11), .int (nI on), .ref (md 13), .int (nI inn), .ref (md 15), .ref (md 16), .ref (md 17), .ref (md 18), .ref (md 19), .ref (md 20), .ref (md 21), .ref (md 22), .ref (md 23), .ref (md 24)]))] sz (fun (_ : Unit) => True) (fun (_ : Unit) => [(md 25, .inr (7, [.ref (md 0), .int (nI 1), .ref (md 2), .ref (md 3), .ref (md 4), .ref (md 5), .ref (md 6), .ref (md 7), .ref (md 8), .ref (md 9), .ref (md 10), .ref (md 11), .int (nI on), .ref (md 13), .int (nI inn), .ref (md 15), .ref (md 16), .ref (md 17), .ref (md 18), .ref (md 19), .ref (md 20), .ref (md 21), .ref (md 22), .ref (md 23), .ref (md 24)]))]) 0 0 := by
  refine enterV (by decide) rfl (Nat.le_of_ble_eq_true rfl) ?_
  intro p e s m below meth c A ls ar Q hE h0 hret hw hl
  obtain ⟨hx, hb, hr, hml, hown, hts, hlocks, hname⟩ := hE
  have hown : s.vm.findClass RX7 = some m.cls := hown
  have hw : WD g A s [(md 25, .inr (7, [.ref (md 0), .int (nI 1), .ref (md 2), .ref (md 3), .ref (md 4), .ref (md 5), .ref (md 6), .ref (md 7), .ref (md 8), .ref (md 9), .ref (md 10), .ref (md 11), .int (nI on), .ref (md 13), .int (nI inn), .ref (md 15), .ref (md 16), .ref (md 17), .ref (md 18), .ref (md 19), .ref (md 20), .ref (md 21), .ref (md 22), .ref (md 23), .ref (md 24)]))] [] s.heap [] := hw
  have hinX7 : ∀ w ∈ u_ws RX7 TX7 25, w ∈ wsX7_open := by decide +kernel
  have k7 := hts (.fieldLink RX7 7 "RecordWireModel" "psk" "[I") (by decide +kernel)
  have k19 := hts (.fieldLink RX7 19 "RecordWireModel" "epochs" "[I") (by decide +kernel)
  have k60 := hts (.fieldLink RX7 60 "RecordWireModel" "key" "[I") (by decide +kernel)
  have k66 := hts (.fieldLink RX7 66 "RecordWireModel" "message" "[I") (by decide +kernel)
  have k145 := hts (.fieldLink RX7 145 "RecordWireModel" "isOpen" "Z") (by decide +kernel)
  have hl : lv_has ls 3 [(0, .ref (md 25))] := hl
  refine lv_iconst (v := nI 0) hx hb dX7_open_0 (by decide +kernel) ?_
  refine lv_istore_n (lv' := [(1, .int (nI 0)), (0, .ref (md 25))]) hx hb dX7_open_1 rfl hl (by decide) rfl (fun ls hl => ?_)
  refine lv_iload_n hx hb dX7_open_2 rfl (lv_at hl 0 rfl) ?_
  refine lv_iconst (v := nI 2) hx hb dX7_open_3 (by decide +kernel) ?_
  refine lv_icmp_ge (tgt := 71) hx hb dX7_open_4 (by decide) (fun c1 => ?_) (fun c1 => ?_)
  · skip
    have c1 : 2 ≤ 0 := (nI_leI (by omega) (by omega)).mp c1
    exfalso; omega
  · skip
    have c1 : ¬ 2 ≤ 0 := fun q => c1 (((nI_leI (by omega) (by omega)).mpr q))
    refine lv_aload_n hx hb dX7_open_7 rfl (lv_at hl 1 rfl) ?_
    refine r_get (ci := 7) (v := .int (nI 1)) (C := RX7) (T := TX7) (N := 25) hx hb hts hinX7 hown h0 hw 0 rfl rfl 1 (by decide) k145 rfl dX7_open_8 ?_
    refine lv_if_ne (tgt := 71) hx hb dX7_open_11 (by decide) (fun c2 => ?_) (fun c2 => ?_)
    · skip
      rw [← nI_0] at c2
      have c2 : ¬ 1 = 0 := fun q => c2 (((nI_eq (by omega) (by omega)).mpr q))
      refine lv_aload_n hx hb dX7_open_71 rfl (lv_at hl 1 rfl) ?_
      refine lv_iconst (v := nI 1) hx hb dX7_open_72 (by decide +kernel) ?_
      refine r_put (ci := 7) (v := .int (nI 1)) (C := RX7) (T := TX7) (N := 25) hx hb hts hinX7 tyX7 tyX7_ok nmX7 hown h0 hw 0 rfl rfl 1 (by decide) k145 rfl rfl rfl (Nat.le_of_ble_eq_true rfl) dX7_open_73 (fun H locs hw => ?_)
      have hw : WD g A s [(md 25, .inr (7, [.ref (md 0), .int (nI 1), .ref (md 2), .ref (md 3), .ref (md 4), .ref (md 5), .ref (md 6), .ref (md 7), .ref (md 8), .ref (md 9), .ref (md 10), .ref (md 11), .int (nI on), .ref (md 13), .int (nI inn), .ref (md 15), .ref (md 16), .ref (md 17), .ref (md 18), .ref (md 19), .ref (md 20), .ref (md 21), .ref (md 22), .ref (md 23), .ref (md 24)]))] [] H locs := hw
      exact hret hw () (trivial) (rfl) (by omega) (by omega) dX7_open_76
    · skip
      rw [← nI_0] at c2
      have c2 : 1 = 0 := (nI_eq (by omega) (by omega)).mp c2
      exfalso; omega

set_option maxHeartbeats 4000000 in
set_option maxRecDepth 100000 in
theorem c_X7_count_0 (l : Launch) (g : GE) (md : Nat → Nat) (op : Nat) (on : Nat) (inn : Nat) (z : Nat → Nat) (hz : ∀ j, j < 8 → z j ≤ 127) (sz : Nat) : MI l yX7_count wsX7_count { frames := 0, cells := 0, slots := 0, locals := 0 } g [.ref (md 25), .int (nI 0)] [(md 25, .inr (7, [.ref (md 0), .int (nI op), .ref (md 2), .ref (md 3), .ref (md 4), .ref (md 5), .ref (md 6), .ref (md 7), .ref (md 8), .ref (md 9), .ref (md 10), .ref (md 11), .int (nI on), .ref (md 13), .int (nI inn), .ref (md 15), .ref (md 16), .ref (md 17), .ref (md 18), .ref (md 19), .ref (md 20), .ref (md 21), .ref (md 22), .ref (md 23), .ref (md 24)])), (md 10, .inl (g.2.1 0, 8, .inl (szF z)))] sz (fun (r : Int32) (_ : Unit) => r = nI (cntF z 8)) (fun (_ : Unit) => [(md 25, .inr (7, [.ref (md 0), .int (nI op), .ref (md 2), .ref (md 3), .ref (md 4), .ref (md 5), .ref (md 6), .ref (md 7), .ref (md 8), .ref (md 9), .ref (md 10), .ref (md 11), .int (nI on), .ref (md 13), .int (nI inn), .ref (md 15), .ref (md 16), .ref (md 17), .ref (md 18), .ref (md 19), .ref (md 20), .ref (md 21), .ref (md 22), .ref (md 23), .ref (md 24)])), (md 10, .inl (g.2.1 0, 8, .inl (szF z)))]) 0 0 := by
  refine enterI (by decide) rfl (Nat.le_of_ble_eq_true rfl) ?_
  intro p e s m below meth c A ls ar Q hE h0 hret hw hl
  obtain ⟨hx, hb, hr, hml, hown, hts, hlocks, hname⟩ := hE
  have hown : s.vm.findClass RX7 = some m.cls := hown
  have hw : WD g A s [(md 25, .inr (7, [.ref (md 0), .int (nI op), .ref (md 2), .ref (md 3), .ref (md 4), .ref (md 5), .ref (md 6), .ref (md 7), .ref (md 8), .ref (md 9), .ref (md 10), .ref (md 11), .int (nI on), .ref (md 13), .int (nI inn), .ref (md 15), .ref (md 16), .ref (md 17), .ref (md 18), .ref (md 19), .ref (md 20), .ref (md 21), .ref (md 22), .ref (md 23), .ref (md 24)])), (md 10, .inl (g.2.1 0, 8, .inl (szF z)))] [] s.heap [] := hw
  have hinX7 : ∀ w ∈ u_ws RX7 TX7 25, w ∈ wsX7_count := by decide +kernel
  have k19 := hts (.fieldLink RX7 19 "RecordWireModel" "epochs" "[I") (by decide +kernel)
  have k26 := hts (.fieldLink RX7 26 "RecordWireModel" "some" "[Z") (by decide +kernel)
  have k33 := hts (.fieldLink RX7 33 "RecordWireModel" "seen" "[Z") (by decide +kernel)
  have k39 := hts (.fieldLink RX7 39 "RecordWireModel" "sizes" "[I") (by decide +kernel)
  have k145 := hts (.fieldLink RX7 145 "RecordWireModel" "isOpen" "Z") (by decide +kernel)
  have k149 := hts (.fieldLink RX7 149 "RecordWireModel" "outSize" "I") (by decide +kernel)
  have hl : lv_has ls 4 [(0, .ref (md 25)), (1, .int (nI 0))] := hl
  refine lv_iconst (v := nI 0) hx hb dX7_count_0 (by decide +kernel) ?_
  refine lv_istore_n (lv' := [(2, .int (nI 0)), (0, .ref (md 25)), (1, .int (nI 0))]) hx hb dX7_count_1 rfl hl (by decide) rfl (fun ls hl => ?_)
  refine lv_iload_n hx hb dX7_count_2 rfl (lv_at hl 2 rfl) ?_
  refine lv_if_ne (tgt := 39) hx hb dX7_count_3 (by decide) (fun c1 => ?_) (fun c1 => ?_)
  · skip
    rw [← nI_0] at c1
    have c1 : ¬ 0 = 0 := fun q => c1 (((nI_eq (by omega) (by omega)).mpr q))
    exfalso; omega
  · skip
    rw [← nI_0] at c1
    have c1 : 0 = 0 := (nI_eq (by omega) (by omega)).mp c1
    refine lv_iconst (v := nI 0) hx hb dX7_count_6 (by decide +kernel) ?_
    refine lv_istore_n (lv' := [(3, .int (nI 0)), (2, .int (nI 0)), (0, .ref (md 25)), (1, .int (nI 0))]) hx hb dX7_count_7 rfl hl (by decide) rfl (fun ls hl => ?_)
    have lp8 : ∀ (fu : Nat) (j : Nat) (q : Nat), 8 - j < fu → (j ≤ 8) → (q = cntF z j) → ∀ (H : Heap) (locs : List Loc) (ls : Array Slot), WD g A s [(md 25, .inr (7, [.ref (md 0), .int (nI op), .ref (md 2), .ref (md 3), .ref (md 4), .ref (md 5), .ref (md 6), .ref (md 7), .ref (md 8), .ref (md 9), .ref (md 10), .ref (md 11), .int (nI on), .ref (md 13), .int (nI inn), .ref (md 15), .ref (md 16), .ref (md 17), .ref (md 18), .ref (md 19), .ref (md 20), .ref (md 21), .ref (md 22), .ref (md 23), .ref (md 24)])), (md 10, .inl (g.2.1 0, 8, .inl (szF z)))] [] H locs → lv_has ls 4 [(3, .int (nI j)), (2, .int (nI q)), (0, .ref (md 25))] → W p l e { frames := 0, cells := 0, slots := 0, locals := 0 } s m ar below meth c H locs 0 0 Q (F0 m 8 ls []) := by
      intro fu
      induction fu with
      | zero => intro j q hmz; exact absurd hmz (Nat.not_lt_zero _)
      | succ fu ih =>
        intro j q hms hj hq H locs ls hw hl
        have hq9 := cntF_le z j
        refine lv_iload_n hx hb dX7_count_8 rfl (lv_at hl 0 rfl) ?_
        refine lv_bipush (v := nI 8) hx hb dX7_count_9 (by decide +kernel) ?_
        refine lv_icmp_ge (tgt := 37) hx hb dX7_count_11 (by decide) (fun c2 => ?_) (fun c2 => ?_)
        · skip
          have c2 : 8 ≤ j := (nI_leI (by omega) (by omega)).mp c2
          have hj8 : j = 8 := by omega
          have hwS3 := hw; have hlS4 := hl
          subst j
          have hw := hwS3; have hl := hlS4
          refine lv_iload_n hx hb dX7_count_37 rfl (lv_at hl 1 rfl) ?_
          exact hret hw () (by rw [hq]) (rfl) (by omega) (by omega) dX7_count_38
        · skip
          have c2 : ¬ 8 ≤ j := fun q => c2 (((nI_leI (by omega) (by omega)).mpr q))
          refine lv_aload_n hx hb dX7_count_14 rfl (lv_at hl 2 rfl) ?_
          refine r_get (ci := 7) (v := .ref (md 10)) (C := RX7) (T := TX7) (N := 25) hx hb hts hinX7 hown h0 hw 0 rfl rfl 10 (by decide) k39 rfl dX7_count_15 ?_
          refine lv_iload_n hx hb dX7_count_18 rfl (lv_at hl 0 rfl) ?_
          refine r_iald hx hb h0 hw 1 rfl (i := j) (by omega) (by omega) dX7_count_19 ?_
          have hzj := hz j (by omega)
          refine r_te (y := nI (z j)) rfl ?_
          refine lv_if_le (tgt := 29) hx hb dX7_count_20 (by decide) (fun c5 => ?_) (fun c5 => ?_)
          · skip
            rw [← nI_0] at c5
            have c5 : (z j) ≤ 0 := (nI_leI (by omega) (by omega)).mp c5
            refine lv_iload_n hx hb dX7_count_29 rfl (lv_at hl 1 rfl) ?_
            refine lv_istore_n (lv' := [(2, .int (nI q)), (3, .int (nI j)), (0, .ref (md 25))]) hx hb dX7_count_30 rfl hl (by decide) rfl (fun ls hl => ?_)
            refine lv_iinc (v := nI (j + 1)) (lv' := [(3, .int (nI (j + 1))), (2, .int (nI q)), (0, .ref (md 25))]) hx hb dX7_count_31 hl (k := 1) rfl (nI_add j 1) (by decide) rfl (fun ls hl => ?_)
            refine lv_goto (tgt := 8) hx hb dX7_count_34 (by decide) ?_
            exact ih (j + 1) q (by omega) (by omega) (by rw [hq]; show _ = (if z j = 0 then _ else _); first | rw [if_pos (by omega)] | rw [if_neg (by omega)]) _ _ _ hw (lv_sub hl [0, 1, 2] rfl)
          · skip
            rw [← nI_0] at c5
            have c5 : ¬ (z j) ≤ 0 := fun q => c5 (((nI_leI (by omega) (by omega)).mpr q))
            refine lv_iload_n hx hb dX7_count_23 rfl (lv_at hl 1 rfl) ?_
            refine lv_iconst (v := nI 1) hx hb dX7_count_24 (by decide +kernel) ?_
            refine lv_iadd hx hb dX7_count_25 ?_
            refine r_te (y := nI (q + 1)) (nI_add q 1) ?_
            refine lv_goto (tgt := 30) hx hb dX7_count_26 (by decide) ?_
            refine lv_istore_n (lv' := [(2, .int (nI (q + 1))), (3, .int (nI j)), (0, .ref (md 25))]) hx hb dX7_count_30 rfl hl (by decide) rfl (fun ls hl => ?_)
            refine lv_iinc (v := nI (j + 1)) (lv' := [(3, .int (nI (j + 1))), (2, .int (nI (q + 1))), (0, .ref (md 25))]) hx hb dX7_count_31 hl (k := 1) rfl (nI_add j 1) (by decide) rfl (fun ls hl => ?_)
            refine lv_goto (tgt := 8) hx hb dX7_count_34 (by decide) ?_
            exact ih (j + 1) (q + 1) (by omega) (by omega) (by rw [hq]; show _ = (if z j = 0 then _ else _); first | rw [if_pos (by omega)] | rw [if_neg (by omega)]) _ _ _ hw (lv_sub hl [0, 1, 2] rfl)
    exact lp8 (8 - 0 + 1) 0 0 (by omega) (by omega) (rfl) _ _ _ hw (lv_sub hl [0, 1, 2] rfl)

set_option maxHeartbeats 4000000 in
set_option maxRecDepth 100000 in
theorem c_X7_count_1 (l : Launch) (g : GE) (md : Nat → Nat) (op : Nat) (on : Nat) (inn : Nat) (sz : Nat) : MI l yX7_count wsX7_count { frames := 0, cells := 0, slots := 0, locals := 0 } g [.ref (md 25), .int (nI 1)] [(md 25, .inr (7, [.ref (md 0), .int (nI op), .ref (md 2), .ref (md 3), .ref (md 4), .ref (md 5), .ref (md 6), .ref (md 7), .ref (md 8), .ref (md 9), .ref (md 10), .ref (md 11), .int (nI on), .ref (md 13), .int (nI inn), .ref (md 15), .ref (md 16), .ref (md 17), .ref (md 18), .ref (md 19), .ref (md 20), .ref (md 21), .ref (md 22), .ref (md 23), .ref (md 24)]))] sz (fun (r : Int32) (_ : Unit) => r = nI on) (fun (_ : Unit) => [(md 25, .inr (7, [.ref (md 0), .int (nI op), .ref (md 2), .ref (md 3), .ref (md 4), .ref (md 5), .ref (md 6), .ref (md 7), .ref (md 8), .ref (md 9), .ref (md 10), .ref (md 11), .int (nI on), .ref (md 13), .int (nI inn), .ref (md 15), .ref (md 16), .ref (md 17), .ref (md 18), .ref (md 19), .ref (md 20), .ref (md 21), .ref (md 22), .ref (md 23), .ref (md 24)]))]) 0 0 := by
  refine enterI (by decide) rfl (Nat.le_of_ble_eq_true rfl) ?_
  intro p e s m below meth c A ls ar Q hE h0 hret hw hl
  obtain ⟨hx, hb, hr, hml, hown, hts, hlocks, hname⟩ := hE
  have hown : s.vm.findClass RX7 = some m.cls := hown
  have hw : WD g A s [(md 25, .inr (7, [.ref (md 0), .int (nI op), .ref (md 2), .ref (md 3), .ref (md 4), .ref (md 5), .ref (md 6), .ref (md 7), .ref (md 8), .ref (md 9), .ref (md 10), .ref (md 11), .int (nI on), .ref (md 13), .int (nI inn), .ref (md 15), .ref (md 16), .ref (md 17), .ref (md 18), .ref (md 19), .ref (md 20), .ref (md 21), .ref (md 22), .ref (md 23), .ref (md 24)]))] [] s.heap [] := hw
  have hinX7 : ∀ w ∈ u_ws RX7 TX7 25, w ∈ wsX7_count := by decide +kernel
  have k19 := hts (.fieldLink RX7 19 "RecordWireModel" "epochs" "[I") (by decide +kernel)
  have k26 := hts (.fieldLink RX7 26 "RecordWireModel" "some" "[Z") (by decide +kernel)
  have k33 := hts (.fieldLink RX7 33 "RecordWireModel" "seen" "[Z") (by decide +kernel)
  have k39 := hts (.fieldLink RX7 39 "RecordWireModel" "sizes" "[I") (by decide +kernel)
  have k145 := hts (.fieldLink RX7 145 "RecordWireModel" "isOpen" "Z") (by decide +kernel)
  have k149 := hts (.fieldLink RX7 149 "RecordWireModel" "outSize" "I") (by decide +kernel)
  have hl : lv_has ls 4 [(0, .ref (md 25)), (1, .int (nI 1))] := hl
  refine lv_iconst (v := nI 0) hx hb dX7_count_0 (by decide +kernel) ?_
  refine lv_istore_n (lv' := [(2, .int (nI 0)), (0, .ref (md 25)), (1, .int (nI 1))]) hx hb dX7_count_1 rfl hl (by decide) rfl (fun ls hl => ?_)
  refine lv_iload_n hx hb dX7_count_2 rfl (lv_at hl 2 rfl) ?_
  refine lv_if_ne (tgt := 39) hx hb dX7_count_3 (by decide) (fun c1 => ?_) (fun c1 => ?_)
  · skip
    rw [← nI_0] at c1
    have c1 : ¬ 1 = 0 := fun q => c1 (((nI_eq (by omega) (by omega)).mpr q))
    refine lv_iload_n hx hb dX7_count_39 rfl (lv_at hl 2 rfl) ?_
    refine lv_iconst (v := nI 4) hx hb dX7_count_40 (by decide +kernel) ?_
    refine lv_icmp_eq (tgt := 49) hx hb dX7_count_41 (by decide) (fun c2 => ?_) (fun c2 => ?_)
    · skip
      have c2 : 1 = 4 := (nI_eq (by omega) (by omega)).mp c2
      exfalso; omega
    · skip
      have c2 : ¬ 1 = 4 := fun q => c2 (((nI_eq (by omega) (by omega)).mpr q))
      refine lv_iload_n hx hb dX7_count_44 rfl (lv_at hl 2 rfl) ?_
      refine lv_iconst (v := nI 5) hx hb dX7_count_45 (by decide +kernel) ?_
      refine lv_icmp_ne (tgt := 107) hx hb dX7_count_46 (by decide) (fun c3 => ?_) (fun c3 => ?_)
      · skip
        have c3 : ¬ 1 = 5 := fun q => c3 (((nI_eq (by omega) (by omega)).mpr q))
        refine lv_iload_n hx hb dX7_count_107 rfl (lv_at hl 2 rfl) ?_
        refine lv_iconst (v := nI 2) hx hb dX7_count_108 (by decide +kernel) ?_
        refine lv_icmp_eq (tgt := 117) hx hb dX7_count_109 (by decide) (fun c4 => ?_) (fun c4 => ?_)
        · skip
          have c4 : 1 = 2 := (nI_eq (by omega) (by omega)).mp c4
          exfalso; omega
        · skip
          have c4 : ¬ 1 = 2 := fun q => c4 (((nI_eq (by omega) (by omega)).mpr q))
          refine lv_iload_n hx hb dX7_count_112 rfl (lv_at hl 2 rfl) ?_
          refine lv_iconst (v := nI 3) hx hb dX7_count_113 (by decide +kernel) ?_
          refine lv_icmp_ne (tgt := 137) hx hb dX7_count_114 (by decide) (fun c5 => ?_) (fun c5 => ?_)
          · skip
            have c5 : ¬ 1 = 3 := fun q => c5 (((nI_eq (by omega) (by omega)).mpr q))
            refine lv_iload_n hx hb dX7_count_137 rfl (lv_at hl 2 rfl) ?_
            refine lv_iconst (v := nI 1) hx hb dX7_count_138 (by decide +kernel) ?_
            refine lv_icmp_ne (tgt := 149) hx hb dX7_count_139 (by decide) (fun c6 => ?_) (fun c6 => ?_)
            · skip
              have c6 : ¬ 1 = 1 := fun q => c6 (((nI_eq (by omega) (by omega)).mpr q))
              exfalso; omega
            · skip
              have c6 : 1 = 1 := (nI_eq (by omega) (by omega)).mp c6
              refine lv_aload_n hx hb dX7_count_142 rfl (lv_at hl 1 rfl) ?_
              refine r_get (ci := 7) (v := .int (nI on)) (C := RX7) (T := TX7) (N := 25) hx hb hts hinX7 hown h0 hw 0 rfl rfl 12 (by decide) k149 rfl dX7_count_143 ?_
              refine lv_goto (tgt := 150) hx hb dX7_count_146 (by decide) ?_
              exact hret hw () (rfl) (rfl) (by omega) (by omega) dX7_count_150
          · skip
            have c5 : 1 = 3 := (nI_eq (by omega) (by omega)).mp c5
            exfalso; omega
      · skip
        have c3 : 1 = 5 := (nI_eq (by omega) (by omega)).mp c3
        exfalso; omega
  · skip
    rw [← nI_0] at c1
    have c1 : 1 = 0 := (nI_eq (by omega) (by omega)).mp c1
    exfalso; omega

set_option maxHeartbeats 4000000 in
set_option maxRecDepth 100000 in
theorem c_X7_count_2 (l : Launch) (g : GE) (md : Nat → Nat) (op : Nat) (on : Nat) (inn : Nat) (epn : Nat → Nat) (hop : ¬ op = 0) (hop2 : op < 2) (sz : Nat) : MI l yX7_count wsX7_count { frames := 0, cells := 0, slots := 0, locals := 0 } g [.ref (md 25), .int (nI 2)] [(md 25, .inr (7, [.ref (md 0), .int (nI op), .ref (md 2), .ref (md 3), .ref (md 4), .ref (md 5), .ref (md 6), .ref (md 7), .ref (md 8), .ref (md 9), .ref (md 10), .ref (md 11), .int (nI on), .ref (md 13), .int (nI inn), .ref (md 15), .ref (md 16), .ref (md 17), .ref (md 18), .ref (md 19), .ref (md 20), .ref (md 21), .ref (md 22), .ref (md 23), .ref (md 24)])), (md 4, .inl (g.2.1 0, 2, .inl (szF epn)))] sz (fun (r : Int32) (_ : Unit) => r = nI (epn 0)) (fun (_ : Unit) => [(md 25, .inr (7, [.ref (md 0), .int (nI op), .ref (md 2), .ref (md 3), .ref (md 4), .ref (md 5), .ref (md 6), .ref (md 7), .ref (md 8), .ref (md 9), .ref (md 10), .ref (md 11), .int (nI on), .ref (md 13), .int (nI inn), .ref (md 15), .ref (md 16), .ref (md 17), .ref (md 18), .ref (md 19), .ref (md 20), .ref (md 21), .ref (md 22), .ref (md 23), .ref (md 24)])), (md 4, .inl (g.2.1 0, 2, .inl (szF epn)))]) 0 0 := by
  refine enterI (by decide) rfl (Nat.le_of_ble_eq_true rfl) ?_
  intro p e s m below meth c A ls ar Q hE h0 hret hw hl
  obtain ⟨hx, hb, hr, hml, hown, hts, hlocks, hname⟩ := hE
  have hown : s.vm.findClass RX7 = some m.cls := hown
  have hw : WD g A s [(md 25, .inr (7, [.ref (md 0), .int (nI op), .ref (md 2), .ref (md 3), .ref (md 4), .ref (md 5), .ref (md 6), .ref (md 7), .ref (md 8), .ref (md 9), .ref (md 10), .ref (md 11), .int (nI on), .ref (md 13), .int (nI inn), .ref (md 15), .ref (md 16), .ref (md 17), .ref (md 18), .ref (md 19), .ref (md 20), .ref (md 21), .ref (md 22), .ref (md 23), .ref (md 24)])), (md 4, .inl (g.2.1 0, 2, .inl (szF epn)))] [] s.heap [] := hw
  have hinX7 : ∀ w ∈ u_ws RX7 TX7 25, w ∈ wsX7_count := by decide +kernel
  have k19 := hts (.fieldLink RX7 19 "RecordWireModel" "epochs" "[I") (by decide +kernel)
  have k26 := hts (.fieldLink RX7 26 "RecordWireModel" "some" "[Z") (by decide +kernel)
  have k33 := hts (.fieldLink RX7 33 "RecordWireModel" "seen" "[Z") (by decide +kernel)
  have k39 := hts (.fieldLink RX7 39 "RecordWireModel" "sizes" "[I") (by decide +kernel)
  have k145 := hts (.fieldLink RX7 145 "RecordWireModel" "isOpen" "Z") (by decide +kernel)
  have k149 := hts (.fieldLink RX7 149 "RecordWireModel" "outSize" "I") (by decide +kernel)
  have hl : lv_has ls 4 [(0, .ref (md 25)), (1, .int (nI 2))] := hl
  refine lv_iconst (v := nI 0) hx hb dX7_count_0 (by decide +kernel) ?_
  refine lv_istore_n (lv' := [(2, .int (nI 0)), (0, .ref (md 25)), (1, .int (nI 2))]) hx hb dX7_count_1 rfl hl (by decide) rfl (fun ls hl => ?_)
  refine lv_iload_n hx hb dX7_count_2 rfl (lv_at hl 2 rfl) ?_
  refine lv_if_ne (tgt := 39) hx hb dX7_count_3 (by decide) (fun c1 => ?_) (fun c1 => ?_)
  · skip
    rw [← nI_0] at c1
    have c1 : ¬ 2 = 0 := fun q => c1 (((nI_eq (by omega) (by omega)).mpr q))
    refine lv_iload_n hx hb dX7_count_39 rfl (lv_at hl 2 rfl) ?_
    refine lv_iconst (v := nI 4) hx hb dX7_count_40 (by decide +kernel) ?_
    refine lv_icmp_eq (tgt := 49) hx hb dX7_count_41 (by decide) (fun c2 => ?_) (fun c2 => ?_)
    · skip
      have c2 : 2 = 4 := (nI_eq (by omega) (by omega)).mp c2
      exfalso; omega
    · skip
      have c2 : ¬ 2 = 4 := fun q => c2 (((nI_eq (by omega) (by omega)).mpr q))
      refine lv_iload_n hx hb dX7_count_44 rfl (lv_at hl 2 rfl) ?_
      refine lv_iconst (v := nI 5) hx hb dX7_count_45 (by decide +kernel) ?_
      refine lv_icmp_ne (tgt := 107) hx hb dX7_count_46 (by decide) (fun c3 => ?_) (fun c3 => ?_)
      · skip
        have c3 : ¬ 2 = 5 := fun q => c3 (((nI_eq (by omega) (by omega)).mpr q))
        refine lv_iload_n hx hb dX7_count_107 rfl (lv_at hl 2 rfl) ?_
        refine lv_iconst (v := nI 2) hx hb dX7_count_108 (by decide +kernel) ?_
        refine lv_icmp_eq (tgt := 117) hx hb dX7_count_109 (by decide) (fun c4 => ?_) (fun c4 => ?_)
        · skip
          have c4 : 2 = 2 := (nI_eq (by omega) (by omega)).mp c4
          refine lv_aload_n hx hb dX7_count_117 rfl (lv_at hl 1 rfl) ?_
          refine r_get (ci := 7) (v := .int (nI op)) (C := RX7) (T := TX7) (N := 25) hx hb hts hinX7 hown h0 hw 0 rfl rfl 1 (by decide) k145 rfl dX7_count_118 ?_
          refine lv_if_eq (tgt := 135) hx hb dX7_count_121 (by decide) (fun c5 => ?_) (fun c5 => ?_)
          · skip
            rw [← nI_0] at c5
            have c5 : op = 0 := (nI_eq (by omega) (by omega)).mp c5
            exfalso; omega
          · skip
            rw [← nI_0] at c5
            have c5 : ¬ op = 0 := fun q => c5 (((nI_eq (by omega) (by omega)).mpr q))
            refine lv_aload_n hx hb dX7_count_124 rfl (lv_at hl 1 rfl) ?_
            refine r_get (ci := 7) (v := .ref (md 4)) (C := RX7) (T := TX7) (N := 25) hx hb hts hinX7 hown h0 hw 0 rfl rfl 4 (by decide) k19 rfl dX7_count_125 ?_
            refine lv_iload_n hx hb dX7_count_128 rfl (lv_at hl 2 rfl) ?_
            refine lv_iconst (v := nI 2) hx hb dX7_count_129 (by decide +kernel) ?_
            refine lv_isub hx hb dX7_count_130 ?_
            refine r_te (y := nI 0) (pk_sub (by omega)) ?_
            refine r_iald hx hb h0 hw 1 rfl (i := 0) (by omega) (by omega) dX7_count_131 ?_
            refine r_te (y := nI (epn 0)) rfl ?_
            refine lv_goto (tgt := 136) hx hb dX7_count_132 (by decide) ?_
            exact hret hw () (rfl) (rfl) (by omega) (by omega) dX7_count_136
        · skip
          have c4 : ¬ 2 = 2 := fun q => c4 (((nI_eq (by omega) (by omega)).mpr q))
          exfalso; omega
      · skip
        have c3 : 2 = 5 := (nI_eq (by omega) (by omega)).mp c3
        exfalso; omega
  · skip
    rw [← nI_0] at c1
    have c1 : 2 = 0 := (nI_eq (by omega) (by omega)).mp c1
    exfalso; omega

set_option maxHeartbeats 4000000 in
set_option maxRecDepth 100000 in
theorem c_X7_count_c2 (l : Launch) (g : GE) (md : Nat → Nat) (op : Nat) (on : Nat) (inn : Nat) (hop : op = 0) (sz : Nat) : MI l yX7_count wsX7_count { frames := 0, cells := 0, slots := 0, locals := 0 } g [.ref (md 25), .int (nI 2)] [(md 25, .inr (7, [.ref (md 0), .int (nI op), .ref (md 2), .ref (md 3), .ref (md 4), .ref (md 5), .ref (md 6), .ref (md 7), .ref (md 8), .ref (md 9), .ref (md 10), .ref (md 11), .int (nI on), .ref (md 13), .int (nI inn), .ref (md 15), .ref (md 16), .ref (md 17), .ref (md 18), .ref (md 19), .ref (md 20), .ref (md 21), .ref (md 22), .ref (md 23), .ref (md 24)]))] sz (fun (r : Int32) (_ : Unit) => r = -1) (fun (_ : Unit) => [(md 25, .inr (7, [.ref (md 0), .int (nI op), .ref (md 2), .ref (md 3), .ref (md 4), .ref (md 5), .ref (md 6), .ref (md 7), .ref (md 8), .ref (md 9), .ref (md 10), .ref (md 11), .int (nI on), .ref (md 13), .int (nI inn), .ref (md 15), .ref (md 16), .ref (md 17), .ref (md 18), .ref (md 19), .ref (md 20), .ref (md 21), .ref (md 22), .ref (md 23), .ref (md 24)]))]) 0 0 := by
  refine enterI (by decide) rfl (Nat.le_of_ble_eq_true rfl) ?_
  intro p e s m below meth c A ls ar Q hE h0 hret hw hl
  obtain ⟨hx, hb, hr, hml, hown, hts, hlocks, hname⟩ := hE
  have hown : s.vm.findClass RX7 = some m.cls := hown
  have hw : WD g A s [(md 25, .inr (7, [.ref (md 0), .int (nI op), .ref (md 2), .ref (md 3), .ref (md 4), .ref (md 5), .ref (md 6), .ref (md 7), .ref (md 8), .ref (md 9), .ref (md 10), .ref (md 11), .int (nI on), .ref (md 13), .int (nI inn), .ref (md 15), .ref (md 16), .ref (md 17), .ref (md 18), .ref (md 19), .ref (md 20), .ref (md 21), .ref (md 22), .ref (md 23), .ref (md 24)]))] [] s.heap [] := hw
  have hinX7 : ∀ w ∈ u_ws RX7 TX7 25, w ∈ wsX7_count := by decide +kernel
  have k19 := hts (.fieldLink RX7 19 "RecordWireModel" "epochs" "[I") (by decide +kernel)
  have k26 := hts (.fieldLink RX7 26 "RecordWireModel" "some" "[Z") (by decide +kernel)
  have k33 := hts (.fieldLink RX7 33 "RecordWireModel" "seen" "[Z") (by decide +kernel)
  have k39 := hts (.fieldLink RX7 39 "RecordWireModel" "sizes" "[I") (by decide +kernel)
  have k145 := hts (.fieldLink RX7 145 "RecordWireModel" "isOpen" "Z") (by decide +kernel)
  have k149 := hts (.fieldLink RX7 149 "RecordWireModel" "outSize" "I") (by decide +kernel)
  have hl : lv_has ls 4 [(0, .ref (md 25)), (1, .int (nI 2))] := hl
  refine lv_iconst (v := nI 0) hx hb dX7_count_0 (by decide +kernel) ?_
  refine lv_istore_n (lv' := [(2, .int (nI 0)), (0, .ref (md 25)), (1, .int (nI 2))]) hx hb dX7_count_1 rfl hl (by decide) rfl (fun ls hl => ?_)
  refine lv_iload_n hx hb dX7_count_2 rfl (lv_at hl 2 rfl) ?_
  refine lv_if_ne (tgt := 39) hx hb dX7_count_3 (by decide) (fun c1 => ?_) (fun c1 => ?_)
  · skip
    rw [← nI_0] at c1
    have c1 : ¬ 2 = 0 := fun q => c1 (((nI_eq (by omega) (by omega)).mpr q))
    refine lv_iload_n hx hb dX7_count_39 rfl (lv_at hl 2 rfl) ?_
    refine lv_iconst (v := nI 4) hx hb dX7_count_40 (by decide +kernel) ?_
    refine lv_icmp_eq (tgt := 49) hx hb dX7_count_41 (by decide) (fun c2 => ?_) (fun c2 => ?_)
    · skip
      have c2 : 2 = 4 := (nI_eq (by omega) (by omega)).mp c2
      exfalso; omega
    · skip
      have c2 : ¬ 2 = 4 := fun q => c2 (((nI_eq (by omega) (by omega)).mpr q))
      refine lv_iload_n hx hb dX7_count_44 rfl (lv_at hl 2 rfl) ?_
      refine lv_iconst (v := nI 5) hx hb dX7_count_45 (by decide +kernel) ?_
      refine lv_icmp_ne (tgt := 107) hx hb dX7_count_46 (by decide) (fun c3 => ?_) (fun c3 => ?_)
      · skip
        have c3 : ¬ 2 = 5 := fun q => c3 (((nI_eq (by omega) (by omega)).mpr q))
        refine lv_iload_n hx hb dX7_count_107 rfl (lv_at hl 2 rfl) ?_
        refine lv_iconst (v := nI 2) hx hb dX7_count_108 (by decide +kernel) ?_
        refine lv_icmp_eq (tgt := 117) hx hb dX7_count_109 (by decide) (fun c4 => ?_) (fun c4 => ?_)
        · skip
          have c4 : 2 = 2 := (nI_eq (by omega) (by omega)).mp c4
          refine lv_aload_n hx hb dX7_count_117 rfl (lv_at hl 1 rfl) ?_
          refine r_get (ci := 7) (v := .int (nI op)) (C := RX7) (T := TX7) (N := 25) hx hb hts hinX7 hown h0 hw 0 rfl rfl 1 (by decide) k145 rfl dX7_count_118 ?_
          refine lv_if_eq (tgt := 135) hx hb dX7_count_121 (by decide) (fun c5 => ?_) (fun c5 => ?_)
          · skip
            rw [← nI_0] at c5
            have c5 : op = 0 := (nI_eq (by omega) (by omega)).mp c5
            refine lv_iconst (v := -1) hx hb dX7_count_135 (by decide +kernel) ?_
            exact hret hw () (rfl) (rfl) (by omega) (by omega) dX7_count_136
          · skip
            rw [← nI_0] at c5
            have c5 : ¬ op = 0 := fun q => c5 (((nI_eq (by omega) (by omega)).mpr q))
            exfalso; omega
        · skip
          have c4 : ¬ 2 = 2 := fun q => c4 (((nI_eq (by omega) (by omega)).mpr q))
          exfalso; omega
      · skip
        have c3 : 2 = 5 := (nI_eq (by omega) (by omega)).mp c3
        exfalso; omega
  · skip
    rw [← nI_0] at c1
    have c1 : 2 = 0 := (nI_eq (by omega) (by omega)).mp c1
    exfalso; omega

set_option maxHeartbeats 4000000 in
set_option maxRecDepth 100000 in
theorem c_X7_count_4 (l : Launch) (g : GE) (md : Nat → Nat) (op : Nat) (on : Nat) (inn : Nat) (smf : Nat → Int32) (snf : Nat → Int32) (hop : ¬ op = 0) (hop2 : op < 2) (hsm : ¬ smf 0 = 0) (sz : Nat) : MI l yX7_count wsX7_count { frames := 0, cells := 0, slots := 0, locals := 0 } g [.ref (md 25), .int (nI 4)] [(md 25, .inr (7, [.ref (md 0), .int (nI op), .ref (md 2), .ref (md 3), .ref (md 4), .ref (md 5), .ref (md 6), .ref (md 7), .ref (md 8), .ref (md 9), .ref (md 10), .ref (md 11), .int (nI on), .ref (md 13), .int (nI inn), .ref (md 15), .ref (md 16), .ref (md 17), .ref (md 18), .ref (md 19), .ref (md 20), .ref (md 21), .ref (md 22), .ref (md 23), .ref (md 24)])), (md 6, .inl (g.2.1 2, 2, .inl (smf))), (md 8, .inl (g.2.1 2, 128, .inl (snf)))] sz (fun (r : Int32) (_ : Unit) => r = nI (cntB snf 0 64)) (fun (_ : Unit) => [(md 25, .inr (7, [.ref (md 0), .int (nI op), .ref (md 2), .ref (md 3), .ref (md 4), .ref (md 5), .ref (md 6), .ref (md 7), .ref (md 8), .ref (md 9), .ref (md 10), .ref (md 11), .int (nI on), .ref (md 13), .int (nI inn), .ref (md 15), .ref (md 16), .ref (md 17), .ref (md 18), .ref (md 19), .ref (md 20), .ref (md 21), .ref (md 22), .ref (md 23), .ref (md 24)])), (md 6, .inl (g.2.1 2, 2, .inl (smf))), (md 8, .inl (g.2.1 2, 128, .inl (snf)))]) 0 0 := by
  refine enterI (by decide) rfl (Nat.le_of_ble_eq_true rfl) ?_
  intro p e s m below meth c A ls ar Q hE h0 hret hw hl
  obtain ⟨hx, hb, hr, hml, hown, hts, hlocks, hname⟩ := hE
  have hown : s.vm.findClass RX7 = some m.cls := hown
  have hw : WD g A s [(md 25, .inr (7, [.ref (md 0), .int (nI op), .ref (md 2), .ref (md 3), .ref (md 4), .ref (md 5), .ref (md 6), .ref (md 7), .ref (md 8), .ref (md 9), .ref (md 10), .ref (md 11), .int (nI on), .ref (md 13), .int (nI inn), .ref (md 15), .ref (md 16), .ref (md 17), .ref (md 18), .ref (md 19), .ref (md 20), .ref (md 21), .ref (md 22), .ref (md 23), .ref (md 24)])), (md 6, .inl (g.2.1 2, 2, .inl (smf))), (md 8, .inl (g.2.1 2, 128, .inl (snf)))] [] s.heap [] := hw
  have hinX7 : ∀ w ∈ u_ws RX7 TX7 25, w ∈ wsX7_count := by decide +kernel
  have k19 := hts (.fieldLink RX7 19 "RecordWireModel" "epochs" "[I") (by decide +kernel)
  have k26 := hts (.fieldLink RX7 26 "RecordWireModel" "some" "[Z") (by decide +kernel)
  have k33 := hts (.fieldLink RX7 33 "RecordWireModel" "seen" "[Z") (by decide +kernel)
  have k39 := hts (.fieldLink RX7 39 "RecordWireModel" "sizes" "[I") (by decide +kernel)
  have k145 := hts (.fieldLink RX7 145 "RecordWireModel" "isOpen" "Z") (by decide +kernel)
  have k149 := hts (.fieldLink RX7 149 "RecordWireModel" "outSize" "I") (by decide +kernel)
  have hl : lv_has ls 4 [(0, .ref (md 25)), (1, .int (nI 4))] := hl
  refine lv_iconst (v := nI 0) hx hb dX7_count_0 (by decide +kernel) ?_
  refine lv_istore_n (lv' := [(2, .int (nI 0)), (0, .ref (md 25)), (1, .int (nI 4))]) hx hb dX7_count_1 rfl hl (by decide) rfl (fun ls hl => ?_)
  refine lv_iload_n hx hb dX7_count_2 rfl (lv_at hl 2 rfl) ?_
  refine lv_if_ne (tgt := 39) hx hb dX7_count_3 (by decide) (fun c1 => ?_) (fun c1 => ?_)
  · skip
    rw [← nI_0] at c1
    have c1 : ¬ 4 = 0 := fun q => c1 (((nI_eq (by omega) (by omega)).mpr q))
    refine lv_iload_n hx hb dX7_count_39 rfl (lv_at hl 2 rfl) ?_
    refine lv_iconst (v := nI 4) hx hb dX7_count_40 (by decide +kernel) ?_
    refine lv_icmp_eq (tgt := 49) hx hb dX7_count_41 (by decide) (fun c2 => ?_) (fun c2 => ?_)
    · skip
      have c2 : 4 = 4 := (nI_eq (by omega) (by omega)).mp c2
      refine lv_iconst (v := nI 0) hx hb dX7_count_49 (by decide +kernel) ?_
      refine lv_istore_n (lv' := [(3, .int (nI 0)), (2, .int (nI 0)), (0, .ref (md 25)), (1, .int (nI 4))]) hx hb dX7_count_50 rfl hl (by decide) rfl (fun ls hl => ?_)
      have lp51 : ∀ (fu : Nat) (j : Nat) (q : Nat), 64 - j < fu → (j ≤ 64) → (q = cntB snf 0 j) → ∀ (H : Heap) (locs : List Loc) (ls : Array Slot), WD g A s [(md 25, .inr (7, [.ref (md 0), .int (nI op), .ref (md 2), .ref (md 3), .ref (md 4), .ref (md 5), .ref (md 6), .ref (md 7), .ref (md 8), .ref (md 9), .ref (md 10), .ref (md 11), .int (nI on), .ref (md 13), .int (nI inn), .ref (md 15), .ref (md 16), .ref (md 17), .ref (md 18), .ref (md 19), .ref (md 20), .ref (md 21), .ref (md 22), .ref (md 23), .ref (md 24)])), (md 6, .inl (g.2.1 2, 2, .inl (smf))), (md 8, .inl (g.2.1 2, 128, .inl (snf)))] [] H locs → lv_has ls 4 [(3, .int (nI j)), (2, .int (nI q)), (0, .ref (md 25)), (1, .int (nI 4))] → W p l e { frames := 0, cells := 0, slots := 0, locals := 0 } s m ar below meth c H locs 0 0 Q (F0 m 51 ls []) := by
        intro fu
        induction fu with
        | zero => intro j q hmz; exact absurd hmz (Nat.not_lt_zero _)
        | succ fu ih =>
          intro j q hms hj hq H locs ls hw hl
          have hq9 := cntB_le snf 0 j
          refine lv_iload_n hx hb dX7_count_51 rfl (lv_at hl 0 rfl) ?_
          refine lv_bipush (v := nI 64) hx hb dX7_count_52 (by decide +kernel) ?_
          refine lv_icmp_ge (tgt := 105) hx hb dX7_count_54 (by decide) (fun c3 => ?_) (fun c3 => ?_)
          · skip
            have c3 : 64 ≤ j := (nI_leI (by omega) (by omega)).mp c3
            have hj8 : j = 64 := by omega
            have hwS4 := hw; have hlS5 := hl
            subst j
            have hw := hwS4; have hl := hlS5
            refine lv_iload_n hx hb dX7_count_105 rfl (lv_at hl 1 rfl) ?_
            exact hret hw () (by rw [hq]) (rfl) (by omega) (by omega) dX7_count_106
          · skip
            have c3 : ¬ 64 ≤ j := fun q => c3 (((nI_leI (by omega) (by omega)).mpr q))
            refine lv_aload_n hx hb dX7_count_57 rfl (lv_at hl 2 rfl) ?_
            refine r_get (ci := 7) (v := .int (nI op)) (C := RX7) (T := TX7) (N := 25) hx hb hts hinX7 hown h0 hw 0 rfl rfl 1 (by decide) k145 rfl dX7_count_58 ?_
            refine lv_if_eq (tgt := 97) hx hb dX7_count_61 (by decide) (fun c6 => ?_) (fun c6 => ?_)
            · skip
              rw [← nI_0] at c6
              have c6 : op = 0 := (nI_eq (by omega) (by omega)).mp c6
              exfalso; omega
            · skip
              rw [← nI_0] at c6
              have c6 : ¬ op = 0 := fun q => c6 (((nI_eq (by omega) (by omega)).mpr q))
              refine lv_aload_n hx hb dX7_count_64 rfl (lv_at hl 2 rfl) ?_
              refine r_get (ci := 7) (v := .ref (md 6)) (C := RX7) (T := TX7) (N := 25) hx hb hts hinX7 hown h0 hw 0 rfl rfl 6 (by decide) k26 rfl dX7_count_65 ?_
              refine lv_iload_n hx hb dX7_count_68 rfl (lv_at hl 3 rfl) ?_
              refine lv_iconst (v := nI 4) hx hb dX7_count_69 (by decide +kernel) ?_
              refine lv_isub hx hb dX7_count_70 ?_
              refine r_te (y := nI 0) (pk_sub (by omega)) ?_
              refine r_zald hx hb h0 hw 1 rfl (i := 0) (by omega) (by omega) dX7_count_71 ?_
              refine lv_if_eq (tgt := 97) hx hb dX7_count_72 (by decide) (fun c7 => ?_) (fun c7 => ?_)
              · skip
                exact absurd c7 hsm
              · skip
                refine lv_aload_n hx hb dX7_count_75 rfl (lv_at hl 2 rfl) ?_
                refine r_get (ci := 7) (v := .ref (md 8)) (C := RX7) (T := TX7) (N := 25) hx hb hts hinX7 hown h0 hw 0 rfl rfl 8 (by decide) k33 rfl dX7_count_76 ?_
                refine lv_bipush (v := nI 64) hx hb dX7_count_79 (by decide +kernel) ?_
                refine lv_iload_n hx hb dX7_count_81 rfl (lv_at hl 3 rfl) ?_
                refine lv_iconst (v := nI 4) hx hb dX7_count_82 (by decide +kernel) ?_
                refine lv_isub hx hb dX7_count_83 ?_
                refine r_te (y := nI 0) (pk_sub (by omega)) ?_
                refine lv_imul hx hb dX7_count_84 ?_
                refine r_te (y := nI 0) (pk_mul 64 0) ?_
                refine lv_iload_n hx hb dX7_count_85 rfl (lv_at hl 0 rfl) ?_
                refine lv_iadd hx hb dX7_count_86 ?_
                refine r_te (y := nI (0 + j)) (nI_add 0 j) ?_
                refine r_zald hx hb h0 hw 2 rfl (i := 0 + j) (by omega) (by omega) dX7_count_87 ?_
                refine lv_if_eq (tgt := 97) hx hb dX7_count_88 (by decide) (fun c8 => ?_) (fun c8 => ?_)
                · skip
                  refine lv_iload_n hx hb dX7_count_97 rfl (lv_at hl 1 rfl) ?_
                  refine lv_istore_n (lv' := [(2, .int (nI q)), (3, .int (nI j)), (0, .ref (md 25)), (1, .int (nI 4))]) hx hb dX7_count_98 rfl hl (by decide) rfl (fun ls hl => ?_)
                  refine lv_iinc (v := nI (j + 1)) (lv' := [(3, .int (nI (j + 1))), (2, .int (nI q)), (0, .ref (md 25)), (1, .int (nI 4))]) hx hb dX7_count_99 hl (k := 1) rfl (nI_add j 1) (by decide) rfl (fun ls hl => ?_)
                  refine lv_goto (tgt := 51) hx hb dX7_count_102 (by decide) ?_
                  exact ih (j + 1) q (by omega) (by omega) (by rw [hq]; show _ = (if snf (0 + j) = 0 then _ else _); first | rw [if_pos (by assumption)] | rw [if_neg (by assumption)]) _ _ _ hw (lv_sub hl [0, 1, 2, 3] rfl)
                · skip
                  refine lv_iload_n hx hb dX7_count_91 rfl (lv_at hl 1 rfl) ?_
                  refine lv_iconst (v := nI 1) hx hb dX7_count_92 (by decide +kernel) ?_
                  refine lv_iadd hx hb dX7_count_93 ?_
                  refine r_te (y := nI (q + 1)) (nI_add q 1) ?_
                  refine lv_goto (tgt := 98) hx hb dX7_count_94 (by decide) ?_
                  refine lv_istore_n (lv' := [(2, .int (nI (q + 1))), (3, .int (nI j)), (0, .ref (md 25)), (1, .int (nI 4))]) hx hb dX7_count_98 rfl hl (by decide) rfl (fun ls hl => ?_)
                  refine lv_iinc (v := nI (j + 1)) (lv' := [(3, .int (nI (j + 1))), (2, .int (nI (q + 1))), (0, .ref (md 25)), (1, .int (nI 4))]) hx hb dX7_count_99 hl (k := 1) rfl (nI_add j 1) (by decide) rfl (fun ls hl => ?_)
                  refine lv_goto (tgt := 51) hx hb dX7_count_102 (by decide) ?_
                  exact ih (j + 1) (q + 1) (by omega) (by omega) (by rw [hq]; show _ = (if snf (0 + j) = 0 then _ else _); first | rw [if_pos (by assumption)] | rw [if_neg (by assumption)]) _ _ _ hw (lv_sub hl [0, 1, 2, 3] rfl)
      exact lp51 (64 - 0 + 1) 0 0 (by omega) (by omega) (rfl) _ _ _ hw (lv_sub hl [0, 1, 2, 3] rfl)
    · skip
      have c2 : ¬ 4 = 4 := fun q => c2 (((nI_eq (by omega) (by omega)).mpr q))
      exfalso; omega
  · skip
    rw [← nI_0] at c1
    have c1 : 4 = 0 := (nI_eq (by omega) (by omega)).mp c1
    exfalso; omega

set_option maxHeartbeats 4000000 in
set_option maxRecDepth 100000 in
theorem c_X7_count_z4 (l : Launch) (g : GE) (md : Nat → Nat) (op : Nat) (on : Nat) (inn : Nat) (smf : Nat → Int32) (snf : Nat → Int32) (hop2 : op < 2) (hsm : op = 0 ∨ smf 0 = 0) (sz : Nat) : MI l yX7_count wsX7_count { frames := 0, cells := 0, slots := 0, locals := 0 } g [.ref (md 25), .int (nI 4)] [(md 25, .inr (7, [.ref (md 0), .int (nI op), .ref (md 2), .ref (md 3), .ref (md 4), .ref (md 5), .ref (md 6), .ref (md 7), .ref (md 8), .ref (md 9), .ref (md 10), .ref (md 11), .int (nI on), .ref (md 13), .int (nI inn), .ref (md 15), .ref (md 16), .ref (md 17), .ref (md 18), .ref (md 19), .ref (md 20), .ref (md 21), .ref (md 22), .ref (md 23), .ref (md 24)])), (md 6, .inl (g.2.1 2, 2, .inl (smf))), (md 8, .inl (g.2.1 2, 128, .inl (snf)))] sz (fun (r : Int32) (_ : Unit) => r = nI 0) (fun (_ : Unit) => [(md 25, .inr (7, [.ref (md 0), .int (nI op), .ref (md 2), .ref (md 3), .ref (md 4), .ref (md 5), .ref (md 6), .ref (md 7), .ref (md 8), .ref (md 9), .ref (md 10), .ref (md 11), .int (nI on), .ref (md 13), .int (nI inn), .ref (md 15), .ref (md 16), .ref (md 17), .ref (md 18), .ref (md 19), .ref (md 20), .ref (md 21), .ref (md 22), .ref (md 23), .ref (md 24)])), (md 6, .inl (g.2.1 2, 2, .inl (smf))), (md 8, .inl (g.2.1 2, 128, .inl (snf)))]) 0 0 := by
  refine enterI (by decide) rfl (Nat.le_of_ble_eq_true rfl) ?_
  intro p e s m below meth c A ls ar Q hE h0 hret hw hl
  obtain ⟨hx, hb, hr, hml, hown, hts, hlocks, hname⟩ := hE
  have hown : s.vm.findClass RX7 = some m.cls := hown
  have hw : WD g A s [(md 25, .inr (7, [.ref (md 0), .int (nI op), .ref (md 2), .ref (md 3), .ref (md 4), .ref (md 5), .ref (md 6), .ref (md 7), .ref (md 8), .ref (md 9), .ref (md 10), .ref (md 11), .int (nI on), .ref (md 13), .int (nI inn), .ref (md 15), .ref (md 16), .ref (md 17), .ref (md 18), .ref (md 19), .ref (md 20), .ref (md 21), .ref (md 22), .ref (md 23), .ref (md 24)])), (md 6, .inl (g.2.1 2, 2, .inl (smf))), (md 8, .inl (g.2.1 2, 128, .inl (snf)))] [] s.heap [] := hw
  have hinX7 : ∀ w ∈ u_ws RX7 TX7 25, w ∈ wsX7_count := by decide +kernel
  have k19 := hts (.fieldLink RX7 19 "RecordWireModel" "epochs" "[I") (by decide +kernel)
  have k26 := hts (.fieldLink RX7 26 "RecordWireModel" "some" "[Z") (by decide +kernel)
  have k33 := hts (.fieldLink RX7 33 "RecordWireModel" "seen" "[Z") (by decide +kernel)
  have k39 := hts (.fieldLink RX7 39 "RecordWireModel" "sizes" "[I") (by decide +kernel)
  have k145 := hts (.fieldLink RX7 145 "RecordWireModel" "isOpen" "Z") (by decide +kernel)
  have k149 := hts (.fieldLink RX7 149 "RecordWireModel" "outSize" "I") (by decide +kernel)
  have hl : lv_has ls 4 [(0, .ref (md 25)), (1, .int (nI 4))] := hl
  refine lv_iconst (v := nI 0) hx hb dX7_count_0 (by decide +kernel) ?_
  refine lv_istore_n (lv' := [(2, .int (nI 0)), (0, .ref (md 25)), (1, .int (nI 4))]) hx hb dX7_count_1 rfl hl (by decide) rfl (fun ls hl => ?_)
  refine lv_iload_n hx hb dX7_count_2 rfl (lv_at hl 2 rfl) ?_
  refine lv_if_ne (tgt := 39) hx hb dX7_count_3 (by decide) (fun c1 => ?_) (fun c1 => ?_)
  · skip
    rw [← nI_0] at c1
    have c1 : ¬ 4 = 0 := fun q => c1 (((nI_eq (by omega) (by omega)).mpr q))
    refine lv_iload_n hx hb dX7_count_39 rfl (lv_at hl 2 rfl) ?_
    refine lv_iconst (v := nI 4) hx hb dX7_count_40 (by decide +kernel) ?_
    refine lv_icmp_eq (tgt := 49) hx hb dX7_count_41 (by decide) (fun c2 => ?_) (fun c2 => ?_)
    · skip
      have c2 : 4 = 4 := (nI_eq (by omega) (by omega)).mp c2
      refine lv_iconst (v := nI 0) hx hb dX7_count_49 (by decide +kernel) ?_
      refine lv_istore_n (lv' := [(3, .int (nI 0)), (2, .int (nI 0)), (0, .ref (md 25)), (1, .int (nI 4))]) hx hb dX7_count_50 rfl hl (by decide) rfl (fun ls hl => ?_)
      have lp51 : ∀ (fu : Nat) (j : Nat), 64 - j < fu → (j ≤ 64) → ∀ (H : Heap) (locs : List Loc) (ls : Array Slot), WD g A s [(md 25, .inr (7, [.ref (md 0), .int (nI op), .ref (md 2), .ref (md 3), .ref (md 4), .ref (md 5), .ref (md 6), .ref (md 7), .ref (md 8), .ref (md 9), .ref (md 10), .ref (md 11), .int (nI on), .ref (md 13), .int (nI inn), .ref (md 15), .ref (md 16), .ref (md 17), .ref (md 18), .ref (md 19), .ref (md 20), .ref (md 21), .ref (md 22), .ref (md 23), .ref (md 24)])), (md 6, .inl (g.2.1 2, 2, .inl (smf))), (md 8, .inl (g.2.1 2, 128, .inl (snf)))] [] H locs → lv_has ls 4 [(3, .int (nI j)), (2, .int (nI 0)), (0, .ref (md 25)), (1, .int (nI 4))] → W p l e { frames := 0, cells := 0, slots := 0, locals := 0 } s m ar below meth c H locs 0 0 Q (F0 m 51 ls []) := by
        intro fu
        induction fu with
        | zero => intro j hmz; exact absurd hmz (Nat.not_lt_zero _)
        | succ fu ih =>
          intro j hms hj H locs ls hw hl
          refine lv_iload_n hx hb dX7_count_51 rfl (lv_at hl 0 rfl) ?_
          refine lv_bipush (v := nI 64) hx hb dX7_count_52 (by decide +kernel) ?_
          refine lv_icmp_ge (tgt := 105) hx hb dX7_count_54 (by decide) (fun c3 => ?_) (fun c3 => ?_)
          · skip
            have c3 : 64 ≤ j := (nI_leI (by omega) (by omega)).mp c3
            refine lv_iload_n hx hb dX7_count_105 rfl (lv_at hl 1 rfl) ?_
            exact hret hw () (rfl) (rfl) (by omega) (by omega) dX7_count_106
          · skip
            have c3 : ¬ 64 ≤ j := fun q => c3 (((nI_leI (by omega) (by omega)).mpr q))
            refine lv_aload_n hx hb dX7_count_57 rfl (lv_at hl 2 rfl) ?_
            refine r_get (ci := 7) (v := .int (nI op)) (C := RX7) (T := TX7) (N := 25) hx hb hts hinX7 hown h0 hw 0 rfl rfl 1 (by decide) k145 rfl dX7_count_58 ?_
            refine lv_if_eq (tgt := 97) hx hb dX7_count_61 (by decide) (fun c4 => ?_) (fun c4 => ?_)
            · skip
              rw [← nI_0] at c4
              have c4 : op = 0 := (nI_eq (by omega) (by omega)).mp c4
              have q1 := c4
              refine lv_iload_n hx hb dX7_count_97 rfl (lv_at hl 1 rfl) ?_
              refine lv_istore_n (lv' := [(2, .int (nI 0)), (3, .int (nI j)), (0, .ref (md 25)), (1, .int (nI 4))]) hx hb dX7_count_98 rfl hl (by decide) rfl (fun ls hl => ?_)
              refine lv_iinc (v := nI (j + 1)) (lv' := [(3, .int (nI (j + 1))), (2, .int (nI 0)), (0, .ref (md 25)), (1, .int (nI 4))]) hx hb dX7_count_99 hl (k := 1) rfl (nI_add j 1) (by decide) rfl (fun ls hl => ?_)
              refine lv_goto (tgt := 51) hx hb dX7_count_102 (by decide) ?_
              exact ih (j + 1) (by omega) (by omega) _ _ _ hw (lv_sub hl [0, 1, 2, 3] rfl)
            · skip
              rw [← nI_0] at c4
              have c4 : ¬ op = 0 := fun q => c4 (((nI_eq (by omega) (by omega)).mpr q))
              have q1 := c4
              refine lv_aload_n hx hb dX7_count_64 rfl (lv_at hl 2 rfl) ?_
              refine r_get (ci := 7) (v := .ref (md 6)) (C := RX7) (T := TX7) (N := 25) hx hb hts hinX7 hown h0 hw 0 rfl rfl 6 (by decide) k26 rfl dX7_count_65 ?_
              refine lv_iload_n hx hb dX7_count_68 rfl (lv_at hl 3 rfl) ?_
              refine lv_iconst (v := nI 4) hx hb dX7_count_69 (by decide +kernel) ?_
              refine lv_isub hx hb dX7_count_70 ?_
              refine r_te (y := nI 0) (pk_sub (by omega)) ?_
              refine r_zald hx hb h0 hw 1 rfl (i := 0) (by omega) (by omega) dX7_count_71 ?_
              refine lv_if_eq (tgt := 97) hx hb dX7_count_72 (by decide) (fun c5 => ?_) (fun c5 => ?_)
              · skip
                refine lv_iload_n hx hb dX7_count_97 rfl (lv_at hl 1 rfl) ?_
                refine lv_istore_n (lv' := [(2, .int (nI 0)), (3, .int (nI j)), (0, .ref (md 25)), (1, .int (nI 4))]) hx hb dX7_count_98 rfl hl (by decide) rfl (fun ls hl => ?_)
                refine lv_iinc (v := nI (j + 1)) (lv' := [(3, .int (nI (j + 1))), (2, .int (nI 0)), (0, .ref (md 25)), (1, .int (nI 4))]) hx hb dX7_count_99 hl (k := 1) rfl (nI_add j 1) (by decide) rfl (fun ls hl => ?_)
                refine lv_goto (tgt := 51) hx hb dX7_count_102 (by decide) ?_
                exact ih (j + 1) (by omega) (by omega) _ _ _ hw (lv_sub hl [0, 1, 2, 3] rfl)
              · skip
                exact absurd (hsm.resolve_left (by omega)) c5
      exact lp51 (64 - 0 + 1) 0 (by omega) (by omega) _ _ _ hw (lv_sub hl [0, 1, 2, 3] rfl)
    · skip
      have c2 : ¬ 4 = 4 := fun q => c2 (((nI_eq (by omega) (by omega)).mpr q))
      exfalso; omega
  · skip
    rw [← nI_0] at c1
    have c1 : 4 = 0 := (nI_eq (by omega) (by omega)).mp c1
    exfalso; omega

set_option maxHeartbeats 4000000 in
set_option maxRecDepth 100000 in
theorem c_X7_count_3 (l : Launch) (g : GE) (md : Nat → Nat) (op : Nat) (on : Nat) (inn : Nat) (epn : Nat → Nat) (hop : ¬ op = 0) (hop2 : op < 2) (sz : Nat) : MI l yX7_count wsX7_count { frames := 0, cells := 0, slots := 0, locals := 0 } g [.ref (md 25), .int (nI 3)] [(md 25, .inr (7, [.ref (md 0), .int (nI op), .ref (md 2), .ref (md 3), .ref (md 4), .ref (md 5), .ref (md 6), .ref (md 7), .ref (md 8), .ref (md 9), .ref (md 10), .ref (md 11), .int (nI on), .ref (md 13), .int (nI inn), .ref (md 15), .ref (md 16), .ref (md 17), .ref (md 18), .ref (md 19), .ref (md 20), .ref (md 21), .ref (md 22), .ref (md 23), .ref (md 24)])), (md 4, .inl (g.2.1 0, 2, .inl (szF epn)))] sz (fun (r : Int32) (_ : Unit) => r = nI (epn 1)) (fun (_ : Unit) => [(md 25, .inr (7, [.ref (md 0), .int (nI op), .ref (md 2), .ref (md 3), .ref (md 4), .ref (md 5), .ref (md 6), .ref (md 7), .ref (md 8), .ref (md 9), .ref (md 10), .ref (md 11), .int (nI on), .ref (md 13), .int (nI inn), .ref (md 15), .ref (md 16), .ref (md 17), .ref (md 18), .ref (md 19), .ref (md 20), .ref (md 21), .ref (md 22), .ref (md 23), .ref (md 24)])), (md 4, .inl (g.2.1 0, 2, .inl (szF epn)))]) 0 0 := by
  refine enterI (by decide) rfl (Nat.le_of_ble_eq_true rfl) ?_
  intro p e s m below meth c A ls ar Q hE h0 hret hw hl
  obtain ⟨hx, hb, hr, hml, hown, hts, hlocks, hname⟩ := hE
  have hown : s.vm.findClass RX7 = some m.cls := hown
  have hw : WD g A s [(md 25, .inr (7, [.ref (md 0), .int (nI op), .ref (md 2), .ref (md 3), .ref (md 4), .ref (md 5), .ref (md 6), .ref (md 7), .ref (md 8), .ref (md 9), .ref (md 10), .ref (md 11), .int (nI on), .ref (md 13), .int (nI inn), .ref (md 15), .ref (md 16), .ref (md 17), .ref (md 18), .ref (md 19), .ref (md 20), .ref (md 21), .ref (md 22), .ref (md 23), .ref (md 24)])), (md 4, .inl (g.2.1 0, 2, .inl (szF epn)))] [] s.heap [] := hw
  have hinX7 : ∀ w ∈ u_ws RX7 TX7 25, w ∈ wsX7_count := by decide +kernel
  have k19 := hts (.fieldLink RX7 19 "RecordWireModel" "epochs" "[I") (by decide +kernel)
  have k26 := hts (.fieldLink RX7 26 "RecordWireModel" "some" "[Z") (by decide +kernel)
  have k33 := hts (.fieldLink RX7 33 "RecordWireModel" "seen" "[Z") (by decide +kernel)
  have k39 := hts (.fieldLink RX7 39 "RecordWireModel" "sizes" "[I") (by decide +kernel)
  have k145 := hts (.fieldLink RX7 145 "RecordWireModel" "isOpen" "Z") (by decide +kernel)
  have k149 := hts (.fieldLink RX7 149 "RecordWireModel" "outSize" "I") (by decide +kernel)
  have hl : lv_has ls 4 [(0, .ref (md 25)), (1, .int (nI 3))] := hl
  refine lv_iconst (v := nI 0) hx hb dX7_count_0 (by decide +kernel) ?_
  refine lv_istore_n (lv' := [(2, .int (nI 0)), (0, .ref (md 25)), (1, .int (nI 3))]) hx hb dX7_count_1 rfl hl (by decide) rfl (fun ls hl => ?_)
  refine lv_iload_n hx hb dX7_count_2 rfl (lv_at hl 2 rfl) ?_
  refine lv_if_ne (tgt := 39) hx hb dX7_count_3 (by decide) (fun c1 => ?_) (fun c1 => ?_)
  · skip
    rw [← nI_0] at c1
    have c1 : ¬ 3 = 0 := fun q => c1 (((nI_eq (by omega) (by omega)).mpr q))
    refine lv_iload_n hx hb dX7_count_39 rfl (lv_at hl 2 rfl) ?_
    refine lv_iconst (v := nI 4) hx hb dX7_count_40 (by decide +kernel) ?_
    refine lv_icmp_eq (tgt := 49) hx hb dX7_count_41 (by decide) (fun c2 => ?_) (fun c2 => ?_)
    · skip
      have c2 : 3 = 4 := (nI_eq (by omega) (by omega)).mp c2
      exfalso; omega
    · skip
      have c2 : ¬ 3 = 4 := fun q => c2 (((nI_eq (by omega) (by omega)).mpr q))
      refine lv_iload_n hx hb dX7_count_44 rfl (lv_at hl 2 rfl) ?_
      refine lv_iconst (v := nI 5) hx hb dX7_count_45 (by decide +kernel) ?_
      refine lv_icmp_ne (tgt := 107) hx hb dX7_count_46 (by decide) (fun c3 => ?_) (fun c3 => ?_)
      · skip
        have c3 : ¬ 3 = 5 := fun q => c3 (((nI_eq (by omega) (by omega)).mpr q))
        refine lv_iload_n hx hb dX7_count_107 rfl (lv_at hl 2 rfl) ?_
        refine lv_iconst (v := nI 2) hx hb dX7_count_108 (by decide +kernel) ?_
        refine lv_icmp_eq (tgt := 117) hx hb dX7_count_109 (by decide) (fun c4 => ?_) (fun c4 => ?_)
        · skip
          have c4 : 3 = 2 := (nI_eq (by omega) (by omega)).mp c4
          exfalso; omega
        · skip
          have c4 : ¬ 3 = 2 := fun q => c4 (((nI_eq (by omega) (by omega)).mpr q))
          refine lv_iload_n hx hb dX7_count_112 rfl (lv_at hl 2 rfl) ?_
          refine lv_iconst (v := nI 3) hx hb dX7_count_113 (by decide +kernel) ?_
          refine lv_icmp_ne (tgt := 137) hx hb dX7_count_114 (by decide) (fun c5 => ?_) (fun c5 => ?_)
          · skip
            have c5 : ¬ 3 = 3 := fun q => c5 (((nI_eq (by omega) (by omega)).mpr q))
            exfalso; omega
          · skip
            have c5 : 3 = 3 := (nI_eq (by omega) (by omega)).mp c5
            refine lv_aload_n hx hb dX7_count_117 rfl (lv_at hl 1 rfl) ?_
            refine r_get (ci := 7) (v := .int (nI op)) (C := RX7) (T := TX7) (N := 25) hx hb hts hinX7 hown h0 hw 0 rfl rfl 1 (by decide) k145 rfl dX7_count_118 ?_
            refine lv_if_eq (tgt := 135) hx hb dX7_count_121 (by decide) (fun c6 => ?_) (fun c6 => ?_)
            · skip
              rw [← nI_0] at c6
              have c6 : op = 0 := (nI_eq (by omega) (by omega)).mp c6
              exfalso; omega
            · skip
              rw [← nI_0] at c6
              have c6 : ¬ op = 0 := fun q => c6 (((nI_eq (by omega) (by omega)).mpr q))
              refine lv_aload_n hx hb dX7_count_124 rfl (lv_at hl 1 rfl) ?_
              refine r_get (ci := 7) (v := .ref (md 4)) (C := RX7) (T := TX7) (N := 25) hx hb hts hinX7 hown h0 hw 0 rfl rfl 4 (by decide) k19 rfl dX7_count_125 ?_
              refine lv_iload_n hx hb dX7_count_128 rfl (lv_at hl 2 rfl) ?_
              refine lv_iconst (v := nI 2) hx hb dX7_count_129 (by decide +kernel) ?_
              refine lv_isub hx hb dX7_count_130 ?_
              refine r_te (y := nI 1) (pk_sub (by omega)) ?_
              refine r_iald hx hb h0 hw 1 rfl (i := 1) (by omega) (by omega) dX7_count_131 ?_
              refine r_te (y := nI (epn 1)) rfl ?_
              refine lv_goto (tgt := 136) hx hb dX7_count_132 (by decide) ?_
              exact hret hw () (rfl) (rfl) (by omega) (by omega) dX7_count_136
      · skip
        have c3 : 3 = 5 := (nI_eq (by omega) (by omega)).mp c3
        exfalso; omega
  · skip
    rw [← nI_0] at c1
    have c1 : 3 = 0 := (nI_eq (by omega) (by omega)).mp c1
    exfalso; omega

set_option maxHeartbeats 4000000 in
set_option maxRecDepth 100000 in
theorem c_X7_count_c3 (l : Launch) (g : GE) (md : Nat → Nat) (op : Nat) (on : Nat) (inn : Nat) (hop : op = 0) (sz : Nat) : MI l yX7_count wsX7_count { frames := 0, cells := 0, slots := 0, locals := 0 } g [.ref (md 25), .int (nI 3)] [(md 25, .inr (7, [.ref (md 0), .int (nI op), .ref (md 2), .ref (md 3), .ref (md 4), .ref (md 5), .ref (md 6), .ref (md 7), .ref (md 8), .ref (md 9), .ref (md 10), .ref (md 11), .int (nI on), .ref (md 13), .int (nI inn), .ref (md 15), .ref (md 16), .ref (md 17), .ref (md 18), .ref (md 19), .ref (md 20), .ref (md 21), .ref (md 22), .ref (md 23), .ref (md 24)]))] sz (fun (r : Int32) (_ : Unit) => r = -1) (fun (_ : Unit) => [(md 25, .inr (7, [.ref (md 0), .int (nI op), .ref (md 2), .ref (md 3), .ref (md 4), .ref (md 5), .ref (md 6), .ref (md 7), .ref (md 8), .ref (md 9), .ref (md 10), .ref (md 11), .int (nI on), .ref (md 13), .int (nI inn), .ref (md 15), .ref (md 16), .ref (md 17), .ref (md 18), .ref (md 19), .ref (md 20), .ref (md 21), .ref (md 22), .ref (md 23), .ref (md 24)]))]) 0 0 := by
  refine enterI (by decide) rfl (Nat.le_of_ble_eq_true rfl) ?_
  intro p e s m below meth c A ls ar Q hE h0 hret hw hl
  obtain ⟨hx, hb, hr, hml, hown, hts, hlocks, hname⟩ := hE
  have hown : s.vm.findClass RX7 = some m.cls := hown
  have hw : WD g A s [(md 25, .inr (7, [.ref (md 0), .int (nI op), .ref (md 2), .ref (md 3), .ref (md 4), .ref (md 5), .ref (md 6), .ref (md 7), .ref (md 8), .ref (md 9), .ref (md 10), .ref (md 11), .int (nI on), .ref (md 13), .int (nI inn), .ref (md 15), .ref (md 16), .ref (md 17), .ref (md 18), .ref (md 19), .ref (md 20), .ref (md 21), .ref (md 22), .ref (md 23), .ref (md 24)]))] [] s.heap [] := hw
  have hinX7 : ∀ w ∈ u_ws RX7 TX7 25, w ∈ wsX7_count := by decide +kernel
  have k19 := hts (.fieldLink RX7 19 "RecordWireModel" "epochs" "[I") (by decide +kernel)
  have k26 := hts (.fieldLink RX7 26 "RecordWireModel" "some" "[Z") (by decide +kernel)
  have k33 := hts (.fieldLink RX7 33 "RecordWireModel" "seen" "[Z") (by decide +kernel)
  have k39 := hts (.fieldLink RX7 39 "RecordWireModel" "sizes" "[I") (by decide +kernel)
  have k145 := hts (.fieldLink RX7 145 "RecordWireModel" "isOpen" "Z") (by decide +kernel)
  have k149 := hts (.fieldLink RX7 149 "RecordWireModel" "outSize" "I") (by decide +kernel)
  have hl : lv_has ls 4 [(0, .ref (md 25)), (1, .int (nI 3))] := hl
  refine lv_iconst (v := nI 0) hx hb dX7_count_0 (by decide +kernel) ?_
  refine lv_istore_n (lv' := [(2, .int (nI 0)), (0, .ref (md 25)), (1, .int (nI 3))]) hx hb dX7_count_1 rfl hl (by decide) rfl (fun ls hl => ?_)
  refine lv_iload_n hx hb dX7_count_2 rfl (lv_at hl 2 rfl) ?_
  refine lv_if_ne (tgt := 39) hx hb dX7_count_3 (by decide) (fun c1 => ?_) (fun c1 => ?_)
  · skip
    rw [← nI_0] at c1
    have c1 : ¬ 3 = 0 := fun q => c1 (((nI_eq (by omega) (by omega)).mpr q))
    refine lv_iload_n hx hb dX7_count_39 rfl (lv_at hl 2 rfl) ?_
    refine lv_iconst (v := nI 4) hx hb dX7_count_40 (by decide +kernel) ?_
    refine lv_icmp_eq (tgt := 49) hx hb dX7_count_41 (by decide) (fun c2 => ?_) (fun c2 => ?_)
    · skip
      have c2 : 3 = 4 := (nI_eq (by omega) (by omega)).mp c2
      exfalso; omega
    · skip
      have c2 : ¬ 3 = 4 := fun q => c2 (((nI_eq (by omega) (by omega)).mpr q))
      refine lv_iload_n hx hb dX7_count_44 rfl (lv_at hl 2 rfl) ?_
      refine lv_iconst (v := nI 5) hx hb dX7_count_45 (by decide +kernel) ?_
      refine lv_icmp_ne (tgt := 107) hx hb dX7_count_46 (by decide) (fun c3 => ?_) (fun c3 => ?_)
      · skip
        have c3 : ¬ 3 = 5 := fun q => c3 (((nI_eq (by omega) (by omega)).mpr q))
        refine lv_iload_n hx hb dX7_count_107 rfl (lv_at hl 2 rfl) ?_
        refine lv_iconst (v := nI 2) hx hb dX7_count_108 (by decide +kernel) ?_
        refine lv_icmp_eq (tgt := 117) hx hb dX7_count_109 (by decide) (fun c4 => ?_) (fun c4 => ?_)
        · skip
          have c4 : 3 = 2 := (nI_eq (by omega) (by omega)).mp c4
          exfalso; omega
        · skip
          have c4 : ¬ 3 = 2 := fun q => c4 (((nI_eq (by omega) (by omega)).mpr q))
          refine lv_iload_n hx hb dX7_count_112 rfl (lv_at hl 2 rfl) ?_
          refine lv_iconst (v := nI 3) hx hb dX7_count_113 (by decide +kernel) ?_
          refine lv_icmp_ne (tgt := 137) hx hb dX7_count_114 (by decide) (fun c5 => ?_) (fun c5 => ?_)
          · skip
            have c5 : ¬ 3 = 3 := fun q => c5 (((nI_eq (by omega) (by omega)).mpr q))
            exfalso; omega
          · skip
            have c5 : 3 = 3 := (nI_eq (by omega) (by omega)).mp c5
            refine lv_aload_n hx hb dX7_count_117 rfl (lv_at hl 1 rfl) ?_
            refine r_get (ci := 7) (v := .int (nI op)) (C := RX7) (T := TX7) (N := 25) hx hb hts hinX7 hown h0 hw 0 rfl rfl 1 (by decide) k145 rfl dX7_count_118 ?_
            refine lv_if_eq (tgt := 135) hx hb dX7_count_121 (by decide) (fun c6 => ?_) (fun c6 => ?_)
            · skip
              rw [← nI_0] at c6
              have c6 : op = 0 := (nI_eq (by omega) (by omega)).mp c6
              refine lv_iconst (v := -1) hx hb dX7_count_135 (by decide +kernel) ?_
              exact hret hw () (rfl) (rfl) (by omega) (by omega) dX7_count_136
            · skip
              rw [← nI_0] at c6
              have c6 : ¬ op = 0 := fun q => c6 (((nI_eq (by omega) (by omega)).mpr q))
              exfalso; omega
      · skip
        have c3 : 3 = 5 := (nI_eq (by omega) (by omega)).mp c3
        exfalso; omega
  · skip
    rw [← nI_0] at c1
    have c1 : 3 = 0 := (nI_eq (by omega) (by omega)).mp c1
    exfalso; omega

set_option maxHeartbeats 4000000 in
set_option maxRecDepth 100000 in
theorem c_X7_count_5 (l : Launch) (g : GE) (md : Nat → Nat) (op : Nat) (on : Nat) (inn : Nat) (smf : Nat → Int32) (snf : Nat → Int32) (hop : ¬ op = 0) (hop2 : op < 2) (hsm : ¬ smf 1 = 0) (sz : Nat) : MI l yX7_count wsX7_count { frames := 0, cells := 0, slots := 0, locals := 0 } g [.ref (md 25), .int (nI 5)] [(md 25, .inr (7, [.ref (md 0), .int (nI op), .ref (md 2), .ref (md 3), .ref (md 4), .ref (md 5), .ref (md 6), .ref (md 7), .ref (md 8), .ref (md 9), .ref (md 10), .ref (md 11), .int (nI on), .ref (md 13), .int (nI inn), .ref (md 15), .ref (md 16), .ref (md 17), .ref (md 18), .ref (md 19), .ref (md 20), .ref (md 21), .ref (md 22), .ref (md 23), .ref (md 24)])), (md 6, .inl (g.2.1 2, 2, .inl (smf))), (md 8, .inl (g.2.1 2, 128, .inl (snf)))] sz (fun (r : Int32) (_ : Unit) => r = nI (cntB snf 64 64)) (fun (_ : Unit) => [(md 25, .inr (7, [.ref (md 0), .int (nI op), .ref (md 2), .ref (md 3), .ref (md 4), .ref (md 5), .ref (md 6), .ref (md 7), .ref (md 8), .ref (md 9), .ref (md 10), .ref (md 11), .int (nI on), .ref (md 13), .int (nI inn), .ref (md 15), .ref (md 16), .ref (md 17), .ref (md 18), .ref (md 19), .ref (md 20), .ref (md 21), .ref (md 22), .ref (md 23), .ref (md 24)])), (md 6, .inl (g.2.1 2, 2, .inl (smf))), (md 8, .inl (g.2.1 2, 128, .inl (snf)))]) 0 0 := by
  refine enterI (by decide) rfl (Nat.le_of_ble_eq_true rfl) ?_
  intro p e s m below meth c A ls ar Q hE h0 hret hw hl
  obtain ⟨hx, hb, hr, hml, hown, hts, hlocks, hname⟩ := hE
  have hown : s.vm.findClass RX7 = some m.cls := hown
  have hw : WD g A s [(md 25, .inr (7, [.ref (md 0), .int (nI op), .ref (md 2), .ref (md 3), .ref (md 4), .ref (md 5), .ref (md 6), .ref (md 7), .ref (md 8), .ref (md 9), .ref (md 10), .ref (md 11), .int (nI on), .ref (md 13), .int (nI inn), .ref (md 15), .ref (md 16), .ref (md 17), .ref (md 18), .ref (md 19), .ref (md 20), .ref (md 21), .ref (md 22), .ref (md 23), .ref (md 24)])), (md 6, .inl (g.2.1 2, 2, .inl (smf))), (md 8, .inl (g.2.1 2, 128, .inl (snf)))] [] s.heap [] := hw
  have hinX7 : ∀ w ∈ u_ws RX7 TX7 25, w ∈ wsX7_count := by decide +kernel
  have k19 := hts (.fieldLink RX7 19 "RecordWireModel" "epochs" "[I") (by decide +kernel)
  have k26 := hts (.fieldLink RX7 26 "RecordWireModel" "some" "[Z") (by decide +kernel)
  have k33 := hts (.fieldLink RX7 33 "RecordWireModel" "seen" "[Z") (by decide +kernel)
  have k39 := hts (.fieldLink RX7 39 "RecordWireModel" "sizes" "[I") (by decide +kernel)
  have k145 := hts (.fieldLink RX7 145 "RecordWireModel" "isOpen" "Z") (by decide +kernel)
  have k149 := hts (.fieldLink RX7 149 "RecordWireModel" "outSize" "I") (by decide +kernel)
  have hl : lv_has ls 4 [(0, .ref (md 25)), (1, .int (nI 5))] := hl
  refine lv_iconst (v := nI 0) hx hb dX7_count_0 (by decide +kernel) ?_
  refine lv_istore_n (lv' := [(2, .int (nI 0)), (0, .ref (md 25)), (1, .int (nI 5))]) hx hb dX7_count_1 rfl hl (by decide) rfl (fun ls hl => ?_)
  refine lv_iload_n hx hb dX7_count_2 rfl (lv_at hl 2 rfl) ?_
  refine lv_if_ne (tgt := 39) hx hb dX7_count_3 (by decide) (fun c1 => ?_) (fun c1 => ?_)
  · skip
    rw [← nI_0] at c1
    have c1 : ¬ 5 = 0 := fun q => c1 (((nI_eq (by omega) (by omega)).mpr q))
    refine lv_iload_n hx hb dX7_count_39 rfl (lv_at hl 2 rfl) ?_
    refine lv_iconst (v := nI 4) hx hb dX7_count_40 (by decide +kernel) ?_
    refine lv_icmp_eq (tgt := 49) hx hb dX7_count_41 (by decide) (fun c2 => ?_) (fun c2 => ?_)
    · skip
      have c2 : 5 = 4 := (nI_eq (by omega) (by omega)).mp c2
      exfalso; omega
    · skip
      have c2 : ¬ 5 = 4 := fun q => c2 (((nI_eq (by omega) (by omega)).mpr q))
      refine lv_iload_n hx hb dX7_count_44 rfl (lv_at hl 2 rfl) ?_
      refine lv_iconst (v := nI 5) hx hb dX7_count_45 (by decide +kernel) ?_
      refine lv_icmp_ne (tgt := 107) hx hb dX7_count_46 (by decide) (fun c3 => ?_) (fun c3 => ?_)
      · skip
        have c3 : ¬ 5 = 5 := fun q => c3 (((nI_eq (by omega) (by omega)).mpr q))
        exfalso; omega
      · skip
        have c3 : 5 = 5 := (nI_eq (by omega) (by omega)).mp c3
        refine lv_iconst (v := nI 0) hx hb dX7_count_49 (by decide +kernel) ?_
        refine lv_istore_n (lv' := [(3, .int (nI 0)), (2, .int (nI 0)), (0, .ref (md 25)), (1, .int (nI 5))]) hx hb dX7_count_50 rfl hl (by decide) rfl (fun ls hl => ?_)
        have lp51 : ∀ (fu : Nat) (j : Nat) (q : Nat), 64 - j < fu → (j ≤ 64) → (q = cntB snf 64 j) → ∀ (H : Heap) (locs : List Loc) (ls : Array Slot), WD g A s [(md 25, .inr (7, [.ref (md 0), .int (nI op), .ref (md 2), .ref (md 3), .ref (md 4), .ref (md 5), .ref (md 6), .ref (md 7), .ref (md 8), .ref (md 9), .ref (md 10), .ref (md 11), .int (nI on), .ref (md 13), .int (nI inn), .ref (md 15), .ref (md 16), .ref (md 17), .ref (md 18), .ref (md 19), .ref (md 20), .ref (md 21), .ref (md 22), .ref (md 23), .ref (md 24)])), (md 6, .inl (g.2.1 2, 2, .inl (smf))), (md 8, .inl (g.2.1 2, 128, .inl (snf)))] [] H locs → lv_has ls 4 [(3, .int (nI j)), (2, .int (nI q)), (0, .ref (md 25)), (1, .int (nI 5))] → W p l e { frames := 0, cells := 0, slots := 0, locals := 0 } s m ar below meth c H locs 0 0 Q (F0 m 51 ls []) := by
          intro fu
          induction fu with
          | zero => intro j q hmz; exact absurd hmz (Nat.not_lt_zero _)
          | succ fu ih =>
            intro j q hms hj hq H locs ls hw hl
            have hq9 := cntB_le snf 64 j
            refine lv_iload_n hx hb dX7_count_51 rfl (lv_at hl 0 rfl) ?_
            refine lv_bipush (v := nI 64) hx hb dX7_count_52 (by decide +kernel) ?_
            refine lv_icmp_ge (tgt := 105) hx hb dX7_count_54 (by decide) (fun c4 => ?_) (fun c4 => ?_)
            · skip
              have c4 : 64 ≤ j := (nI_leI (by omega) (by omega)).mp c4
              have hj8 : j = 64 := by omega
              have hwS5 := hw; have hlS6 := hl
              subst j
              have hw := hwS5; have hl := hlS6
              refine lv_iload_n hx hb dX7_count_105 rfl (lv_at hl 1 rfl) ?_
              exact hret hw () (by rw [hq]) (rfl) (by omega) (by omega) dX7_count_106
            · skip
              have c4 : ¬ 64 ≤ j := fun q => c4 (((nI_leI (by omega) (by omega)).mpr q))
              refine lv_aload_n hx hb dX7_count_57 rfl (lv_at hl 2 rfl) ?_
              refine r_get (ci := 7) (v := .int (nI op)) (C := RX7) (T := TX7) (N := 25) hx hb hts hinX7 hown h0 hw 0 rfl rfl 1 (by decide) k145 rfl dX7_count_58 ?_
              refine lv_if_eq (tgt := 97) hx hb dX7_count_61 (by decide) (fun c7 => ?_) (fun c7 => ?_)
              · skip
                rw [← nI_0] at c7
                have c7 : op = 0 := (nI_eq (by omega) (by omega)).mp c7
                exfalso; omega
              · skip
                rw [← nI_0] at c7
                have c7 : ¬ op = 0 := fun q => c7 (((nI_eq (by omega) (by omega)).mpr q))
                refine lv_aload_n hx hb dX7_count_64 rfl (lv_at hl 2 rfl) ?_
                refine r_get (ci := 7) (v := .ref (md 6)) (C := RX7) (T := TX7) (N := 25) hx hb hts hinX7 hown h0 hw 0 rfl rfl 6 (by decide) k26 rfl dX7_count_65 ?_
                refine lv_iload_n hx hb dX7_count_68 rfl (lv_at hl 3 rfl) ?_
                refine lv_iconst (v := nI 4) hx hb dX7_count_69 (by decide +kernel) ?_
                refine lv_isub hx hb dX7_count_70 ?_
                refine r_te (y := nI 1) (pk_sub (by omega)) ?_
                refine r_zald hx hb h0 hw 1 rfl (i := 1) (by omega) (by omega) dX7_count_71 ?_
                refine lv_if_eq (tgt := 97) hx hb dX7_count_72 (by decide) (fun c8 => ?_) (fun c8 => ?_)
                · skip
                  exact absurd c8 hsm
                · skip
                  refine lv_aload_n hx hb dX7_count_75 rfl (lv_at hl 2 rfl) ?_
                  refine r_get (ci := 7) (v := .ref (md 8)) (C := RX7) (T := TX7) (N := 25) hx hb hts hinX7 hown h0 hw 0 rfl rfl 8 (by decide) k33 rfl dX7_count_76 ?_
                  refine lv_bipush (v := nI 64) hx hb dX7_count_79 (by decide +kernel) ?_
                  refine lv_iload_n hx hb dX7_count_81 rfl (lv_at hl 3 rfl) ?_
                  refine lv_iconst (v := nI 4) hx hb dX7_count_82 (by decide +kernel) ?_
                  refine lv_isub hx hb dX7_count_83 ?_
                  refine r_te (y := nI 1) (pk_sub (by omega)) ?_
                  refine lv_imul hx hb dX7_count_84 ?_
                  refine r_te (y := nI 64) (pk_mul 64 1) ?_
                  refine lv_iload_n hx hb dX7_count_85 rfl (lv_at hl 0 rfl) ?_
                  refine lv_iadd hx hb dX7_count_86 ?_
                  refine r_te (y := nI (64 + j)) (nI_add 64 j) ?_
                  refine r_zald hx hb h0 hw 2 rfl (i := 64 + j) (by omega) (by omega) dX7_count_87 ?_
                  refine lv_if_eq (tgt := 97) hx hb dX7_count_88 (by decide) (fun c9 => ?_) (fun c9 => ?_)
                  · skip
                    refine lv_iload_n hx hb dX7_count_97 rfl (lv_at hl 1 rfl) ?_
                    refine lv_istore_n (lv' := [(2, .int (nI q)), (3, .int (nI j)), (0, .ref (md 25)), (1, .int (nI 5))]) hx hb dX7_count_98 rfl hl (by decide) rfl (fun ls hl => ?_)
                    refine lv_iinc (v := nI (j + 1)) (lv' := [(3, .int (nI (j + 1))), (2, .int (nI q)), (0, .ref (md 25)), (1, .int (nI 5))]) hx hb dX7_count_99 hl (k := 1) rfl (nI_add j 1) (by decide) rfl (fun ls hl => ?_)
                    refine lv_goto (tgt := 51) hx hb dX7_count_102 (by decide) ?_
                    exact ih (j + 1) q (by omega) (by omega) (by rw [hq]; show _ = (if snf (64 + j) = 0 then _ else _); first | rw [if_pos (by assumption)] | rw [if_neg (by assumption)]) _ _ _ hw (lv_sub hl [0, 1, 2, 3] rfl)
                  · skip
                    refine lv_iload_n hx hb dX7_count_91 rfl (lv_at hl 1 rfl) ?_
                    refine lv_iconst (v := nI 1) hx hb dX7_count_92 (by decide +kernel) ?_
                    refine lv_iadd hx hb dX7_count_93 ?_
                    refine r_te (y := nI (q + 1)) (nI_add q 1) ?_
                    refine lv_goto (tgt := 98) hx hb dX7_count_94 (by decide) ?_
                    refine lv_istore_n (lv' := [(2, .int (nI (q + 1))), (3, .int (nI j)), (0, .ref (md 25)), (1, .int (nI 5))]) hx hb dX7_count_98 rfl hl (by decide) rfl (fun ls hl => ?_)
                    refine lv_iinc (v := nI (j + 1)) (lv' := [(3, .int (nI (j + 1))), (2, .int (nI (q + 1))), (0, .ref (md 25)), (1, .int (nI 5))]) hx hb dX7_count_99 hl (k := 1) rfl (nI_add j 1) (by decide) rfl (fun ls hl => ?_)
                    refine lv_goto (tgt := 51) hx hb dX7_count_102 (by decide) ?_
                    exact ih (j + 1) (q + 1) (by omega) (by omega) (by rw [hq]; show _ = (if snf (64 + j) = 0 then _ else _); first | rw [if_pos (by assumption)] | rw [if_neg (by assumption)]) _ _ _ hw (lv_sub hl [0, 1, 2, 3] rfl)
        exact lp51 (64 - 0 + 1) 0 0 (by omega) (by omega) (rfl) _ _ _ hw (lv_sub hl [0, 1, 2, 3] rfl)
  · skip
    rw [← nI_0] at c1
    have c1 : 5 = 0 := (nI_eq (by omega) (by omega)).mp c1
    exfalso; omega

set_option maxHeartbeats 4000000 in
set_option maxRecDepth 100000 in
theorem c_X7_count_z5 (l : Launch) (g : GE) (md : Nat → Nat) (op : Nat) (on : Nat) (inn : Nat) (smf : Nat → Int32) (snf : Nat → Int32) (hop2 : op < 2) (hsm : op = 0 ∨ smf 1 = 0) (sz : Nat) : MI l yX7_count wsX7_count { frames := 0, cells := 0, slots := 0, locals := 0 } g [.ref (md 25), .int (nI 5)] [(md 25, .inr (7, [.ref (md 0), .int (nI op), .ref (md 2), .ref (md 3), .ref (md 4), .ref (md 5), .ref (md 6), .ref (md 7), .ref (md 8), .ref (md 9), .ref (md 10), .ref (md 11), .int (nI on), .ref (md 13), .int (nI inn), .ref (md 15), .ref (md 16), .ref (md 17), .ref (md 18), .ref (md 19), .ref (md 20), .ref (md 21), .ref (md 22), .ref (md 23), .ref (md 24)])), (md 6, .inl (g.2.1 2, 2, .inl (smf))), (md 8, .inl (g.2.1 2, 128, .inl (snf)))] sz (fun (r : Int32) (_ : Unit) => r = nI 0) (fun (_ : Unit) => [(md 25, .inr (7, [.ref (md 0), .int (nI op), .ref (md 2), .ref (md 3), .ref (md 4), .ref (md 5), .ref (md 6), .ref (md 7), .ref (md 8), .ref (md 9), .ref (md 10), .ref (md 11), .int (nI on), .ref (md 13), .int (nI inn), .ref (md 15), .ref (md 16), .ref (md 17), .ref (md 18), .ref (md 19), .ref (md 20), .ref (md 21), .ref (md 22), .ref (md 23), .ref (md 24)])), (md 6, .inl (g.2.1 2, 2, .inl (smf))), (md 8, .inl (g.2.1 2, 128, .inl (snf)))]) 0 0 := by
  refine enterI (by decide) rfl (Nat.le_of_ble_eq_true rfl) ?_
  intro p e s m below meth c A ls ar Q hE h0 hret hw hl
  obtain ⟨hx, hb, hr, hml, hown, hts, hlocks, hname⟩ := hE
  have hown : s.vm.findClass RX7 = some m.cls := hown
  have hw : WD g A s [(md 25, .inr (7, [.ref (md 0), .int (nI op), .ref (md 2), .ref (md 3), .ref (md 4), .ref (md 5), .ref (md 6), .ref (md 7), .ref (md 8), .ref (md 9), .ref (md 10), .ref (md 11), .int (nI on), .ref (md 13), .int (nI inn), .ref (md 15), .ref (md 16), .ref (md 17), .ref (md 18), .ref (md 19), .ref (md 20), .ref (md 21), .ref (md 22), .ref (md 23), .ref (md 24)])), (md 6, .inl (g.2.1 2, 2, .inl (smf))), (md 8, .inl (g.2.1 2, 128, .inl (snf)))] [] s.heap [] := hw
  have hinX7 : ∀ w ∈ u_ws RX7 TX7 25, w ∈ wsX7_count := by decide +kernel
  have k19 := hts (.fieldLink RX7 19 "RecordWireModel" "epochs" "[I") (by decide +kernel)
  have k26 := hts (.fieldLink RX7 26 "RecordWireModel" "some" "[Z") (by decide +kernel)
  have k33 := hts (.fieldLink RX7 33 "RecordWireModel" "seen" "[Z") (by decide +kernel)
  have k39 := hts (.fieldLink RX7 39 "RecordWireModel" "sizes" "[I") (by decide +kernel)
  have k145 := hts (.fieldLink RX7 145 "RecordWireModel" "isOpen" "Z") (by decide +kernel)
  have k149 := hts (.fieldLink RX7 149 "RecordWireModel" "outSize" "I") (by decide +kernel)
  have hl : lv_has ls 4 [(0, .ref (md 25)), (1, .int (nI 5))] := hl
  refine lv_iconst (v := nI 0) hx hb dX7_count_0 (by decide +kernel) ?_
  refine lv_istore_n (lv' := [(2, .int (nI 0)), (0, .ref (md 25)), (1, .int (nI 5))]) hx hb dX7_count_1 rfl hl (by decide) rfl (fun ls hl => ?_)
  refine lv_iload_n hx hb dX7_count_2 rfl (lv_at hl 2 rfl) ?_
  refine lv_if_ne (tgt := 39) hx hb dX7_count_3 (by decide) (fun c1 => ?_) (fun c1 => ?_)
  · skip
    rw [← nI_0] at c1
    have c1 : ¬ 5 = 0 := fun q => c1 (((nI_eq (by omega) (by omega)).mpr q))
    refine lv_iload_n hx hb dX7_count_39 rfl (lv_at hl 2 rfl) ?_
    refine lv_iconst (v := nI 4) hx hb dX7_count_40 (by decide +kernel) ?_
    refine lv_icmp_eq (tgt := 49) hx hb dX7_count_41 (by decide) (fun c2 => ?_) (fun c2 => ?_)
    · skip
      have c2 : 5 = 4 := (nI_eq (by omega) (by omega)).mp c2
      exfalso; omega
    · skip
      have c2 : ¬ 5 = 4 := fun q => c2 (((nI_eq (by omega) (by omega)).mpr q))
      refine lv_iload_n hx hb dX7_count_44 rfl (lv_at hl 2 rfl) ?_
      refine lv_iconst (v := nI 5) hx hb dX7_count_45 (by decide +kernel) ?_
      refine lv_icmp_ne (tgt := 107) hx hb dX7_count_46 (by decide) (fun c3 => ?_) (fun c3 => ?_)
      · skip
        have c3 : ¬ 5 = 5 := fun q => c3 (((nI_eq (by omega) (by omega)).mpr q))
        exfalso; omega
      · skip
        have c3 : 5 = 5 := (nI_eq (by omega) (by omega)).mp c3
        refine lv_iconst (v := nI 0) hx hb dX7_count_49 (by decide +kernel) ?_
        refine lv_istore_n (lv' := [(3, .int (nI 0)), (2, .int (nI 0)), (0, .ref (md 25)), (1, .int (nI 5))]) hx hb dX7_count_50 rfl hl (by decide) rfl (fun ls hl => ?_)
        have lp51 : ∀ (fu : Nat) (j : Nat), 64 - j < fu → (j ≤ 64) → ∀ (H : Heap) (locs : List Loc) (ls : Array Slot), WD g A s [(md 25, .inr (7, [.ref (md 0), .int (nI op), .ref (md 2), .ref (md 3), .ref (md 4), .ref (md 5), .ref (md 6), .ref (md 7), .ref (md 8), .ref (md 9), .ref (md 10), .ref (md 11), .int (nI on), .ref (md 13), .int (nI inn), .ref (md 15), .ref (md 16), .ref (md 17), .ref (md 18), .ref (md 19), .ref (md 20), .ref (md 21), .ref (md 22), .ref (md 23), .ref (md 24)])), (md 6, .inl (g.2.1 2, 2, .inl (smf))), (md 8, .inl (g.2.1 2, 128, .inl (snf)))] [] H locs → lv_has ls 4 [(3, .int (nI j)), (2, .int (nI 0)), (0, .ref (md 25)), (1, .int (nI 5))] → W p l e { frames := 0, cells := 0, slots := 0, locals := 0 } s m ar below meth c H locs 0 0 Q (F0 m 51 ls []) := by
          intro fu
          induction fu with
          | zero => intro j hmz; exact absurd hmz (Nat.not_lt_zero _)
          | succ fu ih =>
            intro j hms hj H locs ls hw hl
            refine lv_iload_n hx hb dX7_count_51 rfl (lv_at hl 0 rfl) ?_
            refine lv_bipush (v := nI 64) hx hb dX7_count_52 (by decide +kernel) ?_
            refine lv_icmp_ge (tgt := 105) hx hb dX7_count_54 (by decide) (fun c4 => ?_) (fun c4 => ?_)
            · skip
              have c4 : 64 ≤ j := (nI_leI (by omega) (by omega)).mp c4
              refine lv_iload_n hx hb dX7_count_105 rfl (lv_at hl 1 rfl) ?_
              exact hret hw () (rfl) (rfl) (by omega) (by omega) dX7_count_106
            · skip
              have c4 : ¬ 64 ≤ j := fun q => c4 (((nI_leI (by omega) (by omega)).mpr q))
              refine lv_aload_n hx hb dX7_count_57 rfl (lv_at hl 2 rfl) ?_
              refine r_get (ci := 7) (v := .int (nI op)) (C := RX7) (T := TX7) (N := 25) hx hb hts hinX7 hown h0 hw 0 rfl rfl 1 (by decide) k145 rfl dX7_count_58 ?_
              refine lv_if_eq (tgt := 97) hx hb dX7_count_61 (by decide) (fun c5 => ?_) (fun c5 => ?_)
              · skip
                rw [← nI_0] at c5
                have c5 : op = 0 := (nI_eq (by omega) (by omega)).mp c5
                have q1 := c5
                refine lv_iload_n hx hb dX7_count_97 rfl (lv_at hl 1 rfl) ?_
                refine lv_istore_n (lv' := [(2, .int (nI 0)), (3, .int (nI j)), (0, .ref (md 25)), (1, .int (nI 5))]) hx hb dX7_count_98 rfl hl (by decide) rfl (fun ls hl => ?_)
                refine lv_iinc (v := nI (j + 1)) (lv' := [(3, .int (nI (j + 1))), (2, .int (nI 0)), (0, .ref (md 25)), (1, .int (nI 5))]) hx hb dX7_count_99 hl (k := 1) rfl (nI_add j 1) (by decide) rfl (fun ls hl => ?_)
                refine lv_goto (tgt := 51) hx hb dX7_count_102 (by decide) ?_
                exact ih (j + 1) (by omega) (by omega) _ _ _ hw (lv_sub hl [0, 1, 2, 3] rfl)
              · skip
                rw [← nI_0] at c5
                have c5 : ¬ op = 0 := fun q => c5 (((nI_eq (by omega) (by omega)).mpr q))
                have q1 := c5
                refine lv_aload_n hx hb dX7_count_64 rfl (lv_at hl 2 rfl) ?_
                refine r_get (ci := 7) (v := .ref (md 6)) (C := RX7) (T := TX7) (N := 25) hx hb hts hinX7 hown h0 hw 0 rfl rfl 6 (by decide) k26 rfl dX7_count_65 ?_
                refine lv_iload_n hx hb dX7_count_68 rfl (lv_at hl 3 rfl) ?_
                refine lv_iconst (v := nI 4) hx hb dX7_count_69 (by decide +kernel) ?_
                refine lv_isub hx hb dX7_count_70 ?_
                refine r_te (y := nI 1) (pk_sub (by omega)) ?_
                refine r_zald hx hb h0 hw 1 rfl (i := 1) (by omega) (by omega) dX7_count_71 ?_
                refine lv_if_eq (tgt := 97) hx hb dX7_count_72 (by decide) (fun c6 => ?_) (fun c6 => ?_)
                · skip
                  refine lv_iload_n hx hb dX7_count_97 rfl (lv_at hl 1 rfl) ?_
                  refine lv_istore_n (lv' := [(2, .int (nI 0)), (3, .int (nI j)), (0, .ref (md 25)), (1, .int (nI 5))]) hx hb dX7_count_98 rfl hl (by decide) rfl (fun ls hl => ?_)
                  refine lv_iinc (v := nI (j + 1)) (lv' := [(3, .int (nI (j + 1))), (2, .int (nI 0)), (0, .ref (md 25)), (1, .int (nI 5))]) hx hb dX7_count_99 hl (k := 1) rfl (nI_add j 1) (by decide) rfl (fun ls hl => ?_)
                  refine lv_goto (tgt := 51) hx hb dX7_count_102 (by decide) ?_
                  exact ih (j + 1) (by omega) (by omega) _ _ _ hw (lv_sub hl [0, 1, 2, 3] rfl)
                · skip
                  exact absurd (hsm.resolve_left (by omega)) c6
        exact lp51 (64 - 0 + 1) 0 (by omega) (by omega) _ _ _ hw (lv_sub hl [0, 1, 2, 3] rfl)
  · skip
    rw [← nI_0] at c1
    have c1 : 5 = 0 := (nI_eq (by omega) (by omega)).mp c1
    exfalso; omega

set_option maxHeartbeats 4000000 in
set_option maxRecDepth 100000 in
theorem c_X7_count_bad (l : Launch) (g : GE) (md : Nat → Nat) (op : Nat) (on : Nat) (inn : Nat) (i : Int32) (hi : i.toInt < 0 ∨ 5 < i.toInt) (sz : Nat) : MI l yX7_count wsX7_count { frames := 0, cells := 0, slots := 0, locals := 0 } g [.ref (md 25), .int (i)] [(md 25, .inr (7, [.ref (md 0), .int (nI op), .ref (md 2), .ref (md 3), .ref (md 4), .ref (md 5), .ref (md 6), .ref (md 7), .ref (md 8), .ref (md 9), .ref (md 10), .ref (md 11), .int (nI on), .ref (md 13), .int (nI inn), .ref (md 15), .ref (md 16), .ref (md 17), .ref (md 18), .ref (md 19), .ref (md 20), .ref (md 21), .ref (md 22), .ref (md 23), .ref (md 24)]))] sz (fun (r : Int32) (_ : Unit) => r = -1) (fun (_ : Unit) => [(md 25, .inr (7, [.ref (md 0), .int (nI op), .ref (md 2), .ref (md 3), .ref (md 4), .ref (md 5), .ref (md 6), .ref (md 7), .ref (md 8), .ref (md 9), .ref (md 10), .ref (md 11), .int (nI on), .ref (md 13), .int (nI inn), .ref (md 15), .ref (md 16), .ref (md 17), .ref (md 18), .ref (md 19), .ref (md 20), .ref (md 21), .ref (md 22), .ref (md 23), .ref (md 24)]))]) 0 0 := by
  refine enterI (by decide) rfl (Nat.le_of_ble_eq_true rfl) ?_
  intro p e s m below meth c A ls ar Q hE h0 hret hw hl
  obtain ⟨hx, hb, hr, hml, hown, hts, hlocks, hname⟩ := hE
  have hown : s.vm.findClass RX7 = some m.cls := hown
  have hw : WD g A s [(md 25, .inr (7, [.ref (md 0), .int (nI op), .ref (md 2), .ref (md 3), .ref (md 4), .ref (md 5), .ref (md 6), .ref (md 7), .ref (md 8), .ref (md 9), .ref (md 10), .ref (md 11), .int (nI on), .ref (md 13), .int (nI inn), .ref (md 15), .ref (md 16), .ref (md 17), .ref (md 18), .ref (md 19), .ref (md 20), .ref (md 21), .ref (md 22), .ref (md 23), .ref (md 24)]))] [] s.heap [] := hw
  have hinX7 : ∀ w ∈ u_ws RX7 TX7 25, w ∈ wsX7_count := by decide +kernel
  have k19 := hts (.fieldLink RX7 19 "RecordWireModel" "epochs" "[I") (by decide +kernel)
  have k26 := hts (.fieldLink RX7 26 "RecordWireModel" "some" "[Z") (by decide +kernel)
  have k33 := hts (.fieldLink RX7 33 "RecordWireModel" "seen" "[Z") (by decide +kernel)
  have k39 := hts (.fieldLink RX7 39 "RecordWireModel" "sizes" "[I") (by decide +kernel)
  have k145 := hts (.fieldLink RX7 145 "RecordWireModel" "isOpen" "Z") (by decide +kernel)
  have k149 := hts (.fieldLink RX7 149 "RecordWireModel" "outSize" "I") (by decide +kernel)
  have hl : lv_has ls 4 [(0, .ref (md 25)), (1, .int (i))] := hl
  refine lv_iconst (v := nI 0) hx hb dX7_count_0 (by decide +kernel) ?_
  refine lv_istore_n (lv' := [(2, .int (nI 0)), (0, .ref (md 25)), (1, .int (i))]) hx hb dX7_count_1 rfl hl (by decide) rfl (fun ls hl => ?_)
  refine lv_iload_n hx hb dX7_count_2 rfl (lv_at hl 2 rfl) ?_
  refine lv_if_ne (tgt := 39) hx hb dX7_count_3 (by decide) (fun c1 => ?_) (fun c1 => ?_)
  · skip
    refine lv_iload_n hx hb dX7_count_39 rfl (lv_at hl 2 rfl) ?_
    refine lv_iconst (v := nI 4) hx hb dX7_count_40 (by decide +kernel) ?_
    refine lv_icmp_eq (tgt := 49) hx hb dX7_count_41 (by decide) (fun c2 => ?_) (fun c2 => ?_)
    · skip
      exact absurd c2 (out_ne hi (by omega))
    · skip
      refine lv_iload_n hx hb dX7_count_44 rfl (lv_at hl 2 rfl) ?_
      refine lv_iconst (v := nI 5) hx hb dX7_count_45 (by decide +kernel) ?_
      refine lv_icmp_ne (tgt := 107) hx hb dX7_count_46 (by decide) (fun c3 => ?_) (fun c3 => ?_)
      · skip
        refine lv_iload_n hx hb dX7_count_107 rfl (lv_at hl 2 rfl) ?_
        refine lv_iconst (v := nI 2) hx hb dX7_count_108 (by decide +kernel) ?_
        refine lv_icmp_eq (tgt := 117) hx hb dX7_count_109 (by decide) (fun c4 => ?_) (fun c4 => ?_)
        · skip
          exact absurd c4 (out_ne hi (by omega))
        · skip
          refine lv_iload_n hx hb dX7_count_112 rfl (lv_at hl 2 rfl) ?_
          refine lv_iconst (v := nI 3) hx hb dX7_count_113 (by decide +kernel) ?_
          refine lv_icmp_ne (tgt := 137) hx hb dX7_count_114 (by decide) (fun c5 => ?_) (fun c5 => ?_)
          · skip
            refine lv_iload_n hx hb dX7_count_137 rfl (lv_at hl 2 rfl) ?_
            refine lv_iconst (v := nI 1) hx hb dX7_count_138 (by decide +kernel) ?_
            refine lv_icmp_ne (tgt := 149) hx hb dX7_count_139 (by decide) (fun c6 => ?_) (fun c6 => ?_)
            · skip
              refine lv_iconst (v := -1) hx hb dX7_count_149 (by decide +kernel) ?_
              exact hret hw () (rfl) (rfl) (by omega) (by omega) dX7_count_150
            · skip
              exact absurd c6 (out_ne hi (by omega))
          · skip
            exact absurd c5 (out_ne hi (by omega))
      · skip
        exact absurd c3 (out_ne hi (by omega))
  · skip
    exact absurd c1 (by rw [← nI_0]; exact out_ne hi (by omega))
