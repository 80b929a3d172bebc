set_option maxHeartbeats 4000000 in
set_option maxRecDepth 100000 in
theorem c_X7_send (l : Launch) (g : GE) (md : Nat → Nat) (op : Nat) (on : Nat) (inn : Nat) (rf : Nat → Int32) (wf : Nat → Int32) (sf : Nat → Int32) (dg : Nat → Int32) (kf : Nat → Int32) (mf : Nat → Int32) (te : Nat → Int32) (wr : Nat → Int32) (se : Nat → Int32) (wd : Nat → Int32) (mx : Nat → Int32) (epn : Nat → Nat) (nxf : Nat → Int64) (z : Nat → Nat) (obf : Nat → Int32) (fb : Nat → Int32) (i : Nat) (k : Nat) (hop : ¬ op = 0) (hop2 : op < 2) (hi : i < 2) (hon : on ≤ 96) (hk : k < 8) (hk0 : z k = 0) (hk1 : ∀ j, j < k → ¬ z j = 0) (hz : ∀ j, j < 8 → z j ≤ 127) (he : epn i < 10000) (sz : Nat) : MI l yX7_send wsX7_send { frames := 5, cells := 0, slots := 0, locals := 123 } g [.ref (md 25), .int (nI i)] [(md 25, .inr (7, [.ref (md 0), .int (nI op), .ref (md 2), .ref (md 3), .ref (md 4), .ref (md 5), .ref (md 6), .ref (md 7), .ref (md 8), .ref (md 9), .ref (md 10), .ref (md 11), .int (nI on), .ref (md 13), .int (nI inn), .ref (md 15), .ref (md 16), .ref (md 17), .ref (md 18), .ref (md 19), .ref (md 20), .ref (md 21), .ref (md 22), .ref (md 23), .ref (md 24)])), (md 17, .inl (g.2.1 0, 400, .inl (rf))), (md 16, .inl (g.2.1 0, 64, .inl (wf))), (md 15, .inl (g.2.1 0, 8, .inl (sf))), (md 22, .inl (g.2.1 0, 64, .inl (kRW))), (md 18, .inl (g.2.1 0, 32, .inl (dg))), (md 19, .inl (g.2.1 0, 32, .inl (kf))), (md 21, .inl (g.2.1 0, 160, .inl (mf))), (md 3, .inl (g.2.1 0, 64, .inl (te))), (md 9, .inl (g.2.1 0, 1024, .inl (wr))), (md 2, .inl (g.2.1 0, 64, .inl (se))), (md 23, .inl (g.2.1 0, 16, .inl (wd))), (md 24, .inl (g.2.1 0, 16, .inl (mx))), (md 4, .inl (g.2.1 0, 2, .inl (szF epn))), (md 5, .inl (g.2.1 1, 2, .inr (.inl (nxf)))), (md 10, .inl (g.2.1 0, 8, .inl (szF z))), (md 11, .inl (g.2.1 0, 96, .inl (obf)))] sz (fun (r : Int32) (u : (Nat → Int32) × (Nat → Int32) × (Nat → Int32) × (Nat → Int32) × (Nat → Int32) × (Nat → Int32) × (Nat → Int32) × (Nat → Int32) × (Nat → Int32)) => r = nI k ∧ PartOf u.2.2.2.2.2.2.1 wr (128 * k) (15 + on + 16) (recF (hdF fb i (epn i) (nxf i) on) obf (shf se (32 * i)) (shf te (32 * i)) on)) (fun (u : (Nat → Int32) × (Nat → Int32) × (Nat → Int32) × (Nat → Int32) × (Nat → Int32) × (Nat → Int32) × (Nat → Int32) × (Nat → Int32) × (Nat → Int32)) => [(md 25, .inr (7, [.ref (md 0), .int (nI op), .ref (md 2), .ref (md 3), .ref (md 4), .ref (md 5), .ref (md 6), .ref (md 7), .ref (md 8), .ref (md 9), .ref (md 10), .ref (md 11), .int (nI 0), .ref (md 13), .int (nI inn), .ref (md 15), .ref (md 16), .ref (md 17), .ref (md 18), .ref (md 19), .ref (md 20), .ref (md 21), .ref (md 22), .ref (md 23), .ref (md 24)])), (md 17, .inl (g.2.1 0, 400, .inl (u.1))), (md 16, .inl (g.2.1 0, 64, .inl (u.2.1))), (md 15, .inl (g.2.1 0, 8, .inl (u.2.2.1))), (md 22, .inl (g.2.1 0, 64, .inl (kRW))), (md 18, .inl (g.2.1 0, 32, .inl (u.2.2.2.1))), (md 19, .inl (g.2.1 0, 32, .inl (u.2.2.2.2.1))), (md 21, .inl (g.2.1 0, 160, .inl (u.2.2.2.2.2.1))), (md 3, .inl (g.2.1 0, 64, .inl (te))), (md 9, .inl (g.2.1 0, 1024, .inl (u.2.2.2.2.2.2.1))), (md 2, .inl (g.2.1 0, 64, .inl (se))), (md 23, .inl (g.2.1 0, 16, .inl (u.2.2.2.2.2.2.2.1))), (md 24, .inl (g.2.1 0, 16, .inl (u.2.2.2.2.2.2.2.2))), (md 4, .inl (g.2.1 0, 2, .inl (szF epn))), (md 5, .inl (g.2.1 1, 2, .inr (.inl (vp_updL nxf i (nxf i + 1))))), (md 10, .inl (g.2.1 0, 8, .inl (szF (va_up z k (15 + on + 16))))), (md 11, .inl (g.2.1 0, 96, .inl (obf)))]) 0 0 := by
  refine enterI (by decide) rfl (Nat.le_of_ble_eq_true rfl) ?_
  intro p e s m below meth c A ls ar Q hE h0 hret hw hl
  obtain ⟨hx, hb, hr, hml, hown, hts, hlocks, hname⟩ := hE
  have hown : s.vm.findClass RX7 = some m.cls := hown
  have hw : WD g A s [(md 25, .inr (7, [.ref (md 0), .int (nI op), .ref (md 2), .ref (md 3), .ref (md 4), .ref (md 5), .ref (md 6), .ref (md 7), .ref (md 8), .ref (md 9), .ref (md 10), .ref (md 11), .int (nI on), .ref (md 13), .int (nI inn), .ref (md 15), .ref (md 16), .ref (md 17), .ref (md 18), .ref (md 19), .ref (md 20), .ref (md 21), .ref (md 22), .ref (md 23), .ref (md 24)])), (md 17, .inl (g.2.1 0, 400, .inl (rf))), (md 16, .inl (g.2.1 0, 64, .inl (wf))), (md 15, .inl (g.2.1 0, 8, .inl (sf))), (md 22, .inl (g.2.1 0, 64, .inl (kRW))), (md 18, .inl (g.2.1 0, 32, .inl (dg))), (md 19, .inl (g.2.1 0, 32, .inl (kf))), (md 21, .inl (g.2.1 0, 160, .inl (mf))), (md 3, .inl (g.2.1 0, 64, .inl (te))), (md 9, .inl (g.2.1 0, 1024, .inl (wr))), (md 2, .inl (g.2.1 0, 64, .inl (se))), (md 23, .inl (g.2.1 0, 16, .inl (wd))), (md 24, .inl (g.2.1 0, 16, .inl (mx))), (md 4, .inl (g.2.1 0, 2, .inl (szF epn))), (md 5, .inl (g.2.1 1, 2, .inr (.inl (nxf)))), (md 10, .inl (g.2.1 0, 8, .inl (szF z))), (md 11, .inl (g.2.1 0, 96, .inl (obf)))] [] s.heap [] := hw
  have hinX7 : ∀ w ∈ u_ws RX7 TX7 25, w ∈ wsX7_send := by decide +kernel
  have k19 := hts (.fieldLink RX7 19 "RecordWireModel" "epochs" "[I") (by decide +kernel)
  have k22 := hts (.fieldLink RX7 22 "RecordWireModel" "nexts" "[J") (by decide +kernel)
  have k36 := hts (.fieldLink RX7 36 "RecordWireModel" "wire" "[I") (by decide +kernel)
  have k39 := hts (.fieldLink RX7 39 "RecordWireModel" "sizes" "[I") (by decide +kernel)
  have k42 := hts (.fieldLink RX7 42 "RecordWireModel" "outbox" "[I") (by decide +kernel)
  have k57 := hts (.fieldLink RX7 57 "RecordWireModel" "digest" "[I") (by decide +kernel)
  have k145 := hts (.fieldLink RX7 145 "RecordWireModel" "isOpen" "Z") (by decide +kernel)
  have k149 := hts (.fieldLink RX7 149 "RecordWireModel" "outSize" "I") (by decide +kernel)
  have hl : lv_has ls 5 [(0, .ref (md 25)), (1, .int (nI i))] := hl
  refine lv_iload_n hx hb dX7_send_0 rfl (lv_at hl 1 rfl) ?_
  refine lv_if_eq (tgt := 9) hx hb dX7_send_1 (by decide) (fun c1 => ?_) (fun c1 => ?_)
  · skip
    rw [← nI_0] at c1
    have c1 : i = 0 := (nI_eq (by omega) (by omega)).mp c1
    refine lv_aload_n hx hb dX7_send_9 rfl (lv_at hl 0 rfl) ?_
    refine r_get (ci := 7) (v := .int (nI op)) (C := RX7) (T := TX7) (N := 25) hx hb hts hinX7 hown h0 hw 0 rfl rfl 1 (by decide) k145 rfl dX7_send_10 ?_
    refine lv_if_ne (tgt := 18) hx hb dX7_send_13 (by decide) (fun c2 => ?_) (fun c2 => ?_)
    · skip
      rw [← nI_0] at c2
      have c2 : ¬ op = 0 := fun q => c2 (((nI_eq (by omega) (by omega)).mpr q))
      refine lv_iconst (v := nI 0) hx hb dX7_send_18 (by decide +kernel) ?_
      refine lv_istore_n (lv' := [(2, .int (nI 0)), (0, .ref (md 25)), (1, .int (nI i))]) hx hb dX7_send_19 rfl hl (by decide) rfl (fun ls hl => ?_)
      have lp20 : ∀ (fu : Nat) (j : Nat), 8 - j < fu → (j ≤ k) → ∀ (H : Heap) (locs : List Loc) (ls : Array Slot), WD g A s [(md 25, .inr (7, [.ref (md 0), .int (nI op), .ref (md 2), .ref (md 3), .ref (md 4), .ref (md 5), .ref (md 6), .ref (md 7), .ref (md 8), .ref (md 9), .ref (md 10), .ref (md 11), .int (nI on), .ref (md 13), .int (nI inn), .ref (md 15), .ref (md 16), .ref (md 17), .ref (md 18), .ref (md 19), .ref (md 20), .ref (md 21), .ref (md 22), .ref (md 23), .ref (md 24)])), (md 17, .inl (g.2.1 0, 400, .inl (rf))), (md 16, .inl (g.2.1 0, 64, .inl (wf))), (md 15, .inl (g.2.1 0, 8, .inl (sf))), (md 22, .inl (g.2.1 0, 64, .inl (kRW))), (md 18, .inl (g.2.1 0, 32, .inl (dg))), (md 19, .inl (g.2.1 0, 32, .inl (kf))), (md 21, .inl (g.2.1 0, 160, .inl (mf))), (md 3, .inl (g.2.1 0, 64, .inl (te))), (md 9, .inl (g.2.1 0, 1024, .inl (wr))), (md 2, .inl (g.2.1 0, 64, .inl (se))), (md 23, .inl (g.2.1 0, 16, .inl (wd))), (md 24, .inl (g.2.1 0, 16, .inl (mx))), (md 4, .inl (g.2.1 0, 2, .inl (szF epn))), (md 5, .inl (g.2.1 1, 2, .inr (.inl (nxf)))), (md 10, .inl (g.2.1 0, 8, .inl (szF z))), (md 11, .inl (g.2.1 0, 96, .inl (obf)))] [] H locs → lv_has ls 5 [(2, .int (nI j)), (0, .ref (md 25)), (1, .int (nI i))] → W p l e { frames := 5, cells := 0, slots := 0, locals := 123 } s m ar below meth c H locs 0 0 Q (F0 m 20 ls []) := by
        intro fu
        induction fu with
        | zero => intro j hmz; exact absurd hmz (Nat.not_lt_zero _)
        | succ fu ih =>
          intro j hms hj H locs ls hw hl
          have hzj := hz j (by omega)
          refine lv_iload_n hx hb dX7_send_20 rfl (lv_at hl 0 rfl) ?_
          refine lv_bipush (v := nI 8) hx hb dX7_send_21 (by decide +kernel) ?_
          refine lv_icmp_ge (tgt := 41) hx hb dX7_send_23 (by decide) (fun c3 => ?_) (fun c3 => ?_)
          · skip
            have c3 : 8 ≤ j := (nI_leI (by omega) (by omega)).mp c3
            exfalso; omega
          · skip
            have c3 : ¬ 8 ≤ j := fun q => c3 (((nI_leI (by omega) (by omega)).mpr q))
            refine lv_aload_n hx hb dX7_send_26 rfl (lv_at hl 1 rfl) ?_
            refine r_get (ci := 7) (v := .ref (md 10)) (C := RX7) (T := TX7) (N := 25) hx hb hts hinX7 hown h0 hw 0 rfl rfl 10 (by decide) k39 rfl dX7_send_27 ?_
            refine lv_iload_n hx hb dX7_send_30 rfl (lv_at hl 0 rfl) ?_
            refine r_iald hx hb h0 hw 15 rfl (i := j) (by omega) (by omega) dX7_send_31 ?_
            refine r_te (y := nI (z j)) rfl ?_
            refine lv_if_le (tgt := 41) hx hb dX7_send_32 (by decide) (fun c4 => ?_) (fun c4 => ?_)
            · skip
              rw [← nI_0] at c4
              have c4 : (z j) ≤ 0 := (nI_leI (by omega) (by omega)).mp c4
              have hjk : j = k := by rcases Nat.lt_or_ge j k with q | q; exact absurd (by omega) (hk1 j q); omega
              have hwS5 := hw; have hlS6 := hl
              subst j
              have hw := hwS5; have hl := hlS6
              refine lv_iload_n hx hb dX7_send_41 rfl (lv_at hl 0 rfl) ?_
              refine lv_bipush (v := nI 8) hx hb dX7_send_42 (by decide +kernel) ?_
              refine lv_icmp_ne (tgt := 50) hx hb dX7_send_44 (by decide) (fun c7 => ?_) (fun c7 => ?_)
              · skip
                have c7 : ¬ k = 8 := fun q => c7 (((nI_eq (by omega) (by omega)).mpr q))
                refine lv_sipush (v := nI 128) hx hb dX7_send_50 (by decide +kernel) ?_
                refine lv_iload_n hx hb dX7_send_53 rfl (lv_at hl 0 rfl) ?_
                refine lv_imul hx hb dX7_send_54 ?_
                refine r_te (y := nI (128 * k)) (pk_mul 128 k) ?_
                refine lv_istore_n (lv' := [(3, .int (nI (128 * k))), (2, .int (nI k)), (0, .ref (md 25)), (1, .int (nI i))]) hx hb dX7_send_55 rfl hl (by decide) rfl (fun ls hl => ?_)
                refine lv_aload_n hx hb dX7_send_56 rfl (lv_at hl 2 rfl) ?_
                refine r_get (ci := 7) (v := .ref (md 9)) (C := RX7) (T := TX7) (N := 25) hx hb hts hinX7 hown h0 hw 0 rfl rfl 9 (by decide) k36 rfl dX7_send_57 ?_
                refine lv_iload_n hx hb dX7_send_60 rfl (lv_at hl 0 rfl) ?_
                refine lv_iload_n hx hb dX7_send_61 rfl (lv_at hl 3 rfl) ?_
                refine r_iast hx hb h0 hw 9 rfl (i := 128 * k) (by omega) (by omega) dX7_send_62 (fun H locs hw => ?_)
                have hw : WD g A s [(md 25, .inr (7, [.ref (md 0), .int (nI op), .ref (md 2), .ref (md 3), .ref (md 4), .ref (md 5), .ref (md 6), .ref (md 7), .ref (md 8), .ref (md 9), .ref (md 10), .ref (md 11), .int (nI on), .ref (md 13), .int (nI inn), .ref (md 15), .ref (md 16), .ref (md 17), .ref (md 18), .ref (md 19), .ref (md 20), .ref (md 21), .ref (md 22), .ref (md 23), .ref (md 24)])), (md 17, .inl (g.2.1 0, 400, .inl (rf))), (md 16, .inl (g.2.1 0, 64, .inl (wf))), (md 15, .inl (g.2.1 0, 8, .inl (sf))), (md 22, .inl (g.2.1 0, 64, .inl (kRW))), (md 18, .inl (g.2.1 0, 32, .inl (dg))), (md 19, .inl (g.2.1 0, 32, .inl (kf))), (md 21, .inl (g.2.1 0, 160, .inl (mf))), (md 3, .inl (g.2.1 0, 64, .inl (te))), (md 9, .inl (g.2.1 0, 1024, .inl (upd wr (128 * k) (nI i)))), (md 2, .inl (g.2.1 0, 64, .inl (se))), (md 23, .inl (g.2.1 0, 16, .inl (wd))), (md 24, .inl (g.2.1 0, 16, .inl (mx))), (md 4, .inl (g.2.1 0, 2, .inl (szF epn))), (md 5, .inl (g.2.1 1, 2, .inr (.inl (nxf)))), (md 10, .inl (g.2.1 0, 8, .inl (szF z))), (md 11, .inl (g.2.1 0, 96, .inl (obf)))] [] H locs := hw
                refine lv_aload_n hx hb dX7_send_63 rfl (lv_at hl 2 rfl) ?_
                refine lv_iload_n hx hb dX7_send_64 rfl (lv_at hl 0 rfl) ?_
                refine lv_iconst (v := nI 1) hx hb dX7_send_65 (by decide +kernel) ?_
                refine lv_iadd hx hb dX7_send_66 ?_
                refine r_te (y := nI (128 * k + 1)) (nI_add (128 * k) 1) ?_
                refine lv_aload_n hx hb dX7_send_67 rfl (lv_at hl 2 rfl) ?_
                refine r_get (ci := 7) (v := .ref (md 4)) (C := RX7) (T := TX7) (N := 25) hx hb hts hinX7 hown h0 hw 0 rfl rfl 4 (by decide) k19 rfl dX7_send_68 ?_
                refine lv_iload_n hx hb dX7_send_71 rfl (lv_at hl 3 rfl) ?_
                refine r_iald hx hb h0 hw 13 rfl (i := i) (by omega) (by omega) dX7_send_72 ?_
                refine r_te (y := nI (epn i)) rfl ?_
                refine lv_i2l (v := (nI (epn i)).toInt64) hx hb dX7_send_73 rfl ?_
                refine lv_iconst (v := nI 4) hx hb dX7_send_74 (by decide +kernel) ?_
                refine r_callv (wr := [(md 17, .inl (g.2.1 0, 400, .inl (rf))), (md 16, .inl (g.2.1 0, 64, .inl (wf))), (md 15, .inl (g.2.1 0, 8, .inl (sf))), (md 22, .inl (g.2.1 0, 64, .inl (kRW))), (md 18, .inl (g.2.1 0, 32, .inl (dg))), (md 19, .inl (g.2.1 0, 32, .inl (kf))), (md 21, .inl (g.2.1 0, 160, .inl (mf))), (md 3, .inl (g.2.1 0, 64, .inl (te))), (md 2, .inl (g.2.1 0, 64, .inl (se))), (md 23, .inl (g.2.1 0, 16, .inl (wd))), (md 24, .inl (g.2.1 0, 16, .inl (mx))), (md 4, .inl (g.2.1 0, 2, .inl (szF epn))), (md 5, .inl (g.2.1 1, 2, .inr (.inl (nxf)))), (md 10, .inl (g.2.1 0, 8, .inl (szF z))), (md 11, .inl (g.2.1 0, 96, .inl (obf)))]) [0, 9] [1, 2, 3, 4, 5, 6, 7, 8, 10, 11, 12, 13, 14, 15, 16] h0 hw rfl rfl (by decide) (by decide) (va_runV (As := [.int (nI (128 * k + 1)), .long ((nI (epn i)).toInt64), .int (nI 4)]) (rest := []) ⟨hx, hb, hml, hown, hts⟩ (c_X7_number l g md op on inn (upd wr (128 * k) (nI i)) (128 * k + 1) ((nI (epn i)).toInt64) 4 (by omega) (by omega) _) (cwV 3 hts gX7_send_X7_number rfl rfl rfl (by decide +kernel) ⟨Nat.le_of_ble_eq_true rfl, Nat.le_of_ble_eq_true rfl⟩) (preV_of [0, 9] [.int (nI (128 * k + 1)), .long ((nI (epn i)).toInt64), .int (nI 4)] h0 hw rfl (by decide) 0 7 rfl rfl) rfl rfl hl.1 rfl (lv_room (Nat.le_of_ble_eq_true rfl)) dX7_send_75 ⟨Nat.le_of_ble_eq_true rfl, Nat.le_of_ble_eq_true rfl⟩) (fun u9 H locs hp10 hw => ?_)
                have hw : WD g A s [(md 17, .inl (g.2.1 0, 400, .inl (rf))), (md 16, .inl (g.2.1 0, 64, .inl (wf))), (md 15, .inl (g.2.1 0, 8, .inl (sf))), (md 22, .inl (g.2.1 0, 64, .inl (kRW))), (md 18, .inl (g.2.1 0, 32, .inl (dg))), (md 19, .inl (g.2.1 0, 32, .inl (kf))), (md 21, .inl (g.2.1 0, 160, .inl (mf))), (md 3, .inl (g.2.1 0, 64, .inl (te))), (md 2, .inl (g.2.1 0, 64, .inl (se))), (md 23, .inl (g.2.1 0, 16, .inl (wd))), (md 24, .inl (g.2.1 0, 16, .inl (mx))), (md 4, .inl (g.2.1 0, 2, .inl (szF epn))), (md 5, .inl (g.2.1 1, 2, .inr (.inl (nxf)))), (md 10, .inl (g.2.1 0, 8, .inl (szF z))), (md 11, .inl (g.2.1 0, 96, .inl (obf))), (md 25, .inr (7, [.ref (md 0), .int (nI op), .ref (md 2), .ref (md 3), .ref (md 4), .ref (md 5), .ref (md 6), .ref (md 7), .ref (md 8), .ref (md 9), .ref (md 10), .ref (md 11), .int (nI on), .ref (md 13), .int (nI inn), .ref (md 15), .ref (md 16), .ref (md 17), .ref (md 18), .ref (md 19), .ref (md 20), .ref (md 21), .ref (md 22), .ref (md 23), .ref (md 24)])), (md 9, .inl (g.2.1 0, 1024, .inl (apD (upd wr (128 * k) (nI i)) (128 * k + 1) ((nI (epn i)).toInt64) 4 4)))] [] H locs := hw
                refine lv_aload_n hx hb dX7_send_78 rfl (lv_at hl 2 rfl) ?_
                refine lv_iload_n hx hb dX7_send_79 rfl (lv_at hl 0 rfl) ?_
                refine lv_iconst (v := nI 5) hx hb dX7_send_80 (by decide +kernel) ?_
                refine lv_iadd hx hb dX7_send_81 ?_
                refine r_te (y := nI (128 * k + 5)) (nI_add (128 * k) 5) ?_
                refine lv_aload_n hx hb dX7_send_82 rfl (lv_at hl 2 rfl) ?_
                refine r_get (ci := 7) (v := .ref (md 5)) (C := RX7) (T := TX7) (N := 25) hx hb hts hinX7 hown h0 hw 15 rfl rfl 5 (by decide) k22 rfl dX7_send_83 ?_
                refine lv_iload_n hx hb dX7_send_86 rfl (lv_at hl 3 rfl) ?_
                refine r_lald hx hb h0 hw 12 rfl (i := i) (by omega) (by omega) dX7_send_87 ?_
                refine lv_bipush (v := nI 8) hx hb dX7_send_88 (by decide +kernel) ?_
                refine r_callv (wr := [(md 17, .inl (g.2.1 0, 400, .inl (rf))), (md 16, .inl (g.2.1 0, 64, .inl (wf))), (md 15, .inl (g.2.1 0, 8, .inl (sf))), (md 22, .inl (g.2.1 0, 64, .inl (kRW))), (md 18, .inl (g.2.1 0, 32, .inl (dg))), (md 19, .inl (g.2.1 0, 32, .inl (kf))), (md 21, .inl (g.2.1 0, 160, .inl (mf))), (md 3, .inl (g.2.1 0, 64, .inl (te))), (md 2, .inl (g.2.1 0, 64, .inl (se))), (md 23, .inl (g.2.1 0, 16, .inl (wd))), (md 24, .inl (g.2.1 0, 16, .inl (mx))), (md 4, .inl (g.2.1 0, 2, .inl (szF epn))), (md 5, .inl (g.2.1 1, 2, .inr (.inl (nxf)))), (md 10, .inl (g.2.1 0, 8, .inl (szF z))), (md 11, .inl (g.2.1 0, 96, .inl (obf)))]) [15, 16] [0, 1, 2, 3, 4, 5, 6, 7, 8, 9, 10, 11, 12, 13, 14] h0 hw rfl rfl (by decide) (by decide) (va_runV (As := [.int (nI (128 * k + 5)), .long (nxf i), .int (nI 8)]) (rest := []) ⟨hx, hb, hml, hown, hts⟩ (c_X7_number l g md op on inn (apD (upd wr (128 * k) (nI i)) (128 * k + 1) ((nI (epn i)).toInt64) 4 4) (128 * k + 5) (nxf i) 8 (by omega) (by omega) _) (cwV 3 hts gX7_send_X7_number rfl rfl rfl (by decide +kernel) ⟨Nat.le_of_ble_eq_true rfl, Nat.le_of_ble_eq_true rfl⟩) (preV_of [15, 16] [.int (nI (128 * k + 5)), .long (nxf i), .int (nI 8)] h0 hw rfl (by decide) 15 7 rfl rfl) rfl rfl hl.1 rfl (lv_room (Nat.le_of_ble_eq_true rfl)) dX7_send_90 ⟨Nat.le_of_ble_eq_true rfl, Nat.le_of_ble_eq_true rfl⟩) (fun u12 H locs hp13 hw => ?_)
                have hw : WD g A s [(md 17, .inl (g.2.1 0, 400, .inl (rf))), (md 16, .inl (g.2.1 0, 64, .inl (wf))), (md 15, .inl (g.2.1 0, 8, .inl (sf))), (md 22, .inl (g.2.1 0, 64, .inl (kRW))), (md 18, .inl (g.2.1 0, 32, .inl (dg))), (md 19, .inl (g.2.1 0, 32, .inl (kf))), (md 21, .inl (g.2.1 0, 160, .inl (mf))), (md 3, .inl (g.2.1 0, 64, .inl (te))), (md 2, .inl (g.2.1 0, 64, .inl (se))), (md 23, .inl (g.2.1 0, 16, .inl (wd))), (md 24, .inl (g.2.1 0, 16, .inl (mx))), (md 4, .inl (g.2.1 0, 2, .inl (szF epn))), (md 5, .inl (g.2.1 1, 2, .inr (.inl (nxf)))), (md 10, .inl (g.2.1 0, 8, .inl (szF z))), (md 11, .inl (g.2.1 0, 96, .inl (obf))), (md 25, .inr (7, [.ref (md 0), .int (nI op), .ref (md 2), .ref (md 3), .ref (md 4), .ref (md 5), .ref (md 6), .ref (md 7), .ref (md 8), .ref (md 9), .ref (md 10), .ref (md 11), .int (nI on), .ref (md 13), .int (nI inn), .ref (md 15), .ref (md 16), .ref (md 17), .ref (md 18), .ref (md 19), .ref (md 20), .ref (md 21), .ref (md 22), .ref (md 23), .ref (md 24)])), (md 9, .inl (g.2.1 0, 1024, .inl (apD (apD (upd wr (128 * k) (nI i)) (128 * k + 1) ((nI (epn i)).toInt64) 4 4) (128 * k + 5) (nxf i) 8 8)))] [] H locs := hw
                refine lv_aload_n hx hb dX7_send_93 rfl (lv_at hl 2 rfl) ?_
                refine lv_iload_n hx hb dX7_send_94 rfl (lv_at hl 0 rfl) ?_
                refine lv_bipush (v := nI 13) hx hb dX7_send_95 (by decide +kernel) ?_
                refine lv_iadd hx hb dX7_send_97 ?_
                refine r_te (y := nI (128 * k + 13)) (nI_add (128 * k) 13) ?_
                refine lv_aload_n hx hb dX7_send_98 rfl (lv_at hl 2 rfl) ?_
                refine r_get (ci := 7) (v := .int (nI on)) (C := RX7) (T := TX7) (N := 25) hx hb hts hinX7 hown h0 hw 15 rfl rfl 12 (by decide) k149 rfl dX7_send_99 ?_
                refine lv_i2l (v := (nI on).toInt64) hx hb dX7_send_102 rfl ?_
                refine lv_iconst (v := nI 2) hx hb dX7_send_103 (by decide +kernel) ?_
                refine r_callv (wr := [(md 17, .inl (g.2.1 0, 400, .inl (rf))), (md 16, .inl (g.2.1 0, 64, .inl (wf))), (md 15, .inl (g.2.1 0, 8, .inl (sf))), (md 22, .inl (g.2.1 0, 64, .inl (kRW))), (md 18, .inl (g.2.1 0, 32, .inl (dg))), (md 19, .inl (g.2.1 0, 32, .inl (kf))), (md 21, .inl (g.2.1 0, 160, .inl (mf))), (md 3, .inl (g.2.1 0, 64, .inl (te))), (md 2, .inl (g.2.1 0, 64, .inl (se))), (md 23, .inl (g.2.1 0, 16, .inl (wd))), (md 24, .inl (g.2.1 0, 16, .inl (mx))), (md 4, .inl (g.2.1 0, 2, .inl (szF epn))), (md 5, .inl (g.2.1 1, 2, .inr (.inl (nxf)))), (md 10, .inl (g.2.1 0, 8, .inl (szF z))), (md 11, .inl (g.2.1 0, 96, .inl (obf)))]) [15, 16] [0, 1, 2, 3, 4, 5, 6, 7, 8, 9, 10, 11, 12, 13, 14] h0 hw rfl rfl (by decide) (by decide) (va_runV (As := [.int (nI (128 * k + 13)), .long ((nI on).toInt64), .int (nI 2)]) (rest := []) ⟨hx, hb, hml, hown, hts⟩ (c_X7_number l g md op on inn (apD (apD (upd wr (128 * k) (nI i)) (128 * k + 1) ((nI (epn i)).toInt64) 4 4) (128 * k + 5) (nxf i) 8 8) (128 * k + 13) ((nI on).toInt64) 2 (by omega) (by omega) _) (cwV 3 hts gX7_send_X7_number rfl rfl rfl (by decide +kernel) ⟨Nat.le_of_ble_eq_true rfl, Nat.le_of_ble_eq_true rfl⟩) (preV_of [15, 16] [.int (nI (128 * k + 13)), .long ((nI on).toInt64), .int (nI 2)] h0 hw rfl (by decide) 15 7 rfl rfl) rfl rfl hl.1 rfl (lv_room (Nat.le_of_ble_eq_true rfl)) dX7_send_104 ⟨Nat.le_of_ble_eq_true rfl, Nat.le_of_ble_eq_true rfl⟩) (fun u15 H locs hp16 hw => ?_)
                have hw : WD g A s [(md 17, .inl (g.2.1 0, 400, .inl (rf))), (md 16, .inl (g.2.1 0, 64, .inl (wf))), (md 15, .inl (g.2.1 0, 8, .inl (sf))), (md 22, .inl (g.2.1 0, 64, .inl (kRW))), (md 18, .inl (g.2.1 0, 32, .inl (dg))), (md 19, .inl (g.2.1 0, 32, .inl (kf))), (md 21, .inl (g.2.1 0, 160, .inl (mf))), (md 3, .inl (g.2.1 0, 64, .inl (te))), (md 2, .inl (g.2.1 0, 64, .inl (se))), (md 23, .inl (g.2.1 0, 16, .inl (wd))), (md 24, .inl (g.2.1 0, 16, .inl (mx))), (md 4, .inl (g.2.1 0, 2, .inl (szF epn))), (md 5, .inl (g.2.1 1, 2, .inr (.inl (nxf)))), (md 10, .inl (g.2.1 0, 8, .inl (szF z))), (md 11, .inl (g.2.1 0, 96, .inl (obf))), (md 25, .inr (7, [.ref (md 0), .int (nI op), .ref (md 2), .ref (md 3), .ref (md 4), .ref (md 5), .ref (md 6), .ref (md 7), .ref (md 8), .ref (md 9), .ref (md 10), .ref (md 11), .int (nI on), .ref (md 13), .int (nI inn), .ref (md 15), .ref (md 16), .ref (md 17), .ref (md 18), .ref (md 19), .ref (md 20), .ref (md 21), .ref (md 22), .ref (md 23), .ref (md 24)])), (md 9, .inl (g.2.1 0, 1024, .inl (apD (apD (apD (upd wr (128 * k) (nI i)) (128 * k + 1) ((nI (epn i)).toInt64) 4 4) (128 * k + 5) (nxf i) 8 8) (128 * k + 13) ((nI on).toInt64) 2 2)))] [] H locs := hw
                have hw : WD g A s [(md 17, .inl (g.2.1 0, 400, .inl (rf))), (md 16, .inl (g.2.1 0, 64, .inl (wf))), (md 15, .inl (g.2.1 0, 8, .inl (sf))), (md 22, .inl (g.2.1 0, 64, .inl (kRW))), (md 18, .inl (g.2.1 0, 32, .inl (dg))), (md 19, .inl (g.2.1 0, 32, .inl (kf))), (md 21, .inl (g.2.1 0, 160, .inl (mf))), (md 3, .inl (g.2.1 0, 64, .inl (te))), (md 2, .inl (g.2.1 0, 64, .inl (se))), (md 23, .inl (g.2.1 0, 16, .inl (wd))), (md 24, .inl (g.2.1 0, 16, .inl (mx))), (md 4, .inl (g.2.1 0, 2, .inl (szF epn))), (md 5, .inl (g.2.1 1, 2, .inr (.inl (nxf)))), (md 10, .inl (g.2.1 0, 8, .inl (szF z))), (md 11, .inl (g.2.1 0, 96, .inl (obf))), (md 25, .inr (7, [.ref (md 0), .int (nI op), .ref (md 2), .ref (md 3), .ref (md 4), .ref (md 5), .ref (md 6), .ref (md 7), .ref (md 8), .ref (md 9), .ref (md 10), .ref (md 11), .int (nI on), .ref (md 13), .int (nI inn), .ref (md 15), .ref (md 16), .ref (md 17), .ref (md 18), .ref (md 19), .ref (md 20), .ref (md 21), .ref (md 22), .ref (md 23), .ref (md 24)])), (md 9, .inl (g.2.1 0, 1024, .inl (hdM wr (128 * k) i (epn i) (nxf i) on)))] [] H locs := hw
                refine lv_iconst (v := nI 0) hx hb dX7_send_107 (by decide +kernel) ?_
                refine lv_istore (lv' := [(4, .int (nI 0)), (3, .int (nI (128 * k))), (2, .int (nI k)), (0, .ref (md 25)), (1, .int (nI i))]) hx hb dX7_send_108 hl (by decide) rfl (fun ls hl => ?_)
                have lp110 : ∀ (fu : Nat) (t : Nat) (wv : Nat → Int32) (mv : Nat → Int32) (dv : Nat → Int32), on - t < fu → (t ≤ on) → (PartOf wv wr (128 * k) (15 + t) (wrF (hdF fb i (epn i) (nxf i) on) obf (shf se (32 * i)) t)) → (¬ t % 64 = 0 → mv = dbl (sIn (shf se (32 * i)) (hdF fb i (epn i) (nxf i) on) (nI (t / 64))) 10 ∧ dv = sIn (shf se (32 * i)) (hdF fb i (epn i) (nxf i) on) (nI (t / 64))) → ∀ (H : Heap) (locs : List Loc) (ls : Array Slot), WD g A s [(md 17, .inl (g.2.1 0, 400, .inl (rf))), (md 16, .inl (g.2.1 0, 64, .inl (wf))), (md 15, .inl (g.2.1 0, 8, .inl (sf))), (md 22, .inl (g.2.1 0, 64, .inl (kRW))), (md 18, .inl (g.2.1 0, 32, .inl (dg))), (md 19, .inl (g.2.1 0, 32, .inl (kf))), (md 21, .inl (g.2.1 0, 160, .inl (mf))), (md 3, .inl (g.2.1 0, 64, .inl (te))), (md 2, .inl (g.2.1 0, 64, .inl (se))), (md 23, .inl (g.2.1 0, 16, .inl (dv))), (md 24, .inl (g.2.1 0, 16, .inl (mv))), (md 4, .inl (g.2.1 0, 2, .inl (szF epn))), (md 5, .inl (g.2.1 1, 2, .inr (.inl (nxf)))), (md 10, .inl (g.2.1 0, 8, .inl (szF z))), (md 11, .inl (g.2.1 0, 96, .inl (obf))), (md 25, .inr (7, [.ref (md 0), .int (nI op), .ref (md 2), .ref (md 3), .ref (md 4), .ref (md 5), .ref (md 6), .ref (md 7), .ref (md 8), .ref (md 9), .ref (md 10), .ref (md 11), .int (nI on), .ref (md 13), .int (nI inn), .ref (md 15), .ref (md 16), .ref (md 17), .ref (md 18), .ref (md 19), .ref (md 20), .ref (md 21), .ref (md 22), .ref (md 23), .ref (md 24)])), (md 9, .inl (g.2.1 0, 1024, .inl (wv)))] [] H locs → lv_has ls 5 [(4, .int (nI t)), (0, .ref (md 25)), (1, .int (nI i)), (2, .int (nI k)), (3, .int (nI (128 * k)))] → W p l e { frames := 5, cells := 0, slots := 0, locals := 123 } s m ar below meth c H locs 0 0 Q (F0 m 110 ls []) := by
                  intro fu
                  induction fu with
                  | zero => intro t wv mv dv hmz; exact absurd hmz (Nat.not_lt_zero _)
                  | succ fu ih =>
                    intro t wv mv dv hms ht hP hg H locs ls hw hl
                    refine lv_iload hx hb dX7_send_110 (lv_at hl 0 rfl) ?_
                    refine lv_aload_n hx hb dX7_send_112 rfl (lv_at hl 1 rfl) ?_
                    refine r_get (ci := 7) (v := .int (nI on)) (C := RX7) (T := TX7) (N := 25) hx hb hts hinX7 hown h0 hw 15 rfl rfl 12 (by decide) k149 rfl dX7_send_113 ?_
                    refine lv_icmp_ge (tgt := 153) hx hb dX7_send_116 (by decide) (fun c17 => ?_) (fun c17 => ?_)
                    · skip
                      have c17 : on ≤ t := (nI_leI (by omega) (by omega)).mp c17
                      have hq : t = on := by omega
                      have hwS18 := hw; have hlS19 := hl
                      subst t
                      have hw := hwS18; have hl := hlS19
                      refine lv_aload_n hx hb dX7_send_153 rfl (lv_at hl 1 rfl) ?_
                      refine lv_iload_n hx hb dX7_send_154 rfl (lv_at hl 2 rfl) ?_
                      refine lv_iload_n hx hb dX7_send_155 rfl (lv_at hl 3 rfl) ?_
                      refine lv_bipush (v := nI 15) hx hb dX7_send_156 (by decide +kernel) ?_
                      refine lv_aload_n hx hb dX7_send_158 rfl (lv_at hl 1 rfl) ?_
                      refine r_get (ci := 7) (v := .int (nI on)) (C := RX7) (T := TX7) (N := 25) hx hb hts hinX7 hown h0 hw 15 rfl rfl 12 (by decide) k149 rfl dX7_send_159 ?_
                      refine lv_iadd hx hb dX7_send_162 ?_
                      refine r_te (y := nI (15 + on)) (nI_add 15 on) ?_
                      refine r_callv (wr := [(md 2, .inl (g.2.1 0, 64, .inl (se))), (md 23, .inl (g.2.1 0, 16, .inl (dv))), (md 24, .inl (g.2.1 0, 16, .inl (mv))), (md 4, .inl (g.2.1 0, 2, .inl (szF epn))), (md 5, .inl (g.2.1 1, 2, .inr (.inl (nxf)))), (md 10, .inl (g.2.1 0, 8, .inl (szF z))), (md 11, .inl (g.2.1 0, 96, .inl (obf)))]) [15, 0, 1, 2, 3, 4, 5, 6, 7, 16] [8, 9, 10, 11, 12, 13, 14] h0 hw rfl rfl (by decide) (by decide) (va_runV (As := [.int (nI i), .int (nI k), .int (nI (15 + on))]) (rest := []) ⟨hx, hb, hml, hown, hts⟩ (c_X7_tag l g md op on inn rf wf sf dg kf mf te wv i k (15 + on) (by omega) (by omega) (by omega) _) (cwV 3 hts gX7_send_X7_tag rfl rfl rfl (by decide +kernel) ⟨Nat.le_of_ble_eq_true rfl, Nat.le_of_ble_eq_true rfl⟩) (preV_of [15, 0, 1, 2, 3, 4, 5, 6, 7, 16] [.int (nI i), .int (nI k), .int (nI (15 + on))] h0 hw rfl (by decide) 15 7 rfl rfl) rfl rfl hl.1 rfl (lv_room (Nat.le_of_ble_eq_true rfl)) dX7_send_163 ⟨Nat.le_of_ble_eq_true rfl, Nat.le_of_ble_eq_true rfl⟩) (fun u21 H locs hp22 hw => ?_)
                      obtain ⟨r2_23, w2_24, s2_25, k2_26, m2_27⟩ := u21
                      have hw : WD g A s [(md 2, .inl (g.2.1 0, 64, .inl (se))), (md 23, .inl (g.2.1 0, 16, .inl (dv))), (md 24, .inl (g.2.1 0, 16, .inl (mv))), (md 4, .inl (g.2.1 0, 2, .inl (szF epn))), (md 5, .inl (g.2.1 1, 2, .inr (.inl (nxf)))), (md 10, .inl (g.2.1 0, 8, .inl (szF z))), (md 11, .inl (g.2.1 0, 96, .inl (obf))), (md 25, .inr (7, [.ref (md 0), .int (nI op), .ref (md 2), .ref (md 3), .ref (md 4), .ref (md 5), .ref (md 6), .ref (md 7), .ref (md 8), .ref (md 9), .ref (md 10), .ref (md 11), .int (nI on), .ref (md 13), .int (nI inn), .ref (md 15), .ref (md 16), .ref (md 17), .ref (md 18), .ref (md 19), .ref (md 20), .ref (md 21), .ref (md 22), .ref (md 23), .ref (md 24)])), (md 17, .inl (g.2.1 0, 400, .inl (r2_23))), (md 16, .inl (g.2.1 0, 64, .inl (w2_24))), (md 15, .inl (g.2.1 0, 8, .inl (s2_25))), (md 22, .inl (g.2.1 0, 64, .inl (kRW))), (md 18, .inl (g.2.1 0, 32, .inl (hmv (shf te (32 * i)) (shf wv (128 * k)) (15 + on)))), (md 19, .inl (g.2.1 0, 32, .inl (k2_26))), (md 21, .inl (g.2.1 0, 160, .inl (m2_27))), (md 3, .inl (g.2.1 0, 64, .inl (te))), (md 9, .inl (g.2.1 0, 1024, .inl (wv)))] [] H locs := hw
                      have hw := hw.cong 12 rfl (f' := hmv (shf te (32 * i)) (wrF (hdF fb i (epn i) (nxf i) on) obf (shf se (32 * i)) on) (15 + on)) (hmv_cong EqB.rf hP.1)
                      have hw : WD g A s [(md 2, .inl (g.2.1 0, 64, .inl (se))), (md 23, .inl (g.2.1 0, 16, .inl (dv))), (md 24, .inl (g.2.1 0, 16, .inl (mv))), (md 4, .inl (g.2.1 0, 2, .inl (szF epn))), (md 5, .inl (g.2.1 1, 2, .inr (.inl (nxf)))), (md 10, .inl (g.2.1 0, 8, .inl (szF z))), (md 11, .inl (g.2.1 0, 96, .inl (obf))), (md 25, .inr (7, [.ref (md 0), .int (nI op), .ref (md 2), .ref (md 3), .ref (md 4), .ref (md 5), .ref (md 6), .ref (md 7), .ref (md 8), .ref (md 9), .ref (md 10), .ref (md 11), .int (nI on), .ref (md 13), .int (nI inn), .ref (md 15), .ref (md 16), .ref (md 17), .ref (md 18), .ref (md 19), .ref (md 20), .ref (md 21), .ref (md 22), .ref (md 23), .ref (md 24)])), (md 17, .inl (g.2.1 0, 400, .inl (r2_23))), (md 16, .inl (g.2.1 0, 64, .inl (w2_24))), (md 15, .inl (g.2.1 0, 8, .inl (s2_25))), (md 22, .inl (g.2.1 0, 64, .inl (kRW))), (md 18, .inl (g.2.1 0, 32, .inl (hmv (shf te (32 * i)) (wrF (hdF fb i (epn i) (nxf i) on) obf (shf se (32 * i)) on) (15 + on)))), (md 19, .inl (g.2.1 0, 32, .inl (k2_26))), (md 21, .inl (g.2.1 0, 160, .inl (m2_27))), (md 3, .inl (g.2.1 0, 64, .inl (te))), (md 9, .inl (g.2.1 0, 1024, .inl (wv)))] [] _ _ := hw
                      refine lv_iconst (v := nI 0) hx hb dX7_send_166 (by decide +kernel) ?_
                      refine lv_istore (lv' := [(4, .int (nI 0)), (0, .ref (md 25)), (1, .int (nI i)), (2, .int (nI k)), (3, .int (nI (128 * k)))]) hx hb dX7_send_167 hl (by decide) rfl (fun ls hl => ?_)
                      have lp169 : ∀ (fu : Nat) (t : Nat) (wv : Nat → Int32), 16 - t < fu → (t ≤ 16) → (PartOf wv wr (128 * k) (15 + on + t) (apA (wrF (hdF fb i (epn i) (nxf i) on) obf (shf se (32 * i)) on) (15 + on) (hmv (shf te (32 * i)) (wrF (hdF fb i (epn i) (nxf i) on) obf (shf se (32 * i)) on) (15 + on)) t)) → ∀ (H : Heap) (locs : List Loc) (ls : Array Slot), WD g A s [(md 2, .inl (g.2.1 0, 64, .inl (se))), (md 23, .inl (g.2.1 0, 16, .inl (dv))), (md 24, .inl (g.2.1 0, 16, .inl (mv))), (md 4, .inl (g.2.1 0, 2, .inl (szF epn))), (md 5, .inl (g.2.1 1, 2, .inr (.inl (nxf)))), (md 10, .inl (g.2.1 0, 8, .inl (szF z))), (md 11, .inl (g.2.1 0, 96, .inl (obf))), (md 25, .inr (7, [.ref (md 0), .int (nI op), .ref (md 2), .ref (md 3), .ref (md 4), .ref (md 5), .ref (md 6), .ref (md 7), .ref (md 8), .ref (md 9), .ref (md 10), .ref (md 11), .int (nI on), .ref (md 13), .int (nI inn), .ref (md 15), .ref (md 16), .ref (md 17), .ref (md 18), .ref (md 19), .ref (md 20), .ref (md 21), .ref (md 22), .ref (md 23), .ref (md 24)])), (md 17, .inl (g.2.1 0, 400, .inl (r2_23))), (md 16, .inl (g.2.1 0, 64, .inl (w2_24))), (md 15, .inl (g.2.1 0, 8, .inl (s2_25))), (md 22, .inl (g.2.1 0, 64, .inl (kRW))), (md 18, .inl (g.2.1 0, 32, .inl (hmv (shf te (32 * i)) (wrF (hdF fb i (epn i) (nxf i) on) obf (shf se (32 * i)) on) (15 + on)))), (md 19, .inl (g.2.1 0, 32, .inl (k2_26))), (md 21, .inl (g.2.1 0, 160, .inl (m2_27))), (md 3, .inl (g.2.1 0, 64, .inl (te))), (md 9, .inl (g.2.1 0, 1024, .inl (wv)))] [] H locs → lv_has ls 5 [(4, .int (nI t)), (0, .ref (md 25)), (1, .int (nI i)), (2, .int (nI k)), (3, .int (nI (128 * k)))] → W p l e { frames := 5, cells := 0, slots := 0, locals := 123 } s m ar below meth c H locs 0 0 Q (F0 m 169 ls []) := by
                        intro fu
                        induction fu with
                        | zero => intro t wv hmz; exact absurd hmz (Nat.not_lt_zero _)
                        | succ fu ih =>
                          intro t wv hms ht hP H locs ls hw hl
                          refine lv_iload hx hb dX7_send_169 (lv_at hl 0 rfl) ?_
                          refine lv_bipush (v := nI 16) hx hb dX7_send_171 (by decide +kernel) ?_
                          refine lv_icmp_ge (tgt := 206) hx hb dX7_send_173 (by decide) (fun c28 => ?_) (fun c28 => ?_)
                          · skip
                            have c28 : 16 ≤ t := (nI_leI (by omega) (by omega)).mp c28
                            have hq : t = 16 := by omega
                            have hwS29 := hw; have hlS30 := hl
                            subst t
                            have hw := hwS29; have hl := hlS30
                            refine lv_aload_n hx hb dX7_send_206 rfl (lv_at hl 1 rfl) ?_
                            refine r_get (ci := 7) (v := .ref (md 10)) (C := RX7) (T := TX7) (N := 25) hx hb hts hinX7 hown h0 hw 7 rfl rfl 10 (by decide) k39 rfl dX7_send_207 ?_
                            refine lv_iload_n hx hb dX7_send_210 rfl (lv_at hl 3 rfl) ?_
                            refine lv_bipush (v := nI 15) hx hb dX7_send_211 (by decide +kernel) ?_
                            refine lv_aload_n hx hb dX7_send_213 rfl (lv_at hl 1 rfl) ?_
                            refine r_get (ci := 7) (v := .int (nI on)) (C := RX7) (T := TX7) (N := 25) hx hb hts hinX7 hown h0 hw 7 rfl rfl 12 (by decide) k149 rfl dX7_send_214 ?_
                            refine lv_iadd hx hb dX7_send_217 ?_
                            refine r_te (y := nI (15 + on)) (nI_add 15 on) ?_
                            refine lv_bipush (v := nI 16) hx hb dX7_send_218 (by decide +kernel) ?_
                            refine lv_iadd hx hb dX7_send_220 ?_
                            refine r_te (y := nI (15 + on + 16)) (nI_add (15 + on) 16) ?_
                            refine r_iast hx hb h0 hw 5 rfl (i := k) (by omega) (by omega) dX7_send_221 (fun H locs hw => ?_)
                            have hw : WD g A s [(md 2, .inl (g.2.1 0, 64, .inl (se))), (md 23, .inl (g.2.1 0, 16, .inl (dv))), (md 24, .inl (g.2.1 0, 16, .inl (mv))), (md 4, .inl (g.2.1 0, 2, .inl (szF epn))), (md 5, .inl (g.2.1 1, 2, .inr (.inl (nxf)))), (md 10, .inl (g.2.1 0, 8, .inl (upd (szF z) k (nI (15 + on + 16))))), (md 11, .inl (g.2.1 0, 96, .inl (obf))), (md 25, .inr (7, [.ref (md 0), .int (nI op), .ref (md 2), .ref (md 3), .ref (md 4), .ref (md 5), .ref (md 6), .ref (md 7), .ref (md 8), .ref (md 9), .ref (md 10), .ref (md 11), .int (nI on), .ref (md 13), .int (nI inn), .ref (md 15), .ref (md 16), .ref (md 17), .ref (md 18), .ref (md 19), .ref (md 20), .ref (md 21), .ref (md 22), .ref (md 23), .ref (md 24)])), (md 17, .inl (g.2.1 0, 400, .inl (r2_23))), (md 16, .inl (g.2.1 0, 64, .inl (w2_24))), (md 15, .inl (g.2.1 0, 8, .inl (s2_25))), (md 22, .inl (g.2.1 0, 64, .inl (kRW))), (md 18, .inl (g.2.1 0, 32, .inl (hmv (shf te (32 * i)) (wrF (hdF fb i (epn i) (nxf i) on) obf (shf se (32 * i)) on) (15 + on)))), (md 19, .inl (g.2.1 0, 32, .inl (k2_26))), (md 21, .inl (g.2.1 0, 160, .inl (m2_27))), (md 3, .inl (g.2.1 0, 64, .inl (te))), (md 9, .inl (g.2.1 0, 1024, .inl (wv)))] [] H locs := hw
                            have hw : WD g A s [(md 2, .inl (g.2.1 0, 64, .inl (se))), (md 23, .inl (g.2.1 0, 16, .inl (dv))), (md 24, .inl (g.2.1 0, 16, .inl (mv))), (md 4, .inl (g.2.1 0, 2, .inl (szF epn))), (md 5, .inl (g.2.1 1, 2, .inr (.inl (nxf)))), (md 10, .inl (g.2.1 0, 8, .inl (szF (va_up z k (15 + on + 16))))), (md 11, .inl (g.2.1 0, 96, .inl (obf))), (md 25, .inr (7, [.ref (md 0), .int (nI op), .ref (md 2), .ref (md 3), .ref (md 4), .ref (md 5), .ref (md 6), .ref (md 7), .ref (md 8), .ref (md 9), .ref (md 10), .ref (md 11), .int (nI on), .ref (md 13), .int (nI inn), .ref (md 15), .ref (md 16), .ref (md 17), .ref (md 18), .ref (md 19), .ref (md 20), .ref (md 21), .ref (md 22), .ref (md 23), .ref (md 24)])), (md 17, .inl (g.2.1 0, 400, .inl (r2_23))), (md 16, .inl (g.2.1 0, 64, .inl (w2_24))), (md 15, .inl (g.2.1 0, 8, .inl (s2_25))), (md 22, .inl (g.2.1 0, 64, .inl (kRW))), (md 18, .inl (g.2.1 0, 32, .inl (hmv (shf te (32 * i)) (wrF (hdF fb i (epn i) (nxf i) on) obf (shf se (32 * i)) on) (15 + on)))), (md 19, .inl (g.2.1 0, 32, .inl (k2_26))), (md 21, .inl (g.2.1 0, 160, .inl (m2_27))), (md 3, .inl (g.2.1 0, 64, .inl (te))), (md 9, .inl (g.2.1 0, 1024, .inl (wv)))] [] H locs := by rw [← szF_up]; exact hw
                            refine lv_aload_n hx hb dX7_send_222 rfl (lv_at hl 1 rfl) ?_
                            refine lv_iconst (v := nI 0) hx hb dX7_send_223 (by decide +kernel) ?_
                            refine r_put (ci := 7) (v := .int (nI 0)) (C := RX7) (T := TX7) (N := 25) hx hb hts hinX7 tyX7 tyX7_ok nmX7 hown h0 hw 7 rfl rfl 12 (by decide) k149 rfl rfl rfl (Nat.le_of_ble_eq_true rfl) dX7_send_224 (fun H locs hw => ?_)
                            have hw : WD g A s [(md 2, .inl (g.2.1 0, 64, .inl (se))), (md 23, .inl (g.2.1 0, 16, .inl (dv))), (md 24, .inl (g.2.1 0, 16, .inl (mv))), (md 4, .inl (g.2.1 0, 2, .inl (szF epn))), (md 5, .inl (g.2.1 1, 2, .inr (.inl (nxf)))), (md 10, .inl (g.2.1 0, 8, .inl (szF (va_up z k (15 + on + 16))))), (md 11, .inl (g.2.1 0, 96, .inl (obf))), (md 25, .inr (7, [.ref (md 0), .int (nI op), .ref (md 2), .ref (md 3), .ref (md 4), .ref (md 5), .ref (md 6), .ref (md 7), .ref (md 8), .ref (md 9), .ref (md 10), .ref (md 11), .int (nI 0), .ref (md 13), .int (nI inn), .ref (md 15), .ref (md 16), .ref (md 17), .ref (md 18), .ref (md 19), .ref (md 20), .ref (md 21), .ref (md 22), .ref (md 23), .ref (md 24)])), (md 17, .inl (g.2.1 0, 400, .inl (r2_23))), (md 16, .inl (g.2.1 0, 64, .inl (w2_24))), (md 15, .inl (g.2.1 0, 8, .inl (s2_25))), (md 22, .inl (g.2.1 0, 64, .inl (kRW))), (md 18, .inl (g.2.1 0, 32, .inl (hmv (shf te (32 * i)) (wrF (hdF fb i (epn i) (nxf i) on) obf (shf se (32 * i)) on) (15 + on)))), (md 19, .inl (g.2.1 0, 32, .inl (k2_26))), (md 21, .inl (g.2.1 0, 160, .inl (m2_27))), (md 3, .inl (g.2.1 0, 64, .inl (te))), (md 9, .inl (g.2.1 0, 1024, .inl (wv)))] [] H locs := hw
                            refine lv_aload_n hx hb dX7_send_227 rfl (lv_at hl 1 rfl) ?_
                            refine r_get (ci := 7) (v := .ref (md 5)) (C := RX7) (T := TX7) (N := 25) hx hb hts hinX7 hown h0 hw 7 rfl rfl 5 (by decide) k22 rfl dX7_send_228 ?_
                            refine lv_iload_n hx hb dX7_send_231 rfl (lv_at hl 2 rfl) ?_
                            refine lv_dup2_11 hx hb dX7_send_232 rfl rfl ?_
                            refine r_lald hx hb h0 hw 4 rfl (i := i) (by omega) (by omega) dX7_send_233 ?_
                            refine lv_lconst (v := 1) hx hb dX7_send_234 (by decide +kernel) ?_
                            refine lv_ladd hx hb dX7_send_235 ?_
                            refine r_last hx hb h0 hw 4 rfl (i := i) (by omega) (by omega) dX7_send_236 (fun H locs hw => ?_)
                            have hw : WD g A s [(md 2, .inl (g.2.1 0, 64, .inl (se))), (md 23, .inl (g.2.1 0, 16, .inl (dv))), (md 24, .inl (g.2.1 0, 16, .inl (mv))), (md 4, .inl (g.2.1 0, 2, .inl (szF epn))), (md 5, .inl (g.2.1 1, 2, .inr (.inl (vp_updL nxf i ((nxf i) + 1))))), (md 10, .inl (g.2.1 0, 8, .inl (szF (va_up z k (15 + on + 16))))), (md 11, .inl (g.2.1 0, 96, .inl (obf))), (md 25, .inr (7, [.ref (md 0), .int (nI op), .ref (md 2), .ref (md 3), .ref (md 4), .ref (md 5), .ref (md 6), .ref (md 7), .ref (md 8), .ref (md 9), .ref (md 10), .ref (md 11), .int (nI 0), .ref (md 13), .int (nI inn), .ref (md 15), .ref (md 16), .ref (md 17), .ref (md 18), .ref (md 19), .ref (md 20), .ref (md 21), .ref (md 22), .ref (md 23), .ref (md 24)])), (md 17, .inl (g.2.1 0, 400, .inl (r2_23))), (md 16, .inl (g.2.1 0, 64, .inl (w2_24))), (md 15, .inl (g.2.1 0, 8, .inl (s2_25))), (md 22, .inl (g.2.1 0, 64, .inl (kRW))), (md 18, .inl (g.2.1 0, 32, .inl (hmv (shf te (32 * i)) (wrF (hdF fb i (epn i) (nxf i) on) obf (shf se (32 * i)) on) (15 + on)))), (md 19, .inl (g.2.1 0, 32, .inl (k2_26))), (md 21, .inl (g.2.1 0, 160, .inl (m2_27))), (md 3, .inl (g.2.1 0, 64, .inl (te))), (md 9, .inl (g.2.1 0, 1024, .inl (wv)))] [] H locs := hw
                            refine lv_iload_n hx hb dX7_send_237 rfl (lv_at hl 3 rfl) ?_
                            exact hret (hw.perm (X' := [(md 25, .inr (7, [.ref (md 0), .int (nI op), .ref (md 2), .ref (md 3), .ref (md 4), .ref (md 5), .ref (md 6), .ref (md 7), .ref (md 8), .ref (md 9), .ref (md 10), .ref (md 11), .int (nI 0), .ref (md 13), .int (nI inn), .ref (md 15), .ref (md 16), .ref (md 17), .ref (md 18), .ref (md 19), .ref (md 20), .ref (md 21), .ref (md 22), .ref (md 23), .ref (md 24)])), (md 17, .inl (g.2.1 0, 400, .inl (r2_23))), (md 16, .inl (g.2.1 0, 64, .inl (w2_24))), (md 15, .inl (g.2.1 0, 8, .inl (s2_25))), (md 22, .inl (g.2.1 0, 64, .inl (kRW))), (md 18, .inl (g.2.1 0, 32, .inl (hmv (shf te (32 * i)) (wrF (hdF fb i (epn i) (nxf i) on) obf (shf se (32 * i)) on) (15 + on)))), (md 19, .inl (g.2.1 0, 32, .inl (k2_26))), (md 21, .inl (g.2.1 0, 160, .inl (m2_27))), (md 3, .inl (g.2.1 0, 64, .inl (te))), (md 9, .inl (g.2.1 0, 1024, .inl (wv))), (md 2, .inl (g.2.1 0, 64, .inl (se))), (md 23, .inl (g.2.1 0, 16, .inl (dv))), (md 24, .inl (g.2.1 0, 16, .inl (mv))), (md 4, .inl (g.2.1 0, 2, .inl (szF epn))), (md 5, .inl (g.2.1 1, 2, .inr (.inl (vp_updL nxf i ((nxf i) + 1))))), (md 10, .inl (g.2.1 0, 8, .inl (szF (va_up z k (15 + on + 16))))), (md 11, .inl (g.2.1 0, 96, .inl (obf)))]) [7, 8, 9, 10, 11, 12, 13, 14, 15, 16, 0, 1, 2, 3, 4, 5, 6] (by decide) rfl) (r2_23, w2_24, s2_25, hmv (shf te (32 * i)) (wrF (hdF fb i (epn i) (nxf i) on) obf (shf se (32 * i)) on) (15 + on), k2_26, m2_27, wv, dv, mv) (⟨rfl, hP⟩) (rfl) (by omega) (by omega) dX7_send_238
                          · skip
                            have c28 : ¬ 16 ≤ t := fun q => c28 (((nI_leI (by omega) (by omega)).mpr q))
                            refine lv_aload_n hx hb dX7_send_176 rfl (lv_at hl 1 rfl) ?_
                            refine r_get (ci := 7) (v := .ref (md 9)) (C := RX7) (T := TX7) (N := 25) hx hb hts hinX7 hown h0 hw 7 rfl rfl 9 (by decide) k36 rfl dX7_send_177 ?_
                            refine lv_iload_n hx hb dX7_send_180 rfl (lv_at hl 4 rfl) ?_
                            refine lv_bipush (v := nI 15) hx hb dX7_send_181 (by decide +kernel) ?_
                            refine lv_iadd hx hb dX7_send_183 ?_
                            refine r_te (y := nI (128 * k + 15)) (nI_add (128 * k) 15) ?_
                            refine lv_aload_n hx hb dX7_send_184 rfl (lv_at hl 1 rfl) ?_
                            refine r_get (ci := 7) (v := .int (nI on)) (C := RX7) (T := TX7) (N := 25) hx hb hts hinX7 hown h0 hw 7 rfl rfl 12 (by decide) k149 rfl dX7_send_185 ?_
                            refine lv_iadd hx hb dX7_send_188 ?_
                            refine r_te (y := nI (128 * k + 15 + on)) (nI_add (128 * k + 15) on) ?_
                            refine lv_iload hx hb dX7_send_189 (lv_at hl 0 rfl) ?_
                            refine lv_iadd hx hb dX7_send_191 ?_
                            refine r_te (y := nI (128 * k + 15 + on + t)) (nI_add (128 * k + 15 + on) t) ?_
                            refine lv_aload_n hx hb dX7_send_192 rfl (lv_at hl 1 rfl) ?_
                            refine r_get (ci := 7) (v := .ref (md 18)) (C := RX7) (T := TX7) (N := 25) hx hb hts hinX7 hown h0 hw 7 rfl rfl 18 (by decide) k57 rfl dX7_send_193 ?_
                            refine lv_iload hx hb dX7_send_196 (lv_at hl 0 rfl) ?_
                            refine r_iald hx hb h0 hw 12 rfl (i := t) (by omega) (by omega) dX7_send_198 ?_
                            refine r_iast hx hb h0 hw 16 rfl (i := 128 * k + 15 + on + t) (by omega) (by omega) dX7_send_199 (fun H locs hw => ?_)
                            have hw : WD g A s [(md 2, .inl (g.2.1 0, 64, .inl (se))), (md 23, .inl (g.2.1 0, 16, .inl (dv))), (md 24, .inl (g.2.1 0, 16, .inl (mv))), (md 4, .inl (g.2.1 0, 2, .inl (szF epn))), (md 5, .inl (g.2.1 1, 2, .inr (.inl (nxf)))), (md 10, .inl (g.2.1 0, 8, .inl (szF z))), (md 11, .inl (g.2.1 0, 96, .inl (obf))), (md 25, .inr (7, [.ref (md 0), .int (nI op), .ref (md 2), .ref (md 3), .ref (md 4), .ref (md 5), .ref (md 6), .ref (md 7), .ref (md 8), .ref (md 9), .ref (md 10), .ref (md 11), .int (nI on), .ref (md 13), .int (nI inn), .ref (md 15), .ref (md 16), .ref (md 17), .ref (md 18), .ref (md 19), .ref (md 20), .ref (md 21), .ref (md 22), .ref (md 23), .ref (md 24)])), (md 17, .inl (g.2.1 0, 400, .inl (r2_23))), (md 16, .inl (g.2.1 0, 64, .inl (w2_24))), (md 15, .inl (g.2.1 0, 8, .inl (s2_25))), (md 22, .inl (g.2.1 0, 64, .inl (kRW))), (md 18, .inl (g.2.1 0, 32, .inl (hmv (shf te (32 * i)) (wrF (hdF fb i (epn i) (nxf i) on) obf (shf se (32 * i)) on) (15 + on)))), (md 19, .inl (g.2.1 0, 32, .inl (k2_26))), (md 21, .inl (g.2.1 0, 160, .inl (m2_27))), (md 3, .inl (g.2.1 0, 64, .inl (te))), (md 9, .inl (g.2.1 0, 1024, .inl (upd wv (128 * k + 15 + on + t) ((hmv (shf te (32 * i)) (wrF (hdF fb i (epn i) (nxf i) on) obf (shf se (32 * i)) on) (15 + on)) t))))] [] H locs := hw
                            refine lv_iinc (v := nI (t + 1)) (lv' := [(4, .int (nI (t + 1))), (0, .ref (md 25)), (1, .int (nI i)), (2, .int (nI k)), (3, .int (nI (128 * k)))]) hx hb dX7_send_200 hl (k := 0) rfl (nI_add t 1) (by decide) rfl (fun ls hl => ?_)
                            refine lv_goto (tgt := 169) hx hb dX7_send_203 (by decide) ?_
                            exact ih (t + 1) (upd wv (128 * k + 15 + on + t) ((hmv (shf te (32 * i)) (wrF (hdF fb i (epn i) (nxf i) on) obf (shf se (32 * i)) on) (15 + on)) t)) (by omega) (by omega) (by have := hP.step (by omega) ((hmv (shf te (32 * i)) (wrF (hdF fb i (epn i) (nxf i) on) obf (shf se (32 * i)) on) (15 + on)) t); rw [← Nat.add_assoc, ← Nat.add_assoc] at this; exact this) _ _ _ hw (lv_sub hl [0, 1, 2, 3, 4] rfl)
                      exact lp169 (16 - 0 + 1) 0 wv (by omega) (by omega) (hP) _ _ _ hw (lv_sub hl [0, 1, 2, 3, 4] rfl)
                    · skip
                      have c17 : ¬ on ≤ t := fun q => c17 (((nI_leI (by omega) (by omega)).mpr q))
                      refine lv_aload_n hx hb dX7_send_119 rfl (lv_at hl 1 rfl) ?_
                      refine r_get (ci := 7) (v := .ref (md 9)) (C := RX7) (T := TX7) (N := 25) hx hb hts hinX7 hown h0 hw 15 rfl rfl 9 (by decide) k36 rfl dX7_send_120 ?_
                      refine lv_iload_n hx hb dX7_send_123 rfl (lv_at hl 4 rfl) ?_
                      refine lv_bipush (v := nI 15) hx hb dX7_send_124 (by decide +kernel) ?_
                      refine lv_iadd hx hb dX7_send_126 ?_
                      refine r_te (y := nI (128 * k + 15)) (nI_add (128 * k) 15) ?_
                      refine lv_iload hx hb dX7_send_127 (lv_at hl 0 rfl) ?_
                      refine lv_iadd hx hb dX7_send_129 ?_
                      refine r_te (y := nI (128 * k + 15 + t)) (nI_add (128 * k + 15) t) ?_
                      refine lv_aload_n hx hb dX7_send_130 rfl (lv_at hl 1 rfl) ?_
                      refine r_get (ci := 7) (v := .ref (md 11)) (C := RX7) (T := TX7) (N := 25) hx hb hts hinX7 hown h0 hw 15 rfl rfl 11 (by decide) k42 rfl dX7_send_131 ?_
                      refine lv_iload hx hb dX7_send_134 (lv_at hl 0 rfl) ?_
                      refine r_iald hx hb h0 hw 14 rfl (i := t) (by omega) (by omega) dX7_send_136 ?_
                      refine lv_aload_n hx hb dX7_send_137 rfl (lv_at hl 1 rfl) ?_
                      refine lv_iload_n hx hb dX7_send_138 rfl (lv_at hl 2 rfl) ?_
                      refine lv_iload_n hx hb dX7_send_139 rfl (lv_at hl 3 rfl) ?_
                      refine lv_iload hx hb dX7_send_140 (lv_at hl 0 rfl) ?_
                      refine r_calli (wr := [(md 17, .inl (g.2.1 0, 400, .inl (rf))), (md 16, .inl (g.2.1 0, 64, .inl (wf))), (md 15, .inl (g.2.1 0, 8, .inl (sf))), (md 22, .inl (g.2.1 0, 64, .inl (kRW))), (md 18, .inl (g.2.1 0, 32, .inl (dg))), (md 19, .inl (g.2.1 0, 32, .inl (kf))), (md 21, .inl (g.2.1 0, 160, .inl (mf))), (md 3, .inl (g.2.1 0, 64, .inl (te))), (md 4, .inl (g.2.1 0, 2, .inl (szF epn))), (md 5, .inl (g.2.1 1, 2, .inr (.inl (nxf)))), (md 10, .inl (g.2.1 0, 8, .inl (szF z))), (md 11, .inl (g.2.1 0, 96, .inl (obf)))]) [15, 8, 16, 9, 10] [0, 1, 2, 3, 4, 5, 6, 7, 11, 12, 13, 14] h0 hw rfl rfl (by decide) (by decide) (va_runV (As := [.int (nI i), .int (nI k), .int (nI t)]) (rest := [.int (obf t), .int (nI (128 * k + 15 + t)), .ref (md 9)]) ⟨hx, hb, hml, hown, hts⟩ (c_X7_streamByte l g md op on inn se wv dv mv ((shf se (32 * i))) ((hdF fb i (epn i) (nxf i) on)) i k t (by omega) (by omega) (by omega) (rfl) (hP.k5 (by omega)) (hP.k9 (by omega)) (hg) _) (cwV 3 hts gX7_send_X7_streamByte rfl rfl rfl (by decide +kernel) ⟨Nat.le_of_ble_eq_true rfl, Nat.le_of_ble_eq_true rfl⟩) (preV_of [15, 8, 16, 9, 10] [.int (nI i), .int (nI k), .int (nI t)] h0 hw rfl (by decide) 15 7 rfl rfl) rfl rfl hl.1 rfl (lv_room (Nat.le_of_ble_eq_true rfl)) dX7_send_142 ⟨Nat.le_of_ble_eq_true rfl, Nat.le_of_ble_eq_true rfl⟩) (fun r31 u32 H locs hp33 hw => ?_)
                      obtain ⟨m2_34, w2_35⟩ := u32
                      have hw : WD g A s [(md 17, .inl (g.2.1 0, 400, .inl (rf))), (md 16, .inl (g.2.1 0, 64, .inl (wf))), (md 15, .inl (g.2.1 0, 8, .inl (sf))), (md 22, .inl (g.2.1 0, 64, .inl (kRW))), (md 18, .inl (g.2.1 0, 32, .inl (dg))), (md 19, .inl (g.2.1 0, 32, .inl (kf))), (md 21, .inl (g.2.1 0, 160, .inl (mf))), (md 3, .inl (g.2.1 0, 64, .inl (te))), (md 4, .inl (g.2.1 0, 2, .inl (szF epn))), (md 5, .inl (g.2.1 1, 2, .inr (.inl (nxf)))), (md 10, .inl (g.2.1 0, 8, .inl (szF z))), (md 11, .inl (g.2.1 0, 96, .inl (obf))), (md 25, .inr (7, [.ref (md 0), .int (nI op), .ref (md 2), .ref (md 3), .ref (md 4), .ref (md 5), .ref (md 6), .ref (md 7), .ref (md 8), .ref (md 9), .ref (md 10), .ref (md 11), .int (nI on), .ref (md 13), .int (nI inn), .ref (md 15), .ref (md 16), .ref (md 17), .ref (md 18), .ref (md 19), .ref (md 20), .ref (md 21), .ref (md 22), .ref (md 23), .ref (md 24)])), (md 2, .inl (g.2.1 0, 64, .inl (se))), (md 9, .inl (g.2.1 0, 1024, .inl (wv))), (md 23, .inl (g.2.1 0, 16, .inl (w2_35))), (md 24, .inl (g.2.1 0, 16, .inl (m2_34)))] [] H locs := hw
                      obtain ⟨rfl, hp33⟩ := hp33
                      have hpN := hp33
                      refine lv_ixor hx hb dX7_send_145 ?_
                      refine r_iast hx hb h0 hw 14 rfl (i := 128 * k + 15 + t) (by omega) (by omega) dX7_send_146 (fun H locs hw => ?_)
                      have hw : WD g A s [(md 17, .inl (g.2.1 0, 400, .inl (rf))), (md 16, .inl (g.2.1 0, 64, .inl (wf))), (md 15, .inl (g.2.1 0, 8, .inl (sf))), (md 22, .inl (g.2.1 0, 64, .inl (kRW))), (md 18, .inl (g.2.1 0, 32, .inl (dg))), (md 19, .inl (g.2.1 0, 32, .inl (kf))), (md 21, .inl (g.2.1 0, 160, .inl (mf))), (md 3, .inl (g.2.1 0, 64, .inl (te))), (md 4, .inl (g.2.1 0, 2, .inl (szF epn))), (md 5, .inl (g.2.1 1, 2, .inr (.inl (nxf)))), (md 10, .inl (g.2.1 0, 8, .inl (szF z))), (md 11, .inl (g.2.1 0, 96, .inl (obf))), (md 25, .inr (7, [.ref (md 0), .int (nI op), .ref (md 2), .ref (md 3), .ref (md 4), .ref (md 5), .ref (md 6), .ref (md 7), .ref (md 8), .ref (md 9), .ref (md 10), .ref (md 11), .int (nI on), .ref (md 13), .int (nI inn), .ref (md 15), .ref (md 16), .ref (md 17), .ref (md 18), .ref (md 19), .ref (md 20), .ref (md 21), .ref (md 22), .ref (md 23), .ref (md 24)])), (md 2, .inl (g.2.1 0, 64, .inl (se))), (md 9, .inl (g.2.1 0, 1024, .inl (upd wv (128 * k + 15 + t) ((obf t) ^^^ (sByte ((shf se (32 * i))) ((hdF fb i (epn i) (nxf i) on)) t))))), (md 23, .inl (g.2.1 0, 16, .inl (w2_35))), (md 24, .inl (g.2.1 0, 16, .inl (m2_34)))] [] H locs := hw
                      refine lv_iinc (v := nI (t + 1)) (lv' := [(4, .int (nI (t + 1))), (0, .ref (md 25)), (1, .int (nI i)), (2, .int (nI k)), (3, .int (nI (128 * k)))]) hx hb dX7_send_147 hl (k := 0) rfl (nI_add t 1) (by decide) rfl (fun ls hl => ?_)
                      refine lv_goto (tgt := 110) hx hb dX7_send_150 (by decide) ?_
                      exact ih (t + 1) (upd wv (128 * k + 15 + t) ((obf t) ^^^ (sByte ((shf se (32 * i))) ((hdF fb i (epn i) (nxf i) on)) t))) m2_34 w2_35 (by omega) (by omega) (by have := hP.step (by omega) (obf t ^^^ sByte (shf se (32 * i)) (hdF fb i (epn i) (nxf i) on) t); rw [← Nat.add_assoc] at this; exact this) (fun q => by rw [show (t + 1) / 64 = t / 64 by omega]; exact hpN) _ _ _ (hw.perm [0, 1, 2, 3, 4, 5, 6, 7, 13, 15, 16, 8, 9, 10, 11, 12, 14] (by decide) rfl) (lv_sub hl [0, 1, 2, 3, 4] rfl)
                exact lp110 (on - 0 + 1) 0 (hdM wr (128 * k) i (epn i) (nxf i) on) mx wd (by omega) (by omega) (⟨fun j hj => hdM_eq wr fb (128 * k) i (epn i) (nxf i) on hj, fun j hj => hdM_out wr (128 * k) i (epn i) (nxf i) on (by omega)⟩) (fun q => absurd rfl q) _ _ _ hw (lv_sub hl [0, 3, 4, 2, 1] rfl)
              · skip
                have c7 : k = 8 := (nI_eq (by omega) (by omega)).mp c7
                exfalso; omega
            · skip
              rw [← nI_0] at c4
              have c4 : ¬ (z j) ≤ 0 := fun q => c4 (((nI_leI (by omega) (by omega)).mpr q))
              have hjk : ¬ j = k := fun q => c4 (by rw [q, hk0]; exact Nat.le_refl 0)
              refine lv_iinc (v := nI (j + 1)) (lv' := [(2, .int (nI (j + 1))), (0, .ref (md 25)), (1, .int (nI i))]) hx hb dX7_send_35 hl (k := 0) rfl (nI_add j 1) (by decide) rfl (fun ls hl => ?_)
              refine lv_goto (tgt := 20) hx hb dX7_send_38 (by decide) ?_
              exact ih (j + 1) (by omega) (by omega) _ _ _ hw (lv_sub hl [0, 1, 2] rfl)
      exact lp20 (8 - 0 + 1) 0 (by omega) (by omega) _ _ _ hw (lv_sub hl [0, 1, 2] rfl)
    · skip
      rw [← nI_0] at c2
      have c2 : op = 0 := (nI_eq (by omega) (by omega)).mp c2
      exfalso; omega
  · skip
    rw [← nI_0] at c1
    have c1 : ¬ i = 0 := fun q => c1 (((nI_eq (by omega) (by omega)).mpr q))
    refine lv_iload_n hx hb dX7_send_4 rfl (lv_at hl 1 rfl) ?_
    refine lv_iconst (v := nI 1) hx hb dX7_send_5 (by decide +kernel) ?_
    refine lv_icmp_ne (tgt := 16) hx hb dX7_send_6 (by decide) (fun c36 => ?_) (fun c36 => ?_)
    · skip
      have c36 : ¬ i = 1 := fun q => c36 (((nI_eq (by omega) (by omega)).mpr q))
      exfalso; omega
    · skip
      have c36 : i = 1 := (nI_eq (by omega) (by omega)).mp c36
      refine lv_aload_n hx hb dX7_send_9 rfl (lv_at hl 0 rfl) ?_
      refine r_get (ci := 7) (v := .int (nI op)) (C := RX7) (T := TX7) (N := 25) hx hb hts hinX7 hown h0 hw 0 rfl rfl 1 (by decide) k145 rfl dX7_send_10 ?_
      refine lv_if_ne (tgt := 18) hx hb dX7_send_13 (by decide) (fun c37 => ?_) (fun c37 => ?_)
      · skip
        rw [← nI_0] at c37
        have c37 : ¬ op = 0 := fun q => c37 (((nI_eq (by omega) (by omega)).mpr q))
        refine lv_iconst (v := nI 0) hx hb dX7_send_18 (by decide +kernel) ?_
        refine lv_istore_n (lv' := [(2, .int (nI 0)), (0, .ref (md 25)), (1, .int (nI i))]) hx hb dX7_send_19 rfl hl (by decide) rfl (fun ls hl => ?_)
        have lp20 : ∀ (fu : Nat) (j : Nat), 8 - j < fu → (j ≤ k) → ∀ (H : Heap) (locs : List Loc) (ls : Array Slot), WD g A s [(md 25, .inr (7, [.ref (md 0), .int (nI op), .ref (md 2), .ref (md 3), .ref (md 4), .ref (md 5), .ref (md 6), .ref (md 7), .ref (md 8), .ref (md 9), .ref (md 10), .ref (md 11), .int (nI on), .ref (md 13), .int (nI inn), .ref (md 15), .ref (md 16), .ref (md 17), .ref (md 18), .ref (md 19), .ref (md 20), .ref (md 21), .ref (md 22), .ref (md 23), .ref (md 24)])), (md 17, .inl (g.2.1 0, 400, .inl (rf))), (md 16, .inl (g.2.1 0, 64, .inl (wf))), (md 15, .inl (g.2.1 0, 8, .inl (sf))), (md 22, .inl (g.2.1 0, 64, .inl (kRW))), (md 18, .inl (g.2.1 0, 32, .inl (dg))), (md 19, .inl (g.2.1 0, 32, .inl (kf))), (md 21, .inl (g.2.1 0, 160, .inl (mf))), (md 3, .inl (g.2.1 0, 64, .inl (te))), (md 9, .inl (g.2.1 0, 1024, .inl (wr))), (md 2, .inl (g.2.1 0, 64, .inl (se))), (md 23, .inl (g.2.1 0, 16, .inl (wd))), (md 24, .inl (g.2.1 0, 16, .inl (mx))), (md 4, .inl (g.2.1 0, 2, .inl (szF epn))), (md 5, .inl (g.2.1 1, 2, .inr (.inl (nxf)))), (md 10, .inl (g.2.1 0, 8, .inl (szF z))), (md 11, .inl (g.2.1 0, 96, .inl (obf)))] [] H locs → lv_has ls 5 [(2, .int (nI j)), (0, .ref (md 25)), (1, .int (nI i))] → W p l e { frames := 5, cells := 0, slots := 0, locals := 123 } s m ar below meth c H locs 0 0 Q (F0 m 20 ls []) := by
          intro fu
          induction fu with
          | zero => intro j hmz; exact absurd hmz (Nat.not_lt_zero _)
          | succ fu ih =>
            intro j hms hj H locs ls hw hl
            have hzj := hz j (by omega)
            refine lv_iload_n hx hb dX7_send_20 rfl (lv_at hl 0 rfl) ?_
            refine lv_bipush (v := nI 8) hx hb dX7_send_21 (by decide +kernel) ?_
            refine lv_icmp_ge (tgt := 41) hx hb dX7_send_23 (by decide) (fun c38 => ?_) (fun c38 => ?_)
            · skip
              have c38 : 8 ≤ j := (nI_leI (by omega) (by omega)).mp c38
              exfalso; omega
            · skip
              have c38 : ¬ 8 ≤ j := fun q => c38 (((nI_leI (by omega) (by omega)).mpr q))
              refine lv_aload_n hx hb dX7_send_26 rfl (lv_at hl 1 rfl) ?_
              refine r_get (ci := 7) (v := .ref (md 10)) (C := RX7) (T := TX7) (N := 25) hx hb hts hinX7 hown h0 hw 0 rfl rfl 10 (by decide) k39 rfl dX7_send_27 ?_
              refine lv_iload_n hx hb dX7_send_30 rfl (lv_at hl 0 rfl) ?_
              refine r_iald hx hb h0 hw 15 rfl (i := j) (by omega) (by omega) dX7_send_31 ?_
              refine r_te (y := nI (z j)) rfl ?_
              refine lv_if_le (tgt := 41) hx hb dX7_send_32 (by decide) (fun c39 => ?_) (fun c39 => ?_)
              · skip
                rw [← nI_0] at c39
                have c39 : (z j) ≤ 0 := (nI_leI (by omega) (by omega)).mp c39
                have hjk : j = k := by rcases Nat.lt_or_ge j k with q | q; exact absurd (by omega) (hk1 j q); omega
                have hwS40 := hw; have hlS41 := hl
                subst j
                have hw := hwS40; have hl := hlS41
                refine lv_iload_n hx hb dX7_send_41 rfl (lv_at hl 0 rfl) ?_
                refine lv_bipush (v := nI 8) hx hb dX7_send_42 (by decide +kernel) ?_
                refine lv_icmp_ne (tgt := 50) hx hb dX7_send_44 (by decide) (fun c42 => ?_) (fun c42 => ?_)
                · skip
                  have c42 : ¬ k = 8 := fun q => c42 (((nI_eq (by omega) (by omega)).mpr q))
                  refine lv_sipush (v := nI 128) hx hb dX7_send_50 (by decide +kernel) ?_
                  refine lv_iload_n hx hb dX7_send_53 rfl (lv_at hl 0 rfl) ?_
                  refine lv_imul hx hb dX7_send_54 ?_
                  refine r_te (y := nI (128 * k)) (pk_mul 128 k) ?_
                  refine lv_istore_n (lv' := [(3, .int (nI (128 * k))), (2, .int (nI k)), (0, .ref (md 25)), (1, .int (nI i))]) hx hb dX7_send_55 rfl hl (by decide) rfl (fun ls hl => ?_)
                  refine lv_aload_n hx hb dX7_send_56 rfl (lv_at hl 2 rfl) ?_
                  refine r_get (ci := 7) (v := .ref (md 9)) (C := RX7) (T := TX7) (N := 25) hx hb hts hinX7 hown h0 hw 0 rfl rfl 9 (by decide) k36 rfl dX7_send_57 ?_
                  refine lv_iload_n hx hb dX7_send_60 rfl (lv_at hl 0 rfl) ?_
                  refine lv_iload_n hx hb dX7_send_61 rfl (lv_at hl 3 rfl) ?_
                  refine r_iast hx hb h0 hw 9 rfl (i := 128 * k) (by omega) (by omega) dX7_send_62 (fun H locs hw => ?_)
                  have hw : WD g A s [(md 25, .inr (7, [.ref (md 0), .int (nI op), .ref (md 2), .ref (md 3), .ref (md 4), .ref (md 5), .ref (md 6), .ref (md 7), .ref (md 8), .ref (md 9), .ref (md 10), .ref (md 11), .int (nI on), .ref (md 13), .int (nI inn), .ref (md 15), .ref (md 16), .ref (md 17), .ref (md 18), .ref (md 19), .ref (md 20), .ref (md 21), .ref (md 22), .ref (md 23), .ref (md 24)])), (md 17, .inl (g.2.1 0, 400, .inl (rf))), (md 16, .inl (g.2.1 0, 64, .inl (wf))), (md 15, .inl (g.2.1 0, 8, .inl (sf))), (md 22, .inl (g.2.1 0, 64, .inl (kRW))), (md 18, .inl (g.2.1 0, 32, .inl (dg))), (md 19, .inl (g.2.1 0, 32, .inl (kf))), (md 21, .inl (g.2.1 0, 160, .inl (mf))), (md 3, .inl (g.2.1 0, 64, .inl (te))), (md 9, .inl (g.2.1 0, 1024, .inl (upd wr (128 * k) (nI i)))), (md 2, .inl (g.2.1 0, 64, .inl (se))), (md 23, .inl (g.2.1 0, 16, .inl (wd))), (md 24, .inl (g.2.1 0, 16, .inl (mx))), (md 4, .inl (g.2.1 0, 2, .inl (szF epn))), (md 5, .inl (g.2.1 1, 2, .inr (.inl (nxf)))), (md 10, .inl (g.2.1 0, 8, .inl (szF z))), (md 11, .inl (g.2.1 0, 96, .inl (obf)))] [] H locs := hw
                  refine lv_aload_n hx hb dX7_send_63 rfl (lv_at hl 2 rfl) ?_
                  refine lv_iload_n hx hb dX7_send_64 rfl (lv_at hl 0 rfl) ?_
                  refine lv_iconst (v := nI 1) hx hb dX7_send_65 (by decide +kernel) ?_
                  refine lv_iadd hx hb dX7_send_66 ?_
                  refine r_te (y := nI (128 * k + 1)) (nI_add (128 * k) 1) ?_
                  refine lv_aload_n hx hb dX7_send_67 rfl (lv_at hl 2 rfl) ?_
                  refine r_get (ci := 7) (v := .ref (md 4)) (C := RX7) (T := TX7) (N := 25) hx hb hts hinX7 hown h0 hw 0 rfl rfl 4 (by decide) k19 rfl dX7_send_68 ?_
                  refine lv_iload_n hx hb dX7_send_71 rfl (lv_at hl 3 rfl) ?_
                  refine r_iald hx hb h0 hw 13 rfl (i := i) (by omega) (by omega) dX7_send_72 ?_
                  refine r_te (y := nI (epn i)) rfl ?_
                  refine lv_i2l (v := (nI (epn i)).toInt64) hx hb dX7_send_73 rfl ?_
                  refine lv_iconst (v := nI 4) hx hb dX7_send_74 (by decide +kernel) ?_
                  refine r_callv (wr := [(md 17, .inl (g.2.1 0, 400, .inl (rf))), (md 16, .inl (g.2.1 0, 64, .inl (wf))), (md 15, .inl (g.2.1 0, 8, .inl (sf))), (md 22, .inl (g.2.1 0, 64, .inl (kRW))), (md 18, .inl (g.2.1 0, 32, .inl (dg))), (md 19, .inl (g.2.1 0, 32, .inl (kf))), (md 21, .inl (g.2.1 0, 160, .inl (mf))), (md 3, .inl (g.2.1 0, 64, .inl (te))), (md 2, .inl (g.2.1 0, 64, .inl (se))), (md 23, .inl (g.2.1 0, 16, .inl (wd))), (md 24, .inl (g.2.1 0, 16, .inl (mx))), (md 4, .inl (g.2.1 0, 2, .inl (szF epn))), (md 5, .inl (g.2.1 1, 2, .inr (.inl (nxf)))), (md 10, .inl (g.2.1 0, 8, .inl (szF z))), (md 11, .inl (g.2.1 0, 96, .inl (obf)))]) [0, 9] [1, 2, 3, 4, 5, 6, 7, 8, 10, 11, 12, 13, 14, 15, 16] h0 hw rfl rfl (by decide) (by decide) (va_runV (As := [.int (nI (128 * k + 1)), .long ((nI (epn i)).toInt64), .int (nI 4)]) (rest := []) ⟨hx, hb, hml, hown, hts⟩ (c_X7_number l g md op on inn (upd wr (128 * k) (nI i)) (128 * k + 1) ((nI (epn i)).toInt64) 4 (by omega) (by omega) _) (cwV 3 hts gX7_send_X7_number rfl rfl rfl (by decide +kernel) ⟨Nat.le_of_ble_eq_true rfl, Nat.le_of_ble_eq_true rfl⟩) (preV_of [0, 9] [.int (nI (128 * k + 1)), .long ((nI (epn i)).toInt64), .int (nI 4)] h0 hw rfl (by decide) 0 7 rfl rfl) rfl rfl hl.1 rfl (lv_room (Nat.le_of_ble_eq_true rfl)) dX7_send_75 ⟨Nat.le_of_ble_eq_true rfl, Nat.le_of_ble_eq_true rfl⟩) (fun u44 H locs hp45 hw => ?_)
                  have hw : WD g A s [(md 17, .inl (g.2.1 0, 400, .inl (rf))), (md 16, .inl (g.2.1 0, 64, .inl (wf))), (md 15, .inl (g.2.1 0, 8, .inl (sf))), (md 22, .inl (g.2.1 0, 64, .inl (kRW))), (md 18, .inl (g.2.1 0, 32, .inl (dg))), (md 19, .inl (g.2.1 0, 32, .inl (kf))), (md 21, .inl (g.2.1 0, 160, .inl (mf))), (md 3, .inl (g.2.1 0, 64, .inl (te))), (md 2, .inl (g.2.1 0, 64, .inl (se))), (md 23, .inl (g.2.1 0, 16, .inl (wd))), (md 24, .inl (g.2.1 0, 16, .inl (mx))), (md 4, .inl (g.2.1 0, 2, .inl (szF epn))), (md 5, .inl (g.2.1 1, 2, .inr (.inl (nxf)))), (md 10, .inl (g.2.1 0, 8, .inl (szF z))), (md 11, .inl (g.2.1 0, 96, .inl (obf))), (md 25, .inr (7, [.ref (md 0), .int (nI op), .ref (md 2), .ref (md 3), .ref (md 4), .ref (md 5), .ref (md 6), .ref (md 7), .ref (md 8), .ref (md 9), .ref (md 10), .ref (md 11), .int (nI on), .ref (md 13), .int (nI inn), .ref (md 15), .ref (md 16), .ref (md 17), .ref (md 18), .ref (md 19), .ref (md 20), .ref (md 21), .ref (md 22), .ref (md 23), .ref (md 24)])), (md 9, .inl (g.2.1 0, 1024, .inl (apD (upd wr (128 * k) (nI i)) (128 * k + 1) ((nI (epn i)).toInt64) 4 4)))] [] H locs := hw
                  refine lv_aload_n hx hb dX7_send_78 rfl (lv_at hl 2 rfl) ?_
                  refine lv_iload_n hx hb dX7_send_79 rfl (lv_at hl 0 rfl) ?_
                  refine lv_iconst (v := nI 5) hx hb dX7_send_80 (by decide +kernel) ?_
                  refine lv_iadd hx hb dX7_send_81 ?_
                  refine r_te (y := nI (128 * k + 5)) (nI_add (128 * k) 5) ?_
                  refine lv_aload_n hx hb dX7_send_82 rfl (lv_at hl 2 rfl) ?_
                  refine r_get (ci := 7) (v := .ref (md 5)) (C := RX7) (T := TX7) (N := 25) hx hb hts hinX7 hown h0 hw 15 rfl rfl 5 (by decide) k22 rfl dX7_send_83 ?_
                  refine lv_iload_n hx hb dX7_send_86 rfl (lv_at hl 3 rfl) ?_
                  refine r_lald hx hb h0 hw 12 rfl (i := i) (by omega) (by omega) dX7_send_87 ?_
                  refine lv_bipush (v := nI 8) hx hb dX7_send_88 (by decide +kernel) ?_
                  refine r_callv (wr := [(md 17, .inl (g.2.1 0, 400, .inl (rf))), (md 16, .inl (g.2.1 0, 64, .inl (wf))), (md 15, .inl (g.2.1 0, 8, .inl (sf))), (md 22, .inl (g.2.1 0, 64, .inl (kRW))), (md 18, .inl (g.2.1 0, 32, .inl (dg))), (md 19, .inl (g.2.1 0, 32, .inl (kf))), (md 21, .inl (g.2.1 0, 160, .inl (mf))), (md 3, .inl (g.2.1 0, 64, .inl (te))), (md 2, .inl (g.2.1 0, 64, .inl (se))), (md 23, .inl (g.2.1 0, 16, .inl (wd))), (md 24, .inl (g.2.1 0, 16, .inl (mx))), (md 4, .inl (g.2.1 0, 2, .inl (szF epn))), (md 5, .inl (g.2.1 1, 2, .inr (.inl (nxf)))), (md 10, .inl (g.2.1 0, 8, .inl (szF z))), (md 11, .inl (g.2.1 0, 96, .inl (obf)))]) [15, 16] [0, 1, 2, 3, 4, 5, 6, 7, 8, 9, 10, 11, 12, 13, 14] h0 hw rfl rfl (by decide) (by decide) (va_runV (As := [.int (nI (128 * k + 5)), .long (nxf i), .int (nI 8)]) (rest := []) ⟨hx, hb, hml, hown, hts⟩ (c_X7_number l g md op on inn (apD (upd wr (128 * k) (nI i)) (128 * k + 1) ((nI (epn i)).toInt64) 4 4) (128 * k + 5) (nxf i) 8 (by omega) (by omega) _) (cwV 3 hts gX7_send_X7_number rfl rfl rfl (by decide +kernel) ⟨Nat.le_of_ble_eq_true rfl, Nat.le_of_ble_eq_true rfl⟩) (preV_of [15, 16] [.int (nI (128 * k + 5)), .long (nxf i), .int (nI 8)] h0 hw rfl (by decide) 15 7 rfl rfl) rfl rfl hl.1 rfl (lv_room (Nat.le_of_ble_eq_true rfl)) dX7_send_90 ⟨Nat.le_of_ble_eq_true rfl, Nat.le_of_ble_eq_true rfl⟩) (fun u47 H locs hp48 hw => ?_)
                  have hw : WD g A s [(md 17, .inl (g.2.1 0, 400, .inl (rf))), (md 16, .inl (g.2.1 0, 64, .inl (wf))), (md 15, .inl (g.2.1 0, 8, .inl (sf))), (md 22, .inl (g.2.1 0, 64, .inl (kRW))), (md 18, .inl (g.2.1 0, 32, .inl (dg))), (md 19, .inl (g.2.1 0, 32, .inl (kf))), (md 21, .inl (g.2.1 0, 160, .inl (mf))), (md 3, .inl (g.2.1 0, 64, .inl (te))), (md 2, .inl (g.2.1 0, 64, .inl (se))), (md 23, .inl (g.2.1 0, 16, .inl (wd))), (md 24, .inl (g.2.1 0, 16, .inl (mx))), (md 4, .inl (g.2.1 0, 2, .inl (szF epn))), (md 5, .inl (g.2.1 1, 2, .inr (.inl (nxf)))), (md 10, .inl (g.2.1 0, 8, .inl (szF z))), (md 11, .inl (g.2.1 0, 96, .inl (obf))), (md 25, .inr (7, [.ref (md 0), .int (nI op), .ref (md 2), .ref (md 3), .ref (md 4), .ref (md 5), .ref (md 6), .ref (md 7), .ref (md 8), .ref (md 9), .ref (md 10), .ref (md 11), .int (nI on), .ref (md 13), .int (nI inn), .ref (md 15), .ref (md 16), .ref (md 17), .ref (md 18), .ref (md 19), .ref (md 20), .ref (md 21), .ref (md 22), .ref (md 23), .ref (md 24)])), (md 9, .inl (g.2.1 0, 1024, .inl (apD (apD (upd wr (128 * k) (nI i)) (128 * k + 1) ((nI (epn i)).toInt64) 4 4) (128 * k + 5) (nxf i) 8 8)))] [] H locs := hw
                  refine lv_aload_n hx hb dX7_send_93 rfl (lv_at hl 2 rfl) ?_
                  refine lv_iload_n hx hb dX7_send_94 rfl (lv_at hl 0 rfl) ?_
                  refine lv_bipush (v := nI 13) hx hb dX7_send_95 (by decide +kernel) ?_
                  refine lv_iadd hx hb dX7_send_97 ?_
                  refine r_te (y := nI (128 * k + 13)) (nI_add (128 * k) 13) ?_
                  refine lv_aload_n hx hb dX7_send_98 rfl (lv_at hl 2 rfl) ?_
                  refine r_get (ci := 7) (v := .int (nI on)) (C := RX7) (T := TX7) (N := 25) hx hb hts hinX7 hown h0 hw 15 rfl rfl 12 (by decide) k149 rfl dX7_send_99 ?_
                  refine lv_i2l (v := (nI on).toInt64) hx hb dX7_send_102 rfl ?_
                  refine lv_iconst (v := nI 2) hx hb dX7_send_103 (by decide +kernel) ?_
                  refine r_callv (wr := [(md 17, .inl (g.2.1 0, 400, .inl (rf))), (md 16, .inl (g.2.1 0, 64, .inl (wf))), (md 15, .inl (g.2.1 0, 8, .inl (sf))), (md 22, .inl (g.2.1 0, 64, .inl (kRW))), (md 18, .inl (g.2.1 0, 32, .inl (dg))), (md 19, .inl (g.2.1 0, 32, .inl (kf))), (md 21, .inl (g.2.1 0, 160, .inl (mf))), (md 3, .inl (g.2.1 0, 64, .inl (te))), (md 2, .inl (g.2.1 0, 64, .inl (se))), (md 23, .inl (g.2.1 0, 16, .inl (wd))), (md 24, .inl (g.2.1 0, 16, .inl (mx))), (md 4, .inl (g.2.1 0, 2, .inl (szF epn))), (md 5, .inl (g.2.1 1, 2, .inr (.inl (nxf)))), (md 10, .inl (g.2.1 0, 8, .inl (szF z))), (md 11, .inl (g.2.1 0, 96, .inl (obf)))]) [15, 16] [0, 1, 2, 3, 4, 5, 6, 7, 8, 9, 10, 11, 12, 13, 14] h0 hw rfl rfl (by decide) (by decide) (va_runV (As := [.int (nI (128 * k + 13)), .long ((nI on).toInt64), .int (nI 2)]) (rest := []) ⟨hx, hb, hml, hown, hts⟩ (c_X7_number l g md op on inn (apD (apD (upd wr (128 * k) (nI i)) (128 * k + 1) ((nI (epn i)).toInt64) 4 4) (128 * k + 5) (nxf i) 8 8) (128 * k + 13) ((nI on).toInt64) 2 (by omega) (by omega) _) (cwV 3 hts gX7_send_X7_number rfl rfl rfl (by decide +kernel) ⟨Nat.le_of_ble_eq_true rfl, Nat.le_of_ble_eq_true rfl⟩) (preV_of [15, 16] [.int (nI (128 * k + 13)), .long ((nI on).toInt64), .int (nI 2)] h0 hw rfl (by decide) 15 7 rfl rfl) rfl rfl hl.1 rfl (lv_room (Nat.le_of_ble_eq_true rfl)) dX7_send_104 ⟨Nat.le_of_ble_eq_true rfl, Nat.le_of_ble_eq_true rfl⟩) (fun u50 H locs hp51 hw => ?_)
                  have hw : WD g A s [(md 17, .inl (g.2.1 0, 400, .inl (rf))), (md 16, .inl (g.2.1 0, 64, .inl (wf))), (md 15, .inl (g.2.1 0, 8, .inl (sf))), (md 22, .inl (g.2.1 0, 64, .inl (kRW))), (md 18, .inl (g.2.1 0, 32, .inl (dg))), (md 19, .inl (g.2.1 0, 32, .inl (kf))), (md 21, .inl (g.2.1 0, 160, .inl (mf))), (md 3, .inl (g.2.1 0, 64, .inl (te))), (md 2, .inl (g.2.1 0, 64, .inl (se))), (md 23, .inl (g.2.1 0, 16, .inl (wd))), (md 24, .inl (g.2.1 0, 16, .inl (mx))), (md 4, .inl (g.2.1 0, 2, .inl (szF epn))), (md 5, .inl (g.2.1 1, 2, .inr (.inl (nxf)))), (md 10, .inl (g.2.1 0, 8, .inl (szF z))), (md 11, .inl (g.2.1 0, 96, .inl (obf))), (md 25, .inr (7, [.ref (md 0), .int (nI op), .ref (md 2), .ref (md 3), .ref (md 4), .ref (md 5), .ref (md 6), .ref (md 7), .ref (md 8), .ref (md 9), .ref (md 10), .ref (md 11), .int (nI on), .ref (md 13), .int (nI inn), .ref (md 15), .ref (md 16), .ref (md 17), .ref (md 18), .ref (md 19), .ref (md 20), .ref (md 21), .ref (md 22), .ref (md 23), .ref (md 24)])), (md 9, .inl (g.2.1 0, 1024, .inl (apD (apD (apD (upd wr (128 * k) (nI i)) (128 * k + 1) ((nI (epn i)).toInt64) 4 4) (128 * k + 5) (nxf i) 8 8) (128 * k + 13) ((nI on).toInt64) 2 2)))] [] H locs := hw
                  have hw : WD g A s [(md 17, .inl (g.2.1 0, 400, .inl (rf))), (md 16, .inl (g.2.1 0, 64, .inl (wf))), (md 15, .inl (g.2.1 0, 8, .inl (sf))), (md 22, .inl (g.2.1 0, 64, .inl (kRW))), (md 18, .inl (g.2.1 0, 32, .inl (dg))), (md 19, .inl (g.2.1 0, 32, .inl (kf))), (md 21, .inl (g.2.1 0, 160, .inl (mf))), (md 3, .inl (g.2.1 0, 64, .inl (te))), (md 2, .inl (g.2.1 0, 64, .inl (se))), (md 23, .inl (g.2.1 0, 16, .inl (wd))), (md 24, .inl (g.2.1 0, 16, .inl (mx))), (md 4, .inl (g.2.1 0, 2, .inl (szF epn))), (md 5, .inl (g.2.1 1, 2, .inr (.inl (nxf)))), (md 10, .inl (g.2.1 0, 8, .inl (szF z))), (md 11, .inl (g.2.1 0, 96, .inl (obf))), (md 25, .inr (7, [.ref (md 0), .int (nI op), .ref (md 2), .ref (md 3), .ref (md 4), .ref (md 5), .ref (md 6), .ref (md 7), .ref (md 8), .ref (md 9), .ref (md 10), .ref (md 11), .int (nI on), .ref (md 13), .int (nI inn), .ref (md 15), .ref (md 16), .ref (md 17), .ref (md 18), .ref (md 19), .ref (md 20), .ref (md 21), .ref (md 22), .ref (md 23), .ref (md 24)])), (md 9, .inl (g.2.1 0, 1024, .inl (hdM wr (128 * k) i (epn i) (nxf i) on)))] [] H locs := hw
                  refine lv_iconst (v := nI 0) hx hb dX7_send_107 (by decide +kernel) ?_
                  refine lv_istore (lv' := [(4, .int (nI 0)), (3, .int (nI (128 * k))), (2, .int (nI k)), (0, .ref (md 25)), (1, .int (nI i))]) hx hb dX7_send_108 hl (by decide) rfl (fun ls hl => ?_)
                  have lp110 : ∀ (fu : Nat) (t : Nat) (wv : Nat → Int32) (mv : Nat → Int32) (dv : Nat → Int32), on - t < fu → (t ≤ on) → (PartOf wv wr (128 * k) (15 + t) (wrF (hdF fb i (epn i) (nxf i) on) obf (shf se (32 * i)) t)) → (¬ t % 64 = 0 → mv = dbl (sIn (shf se (32 * i)) (hdF fb i (epn i) (nxf i) on) (nI (t / 64))) 10 ∧ dv = sIn (shf se (32 * i)) (hdF fb i (epn i) (nxf i) on) (nI (t / 64))) → ∀ (H : Heap) (locs : List Loc) (ls : Array Slot), WD g A s [(md 17, .inl (g.2.1 0, 400, .inl (rf))), (md 16, .inl (g.2.1 0, 64, .inl (wf))), (md 15, .inl (g.2.1 0, 8, .inl (sf))), (md 22, .inl (g.2.1 0, 64, .inl (kRW))), (md 18, .inl (g.2.1 0, 32, .inl (dg))), (md 19, .inl (g.2.1 0, 32, .inl (kf))), (md 21, .inl (g.2.1 0, 160, .inl (mf))), (md 3, .inl (g.2.1 0, 64, .inl (te))), (md 2, .inl (g.2.1 0, 64, .inl (se))), (md 23, .inl (g.2.1 0, 16, .inl (dv))), (md 24, .inl (g.2.1 0, 16, .inl (mv))), (md 4, .inl (g.2.1 0, 2, .inl (szF epn))), (md 5, .inl (g.2.1 1, 2, .inr (.inl (nxf)))), (md 10, .inl (g.2.1 0, 8, .inl (szF z))), (md 11, .inl (g.2.1 0, 96, .inl (obf))), (md 25, .inr (7, [.ref (md 0), .int (nI op), .ref (md 2), .ref (md 3), .ref (md 4), .ref (md 5), .ref (md 6), .ref (md 7), .ref (md 8), .ref (md 9), .ref (md 10), .ref (md 11), .int (nI on), .ref (md 13), .int (nI inn), .ref (md 15), .ref (md 16), .ref (md 17), .ref (md 18), .ref (md 19), .ref (md 20), .ref (md 21), .ref (md 22), .ref (md 23), .ref (md 24)])), (md 9, .inl (g.2.1 0, 1024, .inl (wv)))] [] H locs → lv_has ls 5 [(4, .int (nI t)), (0, .ref (md 25)), (1, .int (nI i)), (2, .int (nI k)), (3, .int (nI (128 * k)))] → W p l e { frames := 5, cells := 0, slots := 0, locals := 123 } s m ar below meth c H locs 0 0 Q (F0 m 110 ls []) := by
                    intro fu
                    induction fu with
                    | zero => intro t wv mv dv hmz; exact absurd hmz (Nat.not_lt_zero _)
                    | succ fu ih =>
                      intro t wv mv dv hms ht hP hg H locs ls hw hl
                      refine lv_iload hx hb dX7_send_110 (lv_at hl 0 rfl) ?_
                      refine lv_aload_n hx hb dX7_send_112 rfl (lv_at hl 1 rfl) ?_
                      refine r_get (ci := 7) (v := .int (nI on)) (C := RX7) (T := TX7) (N := 25) hx hb hts hinX7 hown h0 hw 15 rfl rfl 12 (by decide) k149 rfl dX7_send_113 ?_
                      refine lv_icmp_ge (tgt := 153) hx hb dX7_send_116 (by decide) (fun c52 => ?_) (fun c52 => ?_)
                      · skip
                        have c52 : on ≤ t := (nI_leI (by omega) (by omega)).mp c52
                        have hq : t = on := by omega
                        have hwS53 := hw; have hlS54 := hl
                        subst t
                        have hw := hwS53; have hl := hlS54
                        refine lv_aload_n hx hb dX7_send_153 rfl (lv_at hl 1 rfl) ?_
                        refine lv_iload_n hx hb dX7_send_154 rfl (lv_at hl 2 rfl) ?_
                        refine lv_iload_n hx hb dX7_send_155 rfl (lv_at hl 3 rfl) ?_
                        refine lv_bipush (v := nI 15) hx hb dX7_send_156 (by decide +kernel) ?_
                        refine lv_aload_n hx hb dX7_send_158 rfl (lv_at hl 1 rfl) ?_
                        refine r_get (ci := 7) (v := .int (nI on)) (C := RX7) (T := TX7) (N := 25) hx hb hts hinX7 hown h0 hw 15 rfl rfl 12 (by decide) k149 rfl dX7_send_159 ?_
                        refine lv_iadd hx hb dX7_send_162 ?_
                        refine r_te (y := nI (15 + on)) (nI_add 15 on) ?_
                        refine r_callv (wr := [(md 2, .inl (g.2.1 0, 64, .inl (se))), (md 23, .inl (g.2.1 0, 16, .inl (dv))), (md 24, .inl (g.2.1 0, 16, .inl (mv))), (md 4, .inl (g.2.1 0, 2, .inl (szF epn))), (md 5, .inl (g.2.1 1, 2, .inr (.inl (nxf)))), (md 10, .inl (g.2.1 0, 8, .inl (szF z))), (md 11, .inl (g.2.1 0, 96, .inl (obf)))]) [15, 0, 1, 2, 3, 4, 5, 6, 7, 16] [8, 9, 10, 11, 12, 13, 14] h0 hw rfl rfl (by decide) (by decide) (va_runV (As := [.int (nI i), .int (nI k), .int (nI (15 + on))]) (rest := []) ⟨hx, hb, hml, hown, hts⟩ (c_X7_tag l g md op on inn rf wf sf dg kf mf te wv i k (15 + on) (by omega) (by omega) (by omega) _) (cwV 3 hts gX7_send_X7_tag rfl rfl rfl (by decide +kernel) ⟨Nat.le_of_ble_eq_true rfl, Nat.le_of_ble_eq_true rfl⟩) (preV_of [15, 0, 1, 2, 3, 4, 5, 6, 7, 16] [.int (nI i), .int (nI k), .int (nI (15 + on))] h0 hw rfl (by decide) 15 7 rfl rfl) rfl rfl hl.1 rfl (lv_room (Nat.le_of_ble_eq_true rfl)) dX7_send_163 ⟨Nat.le_of_ble_eq_true rfl, Nat.le_of_ble_eq_true rfl⟩) (fun u56 H locs hp57 hw => ?_)
                        obtain ⟨r2_58, w2_59, s2_60, k2_61, m2_62⟩ := u56
                        have hw : WD g A s [(md 2, .inl (g.2.1 0, 64, .inl (se))), (md 23, .inl (g.2.1 0, 16, .inl (dv))), (md 24, .inl (g.2.1 0, 16, .inl (mv))), (md 4, .inl (g.2.1 0, 2, .inl (szF epn))), (md 5, .inl (g.2.1 1, 2, .inr (.inl (nxf)))), (md 10, .inl (g.2.1 0, 8, .inl (szF z))), (md 11, .inl (g.2.1 0, 96, .inl (obf))), (md 25, .inr (7, [.ref (md 0), .int (nI op), .ref (md 2), .ref (md 3), .ref (md 4), .ref (md 5), .ref (md 6), .ref (md 7), .ref (md 8), .ref (md 9), .ref (md 10), .ref (md 11), .int (nI on), .ref (md 13), .int (nI inn), .ref (md 15), .ref (md 16), .ref (md 17), .ref (md 18), .ref (md 19), .ref (md 20), .ref (md 21), .ref (md 22), .ref (md 23), .ref (md 24)])), (md 17, .inl (g.2.1 0, 400, .inl (r2_58))), (md 16, .inl (g.2.1 0, 64, .inl (w2_59))), (md 15, .inl (g.2.1 0, 8, .inl (s2_60))), (md 22, .inl (g.2.1 0, 64, .inl (kRW))), (md 18, .inl (g.2.1 0, 32, .inl (hmv (shf te (32 * i)) (shf wv (128 * k)) (15 + on)))), (md 19, .inl (g.2.1 0, 32, .inl (k2_61))), (md 21, .inl (g.2.1 0, 160, .inl (m2_62))), (md 3, .inl (g.2.1 0, 64, .inl (te))), (md 9, .inl (g.2.1 0, 1024, .inl (wv)))] [] H locs := hw
                        have hw := hw.cong 12 rfl (f' := hmv (shf te (32 * i)) (wrF (hdF fb i (epn i) (nxf i) on) obf (shf se (32 * i)) on) (15 + on)) (hmv_cong EqB.rf hP.1)
                        have hw : WD g A s [(md 2, .inl (g.2.1 0, 64, .inl (se))), (md 23, .inl (g.2.1 0, 16, .inl (dv))), (md 24, .inl (g.2.1 0, 16, .inl (mv))), (md 4, .inl (g.2.1 0, 2, .inl (szF epn))), (md 5, .inl (g.2.1 1, 2, .inr (.inl (nxf)))), (md 10, .inl (g.2.1 0, 8, .inl (szF z))), (md 11, .inl (g.2.1 0, 96, .inl (obf))), (md 25, .inr (7, [.ref (md 0), .int (nI op), .ref (md 2), .ref (md 3), .ref (md 4), .ref (md 5), .ref (md 6), .ref (md 7), .ref (md 8), .ref (md 9), .ref (md 10), .ref (md 11), .int (nI on), .ref (md 13), .int (nI inn), .ref (md 15), .ref (md 16), .ref (md 17), .ref (md 18), .ref (md 19), .ref (md 20), .ref (md 21), .ref (md 22), .ref (md 23), .ref (md 24)])), (md 17, .inl (g.2.1 0, 400, .inl (r2_58))), (md 16, .inl (g.2.1 0, 64, .inl (w2_59))), (md 15, .inl (g.2.1 0, 8, .inl (s2_60))), (md 22, .inl (g.2.1 0, 64, .inl (kRW))), (md 18, .inl (g.2.1 0, 32, .inl (hmv (shf te (32 * i)) (wrF (hdF fb i (epn i) (nxf i) on) obf (shf se (32 * i)) on) (15 + on)))), (md 19, .inl (g.2.1 0, 32, .inl (k2_61))), (md 21, .inl (g.2.1 0, 160, .inl (m2_62))), (md 3, .inl (g.2.1 0, 64, .inl (te))), (md 9, .inl (g.2.1 0, 1024, .inl (wv)))] [] _ _ := hw
                        refine lv_iconst (v := nI 0) hx hb dX7_send_166 (by decide +kernel) ?_
                        refine lv_istore (lv' := [(4, .int (nI 0)), (0, .ref (md 25)), (1, .int (nI i)), (2, .int (nI k)), (3, .int (nI (128 * k)))]) hx hb dX7_send_167 hl (by decide) rfl (fun ls hl => ?_)
                        have lp169 : ∀ (fu : Nat) (t : Nat) (wv : Nat → Int32), 16 - t < fu → (t ≤ 16) → (PartOf wv wr (128 * k) (15 + on + t) (apA (wrF (hdF fb i (epn i) (nxf i) on) obf (shf se (32 * i)) on) (15 + on) (hmv (shf te (32 * i)) (wrF (hdF fb i (epn i) (nxf i) on) obf (shf se (32 * i)) on) (15 + on)) t)) → ∀ (H : Heap) (locs : List Loc) (ls : Array Slot), WD g A s [(md 2, .inl (g.2.1 0, 64, .inl (se))), (md 23, .inl (g.2.1 0, 16, .inl (dv))), (md 24, .inl (g.2.1 0, 16, .inl (mv))), (md 4, .inl (g.2.1 0, 2, .inl (szF epn))), (md 5, .inl (g.2.1 1, 2, .inr (.inl (nxf)))), (md 10, .inl (g.2.1 0, 8, .inl (szF z))), (md 11, .inl (g.2.1 0, 96, .inl (obf))), (md 25, .inr (7, [.ref (md 0), .int (nI op), .ref (md 2), .ref (md 3), .ref (md 4), .ref (md 5), .ref (md 6), .ref (md 7), .ref (md 8), .ref (md 9), .ref (md 10), .ref (md 11), .int (nI on), .ref (md 13), .int (nI inn), .ref (md 15), .ref (md 16), .ref (md 17), .ref (md 18), .ref (md 19), .ref (md 20), .ref (md 21), .ref (md 22), .ref (md 23), .ref (md 24)])), (md 17, .inl (g.2.1 0, 400, .inl (r2_58))), (md 16, .inl (g.2.1 0, 64, .inl (w2_59))), (md 15, .inl (g.2.1 0, 8, .inl (s2_60))), (md 22, .inl (g.2.1 0, 64, .inl (kRW))), (md 18, .inl (g.2.1 0, 32, .inl (hmv (shf te (32 * i)) (wrF (hdF fb i (epn i) (nxf i) on) obf (shf se (32 * i)) on) (15 + on)))), (md 19, .inl (g.2.1 0, 32, .inl (k2_61))), (md 21, .inl (g.2.1 0, 160, .inl (m2_62))), (md 3, .inl (g.2.1 0, 64, .inl (te))), (md 9, .inl (g.2.1 0, 1024, .inl (wv)))] [] H locs → lv_has ls 5 [(4, .int (nI t)), (0, .ref (md 25)), (1, .int (nI i)), (2, .int (nI k)), (3, .int (nI (128 * k)))] → W p l e { frames := 5, cells := 0, slots := 0, locals := 123 } s m ar below meth c H locs 0 0 Q (F0 m 169 ls []) := by
                          intro fu
                          induction fu with
                          | zero => intro t wv hmz; exact absurd hmz (Nat.not_lt_zero _)
                          | succ fu ih =>
                            intro t wv hms ht hP H locs ls hw hl
                            refine lv_iload hx hb dX7_send_169 (lv_at hl 0 rfl) ?_
                            refine lv_bipush (v := nI 16) hx hb dX7_send_171 (by decide +kernel) ?_
                            refine lv_icmp_ge (tgt := 206) hx hb dX7_send_173 (by decide) (fun c63 => ?_) (fun c63 => ?_)
                            · skip
                              have c63 : 16 ≤ t := (nI_leI (by omega) (by omega)).mp c63
                              have hq : t = 16 := by omega
                              have hwS64 := hw; have hlS65 := hl
                              subst t
                              have hw := hwS64; have hl := hlS65
                              refine lv_aload_n hx hb dX7_send_206 rfl (lv_at hl 1 rfl) ?_
                              refine r_get (ci := 7) (v := .ref (md 10)) (C := RX7) (T := TX7) (N := 25) hx hb hts hinX7 hown h0 hw 7 rfl rfl 10 (by decide) k39 rfl dX7_send_207 ?_
                              refine lv_iload_n hx hb dX7_send_210 rfl (lv_at hl 3 rfl) ?_
                              refine lv_bipush (v := nI 15) hx hb dX7_send_211 (by decide +kernel) ?_
                              refine lv_aload_n hx hb dX7_send_213 rfl (lv_at hl 1 rfl) ?_
                              refine r_get (ci := 7) (v := .int (nI on)) (C := RX7) (T := TX7) (N := 25) hx hb hts hinX7 hown h0 hw 7 rfl rfl 12 (by decide) k149 rfl dX7_send_214 ?_
                              refine lv_iadd hx hb dX7_send_217 ?_
                              refine r_te (y := nI (15 + on)) (nI_add 15 on) ?_
                              refine lv_bipush (v := nI 16) hx hb dX7_send_218 (by decide +kernel) ?_
                              refine lv_iadd hx hb dX7_send_220 ?_
                              refine r_te (y := nI (15 + on + 16)) (nI_add (15 + on) 16) ?_
                              refine r_iast hx hb h0 hw 5 rfl (i := k) (by omega) (by omega) dX7_send_221 (fun H locs hw => ?_)
                              have hw : WD g A s [(md 2, .inl (g.2.1 0, 64, .inl (se))), (md 23, .inl (g.2.1 0, 16, .inl (dv))), (md 24, .inl (g.2.1 0, 16, .inl (mv))), (md 4, .inl (g.2.1 0, 2, .inl (szF epn))), (md 5, .inl (g.2.1 1, 2, .inr (.inl (nxf)))), (md 10, .inl (g.2.1 0, 8, .inl (upd (szF z) k (nI (15 + on + 16))))), (md 11, .inl (g.2.1 0, 96, .inl (obf))), (md 25, .inr (7, [.ref (md 0), .int (nI op), .ref (md 2), .ref (md 3), .ref (md 4), .ref (md 5), .ref (md 6), .ref (md 7), .ref (md 8), .ref (md 9), .ref (md 10), .ref (md 11), .int (nI on), .ref (md 13), .int (nI inn), .ref (md 15), .ref (md 16), .ref (md 17), .ref (md 18), .ref (md 19), .ref (md 20), .ref (md 21), .ref (md 22), .ref (md 23), .ref (md 24)])), (md 17, .inl (g.2.1 0, 400, .inl (r2_58))), (md 16, .inl (g.2.1 0, 64, .inl (w2_59))), (md 15, .inl (g.2.1 0, 8, .inl (s2_60))), (md 22, .inl (g.2.1 0, 64, .inl (kRW))), (md 18, .inl (g.2.1 0, 32, .inl (hmv (shf te (32 * i)) (wrF (hdF fb i (epn i) (nxf i) on) obf (shf se (32 * i)) on) (15 + on)))), (md 19, .inl (g.2.1 0, 32, .inl (k2_61))), (md 21, .inl (g.2.1 0, 160, .inl (m2_62))), (md 3, .inl (g.2.1 0, 64, .inl (te))), (md 9, .inl (g.2.1 0, 1024, .inl (wv)))] [] H locs := hw
                              have hw : WD g A s [(md 2, .inl (g.2.1 0, 64, .inl (se))), (md 23, .inl (g.2.1 0, 16, .inl (dv))), (md 24, .inl (g.2.1 0, 16, .inl (mv))), (md 4, .inl (g.2.1 0, 2, .inl (szF epn))), (md 5, .inl (g.2.1 1, 2, .inr (.inl (nxf)))), (md 10, .inl (g.2.1 0, 8, .inl (szF (va_up z k (15 + on + 16))))), (md 11, .inl (g.2.1 0, 96, .inl (obf))), (md 25, .inr (7, [.ref (md 0), .int (nI op), .ref (md 2), .ref (md 3), .ref (md 4), .ref (md 5), .ref (md 6), .ref (md 7), .ref (md 8), .ref (md 9), .ref (md 10), .ref (md 11), .int (nI on), .ref (md 13), .int (nI inn), .ref (md 15), .ref (md 16), .ref (md 17), .ref (md 18), .ref (md 19), .ref (md 20), .ref (md 21), .ref (md 22), .ref (md 23), .ref (md 24)])), (md 17, .inl (g.2.1 0, 400, .inl (r2_58))), (md 16, .inl (g.2.1 0, 64, .inl (w2_59))), (md 15, .inl (g.2.1 0, 8, .inl (s2_60))), (md 22, .inl (g.2.1 0, 64, .inl (kRW))), (md 18, .inl (g.2.1 0, 32, .inl (hmv (shf te (32 * i)) (wrF (hdF fb i (epn i) (nxf i) on) obf (shf se (32 * i)) on) (15 + on)))), (md 19, .inl (g.2.1 0, 32, .inl (k2_61))), (md 21, .inl (g.2.1 0, 160, .inl (m2_62))), (md 3, .inl (g.2.1 0, 64, .inl (te))), (md 9, .inl (g.2.1 0, 1024, .inl (wv)))] [] H locs := by rw [← szF_up]; exact hw
                              refine lv_aload_n hx hb dX7_send_222 rfl (lv_at hl 1 rfl) ?_
                              refine lv_iconst (v := nI 0) hx hb dX7_send_223 (by decide +kernel) ?_
                              refine r_put (ci := 7) (v := .int (nI 0)) (C := RX7) (T := TX7) (N := 25) hx hb hts hinX7 tyX7 tyX7_ok nmX7 hown h0 hw 7 rfl rfl 12 (by decide) k149 rfl rfl rfl (Nat.le_of_ble_eq_true rfl) dX7_send_224 (fun H locs hw => ?_)
                              have hw : WD g A s [(md 2, .inl (g.2.1 0, 64, .inl (se))), (md 23, .inl (g.2.1 0, 16, .inl (dv))), (md 24, .inl (g.2.1 0, 16, .inl (mv))), (md 4, .inl (g.2.1 0, 2, .inl (szF epn))), (md 5, .inl (g.2.1 1, 2, .inr (.inl (nxf)))), (md 10, .inl (g.2.1 0, 8, .inl (szF (va_up z k (15 + on + 16))))), (md 11, .inl (g.2.1 0, 96, .inl (obf))), (md 25, .inr (7, [.ref (md 0), .int (nI op), .ref (md 2), .ref (md 3), .ref (md 4), .ref (md 5), .ref (md 6), .ref (md 7), .ref (md 8), .ref (md 9), .ref (md 10), .ref (md 11), .int (nI 0), .ref (md 13), .int (nI inn), .ref (md 15), .ref (md 16), .ref (md 17), .ref (md 18), .ref (md 19), .ref (md 20), .ref (md 21), .ref (md 22), .ref (md 23), .ref (md 24)])), (md 17, .inl (g.2.1 0, 400, .inl (r2_58))), (md 16, .inl (g.2.1 0, 64, .inl (w2_59))), (md 15, .inl (g.2.1 0, 8, .inl (s2_60))), (md 22, .inl (g.2.1 0, 64, .inl (kRW))), (md 18, .inl (g.2.1 0, 32, .inl (hmv (shf te (32 * i)) (wrF (hdF fb i (epn i) (nxf i) on) obf (shf se (32 * i)) on) (15 + on)))), (md 19, .inl (g.2.1 0, 32, .inl (k2_61))), (md 21, .inl (g.2.1 0, 160, .inl (m2_62))), (md 3, .inl (g.2.1 0, 64, .inl (te))), (md 9, .inl (g.2.1 0, 1024, .inl (wv)))] [] H locs := hw
                              refine lv_aload_n hx hb dX7_send_227 rfl (lv_at hl 1 rfl) ?_
                              refine r_get (ci := 7) (v := .ref (md 5)) (C := RX7) (T := TX7) (N := 25) hx hb hts hinX7 hown h0 hw 7 rfl rfl 5 (by decide) k22 rfl dX7_send_228 ?_
                              refine lv_iload_n hx hb dX7_send_231 rfl (lv_at hl 2 rfl) ?_
                              refine lv_dup2_11 hx hb dX7_send_232 rfl rfl ?_
                              refine r_lald hx hb h0 hw 4 rfl (i := i) (by omega) (by omega) dX7_send_233 ?_
                              refine lv_lconst (v := 1) hx hb dX7_send_234 (by decide +kernel) ?_
                              refine lv_ladd hx hb dX7_send_235 ?_
                              refine r_last hx hb h0 hw 4 rfl (i := i) (by omega) (by omega) dX7_send_236 (fun H locs hw => ?_)
                              have hw : WD g A s [(md 2, .inl (g.2.1 0, 64, .inl (se))), (md 23, .inl (g.2.1 0, 16, .inl (dv))), (md 24, .inl (g.2.1 0, 16, .inl (mv))), (md 4, .inl (g.2.1 0, 2, .inl (szF epn))), (md 5, .inl (g.2.1 1, 2, .inr (.inl (vp_updL nxf i ((nxf i) + 1))))), (md 10, .inl (g.2.1 0, 8, .inl (szF (va_up z k (15 + on + 16))))), (md 11, .inl (g.2.1 0, 96, .inl (obf))), (md 25, .inr (7, [.ref (md 0), .int (nI op), .ref (md 2), .ref (md 3), .ref (md 4), .ref (md 5), .ref (md 6), .ref (md 7), .ref (md 8), .ref (md 9), .ref (md 10), .ref (md 11), .int (nI 0), .ref (md 13), .int (nI inn), .ref (md 15), .ref (md 16), .ref (md 17), .ref (md 18), .ref (md 19), .ref (md 20), .ref (md 21), .ref (md 22), .ref (md 23), .ref (md 24)])), (md 17, .inl (g.2.1 0, 400, .inl (r2_58))), (md 16, .inl (g.2.1 0, 64, .inl (w2_59))), (md 15, .inl (g.2.1 0, 8, .inl (s2_60))), (md 22, .inl (g.2.1 0, 64, .inl (kRW))), (md 18, .inl (g.2.1 0, 32, .inl (hmv (shf te (32 * i)) (wrF (hdF fb i (epn i) (nxf i) on) obf (shf se (32 * i)) on) (15 + on)))), (md 19, .inl (g.2.1 0, 32, .inl (k2_61))), (md 21, .inl (g.2.1 0, 160, .inl (m2_62))), (md 3, .inl (g.2.1 0, 64, .inl (te))), (md 9, .inl (g.2.1 0, 1024, .inl (wv)))] [] H locs := hw
                              refine lv_iload_n hx hb dX7_send_237 rfl (lv_at hl 3 rfl) ?_
                              exact hret (hw.perm (X' := [(md 25, .inr (7, [.ref (md 0), .int (nI op), .ref (md 2), .ref (md 3), .ref (md 4), .ref (md 5), .ref (md 6), .ref (md 7), .ref (md 8), .ref (md 9), .ref (md 10), .ref (md 11), .int (nI 0), .ref (md 13), .int (nI inn), .ref (md 15), .ref (md 16), .ref (md 17), .ref (md 18), .ref (md 19), .ref (md 20), .ref (md 21), .ref (md 22), .ref (md 23), .ref (md 24)])), (md 17, .inl (g.2.1 0, 400, .inl (r2_58))), (md 16, .inl (g.2.1 0, 64, .inl (w2_59))), (md 15, .inl (g.2.1 0, 8, .inl (s2_60))), (md 22, .inl (g.2.1 0, 64, .inl (kRW))), (md 18, .inl (g.2.1 0, 32, .inl (hmv (shf te (32 * i)) (wrF (hdF fb i (epn i) (nxf i) on) obf (shf se (32 * i)) on) (15 + on)))), (md 19, .inl (g.2.1 0, 32, .inl (k2_61))), (md 21, .inl (g.2.1 0, 160, .inl (m2_62))), (md 3, .inl (g.2.1 0, 64, .inl (te))), (md 9, .inl (g.2.1 0, 1024, .inl (wv))), (md 2, .inl (g.2.1 0, 64, .inl (se))), (md 23, .inl (g.2.1 0, 16, .inl (dv))), (md 24, .inl (g.2.1 0, 16, .inl (mv))), (md 4, .inl (g.2.1 0, 2, .inl (szF epn))), (md 5, .inl (g.2.1 1, 2, .inr (.inl (vp_updL nxf i ((nxf i) + 1))))), (md 10, .inl (g.2.1 0, 8, .inl (szF (va_up z k (15 + on + 16))))), (md 11, .inl (g.2.1 0, 96, .inl (obf)))]) [7, 8, 9, 10, 11, 12, 13, 14, 15, 16, 0, 1, 2, 3, 4, 5, 6] (by decide) rfl) (r2_58, w2_59, s2_60, hmv (shf te (32 * i)) (wrF (hdF fb i (epn i) (nxf i) on) obf (shf se (32 * i)) on) (15 + on), k2_61, m2_62, wv, dv, mv) (⟨rfl, hP⟩) (rfl) (by omega) (by omega) dX7_send_238
                            · skip
                              have c63 : ¬ 16 ≤ t := fun q => c63 (((nI_leI (by omega) (by omega)).mpr q))
                              refine lv_aload_n hx hb dX7_send_176 rfl (lv_at hl 1 rfl) ?_
                              refine r_get (ci := 7) (v := .ref (md 9)) (C := RX7) (T := TX7) (N := 25) hx hb hts hinX7 hown h0 hw 7 rfl rfl 9 (by decide) k36 rfl dX7_send_177 ?_
                              refine lv_iload_n hx hb dX7_send_180 rfl (lv_at hl 4 rfl) ?_
                              refine lv_bipush (v := nI 15) hx hb dX7_send_181 (by decide +kernel) ?_
                              refine lv_iadd hx hb dX7_send_183 ?_
                              refine r_te (y := nI (128 * k + 15)) (nI_add (128 * k) 15) ?_
                              refine lv_aload_n hx hb dX7_send_184 rfl (lv_at hl 1 rfl) ?_
                              refine r_get (ci := 7) (v := .int (nI on)) (C := RX7) (T := TX7) (N := 25) hx hb hts hinX7 hown h0 hw 7 rfl rfl 12 (by decide) k149 rfl dX7_send_185 ?_
                              refine lv_iadd hx hb dX7_send_188 ?_
                              refine r_te (y := nI (128 * k + 15 + on)) (nI_add (128 * k + 15) on) ?_
                              refine lv_iload hx hb dX7_send_189 (lv_at hl 0 rfl) ?_
                              refine lv_iadd hx hb dX7_send_191 ?_
                              refine r_te (y := nI (128 * k + 15 + on + t)) (nI_add (128 * k + 15 + on) t) ?_
                              refine lv_aload_n hx hb dX7_send_192 rfl (lv_at hl 1 rfl) ?_
                              refine r_get (ci := 7) (v := .ref (md 18)) (C := RX7) (T := TX7) (N := 25) hx hb hts hinX7 hown h0 hw 7 rfl rfl 18 (by decide) k57 rfl dX7_send_193 ?_
                              refine lv_iload hx hb dX7_send_196 (lv_at hl 0 rfl) ?_
                              refine r_iald hx hb h0 hw 12 rfl (i := t) (by omega) (by omega) dX7_send_198 ?_
                              refine r_iast hx hb h0 hw 16 rfl (i := 128 * k + 15 + on + t) (by omega) (by omega) dX7_send_199 (fun H locs hw => ?_)
                              have hw : WD g A s [(md 2, .inl (g.2.1 0, 64, .inl (se))), (md 23, .inl (g.2.1 0, 16, .inl (dv))), (md 24, .inl (g.2.1 0, 16, .inl (mv))), (md 4, .inl (g.2.1 0, 2, .inl (szF epn))), (md 5, .inl (g.2.1 1, 2, .inr (.inl (nxf)))), (md 10, .inl (g.2.1 0, 8, .inl (szF z))), (md 11, .inl (g.2.1 0, 96, .inl (obf))), (md 25, .inr (7, [.ref (md 0), .int (nI op), .ref (md 2), .ref (md 3), .ref (md 4), .ref (md 5), .ref (md 6), .ref (md 7), .ref (md 8), .ref (md 9), .ref (md 10), .ref (md 11), .int (nI on), .ref (md 13), .int (nI inn), .ref (md 15), .ref (md 16), .ref (md 17), .ref (md 18), .ref (md 19), .ref (md 20), .ref (md 21), .ref (md 22), .ref (md 23), .ref (md 24)])), (md 17, .inl (g.2.1 0, 400, .inl (r2_58))), (md 16, .inl (g.2.1 0, 64, .inl (w2_59))), (md 15, .inl (g.2.1 0, 8, .inl (s2_60))), (md 22, .inl (g.2.1 0, 64, .inl (kRW))), (md 18, .inl (g.2.1 0, 32, .inl (hmv (shf te (32 * i)) (wrF (hdF fb i (epn i) (nxf i) on) obf (shf se (32 * i)) on) (15 + on)))), (md 19, .inl (g.2.1 0, 32, .inl (k2_61))), (md 21, .inl (g.2.1 0, 160, .inl (m2_62))), (md 3, .inl (g.2.1 0, 64, .inl (te))), (md 9, .inl (g.2.1 0, 1024, .inl (upd wv (128 * k + 15 + on + t) ((hmv (shf te (32 * i)) (wrF (hdF fb i (epn i) (nxf i) on) obf (shf se (32 * i)) on) (15 + on)) t))))] [] H locs := hw
                              refine lv_iinc (v := nI (t + 1)) (lv' := [(4, .int (nI (t + 1))), (0, .ref (md 25)), (1, .int (nI i)), (2, .int (nI k)), (3, .int (nI (128 * k)))]) hx hb dX7_send_200 hl (k := 0) rfl (nI_add t 1) (by decide) rfl (fun ls hl => ?_)
                              refine lv_goto (tgt := 169) hx hb dX7_send_203 (by decide) ?_
                              exact ih (t + 1) (upd wv (128 * k + 15 + on + t) ((hmv (shf te (32 * i)) (wrF (hdF fb i (epn i) (nxf i) on) obf (shf se (32 * i)) on) (15 + on)) t)) (by omega) (by omega) (by have := hP.step (by omega) ((hmv (shf te (32 * i)) (wrF (hdF fb i (epn i) (nxf i) on) obf (shf se (32 * i)) on) (15 + on)) t); rw [← Nat.add_assoc, ← Nat.add_assoc] at this; exact this) _ _ _ hw (lv_sub hl [0, 1, 2, 3, 4] rfl)
                        exact lp169 (16 - 0 + 1) 0 wv (by omega) (by omega) (hP) _ _ _ hw (lv_sub hl [0, 1, 2, 3, 4] rfl)
                      · skip
                        have c52 : ¬ on ≤ t := fun q => c52 (((nI_leI (by omega) (by omega)).mpr q))
                        refine lv_aload_n hx hb dX7_send_119 rfl (lv_at hl 1 rfl) ?_
                        refine r_get (ci := 7) (v := .ref (md 9)) (C := RX7) (T := TX7) (N := 25) hx hb hts hinX7 hown h0 hw 15 rfl rfl 9 (by decide) k36 rfl dX7_send_120 ?_
                        refine lv_iload_n hx hb dX7_send_123 rfl (lv_at hl 4 rfl) ?_
                        refine lv_bipush (v := nI 15) hx hb dX7_send_124 (by decide +kernel) ?_
                        refine lv_iadd hx hb dX7_send_126 ?_
                        refine r_te (y := nI (128 * k + 15)) (nI_add (128 * k) 15) ?_
                        refine lv_iload hx hb dX7_send_127 (lv_at hl 0 rfl) ?_
                        refine lv_iadd hx hb dX7_send_129 ?_
                        refine r_te (y := nI (128 * k + 15 + t)) (nI_add (128 * k + 15) t) ?_
                        refine lv_aload_n hx hb dX7_send_130 rfl (lv_at hl 1 rfl) ?_
                        refine r_get (ci := 7) (v := .ref (md 11)) (C := RX7) (T := TX7) (N := 25) hx hb hts hinX7 hown h0 hw 15 rfl rfl 11 (by decide) k42 rfl dX7_send_131 ?_
                        refine lv_iload hx hb dX7_send_134 (lv_at hl 0 rfl) ?_
                        refine r_iald hx hb h0 hw 14 rfl (i := t) (by omega) (by omega) dX7_send_136 ?_
                        refine lv_aload_n hx hb dX7_send_137 rfl (lv_at hl 1 rfl) ?_
                        refine lv_iload_n hx hb dX7_send_138 rfl (lv_at hl 2 rfl) ?_
                        refine lv_iload_n hx hb dX7_send_139 rfl (lv_at hl 3 rfl) ?_
                        refine lv_iload hx hb dX7_send_140 (lv_at hl 0 rfl) ?_
                        refine r_calli (wr := [(md 17, .inl (g.2.1 0, 400, .inl (rf))), (md 16, .inl (g.2.1 0, 64, .inl (wf))), (md 15, .inl (g.2.1 0, 8, .inl (sf))), (md 22, .inl (g.2.1 0, 64, .inl (kRW))), (md 18, .inl (g.2.1 0, 32, .inl (dg))), (md 19, .inl (g.2.1 0, 32, .inl (kf))), (md 21, .inl (g.2.1 0, 160, .inl (mf))), (md 3, .inl (g.2.1 0, 64, .inl (te))), (md 4, .inl (g.2.1 0, 2, .inl (szF epn))), (md 5, .inl (g.2.1 1, 2, .inr (.inl (nxf)))), (md 10, .inl (g.2.1 0, 8, .inl (szF z))), (md 11, .inl (g.2.1 0, 96, .inl (obf)))]) [15, 8, 16, 9, 10] [0, 1, 2, 3, 4, 5, 6, 7, 11, 12, 13, 14] h0 hw rfl rfl (by decide) (by decide) (va_runV (As := [.int (nI i), .int (nI k), .int (nI t)]) (rest := [.int (obf t), .int (nI (128 * k + 15 + t)), .ref (md 9)]) ⟨hx, hb, hml, hown, hts⟩ (c_X7_streamByte l g md op on inn se wv dv mv ((shf se (32 * i))) ((hdF fb i (epn i) (nxf i) on)) i k t (by omega) (by omega) (by omega) (rfl) (hP.k5 (by omega)) (hP.k9 (by omega)) (hg) _) (cwV 3 hts gX7_send_X7_streamByte rfl rfl rfl (by decide +kernel) ⟨Nat.le_of_ble_eq_true rfl, Nat.le_of_ble_eq_true rfl⟩) (preV_of [15, 8, 16, 9, 10] [.int (nI i), .int (nI k), .int (nI t)] h0 hw rfl (by decide) 15 7 rfl rfl) rfl rfl hl.1 rfl (lv_room (Nat.le_of_ble_eq_true rfl)) dX7_send_142 ⟨Nat.le_of_ble_eq_true rfl, Nat.le_of_ble_eq_true rfl⟩) (fun r66 u67 H locs hp68 hw => ?_)
                        obtain ⟨m2_69, w2_70⟩ := u67
                        have hw : WD g A s [(md 17, .inl (g.2.1 0, 400, .inl (rf))), (md 16, .inl (g.2.1 0, 64, .inl (wf))), (md 15, .inl (g.2.1 0, 8, .inl (sf))), (md 22, .inl (g.2.1 0, 64, .inl (kRW))), (md 18, .inl (g.2.1 0, 32, .inl (dg))), (md 19, .inl (g.2.1 0, 32, .inl (kf))), (md 21, .inl (g.2.1 0, 160, .inl (mf))), (md 3, .inl (g.2.1 0, 64, .inl (te))), (md 4, .inl (g.2.1 0, 2, .inl (szF epn))), (md 5, .inl (g.2.1 1, 2, .inr (.inl (nxf)))), (md 10, .inl (g.2.1 0, 8, .inl (szF z))), (md 11, .inl (g.2.1 0, 96, .inl (obf))), (md 25, .inr (7, [.ref (md 0), .int (nI op), .ref (md 2), .ref (md 3), .ref (md 4), .ref (md 5), .ref (md 6), .ref (md 7), .ref (md 8), .ref (md 9), .ref (md 10), .ref (md 11), .int (nI on), .ref (md 13), .int (nI inn), .ref (md 15), .ref (md 16), .ref (md 17), .ref (md 18), .ref (md 19), .ref (md 20), .ref (md 21), .ref (md 22), .ref (md 23), .ref (md 24)])), (md 2, .inl (g.2.1 0, 64, .inl (se))), (md 9, .inl (g.2.1 0, 1024, .inl (wv))), (md 23, .inl (g.2.1 0, 16, .inl (w2_70))), (md 24, .inl (g.2.1 0, 16, .inl (m2_69)))] [] H locs := hw
                        obtain ⟨rfl, hp68⟩ := hp68
                        have hpN := hp68
                        refine lv_ixor hx hb dX7_send_145 ?_
                        refine r_iast hx hb h0 hw 14 rfl (i := 128 * k + 15 + t) (by omega) (by omega) dX7_send_146 (fun H locs hw => ?_)
                        have hw : WD g A s [(md 17, .inl (g.2.1 0, 400, .inl (rf))), (md 16, .inl (g.2.1 0, 64, .inl (wf))), (md 15, .inl (g.2.1 0, 8, .inl (sf))), (md 22, .inl (g.2.1 0, 64, .inl (kRW))), (md 18, .inl (g.2.1 0, 32, .inl (dg))), (md 19, .inl (g.2.1 0, 32, .inl (kf))), (md 21, .inl (g.2.1 0, 160, .inl (mf))), (md 3, .inl (g.2.1 0, 64, .inl (te))), (md 4, .inl (g.2.1 0, 2, .inl (szF epn))), (md 5, .inl (g.2.1 1, 2, .inr (.inl (nxf)))), (md 10, .inl (g.2.1 0, 8, .inl (szF z))), (md 11, .inl (g.2.1 0, 96, .inl (obf))), (md 25, .inr (7, [.ref (md 0), .int (nI op), .ref (md 2), .ref (md 3), .ref (md 4), .ref (md 5), .ref (md 6), .ref (md 7), .ref (md 8), .ref (md 9), .ref (md 10), .ref (md 11), .int (nI on), .ref (md 13), .int (nI inn), .ref (md 15), .ref (md 16), .ref (md 17), .ref (md 18), .ref (md 19), .ref (md 20), .ref (md 21), .ref (md 22), .ref (md 23), .ref (md 24)])), (md 2, .inl (g.2.1 0, 64, .inl (se))), (md 9, .inl (g.2.1 0, 1024, .inl (upd wv (128 * k + 15 + t) ((obf t) ^^^ (sByte ((shf se (32 * i))) ((hdF fb i (epn i) (nxf i) on)) t))))), (md 23, .inl (g.2.1 0, 16, .inl (w2_70))), (md 24, .inl (g.2.1 0, 16, .inl (m2_69)))] [] H locs := hw
                        refine lv_iinc (v := nI (t + 1)) (lv' := [(4, .int (nI (t + 1))), (0, .ref (md 25)), (1, .int (nI i)), (2, .int (nI k)), (3, .int (nI (128 * k)))]) hx hb dX7_send_147 hl (k := 0) rfl (nI_add t 1) (by decide) rfl (fun ls hl => ?_)
                        refine lv_goto (tgt := 110) hx hb dX7_send_150 (by decide) ?_
                        exact ih (t + 1) (upd wv (128 * k + 15 + t) ((obf t) ^^^ (sByte ((shf se (32 * i))) ((hdF fb i (epn i) (nxf i) on)) t))) m2_69 w2_70 (by omega) (by omega) (by have := hP.step (by omega) (obf t ^^^ sByte (shf se (32 * i)) (hdF fb i (epn i) (nxf i) on) t); rw [← Nat.add_assoc] at this; exact this) (fun q => by rw [show (t + 1) / 64 = t / 64 by omega]; exact hpN) _ _ _ (hw.perm [0, 1, 2, 3, 4, 5, 6, 7, 13, 15, 16, 8, 9, 10, 11, 12, 14] (by decide) rfl) (lv_sub hl [0, 1, 2, 3, 4] rfl)
                  exact lp110 (on - 0 + 1) 0 (hdM wr (128 * k) i (epn i) (nxf i) on) mx wd (by omega) (by omega) (⟨fun j hj => hdM_eq wr fb (128 * k) i (epn i) (nxf i) on hj, fun j hj => hdM_out wr (128 * k) i (epn i) (nxf i) on (by omega)⟩) (fun q => absurd rfl q) _ _ _ hw (lv_sub hl [0, 3, 4, 2, 1] rfl)
                · skip
                  have c42 : k = 8 := (nI_eq (by omega) (by omega)).mp c42
                  exfalso; omega
              · skip
                rw [← nI_0] at c39
                have c39 : ¬ (z j) ≤ 0 := fun q => c39 (((nI_leI (by omega) (by omega)).mpr q))
                have hjk : ¬ j = k := fun q => c39 (by rw [q, hk0]; exact Nat.le_refl 0)
                refine lv_iinc (v := nI (j + 1)) (lv' := [(2, .int (nI (j + 1))), (0, .ref (md 25)), (1, .int (nI i))]) hx hb dX7_send_35 hl (k := 0) rfl (nI_add j 1) (by decide) rfl (fun ls hl => ?_)
                refine lv_goto (tgt := 20) hx hb dX7_send_38 (by decide) ?_
                exact ih (j + 1) (by omega) (by omega) _ _ _ hw (lv_sub hl [0, 1, 2] rfl)
        exact lp20 (8 - 0 + 1) 0 (by omega) (by omega) _ _ _ hw (lv_sub hl [0, 1, 2] rfl)
      · skip
        rw [← nI_0] at c37
        have c37 : op = 0 := (nI_eq (by omega) (by omega)).mp c37
        exfalso; omega

set_option maxHeartbeats 4000000 in
set_option maxRecDepth 100000 in
theorem c_X7_send_none (l : Launch) (g : GE) (md : Nat → Nat) (op : Nat) (on : Nat) (inn : Nat) (z : Nat → Nat) (i : Nat) (hop : ¬ op = 0) (hop2 : op < 2) (hi : i < 2) (hk1 : ∀ j, j < 8 → ¬ z j = 0) (hz : ∀ j, j < 8 → z j ≤ 127) (sz : Nat) : MI l yX7_send wsX7_send { frames := 5, cells := 0, slots := 0, locals := 123 } g [.ref (md 25), .int (nI i)] [(md 25, .inr (7, [.ref (md 0), .int (nI op), .ref (md 2), .ref (md 3), .ref (md 4), .ref (md 5), .ref (md 6), .ref (md 7), .ref (md 8), .ref (md 9), .ref (md 10), .ref (md 11), .int (nI on), .ref (md 13), .int (nI inn), .ref (md 15), .ref (md 16), .ref (md 17), .ref (md 18), .ref (md 19), .ref (md 20), .ref (md 21), .ref (md 22), .ref (md 23), .ref (md 24)])), (md 10, .inl (g.2.1 0, 8, .inl (szF z)))] sz (fun (r : Int32) (_ : Unit) => r = -2) (fun (_ : Unit) => [(md 25, .inr (7, [.ref (md 0), .int (nI op), .ref (md 2), .ref (md 3), .ref (md 4), .ref (md 5), .ref (md 6), .ref (md 7), .ref (md 8), .ref (md 9), .ref (md 10), .ref (md 11), .int (nI on), .ref (md 13), .int (nI inn), .ref (md 15), .ref (md 16), .ref (md 17), .ref (md 18), .ref (md 19), .ref (md 20), .ref (md 21), .ref (md 22), .ref (md 23), .ref (md 24)])), (md 10, .inl (g.2.1 0, 8, .inl (szF z)))]) 0 0 := by
  refine enterI (by decide) rfl (Nat.le_of_ble_eq_true rfl) ?_
  intro p e s m below meth c A ls ar Q hE h0 hret hw hl
  obtain ⟨hx, hb, hr, hml, hown, hts, hlocks, hname⟩ := hE
  have hown : s.vm.findClass RX7 = some m.cls := hown
  have hw : WD g A s [(md 25, .inr (7, [.ref (md 0), .int (nI op), .ref (md 2), .ref (md 3), .ref (md 4), .ref (md 5), .ref (md 6), .ref (md 7), .ref (md 8), .ref (md 9), .ref (md 10), .ref (md 11), .int (nI on), .ref (md 13), .int (nI inn), .ref (md 15), .ref (md 16), .ref (md 17), .ref (md 18), .ref (md 19), .ref (md 20), .ref (md 21), .ref (md 22), .ref (md 23), .ref (md 24)])), (md 10, .inl (g.2.1 0, 8, .inl (szF z)))] [] s.heap [] := hw
  have hinX7 : ∀ w ∈ u_ws RX7 TX7 25, w ∈ wsX7_send := by decide +kernel
  have k19 := hts (.fieldLink RX7 19 "RecordWireModel" "epochs" "[I") (by decide +kernel)
  have k22 := hts (.fieldLink RX7 22 "RecordWireModel" "nexts" "[J") (by decide +kernel)
  have k36 := hts (.fieldLink RX7 36 "RecordWireModel" "wire" "[I") (by decide +kernel)
  have k39 := hts (.fieldLink RX7 39 "RecordWireModel" "sizes" "[I") (by decide +kernel)
  have k42 := hts (.fieldLink RX7 42 "RecordWireModel" "outbox" "[I") (by decide +kernel)
  have k57 := hts (.fieldLink RX7 57 "RecordWireModel" "digest" "[I") (by decide +kernel)
  have k145 := hts (.fieldLink RX7 145 "RecordWireModel" "isOpen" "Z") (by decide +kernel)
  have k149 := hts (.fieldLink RX7 149 "RecordWireModel" "outSize" "I") (by decide +kernel)
  have hl : lv_has ls 5 [(0, .ref (md 25)), (1, .int (nI i))] := hl
  refine lv_iload_n hx hb dX7_send_0 rfl (lv_at hl 1 rfl) ?_
  refine lv_if_eq (tgt := 9) hx hb dX7_send_1 (by decide) (fun c1 => ?_) (fun c1 => ?_)
  · skip
    rw [← nI_0] at c1
    have c1 : i = 0 := (nI_eq (by omega) (by omega)).mp c1
    refine lv_aload_n hx hb dX7_send_9 rfl (lv_at hl 0 rfl) ?_
    refine r_get (ci := 7) (v := .int (nI op)) (C := RX7) (T := TX7) (N := 25) hx hb hts hinX7 hown h0 hw 0 rfl rfl 1 (by decide) k145 rfl dX7_send_10 ?_
    refine lv_if_ne (tgt := 18) hx hb dX7_send_13 (by decide) (fun c2 => ?_) (fun c2 => ?_)
    · skip
      rw [← nI_0] at c2
      have c2 : ¬ op = 0 := fun q => c2 (((nI_eq (by omega) (by omega)).mpr q))
      refine lv_iconst (v := nI 0) hx hb dX7_send_18 (by decide +kernel) ?_
      refine lv_istore_n (lv' := [(2, .int (nI 0)), (0, .ref (md 25)), (1, .int (nI i))]) hx hb dX7_send_19 rfl hl (by decide) rfl (fun ls hl => ?_)
      have lp20 : ∀ (fu : Nat) (j : Nat), 8 - j < fu → (j ≤ 8) → ∀ (H : Heap) (locs : List Loc) (ls : Array Slot), WD g A s [(md 25, .inr (7, [.ref (md 0), .int (nI op), .ref (md 2), .ref (md 3), .ref (md 4), .ref (md 5), .ref (md 6), .ref (md 7), .ref (md 8), .ref (md 9), .ref (md 10), .ref (md 11), .int (nI on), .ref (md 13), .int (nI inn), .ref (md 15), .ref (md 16), .ref (md 17), .ref (md 18), .ref (md 19), .ref (md 20), .ref (md 21), .ref (md 22), .ref (md 23), .ref (md 24)])), (md 10, .inl (g.2.1 0, 8, .inl (szF z)))] [] H locs → lv_has ls 5 [(2, .int (nI j)), (0, .ref (md 25)), (1, .int (nI i))] → W p l e { frames := 5, cells := 0, slots := 0, locals := 123 } s m ar below meth c H locs 0 0 Q (F0 m 20 ls []) := by
        intro fu
        induction fu with
        | zero => intro j hmz; exact absurd hmz (Nat.not_lt_zero _)
        | succ fu ih =>
          intro j hms hj H locs ls hw hl
          refine lv_iload_n hx hb dX7_send_20 rfl (lv_at hl 0 rfl) ?_
          refine lv_bipush (v := nI 8) hx hb dX7_send_21 (by decide +kernel) ?_
          refine lv_icmp_ge (tgt := 41) hx hb dX7_send_23 (by decide) (fun c3 => ?_) (fun c3 => ?_)
          · skip
            have c3 : 8 ≤ j := (nI_leI (by omega) (by omega)).mp c3
            have hq : j = 8 := by omega
            have hwS4 := hw; have hlS5 := hl
            subst j
            have hw := hwS4; have hl := hlS5
            refine lv_iload_n hx hb dX7_send_41 rfl (lv_at hl 0 rfl) ?_
            refine lv_bipush (v := nI 8) hx hb dX7_send_42 (by decide +kernel) ?_
            refine lv_icmp_ne (tgt := 50) hx hb dX7_send_44 (by decide) (fun c6 => ?_) (fun c6 => ?_)
            · skip
              have c6 : ¬ 8 = 8 := fun q => c6 (((nI_eq (by omega) (by omega)).mpr q))
              exfalso; omega
            · skip
              have c6 : 8 = 8 := (nI_eq (by omega) (by omega)).mp c6
              refine lv_bipush (v := -2) hx hb dX7_send_47 (by decide +kernel) ?_
              exact hret hw () (rfl) (rfl) (by omega) (by omega) dX7_send_49
          · skip
            have c3 : ¬ 8 ≤ j := fun q => c3 (((nI_leI (by omega) (by omega)).mpr q))
            refine lv_aload_n hx hb dX7_send_26 rfl (lv_at hl 1 rfl) ?_
            refine r_get (ci := 7) (v := .ref (md 10)) (C := RX7) (T := TX7) (N := 25) hx hb hts hinX7 hown h0 hw 0 rfl rfl 10 (by decide) k39 rfl dX7_send_27 ?_
            refine lv_iload_n hx hb dX7_send_30 rfl (lv_at hl 0 rfl) ?_
            refine r_iald hx hb h0 hw 1 rfl (i := j) (by omega) (by omega) dX7_send_31 ?_
            have hzj := hz j (by omega)
            refine r_te (y := nI (z j)) rfl ?_
            refine lv_if_le (tgt := 41) hx hb dX7_send_32 (by decide) (fun c7 => ?_) (fun c7 => ?_)
            · skip
              rw [← nI_0] at c7
              have c7 : (z j) ≤ 0 := (nI_leI (by omega) (by omega)).mp c7
              exact absurd (by omega) (hk1 j (by omega))
            · skip
              rw [← nI_0] at c7
              have c7 : ¬ (z j) ≤ 0 := fun q => c7 (((nI_leI (by omega) (by omega)).mpr q))
              refine lv_iinc (v := nI (j + 1)) (lv' := [(2, .int (nI (j + 1))), (0, .ref (md 25)), (1, .int (nI i))]) hx hb dX7_send_35 hl (k := 0) rfl (nI_add j 1) (by decide) rfl (fun ls hl => ?_)
              refine lv_goto (tgt := 20) hx hb dX7_send_38 (by decide) ?_
              exact ih (j + 1) (by omega) (by omega) _ _ _ hw (lv_sub hl [0, 1, 2] rfl)
      exact lp20 (8 - 0 + 1) 0 (by omega) (by omega) _ _ _ hw (lv_sub hl [0, 1, 2] rfl)
    · skip
      rw [← nI_0] at c2
      have c2 : op = 0 := (nI_eq (by omega) (by omega)).mp c2
      exfalso; omega
  · skip
    rw [← nI_0] at c1
    have c1 : ¬ i = 0 := fun q => c1 (((nI_eq (by omega) (by omega)).mpr q))
    refine lv_iload_n hx hb dX7_send_4 rfl (lv_at hl 1 rfl) ?_
    refine lv_iconst (v := nI 1) hx hb dX7_send_5 (by decide +kernel) ?_
    refine lv_icmp_ne (tgt := 16) hx hb dX7_send_6 (by decide) (fun c8 => ?_) (fun c8 => ?_)
    · skip
      have c8 : ¬ i = 1 := fun q => c8 (((nI_eq (by omega) (by omega)).mpr q))
      exfalso; omega
    · skip
      have c8 : i = 1 := (nI_eq (by omega) (by omega)).mp c8
      refine lv_aload_n hx hb dX7_send_9 rfl (lv_at hl 0 rfl) ?_
      refine r_get (ci := 7) (v := .int (nI op)) (C := RX7) (T := TX7) (N := 25) hx hb hts hinX7 hown h0 hw 0 rfl rfl 1 (by decide) k145 rfl dX7_send_10 ?_
      refine lv_if_ne (tgt := 18) hx hb dX7_send_13 (by decide) (fun c9 => ?_) (fun c9 => ?_)
      · skip
        rw [← nI_0] at c9
        have c9 : ¬ op = 0 := fun q => c9 (((nI_eq (by omega) (by omega)).mpr q))
        refine lv_iconst (v := nI 0) hx hb dX7_send_18 (by decide +kernel) ?_
        refine lv_istore_n (lv' := [(2, .int (nI 0)), (0, .ref (md 25)), (1, .int (nI i))]) hx hb dX7_send_19 rfl hl (by decide) rfl (fun ls hl => ?_)
        have lp20 : ∀ (fu : Nat) (j : Nat), 8 - j < fu → (j ≤ 8) → ∀ (H : Heap) (locs : List Loc) (ls : Array Slot), WD g A s [(md 25, .inr (7, [.ref (md 0), .int (nI op), .ref (md 2), .ref (md 3), .ref (md 4), .ref (md 5), .ref (md 6), .ref (md 7), .ref (md 8), .ref (md 9), .ref (md 10), .ref (md 11), .int (nI on), .ref (md 13), .int (nI inn), .ref (md 15), .ref (md 16), .ref (md 17), .ref (md 18), .ref (md 19), .ref (md 20), .ref (md 21), .ref (md 22), .ref (md 23), .ref (md 24)])), (md 10, .inl (g.2.1 0, 8, .inl (szF z)))] [] H locs → lv_has ls 5 [(2, .int (nI j)), (0, .ref (md 25)), (1, .int (nI i))] → W p l e { frames := 5, cells := 0, slots := 0, locals := 123 } s m ar below meth c H locs 0 0 Q (F0 m 20 ls []) := by
          intro fu
          induction fu with
          | zero => intro j hmz; exact absurd hmz (Nat.not_lt_zero _)
          | succ fu ih =>
            intro j hms hj H locs ls hw hl
            refine lv_iload_n hx hb dX7_send_20 rfl (lv_at hl 0 rfl) ?_
            refine lv_bipush (v := nI 8) hx hb dX7_send_21 (by decide +kernel) ?_
            refine lv_icmp_ge (tgt := 41) hx hb dX7_send_23 (by decide) (fun c10 => ?_) (fun c10 => ?_)
            · skip
              have c10 : 8 ≤ j := (nI_leI (by omega) (by omega)).mp c10
              have hq : j = 8 := by omega
              have hwS11 := hw; have hlS12 := hl
              subst j
              have hw := hwS11; have hl := hlS12
              refine lv_iload_n hx hb dX7_send_41 rfl (lv_at hl 0 rfl) ?_
              refine lv_bipush (v := nI 8) hx hb dX7_send_42 (by decide +kernel) ?_
              refine lv_icmp_ne (tgt := 50) hx hb dX7_send_44 (by decide) (fun c13 => ?_) (fun c13 => ?_)
              · skip
                have c13 : ¬ 8 = 8 := fun q => c13 (((nI_eq (by omega) (by omega)).mpr q))
                exfalso; omega
              · skip
                have c13 : 8 = 8 := (nI_eq (by omega) (by omega)).mp c13
                refine lv_bipush (v := -2) hx hb dX7_send_47 (by decide +kernel) ?_
                exact hret hw () (rfl) (rfl) (by omega) (by omega) dX7_send_49
            · skip
              have c10 : ¬ 8 ≤ j := fun q => c10 (((nI_leI (by omega) (by omega)).mpr q))
              refine lv_aload_n hx hb dX7_send_26 rfl (lv_at hl 1 rfl) ?_
              refine r_get (ci := 7) (v := .ref (md 10)) (C := RX7) (T := TX7) (N := 25) hx hb hts hinX7 hown h0 hw 0 rfl rfl 10 (by decide) k39 rfl dX7_send_27 ?_
              refine lv_iload_n hx hb dX7_send_30 rfl (lv_at hl 0 rfl) ?_
              refine r_iald hx hb h0 hw 1 rfl (i := j) (by omega) (by omega) dX7_send_31 ?_
              have hzj := hz j (by omega)
              refine r_te (y := nI (z j)) rfl ?_
              refine lv_if_le (tgt := 41) hx hb dX7_send_32 (by decide) (fun c14 => ?_) (fun c14 => ?_)
              · skip
                rw [← nI_0] at c14
                have c14 : (z j) ≤ 0 := (nI_leI (by omega) (by omega)).mp c14
                exact absurd (by omega) (hk1 j (by omega))
              · skip
                rw [← nI_0] at c14
                have c14 : ¬ (z j) ≤ 0 := fun q => c14 (((nI_leI (by omega) (by omega)).mpr q))
                refine lv_iinc (v := nI (j + 1)) (lv' := [(2, .int (nI (j + 1))), (0, .ref (md 25)), (1, .int (nI i))]) hx hb dX7_send_35 hl (k := 0) rfl (nI_add j 1) (by decide) rfl (fun ls hl => ?_)
                refine lv_goto (tgt := 20) hx hb dX7_send_38 (by decide) ?_
                exact ih (j + 1) (by omega) (by omega) _ _ _ hw (lv_sub hl [0, 1, 2] rfl)
        exact lp20 (8 - 0 + 1) 0 (by omega) (by omega) _ _ _ hw (lv_sub hl [0, 1, 2] rfl)
      · skip
        rw [← nI_0] at c9
        have c9 : op = 0 := (nI_eq (by omega) (by omega)).mp c9
        exfalso; omega

set_option maxHeartbeats 4000000 in
set_option maxRecDepth 100000 in
theorem c_X7_send_bad (l : Launch) (g : GE) (md : Nat → Nat) (op : Nat) (on : Nat) (inn : Nat) (i : Int32) (hop2 : op < 2) (hbad : ¬ (inR i 2 ∧ ¬ op = 0)) (sz : Nat) : MI l yX7_send wsX7_send { frames := 5, cells := 0, slots := 0, locals := 123 } g [.ref (md 25), .int (i)] [(md 25, .inr (7, [.ref (md 0), .int (nI op), .ref (md 2), .ref (md 3), .ref (md 4), .ref (md 5), .ref (md 6), .ref (md 7), .ref (md 8), .ref (md 9), .ref (md 10), .ref (md 11), .int (nI on), .ref (md 13), .int (nI inn), .ref (md 15), .ref (md 16), .ref (md 17), .ref (md 18), .ref (md 19), .ref (md 20), .ref (md 21), .ref (md 22), .ref (md 23), .ref (md 24)]))] sz (fun (r : Int32) (_ : Unit) => r = -1) (fun (_ : Unit) => [(md 25, .inr (7, [.ref (md 0), .int (nI op), .ref (md 2), .ref (md 3), .ref (md 4), .ref (md 5), .ref (md 6), .ref (md 7), .ref (md 8), .ref (md 9), .ref (md 10), .ref (md 11), .int (nI on), .ref (md 13), .int (nI inn), .ref (md 15), .ref (md 16), .ref (md 17), .ref (md 18), .ref (md 19), .ref (md 20), .ref (md 21), .ref (md 22), .ref (md 23), .ref (md 24)]))]) 0 0 := by
  refine enterI (by decide) rfl (Nat.le_of_ble_eq_true rfl) ?_
  intro p e s m below meth c A ls ar Q hE h0 hret hw hl
  obtain ⟨hx, hb, hr, hml, hown, hts, hlocks, hname⟩ := hE
  have hown : s.vm.findClass RX7 = some m.cls := hown
  have hw : WD g A s [(md 25, .inr (7, [.ref (md 0), .int (nI op), .ref (md 2), .ref (md 3), .ref (md 4), .ref (md 5), .ref (md 6), .ref (md 7), .ref (md 8), .ref (md 9), .ref (md 10), .ref (md 11), .int (nI on), .ref (md 13), .int (nI inn), .ref (md 15), .ref (md 16), .ref (md 17), .ref (md 18), .ref (md 19), .ref (md 20), .ref (md 21), .ref (md 22), .ref (md 23), .ref (md 24)]))] [] s.heap [] := hw
  have hinX7 : ∀ w ∈ u_ws RX7 TX7 25, w ∈ wsX7_send := by decide +kernel
  have k19 := hts (.fieldLink RX7 19 "RecordWireModel" "epochs" "[I") (by decide +kernel)
  have k22 := hts (.fieldLink RX7 22 "RecordWireModel" "nexts" "[J") (by decide +kernel)
  have k36 := hts (.fieldLink RX7 36 "RecordWireModel" "wire" "[I") (by decide +kernel)
  have k39 := hts (.fieldLink RX7 39 "RecordWireModel" "sizes" "[I") (by decide +kernel)
  have k42 := hts (.fieldLink RX7 42 "RecordWireModel" "outbox" "[I") (by decide +kernel)
  have k57 := hts (.fieldLink RX7 57 "RecordWireModel" "digest" "[I") (by decide +kernel)
  have k145 := hts (.fieldLink RX7 145 "RecordWireModel" "isOpen" "Z") (by decide +kernel)
  have k149 := hts (.fieldLink RX7 149 "RecordWireModel" "outSize" "I") (by decide +kernel)
  have hl : lv_has ls 5 [(0, .ref (md 25)), (1, .int (i))] := hl
  refine lv_iload_n hx hb dX7_send_0 rfl (lv_at hl 1 rfl) ?_
  refine lv_if_eq (tgt := 9) hx hb dX7_send_1 (by decide) (fun c1 => ?_) (fun c1 => ?_)
  · skip
    have q1 : inR i 2 := by rw [c1]; decide +kernel
    refine lv_aload_n hx hb dX7_send_9 rfl (lv_at hl 0 rfl) ?_
    refine r_get (ci := 7) (v := .int (nI op)) (C := RX7) (T := TX7) (N := 25) hx hb hts hinX7 hown h0 hw 0 rfl rfl 1 (by decide) k145 rfl dX7_send_10 ?_
    refine lv_if_ne (tgt := 18) hx hb dX7_send_13 (by decide) (fun c2 => ?_) (fun c2 => ?_)
    · skip
      rw [← nI_0] at c2
      have c2 : ¬ op = 0 := fun q => c2 (((nI_eq (by omega) (by omega)).mpr q))
      exact absurd ⟨q1, c2⟩ hbad
    · skip
      rw [← nI_0] at c2
      have c2 : op = 0 := (nI_eq (by omega) (by omega)).mp c2
      refine lv_iconst (v := -1) hx hb dX7_send_16 (by decide +kernel) ?_
      exact hret hw () (rfl) (rfl) (by omega) (by omega) dX7_send_17
  · skip
    refine lv_iload_n hx hb dX7_send_4 rfl (lv_at hl 1 rfl) ?_
    refine lv_iconst (v := nI 1) hx hb dX7_send_5 (by decide +kernel) ?_
    refine lv_icmp_ne (tgt := 16) hx hb dX7_send_6 (by decide) (fun c3 => ?_) (fun c3 => ?_)
    · skip
      refine lv_iconst (v := -1) hx hb dX7_send_16 (by decide +kernel) ?_
      exact hret hw () (rfl) (rfl) (by omega) (by omega) dX7_send_17
    · skip
      have q1 : inR i 2 := by rw [c3]; decide +kernel
      refine lv_aload_n hx hb dX7_send_9 rfl (lv_at hl 0 rfl) ?_
      refine r_get (ci := 7) (v := .int (nI op)) (C := RX7) (T := TX7) (N := 25) hx hb hts hinX7 hown h0 hw 0 rfl rfl 1 (by decide) k145 rfl dX7_send_10 ?_
      refine lv_if_ne (tgt := 18) hx hb dX7_send_13 (by decide) (fun c4 => ?_) (fun c4 => ?_)
      · skip
        rw [← nI_0] at c4
        have c4 : ¬ op = 0 := fun q => c4 (((nI_eq (by omega) (by omega)).mpr q))
        exact absurd ⟨q1, c4⟩ hbad
      · skip
        rw [← nI_0] at c4
        have c4 : op = 0 := (nI_eq (by omega) (by omega)).mp c4
        refine lv_iconst (v := -1) hx hb dX7_send_16 (by decide +kernel) ?_
        exact hret hw () (rfl) (rfl) (by omega) (by omega) dX7_send_17
