set_option maxHeartbeats 4000000 in
set_option maxRecDepth 100000 in
theorem c_X7_deliver_21 (l : Launch) (g : GE) (md : Nat → Nat) (op : Nat) (on : Nat) (inn : Nat) (rf : Nat → Int32) (wf : Nat → Int32) (sf : Nat → Int32) (dg : Nat → Int32) (kf : Nat → Int32) (mf : Nat → Int32) (te : Nat → Int32) (wr : Nat → Int32) (se : Nat → Int32) (wd : Nat → Int32) (mx : Nat → Int32) (epn : Nat → Nat) (z : Nat → Nat) (smf : Nat → Int32) (gtf : Nat → Int64) (snf : Nat → Int32) (ibf : Nat → Int32) (f : Nat → Nat → Int32) (k : Nat) (ek : Nat → Int32) (tk : Nat → Int32) (hop : ¬ op = 0) (hop2 : op < 2) (hk : k < 8) (hz1 : 31 ≤ z k) (hz2 : z k ≤ 127) (hwr : ∀ j, j < z k → wr (128 * k + j) = f k j) (hb8 : ∀ j, j < z k → f k j = f k j &&& nI 255) (hsh : ¬ shpOK (f k) (z k) 1) (sz : Nat) : MI l yX7_deliver wsX7_deliver { frames := 5, cells := 0, slots := 0, locals := 123 } g [.ref (md 25), .int (nI k), .int (nI 0)] [(md 25, .inr (7, [.ref (md 0), .int (nI op), .ref (md 2), .ref (md 3), .ref (md 4), .ref (md 5), .ref (md 6), .ref (md 7), .ref (md 8), .ref (md 9), .ref (md 10), .ref (md 11), .int (nI on), .ref (md 13), .int (nI inn), .ref (md 15), .ref (md 16), .ref (md 17), .ref (md 18), .ref (md 19), .ref (md 20), .ref (md 21), .ref (md 22), .ref (md 23), .ref (md 24)])), (md 17, .inl (g.2.1 0, 400, .inl (rf))), (md 16, .inl (g.2.1 0, 64, .inl (wf))), (md 15, .inl (g.2.1 0, 8, .inl (sf))), (md 22, .inl (g.2.1 0, 64, .inl (kRW))), (md 18, .inl (g.2.1 0, 32, .inl (dg))), (md 19, .inl (g.2.1 0, 32, .inl (kf))), (md 21, .inl (g.2.1 0, 160, .inl (mf))), (md 3, .inl (g.2.1 0, 64, .inl (te))), (md 9, .inl (g.2.1 0, 1024, .inl (wr))), (md 2, .inl (g.2.1 0, 64, .inl (se))), (md 23, .inl (g.2.1 0, 16, .inl (wd))), (md 24, .inl (g.2.1 0, 16, .inl (mx))), (md 4, .inl (g.2.1 0, 2, .inl (szF epn))), (md 10, .inl (g.2.1 0, 8, .inl (szF z))), (md 6, .inl (g.2.1 2, 2, .inl (smf))), (md 7, .inl (g.2.1 1, 2, .inr (.inl (gtf)))), (md 8, .inl (g.2.1 2, 128, .inl (snf))), (md 13, .inl (g.2.1 0, 96, .inl (ibf)))] sz (fun (r : Int32) (_ : Unit) => r = nI 2) (fun (_ : Unit) => [(md 25, .inr (7, [.ref (md 0), .int (nI op), .ref (md 2), .ref (md 3), .ref (md 4), .ref (md 5), .ref (md 6), .ref (md 7), .ref (md 8), .ref (md 9), .ref (md 10), .ref (md 11), .int (nI on), .ref (md 13), .int (nI inn), .ref (md 15), .ref (md 16), .ref (md 17), .ref (md 18), .ref (md 19), .ref (md 20), .ref (md 21), .ref (md 22), .ref (md 23), .ref (md 24)])), (md 17, .inl (g.2.1 0, 400, .inl (rf))), (md 16, .inl (g.2.1 0, 64, .inl (wf))), (md 15, .inl (g.2.1 0, 8, .inl (sf))), (md 22, .inl (g.2.1 0, 64, .inl (kRW))), (md 18, .inl (g.2.1 0, 32, .inl (dg))), (md 19, .inl (g.2.1 0, 32, .inl (kf))), (md 21, .inl (g.2.1 0, 160, .inl (mf))), (md 3, .inl (g.2.1 0, 64, .inl (te))), (md 9, .inl (g.2.1 0, 1024, .inl (wr))), (md 2, .inl (g.2.1 0, 64, .inl (se))), (md 23, .inl (g.2.1 0, 16, .inl (wd))), (md 24, .inl (g.2.1 0, 16, .inl (mx))), (md 4, .inl (g.2.1 0, 2, .inl (szF epn))), (md 10, .inl (g.2.1 0, 8, .inl (szF z))), (md 6, .inl (g.2.1 2, 2, .inl (smf))), (md 7, .inl (g.2.1 1, 2, .inr (.inl (gtf)))), (md 8, .inl (g.2.1 2, 128, .inl (snf))), (md 13, .inl (g.2.1 0, 96, .inl (ibf)))]) 0 0 := by
  refine enterI (by decide) rfl (Nat.le_of_ble_eq_true rfl) ?_
  intro p e s m below meth c A ls ar Q hE h0 hret hw hl
  obtain ⟨hx, hb, hr, hml, hown, hts, hlocks, hname⟩ := hE
  have hown : s.vm.findClass RX7 = some m.cls := hown
  have hw : WD g A s [(md 25, .inr (7, [.ref (md 0), .int (nI op), .ref (md 2), .ref (md 3), .ref (md 4), .ref (md 5), .ref (md 6), .ref (md 7), .ref (md 8), .ref (md 9), .ref (md 10), .ref (md 11), .int (nI on), .ref (md 13), .int (nI inn), .ref (md 15), .ref (md 16), .ref (md 17), .ref (md 18), .ref (md 19), .ref (md 20), .ref (md 21), .ref (md 22), .ref (md 23), .ref (md 24)])), (md 17, .inl (g.2.1 0, 400, .inl (rf))), (md 16, .inl (g.2.1 0, 64, .inl (wf))), (md 15, .inl (g.2.1 0, 8, .inl (sf))), (md 22, .inl (g.2.1 0, 64, .inl (kRW))), (md 18, .inl (g.2.1 0, 32, .inl (dg))), (md 19, .inl (g.2.1 0, 32, .inl (kf))), (md 21, .inl (g.2.1 0, 160, .inl (mf))), (md 3, .inl (g.2.1 0, 64, .inl (te))), (md 9, .inl (g.2.1 0, 1024, .inl (wr))), (md 2, .inl (g.2.1 0, 64, .inl (se))), (md 23, .inl (g.2.1 0, 16, .inl (wd))), (md 24, .inl (g.2.1 0, 16, .inl (mx))), (md 4, .inl (g.2.1 0, 2, .inl (szF epn))), (md 10, .inl (g.2.1 0, 8, .inl (szF z))), (md 6, .inl (g.2.1 2, 2, .inl (smf))), (md 7, .inl (g.2.1 1, 2, .inr (.inl (gtf)))), (md 8, .inl (g.2.1 2, 128, .inl (snf))), (md 13, .inl (g.2.1 0, 96, .inl (ibf)))] [] s.heap [] := hw
  have hinX7 : ∀ w ∈ u_ws RX7 TX7 25, w ∈ wsX7_deliver := by decide +kernel
  have k19 := hts (.fieldLink RX7 19 "RecordWireModel" "epochs" "[I") (by decide +kernel)
  have k26 := hts (.fieldLink RX7 26 "RecordWireModel" "some" "[Z") (by decide +kernel)
  have k30 := hts (.fieldLink RX7 30 "RecordWireModel" "greatest" "[J") (by decide +kernel)
  have k33 := hts (.fieldLink RX7 33 "RecordWireModel" "seen" "[Z") (by decide +kernel)
  have k36 := hts (.fieldLink RX7 36 "RecordWireModel" "wire" "[I") (by decide +kernel)
  have k39 := hts (.fieldLink RX7 39 "RecordWireModel" "sizes" "[I") (by decide +kernel)
  have k45 := hts (.fieldLink RX7 45 "RecordWireModel" "inbox" "[I") (by decide +kernel)
  have k57 := hts (.fieldLink RX7 57 "RecordWireModel" "digest" "[I") (by decide +kernel)
  have k145 := hts (.fieldLink RX7 145 "RecordWireModel" "isOpen" "Z") (by decide +kernel)
  have k153 := hts (.fieldLink RX7 153 "RecordWireModel" "inSize" "I") (by decide +kernel)
  have k227 := hts (.constantLong RX7 227 (64)) (by decide +kernel)
  have hl : lv_has ls 15 [(0, .ref (md 25)), (1, .int (nI k)), (2, .int (nI 0))] := hl
  refine lv_aload_n hx hb dX7_deliver_0 rfl (lv_at hl 0 rfl) ?_
  refine lv_iload_n hx hb dX7_deliver_1 rfl (lv_at hl 1 rfl) ?_
  refine r_calli (wr := [(md 17, .inl (g.2.1 0, 400, .inl (rf))), (md 16, .inl (g.2.1 0, 64, .inl (wf))), (md 15, .inl (g.2.1 0, 8, .inl (sf))), (md 22, .inl (g.2.1 0, 64, .inl (kRW))), (md 18, .inl (g.2.1 0, 32, .inl (dg))), (md 19, .inl (g.2.1 0, 32, .inl (kf))), (md 21, .inl (g.2.1 0, 160, .inl (mf))), (md 3, .inl (g.2.1 0, 64, .inl (te))), (md 9, .inl (g.2.1 0, 1024, .inl (wr))), (md 2, .inl (g.2.1 0, 64, .inl (se))), (md 23, .inl (g.2.1 0, 16, .inl (wd))), (md 24, .inl (g.2.1 0, 16, .inl (mx))), (md 4, .inl (g.2.1 0, 2, .inl (szF epn))), (md 6, .inl (g.2.1 2, 2, .inl (smf))), (md 7, .inl (g.2.1 1, 2, .inr (.inl (gtf)))), (md 8, .inl (g.2.1 2, 128, .inl (snf))), (md 13, .inl (g.2.1 0, 96, .inl (ibf)))]) [0, 14] [1, 2, 3, 4, 5, 6, 7, 8, 9, 10, 11, 12, 13, 15, 16, 17, 18] h0 hw rfl rfl (by decide) (by decide) (va_runV (As := [.int (nI k)]) (rest := []) ⟨hx, hb, hml, hown, hts⟩ (c_X7_isSlot l g md op on inn z k (by omega) (by omega) _) (cwV 1 hts gX7_deliver_X7_isSlot rfl rfl rfl (by decide +kernel) ⟨Nat.le_of_ble_eq_true rfl, Nat.le_of_ble_eq_true rfl⟩) (preV_of [0, 14] [.int (nI k)] h0 hw rfl (by decide) 0 7 rfl rfl) rfl rfl hl.1 rfl (lv_room (Nat.le_of_ble_eq_true rfl)) dX7_deliver_2 ⟨Nat.le_of_ble_eq_true rfl, Nat.le_of_ble_eq_true rfl⟩) (fun r1 u2 H locs hp3 hw => ?_)
  have hw : WD g A s [(md 17, .inl (g.2.1 0, 400, .inl (rf))), (md 16, .inl (g.2.1 0, 64, .inl (wf))), (md 15, .inl (g.2.1 0, 8, .inl (sf))), (md 22, .inl (g.2.1 0, 64, .inl (kRW))), (md 18, .inl (g.2.1 0, 32, .inl (dg))), (md 19, .inl (g.2.1 0, 32, .inl (kf))), (md 21, .inl (g.2.1 0, 160, .inl (mf))), (md 3, .inl (g.2.1 0, 64, .inl (te))), (md 9, .inl (g.2.1 0, 1024, .inl (wr))), (md 2, .inl (g.2.1 0, 64, .inl (se))), (md 23, .inl (g.2.1 0, 16, .inl (wd))), (md 24, .inl (g.2.1 0, 16, .inl (mx))), (md 4, .inl (g.2.1 0, 2, .inl (szF epn))), (md 6, .inl (g.2.1 2, 2, .inl (smf))), (md 7, .inl (g.2.1 1, 2, .inr (.inl (gtf)))), (md 8, .inl (g.2.1 2, 128, .inl (snf))), (md 13, .inl (g.2.1 0, 96, .inl (ibf))), (md 25, .inr (7, [.ref (md 0), .int (nI op), .ref (md 2), .ref (md 3), .ref (md 4), .ref (md 5), .ref (md 6), .ref (md 7), .ref (md 8), .ref (md 9), .ref (md 10), .ref (md 11), .int (nI on), .ref (md 13), .int (nI inn), .ref (md 15), .ref (md 16), .ref (md 17), .ref (md 18), .ref (md 19), .ref (md 20), .ref (md 21), .ref (md 22), .ref (md 23), .ref (md 24)])), (md 10, .inl (g.2.1 0, 8, .inl (szF z)))] [] H locs := hw
  subst hp3
  refine lv_if_eq (tgt := 24) hx hb dX7_deliver_5 (by decide) (fun c4 => ?_) (fun c4 => ?_)
  · skip
    have c4 : ¬ (¬ z k = 0) := bI_f c4
    exact absurd (by omega) c4
  · skip
    have c4 : ¬ z k = 0 := bI_t c4
    refine lv_iload_n hx hb dX7_deliver_8 rfl (lv_at hl 2 rfl) ?_
    refine lv_if_eq (tgt := 17) hx hb dX7_deliver_9 (by decide) (fun c5 => ?_) (fun c5 => ?_)
    · skip
      rw [← nI_0] at c5
      have c5 : 0 = 0 := (nI_eq (by omega) (by omega)).mp c5
      refine lv_aload_n hx hb dX7_deliver_17 rfl (lv_at hl 0 rfl) ?_
      refine r_get (ci := 7) (v := .int (nI op)) (C := RX7) (T := TX7) (N := 25) hx hb hts hinX7 hown h0 hw 17 rfl rfl 1 (by decide) k145 rfl dX7_deliver_18 ?_
      refine lv_if_ne (tgt := 26) hx hb dX7_deliver_21 (by decide) (fun c6 => ?_) (fun c6 => ?_)
      · skip
        rw [← nI_0] at c6
        have c6 : ¬ op = 0 := fun q => c6 (((nI_eq (by omega) (by omega)).mpr q))
        refine lv_sipush (v := nI 128) hx hb dX7_deliver_26 (by decide +kernel) ?_
        refine lv_iload_n hx hb dX7_deliver_29 rfl (lv_at hl 1 rfl) ?_
        refine lv_imul hx hb dX7_deliver_30 ?_
        refine r_te (y := nI (128 * k)) (pk_mul 128 k) ?_
        refine lv_istore_n (lv' := [(3, .int (nI (128 * k))), (0, .ref (md 25)), (1, .int (nI k)), (2, .int (nI 0))]) hx hb dX7_deliver_31 rfl hl (by decide) rfl (fun ls hl => ?_)
        refine lv_iconst (v := nI 1) hx hb dX7_deliver_32 (by decide +kernel) ?_
        refine lv_iload_n hx hb dX7_deliver_33 rfl (lv_at hl 3 rfl) ?_
        refine lv_isub hx hb dX7_deliver_34 ?_
        refine r_te (y := nI 1) (pk_sub (by omega)) ?_
        refine lv_istore (lv' := [(4, .int (nI 1)), (3, .int (nI (128 * k))), (0, .ref (md 25)), (1, .int (nI k)), (2, .int (nI 0))]) hx hb dX7_deliver_35 hl (by decide) rfl (fun ls hl => ?_)
        refine lv_aload_n hx hb dX7_deliver_37 rfl (lv_at hl 2 rfl) ?_
        refine lv_iload_n hx hb dX7_deliver_38 rfl (lv_at hl 1 rfl) ?_
        refine lv_bipush (v := nI 13) hx hb dX7_deliver_39 (by decide +kernel) ?_
        refine lv_iadd hx hb dX7_deliver_41 ?_
        refine r_te (y := nI (128 * k + 13)) (nI_add (128 * k) 13) ?_
        refine lv_iconst (v := nI 2) hx hb dX7_deliver_42 (by decide +kernel) ?_
        refine r_calll (wr := [(md 17, .inl (g.2.1 0, 400, .inl (rf))), (md 16, .inl (g.2.1 0, 64, .inl (wf))), (md 15, .inl (g.2.1 0, 8, .inl (sf))), (md 22, .inl (g.2.1 0, 64, .inl (kRW))), (md 18, .inl (g.2.1 0, 32, .inl (dg))), (md 19, .inl (g.2.1 0, 32, .inl (kf))), (md 21, .inl (g.2.1 0, 160, .inl (mf))), (md 3, .inl (g.2.1 0, 64, .inl (te))), (md 2, .inl (g.2.1 0, 64, .inl (se))), (md 23, .inl (g.2.1 0, 16, .inl (wd))), (md 24, .inl (g.2.1 0, 16, .inl (mx))), (md 4, .inl (g.2.1 0, 2, .inl (szF epn))), (md 6, .inl (g.2.1 2, 2, .inl (smf))), (md 7, .inl (g.2.1 1, 2, .inr (.inl (gtf)))), (md 8, .inl (g.2.1 2, 128, .inl (snf))), (md 13, .inl (g.2.1 0, 96, .inl (ibf))), (md 10, .inl (g.2.1 0, 8, .inl (szF z)))]) [17, 8] [0, 1, 2, 3, 4, 5, 6, 7, 9, 10, 11, 12, 13, 14, 15, 16, 18] h0 hw rfl rfl (by decide) (by decide) (va_runV (As := [.int (nI (128 * k + 13)), .int (nI 2)]) (rest := []) ⟨hx, hb, hml, hown, hts⟩ (c_X7_numberAt l g md op on inn wr (128 * k + 13) 2 (by omega) (fun j hj => by rw [Nat.add_assoc, hwr (13 + j) (by omega)]; exact hb8 (13 + j) (by omega)) _) (cwV 2 hts gX7_deliver_X7_numberAt rfl rfl rfl (by decide +kernel) ⟨Nat.le_of_ble_eq_true rfl, Nat.le_of_ble_eq_true rfl⟩) (preV_of [17, 8] [.int (nI (128 * k + 13)), .int (nI 2)] h0 hw rfl (by decide) 17 7 rfl rfl) rfl rfl hl.1 rfl (lv_room (Nat.le_of_ble_eq_true rfl)) dX7_deliver_43 ⟨Nat.le_of_ble_eq_true rfl, Nat.le_of_ble_eq_true rfl⟩) (fun r7 u8 H locs hp9 hw => ?_)
        have hw : WD g A s [(md 17, .inl (g.2.1 0, 400, .inl (rf))), (md 16, .inl (g.2.1 0, 64, .inl (wf))), (md 15, .inl (g.2.1 0, 8, .inl (sf))), (md 22, .inl (g.2.1 0, 64, .inl (kRW))), (md 18, .inl (g.2.1 0, 32, .inl (dg))), (md 19, .inl (g.2.1 0, 32, .inl (kf))), (md 21, .inl (g.2.1 0, 160, .inl (mf))), (md 3, .inl (g.2.1 0, 64, .inl (te))), (md 2, .inl (g.2.1 0, 64, .inl (se))), (md 23, .inl (g.2.1 0, 16, .inl (wd))), (md 24, .inl (g.2.1 0, 16, .inl (mx))), (md 4, .inl (g.2.1 0, 2, .inl (szF epn))), (md 6, .inl (g.2.1 2, 2, .inl (smf))), (md 7, .inl (g.2.1 1, 2, .inr (.inl (gtf)))), (md 8, .inl (g.2.1 2, 128, .inl (snf))), (md 13, .inl (g.2.1 0, 96, .inl (ibf))), (md 10, .inl (g.2.1 0, 8, .inl (szF z))), (md 25, .inr (7, [.ref (md 0), .int (nI op), .ref (md 2), .ref (md 3), .ref (md 4), .ref (md 5), .ref (md 6), .ref (md 7), .ref (md 8), .ref (md 9), .ref (md 10), .ref (md 11), .int (nI on), .ref (md 13), .int (nI inn), .ref (md 15), .ref (md 16), .ref (md 17), .ref (md 18), .ref (md 19), .ref (md 20), .ref (md 21), .ref (md 22), .ref (md 23), .ref (md 24)])), (md 9, .inl (g.2.1 0, 1024, .inl (wr)))] [] H locs := hw
        subst hp9
        refine r_tel (y := nAt (f k) 13 2) (nAt_eq 2 (fun j hj => by rw [Nat.add_assoc]; exact hwr (13 + j) (by omega))) ?_
        refine lv_l2i (v := (nAt (f k) 13 2).toInt32) hx hb dX7_deliver_46 rfl ?_
        refine lv_istore (lv' := [(5, .int ((nAt (f k) 13 2).toInt32)), (4, .int (nI 1)), (3, .int (nI (128 * k))), (0, .ref (md 25)), (1, .int (nI k)), (2, .int (nI 0))]) hx hb dX7_deliver_47 hl (by decide) rfl (fun ls hl => ?_)
        refine lv_aload_n hx hb dX7_deliver_49 rfl (lv_at hl 3 rfl) ?_
        refine r_get (ci := 7) (v := .ref (md 9)) (C := RX7) (T := TX7) (N := 25) hx hb hts hinX7 hown h0 hw 17 rfl rfl 9 (by decide) k36 rfl dX7_deliver_50 ?_
        refine lv_iload_n hx hb dX7_deliver_53 rfl (lv_at hl 2 rfl) ?_
        refine r_iald hx hb h0 hw 18 rfl (i := 128 * k) (by omega) (by omega) dX7_deliver_54 ?_
        refine r_te (y := f k (0)) (by first | exact hwr (0) (by omega) | (have := hwr (0) (by omega); simpa [Nat.add_assoc] using this)) ?_
        refine lv_iload hx hb dX7_deliver_55 (lv_at hl 1 rfl) ?_
        refine lv_icmp_ne (tgt := 84) hx hb dX7_deliver_57 (by decide) (fun c10 => ?_) (fun c10 => ?_)
        · skip
          have s1 := c10
          refine lv_iconst (v := nI 2) hx hb dX7_deliver_84 (by decide +kernel) ?_
          exact hret (hw.perm (X' := [(md 25, .inr (7, [.ref (md 0), .int (nI op), .ref (md 2), .ref (md 3), .ref (md 4), .ref (md 5), .ref (md 6), .ref (md 7), .ref (md 8), .ref (md 9), .ref (md 10), .ref (md 11), .int (nI on), .ref (md 13), .int (nI inn), .ref (md 15), .ref (md 16), .ref (md 17), .ref (md 18), .ref (md 19), .ref (md 20), .ref (md 21), .ref (md 22), .ref (md 23), .ref (md 24)])), (md 17, .inl (g.2.1 0, 400, .inl (rf))), (md 16, .inl (g.2.1 0, 64, .inl (wf))), (md 15, .inl (g.2.1 0, 8, .inl (sf))), (md 22, .inl (g.2.1 0, 64, .inl (kRW))), (md 18, .inl (g.2.1 0, 32, .inl (dg))), (md 19, .inl (g.2.1 0, 32, .inl (kf))), (md 21, .inl (g.2.1 0, 160, .inl (mf))), (md 3, .inl (g.2.1 0, 64, .inl (te))), (md 9, .inl (g.2.1 0, 1024, .inl (wr))), (md 2, .inl (g.2.1 0, 64, .inl (se))), (md 23, .inl (g.2.1 0, 16, .inl (wd))), (md 24, .inl (g.2.1 0, 16, .inl (mx))), (md 4, .inl (g.2.1 0, 2, .inl (szF epn))), (md 10, .inl (g.2.1 0, 8, .inl (szF z))), (md 6, .inl (g.2.1 2, 2, .inl (smf))), (md 7, .inl (g.2.1 1, 2, .inr (.inl (gtf)))), (md 8, .inl (g.2.1 2, 128, .inl (snf))), (md 13, .inl (g.2.1 0, 96, .inl (ibf)))]) [17, 0, 1, 2, 3, 4, 5, 6, 7, 18, 8, 9, 10, 11, 16, 12, 13, 14, 15] (by decide) rfl) () (rfl) (rfl) (by omega) (by omega) dX7_deliver_85
        · skip
          have s1 := c10
          refine lv_iload hx hb dX7_deliver_60 (lv_at hl 0 rfl) ?_
          refine lv_bipush (v := nI 96) hx hb dX7_deliver_62 (by decide +kernel) ?_
          refine lv_icmp_gt (tgt := 84) hx hb dX7_deliver_64 (by decide) (fun c11 => ?_) (fun c11 => ?_)
          · skip
            have s2 := c11
            refine lv_iconst (v := nI 2) hx hb dX7_deliver_84 (by decide +kernel) ?_
            exact hret (hw.perm (X' := [(md 25, .inr (7, [.ref (md 0), .int (nI op), .ref (md 2), .ref (md 3), .ref (md 4), .ref (md 5), .ref (md 6), .ref (md 7), .ref (md 8), .ref (md 9), .ref (md 10), .ref (md 11), .int (nI on), .ref (md 13), .int (nI inn), .ref (md 15), .ref (md 16), .ref (md 17), .ref (md 18), .ref (md 19), .ref (md 20), .ref (md 21), .ref (md 22), .ref (md 23), .ref (md 24)])), (md 17, .inl (g.2.1 0, 400, .inl (rf))), (md 16, .inl (g.2.1 0, 64, .inl (wf))), (md 15, .inl (g.2.1 0, 8, .inl (sf))), (md 22, .inl (g.2.1 0, 64, .inl (kRW))), (md 18, .inl (g.2.1 0, 32, .inl (dg))), (md 19, .inl (g.2.1 0, 32, .inl (kf))), (md 21, .inl (g.2.1 0, 160, .inl (mf))), (md 3, .inl (g.2.1 0, 64, .inl (te))), (md 9, .inl (g.2.1 0, 1024, .inl (wr))), (md 2, .inl (g.2.1 0, 64, .inl (se))), (md 23, .inl (g.2.1 0, 16, .inl (wd))), (md 24, .inl (g.2.1 0, 16, .inl (mx))), (md 4, .inl (g.2.1 0, 2, .inl (szF epn))), (md 10, .inl (g.2.1 0, 8, .inl (szF z))), (md 6, .inl (g.2.1 2, 2, .inl (smf))), (md 7, .inl (g.2.1 1, 2, .inr (.inl (gtf)))), (md 8, .inl (g.2.1 2, 128, .inl (snf))), (md 13, .inl (g.2.1 0, 96, .inl (ibf)))]) [17, 0, 1, 2, 3, 4, 5, 6, 7, 18, 8, 9, 10, 11, 16, 12, 13, 14, 15] (by decide) rfl) () (rfl) (rfl) (by omega) (by omega) dX7_deliver_85
          · skip
            have s2 := c11
            refine lv_aload_n hx hb dX7_deliver_67 rfl (lv_at hl 3 rfl) ?_
            refine r_get (ci := 7) (v := .ref (md 10)) (C := RX7) (T := TX7) (N := 25) hx hb hts hinX7 hown h0 hw 17 rfl rfl 10 (by decide) k39 rfl dX7_deliver_68 ?_
            refine lv_iload_n hx hb dX7_deliver_71 rfl (lv_at hl 4 rfl) ?_
            refine r_iald hx hb h0 hw 16 rfl (i := k) (by omega) (by omega) dX7_deliver_72 ?_
            refine r_te (y := nI (z k)) rfl ?_
            refine lv_bipush (v := nI 15) hx hb dX7_deliver_73 (by decide +kernel) ?_
            refine lv_iload hx hb dX7_deliver_75 (lv_at hl 0 rfl) ?_
            refine lv_iadd hx hb dX7_deliver_77 ?_
            refine lv_bipush (v := nI 16) hx hb dX7_deliver_78 (by decide +kernel) ?_
            refine lv_iadd hx hb dX7_deliver_80 ?_
            refine lv_icmp_eq (tgt := 86) hx hb dX7_deliver_81 (by decide) (fun c12 => ?_) (fun c12 => ?_)
            · skip
              exact absurd ⟨s1, s2, c12.symm⟩ hsh
            · skip
              refine lv_iconst (v := nI 2) hx hb dX7_deliver_84 (by decide +kernel) ?_
              exact hret (hw.perm (X' := [(md 25, .inr (7, [.ref (md 0), .int (nI op), .ref (md 2), .ref (md 3), .ref (md 4), .ref (md 5), .ref (md 6), .ref (md 7), .ref (md 8), .ref (md 9), .ref (md 10), .ref (md 11), .int (nI on), .ref (md 13), .int (nI inn), .ref (md 15), .ref (md 16), .ref (md 17), .ref (md 18), .ref (md 19), .ref (md 20), .ref (md 21), .ref (md 22), .ref (md 23), .ref (md 24)])), (md 17, .inl (g.2.1 0, 400, .inl (rf))), (md 16, .inl (g.2.1 0, 64, .inl (wf))), (md 15, .inl (g.2.1 0, 8, .inl (sf))), (md 22, .inl (g.2.1 0, 64, .inl (kRW))), (md 18, .inl (g.2.1 0, 32, .inl (dg))), (md 19, .inl (g.2.1 0, 32, .inl (kf))), (md 21, .inl (g.2.1 0, 160, .inl (mf))), (md 3, .inl (g.2.1 0, 64, .inl (te))), (md 9, .inl (g.2.1 0, 1024, .inl (wr))), (md 2, .inl (g.2.1 0, 64, .inl (se))), (md 23, .inl (g.2.1 0, 16, .inl (wd))), (md 24, .inl (g.2.1 0, 16, .inl (mx))), (md 4, .inl (g.2.1 0, 2, .inl (szF epn))), (md 10, .inl (g.2.1 0, 8, .inl (szF z))), (md 6, .inl (g.2.1 2, 2, .inl (smf))), (md 7, .inl (g.2.1 1, 2, .inr (.inl (gtf)))), (md 8, .inl (g.2.1 2, 128, .inl (snf))), (md 13, .inl (g.2.1 0, 96, .inl (ibf)))]) [17, 0, 1, 2, 3, 4, 5, 6, 7, 18, 8, 9, 10, 11, 16, 12, 13, 14, 15] (by decide) rfl) () (rfl) (rfl) (by omega) (by omega) dX7_deliver_85
      · skip
        rw [← nI_0] at c6
        have c6 : op = 0 := (nI_eq (by omega) (by omega)).mp c6
        exfalso; omega
    · skip
      rw [← nI_0] at c5
      have c5 : ¬ 0 = 0 := fun q => c5 (((nI_eq (by omega) (by omega)).mpr q))
      exfalso; omega

set_option maxHeartbeats 4000000 in
set_option maxRecDepth 100000 in
theorem c_X7_deliver_31 (l : Launch) (g : GE) (md : Nat → Nat) (op : Nat) (on : Nat) (inn : Nat) (rf : Nat → Int32) (wf : Nat → Int32) (sf : Nat → Int32) (dg : Nat → Int32) (kf : Nat → Int32) (mf : Nat → Int32) (te : Nat → Int32) (wr : Nat → Int32) (se : Nat → Int32) (wd : Nat → Int32) (mx : Nat → Int32) (epn : Nat → Nat) (z : Nat → Nat) (smf : Nat → Int32) (gtf : Nat → Int64) (snf : Nat → Int32) (ibf : Nat → Int32) (f : Nat → Nat → Int32) (k : Nat) (ek : Nat → Int32) (tk : Nat → Int32) (ln : Nat) (hop : ¬ op = 0) (hop2 : op < 2) (hk : k < 8) (hz1 : 31 ≤ z k) (hz2 : z k ≤ 127) (hwr : ∀ j, j < z k → wr (128 * k + j) = f k j) (hb8 : ∀ j, j < z k → f k j = f k j &&& nI 255) (hs0 : f k 0 = nI 1) (hln : (nAt (f k) 13 2).toInt32 = nI ln) (hl1 : z k = 31 + ln) (hl2 : ln ≤ 96) (he3 : ¬ nAt (f k) 1 4 = (nI (epn 1)).toInt64) (sz : Nat) : MI l yX7_deliver wsX7_deliver { frames := 5, cells := 0, slots := 0, locals := 123 } g [.ref (md 25), .int (nI k), .int (nI 0)] [(md 25, .inr (7, [.ref (md 0), .int (nI op), .ref (md 2), .ref (md 3), .ref (md 4), .ref (md 5), .ref (md 6), .ref (md 7), .ref (md 8), .ref (md 9), .ref (md 10), .ref (md 11), .int (nI on), .ref (md 13), .int (nI inn), .ref (md 15), .ref (md 16), .ref (md 17), .ref (md 18), .ref (md 19), .ref (md 20), .ref (md 21), .ref (md 22), .ref (md 23), .ref (md 24)])), (md 17, .inl (g.2.1 0, 400, .inl (rf))), (md 16, .inl (g.2.1 0, 64, .inl (wf))), (md 15, .inl (g.2.1 0, 8, .inl (sf))), (md 22, .inl (g.2.1 0, 64, .inl (kRW))), (md 18, .inl (g.2.1 0, 32, .inl (dg))), (md 19, .inl (g.2.1 0, 32, .inl (kf))), (md 21, .inl (g.2.1 0, 160, .inl (mf))), (md 3, .inl (g.2.1 0, 64, .inl (te))), (md 9, .inl (g.2.1 0, 1024, .inl (wr))), (md 2, .inl (g.2.1 0, 64, .inl (se))), (md 23, .inl (g.2.1 0, 16, .inl (wd))), (md 24, .inl (g.2.1 0, 16, .inl (mx))), (md 4, .inl (g.2.1 0, 2, .inl (szF epn))), (md 10, .inl (g.2.1 0, 8, .inl (szF z))), (md 6, .inl (g.2.1 2, 2, .inl (smf))), (md 7, .inl (g.2.1 1, 2, .inr (.inl (gtf)))), (md 8, .inl (g.2.1 2, 128, .inl (snf))), (md 13, .inl (g.2.1 0, 96, .inl (ibf)))] sz (fun (r : Int32) (_ : Unit) => r = nI 3) (fun (_ : Unit) => [(md 25, .inr (7, [.ref (md 0), .int (nI op), .ref (md 2), .ref (md 3), .ref (md 4), .ref (md 5), .ref (md 6), .ref (md 7), .ref (md 8), .ref (md 9), .ref (md 10), .ref (md 11), .int (nI on), .ref (md 13), .int (nI inn), .ref (md 15), .ref (md 16), .ref (md 17), .ref (md 18), .ref (md 19), .ref (md 20), .ref (md 21), .ref (md 22), .ref (md 23), .ref (md 24)])), (md 17, .inl (g.2.1 0, 400, .inl (rf))), (md 16, .inl (g.2.1 0, 64, .inl (wf))), (md 15, .inl (g.2.1 0, 8, .inl (sf))), (md 22, .inl (g.2.1 0, 64, .inl (kRW))), (md 18, .inl (g.2.1 0, 32, .inl (dg))), (md 19, .inl (g.2.1 0, 32, .inl (kf))), (md 21, .inl (g.2.1 0, 160, .inl (mf))), (md 3, .inl (g.2.1 0, 64, .inl (te))), (md 9, .inl (g.2.1 0, 1024, .inl (wr))), (md 2, .inl (g.2.1 0, 64, .inl (se))), (md 23, .inl (g.2.1 0, 16, .inl (wd))), (md 24, .inl (g.2.1 0, 16, .inl (mx))), (md 4, .inl (g.2.1 0, 2, .inl (szF epn))), (md 10, .inl (g.2.1 0, 8, .inl (szF z))), (md 6, .inl (g.2.1 2, 2, .inl (smf))), (md 7, .inl (g.2.1 1, 2, .inr (.inl (gtf)))), (md 8, .inl (g.2.1 2, 128, .inl (snf))), (md 13, .inl (g.2.1 0, 96, .inl (ibf)))]) 0 0 := by
  refine enterI (by decide) rfl (Nat.le_of_ble_eq_true rfl) ?_
  intro p e s m below meth c A ls ar Q hE h0 hret hw hl
  obtain ⟨hx, hb, hr, hml, hown, hts, hlocks, hname⟩ := hE
  have hown : s.vm.findClass RX7 = some m.cls := hown
  have hw : WD g A s [(md 25, .inr (7, [.ref (md 0), .int (nI op), .ref (md 2), .ref (md 3), .ref (md 4), .ref (md 5), .ref (md 6), .ref (md 7), .ref (md 8), .ref (md 9), .ref (md 10), .ref (md 11), .int (nI on), .ref (md 13), .int (nI inn), .ref (md 15), .ref (md 16), .ref (md 17), .ref (md 18), .ref (md 19), .ref (md 20), .ref (md 21), .ref (md 22), .ref (md 23), .ref (md 24)])), (md 17, .inl (g.2.1 0, 400, .inl (rf))), (md 16, .inl (g.2.1 0, 64, .inl (wf))), (md 15, .inl (g.2.1 0, 8, .inl (sf))), (md 22, .inl (g.2.1 0, 64, .inl (kRW))), (md 18, .inl (g.2.1 0, 32, .inl (dg))), (md 19, .inl (g.2.1 0, 32, .inl (kf))), (md 21, .inl (g.2.1 0, 160, .inl (mf))), (md 3, .inl (g.2.1 0, 64, .inl (te))), (md 9, .inl (g.2.1 0, 1024, .inl (wr))), (md 2, .inl (g.2.1 0, 64, .inl (se))), (md 23, .inl (g.2.1 0, 16, .inl (wd))), (md 24, .inl (g.2.1 0, 16, .inl (mx))), (md 4, .inl (g.2.1 0, 2, .inl (szF epn))), (md 10, .inl (g.2.1 0, 8, .inl (szF z))), (md 6, .inl (g.2.1 2, 2, .inl (smf))), (md 7, .inl (g.2.1 1, 2, .inr (.inl (gtf)))), (md 8, .inl (g.2.1 2, 128, .inl (snf))), (md 13, .inl (g.2.1 0, 96, .inl (ibf)))] [] s.heap [] := hw
  have hinX7 : ∀ w ∈ u_ws RX7 TX7 25, w ∈ wsX7_deliver := by decide +kernel
  have k19 := hts (.fieldLink RX7 19 "RecordWireModel" "epochs" "[I") (by decide +kernel)
  have k26 := hts (.fieldLink RX7 26 "RecordWireModel" "some" "[Z") (by decide +kernel)
  have k30 := hts (.fieldLink RX7 30 "RecordWireModel" "greatest" "[J") (by decide +kernel)
  have k33 := hts (.fieldLink RX7 33 "RecordWireModel" "seen" "[Z") (by decide +kernel)
  have k36 := hts (.fieldLink RX7 36 "RecordWireModel" "wire" "[I") (by decide +kernel)
  have k39 := hts (.fieldLink RX7 39 "RecordWireModel" "sizes" "[I") (by decide +kernel)
  have k45 := hts (.fieldLink RX7 45 "RecordWireModel" "inbox" "[I") (by decide +kernel)
  have k57 := hts (.fieldLink RX7 57 "RecordWireModel" "digest" "[I") (by decide +kernel)
  have k145 := hts (.fieldLink RX7 145 "RecordWireModel" "isOpen" "Z") (by decide +kernel)
  have k153 := hts (.fieldLink RX7 153 "RecordWireModel" "inSize" "I") (by decide +kernel)
  have k227 := hts (.constantLong RX7 227 (64)) (by decide +kernel)
  have hl : lv_has ls 15 [(0, .ref (md 25)), (1, .int (nI k)), (2, .int (nI 0))] := hl
  refine lv_aload_n hx hb dX7_deliver_0 rfl (lv_at hl 0 rfl) ?_
  refine lv_iload_n hx hb dX7_deliver_1 rfl (lv_at hl 1 rfl) ?_
  refine r_calli (wr := [(md 17, .inl (g.2.1 0, 400, .inl (rf))), (md 16, .inl (g.2.1 0, 64, .inl (wf))), (md 15, .inl (g.2.1 0, 8, .inl (sf))), (md 22, .inl (g.2.1 0, 64, .inl (kRW))), (md 18, .inl (g.2.1 0, 32, .inl (dg))), (md 19, .inl (g.2.1 0, 32, .inl (kf))), (md 21, .inl (g.2.1 0, 160, .inl (mf))), (md 3, .inl (g.2.1 0, 64, .inl (te))), (md 9, .inl (g.2.1 0, 1024, .inl (wr))), (md 2, .inl (g.2.1 0, 64, .inl (se))), (md 23, .inl (g.2.1 0, 16, .inl (wd))), (md 24, .inl (g.2.1 0, 16, .inl (mx))), (md 4, .inl (g.2.1 0, 2, .inl (szF epn))), (md 6, .inl (g.2.1 2, 2, .inl (smf))), (md 7, .inl (g.2.1 1, 2, .inr (.inl (gtf)))), (md 8, .inl (g.2.1 2, 128, .inl (snf))), (md 13, .inl (g.2.1 0, 96, .inl (ibf)))]) [0, 14] [1, 2, 3, 4, 5, 6, 7, 8, 9, 10, 11, 12, 13, 15, 16, 17, 18] h0 hw rfl rfl (by decide) (by decide) (va_runV (As := [.int (nI k)]) (rest := []) ⟨hx, hb, hml, hown, hts⟩ (c_X7_isSlot l g md op on inn z k (by omega) (by omega) _) (cwV 1 hts gX7_deliver_X7_isSlot rfl rfl rfl (by decide +kernel) ⟨Nat.le_of_ble_eq_true rfl, Nat.le_of_ble_eq_true rfl⟩) (preV_of [0, 14] [.int (nI k)] h0 hw rfl (by decide) 0 7 rfl rfl) rfl rfl hl.1 rfl (lv_room (Nat.le_of_ble_eq_true rfl)) dX7_deliver_2 ⟨Nat.le_of_ble_eq_true rfl, Nat.le_of_ble_eq_true rfl⟩) (fun r1 u2 H locs hp3 hw => ?_)
  have hw : WD g A s [(md 17, .inl (g.2.1 0, 400, .inl (rf))), (md 16, .inl (g.2.1 0, 64, .inl (wf))), (md 15, .inl (g.2.1 0, 8, .inl (sf))), (md 22, .inl (g.2.1 0, 64, .inl (kRW))), (md 18, .inl (g.2.1 0, 32, .inl (dg))), (md 19, .inl (g.2.1 0, 32, .inl (kf))), (md 21, .inl (g.2.1 0, 160, .inl (mf))), (md 3, .inl (g.2.1 0, 64, .inl (te))), (md 9, .inl (g.2.1 0, 1024, .inl (wr))), (md 2, .inl (g.2.1 0, 64, .inl (se))), (md 23, .inl (g.2.1 0, 16, .inl (wd))), (md 24, .inl (g.2.1 0, 16, .inl (mx))), (md 4, .inl (g.2.1 0, 2, .inl (szF epn))), (md 6, .inl (g.2.1 2, 2, .inl (smf))), (md 7, .inl (g.2.1 1, 2, .inr (.inl (gtf)))), (md 8, .inl (g.2.1 2, 128, .inl (snf))), (md 13, .inl (g.2.1 0, 96, .inl (ibf))), (md 25, .inr (7, [.ref (md 0), .int (nI op), .ref (md 2), .ref (md 3), .ref (md 4), .ref (md 5), .ref (md 6), .ref (md 7), .ref (md 8), .ref (md 9), .ref (md 10), .ref (md 11), .int (nI on), .ref (md 13), .int (nI inn), .ref (md 15), .ref (md 16), .ref (md 17), .ref (md 18), .ref (md 19), .ref (md 20), .ref (md 21), .ref (md 22), .ref (md 23), .ref (md 24)])), (md 10, .inl (g.2.1 0, 8, .inl (szF z)))] [] H locs := hw
  subst hp3
  refine lv_if_eq (tgt := 24) hx hb dX7_deliver_5 (by decide) (fun c4 => ?_) (fun c4 => ?_)
  · skip
    have c4 : ¬ (¬ z k = 0) := bI_f c4
    exact absurd (by omega) c4
  · skip
    have c4 : ¬ z k = 0 := bI_t c4
    refine lv_iload_n hx hb dX7_deliver_8 rfl (lv_at hl 2 rfl) ?_
    refine lv_if_eq (tgt := 17) hx hb dX7_deliver_9 (by decide) (fun c5 => ?_) (fun c5 => ?_)
    · skip
      rw [← nI_0] at c5
      have c5 : 0 = 0 := (nI_eq (by omega) (by omega)).mp c5
      refine lv_aload_n hx hb dX7_deliver_17 rfl (lv_at hl 0 rfl) ?_
      refine r_get (ci := 7) (v := .int (nI op)) (C := RX7) (T := TX7) (N := 25) hx hb hts hinX7 hown h0 hw 17 rfl rfl 1 (by decide) k145 rfl dX7_deliver_18 ?_
      refine lv_if_ne (tgt := 26) hx hb dX7_deliver_21 (by decide) (fun c6 => ?_) (fun c6 => ?_)
      · skip
        rw [← nI_0] at c6
        have c6 : ¬ op = 0 := fun q => c6 (((nI_eq (by omega) (by omega)).mpr q))
        refine lv_sipush (v := nI 128) hx hb dX7_deliver_26 (by decide +kernel) ?_
        refine lv_iload_n hx hb dX7_deliver_29 rfl (lv_at hl 1 rfl) ?_
        refine lv_imul hx hb dX7_deliver_30 ?_
        refine r_te (y := nI (128 * k)) (pk_mul 128 k) ?_
        refine lv_istore_n (lv' := [(3, .int (nI (128 * k))), (0, .ref (md 25)), (1, .int (nI k)), (2, .int (nI 0))]) hx hb dX7_deliver_31 rfl hl (by decide) rfl (fun ls hl => ?_)
        refine lv_iconst (v := nI 1) hx hb dX7_deliver_32 (by decide +kernel) ?_
        refine lv_iload_n hx hb dX7_deliver_33 rfl (lv_at hl 3 rfl) ?_
        refine lv_isub hx hb dX7_deliver_34 ?_
        refine r_te (y := nI 1) (pk_sub (by omega)) ?_
        refine lv_istore (lv' := [(4, .int (nI 1)), (3, .int (nI (128 * k))), (0, .ref (md 25)), (1, .int (nI k)), (2, .int (nI 0))]) hx hb dX7_deliver_35 hl (by decide) rfl (fun ls hl => ?_)
        refine lv_aload_n hx hb dX7_deliver_37 rfl (lv_at hl 2 rfl) ?_
        refine lv_iload_n hx hb dX7_deliver_38 rfl (lv_at hl 1 rfl) ?_
        refine lv_bipush (v := nI 13) hx hb dX7_deliver_39 (by decide +kernel) ?_
        refine lv_iadd hx hb dX7_deliver_41 ?_
        refine r_te (y := nI (128 * k + 13)) (nI_add (128 * k) 13) ?_
        refine lv_iconst (v := nI 2) hx hb dX7_deliver_42 (by decide +kernel) ?_
        refine r_calll (wr := [(md 17, .inl (g.2.1 0, 400, .inl (rf))), (md 16, .inl (g.2.1 0, 64, .inl (wf))), (md 15, .inl (g.2.1 0, 8, .inl (sf))), (md 22, .inl (g.2.1 0, 64, .inl (kRW))), (md 18, .inl (g.2.1 0, 32, .inl (dg))), (md 19, .inl (g.2.1 0, 32, .inl (kf))), (md 21, .inl (g.2.1 0, 160, .inl (mf))), (md 3, .inl (g.2.1 0, 64, .inl (te))), (md 2, .inl (g.2.1 0, 64, .inl (se))), (md 23, .inl (g.2.1 0, 16, .inl (wd))), (md 24, .inl (g.2.1 0, 16, .inl (mx))), (md 4, .inl (g.2.1 0, 2, .inl (szF epn))), (md 6, .inl (g.2.1 2, 2, .inl (smf))), (md 7, .inl (g.2.1 1, 2, .inr (.inl (gtf)))), (md 8, .inl (g.2.1 2, 128, .inl (snf))), (md 13, .inl (g.2.1 0, 96, .inl (ibf))), (md 10, .inl (g.2.1 0, 8, .inl (szF z)))]) [17, 8] [0, 1, 2, 3, 4, 5, 6, 7, 9, 10, 11, 12, 13, 14, 15, 16, 18] h0 hw rfl rfl (by decide) (by decide) (va_runV (As := [.int (nI (128 * k + 13)), .int (nI 2)]) (rest := []) ⟨hx, hb, hml, hown, hts⟩ (c_X7_numberAt l g md op on inn wr (128 * k + 13) 2 (by omega) (fun j hj => by rw [Nat.add_assoc, hwr (13 + j) (by omega)]; exact hb8 (13 + j) (by omega)) _) (cwV 2 hts gX7_deliver_X7_numberAt rfl rfl rfl (by decide +kernel) ⟨Nat.le_of_ble_eq_true rfl, Nat.le_of_ble_eq_true rfl⟩) (preV_of [17, 8] [.int (nI (128 * k + 13)), .int (nI 2)] h0 hw rfl (by decide) 17 7 rfl rfl) rfl rfl hl.1 rfl (lv_room (Nat.le_of_ble_eq_true rfl)) dX7_deliver_43 ⟨Nat.le_of_ble_eq_true rfl, Nat.le_of_ble_eq_true rfl⟩) (fun r7 u8 H locs hp9 hw => ?_)
        have hw : WD g A s [(md 17, .inl (g.2.1 0, 400, .inl (rf))), (md 16, .inl (g.2.1 0, 64, .inl (wf))), (md 15, .inl (g.2.1 0, 8, .inl (sf))), (md 22, .inl (g.2.1 0, 64, .inl (kRW))), (md 18, .inl (g.2.1 0, 32, .inl (dg))), (md 19, .inl (g.2.1 0, 32, .inl (kf))), (md 21, .inl (g.2.1 0, 160, .inl (mf))), (md 3, .inl (g.2.1 0, 64, .inl (te))), (md 2, .inl (g.2.1 0, 64, .inl (se))), (md 23, .inl (g.2.1 0, 16, .inl (wd))), (md 24, .inl (g.2.1 0, 16, .inl (mx))), (md 4, .inl (g.2.1 0, 2, .inl (szF epn))), (md 6, .inl (g.2.1 2, 2, .inl (smf))), (md 7, .inl (g.2.1 1, 2, .inr (.inl (gtf)))), (md 8, .inl (g.2.1 2, 128, .inl (snf))), (md 13, .inl (g.2.1 0, 96, .inl (ibf))), (md 10, .inl (g.2.1 0, 8, .inl (szF z))), (md 25, .inr (7, [.ref (md 0), .int (nI op), .ref (md 2), .ref (md 3), .ref (md 4), .ref (md 5), .ref (md 6), .ref (md 7), .ref (md 8), .ref (md 9), .ref (md 10), .ref (md 11), .int (nI on), .ref (md 13), .int (nI inn), .ref (md 15), .ref (md 16), .ref (md 17), .ref (md 18), .ref (md 19), .ref (md 20), .ref (md 21), .ref (md 22), .ref (md 23), .ref (md 24)])), (md 9, .inl (g.2.1 0, 1024, .inl (wr)))] [] H locs := hw
        subst hp9
        refine r_tel (y := nAt (f k) 13 2) (nAt_eq 2 (fun j hj => by rw [Nat.add_assoc]; exact hwr (13 + j) (by omega))) ?_
        refine lv_l2i (v := (nAt (f k) 13 2).toInt32) hx hb dX7_deliver_46 rfl ?_
        refine r_te (y := nI ln) hln ?_
        refine lv_istore (lv' := [(5, .int (nI ln)), (4, .int (nI 1)), (3, .int (nI (128 * k))), (0, .ref (md 25)), (1, .int (nI k)), (2, .int (nI 0))]) hx hb dX7_deliver_47 hl (by decide) rfl (fun ls hl => ?_)
        refine lv_aload_n hx hb dX7_deliver_49 rfl (lv_at hl 3 rfl) ?_
        refine r_get (ci := 7) (v := .ref (md 9)) (C := RX7) (T := TX7) (N := 25) hx hb hts hinX7 hown h0 hw 17 rfl rfl 9 (by decide) k36 rfl dX7_deliver_50 ?_
        refine lv_iload_n hx hb dX7_deliver_53 rfl (lv_at hl 2 rfl) ?_
        refine r_iald hx hb h0 hw 18 rfl (i := 128 * k) (by omega) (by omega) dX7_deliver_54 ?_
        refine r_te (y := f k (0)) (by first | exact hwr (0) (by omega) | (have := hwr (0) (by omega); simpa [Nat.add_assoc] using this)) ?_
        refine lv_iload hx hb dX7_deliver_55 (lv_at hl 1 rfl) ?_
        refine lv_icmp_ne (tgt := 84) hx hb dX7_deliver_57 (by decide) (fun c10 => ?_) (fun c10 => ?_)
        · skip
          exact absurd hs0 c10
        · skip
          refine lv_iload hx hb dX7_deliver_60 (lv_at hl 0 rfl) ?_
          refine lv_bipush (v := nI 96) hx hb dX7_deliver_62 (by decide +kernel) ?_
          refine lv_icmp_gt (tgt := 84) hx hb dX7_deliver_64 (by decide) (fun c11 => ?_) (fun c11 => ?_)
          · skip
            have c11 : 96 < ln := (nI_ltI (by omega) (by omega)).mp c11
            exfalso; omega
          · skip
            have c11 : ¬ 96 < ln := fun q => c11 (((nI_ltI (by omega) (by omega)).mpr q))
            refine lv_aload_n hx hb dX7_deliver_67 rfl (lv_at hl 3 rfl) ?_
            refine r_get (ci := 7) (v := .ref (md 10)) (C := RX7) (T := TX7) (N := 25) hx hb hts hinX7 hown h0 hw 17 rfl rfl 10 (by decide) k39 rfl dX7_deliver_68 ?_
            refine lv_iload_n hx hb dX7_deliver_71 rfl (lv_at hl 4 rfl) ?_
            refine r_iald hx hb h0 hw 16 rfl (i := k) (by omega) (by omega) dX7_deliver_72 ?_
            refine r_te (y := nI (z k)) rfl ?_
            refine lv_bipush (v := nI 15) hx hb dX7_deliver_73 (by decide +kernel) ?_
            refine lv_iload hx hb dX7_deliver_75 (lv_at hl 0 rfl) ?_
            refine lv_iadd hx hb dX7_deliver_77 ?_
            refine r_te (y := nI (15 + ln)) (nI_add 15 ln) ?_
            refine lv_bipush (v := nI 16) hx hb dX7_deliver_78 (by decide +kernel) ?_
            refine lv_iadd hx hb dX7_deliver_80 ?_
            refine r_te (y := nI (15 + ln + 16)) (nI_add (15 + ln) 16) ?_
            refine lv_icmp_eq (tgt := 86) hx hb dX7_deliver_81 (by decide) (fun c12 => ?_) (fun c12 => ?_)
            · skip
              have c12 : (z k) = (15 + ln + 16) := (nI_eq (by omega) (by omega)).mp c12
              refine lv_aload_n hx hb dX7_deliver_86 rfl (lv_at hl 3 rfl) ?_
              refine lv_iload_n hx hb dX7_deliver_87 rfl (lv_at hl 2 rfl) ?_
              refine lv_iconst (v := nI 1) hx hb dX7_deliver_88 (by decide +kernel) ?_
              refine lv_iadd hx hb dX7_deliver_89 ?_
              refine r_te (y := nI (128 * k + 1)) (nI_add (128 * k) 1) ?_
              refine lv_iconst (v := nI 4) hx hb dX7_deliver_90 (by decide +kernel) ?_
              refine r_calll (wr := [(md 17, .inl (g.2.1 0, 400, .inl (rf))), (md 16, .inl (g.2.1 0, 64, .inl (wf))), (md 15, .inl (g.2.1 0, 8, .inl (sf))), (md 22, .inl (g.2.1 0, 64, .inl (kRW))), (md 18, .inl (g.2.1 0, 32, .inl (dg))), (md 19, .inl (g.2.1 0, 32, .inl (kf))), (md 21, .inl (g.2.1 0, 160, .inl (mf))), (md 3, .inl (g.2.1 0, 64, .inl (te))), (md 2, .inl (g.2.1 0, 64, .inl (se))), (md 23, .inl (g.2.1 0, 16, .inl (wd))), (md 24, .inl (g.2.1 0, 16, .inl (mx))), (md 4, .inl (g.2.1 0, 2, .inl (szF epn))), (md 6, .inl (g.2.1 2, 2, .inl (smf))), (md 7, .inl (g.2.1 1, 2, .inr (.inl (gtf)))), (md 8, .inl (g.2.1 2, 128, .inl (snf))), (md 13, .inl (g.2.1 0, 96, .inl (ibf))), (md 10, .inl (g.2.1 0, 8, .inl (szF z)))]) [17, 18] [0, 1, 2, 3, 4, 5, 6, 7, 8, 9, 10, 11, 12, 13, 14, 15, 16] h0 hw rfl rfl (by decide) (by decide) (va_runV (As := [.int (nI (128 * k + 1)), .int (nI 4)]) (rest := []) ⟨hx, hb, hml, hown, hts⟩ (c_X7_numberAt l g md op on inn wr (128 * k + 1) 4 (by omega) (fun j hj => by rw [Nat.add_assoc, hwr (1 + j) (by omega)]; exact hb8 (1 + j) (by omega)) _) (cwV 2 hts gX7_deliver_X7_numberAt rfl rfl rfl (by decide +kernel) ⟨Nat.le_of_ble_eq_true rfl, Nat.le_of_ble_eq_true rfl⟩) (preV_of [17, 18] [.int (nI (128 * k + 1)), .int (nI 4)] h0 hw rfl (by decide) 17 7 rfl rfl) rfl rfl hl.1 rfl (lv_room (Nat.le_of_ble_eq_true rfl)) dX7_deliver_91 ⟨Nat.le_of_ble_eq_true rfl, Nat.le_of_ble_eq_true rfl⟩) (fun r13 u14 H locs hp15 hw => ?_)
              have hw : WD g A s [(md 17, .inl (g.2.1 0, 400, .inl (rf))), (md 16, .inl (g.2.1 0, 64, .inl (wf))), (md 15, .inl (g.2.1 0, 8, .inl (sf))), (md 22, .inl (g.2.1 0, 64, .inl (kRW))), (md 18, .inl (g.2.1 0, 32, .inl (dg))), (md 19, .inl (g.2.1 0, 32, .inl (kf))), (md 21, .inl (g.2.1 0, 160, .inl (mf))), (md 3, .inl (g.2.1 0, 64, .inl (te))), (md 2, .inl (g.2.1 0, 64, .inl (se))), (md 23, .inl (g.2.1 0, 16, .inl (wd))), (md 24, .inl (g.2.1 0, 16, .inl (mx))), (md 4, .inl (g.2.1 0, 2, .inl (szF epn))), (md 6, .inl (g.2.1 2, 2, .inl (smf))), (md 7, .inl (g.2.1 1, 2, .inr (.inl (gtf)))), (md 8, .inl (g.2.1 2, 128, .inl (snf))), (md 13, .inl (g.2.1 0, 96, .inl (ibf))), (md 10, .inl (g.2.1 0, 8, .inl (szF z))), (md 25, .inr (7, [.ref (md 0), .int (nI op), .ref (md 2), .ref (md 3), .ref (md 4), .ref (md 5), .ref (md 6), .ref (md 7), .ref (md 8), .ref (md 9), .ref (md 10), .ref (md 11), .int (nI on), .ref (md 13), .int (nI inn), .ref (md 15), .ref (md 16), .ref (md 17), .ref (md 18), .ref (md 19), .ref (md 20), .ref (md 21), .ref (md 22), .ref (md 23), .ref (md 24)])), (md 9, .inl (g.2.1 0, 1024, .inl (wr)))] [] H locs := hw
              subst hp15
              refine r_tel (y := nAt (f k) 1 4) (nAt_eq 4 (fun j hj => by rw [Nat.add_assoc]; exact hwr (1 + j) (by omega))) ?_
              refine lv_aload_n hx hb dX7_deliver_94 rfl (lv_at hl 3 rfl) ?_
              refine r_get (ci := 7) (v := .ref (md 4)) (C := RX7) (T := TX7) (N := 25) hx hb hts hinX7 hown h0 hw 17 rfl rfl 4 (by decide) k19 rfl dX7_deliver_95 ?_
              refine lv_iload hx hb dX7_deliver_98 (lv_at hl 1 rfl) ?_
              refine r_iald hx hb h0 hw 11 rfl (i := 1) (by omega) (by omega) dX7_deliver_100 ?_
              refine r_te (y := nI (epn 1)) rfl ?_
              refine lv_i2l (v := (nI (epn 1)).toInt64) hx hb dX7_deliver_101 rfl ?_
              refine W.lcmp hx hb dX7_deliver_102 ?_
              refine lv_if_eq (tgt := 108) hx hb dX7_deliver_103 (by decide) (fun c16 => ?_) (fun c16 => ?_)
              · skip
                have c16 : (nAt (f k) 1 4) = ((nI (epn 1)).toInt64) := (lg_cmp_eq _ _).mp c16
                exact absurd c16 he3
              · skip
                have c16 : ¬ (nAt (f k) 1 4) = ((nI (epn 1)).toInt64) := fun q => c16 ((lg_cmp_eq _ _).mpr q)
                refine lv_iconst (v := nI 3) hx hb dX7_deliver_106 (by decide +kernel) ?_
                exact hret (hw.perm (X' := [(md 25, .inr (7, [.ref (md 0), .int (nI op), .ref (md 2), .ref (md 3), .ref (md 4), .ref (md 5), .ref (md 6), .ref (md 7), .ref (md 8), .ref (md 9), .ref (md 10), .ref (md 11), .int (nI on), .ref (md 13), .int (nI inn), .ref (md 15), .ref (md 16), .ref (md 17), .ref (md 18), .ref (md 19), .ref (md 20), .ref (md 21), .ref (md 22), .ref (md 23), .ref (md 24)])), (md 17, .inl (g.2.1 0, 400, .inl (rf))), (md 16, .inl (g.2.1 0, 64, .inl (wf))), (md 15, .inl (g.2.1 0, 8, .inl (sf))), (md 22, .inl (g.2.1 0, 64, .inl (kRW))), (md 18, .inl (g.2.1 0, 32, .inl (dg))), (md 19, .inl (g.2.1 0, 32, .inl (kf))), (md 21, .inl (g.2.1 0, 160, .inl (mf))), (md 3, .inl (g.2.1 0, 64, .inl (te))), (md 9, .inl (g.2.1 0, 1024, .inl (wr))), (md 2, .inl (g.2.1 0, 64, .inl (se))), (md 23, .inl (g.2.1 0, 16, .inl (wd))), (md 24, .inl (g.2.1 0, 16, .inl (mx))), (md 4, .inl (g.2.1 0, 2, .inl (szF epn))), (md 10, .inl (g.2.1 0, 8, .inl (szF z))), (md 6, .inl (g.2.1 2, 2, .inl (smf))), (md 7, .inl (g.2.1 1, 2, .inr (.inl (gtf)))), (md 8, .inl (g.2.1 2, 128, .inl (snf))), (md 13, .inl (g.2.1 0, 96, .inl (ibf)))]) [17, 0, 1, 2, 3, 4, 5, 6, 7, 18, 8, 9, 10, 11, 16, 12, 13, 14, 15] (by decide) rfl) () (rfl) (rfl) (by omega) (by omega) dX7_deliver_107
            · skip
              have c12 : ¬ (z k) = (15 + ln + 16) := fun q => c12 (((nI_eq (by omega) (by omega)).mpr q))
              exfalso; omega
      · skip
        rw [← nI_0] at c6
        have c6 : op = 0 := (nI_eq (by omega) (by omega)).mp c6
        exfalso; omega
    · skip
      rw [← nI_0] at c5
      have c5 : ¬ 0 = 0 := fun q => c5 (((nI_eq (by omega) (by omega)).mpr q))
      exfalso; omega

set_option maxHeartbeats 4000000 in
set_option maxRecDepth 100000 in
theorem c_X7_deliver_41 (l : Launch) (g : GE) (md : Nat → Nat) (op : Nat) (on : Nat) (inn : Nat) (rf : Nat → Int32) (wf : Nat → Int32) (sf : Nat → Int32) (dg : Nat → Int32) (kf : Nat → Int32) (mf : Nat → Int32) (te : Nat → Int32) (wr : Nat → Int32) (se : Nat → Int32) (wd : Nat → Int32) (mx : Nat → Int32) (epn : Nat → Nat) (z : Nat → Nat) (smf : Nat → Int32) (gtf : Nat → Int64) (snf : Nat → Int32) (ibf : Nat → Int32) (f : Nat → Nat → Int32) (k : Nat) (ek : Nat → Int32) (tk : Nat → Int32) (ln : Nat) (hop : ¬ op = 0) (hop2 : op < 2) (hk : k < 8) (hz1 : 31 ≤ z k) (hz2 : z k ≤ 127) (hwr : ∀ j, j < z k → wr (128 * k + j) = f k j) (hb8 : ∀ j, j < z k → f k j = f k j &&& nI 255) (hs0 : f k 0 = nI 1) (hln : (nAt (f k) 13 2).toInt32 = nI ln) (hl1 : z k = 31 + ln) (hl2 : ln ≤ 96) (he3 : nAt (f k) 1 4 = (nI (epn 1)).toInt64) (htk : EqB 32 (shf te (32 * 1)) tk) (hek : EqB 32 (shf se (32 * 1)) ek) (htag : ¬ tagOK (f k) (hmv tk (f k) (15 + ln)) (15 + ln)) (sz : Nat) : MI l yX7_deliver wsX7_deliver { frames := 5, cells := 0, slots := 0, locals := 123 } g [.ref (md 25), .int (nI k), .int (nI 0)] [(md 25, .inr (7, [.ref (md 0), .int (nI op), .ref (md 2), .ref (md 3), .ref (md 4), .ref (md 5), .ref (md 6), .ref (md 7), .ref (md 8), .ref (md 9), .ref (md 10), .ref (md 11), .int (nI on), .ref (md 13), .int (nI inn), .ref (md 15), .ref (md 16), .ref (md 17), .ref (md 18), .ref (md 19), .ref (md 20), .ref (md 21), .ref (md 22), .ref (md 23), .ref (md 24)])), (md 17, .inl (g.2.1 0, 400, .inl (rf))), (md 16, .inl (g.2.1 0, 64, .inl (wf))), (md 15, .inl (g.2.1 0, 8, .inl (sf))), (md 22, .inl (g.2.1 0, 64, .inl (kRW))), (md 18, .inl (g.2.1 0, 32, .inl (dg))), (md 19, .inl (g.2.1 0, 32, .inl (kf))), (md 21, .inl (g.2.1 0, 160, .inl (mf))), (md 3, .inl (g.2.1 0, 64, .inl (te))), (md 9, .inl (g.2.1 0, 1024, .inl (wr))), (md 2, .inl (g.2.1 0, 64, .inl (se))), (md 23, .inl (g.2.1 0, 16, .inl (wd))), (md 24, .inl (g.2.1 0, 16, .inl (mx))), (md 4, .inl (g.2.1 0, 2, .inl (szF epn))), (md 10, .inl (g.2.1 0, 8, .inl (szF z))), (md 6, .inl (g.2.1 2, 2, .inl (smf))), (md 7, .inl (g.2.1 1, 2, .inr (.inl (gtf)))), (md 8, .inl (g.2.1 2, 128, .inl (snf))), (md 13, .inl (g.2.1 0, 96, .inl (ibf)))] sz (fun (r : Int32) (u : (Nat → Int32) × (Nat → Int32) × (Nat → Int32) × (Nat → Int32) × (Nat → Int32) × (Nat → Int32)) => r = nI 4) (fun (u : (Nat → Int32) × (Nat → Int32) × (Nat → Int32) × (Nat → Int32) × (Nat → Int32) × (Nat → Int32)) => [(md 25, .inr (7, [.ref (md 0), .int (nI op), .ref (md 2), .ref (md 3), .ref (md 4), .ref (md 5), .ref (md 6), .ref (md 7), .ref (md 8), .ref (md 9), .ref (md 10), .ref (md 11), .int (nI on), .ref (md 13), .int (nI inn), .ref (md 15), .ref (md 16), .ref (md 17), .ref (md 18), .ref (md 19), .ref (md 20), .ref (md 21), .ref (md 22), .ref (md 23), .ref (md 24)])), (md 17, .inl (g.2.1 0, 400, .inl (u.1))), (md 16, .inl (g.2.1 0, 64, .inl (u.2.1))), (md 15, .inl (g.2.1 0, 8, .inl (u.2.2.1))), (md 22, .inl (g.2.1 0, 64, .inl (kRW))), (md 18, .inl (g.2.1 0, 32, .inl (u.2.2.2.1))), (md 19, .inl (g.2.1 0, 32, .inl (u.2.2.2.2.1))), (md 21, .inl (g.2.1 0, 160, .inl (u.2.2.2.2.2))), (md 3, .inl (g.2.1 0, 64, .inl (te))), (md 9, .inl (g.2.1 0, 1024, .inl (wr))), (md 2, .inl (g.2.1 0, 64, .inl (se))), (md 23, .inl (g.2.1 0, 16, .inl (wd))), (md 24, .inl (g.2.1 0, 16, .inl (mx))), (md 4, .inl (g.2.1 0, 2, .inl (szF epn))), (md 10, .inl (g.2.1 0, 8, .inl (szF z))), (md 6, .inl (g.2.1 2, 2, .inl (smf))), (md 7, .inl (g.2.1 1, 2, .inr (.inl (gtf)))), (md 8, .inl (g.2.1 2, 128, .inl (snf))), (md 13, .inl (g.2.1 0, 96, .inl (ibf)))]) 0 0 := by
  refine enterI (by decide) rfl (Nat.le_of_ble_eq_true rfl) ?_
  intro p e s m below meth c A ls ar Q hE h0 hret hw hl
  obtain ⟨hx, hb, hr, hml, hown, hts, hlocks, hname⟩ := hE
  have hown : s.vm.findClass RX7 = some m.cls := hown
  have hw : WD g A s [(md 25, .inr (7, [.ref (md 0), .int (nI op), .ref (md 2), .ref (md 3), .ref (md 4), .ref (md 5), .ref (md 6), .ref (md 7), .ref (md 8), .ref (md 9), .ref (md 10), .ref (md 11), .int (nI on), .ref (md 13), .int (nI inn), .ref (md 15), .ref (md 16), .ref (md 17), .ref (md 18), .ref (md 19), .ref (md 20), .ref (md 21), .ref (md 22), .ref (md 23), .ref (md 24)])), (md 17, .inl (g.2.1 0, 400, .inl (rf))), (md 16, .inl (g.2.1 0, 64, .inl (wf))), (md 15, .inl (g.2.1 0, 8, .inl (sf))), (md 22, .inl (g.2.1 0, 64, .inl (kRW))), (md 18, .inl (g.2.1 0, 32, .inl (dg))), (md 19, .inl (g.2.1 0, 32, .inl (kf))), (md 21, .inl (g.2.1 0, 160, .inl (mf))), (md 3, .inl (g.2.1 0, 64, .inl (te))), (md 9, .inl (g.2.1 0, 1024, .inl (wr))), (md 2, .inl (g.2.1 0, 64, .inl (se))), (md 23, .inl (g.2.1 0, 16, .inl (wd))), (md 24, .inl (g.2.1 0, 16, .inl (mx))), (md 4, .inl (g.2.1 0, 2, .inl (szF epn))), (md 10, .inl (g.2.1 0, 8, .inl (szF z))), (md 6, .inl (g.2.1 2, 2, .inl (smf))), (md 7, .inl (g.2.1 1, 2, .inr (.inl (gtf)))), (md 8, .inl (g.2.1 2, 128, .inl (snf))), (md 13, .inl (g.2.1 0, 96, .inl (ibf)))] [] s.heap [] := hw
  have hinX7 : ∀ w ∈ u_ws RX7 TX7 25, w ∈ wsX7_deliver := by decide +kernel
  have k19 := hts (.fieldLink RX7 19 "RecordWireModel" "epochs" "[I") (by decide +kernel)
  have k26 := hts (.fieldLink RX7 26 "RecordWireModel" "some" "[Z") (by decide +kernel)
  have k30 := hts (.fieldLink RX7 30 "RecordWireModel" "greatest" "[J") (by decide +kernel)
  have k33 := hts (.fieldLink RX7 33 "RecordWireModel" "seen" "[Z") (by decide +kernel)
  have k36 := hts (.fieldLink RX7 36 "RecordWireModel" "wire" "[I") (by decide +kernel)
  have k39 := hts (.fieldLink RX7 39 "RecordWireModel" "sizes" "[I") (by decide +kernel)
  have k45 := hts (.fieldLink RX7 45 "RecordWireModel" "inbox" "[I") (by decide +kernel)
  have k57 := hts (.fieldLink RX7 57 "RecordWireModel" "digest" "[I") (by decide +kernel)
  have k145 := hts (.fieldLink RX7 145 "RecordWireModel" "isOpen" "Z") (by decide +kernel)
  have k153 := hts (.fieldLink RX7 153 "RecordWireModel" "inSize" "I") (by decide +kernel)
  have k227 := hts (.constantLong RX7 227 (64)) (by decide +kernel)
  have hl : lv_has ls 15 [(0, .ref (md 25)), (1, .int (nI k)), (2, .int (nI 0))] := hl
  refine lv_aload_n hx hb dX7_deliver_0 rfl (lv_at hl 0 rfl) ?_
  refine lv_iload_n hx hb dX7_deliver_1 rfl (lv_at hl 1 rfl) ?_
  refine r_calli (wr := [(md 17, .inl (g.2.1 0, 400, .inl (rf))), (md 16, .inl (g.2.1 0, 64, .inl (wf))), (md 15, .inl (g.2.1 0, 8, .inl (sf))), (md 22, .inl (g.2.1 0, 64, .inl (kRW))), (md 18, .inl (g.2.1 0, 32, .inl (dg))), (md 19, .inl (g.2.1 0, 32, .inl (kf))), (md 21, .inl (g.2.1 0, 160, .inl (mf))), (md 3, .inl (g.2.1 0, 64, .inl (te))), (md 9, .inl (g.2.1 0, 1024, .inl (wr))), (md 2, .inl (g.2.1 0, 64, .inl (se))), (md 23, .inl (g.2.1 0, 16, .inl (wd))), (md 24, .inl (g.2.1 0, 16, .inl (mx))), (md 4, .inl (g.2.1 0, 2, .inl (szF epn))), (md 6, .inl (g.2.1 2, 2, .inl (smf))), (md 7, .inl (g.2.1 1, 2, .inr (.inl (gtf)))), (md 8, .inl (g.2.1 2, 128, .inl (snf))), (md 13, .inl (g.2.1 0, 96, .inl (ibf)))]) [0, 14] [1, 2, 3, 4, 5, 6, 7, 8, 9, 10, 11, 12, 13, 15, 16, 17, 18] h0 hw rfl rfl (by decide) (by decide) (va_runV (As := [.int (nI k)]) (rest := []) ⟨hx, hb, hml, hown, hts⟩ (c_X7_isSlot l g md op on inn z k (by omega) (by omega) _) (cwV 1 hts gX7_deliver_X7_isSlot rfl rfl rfl (by decide +kernel) ⟨Nat.le_of_ble_eq_true rfl, Nat.le_of_ble_eq_true rfl⟩) (preV_of [0, 14] [.int (nI k)] h0 hw rfl (by decide) 0 7 rfl rfl) rfl rfl hl.1 rfl (lv_room (Nat.le_of_ble_eq_true rfl)) dX7_deliver_2 ⟨Nat.le_of_ble_eq_true rfl, Nat.le_of_ble_eq_true rfl⟩) (fun r1 u2 H locs hp3 hw => ?_)
  have hw : WD g A s [(md 17, .inl (g.2.1 0, 400, .inl (rf))), (md 16, .inl (g.2.1 0, 64, .inl (wf))), (md 15, .inl (g.2.1 0, 8, .inl (sf))), (md 22, .inl (g.2.1 0, 64, .inl (kRW))), (md 18, .inl (g.2.1 0, 32, .inl (dg))), (md 19, .inl (g.2.1 0, 32, .inl (kf))), (md 21, .inl (g.2.1 0, 160, .inl (mf))), (md 3, .inl (g.2.1 0, 64, .inl (te))), (md 9, .inl (g.2.1 0, 1024, .inl (wr))), (md 2, .inl (g.2.1 0, 64, .inl (se))), (md 23, .inl (g.2.1 0, 16, .inl (wd))), (md 24, .inl (g.2.1 0, 16, .inl (mx))), (md 4, .inl (g.2.1 0, 2, .inl (szF epn))), (md 6, .inl (g.2.1 2, 2, .inl (smf))), (md 7, .inl (g.2.1 1, 2, .inr (.inl (gtf)))), (md 8, .inl (g.2.1 2, 128, .inl (snf))), (md 13, .inl (g.2.1 0, 96, .inl (ibf))), (md 25, .inr (7, [.ref (md 0), .int (nI op), .ref (md 2), .ref (md 3), .ref (md 4), .ref (md 5), .ref (md 6), .ref (md 7), .ref (md 8), .ref (md 9), .ref (md 10), .ref (md 11), .int (nI on), .ref (md 13), .int (nI inn), .ref (md 15), .ref (md 16), .ref (md 17), .ref (md 18), .ref (md 19), .ref (md 20), .ref (md 21), .ref (md 22), .ref (md 23), .ref (md 24)])), (md 10, .inl (g.2.1 0, 8, .inl (szF z)))] [] H locs := hw
  subst hp3
  refine lv_if_eq (tgt := 24) hx hb dX7_deliver_5 (by decide) (fun c4 => ?_) (fun c4 => ?_)
  · skip
    have c4 : ¬ (¬ z k = 0) := bI_f c4
    exact absurd (by omega) c4
  · skip
    have c4 : ¬ z k = 0 := bI_t c4
    refine lv_iload_n hx hb dX7_deliver_8 rfl (lv_at hl 2 rfl) ?_
    refine lv_if_eq (tgt := 17) hx hb dX7_deliver_9 (by decide) (fun c5 => ?_) (fun c5 => ?_)
    · skip
      rw [← nI_0] at c5
      have c5 : 0 = 0 := (nI_eq (by omega) (by omega)).mp c5
      refine lv_aload_n hx hb dX7_deliver_17 rfl (lv_at hl 0 rfl) ?_
      refine r_get (ci := 7) (v := .int (nI op)) (C := RX7) (T := TX7) (N := 25) hx hb hts hinX7 hown h0 hw 17 rfl rfl 1 (by decide) k145 rfl dX7_deliver_18 ?_
      refine lv_if_ne (tgt := 26) hx hb dX7_deliver_21 (by decide) (fun c6 => ?_) (fun c6 => ?_)
      · skip
        rw [← nI_0] at c6
        have c6 : ¬ op = 0 := fun q => c6 (((nI_eq (by omega) (by omega)).mpr q))
        refine lv_sipush (v := nI 128) hx hb dX7_deliver_26 (by decide +kernel) ?_
        refine lv_iload_n hx hb dX7_deliver_29 rfl (lv_at hl 1 rfl) ?_
        refine lv_imul hx hb dX7_deliver_30 ?_
        refine r_te (y := nI (128 * k)) (pk_mul 128 k) ?_
        refine lv_istore_n (lv' := [(3, .int (nI (128 * k))), (0, .ref (md 25)), (1, .int (nI k)), (2, .int (nI 0))]) hx hb dX7_deliver_31 rfl hl (by decide) rfl (fun ls hl => ?_)
        refine lv_iconst (v := nI 1) hx hb dX7_deliver_32 (by decide +kernel) ?_
        refine lv_iload_n hx hb dX7_deliver_33 rfl (lv_at hl 3 rfl) ?_
        refine lv_isub hx hb dX7_deliver_34 ?_
        refine r_te (y := nI 1) (pk_sub (by omega)) ?_
        refine lv_istore (lv' := [(4, .int (nI 1)), (3, .int (nI (128 * k))), (0, .ref (md 25)), (1, .int (nI k)), (2, .int (nI 0))]) hx hb dX7_deliver_35 hl (by decide) rfl (fun ls hl => ?_)
        refine lv_aload_n hx hb dX7_deliver_37 rfl (lv_at hl 2 rfl) ?_
        refine lv_iload_n hx hb dX7_deliver_38 rfl (lv_at hl 1 rfl) ?_
        refine lv_bipush (v := nI 13) hx hb dX7_deliver_39 (by decide +kernel) ?_
        refine lv_iadd hx hb dX7_deliver_41 ?_
        refine r_te (y := nI (128 * k + 13)) (nI_add (128 * k) 13) ?_
        refine lv_iconst (v := nI 2) hx hb dX7_deliver_42 (by decide +kernel) ?_
        refine r_calll (wr := [(md 17, .inl (g.2.1 0, 400, .inl (rf))), (md 16, .inl (g.2.1 0, 64, .inl (wf))), (md 15, .inl (g.2.1 0, 8, .inl (sf))), (md 22, .inl (g.2.1 0, 64, .inl (kRW))), (md 18, .inl (g.2.1 0, 32, .inl (dg))), (md 19, .inl (g.2.1 0, 32, .inl (kf))), (md 21, .inl (g.2.1 0, 160, .inl (mf))), (md 3, .inl (g.2.1 0, 64, .inl (te))), (md 2, .inl (g.2.1 0, 64, .inl (se))), (md 23, .inl (g.2.1 0, 16, .inl (wd))), (md 24, .inl (g.2.1 0, 16, .inl (mx))), (md 4, .inl (g.2.1 0, 2, .inl (szF epn))), (md 6, .inl (g.2.1 2, 2, .inl (smf))), (md 7, .inl (g.2.1 1, 2, .inr (.inl (gtf)))), (md 8, .inl (g.2.1 2, 128, .inl (snf))), (md 13, .inl (g.2.1 0, 96, .inl (ibf))), (md 10, .inl (g.2.1 0, 8, .inl (szF z)))]) [17, 8] [0, 1, 2, 3, 4, 5, 6, 7, 9, 10, 11, 12, 13, 14, 15, 16, 18] h0 hw rfl rfl (by decide) (by decide) (va_runV (As := [.int (nI (128 * k + 13)), .int (nI 2)]) (rest := []) ⟨hx, hb, hml, hown, hts⟩ (c_X7_numberAt l g md op on inn wr (128 * k + 13) 2 (by omega) (fun j hj => by rw [Nat.add_assoc, hwr (13 + j) (by omega)]; exact hb8 (13 + j) (by omega)) _) (cwV 2 hts gX7_deliver_X7_numberAt rfl rfl rfl (by decide +kernel) ⟨Nat.le_of_ble_eq_true rfl, Nat.le_of_ble_eq_true rfl⟩) (preV_of [17, 8] [.int (nI (128 * k + 13)), .int (nI 2)] h0 hw rfl (by decide) 17 7 rfl rfl) rfl rfl hl.1 rfl (lv_room (Nat.le_of_ble_eq_true rfl)) dX7_deliver_43 ⟨Nat.le_of_ble_eq_true rfl, Nat.le_of_ble_eq_true rfl⟩) (fun r7 u8 H locs hp9 hw => ?_)
        have hw : WD g A s [(md 17, .inl (g.2.1 0, 400, .inl (rf))), (md 16, .inl (g.2.1 0, 64, .inl (wf))), (md 15, .inl (g.2.1 0, 8, .inl (sf))), (md 22, .inl (g.2.1 0, 64, .inl (kRW))), (md 18, .inl (g.2.1 0, 32, .inl (dg))), (md 19, .inl (g.2.1 0, 32, .inl (kf))), (md 21, .inl (g.2.1 0, 160, .inl (mf))), (md 3, .inl (g.2.1 0, 64, .inl (te))), (md 2, .inl (g.2.1 0, 64, .inl (se))), (md 23, .inl (g.2.1 0, 16, .inl (wd))), (md 24, .inl (g.2.1 0, 16, .inl (mx))), (md 4, .inl (g.2.1 0, 2, .inl (szF epn))), (md 6, .inl (g.2.1 2, 2, .inl (smf))), (md 7, .inl (g.2.1 1, 2, .inr (.inl (gtf)))), (md 8, .inl (g.2.1 2, 128, .inl (snf))), (md 13, .inl (g.2.1 0, 96, .inl (ibf))), (md 10, .inl (g.2.1 0, 8, .inl (szF z))), (md 25, .inr (7, [.ref (md 0), .int (nI op), .ref (md 2), .ref (md 3), .ref (md 4), .ref (md 5), .ref (md 6), .ref (md 7), .ref (md 8), .ref (md 9), .ref (md 10), .ref (md 11), .int (nI on), .ref (md 13), .int (nI inn), .ref (md 15), .ref (md 16), .ref (md 17), .ref (md 18), .ref (md 19), .ref (md 20), .ref (md 21), .ref (md 22), .ref (md 23), .ref (md 24)])), (md 9, .inl (g.2.1 0, 1024, .inl (wr)))] [] H locs := hw
        subst hp9
        refine r_tel (y := nAt (f k) 13 2) (nAt_eq 2 (fun j hj => by rw [Nat.add_assoc]; exact hwr (13 + j) (by omega))) ?_
        refine lv_l2i (v := (nAt (f k) 13 2).toInt32) hx hb dX7_deliver_46 rfl ?_
        refine r_te (y := nI ln) hln ?_
        refine lv_istore (lv' := [(5, .int (nI ln)), (4, .int (nI 1)), (3, .int (nI (128 * k))), (0, .ref (md 25)), (1, .int (nI k)), (2, .int (nI 0))]) hx hb dX7_deliver_47 hl (by decide) rfl (fun ls hl => ?_)
        refine lv_aload_n hx hb dX7_deliver_49 rfl (lv_at hl 3 rfl) ?_
        refine r_get (ci := 7) (v := .ref (md 9)) (C := RX7) (T := TX7) (N := 25) hx hb hts hinX7 hown h0 hw 17 rfl rfl 9 (by decide) k36 rfl dX7_deliver_50 ?_
        refine lv_iload_n hx hb dX7_deliver_53 rfl (lv_at hl 2 rfl) ?_
        refine r_iald hx hb h0 hw 18 rfl (i := 128 * k) (by omega) (by omega) dX7_deliver_54 ?_
        refine r_te (y := f k (0)) (by first | exact hwr (0) (by omega) | (have := hwr (0) (by omega); simpa [Nat.add_assoc] using this)) ?_
        refine lv_iload hx hb dX7_deliver_55 (lv_at hl 1 rfl) ?_
        refine lv_icmp_ne (tgt := 84) hx hb dX7_deliver_57 (by decide) (fun c10 => ?_) (fun c10 => ?_)
        · skip
          exact absurd hs0 c10
        · skip
          refine lv_iload hx hb dX7_deliver_60 (lv_at hl 0 rfl) ?_
          refine lv_bipush (v := nI 96) hx hb dX7_deliver_62 (by decide +kernel) ?_
          refine lv_icmp_gt (tgt := 84) hx hb dX7_deliver_64 (by decide) (fun c11 => ?_) (fun c11 => ?_)
          · skip
            have c11 : 96 < ln := (nI_ltI (by omega) (by omega)).mp c11
            exfalso; omega
          · skip
            have c11 : ¬ 96 < ln := fun q => c11 (((nI_ltI (by omega) (by omega)).mpr q))
            refine lv_aload_n hx hb dX7_deliver_67 rfl (lv_at hl 3 rfl) ?_
            refine r_get (ci := 7) (v := .ref (md 10)) (C := RX7) (T := TX7) (N := 25) hx hb hts hinX7 hown h0 hw 17 rfl rfl 10 (by decide) k39 rfl dX7_deliver_68 ?_
            refine lv_iload_n hx hb dX7_deliver_71 rfl (lv_at hl 4 rfl) ?_
            refine r_iald hx hb h0 hw 16 rfl (i := k) (by omega) (by omega) dX7_deliver_72 ?_
            refine r_te (y := nI (z k)) rfl ?_
            refine lv_bipush (v := nI 15) hx hb dX7_deliver_73 (by decide +kernel) ?_
            refine lv_iload hx hb dX7_deliver_75 (lv_at hl 0 rfl) ?_
            refine lv_iadd hx hb dX7_deliver_77 ?_
            refine r_te (y := nI (15 + ln)) (nI_add 15 ln) ?_
            refine lv_bipush (v := nI 16) hx hb dX7_deliver_78 (by decide +kernel) ?_
            refine lv_iadd hx hb dX7_deliver_80 ?_
            refine r_te (y := nI (15 + ln + 16)) (nI_add (15 + ln) 16) ?_
            refine lv_icmp_eq (tgt := 86) hx hb dX7_deliver_81 (by decide) (fun c12 => ?_) (fun c12 => ?_)
            · skip
              have c12 : (z k) = (15 + ln + 16) := (nI_eq (by omega) (by omega)).mp c12
              refine lv_aload_n hx hb dX7_deliver_86 rfl (lv_at hl 3 rfl) ?_
              refine lv_iload_n hx hb dX7_deliver_87 rfl (lv_at hl 2 rfl) ?_
              refine lv_iconst (v := nI 1) hx hb dX7_deliver_88 (by decide +kernel) ?_
              refine lv_iadd hx hb dX7_deliver_89 ?_
              refine r_te (y := nI (128 * k + 1)) (nI_add (128 * k) 1) ?_
              refine lv_iconst (v := nI 4) hx hb dX7_deliver_90 (by decide +kernel) ?_
              refine r_calll (wr := [(md 17, .inl (g.2.1 0, 400, .inl (rf))), (md 16, .inl (g.2.1 0, 64, .inl (wf))), (md 15, .inl (g.2.1 0, 8, .inl (sf))), (md 22, .inl (g.2.1 0, 64, .inl (kRW))), (md 18, .inl (g.2.1 0, 32, .inl (dg))), (md 19, .inl (g.2.1 0, 32, .inl (kf))), (md 21, .inl (g.2.1 0, 160, .inl (mf))), (md 3, .inl (g.2.1 0, 64, .inl (te))), (md 2, .inl (g.2.1 0, 64, .inl (se))), (md 23, .inl (g.2.1 0, 16, .inl (wd))), (md 24, .inl (g.2.1 0, 16, .inl (mx))), (md 4, .inl (g.2.1 0, 2, .inl (szF epn))), (md 6, .inl (g.2.1 2, 2, .inl (smf))), (md 7, .inl (g.2.1 1, 2, .inr (.inl (gtf)))), (md 8, .inl (g.2.1 2, 128, .inl (snf))), (md 13, .inl (g.2.1 0, 96, .inl (ibf))), (md 10, .inl (g.2.1 0, 8, .inl (szF z)))]) [17, 18] [0, 1, 2, 3, 4, 5, 6, 7, 8, 9, 10, 11, 12, 13, 14, 15, 16] h0 hw rfl rfl (by decide) (by decide) (va_runV (As := [.int (nI (128 * k + 1)), .int (nI 4)]) (rest := []) ⟨hx, hb, hml, hown, hts⟩ (c_X7_numberAt l g md op on inn wr (128 * k + 1) 4 (by omega) (fun j hj => by rw [Nat.add_assoc, hwr (1 + j) (by omega)]; exact hb8 (1 + j) (by omega)) _) (cwV 2 hts gX7_deliver_X7_numberAt rfl rfl rfl (by decide +kernel) ⟨Nat.le_of_ble_eq_true rfl, Nat.le_of_ble_eq_true rfl⟩) (preV_of [17, 18] [.int (nI (128 * k + 1)), .int (nI 4)] h0 hw rfl (by decide) 17 7 rfl rfl) rfl rfl hl.1 rfl (lv_room (Nat.le_of_ble_eq_true rfl)) dX7_deliver_91 ⟨Nat.le_of_ble_eq_true rfl, Nat.le_of_ble_eq_true rfl⟩) (fun r13 u14 H locs hp15 hw => ?_)
              have hw : WD g A s [(md 17, .inl (g.2.1 0, 400, .inl (rf))), (md 16, .inl (g.2.1 0, 64, .inl (wf))), (md 15, .inl (g.2.1 0, 8, .inl (sf))), (md 22, .inl (g.2.1 0, 64, .inl (kRW))), (md 18, .inl (g.2.1 0, 32, .inl (dg))), (md 19, .inl (g.2.1 0, 32, .inl (kf))), (md 21, .inl (g.2.1 0, 160, .inl (mf))), (md 3, .inl (g.2.1 0, 64, .inl (te))), (md 2, .inl (g.2.1 0, 64, .inl (se))), (md 23, .inl (g.2.1 0, 16, .inl (wd))), (md 24, .inl (g.2.1 0, 16, .inl (mx))), (md 4, .inl (g.2.1 0, 2, .inl (szF epn))), (md 6, .inl (g.2.1 2, 2, .inl (smf))), (md 7, .inl (g.2.1 1, 2, .inr (.inl (gtf)))), (md 8, .inl (g.2.1 2, 128, .inl (snf))), (md 13, .inl (g.2.1 0, 96, .inl (ibf))), (md 10, .inl (g.2.1 0, 8, .inl (szF z))), (md 25, .inr (7, [.ref (md 0), .int (nI op), .ref (md 2), .ref (md 3), .ref (md 4), .ref (md 5), .ref (md 6), .ref (md 7), .ref (md 8), .ref (md 9), .ref (md 10), .ref (md 11), .int (nI on), .ref (md 13), .int (nI inn), .ref (md 15), .ref (md 16), .ref (md 17), .ref (md 18), .ref (md 19), .ref (md 20), .ref (md 21), .ref (md 22), .ref (md 23), .ref (md 24)])), (md 9, .inl (g.2.1 0, 1024, .inl (wr)))] [] H locs := hw
              subst hp15
              refine r_tel (y := nAt (f k) 1 4) (nAt_eq 4 (fun j hj => by rw [Nat.add_assoc]; exact hwr (1 + j) (by omega))) ?_
              refine lv_aload_n hx hb dX7_deliver_94 rfl (lv_at hl 3 rfl) ?_
              refine r_get (ci := 7) (v := .ref (md 4)) (C := RX7) (T := TX7) (N := 25) hx hb hts hinX7 hown h0 hw 17 rfl rfl 4 (by decide) k19 rfl dX7_deliver_95 ?_
              refine lv_iload hx hb dX7_deliver_98 (lv_at hl 1 rfl) ?_
              refine r_iald hx hb h0 hw 11 rfl (i := 1) (by omega) (by omega) dX7_deliver_100 ?_
              refine r_te (y := nI (epn 1)) rfl ?_
              refine lv_i2l (v := (nI (epn 1)).toInt64) hx hb dX7_deliver_101 rfl ?_
              refine W.lcmp hx hb dX7_deliver_102 ?_
              refine lv_if_eq (tgt := 108) hx hb dX7_deliver_103 (by decide) (fun c16 => ?_) (fun c16 => ?_)
              · skip
                have c16 : (nAt (f k) 1 4) = ((nI (epn 1)).toInt64) := (lg_cmp_eq _ _).mp c16
                refine lv_aload_n hx hb dX7_deliver_108 rfl (lv_at hl 3 rfl) ?_
                refine lv_iload hx hb dX7_deliver_109 (lv_at hl 1 rfl) ?_
                refine lv_iload_n hx hb dX7_deliver_111 rfl (lv_at hl 4 rfl) ?_
                refine lv_bipush (v := nI 15) hx hb dX7_deliver_112 (by decide +kernel) ?_
                refine lv_iload hx hb dX7_deliver_114 (lv_at hl 0 rfl) ?_
                refine lv_iadd hx hb dX7_deliver_116 ?_
                refine r_te (y := nI (15 + ln)) (nI_add 15 ln) ?_
                refine r_callv (wr := [(md 2, .inl (g.2.1 0, 64, .inl (se))), (md 23, .inl (g.2.1 0, 16, .inl (wd))), (md 24, .inl (g.2.1 0, 16, .inl (mx))), (md 4, .inl (g.2.1 0, 2, .inl (szF epn))), (md 6, .inl (g.2.1 2, 2, .inl (smf))), (md 7, .inl (g.2.1 1, 2, .inr (.inl (gtf)))), (md 8, .inl (g.2.1 2, 128, .inl (snf))), (md 13, .inl (g.2.1 0, 96, .inl (ibf))), (md 10, .inl (g.2.1 0, 8, .inl (szF z)))]) [17, 0, 1, 2, 3, 4, 5, 6, 7, 18] [8, 9, 10, 11, 12, 13, 14, 15, 16] h0 hw rfl rfl (by decide) (by decide) (va_runV (As := [.int (nI 1), .int (nI k), .int (nI (15 + ln))]) (rest := []) ⟨hx, hb, hml, hown, hts⟩ (c_X7_tag l g md op on inn rf wf sf dg kf mf te wr 1 k (15 + ln) (by omega) (by omega) (by omega) _) (cwV 3 hts gX7_deliver_X7_tag rfl rfl rfl (by decide +kernel) ⟨Nat.le_of_ble_eq_true rfl, Nat.le_of_ble_eq_true rfl⟩) (preV_of [17, 0, 1, 2, 3, 4, 5, 6, 7, 18] [.int (nI 1), .int (nI k), .int (nI (15 + ln))] h0 hw rfl (by decide) 17 7 rfl rfl) rfl rfl hl.1 rfl (lv_room (Nat.le_of_ble_eq_true rfl)) dX7_deliver_117 ⟨Nat.le_of_ble_eq_true rfl, Nat.le_of_ble_eq_true rfl⟩) (fun u18 H locs hp19 hw => ?_)
                obtain ⟨r2_20, w2_21, s2_22, k2_23, m2_24⟩ := u18
                have hw : WD g A s [(md 2, .inl (g.2.1 0, 64, .inl (se))), (md 23, .inl (g.2.1 0, 16, .inl (wd))), (md 24, .inl (g.2.1 0, 16, .inl (mx))), (md 4, .inl (g.2.1 0, 2, .inl (szF epn))), (md 6, .inl (g.2.1 2, 2, .inl (smf))), (md 7, .inl (g.2.1 1, 2, .inr (.inl (gtf)))), (md 8, .inl (g.2.1 2, 128, .inl (snf))), (md 13, .inl (g.2.1 0, 96, .inl (ibf))), (md 10, .inl (g.2.1 0, 8, .inl (szF z))), (md 25, .inr (7, [.ref (md 0), .int (nI op), .ref (md 2), .ref (md 3), .ref (md 4), .ref (md 5), .ref (md 6), .ref (md 7), .ref (md 8), .ref (md 9), .ref (md 10), .ref (md 11), .int (nI on), .ref (md 13), .int (nI inn), .ref (md 15), .ref (md 16), .ref (md 17), .ref (md 18), .ref (md 19), .ref (md 20), .ref (md 21), .ref (md 22), .ref (md 23), .ref (md 24)])), (md 17, .inl (g.2.1 0, 400, .inl (r2_20))), (md 16, .inl (g.2.1 0, 64, .inl (w2_21))), (md 15, .inl (g.2.1 0, 8, .inl (s2_22))), (md 22, .inl (g.2.1 0, 64, .inl (kRW))), (md 18, .inl (g.2.1 0, 32, .inl (hmv (shf te (32 * 1)) (shf wr (128 * k)) (15 + ln)))), (md 19, .inl (g.2.1 0, 32, .inl (k2_23))), (md 21, .inl (g.2.1 0, 160, .inl (m2_24))), (md 3, .inl (g.2.1 0, 64, .inl (te))), (md 9, .inl (g.2.1 0, 1024, .inl (wr)))] [] H locs := hw
                have hw := hw.cong 14 rfl (f' := hmv tk (f k) (15 + ln)) (hmv_cong htk (fun j hj => hwr j (by omega)))
                have hw : WD g A s [(md 2, .inl (g.2.1 0, 64, .inl (se))), (md 23, .inl (g.2.1 0, 16, .inl (wd))), (md 24, .inl (g.2.1 0, 16, .inl (mx))), (md 4, .inl (g.2.1 0, 2, .inl (szF epn))), (md 6, .inl (g.2.1 2, 2, .inl (smf))), (md 7, .inl (g.2.1 1, 2, .inr (.inl (gtf)))), (md 8, .inl (g.2.1 2, 128, .inl (snf))), (md 13, .inl (g.2.1 0, 96, .inl (ibf))), (md 10, .inl (g.2.1 0, 8, .inl (szF z))), (md 25, .inr (7, [.ref (md 0), .int (nI op), .ref (md 2), .ref (md 3), .ref (md 4), .ref (md 5), .ref (md 6), .ref (md 7), .ref (md 8), .ref (md 9), .ref (md 10), .ref (md 11), .int (nI on), .ref (md 13), .int (nI inn), .ref (md 15), .ref (md 16), .ref (md 17), .ref (md 18), .ref (md 19), .ref (md 20), .ref (md 21), .ref (md 22), .ref (md 23), .ref (md 24)])), (md 17, .inl (g.2.1 0, 400, .inl (r2_20))), (md 16, .inl (g.2.1 0, 64, .inl (w2_21))), (md 15, .inl (g.2.1 0, 8, .inl (s2_22))), (md 22, .inl (g.2.1 0, 64, .inl (kRW))), (md 18, .inl (g.2.1 0, 32, .inl (hmv tk (f k) (15 + ln)))), (md 19, .inl (g.2.1 0, 32, .inl (k2_23))), (md 21, .inl (g.2.1 0, 160, .inl (m2_24))), (md 3, .inl (g.2.1 0, 64, .inl (te))), (md 9, .inl (g.2.1 0, 1024, .inl (wr)))] [] _ _ := hw
                refine lv_iconst (v := nI 0) hx hb dX7_deliver_120 (by decide +kernel) ?_
                refine lv_istore (lv' := [(6, .int (nI 0)), (5, .int (nI ln)), (4, .int (nI 1)), (3, .int (nI (128 * k))), (0, .ref (md 25)), (1, .int (nI k)), (2, .int (nI 0))]) hx hb dX7_deliver_121 hl (by decide) rfl (fun ls hl => ?_)
                have lp123 : ∀ (fu : Nat) (q : Nat), 16 - q < fu → (q ≤ 16) → (∀ j, j < q → f k (15 + ln + j) = hmv tk (f k) (15 + ln) j) → ∀ (H : Heap) (locs : List Loc) (ls : Array Slot), WD g A s [(md 2, .inl (g.2.1 0, 64, .inl (se))), (md 23, .inl (g.2.1 0, 16, .inl (wd))), (md 24, .inl (g.2.1 0, 16, .inl (mx))), (md 4, .inl (g.2.1 0, 2, .inl (szF epn))), (md 6, .inl (g.2.1 2, 2, .inl (smf))), (md 7, .inl (g.2.1 1, 2, .inr (.inl (gtf)))), (md 8, .inl (g.2.1 2, 128, .inl (snf))), (md 13, .inl (g.2.1 0, 96, .inl (ibf))), (md 10, .inl (g.2.1 0, 8, .inl (szF z))), (md 25, .inr (7, [.ref (md 0), .int (nI op), .ref (md 2), .ref (md 3), .ref (md 4), .ref (md 5), .ref (md 6), .ref (md 7), .ref (md 8), .ref (md 9), .ref (md 10), .ref (md 11), .int (nI on), .ref (md 13), .int (nI inn), .ref (md 15), .ref (md 16), .ref (md 17), .ref (md 18), .ref (md 19), .ref (md 20), .ref (md 21), .ref (md 22), .ref (md 23), .ref (md 24)])), (md 17, .inl (g.2.1 0, 400, .inl (r2_20))), (md 16, .inl (g.2.1 0, 64, .inl (w2_21))), (md 15, .inl (g.2.1 0, 8, .inl (s2_22))), (md 22, .inl (g.2.1 0, 64, .inl (kRW))), (md 18, .inl (g.2.1 0, 32, .inl (hmv tk (f k) (15 + ln)))), (md 19, .inl (g.2.1 0, 32, .inl (k2_23))), (md 21, .inl (g.2.1 0, 160, .inl (m2_24))), (md 3, .inl (g.2.1 0, 64, .inl (te))), (md 9, .inl (g.2.1 0, 1024, .inl (wr)))] [] H locs → lv_has ls 15 [(6, .int (nI q)), (0, .ref (md 25)), (1, .int (nI k)), (3, .int (nI (128 * k))), (4, .int (nI 1)), (5, .int (nI ln))] → W p l e { frames := 5, cells := 0, slots := 0, locals := 123 } s m ar below meth c H locs 0 0 Q (F0 m 123 ls []) := by
                  intro fu
                  induction fu with
                  | zero => intro q hmz; exact absurd hmz (Nat.not_lt_zero _)
                  | succ fu ih =>
                    intro q hms hq9 hv H locs ls hw hl
                    refine lv_iload hx hb dX7_deliver_123 (lv_at hl 0 rfl) ?_
                    refine lv_bipush (v := nI 16) hx hb dX7_deliver_125 (by decide +kernel) ?_
                    refine lv_icmp_ge (tgt := 163) hx hb dX7_deliver_127 (by decide) (fun c25 => ?_) (fun c25 => ?_)
                    · skip
                      have c25 : 16 ≤ q := (nI_leI (by omega) (by omega)).mp c25
                      have hq : q = 16 := by omega
                      have hwS26 := hw; have hlS27 := hl
                      subst q
                      have hw := hwS26; have hl := hlS27
                      exact absurd hv htag
                    · skip
                      have c25 : ¬ 16 ≤ q := fun q => c25 (((nI_leI (by omega) (by omega)).mpr q))
                      refine lv_aload_n hx hb dX7_deliver_130 rfl (lv_at hl 1 rfl) ?_
                      refine r_get (ci := 7) (v := .ref (md 9)) (C := RX7) (T := TX7) (N := 25) hx hb hts hinX7 hown h0 hw 9 rfl rfl 9 (by decide) k36 rfl dX7_deliver_131 ?_
                      refine lv_iload_n hx hb dX7_deliver_134 rfl (lv_at hl 3 rfl) ?_
                      refine lv_bipush (v := nI 15) hx hb dX7_deliver_135 (by decide +kernel) ?_
                      refine lv_iadd hx hb dX7_deliver_137 ?_
                      refine r_te (y := nI (128 * k + 15)) (nI_add (128 * k) 15) ?_
                      refine lv_iload hx hb dX7_deliver_138 (lv_at hl 5 rfl) ?_
                      refine lv_iadd hx hb dX7_deliver_140 ?_
                      refine r_te (y := nI (128 * k + 15 + ln)) (nI_add (128 * k + 15) ln) ?_
                      refine lv_iload hx hb dX7_deliver_141 (lv_at hl 0 rfl) ?_
                      refine lv_iadd hx hb dX7_deliver_143 ?_
                      refine r_te (y := nI (128 * k + 15 + ln + q)) (nI_add (128 * k + 15 + ln) q) ?_
                      refine r_iald hx hb h0 hw 18 rfl (i := 128 * k + 15 + ln + q) (by omega) (by omega) dX7_deliver_144 ?_
                      refine r_te (y := f k (15 + ln + q)) (by first | exact hwr (15 + ln + q) (by omega) | (have := hwr (15 + ln + q) (by omega); simpa [Nat.add_assoc] using this)) ?_
                      refine lv_aload_n hx hb dX7_deliver_145 rfl (lv_at hl 1 rfl) ?_
                      refine r_get (ci := 7) (v := .ref (md 18)) (C := RX7) (T := TX7) (N := 25) hx hb hts hinX7 hown h0 hw 9 rfl rfl 18 (by decide) k57 rfl dX7_deliver_146 ?_
                      refine lv_iload hx hb dX7_deliver_149 (lv_at hl 0 rfl) ?_
                      refine r_iald hx hb h0 hw 14 rfl (i := q) (by omega) (by omega) dX7_deliver_151 ?_
                      refine lv_icmp_eq (tgt := 157) hx hb dX7_deliver_152 (by decide) (fun c28 => ?_) (fun c28 => ?_)
                      · skip
                        have cE := c28
                        refine lv_iinc (v := nI (q + 1)) (lv' := [(6, .int (nI (q + 1))), (0, .ref (md 25)), (1, .int (nI k)), (3, .int (nI (128 * k))), (4, .int (nI 1)), (5, .int (nI ln))]) hx hb dX7_deliver_157 hl (k := 0) rfl (nI_add q 1) (by decide) rfl (fun ls hl => ?_)
                        refine lv_goto (tgt := 123) hx hb dX7_deliver_160 (by decide) ?_
                        exact ih (q + 1) (by omega) (by omega) (fun j hj => (Nat.lt_succ_iff_lt_or_eq.mp hj).elim (hv j) (fun q9 => by rw [q9]; exact cE)) _ _ _ hw (lv_sub hl [0, 1, 2, 3, 4, 5] rfl)
                      · skip
                        have cE := c28
                        refine lv_iconst (v := nI 4) hx hb dX7_deliver_155 (by decide +kernel) ?_
                        exact hret (hw.perm (X' := [(md 25, .inr (7, [.ref (md 0), .int (nI op), .ref (md 2), .ref (md 3), .ref (md 4), .ref (md 5), .ref (md 6), .ref (md 7), .ref (md 8), .ref (md 9), .ref (md 10), .ref (md 11), .int (nI on), .ref (md 13), .int (nI inn), .ref (md 15), .ref (md 16), .ref (md 17), .ref (md 18), .ref (md 19), .ref (md 20), .ref (md 21), .ref (md 22), .ref (md 23), .ref (md 24)])), (md 17, .inl (g.2.1 0, 400, .inl (r2_20))), (md 16, .inl (g.2.1 0, 64, .inl (w2_21))), (md 15, .inl (g.2.1 0, 8, .inl (s2_22))), (md 22, .inl (g.2.1 0, 64, .inl (kRW))), (md 18, .inl (g.2.1 0, 32, .inl (hmv tk (f k) (15 + ln)))), (md 19, .inl (g.2.1 0, 32, .inl (k2_23))), (md 21, .inl (g.2.1 0, 160, .inl (m2_24))), (md 3, .inl (g.2.1 0, 64, .inl (te))), (md 9, .inl (g.2.1 0, 1024, .inl (wr))), (md 2, .inl (g.2.1 0, 64, .inl (se))), (md 23, .inl (g.2.1 0, 16, .inl (wd))), (md 24, .inl (g.2.1 0, 16, .inl (mx))), (md 4, .inl (g.2.1 0, 2, .inl (szF epn))), (md 10, .inl (g.2.1 0, 8, .inl (szF z))), (md 6, .inl (g.2.1 2, 2, .inl (smf))), (md 7, .inl (g.2.1 1, 2, .inr (.inl (gtf)))), (md 8, .inl (g.2.1 2, 128, .inl (snf))), (md 13, .inl (g.2.1 0, 96, .inl (ibf)))]) [9, 10, 11, 12, 13, 14, 15, 16, 17, 18, 0, 1, 2, 3, 8, 4, 5, 6, 7] (by decide) rfl) (r2_20, w2_21, s2_22, hmv tk (f k) (15 + ln), k2_23, m2_24) (rfl) (rfl) (by omega) (by omega) dX7_deliver_156
                exact lp123 (16 - 0 + 1) 0 (by omega) (by omega) (fun j hj => absurd hj (Nat.not_lt_zero j)) _ _ _ hw (lv_sub hl [0, 4, 5, 3, 2, 1] rfl)
              · skip
                have c16 : ¬ (nAt (f k) 1 4) = ((nI (epn 1)).toInt64) := fun q => c16 ((lg_cmp_eq _ _).mpr q)
                exact absurd he3 c16
            · skip
              have c12 : ¬ (z k) = (15 + ln + 16) := fun q => c12 (((nI_eq (by omega) (by omega)).mpr q))
              exfalso; omega
      · skip
        rw [← nI_0] at c6
        have c6 : op = 0 := (nI_eq (by omega) (by omega)).mp c6
        exfalso; omega
    · skip
      rw [← nI_0] at c5
      have c5 : ¬ 0 = 0 := fun q => c5 (((nI_eq (by omega) (by omega)).mpr q))
      exfalso; omega

set_option maxHeartbeats 4000000 in
set_option maxRecDepth 100000 in
theorem c_X7_deliver_51 (l : Launch) (g : GE) (md : Nat → Nat) (op : Nat) (on : Nat) (inn : Nat) (rf : Nat → Int32) (wf : Nat → Int32) (sf : Nat → Int32) (dg : Nat → Int32) (kf : Nat → Int32) (mf : Nat → Int32) (te : Nat → Int32) (wr : Nat → Int32) (se : Nat → Int32) (wd : Nat → Int32) (mx : Nat → Int32) (epn : Nat → Nat) (z : Nat → Nat) (smf : Nat → Int32) (gtf : Nat → Int64) (snf : Nat → Int32) (ibf : Nat → Int32) (f : Nat → Nat → Int32) (k : Nat) (ek : Nat → Int32) (tk : Nat → Int32) (ln : Nat) (hop : ¬ op = 0) (hop2 : op < 2) (hk : k < 8) (hz1 : 31 ≤ z k) (hz2 : z k ≤ 127) (hwr : ∀ j, j < z k → wr (128 * k + j) = f k j) (hb8 : ∀ j, j < z k → f k j = f k j &&& nI 255) (hs0 : f k 0 = nI 1) (hln : (nAt (f k) 13 2).toInt32 = nI ln) (hl1 : z k = 31 + ln) (hl2 : ln ≤ 96) (he3 : nAt (f k) 1 4 = (nI (epn 1)).toInt64) (htk : EqB 32 (shf te (32 * 1)) tk) (hek : EqB 32 (shf se (32 * 1)) ek) (htag : tagOK (f k) (hmv tk (f k) (15 + ln)) (15 + ln)) (hsm : ¬ smf 1 = 0) (hlow : ¬ lowU (gtf 1) (nAt (f k) 5 8)) (hfar : ¬ lowU (gtf 1 - (nAt (f k) 5 8)) 64) (sz : Nat) : MI l yX7_deliver wsX7_deliver { frames := 5, cells := 0, slots := 0, locals := 123 } g [.ref (md 25), .int (nI k), .int (nI 0)] [(md 25, .inr (7, [.ref (md 0), .int (nI op), .ref (md 2), .ref (md 3), .ref (md 4), .ref (md 5), .ref (md 6), .ref (md 7), .ref (md 8), .ref (md 9), .ref (md 10), .ref (md 11), .int (nI on), .ref (md 13), .int (nI inn), .ref (md 15), .ref (md 16), .ref (md 17), .ref (md 18), .ref (md 19), .ref (md 20), .ref (md 21), .ref (md 22), .ref (md 23), .ref (md 24)])), (md 17, .inl (g.2.1 0, 400, .inl (rf))), (md 16, .inl (g.2.1 0, 64, .inl (wf))), (md 15, .inl (g.2.1 0, 8, .inl (sf))), (md 22, .inl (g.2.1 0, 64, .inl (kRW))), (md 18, .inl (g.2.1 0, 32, .inl (dg))), (md 19, .inl (g.2.1 0, 32, .inl (kf))), (md 21, .inl (g.2.1 0, 160, .inl (mf))), (md 3, .inl (g.2.1 0, 64, .inl (te))), (md 9, .inl (g.2.1 0, 1024, .inl (wr))), (md 2, .inl (g.2.1 0, 64, .inl (se))), (md 23, .inl (g.2.1 0, 16, .inl (wd))), (md 24, .inl (g.2.1 0, 16, .inl (mx))), (md 4, .inl (g.2.1 0, 2, .inl (szF epn))), (md 10, .inl (g.2.1 0, 8, .inl (szF z))), (md 6, .inl (g.2.1 2, 2, .inl (smf))), (md 7, .inl (g.2.1 1, 2, .inr (.inl (gtf)))), (md 8, .inl (g.2.1 2, 128, .inl (snf))), (md 13, .inl (g.2.1 0, 96, .inl (ibf)))] sz (fun (r : Int32) (u : (Nat → Int32) × (Nat → Int32) × (Nat → Int32) × (Nat → Int32) × (Nat → Int32) × (Nat → Int32)) => r = nI 5) (fun (u : (Nat → Int32) × (Nat → Int32) × (Nat → Int32) × (Nat → Int32) × (Nat → Int32) × (Nat → Int32)) => [(md 25, .inr (7, [.ref (md 0), .int (nI op), .ref (md 2), .ref (md 3), .ref (md 4), .ref (md 5), .ref (md 6), .ref (md 7), .ref (md 8), .ref (md 9), .ref (md 10), .ref (md 11), .int (nI on), .ref (md 13), .int (nI inn), .ref (md 15), .ref (md 16), .ref (md 17), .ref (md 18), .ref (md 19), .ref (md 20), .ref (md 21), .ref (md 22), .ref (md 23), .ref (md 24)])), (md 17, .inl (g.2.1 0, 400, .inl (u.1))), (md 16, .inl (g.2.1 0, 64, .inl (u.2.1))), (md 15, .inl (g.2.1 0, 8, .inl (u.2.2.1))), (md 22, .inl (g.2.1 0, 64, .inl (kRW))), (md 18, .inl (g.2.1 0, 32, .inl (u.2.2.2.1))), (md 19, .inl (g.2.1 0, 32, .inl (u.2.2.2.2.1))), (md 21, .inl (g.2.1 0, 160, .inl (u.2.2.2.2.2))), (md 3, .inl (g.2.1 0, 64, .inl (te))), (md 9, .inl (g.2.1 0, 1024, .inl (wr))), (md 2, .inl (g.2.1 0, 64, .inl (se))), (md 23, .inl (g.2.1 0, 16, .inl (wd))), (md 24, .inl (g.2.1 0, 16, .inl (mx))), (md 4, .inl (g.2.1 0, 2, .inl (szF epn))), (md 10, .inl (g.2.1 0, 8, .inl (szF z))), (md 6, .inl (g.2.1 2, 2, .inl (smf))), (md 7, .inl (g.2.1 1, 2, .inr (.inl (gtf)))), (md 8, .inl (g.2.1 2, 128, .inl (snf))), (md 13, .inl (g.2.1 0, 96, .inl (ibf)))]) 0 0 := by
  refine enterI (by decide) rfl (Nat.le_of_ble_eq_true rfl) ?_
  intro p e s m below meth c A ls ar Q hE h0 hret hw hl
  obtain ⟨hx, hb, hr, hml, hown, hts, hlocks, hname⟩ := hE
  have hown : s.vm.findClass RX7 = some m.cls := hown
  have hw : WD g A s [(md 25, .inr (7, [.ref (md 0), .int (nI op), .ref (md 2), .ref (md 3), .ref (md 4), .ref (md 5), .ref (md 6), .ref (md 7), .ref (md 8), .ref (md 9), .ref (md 10), .ref (md 11), .int (nI on), .ref (md 13), .int (nI inn), .ref (md 15), .ref (md 16), .ref (md 17), .ref (md 18), .ref (md 19), .ref (md 20), .ref (md 21), .ref (md 22), .ref (md 23), .ref (md 24)])), (md 17, .inl (g.2.1 0, 400, .inl (rf))), (md 16, .inl (g.2.1 0, 64, .inl (wf))), (md 15, .inl (g.2.1 0, 8, .inl (sf))), (md 22, .inl (g.2.1 0, 64, .inl (kRW))), (md 18, .inl (g.2.1 0, 32, .inl (dg))), (md 19, .inl (g.2.1 0, 32, .inl (kf))), (md 21, .inl (g.2.1 0, 160, .inl (mf))), (md 3, .inl (g.2.1 0, 64, .inl (te))), (md 9, .inl (g.2.1 0, 1024, .inl (wr))), (md 2, .inl (g.2.1 0, 64, .inl (se))), (md 23, .inl (g.2.1 0, 16, .inl (wd))), (md 24, .inl (g.2.1 0, 16, .inl (mx))), (md 4, .inl (g.2.1 0, 2, .inl (szF epn))), (md 10, .inl (g.2.1 0, 8, .inl (szF z))), (md 6, .inl (g.2.1 2, 2, .inl (smf))), (md 7, .inl (g.2.1 1, 2, .inr (.inl (gtf)))), (md 8, .inl (g.2.1 2, 128, .inl (snf))), (md 13, .inl (g.2.1 0, 96, .inl (ibf)))] [] s.heap [] := hw
  have hinX7 : ∀ w ∈ u_ws RX7 TX7 25, w ∈ wsX7_deliver := by decide +kernel
  have k19 := hts (.fieldLink RX7 19 "RecordWireModel" "epochs" "[I") (by decide +kernel)
  have k26 := hts (.fieldLink RX7 26 "RecordWireModel" "some" "[Z") (by decide +kernel)
  have k30 := hts (.fieldLink RX7 30 "RecordWireModel" "greatest" "[J") (by decide +kernel)
  have k33 := hts (.fieldLink RX7 33 "RecordWireModel" "seen" "[Z") (by decide +kernel)
  have k36 := hts (.fieldLink RX7 36 "RecordWireModel" "wire" "[I") (by decide +kernel)
  have k39 := hts (.fieldLink RX7 39 "RecordWireModel" "sizes" "[I") (by decide +kernel)
  have k45 := hts (.fieldLink RX7 45 "RecordWireModel" "inbox" "[I") (by decide +kernel)
  have k57 := hts (.fieldLink RX7 57 "RecordWireModel" "digest" "[I") (by decide +kernel)
  have k145 := hts (.fieldLink RX7 145 "RecordWireModel" "isOpen" "Z") (by decide +kernel)
  have k153 := hts (.fieldLink RX7 153 "RecordWireModel" "inSize" "I") (by decide +kernel)
  have k227 := hts (.constantLong RX7 227 (64)) (by decide +kernel)
  have hl : lv_has ls 15 [(0, .ref (md 25)), (1, .int (nI k)), (2, .int (nI 0))] := hl
  refine lv_aload_n hx hb dX7_deliver_0 rfl (lv_at hl 0 rfl) ?_
  refine lv_iload_n hx hb dX7_deliver_1 rfl (lv_at hl 1 rfl) ?_
  refine r_calli (wr := [(md 17, .inl (g.2.1 0, 400, .inl (rf))), (md 16, .inl (g.2.1 0, 64, .inl (wf))), (md 15, .inl (g.2.1 0, 8, .inl (sf))), (md 22, .inl (g.2.1 0, 64, .inl (kRW))), (md 18, .inl (g.2.1 0, 32, .inl (dg))), (md 19, .inl (g.2.1 0, 32, .inl (kf))), (md 21, .inl (g.2.1 0, 160, .inl (mf))), (md 3, .inl (g.2.1 0, 64, .inl (te))), (md 9, .inl (g.2.1 0, 1024, .inl (wr))), (md 2, .inl (g.2.1 0, 64, .inl (se))), (md 23, .inl (g.2.1 0, 16, .inl (wd))), (md 24, .inl (g.2.1 0, 16, .inl (mx))), (md 4, .inl (g.2.1 0, 2, .inl (szF epn))), (md 6, .inl (g.2.1 2, 2, .inl (smf))), (md 7, .inl (g.2.1 1, 2, .inr (.inl (gtf)))), (md 8, .inl (g.2.1 2, 128, .inl (snf))), (md 13, .inl (g.2.1 0, 96, .inl (ibf)))]) [0, 14] [1, 2, 3, 4, 5, 6, 7, 8, 9, 10, 11, 12, 13, 15, 16, 17, 18] h0 hw rfl rfl (by decide) (by decide) (va_runV (As := [.int (nI k)]) (rest := []) ⟨hx, hb, hml, hown, hts⟩ (c_X7_isSlot l g md op on inn z k (by omega) (by omega) _) (cwV 1 hts gX7_deliver_X7_isSlot rfl rfl rfl (by decide +kernel) ⟨Nat.le_of_ble_eq_true rfl, Nat.le_of_ble_eq_true rfl⟩) (preV_of [0, 14] [.int (nI k)] h0 hw rfl (by decide) 0 7 rfl rfl) rfl rfl hl.1 rfl (lv_room (Nat.le_of_ble_eq_true rfl)) dX7_deliver_2 ⟨Nat.le_of_ble_eq_true rfl, Nat.le_of_ble_eq_true rfl⟩) (fun r1 u2 H locs hp3 hw => ?_)
  have hw : WD g A s [(md 17, .inl (g.2.1 0, 400, .inl (rf))), (md 16, .inl (g.2.1 0, 64, .inl (wf))), (md 15, .inl (g.2.1 0, 8, .inl (sf))), (md 22, .inl (g.2.1 0, 64, .inl (kRW))), (md 18, .inl (g.2.1 0, 32, .inl (dg))), (md 19, .inl (g.2.1 0, 32, .inl (kf))), (md 21, .inl (g.2.1 0, 160, .inl (mf))), (md 3, .inl (g.2.1 0, 64, .inl (te))), (md 9, .inl (g.2.1 0, 1024, .inl (wr))), (md 2, .inl (g.2.1 0, 64, .inl (se))), (md 23, .inl (g.2.1 0, 16, .inl (wd))), (md 24, .inl (g.2.1 0, 16, .inl (mx))), (md 4, .inl (g.2.1 0, 2, .inl (szF epn))), (md 6, .inl (g.2.1 2, 2, .inl (smf))), (md 7, .inl (g.2.1 1, 2, .inr (.inl (gtf)))), (md 8, .inl (g.2.1 2, 128, .inl (snf))), (md 13, .inl (g.2.1 0, 96, .inl (ibf))), (md 25, .inr (7, [.ref (md 0), .int (nI op), .ref (md 2), .ref (md 3), .ref (md 4), .ref (md 5), .ref (md 6), .ref (md 7), .ref (md 8), .ref (md 9), .ref (md 10), .ref (md 11), .int (nI on), .ref (md 13), .int (nI inn), .ref (md 15), .ref (md 16), .ref (md 17), .ref (md 18), .ref (md 19), .ref (md 20), .ref (md 21), .ref (md 22), .ref (md 23), .ref (md 24)])), (md 10, .inl (g.2.1 0, 8, .inl (szF z)))] [] H locs := hw
  subst hp3
  refine lv_if_eq (tgt := 24) hx hb dX7_deliver_5 (by decide) (fun c4 => ?_) (fun c4 => ?_)
  · skip
    have c4 : ¬ (¬ z k = 0) := bI_f c4
    exact absurd (by omega) c4
  · skip
    have c4 : ¬ z k = 0 := bI_t c4
    refine lv_iload_n hx hb dX7_deliver_8 rfl (lv_at hl 2 rfl) ?_
    refine lv_if_eq (tgt := 17) hx hb dX7_deliver_9 (by decide) (fun c5 => ?_) (fun c5 => ?_)
    · skip
      rw [← nI_0] at c5
      have c5 : 0 = 0 := (nI_eq (by omega) (by omega)).mp c5
      refine lv_aload_n hx hb dX7_deliver_17 rfl (lv_at hl 0 rfl) ?_
      refine r_get (ci := 7) (v := .int (nI op)) (C := RX7) (T := TX7) (N := 25) hx hb hts hinX7 hown h0 hw 17 rfl rfl 1 (by decide) k145 rfl dX7_deliver_18 ?_
      refine lv_if_ne (tgt := 26) hx hb dX7_deliver_21 (by decide) (fun c6 => ?_) (fun c6 => ?_)
      · skip
        rw [← nI_0] at c6
        have c6 : ¬ op = 0 := fun q => c6 (((nI_eq (by omega) (by omega)).mpr q))
        refine lv_sipush (v := nI 128) hx hb dX7_deliver_26 (by decide +kernel) ?_
        refine lv_iload_n hx hb dX7_deliver_29 rfl (lv_at hl 1 rfl) ?_
        refine lv_imul hx hb dX7_deliver_30 ?_
        refine r_te (y := nI (128 * k)) (pk_mul 128 k) ?_
        refine lv_istore_n (lv' := [(3, .int (nI (128 * k))), (0, .ref (md 25)), (1, .int (nI k)), (2, .int (nI 0))]) hx hb dX7_deliver_31 rfl hl (by decide) rfl (fun ls hl => ?_)
        refine lv_iconst (v := nI 1) hx hb dX7_deliver_32 (by decide +kernel) ?_
        refine lv_iload_n hx hb dX7_deliver_33 rfl (lv_at hl 3 rfl) ?_
        refine lv_isub hx hb dX7_deliver_34 ?_
        refine r_te (y := nI 1) (pk_sub (by omega)) ?_
        refine lv_istore (lv' := [(4, .int (nI 1)), (3, .int (nI (128 * k))), (0, .ref (md 25)), (1, .int (nI k)), (2, .int (nI 0))]) hx hb dX7_deliver_35 hl (by decide) rfl (fun ls hl => ?_)
        refine lv_aload_n hx hb dX7_deliver_37 rfl (lv_at hl 2 rfl) ?_
        refine lv_iload_n hx hb dX7_deliver_38 rfl (lv_at hl 1 rfl) ?_
        refine lv_bipush (v := nI 13) hx hb dX7_deliver_39 (by decide +kernel) ?_
        refine lv_iadd hx hb dX7_deliver_41 ?_
        refine r_te (y := nI (128 * k + 13)) (nI_add (128 * k) 13) ?_
        refine lv_iconst (v := nI 2) hx hb dX7_deliver_42 (by decide +kernel) ?_
        refine r_calll (wr := [(md 17, .inl (g.2.1 0, 400, .inl (rf))), (md 16, .inl (g.2.1 0, 64, .inl (wf))), (md 15, .inl (g.2.1 0, 8, .inl (sf))), (md 22, .inl (g.2.1 0, 64, .inl (kRW))), (md 18, .inl (g.2.1 0, 32, .inl (dg))), (md 19, .inl (g.2.1 0, 32, .inl (kf))), (md 21, .inl (g.2.1 0, 160, .inl (mf))), (md 3, .inl (g.2.1 0, 64, .inl (te))), (md 2, .inl (g.2.1 0, 64, .inl (se))), (md 23, .inl (g.2.1 0, 16, .inl (wd))), (md 24, .inl (g.2.1 0, 16, .inl (mx))), (md 4, .inl (g.2.1 0, 2, .inl (szF epn))), (md 6, .inl (g.2.1 2, 2, .inl (smf))), (md 7, .inl (g.2.1 1, 2, .inr (.inl (gtf)))), (md 8, .inl (g.2.1 2, 128, .inl (snf))), (md 13, .inl (g.2.1 0, 96, .inl (ibf))), (md 10, .inl (g.2.1 0, 8, .inl (szF z)))]) [17, 8] [0, 1, 2, 3, 4, 5, 6, 7, 9, 10, 11, 12, 13, 14, 15, 16, 18] h0 hw rfl rfl (by decide) (by decide) (va_runV (As := [.int (nI (128 * k + 13)), .int (nI 2)]) (rest := []) ⟨hx, hb, hml, hown, hts⟩ (c_X7_numberAt l g md op on inn wr (128 * k + 13) 2 (by omega) (fun j hj => by rw [Nat.add_assoc, hwr (13 + j) (by omega)]; exact hb8 (13 + j) (by omega)) _) (cwV 2 hts gX7_deliver_X7_numberAt rfl rfl rfl (by decide +kernel) ⟨Nat.le_of_ble_eq_true rfl, Nat.le_of_ble_eq_true rfl⟩) (preV_of [17, 8] [.int (nI (128 * k + 13)), .int (nI 2)] h0 hw rfl (by decide) 17 7 rfl rfl) rfl rfl hl.1 rfl (lv_room (Nat.le_of_ble_eq_true rfl)) dX7_deliver_43 ⟨Nat.le_of_ble_eq_true rfl, Nat.le_of_ble_eq_true rfl⟩) (fun r7 u8 H locs hp9 hw => ?_)
        have hw : WD g A s [(md 17, .inl (g.2.1 0, 400, .inl (rf))), (md 16, .inl (g.2.1 0, 64, .inl (wf))), (md 15, .inl (g.2.1 0, 8, .inl (sf))), (md 22, .inl (g.2.1 0, 64, .inl (kRW))), (md 18, .inl (g.2.1 0, 32, .inl (dg))), (md 19, .inl (g.2.1 0, 32, .inl (kf))), (md 21, .inl (g.2.1 0, 160, .inl (mf))), (md 3, .inl (g.2.1 0, 64, .inl (te))), (md 2, .inl (g.2.1 0, 64, .inl (se))), (md 23, .inl (g.2.1 0, 16, .inl (wd))), (md 24, .inl (g.2.1 0, 16, .inl (mx))), (md 4, .inl (g.2.1 0, 2, .inl (szF epn))), (md 6, .inl (g.2.1 2, 2, .inl (smf))), (md 7, .inl (g.2.1 1, 2, .inr (.inl (gtf)))), (md 8, .inl (g.2.1 2, 128, .inl (snf))), (md 13, .inl (g.2.1 0, 96, .inl (ibf))), (md 10, .inl (g.2.1 0, 8, .inl (szF z))), (md 25, .inr (7, [.ref (md 0), .int (nI op), .ref (md 2), .ref (md 3), .ref (md 4), .ref (md 5), .ref (md 6), .ref (md 7), .ref (md 8), .ref (md 9), .ref (md 10), .ref (md 11), .int (nI on), .ref (md 13), .int (nI inn), .ref (md 15), .ref (md 16), .ref (md 17), .ref (md 18), .ref (md 19), .ref (md 20), .ref (md 21), .ref (md 22), .ref (md 23), .ref (md 24)])), (md 9, .inl (g.2.1 0, 1024, .inl (wr)))] [] H locs := hw
        subst hp9
        refine r_tel (y := nAt (f k) 13 2) (nAt_eq 2 (fun j hj => by rw [Nat.add_assoc]; exact hwr (13 + j) (by omega))) ?_
        refine lv_l2i (v := (nAt (f k) 13 2).toInt32) hx hb dX7_deliver_46 rfl ?_
        refine r_te (y := nI ln) hln ?_
        refine lv_istore (lv' := [(5, .int (nI ln)), (4, .int (nI 1)), (3, .int (nI (128 * k))), (0, .ref (md 25)), (1, .int (nI k)), (2, .int (nI 0))]) hx hb dX7_deliver_47 hl (by decide) rfl (fun ls hl => ?_)
        refine lv_aload_n hx hb dX7_deliver_49 rfl (lv_at hl 3 rfl) ?_
        refine r_get (ci := 7) (v := .ref (md 9)) (C := RX7) (T := TX7) (N := 25) hx hb hts hinX7 hown h0 hw 17 rfl rfl 9 (by decide) k36 rfl dX7_deliver_50 ?_
        refine lv_iload_n hx hb dX7_deliver_53 rfl (lv_at hl 2 rfl) ?_
        refine r_iald hx hb h0 hw 18 rfl (i := 128 * k) (by omega) (by omega) dX7_deliver_54 ?_
        refine r_te (y := f k (0)) (by first | exact hwr (0) (by omega) | (have := hwr (0) (by omega); simpa [Nat.add_assoc] using this)) ?_
        refine lv_iload hx hb dX7_deliver_55 (lv_at hl 1 rfl) ?_
        refine lv_icmp_ne (tgt := 84) hx hb dX7_deliver_57 (by decide) (fun c10 => ?_) (fun c10 => ?_)
        · skip
          exact absurd hs0 c10
        · skip
          refine lv_iload hx hb dX7_deliver_60 (lv_at hl 0 rfl) ?_
          refine lv_bipush (v := nI 96) hx hb dX7_deliver_62 (by decide +kernel) ?_
          refine lv_icmp_gt (tgt := 84) hx hb dX7_deliver_64 (by decide) (fun c11 => ?_) (fun c11 => ?_)
          · skip
            have c11 : 96 < ln := (nI_ltI (by omega) (by omega)).mp c11
            exfalso; omega
          · skip
            have c11 : ¬ 96 < ln := fun q => c11 (((nI_ltI (by omega) (by omega)).mpr q))
            refine lv_aload_n hx hb dX7_deliver_67 rfl (lv_at hl 3 rfl) ?_
            refine r_get (ci := 7) (v := .ref (md 10)) (C := RX7) (T := TX7) (N := 25) hx hb hts hinX7 hown h0 hw 17 rfl rfl 10 (by decide) k39 rfl dX7_deliver_68 ?_
            refine lv_iload_n hx hb dX7_deliver_71 rfl (lv_at hl 4 rfl) ?_
            refine r_iald hx hb h0 hw 16 rfl (i := k) (by omega) (by omega) dX7_deliver_72 ?_
            refine r_te (y := nI (z k)) rfl ?_
            refine lv_bipush (v := nI 15) hx hb dX7_deliver_73 (by decide +kernel) ?_
            refine lv_iload hx hb dX7_deliver_75 (lv_at hl 0 rfl) ?_
            refine lv_iadd hx hb dX7_deliver_77 ?_
            refine r_te (y := nI (15 + ln)) (nI_add 15 ln) ?_
            refine lv_bipush (v := nI 16) hx hb dX7_deliver_78 (by decide +kernel) ?_
            refine lv_iadd hx hb dX7_deliver_80 ?_
            refine r_te (y := nI (15 + ln + 16)) (nI_add (15 + ln) 16) ?_
            refine lv_icmp_eq (tgt := 86) hx hb dX7_deliver_81 (by decide) (fun c12 => ?_) (fun c12 => ?_)
            · skip
              have c12 : (z k) = (15 + ln + 16) := (nI_eq (by omega) (by omega)).mp c12
              refine lv_aload_n hx hb dX7_deliver_86 rfl (lv_at hl 3 rfl) ?_
              refine lv_iload_n hx hb dX7_deliver_87 rfl (lv_at hl 2 rfl) ?_
              refine lv_iconst (v := nI 1) hx hb dX7_deliver_88 (by decide +kernel) ?_
              refine lv_iadd hx hb dX7_deliver_89 ?_
              refine r_te (y := nI (128 * k + 1)) (nI_add (128 * k) 1) ?_
              refine lv_iconst (v := nI 4) hx hb dX7_deliver_90 (by decide +kernel) ?_
              refine r_calll (wr := [(md 17, .inl (g.2.1 0, 400, .inl (rf))), (md 16, .inl (g.2.1 0, 64, .inl (wf))), (md 15, .inl (g.2.1 0, 8, .inl (sf))), (md 22, .inl (g.2.1 0, 64, .inl (kRW))), (md 18, .inl (g.2.1 0, 32, .inl (dg))), (md 19, .inl (g.2.1 0, 32, .inl (kf))), (md 21, .inl (g.2.1 0, 160, .inl (mf))), (md 3, .inl (g.2.1 0, 64, .inl (te))), (md 2, .inl (g.2.1 0, 64, .inl (se))), (md 23, .inl (g.2.1 0, 16, .inl (wd))), (md 24, .inl (g.2.1 0, 16, .inl (mx))), (md 4, .inl (g.2.1 0, 2, .inl (szF epn))), (md 6, .inl (g.2.1 2, 2, .inl (smf))), (md 7, .inl (g.2.1 1, 2, .inr (.inl (gtf)))), (md 8, .inl (g.2.1 2, 128, .inl (snf))), (md 13, .inl (g.2.1 0, 96, .inl (ibf))), (md 10, .inl (g.2.1 0, 8, .inl (szF z)))]) [17, 18] [0, 1, 2, 3, 4, 5, 6, 7, 8, 9, 10, 11, 12, 13, 14, 15, 16] h0 hw rfl rfl (by decide) (by decide) (va_runV (As := [.int (nI (128 * k + 1)), .int (nI 4)]) (rest := []) ⟨hx, hb, hml, hown, hts⟩ (c_X7_numberAt l g md op on inn wr (128 * k + 1) 4 (by omega) (fun j hj => by rw [Nat.add_assoc, hwr (1 + j) (by omega)]; exact hb8 (1 + j) (by omega)) _) (cwV 2 hts gX7_deliver_X7_numberAt rfl rfl rfl (by decide +kernel) ⟨Nat.le_of_ble_eq_true rfl, Nat.le_of_ble_eq_true rfl⟩) (preV_of [17, 18] [.int (nI (128 * k + 1)), .int (nI 4)] h0 hw rfl (by decide) 17 7 rfl rfl) rfl rfl hl.1 rfl (lv_room (Nat.le_of_ble_eq_true rfl)) dX7_deliver_91 ⟨Nat.le_of_ble_eq_true rfl, Nat.le_of_ble_eq_true rfl⟩) (fun r13 u14 H locs hp15 hw => ?_)
              have hw : WD g A s [(md 17, .inl (g.2.1 0, 400, .inl (rf))), (md 16, .inl (g.2.1 0, 64, .inl (wf))), (md 15, .inl (g.2.1 0, 8, .inl (sf))), (md 22, .inl (g.2.1 0, 64, .inl (kRW))), (md 18, .inl (g.2.1 0, 32, .inl (dg))), (md 19, .inl (g.2.1 0, 32, .inl (kf))), (md 21, .inl (g.2.1 0, 160, .inl (mf))), (md 3, .inl (g.2.1 0, 64, .inl (te))), (md 2, .inl (g.2.1 0, 64, .inl (se))), (md 23, .inl (g.2.1 0, 16, .inl (wd))), (md 24, .inl (g.2.1 0, 16, .inl (mx))), (md 4, .inl (g.2.1 0, 2, .inl (szF epn))), (md 6, .inl (g.2.1 2, 2, .inl (smf))), (md 7, .inl (g.2.1 1, 2, .inr (.inl (gtf)))), (md 8, .inl (g.2.1 2, 128, .inl (snf))), (md 13, .inl (g.2.1 0, 96, .inl (ibf))), (md 10, .inl (g.2.1 0, 8, .inl (szF z))), (md 25, .inr (7, [.ref (md 0), .int (nI op), .ref (md 2), .ref (md 3), .ref (md 4), .ref (md 5), .ref (md 6), .ref (md 7), .ref (md 8), .ref (md 9), .ref (md 10), .ref (md 11), .int (nI on), .ref (md 13), .int (nI inn), .ref (md 15), .ref (md 16), .ref (md 17), .ref (md 18), .ref (md 19), .ref (md 20), .ref (md 21), .ref (md 22), .ref (md 23), .ref (md 24)])), (md 9, .inl (g.2.1 0, 1024, .inl (wr)))] [] H locs := hw
              subst hp15
              refine r_tel (y := nAt (f k) 1 4) (nAt_eq 4 (fun j hj => by rw [Nat.add_assoc]; exact hwr (1 + j) (by omega))) ?_
              refine lv_aload_n hx hb dX7_deliver_94 rfl (lv_at hl 3 rfl) ?_
              refine r_get (ci := 7) (v := .ref (md 4)) (C := RX7) (T := TX7) (N := 25) hx hb hts hinX7 hown h0 hw 17 rfl rfl 4 (by decide) k19 rfl dX7_deliver_95 ?_
              refine lv_iload hx hb dX7_deliver_98 (lv_at hl 1 rfl) ?_
              refine r_iald hx hb h0 hw 11 rfl (i := 1) (by omega) (by omega) dX7_deliver_100 ?_
              refine r_te (y := nI (epn 1)) rfl ?_
              refine lv_i2l (v := (nI (epn 1)).toInt64) hx hb dX7_deliver_101 rfl ?_
              refine W.lcmp hx hb dX7_deliver_102 ?_
              refine lv_if_eq (tgt := 108) hx hb dX7_deliver_103 (by decide) (fun c16 => ?_) (fun c16 => ?_)
              · skip
                have c16 : (nAt (f k) 1 4) = ((nI (epn 1)).toInt64) := (lg_cmp_eq _ _).mp c16
                refine lv_aload_n hx hb dX7_deliver_108 rfl (lv_at hl 3 rfl) ?_
                refine lv_iload hx hb dX7_deliver_109 (lv_at hl 1 rfl) ?_
                refine lv_iload_n hx hb dX7_deliver_111 rfl (lv_at hl 4 rfl) ?_
                refine lv_bipush (v := nI 15) hx hb dX7_deliver_112 (by decide +kernel) ?_
                refine lv_iload hx hb dX7_deliver_114 (lv_at hl 0 rfl) ?_
                refine lv_iadd hx hb dX7_deliver_116 ?_
                refine r_te (y := nI (15 + ln)) (nI_add 15 ln) ?_
                refine r_callv (wr := [(md 2, .inl (g.2.1 0, 64, .inl (se))), (md 23, .inl (g.2.1 0, 16, .inl (wd))), (md 24, .inl (g.2.1 0, 16, .inl (mx))), (md 4, .inl (g.2.1 0, 2, .inl (szF epn))), (md 6, .inl (g.2.1 2, 2, .inl (smf))), (md 7, .inl (g.2.1 1, 2, .inr (.inl (gtf)))), (md 8, .inl (g.2.1 2, 128, .inl (snf))), (md 13, .inl (g.2.1 0, 96, .inl (ibf))), (md 10, .inl (g.2.1 0, 8, .inl (szF z)))]) [17, 0, 1, 2, 3, 4, 5, 6, 7, 18] [8, 9, 10, 11, 12, 13, 14, 15, 16] h0 hw rfl rfl (by decide) (by decide) (va_runV (As := [.int (nI 1), .int (nI k), .int (nI (15 + ln))]) (rest := []) ⟨hx, hb, hml, hown, hts⟩ (c_X7_tag l g md op on inn rf wf sf dg kf mf te wr 1 k (15 + ln) (by omega) (by omega) (by omega) _) (cwV 3 hts gX7_deliver_X7_tag rfl rfl rfl (by decide +kernel) ⟨Nat.le_of_ble_eq_true rfl, Nat.le_of_ble_eq_true rfl⟩) (preV_of [17, 0, 1, 2, 3, 4, 5, 6, 7, 18] [.int (nI 1), .int (nI k), .int (nI (15 + ln))] h0 hw rfl (by decide) 17 7 rfl rfl) rfl rfl hl.1 rfl (lv_room (Nat.le_of_ble_eq_true rfl)) dX7_deliver_117 ⟨Nat.le_of_ble_eq_true rfl, Nat.le_of_ble_eq_true rfl⟩) (fun u18 H locs hp19 hw => ?_)
                obtain ⟨r2_20, w2_21, s2_22, k2_23, m2_24⟩ := u18
                have hw : WD g A s [(md 2, .inl (g.2.1 0, 64, .inl (se))), (md 23, .inl (g.2.1 0, 16, .inl (wd))), (md 24, .inl (g.2.1 0, 16, .inl (mx))), (md 4, .inl (g.2.1 0, 2, .inl (szF epn))), (md 6, .inl (g.2.1 2, 2, .inl (smf))), (md 7, .inl (g.2.1 1, 2, .inr (.inl (gtf)))), (md 8, .inl (g.2.1 2, 128, .inl (snf))), (md 13, .inl (g.2.1 0, 96, .inl (ibf))), (md 10, .inl (g.2.1 0, 8, .inl (szF z))), (md 25, .inr (7, [.ref (md 0), .int (nI op), .ref (md 2), .ref (md 3), .ref (md 4), .ref (md 5), .ref (md 6), .ref (md 7), .ref (md 8), .ref (md 9), .ref (md 10), .ref (md 11), .int (nI on), .ref (md 13), .int (nI inn), .ref (md 15), .ref (md 16), .ref (md 17), .ref (md 18), .ref (md 19), .ref (md 20), .ref (md 21), .ref (md 22), .ref (md 23), .ref (md 24)])), (md 17, .inl (g.2.1 0, 400, .inl (r2_20))), (md 16, .inl (g.2.1 0, 64, .inl (w2_21))), (md 15, .inl (g.2.1 0, 8, .inl (s2_22))), (md 22, .inl (g.2.1 0, 64, .inl (kRW))), (md 18, .inl (g.2.1 0, 32, .inl (hmv (shf te (32 * 1)) (shf wr (128 * k)) (15 + ln)))), (md 19, .inl (g.2.1 0, 32, .inl (k2_23))), (md 21, .inl (g.2.1 0, 160, .inl (m2_24))), (md 3, .inl (g.2.1 0, 64, .inl (te))), (md 9, .inl (g.2.1 0, 1024, .inl (wr)))] [] H locs := hw
                have hw := hw.cong 14 rfl (f' := hmv tk (f k) (15 + ln)) (hmv_cong htk (fun j hj => hwr j (by omega)))
                have hw : WD g A s [(md 2, .inl (g.2.1 0, 64, .inl (se))), (md 23, .inl (g.2.1 0, 16, .inl (wd))), (md 24, .inl (g.2.1 0, 16, .inl (mx))), (md 4, .inl (g.2.1 0, 2, .inl (szF epn))), (md 6, .inl (g.2.1 2, 2, .inl (smf))), (md 7, .inl (g.2.1 1, 2, .inr (.inl (gtf)))), (md 8, .inl (g.2.1 2, 128, .inl (snf))), (md 13, .inl (g.2.1 0, 96, .inl (ibf))), (md 10, .inl (g.2.1 0, 8, .inl (szF z))), (md 25, .inr (7, [.ref (md 0), .int (nI op), .ref (md 2), .ref (md 3), .ref (md 4), .ref (md 5), .ref (md 6), .ref (md 7), .ref (md 8), .ref (md 9), .ref (md 10), .ref (md 11), .int (nI on), .ref (md 13), .int (nI inn), .ref (md 15), .ref (md 16), .ref (md 17), .ref (md 18), .ref (md 19), .ref (md 20), .ref (md 21), .ref (md 22), .ref (md 23), .ref (md 24)])), (md 17, .inl (g.2.1 0, 400, .inl (r2_20))), (md 16, .inl (g.2.1 0, 64, .inl (w2_21))), (md 15, .inl (g.2.1 0, 8, .inl (s2_22))), (md 22, .inl (g.2.1 0, 64, .inl (kRW))), (md 18, .inl (g.2.1 0, 32, .inl (hmv tk (f k) (15 + ln)))), (md 19, .inl (g.2.1 0, 32, .inl (k2_23))), (md 21, .inl (g.2.1 0, 160, .inl (m2_24))), (md 3, .inl (g.2.1 0, 64, .inl (te))), (md 9, .inl (g.2.1 0, 1024, .inl (wr)))] [] _ _ := hw
                refine lv_iconst (v := nI 0) hx hb dX7_deliver_120 (by decide +kernel) ?_
                refine lv_istore (lv' := [(6, .int (nI 0)), (5, .int (nI ln)), (4, .int (nI 1)), (3, .int (nI (128 * k))), (0, .ref (md 25)), (1, .int (nI k)), (2, .int (nI 0))]) hx hb dX7_deliver_121 hl (by decide) rfl (fun ls hl => ?_)
                have lp123 : ∀ (fu : Nat) (q : Nat), 16 - q < fu → (q ≤ 16) → (∀ j, j < q → f k (15 + ln + j) = hmv tk (f k) (15 + ln) j) → ∀ (H : Heap) (locs : List Loc) (ls : Array Slot), WD g A s [(md 2, .inl (g.2.1 0, 64, .inl (se))), (md 23, .inl (g.2.1 0, 16, .inl (wd))), (md 24, .inl (g.2.1 0, 16, .inl (mx))), (md 4, .inl (g.2.1 0, 2, .inl (szF epn))), (md 6, .inl (g.2.1 2, 2, .inl (smf))), (md 7, .inl (g.2.1 1, 2, .inr (.inl (gtf)))), (md 8, .inl (g.2.1 2, 128, .inl (snf))), (md 13, .inl (g.2.1 0, 96, .inl (ibf))), (md 10, .inl (g.2.1 0, 8, .inl (szF z))), (md 25, .inr (7, [.ref (md 0), .int (nI op), .ref (md 2), .ref (md 3), .ref (md 4), .ref (md 5), .ref (md 6), .ref (md 7), .ref (md 8), .ref (md 9), .ref (md 10), .ref (md 11), .int (nI on), .ref (md 13), .int (nI inn), .ref (md 15), .ref (md 16), .ref (md 17), .ref (md 18), .ref (md 19), .ref (md 20), .ref (md 21), .ref (md 22), .ref (md 23), .ref (md 24)])), (md 17, .inl (g.2.1 0, 400, .inl (r2_20))), (md 16, .inl (g.2.1 0, 64, .inl (w2_21))), (md 15, .inl (g.2.1 0, 8, .inl (s2_22))), (md 22, .inl (g.2.1 0, 64, .inl (kRW))), (md 18, .inl (g.2.1 0, 32, .inl (hmv tk (f k) (15 + ln)))), (md 19, .inl (g.2.1 0, 32, .inl (k2_23))), (md 21, .inl (g.2.1 0, 160, .inl (m2_24))), (md 3, .inl (g.2.1 0, 64, .inl (te))), (md 9, .inl (g.2.1 0, 1024, .inl (wr)))] [] H locs → lv_has ls 15 [(6, .int (nI q)), (0, .ref (md 25)), (1, .int (nI k)), (3, .int (nI (128 * k))), (4, .int (nI 1)), (5, .int (nI ln))] → W p l e { frames := 5, cells := 0, slots := 0, locals := 123 } s m ar below meth c H locs 0 0 Q (F0 m 123 ls []) := by
                  intro fu
                  induction fu with
                  | zero => intro q hmz; exact absurd hmz (Nat.not_lt_zero _)
                  | succ fu ih =>
                    intro q hms hq9 hv H locs ls hw hl
                    refine lv_iload hx hb dX7_deliver_123 (lv_at hl 0 rfl) ?_
                    refine lv_bipush (v := nI 16) hx hb dX7_deliver_125 (by decide +kernel) ?_
                    refine lv_icmp_ge (tgt := 163) hx hb dX7_deliver_127 (by decide) (fun c25 => ?_) (fun c25 => ?_)
                    · skip
                      have c25 : 16 ≤ q := (nI_leI (by omega) (by omega)).mp c25
                      have hq : q = 16 := by omega
                      have hwS26 := hw; have hlS27 := hl
                      subst q
                      have hw := hwS26; have hl := hlS27
                      refine lv_aload_n hx hb dX7_deliver_163 rfl (lv_at hl 1 rfl) ?_
                      refine lv_iload_n hx hb dX7_deliver_164 rfl (lv_at hl 3 rfl) ?_
                      refine lv_iconst (v := nI 5) hx hb dX7_deliver_165 (by decide +kernel) ?_
                      refine lv_iadd hx hb dX7_deliver_166 ?_
                      refine r_te (y := nI (128 * k + 5)) (nI_add (128 * k) 5) ?_
                      refine lv_bipush (v := nI 8) hx hb dX7_deliver_167 (by decide +kernel) ?_
                      refine r_calll (wr := [(md 2, .inl (g.2.1 0, 64, .inl (se))), (md 23, .inl (g.2.1 0, 16, .inl (wd))), (md 24, .inl (g.2.1 0, 16, .inl (mx))), (md 4, .inl (g.2.1 0, 2, .inl (szF epn))), (md 6, .inl (g.2.1 2, 2, .inl (smf))), (md 7, .inl (g.2.1 1, 2, .inr (.inl (gtf)))), (md 8, .inl (g.2.1 2, 128, .inl (snf))), (md 13, .inl (g.2.1 0, 96, .inl (ibf))), (md 10, .inl (g.2.1 0, 8, .inl (szF z))), (md 17, .inl (g.2.1 0, 400, .inl (r2_20))), (md 16, .inl (g.2.1 0, 64, .inl (w2_21))), (md 15, .inl (g.2.1 0, 8, .inl (s2_22))), (md 22, .inl (g.2.1 0, 64, .inl (kRW))), (md 18, .inl (g.2.1 0, 32, .inl (hmv tk (f k) (15 + ln)))), (md 19, .inl (g.2.1 0, 32, .inl (k2_23))), (md 21, .inl (g.2.1 0, 160, .inl (m2_24))), (md 3, .inl (g.2.1 0, 64, .inl (te)))]) [9, 18] [0, 1, 2, 3, 4, 5, 6, 7, 8, 10, 11, 12, 13, 14, 15, 16, 17] h0 hw rfl rfl (by decide) (by decide) (va_runV (As := [.int (nI (128 * k + 5)), .int (nI 8)]) (rest := []) ⟨hx, hb, hml, hown, hts⟩ (c_X7_numberAt l g md op on inn wr (128 * k + 5) 8 (by omega) (fun j hj => by rw [Nat.add_assoc, hwr (5 + j) (by omega)]; exact hb8 (5 + j) (by omega)) _) (cwV 2 hts gX7_deliver_X7_numberAt rfl rfl rfl (by decide +kernel) ⟨Nat.le_of_ble_eq_true rfl, Nat.le_of_ble_eq_true rfl⟩) (preV_of [9, 18] [.int (nI (128 * k + 5)), .int (nI 8)] h0 hw rfl (by decide) 9 7 rfl rfl) rfl rfl hl.1 rfl (lv_room (Nat.le_of_ble_eq_true rfl)) dX7_deliver_169 ⟨Nat.le_of_ble_eq_true rfl, Nat.le_of_ble_eq_true rfl⟩) (fun r28 u29 H locs hp30 hw => ?_)
                      have hw : WD g A s [(md 2, .inl (g.2.1 0, 64, .inl (se))), (md 23, .inl (g.2.1 0, 16, .inl (wd))), (md 24, .inl (g.2.1 0, 16, .inl (mx))), (md 4, .inl (g.2.1 0, 2, .inl (szF epn))), (md 6, .inl (g.2.1 2, 2, .inl (smf))), (md 7, .inl (g.2.1 1, 2, .inr (.inl (gtf)))), (md 8, .inl (g.2.1 2, 128, .inl (snf))), (md 13, .inl (g.2.1 0, 96, .inl (ibf))), (md 10, .inl (g.2.1 0, 8, .inl (szF z))), (md 17, .inl (g.2.1 0, 400, .inl (r2_20))), (md 16, .inl (g.2.1 0, 64, .inl (w2_21))), (md 15, .inl (g.2.1 0, 8, .inl (s2_22))), (md 22, .inl (g.2.1 0, 64, .inl (kRW))), (md 18, .inl (g.2.1 0, 32, .inl (hmv tk (f k) (15 + ln)))), (md 19, .inl (g.2.1 0, 32, .inl (k2_23))), (md 21, .inl (g.2.1 0, 160, .inl (m2_24))), (md 3, .inl (g.2.1 0, 64, .inl (te))), (md 25, .inr (7, [.ref (md 0), .int (nI op), .ref (md 2), .ref (md 3), .ref (md 4), .ref (md 5), .ref (md 6), .ref (md 7), .ref (md 8), .ref (md 9), .ref (md 10), .ref (md 11), .int (nI on), .ref (md 13), .int (nI inn), .ref (md 15), .ref (md 16), .ref (md 17), .ref (md 18), .ref (md 19), .ref (md 20), .ref (md 21), .ref (md 22), .ref (md 23), .ref (md 24)])), (md 9, .inl (g.2.1 0, 1024, .inl (wr)))] [] H locs := hw
                      subst hp30
                      refine r_tel (y := nAt (f k) 5 8) (nAt_eq 8 (fun j hj => by rw [Nat.add_assoc]; exact hwr (5 + j) (by omega))) ?_
                      refine lv_lstore (lv' := [(6, .long (nAt (f k) 5 8)), (0, .ref (md 25)), (1, .int (nI k)), (3, .int (nI (128 * k))), (4, .int (nI 1)), (5, .int (nI ln))]) hx hb dX7_deliver_172 hl (by decide) rfl (fun ls hl => ?_)
                      refine lv_aload_n hx hb dX7_deliver_174 rfl (lv_at hl 1 rfl) ?_
                      refine r_get (ci := 7) (v := .ref (md 6)) (C := RX7) (T := TX7) (N := 25) hx hb hts hinX7 hown h0 hw 17 rfl rfl 6 (by decide) k26 rfl dX7_deliver_175 ?_
                      refine lv_iload hx hb dX7_deliver_178 (lv_at hl 4 rfl) ?_
                      refine r_zald hx hb h0 hw 4 rfl (i := 1) (by omega) (by omega) dX7_deliver_180 ?_
                      refine lv_if_eq (tgt := 203) hx hb dX7_deliver_181 (by decide) (fun c31 => ?_) (fun c31 => ?_)
                      · skip
                        exact absurd c31 hsm
                      · skip
                        refine lv_aload_n hx hb dX7_deliver_184 rfl (lv_at hl 1 rfl) ?_
                        refine r_get (ci := 7) (v := .ref (md 7)) (C := RX7) (T := TX7) (N := 25) hx hb hts hinX7 hown h0 hw 17 rfl rfl 7 (by decide) k30 rfl dX7_deliver_185 ?_
                        refine lv_iload hx hb dX7_deliver_188 (lv_at hl 4 rfl) ?_
                        refine r_lald hx hb h0 hw 5 rfl (i := 1) (by omega) (by omega) dX7_deliver_190 ?_
                        refine lv_lload hx hb dX7_deliver_191 (lv_at hl 0 rfl) ?_
                        refine r_calli (wr := [(md 2, .inl (g.2.1 0, 64, .inl (se))), (md 23, .inl (g.2.1 0, 16, .inl (wd))), (md 24, .inl (g.2.1 0, 16, .inl (mx))), (md 4, .inl (g.2.1 0, 2, .inl (szF epn))), (md 6, .inl (g.2.1 2, 2, .inl (smf))), (md 7, .inl (g.2.1 1, 2, .inr (.inl (gtf)))), (md 8, .inl (g.2.1 2, 128, .inl (snf))), (md 13, .inl (g.2.1 0, 96, .inl (ibf))), (md 10, .inl (g.2.1 0, 8, .inl (szF z))), (md 17, .inl (g.2.1 0, 400, .inl (r2_20))), (md 16, .inl (g.2.1 0, 64, .inl (w2_21))), (md 15, .inl (g.2.1 0, 8, .inl (s2_22))), (md 22, .inl (g.2.1 0, 64, .inl (kRW))), (md 18, .inl (g.2.1 0, 32, .inl (hmv tk (f k) (15 + ln)))), (md 19, .inl (g.2.1 0, 32, .inl (k2_23))), (md 21, .inl (g.2.1 0, 160, .inl (m2_24))), (md 3, .inl (g.2.1 0, 64, .inl (te))), (md 25, .inr (7, [.ref (md 0), .int (nI op), .ref (md 2), .ref (md 3), .ref (md 4), .ref (md 5), .ref (md 6), .ref (md 7), .ref (md 8), .ref (md 9), .ref (md 10), .ref (md 11), .int (nI on), .ref (md 13), .int (nI inn), .ref (md 15), .ref (md 16), .ref (md 17), .ref (md 18), .ref (md 19), .ref (md 20), .ref (md 21), .ref (md 22), .ref (md 23), .ref (md 24)])), (md 9, .inl (g.2.1 0, 1024, .inl (wr)))]) [] [0, 1, 2, 3, 4, 5, 6, 7, 8, 9, 10, 11, 12, 13, 14, 15, 16, 17, 18] h0 hw rfl rfl (by decide) (by decide) (va_runS (As := [.long (gtf 1), .long (nAt (f k) 5 8)]) (rest := []) ⟨hx, hb, hml, hown, hts⟩ (c_X7_isBelow l g (gtf 1) (nAt (f k) 5 8)  _) (va_cwS 2 hts gX7_deliver_X7_isBelow rfl rfl rfl (by decide +kernel) ⟨Nat.le_of_ble_eq_true rfl, Nat.le_of_ble_eq_true rfl⟩) (preS_of [] [.long (gtf 1), .long (nAt (f k) 5 8)] h0 hw rfl (by decide)) rfl rfl hl.1 rfl (lv_room (Nat.le_of_ble_eq_true rfl)) dX7_deliver_193 ⟨Nat.le_of_ble_eq_true rfl, Nat.le_of_ble_eq_true rfl⟩) (fun r32 u33 H locs hp34 hw => ?_)
                        have hw : WD g A s [(md 2, .inl (g.2.1 0, 64, .inl (se))), (md 23, .inl (g.2.1 0, 16, .inl (wd))), (md 24, .inl (g.2.1 0, 16, .inl (mx))), (md 4, .inl (g.2.1 0, 2, .inl (szF epn))), (md 6, .inl (g.2.1 2, 2, .inl (smf))), (md 7, .inl (g.2.1 1, 2, .inr (.inl (gtf)))), (md 8, .inl (g.2.1 2, 128, .inl (snf))), (md 13, .inl (g.2.1 0, 96, .inl (ibf))), (md 10, .inl (g.2.1 0, 8, .inl (szF z))), (md 17, .inl (g.2.1 0, 400, .inl (r2_20))), (md 16, .inl (g.2.1 0, 64, .inl (w2_21))), (md 15, .inl (g.2.1 0, 8, .inl (s2_22))), (md 22, .inl (g.2.1 0, 64, .inl (kRW))), (md 18, .inl (g.2.1 0, 32, .inl (hmv tk (f k) (15 + ln)))), (md 19, .inl (g.2.1 0, 32, .inl (k2_23))), (md 21, .inl (g.2.1 0, 160, .inl (m2_24))), (md 3, .inl (g.2.1 0, 64, .inl (te))), (md 25, .inr (7, [.ref (md 0), .int (nI op), .ref (md 2), .ref (md 3), .ref (md 4), .ref (md 5), .ref (md 6), .ref (md 7), .ref (md 8), .ref (md 9), .ref (md 10), .ref (md 11), .int (nI on), .ref (md 13), .int (nI inn), .ref (md 15), .ref (md 16), .ref (md 17), .ref (md 18), .ref (md 19), .ref (md 20), .ref (md 21), .ref (md 22), .ref (md 23), .ref (md 24)])), (md 9, .inl (g.2.1 0, 1024, .inl (wr)))] [] H locs := hw
                        subst hp34
                        refine lv_if_ne (tgt := 203) hx hb dX7_deliver_196 (by decide) (fun c35 => ?_) (fun c35 => ?_)
                        · skip
                          have c35 : lowU (gtf 1) (nAt (f k) 5 8) := bI_t c35
                          exact absurd c35 hlow
                        · skip
                          have c35 : ¬ (lowU (gtf 1) (nAt (f k) 5 8)) := bI_f c35
                          refine lv_iconst (v := nI 1) hx hb dX7_deliver_199 (by decide +kernel) ?_
                          refine lv_goto (tgt := 204) hx hb dX7_deliver_200 (by decide) ?_
                          refine lv_istore (lv' := [(8, .int (nI 1)), (6, .long (nAt (f k) 5 8)), (0, .ref (md 25)), (1, .int (nI k)), (3, .int (nI (128 * k))), (4, .int (nI 1)), (5, .int (nI ln))]) hx hb dX7_deliver_204 hl (by decide) rfl (fun ls hl => ?_)
                          refine lv_aload_n hx hb dX7_deliver_206 rfl (lv_at hl 2 rfl) ?_
                          refine r_get (ci := 7) (v := .ref (md 7)) (C := RX7) (T := TX7) (N := 25) hx hb hts hinX7 hown h0 hw 17 rfl rfl 7 (by decide) k30 rfl dX7_deliver_207 ?_
                          refine lv_iload hx hb dX7_deliver_210 (lv_at hl 5 rfl) ?_
                          refine r_lald hx hb h0 hw 5 rfl (i := 1) (by omega) (by omega) dX7_deliver_212 ?_
                          refine lv_lload hx hb dX7_deliver_213 (lv_at hl 1 rfl) ?_
                          refine lv_lsub hx hb dX7_deliver_215 ?_
                          refine lv_lstore (lv' := [(9, .long ((gtf 1) - (nAt (f k) 5 8))), (8, .int (nI 1)), (6, .long (nAt (f k) 5 8)), (0, .ref (md 25)), (1, .int (nI k)), (3, .int (nI (128 * k))), (4, .int (nI 1)), (5, .int (nI ln))]) hx hb dX7_deliver_216 hl (by decide) rfl (fun ls hl => ?_)
                          refine lv_iload hx hb dX7_deliver_218 (lv_at hl 1 rfl) ?_
                          refine lv_if_eq (tgt := 236) hx hb dX7_deliver_220 (by decide) (fun c36 => ?_) (fun c36 => ?_)
                          · skip
                            rw [← nI_0] at c36
                            have c36 : 1 = 0 := (nI_eq (by omega) (by omega)).mp c36
                            exfalso; omega
                          · skip
                            rw [← nI_0] at c36
                            have c36 : ¬ 1 = 0 := fun q => c36 (((nI_eq (by omega) (by omega)).mpr q))
                            refine lv_lload hx hb dX7_deliver_223 (lv_at hl 0 rfl) ?_
                            refine lv_ldc2 hx hb hown k227 dX7_deliver_225 ?_
                            refine r_calli (wr := [(md 2, .inl (g.2.1 0, 64, .inl (se))), (md 23, .inl (g.2.1 0, 16, .inl (wd))), (md 24, .inl (g.2.1 0, 16, .inl (mx))), (md 4, .inl (g.2.1 0, 2, .inl (szF epn))), (md 6, .inl (g.2.1 2, 2, .inl (smf))), (md 7, .inl (g.2.1 1, 2, .inr (.inl (gtf)))), (md 8, .inl (g.2.1 2, 128, .inl (snf))), (md 13, .inl (g.2.1 0, 96, .inl (ibf))), (md 10, .inl (g.2.1 0, 8, .inl (szF z))), (md 17, .inl (g.2.1 0, 400, .inl (r2_20))), (md 16, .inl (g.2.1 0, 64, .inl (w2_21))), (md 15, .inl (g.2.1 0, 8, .inl (s2_22))), (md 22, .inl (g.2.1 0, 64, .inl (kRW))), (md 18, .inl (g.2.1 0, 32, .inl (hmv tk (f k) (15 + ln)))), (md 19, .inl (g.2.1 0, 32, .inl (k2_23))), (md 21, .inl (g.2.1 0, 160, .inl (m2_24))), (md 3, .inl (g.2.1 0, 64, .inl (te))), (md 25, .inr (7, [.ref (md 0), .int (nI op), .ref (md 2), .ref (md 3), .ref (md 4), .ref (md 5), .ref (md 6), .ref (md 7), .ref (md 8), .ref (md 9), .ref (md 10), .ref (md 11), .int (nI on), .ref (md 13), .int (nI inn), .ref (md 15), .ref (md 16), .ref (md 17), .ref (md 18), .ref (md 19), .ref (md 20), .ref (md 21), .ref (md 22), .ref (md 23), .ref (md 24)])), (md 9, .inl (g.2.1 0, 1024, .inl (wr)))]) [] [0, 1, 2, 3, 4, 5, 6, 7, 8, 9, 10, 11, 12, 13, 14, 15, 16, 17, 18] h0 hw rfl rfl (by decide) (by decide) (va_runS (As := [.long ((gtf 1) - (nAt (f k) 5 8)), .long (64)]) (rest := []) ⟨hx, hb, hml, hown, hts⟩ (c_X7_isBelow l g ((gtf 1) - (nAt (f k) 5 8)) 64  _) (va_cwS 2 hts gX7_deliver_X7_isBelow rfl rfl rfl (by decide +kernel) ⟨Nat.le_of_ble_eq_true rfl, Nat.le_of_ble_eq_true rfl⟩) (preS_of [] [.long ((gtf 1) - (nAt (f k) 5 8)), .long (64)] h0 hw rfl (by decide)) rfl rfl hl.1 rfl (lv_room (Nat.le_of_ble_eq_true rfl)) dX7_deliver_228 ⟨Nat.le_of_ble_eq_true rfl, Nat.le_of_ble_eq_true rfl⟩) (fun r37 u38 H locs hp39 hw => ?_)
                            have hw : WD g A s [(md 2, .inl (g.2.1 0, 64, .inl (se))), (md 23, .inl (g.2.1 0, 16, .inl (wd))), (md 24, .inl (g.2.1 0, 16, .inl (mx))), (md 4, .inl (g.2.1 0, 2, .inl (szF epn))), (md 6, .inl (g.2.1 2, 2, .inl (smf))), (md 7, .inl (g.2.1 1, 2, .inr (.inl (gtf)))), (md 8, .inl (g.2.1 2, 128, .inl (snf))), (md 13, .inl (g.2.1 0, 96, .inl (ibf))), (md 10, .inl (g.2.1 0, 8, .inl (szF z))), (md 17, .inl (g.2.1 0, 400, .inl (r2_20))), (md 16, .inl (g.2.1 0, 64, .inl (w2_21))), (md 15, .inl (g.2.1 0, 8, .inl (s2_22))), (md 22, .inl (g.2.1 0, 64, .inl (kRW))), (md 18, .inl (g.2.1 0, 32, .inl (hmv tk (f k) (15 + ln)))), (md 19, .inl (g.2.1 0, 32, .inl (k2_23))), (md 21, .inl (g.2.1 0, 160, .inl (m2_24))), (md 3, .inl (g.2.1 0, 64, .inl (te))), (md 25, .inr (7, [.ref (md 0), .int (nI op), .ref (md 2), .ref (md 3), .ref (md 4), .ref (md 5), .ref (md 6), .ref (md 7), .ref (md 8), .ref (md 9), .ref (md 10), .ref (md 11), .int (nI on), .ref (md 13), .int (nI inn), .ref (md 15), .ref (md 16), .ref (md 17), .ref (md 18), .ref (md 19), .ref (md 20), .ref (md 21), .ref (md 22), .ref (md 23), .ref (md 24)])), (md 9, .inl (g.2.1 0, 1024, .inl (wr)))] [] H locs := hw
                            subst hp39
                            refine lv_if_ne (tgt := 236) hx hb dX7_deliver_231 (by decide) (fun c40 => ?_) (fun c40 => ?_)
                            · skip
                              have c40 : lowU ((gtf 1) - (nAt (f k) 5 8)) 64 := bI_t c40
                              exact absurd c40 hfar
                            · skip
                              have c40 : ¬ (lowU ((gtf 1) - (nAt (f k) 5 8)) 64) := bI_f c40
                              refine lv_iconst (v := nI 5) hx hb dX7_deliver_234 (by decide +kernel) ?_
                              exact hret (hw.perm (X' := [(md 25, .inr (7, [.ref (md 0), .int (nI op), .ref (md 2), .ref (md 3), .ref (md 4), .ref (md 5), .ref (md 6), .ref (md 7), .ref (md 8), .ref (md 9), .ref (md 10), .ref (md 11), .int (nI on), .ref (md 13), .int (nI inn), .ref (md 15), .ref (md 16), .ref (md 17), .ref (md 18), .ref (md 19), .ref (md 20), .ref (md 21), .ref (md 22), .ref (md 23), .ref (md 24)])), (md 17, .inl (g.2.1 0, 400, .inl (r2_20))), (md 16, .inl (g.2.1 0, 64, .inl (w2_21))), (md 15, .inl (g.2.1 0, 8, .inl (s2_22))), (md 22, .inl (g.2.1 0, 64, .inl (kRW))), (md 18, .inl (g.2.1 0, 32, .inl (hmv tk (f k) (15 + ln)))), (md 19, .inl (g.2.1 0, 32, .inl (k2_23))), (md 21, .inl (g.2.1 0, 160, .inl (m2_24))), (md 3, .inl (g.2.1 0, 64, .inl (te))), (md 9, .inl (g.2.1 0, 1024, .inl (wr))), (md 2, .inl (g.2.1 0, 64, .inl (se))), (md 23, .inl (g.2.1 0, 16, .inl (wd))), (md 24, .inl (g.2.1 0, 16, .inl (mx))), (md 4, .inl (g.2.1 0, 2, .inl (szF epn))), (md 10, .inl (g.2.1 0, 8, .inl (szF z))), (md 6, .inl (g.2.1 2, 2, .inl (smf))), (md 7, .inl (g.2.1 1, 2, .inr (.inl (gtf)))), (md 8, .inl (g.2.1 2, 128, .inl (snf))), (md 13, .inl (g.2.1 0, 96, .inl (ibf)))]) [17, 9, 10, 11, 12, 13, 14, 15, 16, 18, 0, 1, 2, 3, 8, 4, 5, 6, 7] (by decide) rfl) (r2_20, w2_21, s2_22, hmv tk (f k) (15 + ln), k2_23, m2_24) (rfl) (rfl) (by omega) (by omega) dX7_deliver_235
                    · skip
                      have c25 : ¬ 16 ≤ q := fun q => c25 (((nI_leI (by omega) (by omega)).mpr q))
                      refine lv_aload_n hx hb dX7_deliver_130 rfl (lv_at hl 1 rfl) ?_
                      refine r_get (ci := 7) (v := .ref (md 9)) (C := RX7) (T := TX7) (N := 25) hx hb hts hinX7 hown h0 hw 9 rfl rfl 9 (by decide) k36 rfl dX7_deliver_131 ?_
                      refine lv_iload_n hx hb dX7_deliver_134 rfl (lv_at hl 3 rfl) ?_
                      refine lv_bipush (v := nI 15) hx hb dX7_deliver_135 (by decide +kernel) ?_
                      refine lv_iadd hx hb dX7_deliver_137 ?_
                      refine r_te (y := nI (128 * k + 15)) (nI_add (128 * k) 15) ?_
                      refine lv_iload hx hb dX7_deliver_138 (lv_at hl 5 rfl) ?_
                      refine lv_iadd hx hb dX7_deliver_140 ?_
                      refine r_te (y := nI (128 * k + 15 + ln)) (nI_add (128 * k + 15) ln) ?_
                      refine lv_iload hx hb dX7_deliver_141 (lv_at hl 0 rfl) ?_
                      refine lv_iadd hx hb dX7_deliver_143 ?_
                      refine r_te (y := nI (128 * k + 15 + ln + q)) (nI_add (128 * k + 15 + ln) q) ?_
                      refine r_iald hx hb h0 hw 18 rfl (i := 128 * k + 15 + ln + q) (by omega) (by omega) dX7_deliver_144 ?_
                      refine r_te (y := f k (15 + ln + q)) (by first | exact hwr (15 + ln + q) (by omega) | (have := hwr (15 + ln + q) (by omega); simpa [Nat.add_assoc] using this)) ?_
                      refine lv_aload_n hx hb dX7_deliver_145 rfl (lv_at hl 1 rfl) ?_
                      refine r_get (ci := 7) (v := .ref (md 18)) (C := RX7) (T := TX7) (N := 25) hx hb hts hinX7 hown h0 hw 9 rfl rfl 18 (by decide) k57 rfl dX7_deliver_146 ?_
                      refine lv_iload hx hb dX7_deliver_149 (lv_at hl 0 rfl) ?_
                      refine r_iald hx hb h0 hw 14 rfl (i := q) (by omega) (by omega) dX7_deliver_151 ?_
                      refine lv_icmp_eq (tgt := 157) hx hb dX7_deliver_152 (by decide) (fun c41 => ?_) (fun c41 => ?_)
                      · skip
                        have cE := c41
                        refine lv_iinc (v := nI (q + 1)) (lv' := [(6, .int (nI (q + 1))), (0, .ref (md 25)), (1, .int (nI k)), (3, .int (nI (128 * k))), (4, .int (nI 1)), (5, .int (nI ln))]) hx hb dX7_deliver_157 hl (k := 0) rfl (nI_add q 1) (by decide) rfl (fun ls hl => ?_)
                        refine lv_goto (tgt := 123) hx hb dX7_deliver_160 (by decide) ?_
                        exact ih (q + 1) (by omega) (by omega) (fun j hj => (Nat.lt_succ_iff_lt_or_eq.mp hj).elim (hv j) (fun q9 => by rw [q9]; exact cE)) _ _ _ hw (lv_sub hl [0, 1, 2, 3, 4, 5] rfl)
                      · skip
                        exact absurd (htag q (by omega)) c41
                exact lp123 (16 - 0 + 1) 0 (by omega) (by omega) (fun j hj => absurd hj (Nat.not_lt_zero j)) _ _ _ hw (lv_sub hl [0, 4, 5, 3, 2, 1] rfl)
              · skip
                have c16 : ¬ (nAt (f k) 1 4) = ((nI (epn 1)).toInt64) := fun q => c16 ((lg_cmp_eq _ _).mpr q)
                exact absurd he3 c16
            · skip
              have c12 : ¬ (z k) = (15 + ln + 16) := fun q => c12 (((nI_eq (by omega) (by omega)).mpr q))
              exfalso; omega
      · skip
        rw [← nI_0] at c6
        have c6 : op = 0 := (nI_eq (by omega) (by omega)).mp c6
        exfalso; omega
    · skip
      rw [← nI_0] at c5
      have c5 : ¬ 0 = 0 := fun q => c5 (((nI_eq (by omega) (by omega)).mpr q))
      exfalso; omega

set_option maxHeartbeats 4000000 in
set_option maxRecDepth 100000 in
theorem c_X7_deliver_61 (l : Launch) (g : GE) (md : Nat → Nat) (op : Nat) (on : Nat) (inn : Nat) (rf : Nat → Int32) (wf : Nat → Int32) (sf : Nat → Int32) (dg : Nat → Int32) (kf : Nat → Int32) (mf : Nat → Int32) (te : Nat → Int32) (wr : Nat → Int32) (se : Nat → Int32) (wd : Nat → Int32) (mx : Nat → Int32) (epn : Nat → Nat) (z : Nat → Nat) (smf : Nat → Int32) (gtf : Nat → Int64) (snf : Nat → Int32) (ibf : Nat → Int32) (f : Nat → Nat → Int32) (k : Nat) (ek : Nat → Int32) (tk : Nat → Int32) (ln : Nat) (qq : Nat) (hop : ¬ op = 0) (hop2 : op < 2) (hk : k < 8) (hz1 : 31 ≤ z k) (hz2 : z k ≤ 127) (hwr : ∀ j, j < z k → wr (128 * k + j) = f k j) (hb8 : ∀ j, j < z k → f k j = f k j &&& nI 255) (hs0 : f k 0 = nI 1) (hln : (nAt (f k) 13 2).toInt32 = nI ln) (hl1 : z k = 31 + ln) (hl2 : ln ≤ 96) (he3 : nAt (f k) 1 4 = (nI (epn 1)).toInt64) (htk : EqB 32 (shf te (32 * 1)) tk) (hek : EqB 32 (shf se (32 * 1)) ek) (htag : tagOK (f k) (hmv tk (f k) (15 + ln)) (15 + ln)) (hsm : ¬ smf 1 = 0) (hlow : ¬ lowU (gtf 1) (nAt (f k) 5 8)) (hfar : lowU (gtf 1 - (nAt (f k) 5 8)) 64) (hqq : (gtf 1 - (nAt (f k) 5 8)).toInt32 = nI qq) (hq64 : qq < 64) (hse : ¬ snf (64 + qq) = 0) (sz : Nat) : MI l yX7_deliver wsX7_deliver { frames := 5, cells := 0, slots := 0, locals := 123 } g [.ref (md 25), .int (nI k), .int (nI 0)] [(md 25, .inr (7, [.ref (md 0), .int (nI op), .ref (md 2), .ref (md 3), .ref (md 4), .ref (md 5), .ref (md 6), .ref (md 7), .ref (md 8), .ref (md 9), .ref (md 10), .ref (md 11), .int (nI on), .ref (md 13), .int (nI inn), .ref (md 15), .ref (md 16), .ref (md 17), .ref (md 18), .ref (md 19), .ref (md 20), .ref (md 21), .ref (md 22), .ref (md 23), .ref (md 24)])), (md 17, .inl (g.2.1 0, 400, .inl (rf))), (md 16, .inl (g.2.1 0, 64, .inl (wf))), (md 15, .inl (g.2.1 0, 8, .inl (sf))), (md 22, .inl (g.2.1 0, 64, .inl (kRW))), (md 18, .inl (g.2.1 0, 32, .inl (dg))), (md 19, .inl (g.2.1 0, 32, .inl (kf))), (md 21, .inl (g.2.1 0, 160, .inl (mf))), (md 3, .inl (g.2.1 0, 64, .inl (te))), (md 9, .inl (g.2.1 0, 1024, .inl (wr))), (md 2, .inl (g.2.1 0, 64, .inl (se))), (md 23, .inl (g.2.1 0, 16, .inl (wd))), (md 24, .inl (g.2.1 0, 16, .inl (mx))), (md 4, .inl (g.2.1 0, 2, .inl (szF epn))), (md 10, .inl (g.2.1 0, 8, .inl (szF z))), (md 6, .inl (g.2.1 2, 2, .inl (smf))), (md 7, .inl (g.2.1 1, 2, .inr (.inl (gtf)))), (md 8, .inl (g.2.1 2, 128, .inl (snf))), (md 13, .inl (g.2.1 0, 96, .inl (ibf)))] sz (fun (r : Int32) (u : (Nat → Int32) × (Nat → Int32) × (Nat → Int32) × (Nat → Int32) × (Nat → Int32) × (Nat → Int32)) => r = nI 6) (fun (u : (Nat → Int32) × (Nat → Int32) × (Nat → Int32) × (Nat → Int32) × (Nat → Int32) × (Nat → Int32)) => [(md 25, .inr (7, [.ref (md 0), .int (nI op), .ref (md 2), .ref (md 3), .ref (md 4), .ref (md 5), .ref (md 6), .ref (md 7), .ref (md 8), .ref (md 9), .ref (md 10), .ref (md 11), .int (nI on), .ref (md 13), .int (nI inn), .ref (md 15), .ref (md 16), .ref (md 17), .ref (md 18), .ref (md 19), .ref (md 20), .ref (md 21), .ref (md 22), .ref (md 23), .ref (md 24)])), (md 17, .inl (g.2.1 0, 400, .inl (u.1))), (md 16, .inl (g.2.1 0, 64, .inl (u.2.1))), (md 15, .inl (g.2.1 0, 8, .inl (u.2.2.1))), (md 22, .inl (g.2.1 0, 64, .inl (kRW))), (md 18, .inl (g.2.1 0, 32, .inl (u.2.2.2.1))), (md 19, .inl (g.2.1 0, 32, .inl (u.2.2.2.2.1))), (md 21, .inl (g.2.1 0, 160, .inl (u.2.2.2.2.2))), (md 3, .inl (g.2.1 0, 64, .inl (te))), (md 9, .inl (g.2.1 0, 1024, .inl (wr))), (md 2, .inl (g.2.1 0, 64, .inl (se))), (md 23, .inl (g.2.1 0, 16, .inl (wd))), (md 24, .inl (g.2.1 0, 16, .inl (mx))), (md 4, .inl (g.2.1 0, 2, .inl (szF epn))), (md 10, .inl (g.2.1 0, 8, .inl (szF z))), (md 6, .inl (g.2.1 2, 2, .inl (smf))), (md 7, .inl (g.2.1 1, 2, .inr (.inl (gtf)))), (md 8, .inl (g.2.1 2, 128, .inl (snf))), (md 13, .inl (g.2.1 0, 96, .inl (ibf)))]) 0 0 := by
  refine enterI (by decide) rfl (Nat.le_of_ble_eq_true rfl) ?_
  intro p e s m below meth c A ls ar Q hE h0 hret hw hl
  obtain ⟨hx, hb, hr, hml, hown, hts, hlocks, hname⟩ := hE
  have hown : s.vm.findClass RX7 = some m.cls := hown
  have hw : WD g A s [(md 25, .inr (7, [.ref (md 0), .int (nI op), .ref (md 2), .ref (md 3), .ref (md 4), .ref (md 5), .ref (md 6), .ref (md 7), .ref (md 8), .ref (md 9), .ref (md 10), .ref (md 11), .int (nI on), .ref (md 13), .int (nI inn), .ref (md 15), .ref (md 16), .ref (md 17), .ref (md 18), .ref (md 19), .ref (md 20), .ref (md 21), .ref (md 22), .ref (md 23), .ref (md 24)])), (md 17, .inl (g.2.1 0, 400, .inl (rf))), (md 16, .inl (g.2.1 0, 64, .inl (wf))), (md 15, .inl (g.2.1 0, 8, .inl (sf))), (md 22, .inl (g.2.1 0, 64, .inl (kRW))), (md 18, .inl (g.2.1 0, 32, .inl (dg))), (md 19, .inl (g.2.1 0, 32, .inl (kf))), (md 21, .inl (g.2.1 0, 160, .inl (mf))), (md 3, .inl (g.2.1 0, 64, .inl (te))), (md 9, .inl (g.2.1 0, 1024, .inl (wr))), (md 2, .inl (g.2.1 0, 64, .inl (se))), (md 23, .inl (g.2.1 0, 16, .inl (wd))), (md 24, .inl (g.2.1 0, 16, .inl (mx))), (md 4, .inl (g.2.1 0, 2, .inl (szF epn))), (md 10, .inl (g.2.1 0, 8, .inl (szF z))), (md 6, .inl (g.2.1 2, 2, .inl (smf))), (md 7, .inl (g.2.1 1, 2, .inr (.inl (gtf)))), (md 8, .inl (g.2.1 2, 128, .inl (snf))), (md 13, .inl (g.2.1 0, 96, .inl (ibf)))] [] s.heap [] := hw
  have hinX7 : ∀ w ∈ u_ws RX7 TX7 25, w ∈ wsX7_deliver := by decide +kernel
  have k19 := hts (.fieldLink RX7 19 "RecordWireModel" "epochs" "[I") (by decide +kernel)
  have k26 := hts (.fieldLink RX7 26 "RecordWireModel" "some" "[Z") (by decide +kernel)
  have k30 := hts (.fieldLink RX7 30 "RecordWireModel" "greatest" "[J") (by decide +kernel)
  have k33 := hts (.fieldLink RX7 33 "RecordWireModel" "seen" "[Z") (by decide +kernel)
  have k36 := hts (.fieldLink RX7 36 "RecordWireModel" "wire" "[I") (by decide +kernel)
  have k39 := hts (.fieldLink RX7 39 "RecordWireModel" "sizes" "[I") (by decide +kernel)
  have k45 := hts (.fieldLink RX7 45 "RecordWireModel" "inbox" "[I") (by decide +kernel)
  have k57 := hts (.fieldLink RX7 57 "RecordWireModel" "digest" "[I") (by decide +kernel)
  have k145 := hts (.fieldLink RX7 145 "RecordWireModel" "isOpen" "Z") (by decide +kernel)
  have k153 := hts (.fieldLink RX7 153 "RecordWireModel" "inSize" "I") (by decide +kernel)
  have k227 := hts (.constantLong RX7 227 (64)) (by decide +kernel)
  have hl : lv_has ls 15 [(0, .ref (md 25)), (1, .int (nI k)), (2, .int (nI 0))] := hl
  refine lv_aload_n hx hb dX7_deliver_0 rfl (lv_at hl 0 rfl) ?_
  refine lv_iload_n hx hb dX7_deliver_1 rfl (lv_at hl 1 rfl) ?_
  refine r_calli (wr := [(md 17, .inl (g.2.1 0, 400, .inl (rf))), (md 16, .inl (g.2.1 0, 64, .inl (wf))), (md 15, .inl (g.2.1 0, 8, .inl (sf))), (md 22, .inl (g.2.1 0, 64, .inl (kRW))), (md 18, .inl (g.2.1 0, 32, .inl (dg))), (md 19, .inl (g.2.1 0, 32, .inl (kf))), (md 21, .inl (g.2.1 0, 160, .inl (mf))), (md 3, .inl (g.2.1 0, 64, .inl (te))), (md 9, .inl (g.2.1 0, 1024, .inl (wr))), (md 2, .inl (g.2.1 0, 64, .inl (se))), (md 23, .inl (g.2.1 0, 16, .inl (wd))), (md 24, .inl (g.2.1 0, 16, .inl (mx))), (md 4, .inl (g.2.1 0, 2, .inl (szF epn))), (md 6, .inl (g.2.1 2, 2, .inl (smf))), (md 7, .inl (g.2.1 1, 2, .inr (.inl (gtf)))), (md 8, .inl (g.2.1 2, 128, .inl (snf))), (md 13, .inl (g.2.1 0, 96, .inl (ibf)))]) [0, 14] [1, 2, 3, 4, 5, 6, 7, 8, 9, 10, 11, 12, 13, 15, 16, 17, 18] h0 hw rfl rfl (by decide) (by decide) (va_runV (As := [.int (nI k)]) (rest := []) ⟨hx, hb, hml, hown, hts⟩ (c_X7_isSlot l g md op on inn z k (by omega) (by omega) _) (cwV 1 hts gX7_deliver_X7_isSlot rfl rfl rfl (by decide +kernel) ⟨Nat.le_of_ble_eq_true rfl, Nat.le_of_ble_eq_true rfl⟩) (preV_of [0, 14] [.int (nI k)] h0 hw rfl (by decide) 0 7 rfl rfl) rfl rfl hl.1 rfl (lv_room (Nat.le_of_ble_eq_true rfl)) dX7_deliver_2 ⟨Nat.le_of_ble_eq_true rfl, Nat.le_of_ble_eq_true rfl⟩) (fun r1 u2 H locs hp3 hw => ?_)
  have hw : WD g A s [(md 17, .inl (g.2.1 0, 400, .inl (rf))), (md 16, .inl (g.2.1 0, 64, .inl (wf))), (md 15, .inl (g.2.1 0, 8, .inl (sf))), (md 22, .inl (g.2.1 0, 64, .inl (kRW))), (md 18, .inl (g.2.1 0, 32, .inl (dg))), (md 19, .inl (g.2.1 0, 32, .inl (kf))), (md 21, .inl (g.2.1 0, 160, .inl (mf))), (md 3, .inl (g.2.1 0, 64, .inl (te))), (md 9, .inl (g.2.1 0, 1024, .inl (wr))), (md 2, .inl (g.2.1 0, 64, .inl (se))), (md 23, .inl (g.2.1 0, 16, .inl (wd))), (md 24, .inl (g.2.1 0, 16, .inl (mx))), (md 4, .inl (g.2.1 0, 2, .inl (szF epn))), (md 6, .inl (g.2.1 2, 2, .inl (smf))), (md 7, .inl (g.2.1 1, 2, .inr (.inl (gtf)))), (md 8, .inl (g.2.1 2, 128, .inl (snf))), (md 13, .inl (g.2.1 0, 96, .inl (ibf))), (md 25, .inr (7, [.ref (md 0), .int (nI op), .ref (md 2), .ref (md 3), .ref (md 4), .ref (md 5), .ref (md 6), .ref (md 7), .ref (md 8), .ref (md 9), .ref (md 10), .ref (md 11), .int (nI on), .ref (md 13), .int (nI inn), .ref (md 15), .ref (md 16), .ref (md 17), .ref (md 18), .ref (md 19), .ref (md 20), .ref (md 21), .ref (md 22), .ref (md 23), .ref (md 24)])), (md 10, .inl (g.2.1 0, 8, .inl (szF z)))] [] H locs := hw
  subst hp3
  refine lv_if_eq (tgt := 24) hx hb dX7_deliver_5 (by decide) (fun c4 => ?_) (fun c4 => ?_)
  · skip
    have c4 : ¬ (¬ z k = 0) := bI_f c4
    exact absurd (by omega) c4
  · skip
    have c4 : ¬ z k = 0 := bI_t c4
    refine lv_iload_n hx hb dX7_deliver_8 rfl (lv_at hl 2 rfl) ?_
    refine lv_if_eq (tgt := 17) hx hb dX7_deliver_9 (by decide) (fun c5 => ?_) (fun c5 => ?_)
    · skip
      rw [← nI_0] at c5
      have c5 : 0 = 0 := (nI_eq (by omega) (by omega)).mp c5
      refine lv_aload_n hx hb dX7_deliver_17 rfl (lv_at hl 0 rfl) ?_
      refine r_get (ci := 7) (v := .int (nI op)) (C := RX7) (T := TX7) (N := 25) hx hb hts hinX7 hown h0 hw 17 rfl rfl 1 (by decide) k145 rfl dX7_deliver_18 ?_
      refine lv_if_ne (tgt := 26) hx hb dX7_deliver_21 (by decide) (fun c6 => ?_) (fun c6 => ?_)
      · skip
        rw [← nI_0] at c6
        have c6 : ¬ op = 0 := fun q => c6 (((nI_eq (by omega) (by omega)).mpr q))
        refine lv_sipush (v := nI 128) hx hb dX7_deliver_26 (by decide +kernel) ?_
        refine lv_iload_n hx hb dX7_deliver_29 rfl (lv_at hl 1 rfl) ?_
        refine lv_imul hx hb dX7_deliver_30 ?_
        refine r_te (y := nI (128 * k)) (pk_mul 128 k) ?_
        refine lv_istore_n (lv' := [(3, .int (nI (128 * k))), (0, .ref (md 25)), (1, .int (nI k)), (2, .int (nI 0))]) hx hb dX7_deliver_31 rfl hl (by decide) rfl (fun ls hl => ?_)
        refine lv_iconst (v := nI 1) hx hb dX7_deliver_32 (by decide +kernel) ?_
        refine lv_iload_n hx hb dX7_deliver_33 rfl (lv_at hl 3 rfl) ?_
        refine lv_isub hx hb dX7_deliver_34 ?_
        refine r_te (y := nI 1) (pk_sub (by omega)) ?_
        refine lv_istore (lv' := [(4, .int (nI 1)), (3, .int (nI (128 * k))), (0, .ref (md 25)), (1, .int (nI k)), (2, .int (nI 0))]) hx hb dX7_deliver_35 hl (by decide) rfl (fun ls hl => ?_)
        refine lv_aload_n hx hb dX7_deliver_37 rfl (lv_at hl 2 rfl) ?_
        refine lv_iload_n hx hb dX7_deliver_38 rfl (lv_at hl 1 rfl) ?_
        refine lv_bipush (v := nI 13) hx hb dX7_deliver_39 (by decide +kernel) ?_
        refine lv_iadd hx hb dX7_deliver_41 ?_
        refine r_te (y := nI (128 * k + 13)) (nI_add (128 * k) 13) ?_
        refine lv_iconst (v := nI 2) hx hb dX7_deliver_42 (by decide +kernel) ?_
        refine r_calll (wr := [(md 17, .inl (g.2.1 0, 400, .inl (rf))), (md 16, .inl (g.2.1 0, 64, .inl (wf))), (md 15, .inl (g.2.1 0, 8, .inl (sf))), (md 22, .inl (g.2.1 0, 64, .inl (kRW))), (md 18, .inl (g.2.1 0, 32, .inl (dg))), (md 19, .inl (g.2.1 0, 32, .inl (kf))), (md 21, .inl (g.2.1 0, 160, .inl (mf))), (md 3, .inl (g.2.1 0, 64, .inl (te))), (md 2, .inl (g.2.1 0, 64, .inl (se))), (md 23, .inl (g.2.1 0, 16, .inl (wd))), (md 24, .inl (g.2.1 0, 16, .inl (mx))), (md 4, .inl (g.2.1 0, 2, .inl (szF epn))), (md 6, .inl (g.2.1 2, 2, .inl (smf))), (md 7, .inl (g.2.1 1, 2, .inr (.inl (gtf)))), (md 8, .inl (g.2.1 2, 128, .inl (snf))), (md 13, .inl (g.2.1 0, 96, .inl (ibf))), (md 10, .inl (g.2.1 0, 8, .inl (szF z)))]) [17, 8] [0, 1, 2, 3, 4, 5, 6, 7, 9, 10, 11, 12, 13, 14, 15, 16, 18] h0 hw rfl rfl (by decide) (by decide) (va_runV (As := [.int (nI (128 * k + 13)), .int (nI 2)]) (rest := []) ⟨hx, hb, hml, hown, hts⟩ (c_X7_numberAt l g md op on inn wr (128 * k + 13) 2 (by omega) (fun j hj => by rw [Nat.add_assoc, hwr (13 + j) (by omega)]; exact hb8 (13 + j) (by omega)) _) (cwV 2 hts gX7_deliver_X7_numberAt rfl rfl rfl (by decide +kernel) ⟨Nat.le_of_ble_eq_true rfl, Nat.le_of_ble_eq_true rfl⟩) (preV_of [17, 8] [.int (nI (128 * k + 13)), .int (nI 2)] h0 hw rfl (by decide) 17 7 rfl rfl) rfl rfl hl.1 rfl (lv_room (Nat.le_of_ble_eq_true rfl)) dX7_deliver_43 ⟨Nat.le_of_ble_eq_true rfl, Nat.le_of_ble_eq_true rfl⟩) (fun r7 u8 H locs hp9 hw => ?_)
        have hw : WD g A s [(md 17, .inl (g.2.1 0, 400, .inl (rf))), (md 16, .inl (g.2.1 0, 64, .inl (wf))), (md 15, .inl (g.2.1 0, 8, .inl (sf))), (md 22, .inl (g.2.1 0, 64, .inl (kRW))), (md 18, .inl (g.2.1 0, 32, .inl (dg))), (md 19, .inl (g.2.1 0, 32, .inl (kf))), (md 21, .inl (g.2.1 0, 160, .inl (mf))), (md 3, .inl (g.2.1 0, 64, .inl (te))), (md 2, .inl (g.2.1 0, 64, .inl (se))), (md 23, .inl (g.2.1 0, 16, .inl (wd))), (md 24, .inl (g.2.1 0, 16, .inl (mx))), (md 4, .inl (g.2.1 0, 2, .inl (szF epn))), (md 6, .inl (g.2.1 2, 2, .inl (smf))), (md 7, .inl (g.2.1 1, 2, .inr (.inl (gtf)))), (md 8, .inl (g.2.1 2, 128, .inl (snf))), (md 13, .inl (g.2.1 0, 96, .inl (ibf))), (md 10, .inl (g.2.1 0, 8, .inl (szF z))), (md 25, .inr (7, [.ref (md 0), .int (nI op), .ref (md 2), .ref (md 3), .ref (md 4), .ref (md 5), .ref (md 6), .ref (md 7), .ref (md 8), .ref (md 9), .ref (md 10), .ref (md 11), .int (nI on), .ref (md 13), .int (nI inn), .ref (md 15), .ref (md 16), .ref (md 17), .ref (md 18), .ref (md 19), .ref (md 20), .ref (md 21), .ref (md 22), .ref (md 23), .ref (md 24)])), (md 9, .inl (g.2.1 0, 1024, .inl (wr)))] [] H locs := hw
        subst hp9
        refine r_tel (y := nAt (f k) 13 2) (nAt_eq 2 (fun j hj => by rw [Nat.add_assoc]; exact hwr (13 + j) (by omega))) ?_
        refine lv_l2i (v := (nAt (f k) 13 2).toInt32) hx hb dX7_deliver_46 rfl ?_
        refine r_te (y := nI ln) hln ?_
        refine lv_istore (lv' := [(5, .int (nI ln)), (4, .int (nI 1)), (3, .int (nI (128 * k))), (0, .ref (md 25)), (1, .int (nI k)), (2, .int (nI 0))]) hx hb dX7_deliver_47 hl (by decide) rfl (fun ls hl => ?_)
        refine lv_aload_n hx hb dX7_deliver_49 rfl (lv_at hl 3 rfl) ?_
        refine r_get (ci := 7) (v := .ref (md 9)) (C := RX7) (T := TX7) (N := 25) hx hb hts hinX7 hown h0 hw 17 rfl rfl 9 (by decide) k36 rfl dX7_deliver_50 ?_
        refine lv_iload_n hx hb dX7_deliver_53 rfl (lv_at hl 2 rfl) ?_
        refine r_iald hx hb h0 hw 18 rfl (i := 128 * k) (by omega) (by omega) dX7_deliver_54 ?_
        refine r_te (y := f k (0)) (by first | exact hwr (0) (by omega) | (have := hwr (0) (by omega); simpa [Nat.add_assoc] using this)) ?_
        refine lv_iload hx hb dX7_deliver_55 (lv_at hl 1 rfl) ?_
        refine lv_icmp_ne (tgt := 84) hx hb dX7_deliver_57 (by decide) (fun c10 => ?_) (fun c10 => ?_)
        · skip
          exact absurd hs0 c10
        · skip
          refine lv_iload hx hb dX7_deliver_60 (lv_at hl 0 rfl) ?_
          refine lv_bipush (v := nI 96) hx hb dX7_deliver_62 (by decide +kernel) ?_
          refine lv_icmp_gt (tgt := 84) hx hb dX7_deliver_64 (by decide) (fun c11 => ?_) (fun c11 => ?_)
          · skip
            have c11 : 96 < ln := (nI_ltI (by omega) (by omega)).mp c11
            exfalso; omega
          · skip
            have c11 : ¬ 96 < ln := fun q => c11 (((nI_ltI (by omega) (by omega)).mpr q))
            refine lv_aload_n hx hb dX7_deliver_67 rfl (lv_at hl 3 rfl) ?_
            refine r_get (ci := 7) (v := .ref (md 10)) (C := RX7) (T := TX7) (N := 25) hx hb hts hinX7 hown h0 hw 17 rfl rfl 10 (by decide) k39 rfl dX7_deliver_68 ?_
            refine lv_iload_n hx hb dX7_deliver_71 rfl (lv_at hl 4 rfl) ?_
            refine r_iald hx hb h0 hw 16 rfl (i := k) (by omega) (by omega) dX7_deliver_72 ?_
            refine r_te (y := nI (z k)) rfl ?_
            refine lv_bipush (v := nI 15) hx hb dX7_deliver_73 (by decide +kernel) ?_
            refine lv_iload hx hb dX7_deliver_75 (lv_at hl 0 rfl) ?_
            refine lv_iadd hx hb dX7_deliver_77 ?_
            refine r_te (y := nI (15 + ln)) (nI_add 15 ln) ?_
            refine lv_bipush (v := nI 16) hx hb dX7_deliver_78 (by decide +kernel) ?_
            refine lv_iadd hx hb dX7_deliver_80 ?_
            refine r_te (y := nI (15 + ln + 16)) (nI_add (15 + ln) 16) ?_
            refine lv_icmp_eq (tgt := 86) hx hb dX7_deliver_81 (by decide) (fun c12 => ?_) (fun c12 => ?_)
            · skip
              have c12 : (z k) = (15 + ln + 16) := (nI_eq (by omega) (by omega)).mp c12
              refine lv_aload_n hx hb dX7_deliver_86 rfl (lv_at hl 3 rfl) ?_
              refine lv_iload_n hx hb dX7_deliver_87 rfl (lv_at hl 2 rfl) ?_
              refine lv_iconst (v := nI 1) hx hb dX7_deliver_88 (by decide +kernel) ?_
              refine lv_iadd hx hb dX7_deliver_89 ?_
              refine r_te (y := nI (128 * k + 1)) (nI_add (128 * k) 1) ?_
              refine lv_iconst (v := nI 4) hx hb dX7_deliver_90 (by decide +kernel) ?_
              refine r_calll (wr := [(md 17, .inl (g.2.1 0, 400, .inl (rf))), (md 16, .inl (g.2.1 0, 64, .inl (wf))), (md 15, .inl (g.2.1 0, 8, .inl (sf))), (md 22, .inl (g.2.1 0, 64, .inl (kRW))), (md 18, .inl (g.2.1 0, 32, .inl (dg))), (md 19, .inl (g.2.1 0, 32, .inl (kf))), (md 21, .inl (g.2.1 0, 160, .inl (mf))), (md 3, .inl (g.2.1 0, 64, .inl (te))), (md 2, .inl (g.2.1 0, 64, .inl (se))), (md 23, .inl (g.2.1 0, 16, .inl (wd))), (md 24, .inl (g.2.1 0, 16, .inl (mx))), (md 4, .inl (g.2.1 0, 2, .inl (szF epn))), (md 6, .inl (g.2.1 2, 2, .inl (smf))), (md 7, .inl (g.2.1 1, 2, .inr (.inl (gtf)))), (md 8, .inl (g.2.1 2, 128, .inl (snf))), (md 13, .inl (g.2.1 0, 96, .inl (ibf))), (md 10, .inl (g.2.1 0, 8, .inl (szF z)))]) [17, 18] [0, 1, 2, 3, 4, 5, 6, 7, 8, 9, 10, 11, 12, 13, 14, 15, 16] h0 hw rfl rfl (by decide) (by decide) (va_runV (As := [.int (nI (128 * k + 1)), .int (nI 4)]) (rest := []) ⟨hx, hb, hml, hown, hts⟩ (c_X7_numberAt l g md op on inn wr (128 * k + 1) 4 (by omega) (fun j hj => by rw [Nat.add_assoc, hwr (1 + j) (by omega)]; exact hb8 (1 + j) (by omega)) _) (cwV 2 hts gX7_deliver_X7_numberAt rfl rfl rfl (by decide +kernel) ⟨Nat.le_of_ble_eq_true rfl, Nat.le_of_ble_eq_true rfl⟩) (preV_of [17, 18] [.int (nI (128 * k + 1)), .int (nI 4)] h0 hw rfl (by decide) 17 7 rfl rfl) rfl rfl hl.1 rfl (lv_room (Nat.le_of_ble_eq_true rfl)) dX7_deliver_91 ⟨Nat.le_of_ble_eq_true rfl, Nat.le_of_ble_eq_true rfl⟩) (fun r13 u14 H locs hp15 hw => ?_)
              have hw : WD g A s [(md 17, .inl (g.2.1 0, 400, .inl (rf))), (md 16, .inl (g.2.1 0, 64, .inl (wf))), (md 15, .inl (g.2.1 0, 8, .inl (sf))), (md 22, .inl (g.2.1 0, 64, .inl (kRW))), (md 18, .inl (g.2.1 0, 32, .inl (dg))), (md 19, .inl (g.2.1 0, 32, .inl (kf))), (md 21, .inl (g.2.1 0, 160, .inl (mf))), (md 3, .inl (g.2.1 0, 64, .inl (te))), (md 2, .inl (g.2.1 0, 64, .inl (se))), (md 23, .inl (g.2.1 0, 16, .inl (wd))), (md 24, .inl (g.2.1 0, 16, .inl (mx))), (md 4, .inl (g.2.1 0, 2, .inl (szF epn))), (md 6, .inl (g.2.1 2, 2, .inl (smf))), (md 7, .inl (g.2.1 1, 2, .inr (.inl (gtf)))), (md 8, .inl (g.2.1 2, 128, .inl (snf))), (md 13, .inl (g.2.1 0, 96, .inl (ibf))), (md 10, .inl (g.2.1 0, 8, .inl (szF z))), (md 25, .inr (7, [.ref (md 0), .int (nI op), .ref (md 2), .ref (md 3), .ref (md 4), .ref (md 5), .ref (md 6), .ref (md 7), .ref (md 8), .ref (md 9), .ref (md 10), .ref (md 11), .int (nI on), .ref (md 13), .int (nI inn), .ref (md 15), .ref (md 16), .ref (md 17), .ref (md 18), .ref (md 19), .ref (md 20), .ref (md 21), .ref (md 22), .ref (md 23), .ref (md 24)])), (md 9, .inl (g.2.1 0, 1024, .inl (wr)))] [] H locs := hw
              subst hp15
              refine r_tel (y := nAt (f k) 1 4) (nAt_eq 4 (fun j hj => by rw [Nat.add_assoc]; exact hwr (1 + j) (by omega))) ?_
              refine lv_aload_n hx hb dX7_deliver_94 rfl (lv_at hl 3 rfl) ?_
              refine r_get (ci := 7) (v := .ref (md 4)) (C := RX7) (T := TX7) (N := 25) hx hb hts hinX7 hown h0 hw 17 rfl rfl 4 (by decide) k19 rfl dX7_deliver_95 ?_
              refine lv_iload hx hb dX7_deliver_98 (lv_at hl 1 rfl) ?_
              refine r_iald hx hb h0 hw 11 rfl (i := 1) (by omega) (by omega) dX7_deliver_100 ?_
              refine r_te (y := nI (epn 1)) rfl ?_
              refine lv_i2l (v := (nI (epn 1)).toInt64) hx hb dX7_deliver_101 rfl ?_
              refine W.lcmp hx hb dX7_deliver_102 ?_
              refine lv_if_eq (tgt := 108) hx hb dX7_deliver_103 (by decide) (fun c16 => ?_) (fun c16 => ?_)
              · skip
                have c16 : (nAt (f k) 1 4) = ((nI (epn 1)).toInt64) := (lg_cmp_eq _ _).mp c16
                refine lv_aload_n hx hb dX7_deliver_108 rfl (lv_at hl 3 rfl) ?_
                refine lv_iload hx hb dX7_deliver_109 (lv_at hl 1 rfl) ?_
                refine lv_iload_n hx hb dX7_deliver_111 rfl (lv_at hl 4 rfl) ?_
                refine lv_bipush (v := nI 15) hx hb dX7_deliver_112 (by decide +kernel) ?_
                refine lv_iload hx hb dX7_deliver_114 (lv_at hl 0 rfl) ?_
                refine lv_iadd hx hb dX7_deliver_116 ?_
                refine r_te (y := nI (15 + ln)) (nI_add 15 ln) ?_
                refine r_callv (wr := [(md 2, .inl (g.2.1 0, 64, .inl (se))), (md 23, .inl (g.2.1 0, 16, .inl (wd))), (md 24, .inl (g.2.1 0, 16, .inl (mx))), (md 4, .inl (g.2.1 0, 2, .inl (szF epn))), (md 6, .inl (g.2.1 2, 2, .inl (smf))), (md 7, .inl (g.2.1 1, 2, .inr (.inl (gtf)))), (md 8, .inl (g.2.1 2, 128, .inl (snf))), (md 13, .inl (g.2.1 0, 96, .inl (ibf))), (md 10, .inl (g.2.1 0, 8, .inl (szF z)))]) [17, 0, 1, 2, 3, 4, 5, 6, 7, 18] [8, 9, 10, 11, 12, 13, 14, 15, 16] h0 hw rfl rfl (by decide) (by decide) (va_runV (As := [.int (nI 1), .int (nI k), .int (nI (15 + ln))]) (rest := []) ⟨hx, hb, hml, hown, hts⟩ (c_X7_tag l g md op on inn rf wf sf dg kf mf te wr 1 k (15 + ln) (by omega) (by omega) (by omega) _) (cwV 3 hts gX7_deliver_X7_tag rfl rfl rfl (by decide +kernel) ⟨Nat.le_of_ble_eq_true rfl, Nat.le_of_ble_eq_true rfl⟩) (preV_of [17, 0, 1, 2, 3, 4, 5, 6, 7, 18] [.int (nI 1), .int (nI k), .int (nI (15 + ln))] h0 hw rfl (by decide) 17 7 rfl rfl) rfl rfl hl.1 rfl (lv_room (Nat.le_of_ble_eq_true rfl)) dX7_deliver_117 ⟨Nat.le_of_ble_eq_true rfl, Nat.le_of_ble_eq_true rfl⟩) (fun u18 H locs hp19 hw => ?_)
                obtain ⟨r2_20, w2_21, s2_22, k2_23, m2_24⟩ := u18
                have hw : WD g A s [(md 2, .inl (g.2.1 0, 64, .inl (se))), (md 23, .inl (g.2.1 0, 16, .inl (wd))), (md 24, .inl (g.2.1 0, 16, .inl (mx))), (md 4, .inl (g.2.1 0, 2, .inl (szF epn))), (md 6, .inl (g.2.1 2, 2, .inl (smf))), (md 7, .inl (g.2.1 1, 2, .inr (.inl (gtf)))), (md 8, .inl (g.2.1 2, 128, .inl (snf))), (md 13, .inl (g.2.1 0, 96, .inl (ibf))), (md 10, .inl (g.2.1 0, 8, .inl (szF z))), (md 25, .inr (7, [.ref (md 0), .int (nI op), .ref (md 2), .ref (md 3), .ref (md 4), .ref (md 5), .ref (md 6), .ref (md 7), .ref (md 8), .ref (md 9), .ref (md 10), .ref (md 11), .int (nI on), .ref (md 13), .int (nI inn), .ref (md 15), .ref (md 16), .ref (md 17), .ref (md 18), .ref (md 19), .ref (md 20), .ref (md 21), .ref (md 22), .ref (md 23), .ref (md 24)])), (md 17, .inl (g.2.1 0, 400, .inl (r2_20))), (md 16, .inl (g.2.1 0, 64, .inl (w2_21))), (md 15, .inl (g.2.1 0, 8, .inl (s2_22))), (md 22, .inl (g.2.1 0, 64, .inl (kRW))), (md 18, .inl (g.2.1 0, 32, .inl (hmv (shf te (32 * 1)) (shf wr (128 * k)) (15 + ln)))), (md 19, .inl (g.2.1 0, 32, .inl (k2_23))), (md 21, .inl (g.2.1 0, 160, .inl (m2_24))), (md 3, .inl (g.2.1 0, 64, .inl (te))), (md 9, .inl (g.2.1 0, 1024, .inl (wr)))] [] H locs := hw
                have hw := hw.cong 14 rfl (f' := hmv tk (f k) (15 + ln)) (hmv_cong htk (fun j hj => hwr j (by omega)))
                have hw : WD g A s [(md 2, .inl (g.2.1 0, 64, .inl (se))), (md 23, .inl (g.2.1 0, 16, .inl (wd))), (md 24, .inl (g.2.1 0, 16, .inl (mx))), (md 4, .inl (g.2.1 0, 2, .inl (szF epn))), (md 6, .inl (g.2.1 2, 2, .inl (smf))), (md 7, .inl (g.2.1 1, 2, .inr (.inl (gtf)))), (md 8, .inl (g.2.1 2, 128, .inl (snf))), (md 13, .inl (g.2.1 0, 96, .inl (ibf))), (md 10, .inl (g.2.1 0, 8, .inl (szF z))), (md 25, .inr (7, [.ref (md 0), .int (nI op), .ref (md 2), .ref (md 3), .ref (md 4), .ref (md 5), .ref (md 6), .ref (md 7), .ref (md 8), .ref (md 9), .ref (md 10), .ref (md 11), .int (nI on), .ref (md 13), .int (nI inn), .ref (md 15), .ref (md 16), .ref (md 17), .ref (md 18), .ref (md 19), .ref (md 20), .ref (md 21), .ref (md 22), .ref (md 23), .ref (md 24)])), (md 17, .inl (g.2.1 0, 400, .inl (r2_20))), (md 16, .inl (g.2.1 0, 64, .inl (w2_21))), (md 15, .inl (g.2.1 0, 8, .inl (s2_22))), (md 22, .inl (g.2.1 0, 64, .inl (kRW))), (md 18, .inl (g.2.1 0, 32, .inl (hmv tk (f k) (15 + ln)))), (md 19, .inl (g.2.1 0, 32, .inl (k2_23))), (md 21, .inl (g.2.1 0, 160, .inl (m2_24))), (md 3, .inl (g.2.1 0, 64, .inl (te))), (md 9, .inl (g.2.1 0, 1024, .inl (wr)))] [] _ _ := hw
                refine lv_iconst (v := nI 0) hx hb dX7_deliver_120 (by decide +kernel) ?_
                refine lv_istore (lv' := [(6, .int (nI 0)), (5, .int (nI ln)), (4, .int (nI 1)), (3, .int (nI (128 * k))), (0, .ref (md 25)), (1, .int (nI k)), (2, .int (nI 0))]) hx hb dX7_deliver_121 hl (by decide) rfl (fun ls hl => ?_)
                have lp123 : ∀ (fu : Nat) (q : Nat), 16 - q < fu → (q ≤ 16) → (∀ j, j < q → f k (15 + ln + j) = hmv tk (f k) (15 + ln) j) → ∀ (H : Heap) (locs : List Loc) (ls : Array Slot), WD g A s [(md 2, .inl (g.2.1 0, 64, .inl (se))), (md 23, .inl (g.2.1 0, 16, .inl (wd))), (md 24, .inl (g.2.1 0, 16, .inl (mx))), (md 4, .inl (g.2.1 0, 2, .inl (szF epn))), (md 6, .inl (g.2.1 2, 2, .inl (smf))), (md 7, .inl (g.2.1 1, 2, .inr (.inl (gtf)))), (md 8, .inl (g.2.1 2, 128, .inl (snf))), (md 13, .inl (g.2.1 0, 96, .inl (ibf))), (md 10, .inl (g.2.1 0, 8, .inl (szF z))), (md 25, .inr (7, [.ref (md 0), .int (nI op), .ref (md 2), .ref (md 3), .ref (md 4), .ref (md 5), .ref (md 6), .ref (md 7), .ref (md 8), .ref (md 9), .ref (md 10), .ref (md 11), .int (nI on), .ref (md 13), .int (nI inn), .ref (md 15), .ref (md 16), .ref (md 17), .ref (md 18), .ref (md 19), .ref (md 20), .ref (md 21), .ref (md 22), .ref (md 23), .ref (md 24)])), (md 17, .inl (g.2.1 0, 400, .inl (r2_20))), (md 16, .inl (g.2.1 0, 64, .inl (w2_21))), (md 15, .inl (g.2.1 0, 8, .inl (s2_22))), (md 22, .inl (g.2.1 0, 64, .inl (kRW))), (md 18, .inl (g.2.1 0, 32, .inl (hmv tk (f k) (15 + ln)))), (md 19, .inl (g.2.1 0, 32, .inl (k2_23))), (md 21, .inl (g.2.1 0, 160, .inl (m2_24))), (md 3, .inl (g.2.1 0, 64, .inl (te))), (md 9, .inl (g.2.1 0, 1024, .inl (wr)))] [] H locs → lv_has ls 15 [(6, .int (nI q)), (0, .ref (md 25)), (1, .int (nI k)), (3, .int (nI (128 * k))), (4, .int (nI 1)), (5, .int (nI ln))] → W p l e { frames := 5, cells := 0, slots := 0, locals := 123 } s m ar below meth c H locs 0 0 Q (F0 m 123 ls []) := by
                  intro fu
                  induction fu with
                  | zero => intro q hmz; exact absurd hmz (Nat.not_lt_zero _)
                  | succ fu ih =>
                    intro q hms hq9 hv H locs ls hw hl
                    refine lv_iload hx hb dX7_deliver_123 (lv_at hl 0 rfl) ?_
                    refine lv_bipush (v := nI 16) hx hb dX7_deliver_125 (by decide +kernel) ?_
                    refine lv_icmp_ge (tgt := 163) hx hb dX7_deliver_127 (by decide) (fun c25 => ?_) (fun c25 => ?_)
                    · skip
                      have c25 : 16 ≤ q := (nI_leI (by omega) (by omega)).mp c25
                      have hq : q = 16 := by omega
                      have hwS26 := hw; have hlS27 := hl
                      subst q
                      have hw := hwS26; have hl := hlS27
                      refine lv_aload_n hx hb dX7_deliver_163 rfl (lv_at hl 1 rfl) ?_
                      refine lv_iload_n hx hb dX7_deliver_164 rfl (lv_at hl 3 rfl) ?_
                      refine lv_iconst (v := nI 5) hx hb dX7_deliver_165 (by decide +kernel) ?_
                      refine lv_iadd hx hb dX7_deliver_166 ?_
                      refine r_te (y := nI (128 * k + 5)) (nI_add (128 * k) 5) ?_
                      refine lv_bipush (v := nI 8) hx hb dX7_deliver_167 (by decide +kernel) ?_
                      refine r_calll (wr := [(md 2, .inl (g.2.1 0, 64, .inl (se))), (md 23, .inl (g.2.1 0, 16, .inl (wd))), (md 24, .inl (g.2.1 0, 16, .inl (mx))), (md 4, .inl (g.2.1 0, 2, .inl (szF epn))), (md 6, .inl (g.2.1 2, 2, .inl (smf))), (md 7, .inl (g.2.1 1, 2, .inr (.inl (gtf)))), (md 8, .inl (g.2.1 2, 128, .inl (snf))), (md 13, .inl (g.2.1 0, 96, .inl (ibf))), (md 10, .inl (g.2.1 0, 8, .inl (szF z))), (md 17, .inl (g.2.1 0, 400, .inl (r2_20))), (md 16, .inl (g.2.1 0, 64, .inl (w2_21))), (md 15, .inl (g.2.1 0, 8, .inl (s2_22))), (md 22, .inl (g.2.1 0, 64, .inl (kRW))), (md 18, .inl (g.2.1 0, 32, .inl (hmv tk (f k) (15 + ln)))), (md 19, .inl (g.2.1 0, 32, .inl (k2_23))), (md 21, .inl (g.2.1 0, 160, .inl (m2_24))), (md 3, .inl (g.2.1 0, 64, .inl (te)))]) [9, 18] [0, 1, 2, 3, 4, 5, 6, 7, 8, 10, 11, 12, 13, 14, 15, 16, 17] h0 hw rfl rfl (by decide) (by decide) (va_runV (As := [.int (nI (128 * k + 5)), .int (nI 8)]) (rest := []) ⟨hx, hb, hml, hown, hts⟩ (c_X7_numberAt l g md op on inn wr (128 * k + 5) 8 (by omega) (fun j hj => by rw [Nat.add_assoc, hwr (5 + j) (by omega)]; exact hb8 (5 + j) (by omega)) _) (cwV 2 hts gX7_deliver_X7_numberAt rfl rfl rfl (by decide +kernel) ⟨Nat.le_of_ble_eq_true rfl, Nat.le_of_ble_eq_true rfl⟩) (preV_of [9, 18] [.int (nI (128 * k + 5)), .int (nI 8)] h0 hw rfl (by decide) 9 7 rfl rfl) rfl rfl hl.1 rfl (lv_room (Nat.le_of_ble_eq_true rfl)) dX7_deliver_169 ⟨Nat.le_of_ble_eq_true rfl, Nat.le_of_ble_eq_true rfl⟩) (fun r28 u29 H locs hp30 hw => ?_)
                      have hw : WD g A s [(md 2, .inl (g.2.1 0, 64, .inl (se))), (md 23, .inl (g.2.1 0, 16, .inl (wd))), (md 24, .inl (g.2.1 0, 16, .inl (mx))), (md 4, .inl (g.2.1 0, 2, .inl (szF epn))), (md 6, .inl (g.2.1 2, 2, .inl (smf))), (md 7, .inl (g.2.1 1, 2, .inr (.inl (gtf)))), (md 8, .inl (g.2.1 2, 128, .inl (snf))), (md 13, .inl (g.2.1 0, 96, .inl (ibf))), (md 10, .inl (g.2.1 0, 8, .inl (szF z))), (md 17, .inl (g.2.1 0, 400, .inl (r2_20))), (md 16, .inl (g.2.1 0, 64, .inl (w2_21))), (md 15, .inl (g.2.1 0, 8, .inl (s2_22))), (md 22, .inl (g.2.1 0, 64, .inl (kRW))), (md 18, .inl (g.2.1 0, 32, .inl (hmv tk (f k) (15 + ln)))), (md 19, .inl (g.2.1 0, 32, .inl (k2_23))), (md 21, .inl (g.2.1 0, 160, .inl (m2_24))), (md 3, .inl (g.2.1 0, 64, .inl (te))), (md 25, .inr (7, [.ref (md 0), .int (nI op), .ref (md 2), .ref (md 3), .ref (md 4), .ref (md 5), .ref (md 6), .ref (md 7), .ref (md 8), .ref (md 9), .ref (md 10), .ref (md 11), .int (nI on), .ref (md 13), .int (nI inn), .ref (md 15), .ref (md 16), .ref (md 17), .ref (md 18), .ref (md 19), .ref (md 20), .ref (md 21), .ref (md 22), .ref (md 23), .ref (md 24)])), (md 9, .inl (g.2.1 0, 1024, .inl (wr)))] [] H locs := hw
                      subst hp30
                      refine r_tel (y := nAt (f k) 5 8) (nAt_eq 8 (fun j hj => by rw [Nat.add_assoc]; exact hwr (5 + j) (by omega))) ?_
                      refine lv_lstore (lv' := [(6, .long (nAt (f k) 5 8)), (0, .ref (md 25)), (1, .int (nI k)), (3, .int (nI (128 * k))), (4, .int (nI 1)), (5, .int (nI ln))]) hx hb dX7_deliver_172 hl (by decide) rfl (fun ls hl => ?_)
                      refine lv_aload_n hx hb dX7_deliver_174 rfl (lv_at hl 1 rfl) ?_
                      refine r_get (ci := 7) (v := .ref (md 6)) (C := RX7) (T := TX7) (N := 25) hx hb hts hinX7 hown h0 hw 17 rfl rfl 6 (by decide) k26 rfl dX7_deliver_175 ?_
                      refine lv_iload hx hb dX7_deliver_178 (lv_at hl 4 rfl) ?_
                      refine r_zald hx hb h0 hw 4 rfl (i := 1) (by omega) (by omega) dX7_deliver_180 ?_
                      refine lv_if_eq (tgt := 203) hx hb dX7_deliver_181 (by decide) (fun c31 => ?_) (fun c31 => ?_)
                      · skip
                        exact absurd c31 hsm
                      · skip
                        refine lv_aload_n hx hb dX7_deliver_184 rfl (lv_at hl 1 rfl) ?_
                        refine r_get (ci := 7) (v := .ref (md 7)) (C := RX7) (T := TX7) (N := 25) hx hb hts hinX7 hown h0 hw 17 rfl rfl 7 (by decide) k30 rfl dX7_deliver_185 ?_
                        refine lv_iload hx hb dX7_deliver_188 (lv_at hl 4 rfl) ?_
                        refine r_lald hx hb h0 hw 5 rfl (i := 1) (by omega) (by omega) dX7_deliver_190 ?_
                        refine lv_lload hx hb dX7_deliver_191 (lv_at hl 0 rfl) ?_
                        refine r_calli (wr := [(md 2, .inl (g.2.1 0, 64, .inl (se))), (md 23, .inl (g.2.1 0, 16, .inl (wd))), (md 24, .inl (g.2.1 0, 16, .inl (mx))), (md 4, .inl (g.2.1 0, 2, .inl (szF epn))), (md 6, .inl (g.2.1 2, 2, .inl (smf))), (md 7, .inl (g.2.1 1, 2, .inr (.inl (gtf)))), (md 8, .inl (g.2.1 2, 128, .inl (snf))), (md 13, .inl (g.2.1 0, 96, .inl (ibf))), (md 10, .inl (g.2.1 0, 8, .inl (szF z))), (md 17, .inl (g.2.1 0, 400, .inl (r2_20))), (md 16, .inl (g.2.1 0, 64, .inl (w2_21))), (md 15, .inl (g.2.1 0, 8, .inl (s2_22))), (md 22, .inl (g.2.1 0, 64, .inl (kRW))), (md 18, .inl (g.2.1 0, 32, .inl (hmv tk (f k) (15 + ln)))), (md 19, .inl (g.2.1 0, 32, .inl (k2_23))), (md 21, .inl (g.2.1 0, 160, .inl (m2_24))), (md 3, .inl (g.2.1 0, 64, .inl (te))), (md 25, .inr (7, [.ref (md 0), .int (nI op), .ref (md 2), .ref (md 3), .ref (md 4), .ref (md 5), .ref (md 6), .ref (md 7), .ref (md 8), .ref (md 9), .ref (md 10), .ref (md 11), .int (nI on), .ref (md 13), .int (nI inn), .ref (md 15), .ref (md 16), .ref (md 17), .ref (md 18), .ref (md 19), .ref (md 20), .ref (md 21), .ref (md 22), .ref (md 23), .ref (md 24)])), (md 9, .inl (g.2.1 0, 1024, .inl (wr)))]) [] [0, 1, 2, 3, 4, 5, 6, 7, 8, 9, 10, 11, 12, 13, 14, 15, 16, 17, 18] h0 hw rfl rfl (by decide) (by decide) (va_runS (As := [.long (gtf 1), .long (nAt (f k) 5 8)]) (rest := []) ⟨hx, hb, hml, hown, hts⟩ (c_X7_isBelow l g (gtf 1) (nAt (f k) 5 8)  _) (va_cwS 2 hts gX7_deliver_X7_isBelow rfl rfl rfl (by decide +kernel) ⟨Nat.le_of_ble_eq_true rfl, Nat.le_of_ble_eq_true rfl⟩) (preS_of [] [.long (gtf 1), .long (nAt (f k) 5 8)] h0 hw rfl (by decide)) rfl rfl hl.1 rfl (lv_room (Nat.le_of_ble_eq_true rfl)) dX7_deliver_193 ⟨Nat.le_of_ble_eq_true rfl, Nat.le_of_ble_eq_true rfl⟩) (fun r32 u33 H locs hp34 hw => ?_)
                        have hw : WD g A s [(md 2, .inl (g.2.1 0, 64, .inl (se))), (md 23, .inl (g.2.1 0, 16, .inl (wd))), (md 24, .inl (g.2.1 0, 16, .inl (mx))), (md 4, .inl (g.2.1 0, 2, .inl (szF epn))), (md 6, .inl (g.2.1 2, 2, .inl (smf))), (md 7, .inl (g.2.1 1, 2, .inr (.inl (gtf)))), (md 8, .inl (g.2.1 2, 128, .inl (snf))), (md 13, .inl (g.2.1 0, 96, .inl (ibf))), (md 10, .inl (g.2.1 0, 8, .inl (szF z))), (md 17, .inl (g.2.1 0, 400, .inl (r2_20))), (md 16, .inl (g.2.1 0, 64, .inl (w2_21))), (md 15, .inl (g.2.1 0, 8, .inl (s2_22))), (md 22, .inl (g.2.1 0, 64, .inl (kRW))), (md 18, .inl (g.2.1 0, 32, .inl (hmv tk (f k) (15 + ln)))), (md 19, .inl (g.2.1 0, 32, .inl (k2_23))), (md 21, .inl (g.2.1 0, 160, .inl (m2_24))), (md 3, .inl (g.2.1 0, 64, .inl (te))), (md 25, .inr (7, [.ref (md 0), .int (nI op), .ref (md 2), .ref (md 3), .ref (md 4), .ref (md 5), .ref (md 6), .ref (md 7), .ref (md 8), .ref (md 9), .ref (md 10), .ref (md 11), .int (nI on), .ref (md 13), .int (nI inn), .ref (md 15), .ref (md 16), .ref (md 17), .ref (md 18), .ref (md 19), .ref (md 20), .ref (md 21), .ref (md 22), .ref (md 23), .ref (md 24)])), (md 9, .inl (g.2.1 0, 1024, .inl (wr)))] [] H locs := hw
                        subst hp34
                        refine lv_if_ne (tgt := 203) hx hb dX7_deliver_196 (by decide) (fun c35 => ?_) (fun c35 => ?_)
                        · skip
                          have c35 : lowU (gtf 1) (nAt (f k) 5 8) := bI_t c35
                          exact absurd c35 hlow
                        · skip
                          have c35 : ¬ (lowU (gtf 1) (nAt (f k) 5 8)) := bI_f c35
                          refine lv_iconst (v := nI 1) hx hb dX7_deliver_199 (by decide +kernel) ?_
                          refine lv_goto (tgt := 204) hx hb dX7_deliver_200 (by decide) ?_
                          refine lv_istore (lv' := [(8, .int (nI 1)), (6, .long (nAt (f k) 5 8)), (0, .ref (md 25)), (1, .int (nI k)), (3, .int (nI (128 * k))), (4, .int (nI 1)), (5, .int (nI ln))]) hx hb dX7_deliver_204 hl (by decide) rfl (fun ls hl => ?_)
                          refine lv_aload_n hx hb dX7_deliver_206 rfl (lv_at hl 2 rfl) ?_
                          refine r_get (ci := 7) (v := .ref (md 7)) (C := RX7) (T := TX7) (N := 25) hx hb hts hinX7 hown h0 hw 17 rfl rfl 7 (by decide) k30 rfl dX7_deliver_207 ?_
                          refine lv_iload hx hb dX7_deliver_210 (lv_at hl 5 rfl) ?_
                          refine r_lald hx hb h0 hw 5 rfl (i := 1) (by omega) (by omega) dX7_deliver_212 ?_
                          refine lv_lload hx hb dX7_deliver_213 (lv_at hl 1 rfl) ?_
                          refine lv_lsub hx hb dX7_deliver_215 ?_
                          refine lv_lstore (lv' := [(9, .long ((gtf 1) - (nAt (f k) 5 8))), (8, .int (nI 1)), (6, .long (nAt (f k) 5 8)), (0, .ref (md 25)), (1, .int (nI k)), (3, .int (nI (128 * k))), (4, .int (nI 1)), (5, .int (nI ln))]) hx hb dX7_deliver_216 hl (by decide) rfl (fun ls hl => ?_)
                          refine lv_iload hx hb dX7_deliver_218 (lv_at hl 1 rfl) ?_
                          refine lv_if_eq (tgt := 236) hx hb dX7_deliver_220 (by decide) (fun c36 => ?_) (fun c36 => ?_)
                          · skip
                            rw [← nI_0] at c36
                            have c36 : 1 = 0 := (nI_eq (by omega) (by omega)).mp c36
                            exfalso; omega
                          · skip
                            rw [← nI_0] at c36
                            have c36 : ¬ 1 = 0 := fun q => c36 (((nI_eq (by omega) (by omega)).mpr q))
                            refine lv_lload hx hb dX7_deliver_223 (lv_at hl 0 rfl) ?_
                            refine lv_ldc2 hx hb hown k227 dX7_deliver_225 ?_
                            refine r_calli (wr := [(md 2, .inl (g.2.1 0, 64, .inl (se))), (md 23, .inl (g.2.1 0, 16, .inl (wd))), (md 24, .inl (g.2.1 0, 16, .inl (mx))), (md 4, .inl (g.2.1 0, 2, .inl (szF epn))), (md 6, .inl (g.2.1 2, 2, .inl (smf))), (md 7, .inl (g.2.1 1, 2, .inr (.inl (gtf)))), (md 8, .inl (g.2.1 2, 128, .inl (snf))), (md 13, .inl (g.2.1 0, 96, .inl (ibf))), (md 10, .inl (g.2.1 0, 8, .inl (szF z))), (md 17, .inl (g.2.1 0, 400, .inl (r2_20))), (md 16, .inl (g.2.1 0, 64, .inl (w2_21))), (md 15, .inl (g.2.1 0, 8, .inl (s2_22))), (md 22, .inl (g.2.1 0, 64, .inl (kRW))), (md 18, .inl (g.2.1 0, 32, .inl (hmv tk (f k) (15 + ln)))), (md 19, .inl (g.2.1 0, 32, .inl (k2_23))), (md 21, .inl (g.2.1 0, 160, .inl (m2_24))), (md 3, .inl (g.2.1 0, 64, .inl (te))), (md 25, .inr (7, [.ref (md 0), .int (nI op), .ref (md 2), .ref (md 3), .ref (md 4), .ref (md 5), .ref (md 6), .ref (md 7), .ref (md 8), .ref (md 9), .ref (md 10), .ref (md 11), .int (nI on), .ref (md 13), .int (nI inn), .ref (md 15), .ref (md 16), .ref (md 17), .ref (md 18), .ref (md 19), .ref (md 20), .ref (md 21), .ref (md 22), .ref (md 23), .ref (md 24)])), (md 9, .inl (g.2.1 0, 1024, .inl (wr)))]) [] [0, 1, 2, 3, 4, 5, 6, 7, 8, 9, 10, 11, 12, 13, 14, 15, 16, 17, 18] h0 hw rfl rfl (by decide) (by decide) (va_runS (As := [.long ((gtf 1) - (nAt (f k) 5 8)), .long (64)]) (rest := []) ⟨hx, hb, hml, hown, hts⟩ (c_X7_isBelow l g ((gtf 1) - (nAt (f k) 5 8)) 64  _) (va_cwS 2 hts gX7_deliver_X7_isBelow rfl rfl rfl (by decide +kernel) ⟨Nat.le_of_ble_eq_true rfl, Nat.le_of_ble_eq_true rfl⟩) (preS_of [] [.long ((gtf 1) - (nAt (f k) 5 8)), .long (64)] h0 hw rfl (by decide)) rfl rfl hl.1 rfl (lv_room (Nat.le_of_ble_eq_true rfl)) dX7_deliver_228 ⟨Nat.le_of_ble_eq_true rfl, Nat.le_of_ble_eq_true rfl⟩) (fun r37 u38 H locs hp39 hw => ?_)
                            have hw : WD g A s [(md 2, .inl (g.2.1 0, 64, .inl (se))), (md 23, .inl (g.2.1 0, 16, .inl (wd))), (md 24, .inl (g.2.1 0, 16, .inl (mx))), (md 4, .inl (g.2.1 0, 2, .inl (szF epn))), (md 6, .inl (g.2.1 2, 2, .inl (smf))), (md 7, .inl (g.2.1 1, 2, .inr (.inl (gtf)))), (md 8, .inl (g.2.1 2, 128, .inl (snf))), (md 13, .inl (g.2.1 0, 96, .inl (ibf))), (md 10, .inl (g.2.1 0, 8, .inl (szF z))), (md 17, .inl (g.2.1 0, 400, .inl (r2_20))), (md 16, .inl (g.2.1 0, 64, .inl (w2_21))), (md 15, .inl (g.2.1 0, 8, .inl (s2_22))), (md 22, .inl (g.2.1 0, 64, .inl (kRW))), (md 18, .inl (g.2.1 0, 32, .inl (hmv tk (f k) (15 + ln)))), (md 19, .inl (g.2.1 0, 32, .inl (k2_23))), (md 21, .inl (g.2.1 0, 160, .inl (m2_24))), (md 3, .inl (g.2.1 0, 64, .inl (te))), (md 25, .inr (7, [.ref (md 0), .int (nI op), .ref (md 2), .ref (md 3), .ref (md 4), .ref (md 5), .ref (md 6), .ref (md 7), .ref (md 8), .ref (md 9), .ref (md 10), .ref (md 11), .int (nI on), .ref (md 13), .int (nI inn), .ref (md 15), .ref (md 16), .ref (md 17), .ref (md 18), .ref (md 19), .ref (md 20), .ref (md 21), .ref (md 22), .ref (md 23), .ref (md 24)])), (md 9, .inl (g.2.1 0, 1024, .inl (wr)))] [] H locs := hw
                            subst hp39
                            refine lv_if_ne (tgt := 236) hx hb dX7_deliver_231 (by decide) (fun c40 => ?_) (fun c40 => ?_)
                            · skip
                              have c40 : lowU ((gtf 1) - (nAt (f k) 5 8)) 64 := bI_t c40
                              refine lv_iload hx hb dX7_deliver_236 (lv_at hl 1 rfl) ?_
                              refine lv_if_eq (tgt := 261) hx hb dX7_deliver_238 (by decide) (fun c41 => ?_) (fun c41 => ?_)
                              · skip
                                rw [← nI_0] at c41
                                have c41 : 1 = 0 := (nI_eq (by omega) (by omega)).mp c41
                                exfalso; omega
                              · skip
                                rw [← nI_0] at c41
                                have c41 : ¬ 1 = 0 := fun q => c41 (((nI_eq (by omega) (by omega)).mpr q))
                                refine lv_aload_n hx hb dX7_deliver_241 rfl (lv_at hl 3 rfl) ?_
                                refine r_get (ci := 7) (v := .ref (md 8)) (C := RX7) (T := TX7) (N := 25) hx hb hts hinX7 hown h0 hw 17 rfl rfl 8 (by decide) k33 rfl dX7_deliver_242 ?_
                                refine lv_bipush (v := nI 64) hx hb dX7_deliver_245 (by decide +kernel) ?_
                                refine lv_iload hx hb dX7_deliver_247 (lv_at hl 6 rfl) ?_
                                refine lv_imul hx hb dX7_deliver_249 ?_
                                refine r_te (y := nI 64) (pk_mul 64 1) ?_
                                refine lv_lload hx hb dX7_deliver_250 (lv_at hl 0 rfl) ?_
                                refine lv_l2i (v := ((gtf 1) - (nAt (f k) 5 8)).toInt32) hx hb dX7_deliver_252 rfl ?_
                                refine r_te (y := nI qq) hqq ?_
                                refine lv_iadd hx hb dX7_deliver_253 ?_
                                refine r_te (y := nI (64 + qq)) (nI_add 64 qq) ?_
                                refine r_zald hx hb h0 hw 6 rfl (i := 64 + qq) (by omega) (by omega) dX7_deliver_254 ?_
                                refine lv_if_eq (tgt := 261) hx hb dX7_deliver_255 (by decide) (fun c42 => ?_) (fun c42 => ?_)
                                · skip
                                  exact absurd c42 hse
                                · skip
                                  refine lv_bipush (v := nI 6) hx hb dX7_deliver_258 (by decide +kernel) ?_
                                  exact hret (hw.perm (X' := [(md 25, .inr (7, [.ref (md 0), .int (nI op), .ref (md 2), .ref (md 3), .ref (md 4), .ref (md 5), .ref (md 6), .ref (md 7), .ref (md 8), .ref (md 9), .ref (md 10), .ref (md 11), .int (nI on), .ref (md 13), .int (nI inn), .ref (md 15), .ref (md 16), .ref (md 17), .ref (md 18), .ref (md 19), .ref (md 20), .ref (md 21), .ref (md 22), .ref (md 23), .ref (md 24)])), (md 17, .inl (g.2.1 0, 400, .inl (r2_20))), (md 16, .inl (g.2.1 0, 64, .inl (w2_21))), (md 15, .inl (g.2.1 0, 8, .inl (s2_22))), (md 22, .inl (g.2.1 0, 64, .inl (kRW))), (md 18, .inl (g.2.1 0, 32, .inl (hmv tk (f k) (15 + ln)))), (md 19, .inl (g.2.1 0, 32, .inl (k2_23))), (md 21, .inl (g.2.1 0, 160, .inl (m2_24))), (md 3, .inl (g.2.1 0, 64, .inl (te))), (md 9, .inl (g.2.1 0, 1024, .inl (wr))), (md 2, .inl (g.2.1 0, 64, .inl (se))), (md 23, .inl (g.2.1 0, 16, .inl (wd))), (md 24, .inl (g.2.1 0, 16, .inl (mx))), (md 4, .inl (g.2.1 0, 2, .inl (szF epn))), (md 10, .inl (g.2.1 0, 8, .inl (szF z))), (md 6, .inl (g.2.1 2, 2, .inl (smf))), (md 7, .inl (g.2.1 1, 2, .inr (.inl (gtf)))), (md 8, .inl (g.2.1 2, 128, .inl (snf))), (md 13, .inl (g.2.1 0, 96, .inl (ibf)))]) [17, 9, 10, 11, 12, 13, 14, 15, 16, 18, 0, 1, 2, 3, 8, 4, 5, 6, 7] (by decide) rfl) (r2_20, w2_21, s2_22, hmv tk (f k) (15 + ln), k2_23, m2_24) (rfl) (rfl) (by omega) (by omega) dX7_deliver_260
                            · skip
                              have c40 : ¬ (lowU ((gtf 1) - (nAt (f k) 5 8)) 64) := bI_f c40
                              exact absurd hfar c40
                    · skip
                      have c25 : ¬ 16 ≤ q := fun q => c25 (((nI_leI (by omega) (by omega)).mpr q))
                      refine lv_aload_n hx hb dX7_deliver_130 rfl (lv_at hl 1 rfl) ?_
                      refine r_get (ci := 7) (v := .ref (md 9)) (C := RX7) (T := TX7) (N := 25) hx hb hts hinX7 hown h0 hw 9 rfl rfl 9 (by decide) k36 rfl dX7_deliver_131 ?_
                      refine lv_iload_n hx hb dX7_deliver_134 rfl (lv_at hl 3 rfl) ?_
                      refine lv_bipush (v := nI 15) hx hb dX7_deliver_135 (by decide +kernel) ?_
                      refine lv_iadd hx hb dX7_deliver_137 ?_
                      refine r_te (y := nI (128 * k + 15)) (nI_add (128 * k) 15) ?_
                      refine lv_iload hx hb dX7_deliver_138 (lv_at hl 5 rfl) ?_
                      refine lv_iadd hx hb dX7_deliver_140 ?_
                      refine r_te (y := nI (128 * k + 15 + ln)) (nI_add (128 * k + 15) ln) ?_
                      refine lv_iload hx hb dX7_deliver_141 (lv_at hl 0 rfl) ?_
                      refine lv_iadd hx hb dX7_deliver_143 ?_
                      refine r_te (y := nI (128 * k + 15 + ln + q)) (nI_add (128 * k + 15 + ln) q) ?_
                      refine r_iald hx hb h0 hw 18 rfl (i := 128 * k + 15 + ln + q) (by omega) (by omega) dX7_deliver_144 ?_
                      refine r_te (y := f k (15 + ln + q)) (by first | exact hwr (15 + ln + q) (by omega) | (have := hwr (15 + ln + q) (by omega); simpa [Nat.add_assoc] using this)) ?_
                      refine lv_aload_n hx hb dX7_deliver_145 rfl (lv_at hl 1 rfl) ?_
                      refine r_get (ci := 7) (v := .ref (md 18)) (C := RX7) (T := TX7) (N := 25) hx hb hts hinX7 hown h0 hw 9 rfl rfl 18 (by decide) k57 rfl dX7_deliver_146 ?_
                      refine lv_iload hx hb dX7_deliver_149 (lv_at hl 0 rfl) ?_
                      refine r_iald hx hb h0 hw 14 rfl (i := q) (by omega) (by omega) dX7_deliver_151 ?_
                      refine lv_icmp_eq (tgt := 157) hx hb dX7_deliver_152 (by decide) (fun c43 => ?_) (fun c43 => ?_)
                      · skip
                        have cE := c43
                        refine lv_iinc (v := nI (q + 1)) (lv' := [(6, .int (nI (q + 1))), (0, .ref (md 25)), (1, .int (nI k)), (3, .int (nI (128 * k))), (4, .int (nI 1)), (5, .int (nI ln))]) hx hb dX7_deliver_157 hl (k := 0) rfl (nI_add q 1) (by decide) rfl (fun ls hl => ?_)
                        refine lv_goto (tgt := 123) hx hb dX7_deliver_160 (by decide) ?_
                        exact ih (q + 1) (by omega) (by omega) (fun j hj => (Nat.lt_succ_iff_lt_or_eq.mp hj).elim (hv j) (fun q9 => by rw [q9]; exact cE)) _ _ _ hw (lv_sub hl [0, 1, 2, 3, 4, 5] rfl)
                      · skip
                        exact absurd (htag q (by omega)) c43
                exact lp123 (16 - 0 + 1) 0 (by omega) (by omega) (fun j hj => absurd hj (Nat.not_lt_zero j)) _ _ _ hw (lv_sub hl [0, 4, 5, 3, 2, 1] rfl)
              · skip
                have c16 : ¬ (nAt (f k) 1 4) = ((nI (epn 1)).toInt64) := fun q => c16 ((lg_cmp_eq _ _).mpr q)
                exact absurd he3 c16
            · skip
              have c12 : ¬ (z k) = (15 + ln + 16) := fun q => c12 (((nI_eq (by omega) (by omega)).mpr q))
              exfalso; omega
      · skip
        rw [← nI_0] at c6
        have c6 : op = 0 := (nI_eq (by omega) (by omega)).mp c6
        exfalso; omega
    · skip
      rw [← nI_0] at c5
      have c5 : ¬ 0 = 0 := fun q => c5 (((nI_eq (by omega) (by omega)).mpr q))
      exfalso; omega

set_option maxHeartbeats 4000000 in
set_option maxRecDepth 100000 in
theorem c_X7_deliver_0a1 (l : Launch) (g : GE) (md : Nat → Nat) (op : Nat) (on : Nat) (inn : Nat) (rf : Nat → Int32) (wf : Nat → Int32) (sf : Nat → Int32) (dg : Nat → Int32) (kf : Nat → Int32) (mf : Nat → Int32) (te : Nat → Int32) (wr : Nat → Int32) (se : Nat → Int32) (wd : Nat → Int32) (mx : Nat → Int32) (epn : Nat → Nat) (z : Nat → Nat) (smf : Nat → Int32) (gtf : Nat → Int64) (snf : Nat → Int32) (ibf : Nat → Int32) (f : Nat → Nat → Int32) (k : Nat) (ek : Nat → Int32) (tk : Nat → Int32) (ln : Nat) (qq : Nat) (hop : ¬ op = 0) (hop2 : op < 2) (hk : k < 8) (hz1 : 31 ≤ z k) (hz2 : z k ≤ 127) (hwr : ∀ j, j < z k → wr (128 * k + j) = f k j) (hb8 : ∀ j, j < z k → f k j = f k j &&& nI 255) (hs0 : f k 0 = nI 1) (hln : (nAt (f k) 13 2).toInt32 = nI ln) (hl1 : z k = 31 + ln) (hl2 : ln ≤ 96) (he3 : nAt (f k) 1 4 = (nI (epn 1)).toInt64) (htk : EqB 32 (shf te (32 * 1)) tk) (hek : EqB 32 (shf se (32 * 1)) ek) (htag : tagOK (f k) (hmv tk (f k) (15 + ln)) (15 + ln)) (hsm : ¬ smf 1 = 0) (hlow : ¬ lowU (gtf 1) (nAt (f k) 5 8)) (hfar : lowU (gtf 1 - (nAt (f k) 5 8)) 64) (hqq : (gtf 1 - (nAt (f k) 5 8)).toInt32 = nI qq) (hq64 : qq < 64) (hse : snf (64 + qq) = 0) (sz : Nat) : MI l yX7_deliver wsX7_deliver { frames := 5, cells := 0, slots := 0, locals := 123 } g [.ref (md 25), .int (nI k), .int (nI 0)] [(md 25, .inr (7, [.ref (md 0), .int (nI op), .ref (md 2), .ref (md 3), .ref (md 4), .ref (md 5), .ref (md 6), .ref (md 7), .ref (md 8), .ref (md 9), .ref (md 10), .ref (md 11), .int (nI on), .ref (md 13), .int (nI inn), .ref (md 15), .ref (md 16), .ref (md 17), .ref (md 18), .ref (md 19), .ref (md 20), .ref (md 21), .ref (md 22), .ref (md 23), .ref (md 24)])), (md 17, .inl (g.2.1 0, 400, .inl (rf))), (md 16, .inl (g.2.1 0, 64, .inl (wf))), (md 15, .inl (g.2.1 0, 8, .inl (sf))), (md 22, .inl (g.2.1 0, 64, .inl (kRW))), (md 18, .inl (g.2.1 0, 32, .inl (dg))), (md 19, .inl (g.2.1 0, 32, .inl (kf))), (md 21, .inl (g.2.1 0, 160, .inl (mf))), (md 3, .inl (g.2.1 0, 64, .inl (te))), (md 9, .inl (g.2.1 0, 1024, .inl (wr))), (md 2, .inl (g.2.1 0, 64, .inl (se))), (md 23, .inl (g.2.1 0, 16, .inl (wd))), (md 24, .inl (g.2.1 0, 16, .inl (mx))), (md 4, .inl (g.2.1 0, 2, .inl (szF epn))), (md 10, .inl (g.2.1 0, 8, .inl (szF z))), (md 6, .inl (g.2.1 2, 2, .inl (smf))), (md 7, .inl (g.2.1 1, 2, .inr (.inl (gtf)))), (md 8, .inl (g.2.1 2, 128, .inl (snf))), (md 13, .inl (g.2.1 0, 96, .inl (ibf)))] sz (fun (r : Int32) (u : (Nat → Int32) × (Nat → Int32) × (Nat → Int32) × (Nat → Int32) × (Nat → Int32) × (Nat → Int32) × (Nat → Int32) × (Nat → Int32)) => r = nI 0) (fun (u : (Nat → Int32) × (Nat → Int32) × (Nat → Int32) × (Nat → Int32) × (Nat → Int32) × (Nat → Int32) × (Nat → Int32) × (Nat → Int32)) => [(md 25, .inr (7, [.ref (md 0), .int (nI op), .ref (md 2), .ref (md 3), .ref (md 4), .ref (md 5), .ref (md 6), .ref (md 7), .ref (md 8), .ref (md 9), .ref (md 10), .ref (md 11), .int (nI on), .ref (md 13), .int (nI ln), .ref (md 15), .ref (md 16), .ref (md 17), .ref (md 18), .ref (md 19), .ref (md 20), .ref (md 21), .ref (md 22), .ref (md 23), .ref (md 24)])), (md 17, .inl (g.2.1 0, 400, .inl (u.1))), (md 16, .inl (g.2.1 0, 64, .inl (u.2.1))), (md 15, .inl (g.2.1 0, 8, .inl (u.2.2.1))), (md 22, .inl (g.2.1 0, 64, .inl (kRW))), (md 18, .inl (g.2.1 0, 32, .inl (u.2.2.2.1))), (md 19, .inl (g.2.1 0, 32, .inl (u.2.2.2.2.1))), (md 21, .inl (g.2.1 0, 160, .inl (u.2.2.2.2.2.1))), (md 3, .inl (g.2.1 0, 64, .inl (te))), (md 9, .inl (g.2.1 0, 1024, .inl (wr))), (md 2, .inl (g.2.1 0, 64, .inl (se))), (md 23, .inl (g.2.1 0, 16, .inl (u.2.2.2.2.2.2.1))), (md 24, .inl (g.2.1 0, 16, .inl (u.2.2.2.2.2.2.2))), (md 4, .inl (g.2.1 0, 2, .inl (szF epn))), (md 10, .inl (g.2.1 0, 8, .inl (szF z))), (md 6, .inl (g.2.1 2, 2, .inl (smf))), (md 7, .inl (g.2.1 1, 2, .inr (.inl (gtf)))), (md 8, .inl (g.2.1 2, 128, .inl (upd snf (64 + qq) (nI 1)))), (md 13, .inl (g.2.1 0, 96, .inl (rdF ibf (f k) ek ln)))]) 0 0 := by
  refine enterI (by decide) rfl (Nat.le_of_ble_eq_true rfl) ?_
  intro p e s m below meth c A ls ar Q hE h0 hret hw hl
  obtain ⟨hx, hb, hr, hml, hown, hts, hlocks, hname⟩ := hE
  have hown : s.vm.findClass RX7 = some m.cls := hown
  have hw : WD g A s [(md 25, .inr (7, [.ref (md 0), .int (nI op), .ref (md 2), .ref (md 3), .ref (md 4), .ref (md 5), .ref (md 6), .ref (md 7), .ref (md 8), .ref (md 9), .ref (md 10), .ref (md 11), .int (nI on), .ref (md 13), .int (nI inn), .ref (md 15), .ref (md 16), .ref (md 17), .ref (md 18), .ref (md 19), .ref (md 20), .ref (md 21), .ref (md 22), .ref (md 23), .ref (md 24)])), (md 17, .inl (g.2.1 0, 400, .inl (rf))), (md 16, .inl (g.2.1 0, 64, .inl (wf))), (md 15, .inl (g.2.1 0, 8, .inl (sf))), (md 22, .inl (g.2.1 0, 64, .inl (kRW))), (md 18, .inl (g.2.1 0, 32, .inl (dg))), (md 19, .inl (g.2.1 0, 32, .inl (kf))), (md 21, .inl (g.2.1 0, 160, .inl (mf))), (md 3, .inl (g.2.1 0, 64, .inl (te))), (md 9, .inl (g.2.1 0, 1024, .inl (wr))), (md 2, .inl (g.2.1 0, 64, .inl (se))), (md 23, .inl (g.2.1 0, 16, .inl (wd))), (md 24, .inl (g.2.1 0, 16, .inl (mx))), (md 4, .inl (g.2.1 0, 2, .inl (szF epn))), (md 10, .inl (g.2.1 0, 8, .inl (szF z))), (md 6, .inl (g.2.1 2, 2, .inl (smf))), (md 7, .inl (g.2.1 1, 2, .inr (.inl (gtf)))), (md 8, .inl (g.2.1 2, 128, .inl (snf))), (md 13, .inl (g.2.1 0, 96, .inl (ibf)))] [] s.heap [] := hw
  have hinX7 : ∀ w ∈ u_ws RX7 TX7 25, w ∈ wsX7_deliver := by decide +kernel
  have k19 := hts (.fieldLink RX7 19 "RecordWireModel" "epochs" "[I") (by decide +kernel)
  have k26 := hts (.fieldLink RX7 26 "RecordWireModel" "some" "[Z") (by decide +kernel)
  have k30 := hts (.fieldLink RX7 30 "RecordWireModel" "greatest" "[J") (by decide +kernel)
  have k33 := hts (.fieldLink RX7 33 "RecordWireModel" "seen" "[Z") (by decide +kernel)
  have k36 := hts (.fieldLink RX7 36 "RecordWireModel" "wire" "[I") (by decide +kernel)
  have k39 := hts (.fieldLink RX7 39 "RecordWireModel" "sizes" "[I") (by decide +kernel)
  have k45 := hts (.fieldLink RX7 45 "RecordWireModel" "inbox" "[I") (by decide +kernel)
  have k57 := hts (.fieldLink RX7 57 "RecordWireModel" "digest" "[I") (by decide +kernel)
  have k145 := hts (.fieldLink RX7 145 "RecordWireModel" "isOpen" "Z") (by decide +kernel)
  have k153 := hts (.fieldLink RX7 153 "RecordWireModel" "inSize" "I") (by decide +kernel)
  have k227 := hts (.constantLong RX7 227 (64)) (by decide +kernel)
  have h5 : kwd (shf wr (128 * k)) 5 = kwd (f k) 5 := kwd_eq (hwr 5 (by omega)) (hwr 6 (by omega)) (hwr 7 (by omega)) (hwr 8 (by omega))
  have h9 : kwd (shf wr (128 * k)) 9 = kwd (f k) 9 := kwd_eq (hwr 9 (by omega)) (hwr 10 (by omega)) (hwr 11 (by omega)) (hwr 12 (by omega))
  have hl : lv_has ls 15 [(0, .ref (md 25)), (1, .int (nI k)), (2, .int (nI 0))] := hl
  refine lv_aload_n hx hb dX7_deliver_0 rfl (lv_at hl 0 rfl) ?_
  refine lv_iload_n hx hb dX7_deliver_1 rfl (lv_at hl 1 rfl) ?_
  refine r_calli (wr := [(md 17, .inl (g.2.1 0, 400, .inl (rf))), (md 16, .inl (g.2.1 0, 64, .inl (wf))), (md 15, .inl (g.2.1 0, 8, .inl (sf))), (md 22, .inl (g.2.1 0, 64, .inl (kRW))), (md 18, .inl (g.2.1 0, 32, .inl (dg))), (md 19, .inl (g.2.1 0, 32, .inl (kf))), (md 21, .inl (g.2.1 0, 160, .inl (mf))), (md 3, .inl (g.2.1 0, 64, .inl (te))), (md 9, .inl (g.2.1 0, 1024, .inl (wr))), (md 2, .inl (g.2.1 0, 64, .inl (se))), (md 23, .inl (g.2.1 0, 16, .inl (wd))), (md 24, .inl (g.2.1 0, 16, .inl (mx))), (md 4, .inl (g.2.1 0, 2, .inl (szF epn))), (md 6, .inl (g.2.1 2, 2, .inl (smf))), (md 7, .inl (g.2.1 1, 2, .inr (.inl (gtf)))), (md 8, .inl (g.2.1 2, 128, .inl (snf))), (md 13, .inl (g.2.1 0, 96, .inl (ibf)))]) [0, 14] [1, 2, 3, 4, 5, 6, 7, 8, 9, 10, 11, 12, 13, 15, 16, 17, 18] h0 hw rfl rfl (by decide) (by decide) (va_runV (As := [.int (nI k)]) (rest := []) ⟨hx, hb, hml, hown, hts⟩ (c_X7_isSlot l g md op on inn z k (by omega) (by omega) _) (cwV 1 hts gX7_deliver_X7_isSlot rfl rfl rfl (by decide +kernel) ⟨Nat.le_of_ble_eq_true rfl, Nat.le_of_ble_eq_true rfl⟩) (preV_of [0, 14] [.int (nI k)] h0 hw rfl (by decide) 0 7 rfl rfl) rfl rfl hl.1 rfl (lv_room (Nat.le_of_ble_eq_true rfl)) dX7_deliver_2 ⟨Nat.le_of_ble_eq_true rfl, Nat.le_of_ble_eq_true rfl⟩) (fun r1 u2 H locs hp3 hw => ?_)
  have hw : WD g A s [(md 17, .inl (g.2.1 0, 400, .inl (rf))), (md 16, .inl (g.2.1 0, 64, .inl (wf))), (md 15, .inl (g.2.1 0, 8, .inl (sf))), (md 22, .inl (g.2.1 0, 64, .inl (kRW))), (md 18, .inl (g.2.1 0, 32, .inl (dg))), (md 19, .inl (g.2.1 0, 32, .inl (kf))), (md 21, .inl (g.2.1 0, 160, .inl (mf))), (md 3, .inl (g.2.1 0, 64, .inl (te))), (md 9, .inl (g.2.1 0, 1024, .inl (wr))), (md 2, .inl (g.2.1 0, 64, .inl (se))), (md 23, .inl (g.2.1 0, 16, .inl (wd))), (md 24, .inl (g.2.1 0, 16, .inl (mx))), (md 4, .inl (g.2.1 0, 2, .inl (szF epn))), (md 6, .inl (g.2.1 2, 2, .inl (smf))), (md 7, .inl (g.2.1 1, 2, .inr (.inl (gtf)))), (md 8, .inl (g.2.1 2, 128, .inl (snf))), (md 13, .inl (g.2.1 0, 96, .inl (ibf))), (md 25, .inr (7, [.ref (md 0), .int (nI op), .ref (md 2), .ref (md 3), .ref (md 4), .ref (md 5), .ref (md 6), .ref (md 7), .ref (md 8), .ref (md 9), .ref (md 10), .ref (md 11), .int (nI on), .ref (md 13), .int (nI inn), .ref (md 15), .ref (md 16), .ref (md 17), .ref (md 18), .ref (md 19), .ref (md 20), .ref (md 21), .ref (md 22), .ref (md 23), .ref (md 24)])), (md 10, .inl (g.2.1 0, 8, .inl (szF z)))] [] H locs := hw
  subst hp3
  refine lv_if_eq (tgt := 24) hx hb dX7_deliver_5 (by decide) (fun c4 => ?_) (fun c4 => ?_)
  · skip
    have c4 : ¬ (¬ z k = 0) := bI_f c4
    exact absurd (by omega) c4
  · skip
    have c4 : ¬ z k = 0 := bI_t c4
    refine lv_iload_n hx hb dX7_deliver_8 rfl (lv_at hl 2 rfl) ?_
    refine lv_if_eq (tgt := 17) hx hb dX7_deliver_9 (by decide) (fun c5 => ?_) (fun c5 => ?_)
    · skip
      rw [← nI_0] at c5
      have c5 : 0 = 0 := (nI_eq (by omega) (by omega)).mp c5
      refine lv_aload_n hx hb dX7_deliver_17 rfl (lv_at hl 0 rfl) ?_
      refine r_get (ci := 7) (v := .int (nI op)) (C := RX7) (T := TX7) (N := 25) hx hb hts hinX7 hown h0 hw 17 rfl rfl 1 (by decide) k145 rfl dX7_deliver_18 ?_
      refine lv_if_ne (tgt := 26) hx hb dX7_deliver_21 (by decide) (fun c6 => ?_) (fun c6 => ?_)
      · skip
        rw [← nI_0] at c6
        have c6 : ¬ op = 0 := fun q => c6 (((nI_eq (by omega) (by omega)).mpr q))
        refine lv_sipush (v := nI 128) hx hb dX7_deliver_26 (by decide +kernel) ?_
        refine lv_iload_n hx hb dX7_deliver_29 rfl (lv_at hl 1 rfl) ?_
        refine lv_imul hx hb dX7_deliver_30 ?_
        refine r_te (y := nI (128 * k)) (pk_mul 128 k) ?_
        refine lv_istore_n (lv' := [(3, .int (nI (128 * k))), (0, .ref (md 25)), (1, .int (nI k)), (2, .int (nI 0))]) hx hb dX7_deliver_31 rfl hl (by decide) rfl (fun ls hl => ?_)
        refine lv_iconst (v := nI 1) hx hb dX7_deliver_32 (by decide +kernel) ?_
        refine lv_iload_n hx hb dX7_deliver_33 rfl (lv_at hl 3 rfl) ?_
        refine lv_isub hx hb dX7_deliver_34 ?_
        refine r_te (y := nI 1) (pk_sub (by omega)) ?_
        refine lv_istore (lv' := [(4, .int (nI 1)), (3, .int (nI (128 * k))), (0, .ref (md 25)), (1, .int (nI k)), (2, .int (nI 0))]) hx hb dX7_deliver_35 hl (by decide) rfl (fun ls hl => ?_)
        refine lv_aload_n hx hb dX7_deliver_37 rfl (lv_at hl 2 rfl) ?_
        refine lv_iload_n hx hb dX7_deliver_38 rfl (lv_at hl 1 rfl) ?_
        refine lv_bipush (v := nI 13) hx hb dX7_deliver_39 (by decide +kernel) ?_
        refine lv_iadd hx hb dX7_deliver_41 ?_
        refine r_te (y := nI (128 * k + 13)) (nI_add (128 * k) 13) ?_
        refine lv_iconst (v := nI 2) hx hb dX7_deliver_42 (by decide +kernel) ?_
        refine r_calll (wr := [(md 17, .inl (g.2.1 0, 400, .inl (rf))), (md 16, .inl (g.2.1 0, 64, .inl (wf))), (md 15, .inl (g.2.1 0, 8, .inl (sf))), (md 22, .inl (g.2.1 0, 64, .inl (kRW))), (md 18, .inl (g.2.1 0, 32, .inl (dg))), (md 19, .inl (g.2.1 0, 32, .inl (kf))), (md 21, .inl (g.2.1 0, 160, .inl (mf))), (md 3, .inl (g.2.1 0, 64, .inl (te))), (md 2, .inl (g.2.1 0, 64, .inl (se))), (md 23, .inl (g.2.1 0, 16, .inl (wd))), (md 24, .inl (g.2.1 0, 16, .inl (mx))), (md 4, .inl (g.2.1 0, 2, .inl (szF epn))), (md 6, .inl (g.2.1 2, 2, .inl (smf))), (md 7, .inl (g.2.1 1, 2, .inr (.inl (gtf)))), (md 8, .inl (g.2.1 2, 128, .inl (snf))), (md 13, .inl (g.2.1 0, 96, .inl (ibf))), (md 10, .inl (g.2.1 0, 8, .inl (szF z)))]) [17, 8] [0, 1, 2, 3, 4, 5, 6, 7, 9, 10, 11, 12, 13, 14, 15, 16, 18] h0 hw rfl rfl (by decide) (by decide) (va_runV (As := [.int (nI (128 * k + 13)), .int (nI 2)]) (rest := []) ⟨hx, hb, hml, hown, hts⟩ (c_X7_numberAt l g md op on inn wr (128 * k + 13) 2 (by omega) (fun j hj => by rw [Nat.add_assoc, hwr (13 + j) (by omega)]; exact hb8 (13 + j) (by omega)) _) (cwV 2 hts gX7_deliver_X7_numberAt rfl rfl rfl (by decide +kernel) ⟨Nat.le_of_ble_eq_true rfl, Nat.le_of_ble_eq_true rfl⟩) (preV_of [17, 8] [.int (nI (128 * k + 13)), .int (nI 2)] h0 hw rfl (by decide) 17 7 rfl rfl) rfl rfl hl.1 rfl (lv_room (Nat.le_of_ble_eq_true rfl)) dX7_deliver_43 ⟨Nat.le_of_ble_eq_true rfl, Nat.le_of_ble_eq_true rfl⟩) (fun r7 u8 H locs hp9 hw => ?_)
        have hw : WD g A s [(md 17, .inl (g.2.1 0, 400, .inl (rf))), (md 16, .inl (g.2.1 0, 64, .inl (wf))), (md 15, .inl (g.2.1 0, 8, .inl (sf))), (md 22, .inl (g.2.1 0, 64, .inl (kRW))), (md 18, .inl (g.2.1 0, 32, .inl (dg))), (md 19, .inl (g.2.1 0, 32, .inl (kf))), (md 21, .inl (g.2.1 0, 160, .inl (mf))), (md 3, .inl (g.2.1 0, 64, .inl (te))), (md 2, .inl (g.2.1 0, 64, .inl (se))), (md 23, .inl (g.2.1 0, 16, .inl (wd))), (md 24, .inl (g.2.1 0, 16, .inl (mx))), (md 4, .inl (g.2.1 0, 2, .inl (szF epn))), (md 6, .inl (g.2.1 2, 2, .inl (smf))), (md 7, .inl (g.2.1 1, 2, .inr (.inl (gtf)))), (md 8, .inl (g.2.1 2, 128, .inl (snf))), (md 13, .inl (g.2.1 0, 96, .inl (ibf))), (md 10, .inl (g.2.1 0, 8, .inl (szF z))), (md 25, .inr (7, [.ref (md 0), .int (nI op), .ref (md 2), .ref (md 3), .ref (md 4), .ref (md 5), .ref (md 6), .ref (md 7), .ref (md 8), .ref (md 9), .ref (md 10), .ref (md 11), .int (nI on), .ref (md 13), .int (nI inn), .ref (md 15), .ref (md 16), .ref (md 17), .ref (md 18), .ref (md 19), .ref (md 20), .ref (md 21), .ref (md 22), .ref (md 23), .ref (md 24)])), (md 9, .inl (g.2.1 0, 1024, .inl (wr)))] [] H locs := hw
        subst hp9
        refine r_tel (y := nAt (f k) 13 2) (nAt_eq 2 (fun j hj => by rw [Nat.add_assoc]; exact hwr (13 + j) (by omega))) ?_
        refine lv_l2i (v := (nAt (f k) 13 2).toInt32) hx hb dX7_deliver_46 rfl ?_
        refine r_te (y := nI ln) hln ?_
        refine lv_istore (lv' := [(5, .int (nI ln)), (4, .int (nI 1)), (3, .int (nI (128 * k))), (0, .ref (md 25)), (1, .int (nI k)), (2, .int (nI 0))]) hx hb dX7_deliver_47 hl (by decide) rfl (fun ls hl => ?_)
        refine lv_aload_n hx hb dX7_deliver_49 rfl (lv_at hl 3 rfl) ?_
        refine r_get (ci := 7) (v := .ref (md 9)) (C := RX7) (T := TX7) (N := 25) hx hb hts hinX7 hown h0 hw 17 rfl rfl 9 (by decide) k36 rfl dX7_deliver_50 ?_
        refine lv_iload_n hx hb dX7_deliver_53 rfl (lv_at hl 2 rfl) ?_
        refine r_iald hx hb h0 hw 18 rfl (i := 128 * k) (by omega) (by omega) dX7_deliver_54 ?_
        refine r_te (y := f k (0)) (by first | exact hwr (0) (by omega) | (have := hwr (0) (by omega); simpa [Nat.add_assoc] using this)) ?_
        refine lv_iload hx hb dX7_deliver_55 (lv_at hl 1 rfl) ?_
        refine lv_icmp_ne (tgt := 84) hx hb dX7_deliver_57 (by decide) (fun c10 => ?_) (fun c10 => ?_)
        · skip
          exact absurd hs0 c10
        · skip
          refine lv_iload hx hb dX7_deliver_60 (lv_at hl 0 rfl) ?_
          refine lv_bipush (v := nI 96) hx hb dX7_deliver_62 (by decide +kernel) ?_
          refine lv_icmp_gt (tgt := 84) hx hb dX7_deliver_64 (by decide) (fun c11 => ?_) (fun c11 => ?_)
          · skip
            have c11 : 96 < ln := (nI_ltI (by omega) (by omega)).mp c11
            exfalso; omega
          · skip
            have c11 : ¬ 96 < ln := fun q => c11 (((nI_ltI (by omega) (by omega)).mpr q))
            refine lv_aload_n hx hb dX7_deliver_67 rfl (lv_at hl 3 rfl) ?_
            refine r_get (ci := 7) (v := .ref (md 10)) (C := RX7) (T := TX7) (N := 25) hx hb hts hinX7 hown h0 hw 17 rfl rfl 10 (by decide) k39 rfl dX7_deliver_68 ?_
            refine lv_iload_n hx hb dX7_deliver_71 rfl (lv_at hl 4 rfl) ?_
            refine r_iald hx hb h0 hw 16 rfl (i := k) (by omega) (by omega) dX7_deliver_72 ?_
            refine r_te (y := nI (z k)) rfl ?_
            refine lv_bipush (v := nI 15) hx hb dX7_deliver_73 (by decide +kernel) ?_
            refine lv_iload hx hb dX7_deliver_75 (lv_at hl 0 rfl) ?_
            refine lv_iadd hx hb dX7_deliver_77 ?_
            refine r_te (y := nI (15 + ln)) (nI_add 15 ln) ?_
            refine lv_bipush (v := nI 16) hx hb dX7_deliver_78 (by decide +kernel) ?_
            refine lv_iadd hx hb dX7_deliver_80 ?_
            refine r_te (y := nI (15 + ln + 16)) (nI_add (15 + ln) 16) ?_
            refine lv_icmp_eq (tgt := 86) hx hb dX7_deliver_81 (by decide) (fun c12 => ?_) (fun c12 => ?_)
            · skip
              have c12 : (z k) = (15 + ln + 16) := (nI_eq (by omega) (by omega)).mp c12
              refine lv_aload_n hx hb dX7_deliver_86 rfl (lv_at hl 3 rfl) ?_
              refine lv_iload_n hx hb dX7_deliver_87 rfl (lv_at hl 2 rfl) ?_
              refine lv_iconst (v := nI 1) hx hb dX7_deliver_88 (by decide +kernel) ?_
              refine lv_iadd hx hb dX7_deliver_89 ?_
              refine r_te (y := nI (128 * k + 1)) (nI_add (128 * k) 1) ?_
              refine lv_iconst (v := nI 4) hx hb dX7_deliver_90 (by decide +kernel) ?_
              refine r_calll (wr := [(md 17, .inl (g.2.1 0, 400, .inl (rf))), (md 16, .inl (g.2.1 0, 64, .inl (wf))), (md 15, .inl (g.2.1 0, 8, .inl (sf))), (md 22, .inl (g.2.1 0, 64, .inl (kRW))), (md 18, .inl (g.2.1 0, 32, .inl (dg))), (md 19, .inl (g.2.1 0, 32, .inl (kf))), (md 21, .inl (g.2.1 0, 160, .inl (mf))), (md 3, .inl (g.2.1 0, 64, .inl (te))), (md 2, .inl (g.2.1 0, 64, .inl (se))), (md 23, .inl (g.2.1 0, 16, .inl (wd))), (md 24, .inl (g.2.1 0, 16, .inl (mx))), (md 4, .inl (g.2.1 0, 2, .inl (szF epn))), (md 6, .inl (g.2.1 2, 2, .inl (smf))), (md 7, .inl (g.2.1 1, 2, .inr (.inl (gtf)))), (md 8, .inl (g.2.1 2, 128, .inl (snf))), (md 13, .inl (g.2.1 0, 96, .inl (ibf))), (md 10, .inl (g.2.1 0, 8, .inl (szF z)))]) [17, 18] [0, 1, 2, 3, 4, 5, 6, 7, 8, 9, 10, 11, 12, 13, 14, 15, 16] h0 hw rfl rfl (by decide) (by decide) (va_runV (As := [.int (nI (128 * k + 1)), .int (nI 4)]) (rest := []) ⟨hx, hb, hml, hown, hts⟩ (c_X7_numberAt l g md op on inn wr (128 * k + 1) 4 (by omega) (fun j hj => by rw [Nat.add_assoc, hwr (1 + j) (by omega)]; exact hb8 (1 + j) (by omega)) _) (cwV 2 hts gX7_deliver_X7_numberAt rfl rfl rfl (by decide +kernel) ⟨Nat.le_of_ble_eq_true rfl, Nat.le_of_ble_eq_true rfl⟩) (preV_of [17, 18] [.int (nI (128 * k + 1)), .int (nI 4)] h0 hw rfl (by decide) 17 7 rfl rfl) rfl rfl hl.1 rfl (lv_room (Nat.le_of_ble_eq_true rfl)) dX7_deliver_91 ⟨Nat.le_of_ble_eq_true rfl, Nat.le_of_ble_eq_true rfl⟩) (fun r13 u14 H locs hp15 hw => ?_)
              have hw : WD g A s [(md 17, .inl (g.2.1 0, 400, .inl (rf))), (md 16, .inl (g.2.1 0, 64, .inl (wf))), (md 15, .inl (g.2.1 0, 8, .inl (sf))), (md 22, .inl (g.2.1 0, 64, .inl (kRW))), (md 18, .inl (g.2.1 0, 32, .inl (dg))), (md 19, .inl (g.2.1 0, 32, .inl (kf))), (md 21, .inl (g.2.1 0, 160, .inl (mf))), (md 3, .inl (g.2.1 0, 64, .inl (te))), (md 2, .inl (g.2.1 0, 64, .inl (se))), (md 23, .inl (g.2.1 0, 16, .inl (wd))), (md 24, .inl (g.2.1 0, 16, .inl (mx))), (md 4, .inl (g.2.1 0, 2, .inl (szF epn))), (md 6, .inl (g.2.1 2, 2, .inl (smf))), (md 7, .inl (g.2.1 1, 2, .inr (.inl (gtf)))), (md 8, .inl (g.2.1 2, 128, .inl (snf))), (md 13, .inl (g.2.1 0, 96, .inl (ibf))), (md 10, .inl (g.2.1 0, 8, .inl (szF z))), (md 25, .inr (7, [.ref (md 0), .int (nI op), .ref (md 2), .ref (md 3), .ref (md 4), .ref (md 5), .ref (md 6), .ref (md 7), .ref (md 8), .ref (md 9), .ref (md 10), .ref (md 11), .int (nI on), .ref (md 13), .int (nI inn), .ref (md 15), .ref (md 16), .ref (md 17), .ref (md 18), .ref (md 19), .ref (md 20), .ref (md 21), .ref (md 22), .ref (md 23), .ref (md 24)])), (md 9, .inl (g.2.1 0, 1024, .inl (wr)))] [] H locs := hw
              subst hp15
              refine r_tel (y := nAt (f k) 1 4) (nAt_eq 4 (fun j hj => by rw [Nat.add_assoc]; exact hwr (1 + j) (by omega))) ?_
              refine lv_aload_n hx hb dX7_deliver_94 rfl (lv_at hl 3 rfl) ?_
              refine r_get (ci := 7) (v := .ref (md 4)) (C := RX7) (T := TX7) (N := 25) hx hb hts hinX7 hown h0 hw 17 rfl rfl 4 (by decide) k19 rfl dX7_deliver_95 ?_
              refine lv_iload hx hb dX7_deliver_98 (lv_at hl 1 rfl) ?_
              refine r_iald hx hb h0 hw 11 rfl (i := 1) (by omega) (by omega) dX7_deliver_100 ?_
              refine r_te (y := nI (epn 1)) rfl ?_
              refine lv_i2l (v := (nI (epn 1)).toInt64) hx hb dX7_deliver_101 rfl ?_
              refine W.lcmp hx hb dX7_deliver_102 ?_
              refine lv_if_eq (tgt := 108) hx hb dX7_deliver_103 (by decide) (fun c16 => ?_) (fun c16 => ?_)
              · skip
                have c16 : (nAt (f k) 1 4) = ((nI (epn 1)).toInt64) := (lg_cmp_eq _ _).mp c16
                refine lv_aload_n hx hb dX7_deliver_108 rfl (lv_at hl 3 rfl) ?_
                refine lv_iload hx hb dX7_deliver_109 (lv_at hl 1 rfl) ?_
                refine lv_iload_n hx hb dX7_deliver_111 rfl (lv_at hl 4 rfl) ?_
                refine lv_bipush (v := nI 15) hx hb dX7_deliver_112 (by decide +kernel) ?_
                refine lv_iload hx hb dX7_deliver_114 (lv_at hl 0 rfl) ?_
                refine lv_iadd hx hb dX7_deliver_116 ?_
                refine r_te (y := nI (15 + ln)) (nI_add 15 ln) ?_
                refine r_callv (wr := [(md 2, .inl (g.2.1 0, 64, .inl (se))), (md 23, .inl (g.2.1 0, 16, .inl (wd))), (md 24, .inl (g.2.1 0, 16, .inl (mx))), (md 4, .inl (g.2.1 0, 2, .inl (szF epn))), (md 6, .inl (g.2.1 2, 2, .inl (smf))), (md 7, .inl (g.2.1 1, 2, .inr (.inl (gtf)))), (md 8, .inl (g.2.1 2, 128, .inl (snf))), (md 13, .inl (g.2.1 0, 96, .inl (ibf))), (md 10, .inl (g.2.1 0, 8, .inl (szF z)))]) [17, 0, 1, 2, 3, 4, 5, 6, 7, 18] [8, 9, 10, 11, 12, 13, 14, 15, 16] h0 hw rfl rfl (by decide) (by decide) (va_runV (As := [.int (nI 1), .int (nI k), .int (nI (15 + ln))]) (rest := []) ⟨hx, hb, hml, hown, hts⟩ (c_X7_tag l g md op on inn rf wf sf dg kf mf te wr 1 k (15 + ln) (by omega) (by omega) (by omega) _) (cwV 3 hts gX7_deliver_X7_tag rfl rfl rfl (by decide +kernel) ⟨Nat.le_of_ble_eq_true rfl, Nat.le_of_ble_eq_true rfl⟩) (preV_of [17, 0, 1, 2, 3, 4, 5, 6, 7, 18] [.int (nI 1), .int (nI k), .int (nI (15 + ln))] h0 hw rfl (by decide) 17 7 rfl rfl) rfl rfl hl.1 rfl (lv_room (Nat.le_of_ble_eq_true rfl)) dX7_deliver_117 ⟨Nat.le_of_ble_eq_true rfl, Nat.le_of_ble_eq_true rfl⟩) (fun u18 H locs hp19 hw => ?_)
                obtain ⟨r2_20, w2_21, s2_22, k2_23, m2_24⟩ := u18
                have hw : WD g A s [(md 2, .inl (g.2.1 0, 64, .inl (se))), (md 23, .inl (g.2.1 0, 16, .inl (wd))), (md 24, .inl (g.2.1 0, 16, .inl (mx))), (md 4, .inl (g.2.1 0, 2, .inl (szF epn))), (md 6, .inl (g.2.1 2, 2, .inl (smf))), (md 7, .inl (g.2.1 1, 2, .inr (.inl (gtf)))), (md 8, .inl (g.2.1 2, 128, .inl (snf))), (md 13, .inl (g.2.1 0, 96, .inl (ibf))), (md 10, .inl (g.2.1 0, 8, .inl (szF z))), (md 25, .inr (7, [.ref (md 0), .int (nI op), .ref (md 2), .ref (md 3), .ref (md 4), .ref (md 5), .ref (md 6), .ref (md 7), .ref (md 8), .ref (md 9), .ref (md 10), .ref (md 11), .int (nI on), .ref (md 13), .int (nI inn), .ref (md 15), .ref (md 16), .ref (md 17), .ref (md 18), .ref (md 19), .ref (md 20), .ref (md 21), .ref (md 22), .ref (md 23), .ref (md 24)])), (md 17, .inl (g.2.1 0, 400, .inl (r2_20))), (md 16, .inl (g.2.1 0, 64, .inl (w2_21))), (md 15, .inl (g.2.1 0, 8, .inl (s2_22))), (md 22, .inl (g.2.1 0, 64, .inl (kRW))), (md 18, .inl (g.2.1 0, 32, .inl (hmv (shf te (32 * 1)) (shf wr (128 * k)) (15 + ln)))), (md 19, .inl (g.2.1 0, 32, .inl (k2_23))), (md 21, .inl (g.2.1 0, 160, .inl (m2_24))), (md 3, .inl (g.2.1 0, 64, .inl (te))), (md 9, .inl (g.2.1 0, 1024, .inl (wr)))] [] H locs := hw
                have hw := hw.cong 14 rfl (f' := hmv tk (f k) (15 + ln)) (hmv_cong htk (fun j hj => hwr j (by omega)))
                have hw : WD g A s [(md 2, .inl (g.2.1 0, 64, .inl (se))), (md 23, .inl (g.2.1 0, 16, .inl (wd))), (md 24, .inl (g.2.1 0, 16, .inl (mx))), (md 4, .inl (g.2.1 0, 2, .inl (szF epn))), (md 6, .inl (g.2.1 2, 2, .inl (smf))), (md 7, .inl (g.2.1 1, 2, .inr (.inl (gtf)))), (md 8, .inl (g.2.1 2, 128, .inl (snf))), (md 13, .inl (g.2.1 0, 96, .inl (ibf))), (md 10, .inl (g.2.1 0, 8, .inl (szF z))), (md 25, .inr (7, [.ref (md 0), .int (nI op), .ref (md 2), .ref (md 3), .ref (md 4), .ref (md 5), .ref (md 6), .ref (md 7), .ref (md 8), .ref (md 9), .ref (md 10), .ref (md 11), .int (nI on), .ref (md 13), .int (nI inn), .ref (md 15), .ref (md 16), .ref (md 17), .ref (md 18), .ref (md 19), .ref (md 20), .ref (md 21), .ref (md 22), .ref (md 23), .ref (md 24)])), (md 17, .inl (g.2.1 0, 400, .inl (r2_20))), (md 16, .inl (g.2.1 0, 64, .inl (w2_21))), (md 15, .inl (g.2.1 0, 8, .inl (s2_22))), (md 22, .inl (g.2.1 0, 64, .inl (kRW))), (md 18, .inl (g.2.1 0, 32, .inl (hmv tk (f k) (15 + ln)))), (md 19, .inl (g.2.1 0, 32, .inl (k2_23))), (md 21, .inl (g.2.1 0, 160, .inl (m2_24))), (md 3, .inl (g.2.1 0, 64, .inl (te))), (md 9, .inl (g.2.1 0, 1024, .inl (wr)))] [] _ _ := hw
                refine lv_iconst (v := nI 0) hx hb dX7_deliver_120 (by decide +kernel) ?_
                refine lv_istore (lv' := [(6, .int (nI 0)), (5, .int (nI ln)), (4, .int (nI 1)), (3, .int (nI (128 * k))), (0, .ref (md 25)), (1, .int (nI k)), (2, .int (nI 0))]) hx hb dX7_deliver_121 hl (by decide) rfl (fun ls hl => ?_)
                have lp123 : ∀ (fu : Nat) (q : Nat), 16 - q < fu → (q ≤ 16) → (∀ j, j < q → f k (15 + ln + j) = hmv tk (f k) (15 + ln) j) → ∀ (H : Heap) (locs : List Loc) (ls : Array Slot), WD g A s [(md 2, .inl (g.2.1 0, 64, .inl (se))), (md 23, .inl (g.2.1 0, 16, .inl (wd))), (md 24, .inl (g.2.1 0, 16, .inl (mx))), (md 4, .inl (g.2.1 0, 2, .inl (szF epn))), (md 6, .inl (g.2.1 2, 2, .inl (smf))), (md 7, .inl (g.2.1 1, 2, .inr (.inl (gtf)))), (md 8, .inl (g.2.1 2, 128, .inl (snf))), (md 13, .inl (g.2.1 0, 96, .inl (ibf))), (md 10, .inl (g.2.1 0, 8, .inl (szF z))), (md 25, .inr (7, [.ref (md 0), .int (nI op), .ref (md 2), .ref (md 3), .ref (md 4), .ref (md 5), .ref (md 6), .ref (md 7), .ref (md 8), .ref (md 9), .ref (md 10), .ref (md 11), .int (nI on), .ref (md 13), .int (nI inn), .ref (md 15), .ref (md 16), .ref (md 17), .ref (md 18), .ref (md 19), .ref (md 20), .ref (md 21), .ref (md 22), .ref (md 23), .ref (md 24)])), (md 17, .inl (g.2.1 0, 400, .inl (r2_20))), (md 16, .inl (g.2.1 0, 64, .inl (w2_21))), (md 15, .inl (g.2.1 0, 8, .inl (s2_22))), (md 22, .inl (g.2.1 0, 64, .inl (kRW))), (md 18, .inl (g.2.1 0, 32, .inl (hmv tk (f k) (15 + ln)))), (md 19, .inl (g.2.1 0, 32, .inl (k2_23))), (md 21, .inl (g.2.1 0, 160, .inl (m2_24))), (md 3, .inl (g.2.1 0, 64, .inl (te))), (md 9, .inl (g.2.1 0, 1024, .inl (wr)))] [] H locs → lv_has ls 15 [(6, .int (nI q)), (0, .ref (md 25)), (1, .int (nI k)), (3, .int (nI (128 * k))), (4, .int (nI 1)), (5, .int (nI ln))] → W p l e { frames := 5, cells := 0, slots := 0, locals := 123 } s m ar below meth c H locs 0 0 Q (F0 m 123 ls []) := by
                  intro fu
                  induction fu with
                  | zero => intro q hmz; exact absurd hmz (Nat.not_lt_zero _)
                  | succ fu ih =>
                    intro q hms hq9 hv H locs ls hw hl
                    refine lv_iload hx hb dX7_deliver_123 (lv_at hl 0 rfl) ?_
                    refine lv_bipush (v := nI 16) hx hb dX7_deliver_125 (by decide +kernel) ?_
                    refine lv_icmp_ge (tgt := 163) hx hb dX7_deliver_127 (by decide) (fun c25 => ?_) (fun c25 => ?_)
                    · skip
                      have c25 : 16 ≤ q := (nI_leI (by omega) (by omega)).mp c25
                      have hq : q = 16 := by omega
                      have hwS26 := hw; have hlS27 := hl
                      subst q
                      have hw := hwS26; have hl := hlS27
                      refine lv_aload_n hx hb dX7_deliver_163 rfl (lv_at hl 1 rfl) ?_
                      refine lv_iload_n hx hb dX7_deliver_164 rfl (lv_at hl 3 rfl) ?_
                      refine lv_iconst (v := nI 5) hx hb dX7_deliver_165 (by decide +kernel) ?_
                      refine lv_iadd hx hb dX7_deliver_166 ?_
                      refine r_te (y := nI (128 * k + 5)) (nI_add (128 * k) 5) ?_
                      refine lv_bipush (v := nI 8) hx hb dX7_deliver_167 (by decide +kernel) ?_
                      refine r_calll (wr := [(md 2, .inl (g.2.1 0, 64, .inl (se))), (md 23, .inl (g.2.1 0, 16, .inl (wd))), (md 24, .inl (g.2.1 0, 16, .inl (mx))), (md 4, .inl (g.2.1 0, 2, .inl (szF epn))), (md 6, .inl (g.2.1 2, 2, .inl (smf))), (md 7, .inl (g.2.1 1, 2, .inr (.inl (gtf)))), (md 8, .inl (g.2.1 2, 128, .inl (snf))), (md 13, .inl (g.2.1 0, 96, .inl (ibf))), (md 10, .inl (g.2.1 0, 8, .inl (szF z))), (md 17, .inl (g.2.1 0, 400, .inl (r2_20))), (md 16, .inl (g.2.1 0, 64, .inl (w2_21))), (md 15, .inl (g.2.1 0, 8, .inl (s2_22))), (md 22, .inl (g.2.1 0, 64, .inl (kRW))), (md 18, .inl (g.2.1 0, 32, .inl (hmv tk (f k) (15 + ln)))), (md 19, .inl (g.2.1 0, 32, .inl (k2_23))), (md 21, .inl (g.2.1 0, 160, .inl (m2_24))), (md 3, .inl (g.2.1 0, 64, .inl (te)))]) [9, 18] [0, 1, 2, 3, 4, 5, 6, 7, 8, 10, 11, 12, 13, 14, 15, 16, 17] h0 hw rfl rfl (by decide) (by decide) (va_runV (As := [.int (nI (128 * k + 5)), .int (nI 8)]) (rest := []) ⟨hx, hb, hml, hown, hts⟩ (c_X7_numberAt l g md op on inn wr (128 * k + 5) 8 (by omega) (fun j hj => by rw [Nat.add_assoc, hwr (5 + j) (by omega)]; exact hb8 (5 + j) (by omega)) _) (cwV 2 hts gX7_deliver_X7_numberAt rfl rfl rfl (by decide +kernel) ⟨Nat.le_of_ble_eq_true rfl, Nat.le_of_ble_eq_true rfl⟩) (preV_of [9, 18] [.int (nI (128 * k + 5)), .int (nI 8)] h0 hw rfl (by decide) 9 7 rfl rfl) rfl rfl hl.1 rfl (lv_room (Nat.le_of_ble_eq_true rfl)) dX7_deliver_169 ⟨Nat.le_of_ble_eq_true rfl, Nat.le_of_ble_eq_true rfl⟩) (fun r28 u29 H locs hp30 hw => ?_)
                      have hw : WD g A s [(md 2, .inl (g.2.1 0, 64, .inl (se))), (md 23, .inl (g.2.1 0, 16, .inl (wd))), (md 24, .inl (g.2.1 0, 16, .inl (mx))), (md 4, .inl (g.2.1 0, 2, .inl (szF epn))), (md 6, .inl (g.2.1 2, 2, .inl (smf))), (md 7, .inl (g.2.1 1, 2, .inr (.inl (gtf)))), (md 8, .inl (g.2.1 2, 128, .inl (snf))), (md 13, .inl (g.2.1 0, 96, .inl (ibf))), (md 10, .inl (g.2.1 0, 8, .inl (szF z))), (md 17, .inl (g.2.1 0, 400, .inl (r2_20))), (md 16, .inl (g.2.1 0, 64, .inl (w2_21))), (md 15, .inl (g.2.1 0, 8, .inl (s2_22))), (md 22, .inl (g.2.1 0, 64, .inl (kRW))), (md 18, .inl (g.2.1 0, 32, .inl (hmv tk (f k) (15 + ln)))), (md 19, .inl (g.2.1 0, 32, .inl (k2_23))), (md 21, .inl (g.2.1 0, 160, .inl (m2_24))), (md 3, .inl (g.2.1 0, 64, .inl (te))), (md 25, .inr (7, [.ref (md 0), .int (nI op), .ref (md 2), .ref (md 3), .ref (md 4), .ref (md 5), .ref (md 6), .ref (md 7), .ref (md 8), .ref (md 9), .ref (md 10), .ref (md 11), .int (nI on), .ref (md 13), .int (nI inn), .ref (md 15), .ref (md 16), .ref (md 17), .ref (md 18), .ref (md 19), .ref (md 20), .ref (md 21), .ref (md 22), .ref (md 23), .ref (md 24)])), (md 9, .inl (g.2.1 0, 1024, .inl (wr)))] [] H locs := hw
                      subst hp30
                      refine r_tel (y := nAt (f k) 5 8) (nAt_eq 8 (fun j hj => by rw [Nat.add_assoc]; exact hwr (5 + j) (by omega))) ?_
                      refine lv_lstore (lv' := [(6, .long (nAt (f k) 5 8)), (0, .ref (md 25)), (1, .int (nI k)), (3, .int (nI (128 * k))), (4, .int (nI 1)), (5, .int (nI ln))]) hx hb dX7_deliver_172 hl (by decide) rfl (fun ls hl => ?_)
                      refine lv_aload_n hx hb dX7_deliver_174 rfl (lv_at hl 1 rfl) ?_
                      refine r_get (ci := 7) (v := .ref (md 6)) (C := RX7) (T := TX7) (N := 25) hx hb hts hinX7 hown h0 hw 17 rfl rfl 6 (by decide) k26 rfl dX7_deliver_175 ?_
                      refine lv_iload hx hb dX7_deliver_178 (lv_at hl 4 rfl) ?_
                      refine r_zald hx hb h0 hw 4 rfl (i := 1) (by omega) (by omega) dX7_deliver_180 ?_
                      refine lv_if_eq (tgt := 203) hx hb dX7_deliver_181 (by decide) (fun c31 => ?_) (fun c31 => ?_)
                      · skip
                        exact absurd c31 hsm
                      · skip
                        refine lv_aload_n hx hb dX7_deliver_184 rfl (lv_at hl 1 rfl) ?_
                        refine r_get (ci := 7) (v := .ref (md 7)) (C := RX7) (T := TX7) (N := 25) hx hb hts hinX7 hown h0 hw 17 rfl rfl 7 (by decide) k30 rfl dX7_deliver_185 ?_
                        refine lv_iload hx hb dX7_deliver_188 (lv_at hl 4 rfl) ?_
                        refine r_lald hx hb h0 hw 5 rfl (i := 1) (by omega) (by omega) dX7_deliver_190 ?_
                        refine lv_lload hx hb dX7_deliver_191 (lv_at hl 0 rfl) ?_
                        refine r_calli (wr := [(md 2, .inl (g.2.1 0, 64, .inl (se))), (md 23, .inl (g.2.1 0, 16, .inl (wd))), (md 24, .inl (g.2.1 0, 16, .inl (mx))), (md 4, .inl (g.2.1 0, 2, .inl (szF epn))), (md 6, .inl (g.2.1 2, 2, .inl (smf))), (md 7, .inl (g.2.1 1, 2, .inr (.inl (gtf)))), (md 8, .inl (g.2.1 2, 128, .inl (snf))), (md 13, .inl (g.2.1 0, 96, .inl (ibf))), (md 10, .inl (g.2.1 0, 8, .inl (szF z))), (md 17, .inl (g.2.1 0, 400, .inl (r2_20))), (md 16, .inl (g.2.1 0, 64, .inl (w2_21))), (md 15, .inl (g.2.1 0, 8, .inl (s2_22))), (md 22, .inl (g.2.1 0, 64, .inl (kRW))), (md 18, .inl (g.2.1 0, 32, .inl (hmv tk (f k) (15 + ln)))), (md 19, .inl (g.2.1 0, 32, .inl (k2_23))), (md 21, .inl (g.2.1 0, 160, .inl (m2_24))), (md 3, .inl (g.2.1 0, 64, .inl (te))), (md 25, .inr (7, [.ref (md 0), .int (nI op), .ref (md 2), .ref (md 3), .ref (md 4), .ref (md 5), .ref (md 6), .ref (md 7), .ref (md 8), .ref (md 9), .ref (md 10), .ref (md 11), .int (nI on), .ref (md 13), .int (nI inn), .ref (md 15), .ref (md 16), .ref (md 17), .ref (md 18), .ref (md 19), .ref (md 20), .ref (md 21), .ref (md 22), .ref (md 23), .ref (md 24)])), (md 9, .inl (g.2.1 0, 1024, .inl (wr)))]) [] [0, 1, 2, 3, 4, 5, 6, 7, 8, 9, 10, 11, 12, 13, 14, 15, 16, 17, 18] h0 hw rfl rfl (by decide) (by decide) (va_runS (As := [.long (gtf 1), .long (nAt (f k) 5 8)]) (rest := []) ⟨hx, hb, hml, hown, hts⟩ (c_X7_isBelow l g (gtf 1) (nAt (f k) 5 8)  _) (va_cwS 2 hts gX7_deliver_X7_isBelow rfl rfl rfl (by decide +kernel) ⟨Nat.le_of_ble_eq_true rfl, Nat.le_of_ble_eq_true rfl⟩) (preS_of [] [.long (gtf 1), .long (nAt (f k) 5 8)] h0 hw rfl (by decide)) rfl rfl hl.1 rfl (lv_room (Nat.le_of_ble_eq_true rfl)) dX7_deliver_193 ⟨Nat.le_of_ble_eq_true rfl, Nat.le_of_ble_eq_true rfl⟩) (fun r32 u33 H locs hp34 hw => ?_)
                        have hw : WD g A s [(md 2, .inl (g.2.1 0, 64, .inl (se))), (md 23, .inl (g.2.1 0, 16, .inl (wd))), (md 24, .inl (g.2.1 0, 16, .inl (mx))), (md 4, .inl (g.2.1 0, 2, .inl (szF epn))), (md 6, .inl (g.2.1 2, 2, .inl (smf))), (md 7, .inl (g.2.1 1, 2, .inr (.inl (gtf)))), (md 8, .inl (g.2.1 2, 128, .inl (snf))), (md 13, .inl (g.2.1 0, 96, .inl (ibf))), (md 10, .inl (g.2.1 0, 8, .inl (szF z))), (md 17, .inl (g.2.1 0, 400, .inl (r2_20))), (md 16, .inl (g.2.1 0, 64, .inl (w2_21))), (md 15, .inl (g.2.1 0, 8, .inl (s2_22))), (md 22, .inl (g.2.1 0, 64, .inl (kRW))), (md 18, .inl (g.2.1 0, 32, .inl (hmv tk (f k) (15 + ln)))), (md 19, .inl (g.2.1 0, 32, .inl (k2_23))), (md 21, .inl (g.2.1 0, 160, .inl (m2_24))), (md 3, .inl (g.2.1 0, 64, .inl (te))), (md 25, .inr (7, [.ref (md 0), .int (nI op), .ref (md 2), .ref (md 3), .ref (md 4), .ref (md 5), .ref (md 6), .ref (md 7), .ref (md 8), .ref (md 9), .ref (md 10), .ref (md 11), .int (nI on), .ref (md 13), .int (nI inn), .ref (md 15), .ref (md 16), .ref (md 17), .ref (md 18), .ref (md 19), .ref (md 20), .ref (md 21), .ref (md 22), .ref (md 23), .ref (md 24)])), (md 9, .inl (g.2.1 0, 1024, .inl (wr)))] [] H locs := hw
                        subst hp34
                        refine lv_if_ne (tgt := 203) hx hb dX7_deliver_196 (by decide) (fun c35 => ?_) (fun c35 => ?_)
                        · skip
                          have c35 : lowU (gtf 1) (nAt (f k) 5 8) := bI_t c35
                          exact absurd c35 hlow
                        · skip
                          have c35 : ¬ (lowU (gtf 1) (nAt (f k) 5 8)) := bI_f c35
                          refine lv_iconst (v := nI 1) hx hb dX7_deliver_199 (by decide +kernel) ?_
                          refine lv_goto (tgt := 204) hx hb dX7_deliver_200 (by decide) ?_
                          refine lv_istore (lv' := [(8, .int (nI 1)), (6, .long (nAt (f k) 5 8)), (0, .ref (md 25)), (1, .int (nI k)), (3, .int (nI (128 * k))), (4, .int (nI 1)), (5, .int (nI ln))]) hx hb dX7_deliver_204 hl (by decide) rfl (fun ls hl => ?_)
                          refine lv_aload_n hx hb dX7_deliver_206 rfl (lv_at hl 2 rfl) ?_
                          refine r_get (ci := 7) (v := .ref (md 7)) (C := RX7) (T := TX7) (N := 25) hx hb hts hinX7 hown h0 hw 17 rfl rfl 7 (by decide) k30 rfl dX7_deliver_207 ?_
                          refine lv_iload hx hb dX7_deliver_210 (lv_at hl 5 rfl) ?_
                          refine r_lald hx hb h0 hw 5 rfl (i := 1) (by omega) (by omega) dX7_deliver_212 ?_
                          refine lv_lload hx hb dX7_deliver_213 (lv_at hl 1 rfl) ?_
                          refine lv_lsub hx hb dX7_deliver_215 ?_
                          refine lv_lstore (lv' := [(9, .long ((gtf 1) - (nAt (f k) 5 8))), (8, .int (nI 1)), (6, .long (nAt (f k) 5 8)), (0, .ref (md 25)), (1, .int (nI k)), (3, .int (nI (128 * k))), (4, .int (nI 1)), (5, .int (nI ln))]) hx hb dX7_deliver_216 hl (by decide) rfl (fun ls hl => ?_)
                          refine lv_iload hx hb dX7_deliver_218 (lv_at hl 1 rfl) ?_
                          refine lv_if_eq (tgt := 236) hx hb dX7_deliver_220 (by decide) (fun c36 => ?_) (fun c36 => ?_)
                          · skip
                            rw [← nI_0] at c36
                            have c36 : 1 = 0 := (nI_eq (by omega) (by omega)).mp c36
                            exfalso; omega
                          · skip
                            rw [← nI_0] at c36
                            have c36 : ¬ 1 = 0 := fun q => c36 (((nI_eq (by omega) (by omega)).mpr q))
                            refine lv_lload hx hb dX7_deliver_223 (lv_at hl 0 rfl) ?_
                            refine lv_ldc2 hx hb hown k227 dX7_deliver_225 ?_
                            refine r_calli (wr := [(md 2, .inl (g.2.1 0, 64, .inl (se))), (md 23, .inl (g.2.1 0, 16, .inl (wd))), (md 24, .inl (g.2.1 0, 16, .inl (mx))), (md 4, .inl (g.2.1 0, 2, .inl (szF epn))), (md 6, .inl (g.2.1 2, 2, .inl (smf))), (md 7, .inl (g.2.1 1, 2, .inr (.inl (gtf)))), (md 8, .inl (g.2.1 2, 128, .inl (snf))), (md 13, .inl (g.2.1 0, 96, .inl (ibf))), (md 10, .inl (g.2.1 0, 8, .inl (szF z))), (md 17, .inl (g.2.1 0, 400, .inl (r2_20))), (md 16, .inl (g.2.1 0, 64, .inl (w2_21))), (md 15, .inl (g.2.1 0, 8, .inl (s2_22))), (md 22, .inl (g.2.1 0, 64, .inl (kRW))), (md 18, .inl (g.2.1 0, 32, .inl (hmv tk (f k) (15 + ln)))), (md 19, .inl (g.2.1 0, 32, .inl (k2_23))), (md 21, .inl (g.2.1 0, 160, .inl (m2_24))), (md 3, .inl (g.2.1 0, 64, .inl (te))), (md 25, .inr (7, [.ref (md 0), .int (nI op), .ref (md 2), .ref (md 3), .ref (md 4), .ref (md 5), .ref (md 6), .ref (md 7), .ref (md 8), .ref (md 9), .ref (md 10), .ref (md 11), .int (nI on), .ref (md 13), .int (nI inn), .ref (md 15), .ref (md 16), .ref (md 17), .ref (md 18), .ref (md 19), .ref (md 20), .ref (md 21), .ref (md 22), .ref (md 23), .ref (md 24)])), (md 9, .inl (g.2.1 0, 1024, .inl (wr)))]) [] [0, 1, 2, 3, 4, 5, 6, 7, 8, 9, 10, 11, 12, 13, 14, 15, 16, 17, 18] h0 hw rfl rfl (by decide) (by decide) (va_runS (As := [.long ((gtf 1) - (nAt (f k) 5 8)), .long (64)]) (rest := []) ⟨hx, hb, hml, hown, hts⟩ (c_X7_isBelow l g ((gtf 1) - (nAt (f k) 5 8)) 64  _) (va_cwS 2 hts gX7_deliver_X7_isBelow rfl rfl rfl (by decide +kernel) ⟨Nat.le_of_ble_eq_true rfl, Nat.le_of_ble_eq_true rfl⟩) (preS_of [] [.long ((gtf 1) - (nAt (f k) 5 8)), .long (64)] h0 hw rfl (by decide)) rfl rfl hl.1 rfl (lv_room (Nat.le_of_ble_eq_true rfl)) dX7_deliver_228 ⟨Nat.le_of_ble_eq_true rfl, Nat.le_of_ble_eq_true rfl⟩) (fun r37 u38 H locs hp39 hw => ?_)
                            have hw : WD g A s [(md 2, .inl (g.2.1 0, 64, .inl (se))), (md 23, .inl (g.2.1 0, 16, .inl (wd))), (md 24, .inl (g.2.1 0, 16, .inl (mx))), (md 4, .inl (g.2.1 0, 2, .inl (szF epn))), (md 6, .inl (g.2.1 2, 2, .inl (smf))), (md 7, .inl (g.2.1 1, 2, .inr (.inl (gtf)))), (md 8, .inl (g.2.1 2, 128, .inl (snf))), (md 13, .inl (g.2.1 0, 96, .inl (ibf))), (md 10, .inl (g.2.1 0, 8, .inl (szF z))), (md 17, .inl (g.2.1 0, 400, .inl (r2_20))), (md 16, .inl (g.2.1 0, 64, .inl (w2_21))), (md 15, .inl (g.2.1 0, 8, .inl (s2_22))), (md 22, .inl (g.2.1 0, 64, .inl (kRW))), (md 18, .inl (g.2.1 0, 32, .inl (hmv tk (f k) (15 + ln)))), (md 19, .inl (g.2.1 0, 32, .inl (k2_23))), (md 21, .inl (g.2.1 0, 160, .inl (m2_24))), (md 3, .inl (g.2.1 0, 64, .inl (te))), (md 25, .inr (7, [.ref (md 0), .int (nI op), .ref (md 2), .ref (md 3), .ref (md 4), .ref (md 5), .ref (md 6), .ref (md 7), .ref (md 8), .ref (md 9), .ref (md 10), .ref (md 11), .int (nI on), .ref (md 13), .int (nI inn), .ref (md 15), .ref (md 16), .ref (md 17), .ref (md 18), .ref (md 19), .ref (md 20), .ref (md 21), .ref (md 22), .ref (md 23), .ref (md 24)])), (md 9, .inl (g.2.1 0, 1024, .inl (wr)))] [] H locs := hw
                            subst hp39
                            refine lv_if_ne (tgt := 236) hx hb dX7_deliver_231 (by decide) (fun c40 => ?_) (fun c40 => ?_)
                            · skip
                              have c40 : lowU ((gtf 1) - (nAt (f k) 5 8)) 64 := bI_t c40
                              refine lv_iload hx hb dX7_deliver_236 (lv_at hl 1 rfl) ?_
                              refine lv_if_eq (tgt := 261) hx hb dX7_deliver_238 (by decide) (fun c41 => ?_) (fun c41 => ?_)
                              · skip
                                rw [← nI_0] at c41
                                have c41 : 1 = 0 := (nI_eq (by omega) (by omega)).mp c41
                                exfalso; omega
                              · skip
                                rw [← nI_0] at c41
                                have c41 : ¬ 1 = 0 := fun q => c41 (((nI_eq (by omega) (by omega)).mpr q))
                                refine lv_aload_n hx hb dX7_deliver_241 rfl (lv_at hl 3 rfl) ?_
                                refine r_get (ci := 7) (v := .ref (md 8)) (C := RX7) (T := TX7) (N := 25) hx hb hts hinX7 hown h0 hw 17 rfl rfl 8 (by decide) k33 rfl dX7_deliver_242 ?_
                                refine lv_bipush (v := nI 64) hx hb dX7_deliver_245 (by decide +kernel) ?_
                                refine lv_iload hx hb dX7_deliver_247 (lv_at hl 6 rfl) ?_
                                refine lv_imul hx hb dX7_deliver_249 ?_
                                refine r_te (y := nI 64) (pk_mul 64 1) ?_
                                refine lv_lload hx hb dX7_deliver_250 (lv_at hl 0 rfl) ?_
                                refine lv_l2i (v := ((gtf 1) - (nAt (f k) 5 8)).toInt32) hx hb dX7_deliver_252 rfl ?_
                                refine r_te (y := nI qq) hqq ?_
                                refine lv_iadd hx hb dX7_deliver_253 ?_
                                refine r_te (y := nI (64 + qq)) (nI_add 64 qq) ?_
                                refine r_zald hx hb h0 hw 6 rfl (i := 64 + qq) (by omega) (by omega) dX7_deliver_254 ?_
                                refine lv_if_eq (tgt := 261) hx hb dX7_deliver_255 (by decide) (fun c42 => ?_) (fun c42 => ?_)
                                · skip
                                  refine lv_iload hx hb dX7_deliver_261 (lv_at hl 1 rfl) ?_
                                  refine lv_if_ne (tgt := 393) hx hb dX7_deliver_263 (by decide) (fun c43 => ?_) (fun c43 => ?_)
                                  · skip
                                    rw [← nI_0] at c43
                                    have c43 : ¬ 1 = 0 := fun q => c43 (((nI_eq (by omega) (by omega)).mpr q))
                                    refine lv_aload_n hx hb dX7_deliver_393 rfl (lv_at hl 3 rfl) ?_
                                    refine r_get (ci := 7) (v := .ref (md 8)) (C := RX7) (T := TX7) (N := 25) hx hb hts hinX7 hown h0 hw 17 rfl rfl 8 (by decide) k33 rfl dX7_deliver_394 ?_
                                    refine lv_bipush (v := nI 64) hx hb dX7_deliver_397 (by decide +kernel) ?_
                                    refine lv_iload hx hb dX7_deliver_399 (lv_at hl 6 rfl) ?_
                                    refine lv_imul hx hb dX7_deliver_401 ?_
                                    refine r_te (y := nI 64) (pk_mul 64 1) ?_
                                    refine lv_lload hx hb dX7_deliver_402 (lv_at hl 0 rfl) ?_
                                    refine lv_l2i (v := ((gtf 1) - (nAt (f k) 5 8)).toInt32) hx hb dX7_deliver_404 rfl ?_
                                    refine r_te (y := nI qq) hqq ?_
                                    refine lv_iadd hx hb dX7_deliver_405 ?_
                                    refine r_te (y := nI (64 + qq)) (nI_add 64 qq) ?_
                                    refine lv_iconst (v := nI 1) hx hb dX7_deliver_406 (by decide +kernel) ?_
                                    refine r_zast hx hb h0 hw 6 rfl (i := 64 + qq) (by decide +kernel) (by omega) (by omega) dX7_deliver_407 (fun H locs hw => ?_)
                                    have hw : WD g A s [(md 2, .inl (g.2.1 0, 64, .inl (se))), (md 23, .inl (g.2.1 0, 16, .inl (wd))), (md 24, .inl (g.2.1 0, 16, .inl (mx))), (md 4, .inl (g.2.1 0, 2, .inl (szF epn))), (md 6, .inl (g.2.1 2, 2, .inl (smf))), (md 7, .inl (g.2.1 1, 2, .inr (.inl (gtf)))), (md 8, .inl (g.2.1 2, 128, .inl (upd snf (64 + qq) (nI 1)))), (md 13, .inl (g.2.1 0, 96, .inl (ibf))), (md 10, .inl (g.2.1 0, 8, .inl (szF z))), (md 17, .inl (g.2.1 0, 400, .inl (r2_20))), (md 16, .inl (g.2.1 0, 64, .inl (w2_21))), (md 15, .inl (g.2.1 0, 8, .inl (s2_22))), (md 22, .inl (g.2.1 0, 64, .inl (kRW))), (md 18, .inl (g.2.1 0, 32, .inl (hmv tk (f k) (15 + ln)))), (md 19, .inl (g.2.1 0, 32, .inl (k2_23))), (md 21, .inl (g.2.1 0, 160, .inl (m2_24))), (md 3, .inl (g.2.1 0, 64, .inl (te))), (md 25, .inr (7, [.ref (md 0), .int (nI op), .ref (md 2), .ref (md 3), .ref (md 4), .ref (md 5), .ref (md 6), .ref (md 7), .ref (md 8), .ref (md 9), .ref (md 10), .ref (md 11), .int (nI on), .ref (md 13), .int (nI inn), .ref (md 15), .ref (md 16), .ref (md 17), .ref (md 18), .ref (md 19), .ref (md 20), .ref (md 21), .ref (md 22), .ref (md 23), .ref (md 24)])), (md 9, .inl (g.2.1 0, 1024, .inl (wr)))] [] H locs := hw
                                    refine lv_iconst (v := nI 0) hx hb dX7_deliver_408 (by decide +kernel) ?_
                                    refine lv_istore (lv' := [(11, .int (nI 0)), (9, .long ((gtf 1) - (nAt (f k) 5 8))), (8, .int (nI 1)), (6, .long (nAt (f k) 5 8)), (0, .ref (md 25)), (1, .int (nI k)), (3, .int (nI (128 * k))), (4, .int (nI 1)), (5, .int (nI ln))]) hx hb dX7_deliver_409 hl (by decide) rfl (fun ls hl => ?_)
                                    have lp411 : ∀ (fu : Nat) (t : Nat) (mv : Nat → Int32) (dv : Nat → Int32), ln - t < fu → (t ≤ ln) → (¬ t % 64 = 0 → mv = dbl (sIn (shf se (32 * 1)) (f k) (nI (t / 64))) 10 ∧ dv = sIn (shf se (32 * 1)) (f k) (nI (t / 64))) → ∀ (H : Heap) (locs : List Loc) (ls : Array Slot), WD g A s [(md 2, .inl (g.2.1 0, 64, .inl (se))), (md 23, .inl (g.2.1 0, 16, .inl (dv))), (md 24, .inl (g.2.1 0, 16, .inl (mv))), (md 4, .inl (g.2.1 0, 2, .inl (szF epn))), (md 6, .inl (g.2.1 2, 2, .inl (smf))), (md 7, .inl (g.2.1 1, 2, .inr (.inl (gtf)))), (md 8, .inl (g.2.1 2, 128, .inl (upd snf (64 + qq) (nI 1)))), (md 13, .inl (g.2.1 0, 96, .inl (rdF ibf (f k) ek t))), (md 10, .inl (g.2.1 0, 8, .inl (szF z))), (md 17, .inl (g.2.1 0, 400, .inl (r2_20))), (md 16, .inl (g.2.1 0, 64, .inl (w2_21))), (md 15, .inl (g.2.1 0, 8, .inl (s2_22))), (md 22, .inl (g.2.1 0, 64, .inl (kRW))), (md 18, .inl (g.2.1 0, 32, .inl (hmv tk (f k) (15 + ln)))), (md 19, .inl (g.2.1 0, 32, .inl (k2_23))), (md 21, .inl (g.2.1 0, 160, .inl (m2_24))), (md 3, .inl (g.2.1 0, 64, .inl (te))), (md 25, .inr (7, [.ref (md 0), .int (nI op), .ref (md 2), .ref (md 3), .ref (md 4), .ref (md 5), .ref (md 6), .ref (md 7), .ref (md 8), .ref (md 9), .ref (md 10), .ref (md 11), .int (nI on), .ref (md 13), .int (nI inn), .ref (md 15), .ref (md 16), .ref (md 17), .ref (md 18), .ref (md 19), .ref (md 20), .ref (md 21), .ref (md 22), .ref (md 23), .ref (md 24)])), (md 9, .inl (g.2.1 0, 1024, .inl (wr)))] [] H locs → lv_has ls 15 [(11, .int (nI t)), (0, .ref (md 25)), (1, .int (nI k)), (3, .int (nI (128 * k))), (4, .int (nI 1)), (5, .int (nI ln))] → W p l e { frames := 5, cells := 0, slots := 0, locals := 123 } s m ar below meth c H locs 0 0 Q (F0 m 411 ls []) := by
                                      intro fu
                                      induction fu with
                                      | zero => intro t mv dv hmz; exact absurd hmz (Nat.not_lt_zero _)
                                      | succ fu ih =>
                                        intro t mv dv hms ht hg H locs ls hw hl
                                        refine lv_iload hx hb dX7_deliver_411 (lv_at hl 0 rfl) ?_
                                        refine lv_iload hx hb dX7_deliver_413 (lv_at hl 5 rfl) ?_
                                        refine lv_icmp_ge (tgt := 453) hx hb dX7_deliver_415 (by decide) (fun c44 => ?_) (fun c44 => ?_)
                                        · skip
                                          have c44 : ln ≤ t := (nI_leI (by omega) (by omega)).mp c44
                                          have hq : t = ln := by omega
                                          have hwS45 := hw; have hlS46 := hl
                                          subst t
                                          have hw := hwS45; have hl := hlS46
                                          refine lv_aload_n hx hb dX7_deliver_453 rfl (lv_at hl 1 rfl) ?_
                                          refine lv_iload hx hb dX7_deliver_454 (lv_at hl 5 rfl) ?_
                                          refine r_put (ci := 7) (v := .int (nI ln)) (C := RX7) (T := TX7) (N := 25) hx hb hts hinX7 tyX7 tyX7_ok nmX7 hown h0 hw 17 rfl rfl 14 (by decide) k153 rfl rfl rfl (Nat.le_of_ble_eq_true rfl) dX7_deliver_456 (fun H locs hw => ?_)
                                          have hw : WD g A s [(md 2, .inl (g.2.1 0, 64, .inl (se))), (md 23, .inl (g.2.1 0, 16, .inl (dv))), (md 24, .inl (g.2.1 0, 16, .inl (mv))), (md 4, .inl (g.2.1 0, 2, .inl (szF epn))), (md 6, .inl (g.2.1 2, 2, .inl (smf))), (md 7, .inl (g.2.1 1, 2, .inr (.inl (gtf)))), (md 8, .inl (g.2.1 2, 128, .inl (upd snf (64 + qq) (nI 1)))), (md 13, .inl (g.2.1 0, 96, .inl (rdF ibf (f k) ek ln))), (md 10, .inl (g.2.1 0, 8, .inl (szF z))), (md 17, .inl (g.2.1 0, 400, .inl (r2_20))), (md 16, .inl (g.2.1 0, 64, .inl (w2_21))), (md 15, .inl (g.2.1 0, 8, .inl (s2_22))), (md 22, .inl (g.2.1 0, 64, .inl (kRW))), (md 18, .inl (g.2.1 0, 32, .inl (hmv tk (f k) (15 + ln)))), (md 19, .inl (g.2.1 0, 32, .inl (k2_23))), (md 21, .inl (g.2.1 0, 160, .inl (m2_24))), (md 3, .inl (g.2.1 0, 64, .inl (te))), (md 25, .inr (7, [.ref (md 0), .int (nI op), .ref (md 2), .ref (md 3), .ref (md 4), .ref (md 5), .ref (md 6), .ref (md 7), .ref (md 8), .ref (md 9), .ref (md 10), .ref (md 11), .int (nI on), .ref (md 13), .int (nI ln), .ref (md 15), .ref (md 16), .ref (md 17), .ref (md 18), .ref (md 19), .ref (md 20), .ref (md 21), .ref (md 22), .ref (md 23), .ref (md 24)])), (md 9, .inl (g.2.1 0, 1024, .inl (wr)))] [] H locs := hw
                                          refine lv_iconst (v := nI 0) hx hb dX7_deliver_459 (by decide +kernel) ?_
                                          exact hret (hw.perm (X' := [(md 25, .inr (7, [.ref (md 0), .int (nI op), .ref (md 2), .ref (md 3), .ref (md 4), .ref (md 5), .ref (md 6), .ref (md 7), .ref (md 8), .ref (md 9), .ref (md 10), .ref (md 11), .int (nI on), .ref (md 13), .int (nI ln), .ref (md 15), .ref (md 16), .ref (md 17), .ref (md 18), .ref (md 19), .ref (md 20), .ref (md 21), .ref (md 22), .ref (md 23), .ref (md 24)])), (md 17, .inl (g.2.1 0, 400, .inl (r2_20))), (md 16, .inl (g.2.1 0, 64, .inl (w2_21))), (md 15, .inl (g.2.1 0, 8, .inl (s2_22))), (md 22, .inl (g.2.1 0, 64, .inl (kRW))), (md 18, .inl (g.2.1 0, 32, .inl (hmv tk (f k) (15 + ln)))), (md 19, .inl (g.2.1 0, 32, .inl (k2_23))), (md 21, .inl (g.2.1 0, 160, .inl (m2_24))), (md 3, .inl (g.2.1 0, 64, .inl (te))), (md 9, .inl (g.2.1 0, 1024, .inl (wr))), (md 2, .inl (g.2.1 0, 64, .inl (se))), (md 23, .inl (g.2.1 0, 16, .inl (dv))), (md 24, .inl (g.2.1 0, 16, .inl (mv))), (md 4, .inl (g.2.1 0, 2, .inl (szF epn))), (md 10, .inl (g.2.1 0, 8, .inl (szF z))), (md 6, .inl (g.2.1 2, 2, .inl (smf))), (md 7, .inl (g.2.1 1, 2, .inr (.inl (gtf)))), (md 8, .inl (g.2.1 2, 128, .inl (upd snf (64 + qq) (nI 1)))), (md 13, .inl (g.2.1 0, 96, .inl (rdF ibf (f k) ek ln)))]) [17, 9, 10, 11, 12, 13, 14, 15, 16, 18, 0, 1, 2, 3, 8, 4, 5, 6, 7] (by decide) rfl) (r2_20, w2_21, s2_22, hmv tk (f k) (15 + ln), k2_23, m2_24, dv, mv) (rfl) (rfl) (by omega) (by omega) dX7_deliver_460
                                        · skip
                                          have c44 : ¬ ln ≤ t := fun q => c44 (((nI_leI (by omega) (by omega)).mpr q))
                                          refine lv_aload_n hx hb dX7_deliver_418 rfl (lv_at hl 1 rfl) ?_
                                          refine r_get (ci := 7) (v := .ref (md 13)) (C := RX7) (T := TX7) (N := 25) hx hb hts hinX7 hown h0 hw 17 rfl rfl 13 (by decide) k45 rfl dX7_deliver_419 ?_
                                          refine lv_iload hx hb dX7_deliver_422 (lv_at hl 0 rfl) ?_
                                          refine lv_aload_n hx hb dX7_deliver_424 rfl (lv_at hl 1 rfl) ?_
                                          refine r_get (ci := 7) (v := .ref (md 9)) (C := RX7) (T := TX7) (N := 25) hx hb hts hinX7 hown h0 hw 17 rfl rfl 9 (by decide) k36 rfl dX7_deliver_425 ?_
                                          refine lv_iload_n hx hb dX7_deliver_428 rfl (lv_at hl 3 rfl) ?_
                                          refine lv_bipush (v := nI 15) hx hb dX7_deliver_429 (by decide +kernel) ?_
                                          refine lv_iadd hx hb dX7_deliver_431 ?_
                                          refine r_te (y := nI (128 * k + 15)) (nI_add (128 * k) 15) ?_
                                          refine lv_iload hx hb dX7_deliver_432 (lv_at hl 0 rfl) ?_
                                          refine lv_iadd hx hb dX7_deliver_434 ?_
                                          refine r_te (y := nI (128 * k + 15 + t)) (nI_add (128 * k + 15) t) ?_
                                          refine r_iald hx hb h0 hw 18 rfl (i := 128 * k + 15 + t) (by omega) (by omega) dX7_deliver_435 ?_
                                          refine r_te (y := f k (15 + t)) (by first | exact hwr (15 + t) (by omega) | (have := hwr (15 + t) (by omega); simpa [Nat.add_assoc] using this)) ?_
                                          refine lv_aload_n hx hb dX7_deliver_436 rfl (lv_at hl 1 rfl) ?_
                                          refine lv_iload hx hb dX7_deliver_437 (lv_at hl 4 rfl) ?_
                                          refine lv_iload_n hx hb dX7_deliver_439 rfl (lv_at hl 2 rfl) ?_
                                          refine lv_iload hx hb dX7_deliver_440 (lv_at hl 0 rfl) ?_
                                          refine r_calli (wr := [(md 4, .inl (g.2.1 0, 2, .inl (szF epn))), (md 6, .inl (g.2.1 2, 2, .inl (smf))), (md 7, .inl (g.2.1 1, 2, .inr (.inl (gtf)))), (md 8, .inl (g.2.1 2, 128, .inl (upd snf (64 + qq) (nI 1)))), (md 13, .inl (g.2.1 0, 96, .inl (rdF ibf (f k) ek t))), (md 10, .inl (g.2.1 0, 8, .inl (szF z))), (md 17, .inl (g.2.1 0, 400, .inl (r2_20))), (md 16, .inl (g.2.1 0, 64, .inl (w2_21))), (md 15, .inl (g.2.1 0, 8, .inl (s2_22))), (md 22, .inl (g.2.1 0, 64, .inl (kRW))), (md 18, .inl (g.2.1 0, 32, .inl (hmv tk (f k) (15 + ln)))), (md 19, .inl (g.2.1 0, 32, .inl (k2_23))), (md 21, .inl (g.2.1 0, 160, .inl (m2_24))), (md 3, .inl (g.2.1 0, 64, .inl (te)))]) [17, 0, 18, 1, 2] [3, 4, 5, 6, 7, 8, 9, 10, 11, 12, 13, 14, 15, 16] h0 hw rfl rfl (by decide) (by decide) (va_runV (As := [.int (nI 1), .int (nI k), .int (nI t)]) (rest := [.int (f k (15 + t)), .int (nI t), .ref (md 13)]) ⟨hx, hb, hml, hown, hts⟩ (c_X7_streamByte l g md op on inn se wr dv mv ((shf se (32 * 1))) ((f k)) 1 k t (by omega) (by omega) (by omega) (rfl) (h5) (h9) (hg) _) (cwV 3 hts gX7_deliver_X7_streamByte rfl rfl rfl (by decide +kernel) ⟨Nat.le_of_ble_eq_true rfl, Nat.le_of_ble_eq_true rfl⟩) (preV_of [17, 0, 18, 1, 2] [.int (nI 1), .int (nI k), .int (nI t)] h0 hw rfl (by decide) 17 7 rfl rfl) rfl rfl hl.1 rfl (lv_room (Nat.le_of_ble_eq_true rfl)) dX7_deliver_442 ⟨Nat.le_of_ble_eq_true rfl, Nat.le_of_ble_eq_true rfl⟩) (fun r47 u48 H locs hp49 hw => ?_)
                                          obtain ⟨m2_50, w2_51⟩ := u48
                                          have hw : WD g A s [(md 4, .inl (g.2.1 0, 2, .inl (szF epn))), (md 6, .inl (g.2.1 2, 2, .inl (smf))), (md 7, .inl (g.2.1 1, 2, .inr (.inl (gtf)))), (md 8, .inl (g.2.1 2, 128, .inl (upd snf (64 + qq) (nI 1)))), (md 13, .inl (g.2.1 0, 96, .inl (rdF ibf (f k) ek t))), (md 10, .inl (g.2.1 0, 8, .inl (szF z))), (md 17, .inl (g.2.1 0, 400, .inl (r2_20))), (md 16, .inl (g.2.1 0, 64, .inl (w2_21))), (md 15, .inl (g.2.1 0, 8, .inl (s2_22))), (md 22, .inl (g.2.1 0, 64, .inl (kRW))), (md 18, .inl (g.2.1 0, 32, .inl (hmv tk (f k) (15 + ln)))), (md 19, .inl (g.2.1 0, 32, .inl (k2_23))), (md 21, .inl (g.2.1 0, 160, .inl (m2_24))), (md 3, .inl (g.2.1 0, 64, .inl (te))), (md 25, .inr (7, [.ref (md 0), .int (nI op), .ref (md 2), .ref (md 3), .ref (md 4), .ref (md 5), .ref (md 6), .ref (md 7), .ref (md 8), .ref (md 9), .ref (md 10), .ref (md 11), .int (nI on), .ref (md 13), .int (nI inn), .ref (md 15), .ref (md 16), .ref (md 17), .ref (md 18), .ref (md 19), .ref (md 20), .ref (md 21), .ref (md 22), .ref (md 23), .ref (md 24)])), (md 2, .inl (g.2.1 0, 64, .inl (se))), (md 9, .inl (g.2.1 0, 1024, .inl (wr))), (md 23, .inl (g.2.1 0, 16, .inl (w2_51))), (md 24, .inl (g.2.1 0, 16, .inl (m2_50)))] [] H locs := hw
                                          obtain ⟨rfl, hp49⟩ := hp49
                                          have hpN := hp49
                                          refine lv_ixor hx hb dX7_deliver_445 ?_
                                          refine r_te (y := f k (15 + t) ^^^ sByte ek (f k) t) (by rw [sByte_key hek]) ?_
                                          refine r_iast hx hb h0 hw 4 rfl (i := t) (by omega) (by omega) dX7_deliver_446 (fun H locs hw => ?_)
                                          have hw : WD g A s [(md 4, .inl (g.2.1 0, 2, .inl (szF epn))), (md 6, .inl (g.2.1 2, 2, .inl (smf))), (md 7, .inl (g.2.1 1, 2, .inr (.inl (gtf)))), (md 8, .inl (g.2.1 2, 128, .inl (upd snf (64 + qq) (nI 1)))), (md 13, .inl (g.2.1 0, 96, .inl (upd (rdF ibf (f k) ek t) t (f k (15 + t) ^^^ sByte ek (f k) t)))), (md 10, .inl (g.2.1 0, 8, .inl (szF z))), (md 17, .inl (g.2.1 0, 400, .inl (r2_20))), (md 16, .inl (g.2.1 0, 64, .inl (w2_21))), (md 15, .inl (g.2.1 0, 8, .inl (s2_22))), (md 22, .inl (g.2.1 0, 64, .inl (kRW))), (md 18, .inl (g.2.1 0, 32, .inl (hmv tk (f k) (15 + ln)))), (md 19, .inl (g.2.1 0, 32, .inl (k2_23))), (md 21, .inl (g.2.1 0, 160, .inl (m2_24))), (md 3, .inl (g.2.1 0, 64, .inl (te))), (md 25, .inr (7, [.ref (md 0), .int (nI op), .ref (md 2), .ref (md 3), .ref (md 4), .ref (md 5), .ref (md 6), .ref (md 7), .ref (md 8), .ref (md 9), .ref (md 10), .ref (md 11), .int (nI on), .ref (md 13), .int (nI inn), .ref (md 15), .ref (md 16), .ref (md 17), .ref (md 18), .ref (md 19), .ref (md 20), .ref (md 21), .ref (md 22), .ref (md 23), .ref (md 24)])), (md 2, .inl (g.2.1 0, 64, .inl (se))), (md 9, .inl (g.2.1 0, 1024, .inl (wr))), (md 23, .inl (g.2.1 0, 16, .inl (w2_51))), (md 24, .inl (g.2.1 0, 16, .inl (m2_50)))] [] H locs := hw
                                          refine lv_iinc (v := nI (t + 1)) (lv' := [(11, .int (nI (t + 1))), (0, .ref (md 25)), (1, .int (nI k)), (3, .int (nI (128 * k))), (4, .int (nI 1)), (5, .int (nI ln))]) hx hb dX7_deliver_447 hl (k := 0) rfl (nI_add t 1) (by decide) rfl (fun ls hl => ?_)
                                          refine lv_goto (tgt := 411) hx hb dX7_deliver_450 (by decide) ?_
                                          exact ih (t + 1) m2_50 w2_51 (by omega) (by omega) (fun q => by rw [show (t + 1) / 64 = t / 64 by omega]; exact hpN) _ _ _ (hw.perm [15, 17, 18, 0, 1, 2, 3, 4, 5, 6, 7, 8, 9, 10, 11, 12, 13, 14, 16] (by decide) rfl) (lv_sub hl [0, 1, 2, 3, 4, 5] rfl)
                                    exact lp411 (ln - 0 + 1) 0 mx wd (by omega) (by omega) (fun q => absurd rfl q) _ _ _ hw (lv_sub hl [0, 4, 5, 6, 7, 8] rfl)
                                  · skip
                                    rw [← nI_0] at c43
                                    have c43 : 1 = 0 := (nI_eq (by omega) (by omega)).mp c43
                                    exfalso; omega
                                · skip
                                  exact absurd hse c42
                            · skip
                              have c40 : ¬ (lowU ((gtf 1) - (nAt (f k) 5 8)) 64) := bI_f c40
                              exact absurd hfar c40
                    · skip
                      have c25 : ¬ 16 ≤ q := fun q => c25 (((nI_leI (by omega) (by omega)).mpr q))
                      refine lv_aload_n hx hb dX7_deliver_130 rfl (lv_at hl 1 rfl) ?_
                      refine r_get (ci := 7) (v := .ref (md 9)) (C := RX7) (T := TX7) (N := 25) hx hb hts hinX7 hown h0 hw 9 rfl rfl 9 (by decide) k36 rfl dX7_deliver_131 ?_
                      refine lv_iload_n hx hb dX7_deliver_134 rfl (lv_at hl 3 rfl) ?_
                      refine lv_bipush (v := nI 15) hx hb dX7_deliver_135 (by decide +kernel) ?_
                      refine lv_iadd hx hb dX7_deliver_137 ?_
                      refine r_te (y := nI (128 * k + 15)) (nI_add (128 * k) 15) ?_
                      refine lv_iload hx hb dX7_deliver_138 (lv_at hl 5 rfl) ?_
                      refine lv_iadd hx hb dX7_deliver_140 ?_
                      refine r_te (y := nI (128 * k + 15 + ln)) (nI_add (128 * k + 15) ln) ?_
                      refine lv_iload hx hb dX7_deliver_141 (lv_at hl 0 rfl) ?_
                      refine lv_iadd hx hb dX7_deliver_143 ?_
                      refine r_te (y := nI (128 * k + 15 + ln + q)) (nI_add (128 * k + 15 + ln) q) ?_
                      refine r_iald hx hb h0 hw 18 rfl (i := 128 * k + 15 + ln + q) (by omega) (by omega) dX7_deliver_144 ?_
                      refine r_te (y := f k (15 + ln + q)) (by first | exact hwr (15 + ln + q) (by omega) | (have := hwr (15 + ln + q) (by omega); simpa [Nat.add_assoc] using this)) ?_
                      refine lv_aload_n hx hb dX7_deliver_145 rfl (lv_at hl 1 rfl) ?_
                      refine r_get (ci := 7) (v := .ref (md 18)) (C := RX7) (T := TX7) (N := 25) hx hb hts hinX7 hown h0 hw 9 rfl rfl 18 (by decide) k57 rfl dX7_deliver_146 ?_
                      refine lv_iload hx hb dX7_deliver_149 (lv_at hl 0 rfl) ?_
                      refine r_iald hx hb h0 hw 14 rfl (i := q) (by omega) (by omega) dX7_deliver_151 ?_
                      refine lv_icmp_eq (tgt := 157) hx hb dX7_deliver_152 (by decide) (fun c52 => ?_) (fun c52 => ?_)
                      · skip
                        have cE := c52
                        refine lv_iinc (v := nI (q + 1)) (lv' := [(6, .int (nI (q + 1))), (0, .ref (md 25)), (1, .int (nI k)), (3, .int (nI (128 * k))), (4, .int (nI 1)), (5, .int (nI ln))]) hx hb dX7_deliver_157 hl (k := 0) rfl (nI_add q 1) (by decide) rfl (fun ls hl => ?_)
                        refine lv_goto (tgt := 123) hx hb dX7_deliver_160 (by decide) ?_
                        exact ih (q + 1) (by omega) (by omega) (fun j hj => (Nat.lt_succ_iff_lt_or_eq.mp hj).elim (hv j) (fun q9 => by rw [q9]; exact cE)) _ _ _ hw (lv_sub hl [0, 1, 2, 3, 4, 5] rfl)
                      · skip
                        exact absurd (htag q (by omega)) c52
                exact lp123 (16 - 0 + 1) 0 (by omega) (by omega) (fun j hj => absurd hj (Nat.not_lt_zero j)) _ _ _ hw (lv_sub hl [0, 4, 5, 3, 2, 1] rfl)
              · skip
                have c16 : ¬ (nAt (f k) 1 4) = ((nI (epn 1)).toInt64) := fun q => c16 ((lg_cmp_eq _ _).mpr q)
                exact absurd he3 c16
            · skip
              have c12 : ¬ (z k) = (15 + ln + 16) := fun q => c12 (((nI_eq (by omega) (by omega)).mpr q))
              exfalso; omega
      · skip
        rw [← nI_0] at c6
        have c6 : op = 0 := (nI_eq (by omega) (by omega)).mp c6
        exfalso; omega
    · skip
      rw [← nI_0] at c5
      have c5 : ¬ 0 = 0 := fun q => c5 (((nI_eq (by omega) (by omega)).mpr q))
      exfalso; omega

set_option maxHeartbeats 4000000 in
set_option maxRecDepth 100000 in
theorem c_X7_deliver_0b1 (l : Launch) (g : GE) (md : Nat → Nat) (op : Nat) (on : Nat) (inn : Nat) (rf : Nat → Int32) (wf : Nat → Int32) (sf : Nat → Int32) (dg : Nat → Int32) (kf : Nat → Int32) (mf : Nat → Int32) (te : Nat → Int32) (wr : Nat → Int32) (se : Nat → Int32) (wd : Nat → Int32) (mx : Nat → Int32) (epn : Nat → Nat) (z : Nat → Nat) (smf : Nat → Int32) (gtf : Nat → Int64) (snf : Nat → Int32) (ibf : Nat → Int32) (f : Nat → Nat → Int32) (k : Nat) (ek : Nat → Int32) (tk : Nat → Int32) (ln : Nat) (hop : ¬ op = 0) (hop2 : op < 2) (hk : k < 8) (hz1 : 31 ≤ z k) (hz2 : z k ≤ 127) (hwr : ∀ j, j < z k → wr (128 * k + j) = f k j) (hb8 : ∀ j, j < z k → f k j = f k j &&& nI 255) (hs0 : f k 0 = nI 1) (hln : (nAt (f k) 13 2).toInt32 = nI ln) (hl1 : z k = 31 + ln) (hl2 : ln ≤ 96) (he3 : nAt (f k) 1 4 = (nI (epn 1)).toInt64) (htk : EqB 32 (shf te (32 * 1)) tk) (hek : EqB 32 (shf se (32 * 1)) ek) (htag : tagOK (f k) (hmv tk (f k) (15 + ln)) (15 + ln)) (hnb : smf 1 = 0 ∨ lowU (gtf 1) (nAt (f k) 5 8)) (hno : smf 1 = 0 ∨ ¬ lowU ((nAt (f k) 5 8) - gtf 1) 64) (sz : Nat) : MI l yX7_deliver wsX7_deliver { frames := 5, cells := 0, slots := 0, locals := 123 } g [.ref (md 25), .int (nI k), .int (nI 0)] [(md 25, .inr (7, [.ref (md 0), .int (nI op), .ref (md 2), .ref (md 3), .ref (md 4), .ref (md 5), .ref (md 6), .ref (md 7), .ref (md 8), .ref (md 9), .ref (md 10), .ref (md 11), .int (nI on), .ref (md 13), .int (nI inn), .ref (md 15), .ref (md 16), .ref (md 17), .ref (md 18), .ref (md 19), .ref (md 20), .ref (md 21), .ref (md 22), .ref (md 23), .ref (md 24)])), (md 17, .inl (g.2.1 0, 400, .inl (rf))), (md 16, .inl (g.2.1 0, 64, .inl (wf))), (md 15, .inl (g.2.1 0, 8, .inl (sf))), (md 22, .inl (g.2.1 0, 64, .inl (kRW))), (md 18, .inl (g.2.1 0, 32, .inl (dg))), (md 19, .inl (g.2.1 0, 32, .inl (kf))), (md 21, .inl (g.2.1 0, 160, .inl (mf))), (md 3, .inl (g.2.1 0, 64, .inl (te))), (md 9, .inl (g.2.1 0, 1024, .inl (wr))), (md 2, .inl (g.2.1 0, 64, .inl (se))), (md 23, .inl (g.2.1 0, 16, .inl (wd))), (md 24, .inl (g.2.1 0, 16, .inl (mx))), (md 4, .inl (g.2.1 0, 2, .inl (szF epn))), (md 10, .inl (g.2.1 0, 8, .inl (szF z))), (md 6, .inl (g.2.1 2, 2, .inl (smf))), (md 7, .inl (g.2.1 1, 2, .inr (.inl (gtf)))), (md 8, .inl (g.2.1 2, 128, .inl (snf))), (md 13, .inl (g.2.1 0, 96, .inl (ibf)))] sz (fun (r : Int32) (u : (Nat → Int32) × (Nat → Int32) × (Nat → Int32) × (Nat → Int32) × (Nat → Int32) × (Nat → Int32) × (Nat → Int32) × (Nat → Int32)) => r = nI 0) (fun (u : (Nat → Int32) × (Nat → Int32) × (Nat → Int32) × (Nat → Int32) × (Nat → Int32) × (Nat → Int32) × (Nat → Int32) × (Nat → Int32)) => [(md 25, .inr (7, [.ref (md 0), .int (nI op), .ref (md 2), .ref (md 3), .ref (md 4), .ref (md 5), .ref (md 6), .ref (md 7), .ref (md 8), .ref (md 9), .ref (md 10), .ref (md 11), .int (nI on), .ref (md 13), .int (nI ln), .ref (md 15), .ref (md 16), .ref (md 17), .ref (md 18), .ref (md 19), .ref (md 20), .ref (md 21), .ref (md 22), .ref (md 23), .ref (md 24)])), (md 17, .inl (g.2.1 0, 400, .inl (u.1))), (md 16, .inl (g.2.1 0, 64, .inl (u.2.1))), (md 15, .inl (g.2.1 0, 8, .inl (u.2.2.1))), (md 22, .inl (g.2.1 0, 64, .inl (kRW))), (md 18, .inl (g.2.1 0, 32, .inl (u.2.2.2.1))), (md 19, .inl (g.2.1 0, 32, .inl (u.2.2.2.2.1))), (md 21, .inl (g.2.1 0, 160, .inl (u.2.2.2.2.2.1))), (md 3, .inl (g.2.1 0, 64, .inl (te))), (md 9, .inl (g.2.1 0, 1024, .inl (wr))), (md 2, .inl (g.2.1 0, 64, .inl (se))), (md 23, .inl (g.2.1 0, 16, .inl (u.2.2.2.2.2.2.1))), (md 24, .inl (g.2.1 0, 16, .inl (u.2.2.2.2.2.2.2))), (md 4, .inl (g.2.1 0, 2, .inl (szF epn))), (md 10, .inl (g.2.1 0, 8, .inl (szF z))), (md 6, .inl (g.2.1 2, 2, .inl (upd smf 1 (nI 1)))), (md 7, .inl (g.2.1 1, 2, .inr (.inl (vp_updL gtf 1 (nAt (f k) 5 8))))), (md 8, .inl (g.2.1 2, 128, .inl (upd (shM snf 64 64 0) (64 + 0) (nI 1)))), (md 13, .inl (g.2.1 0, 96, .inl (rdF ibf (f k) ek ln)))]) 0 0 := by
  refine enterI (by decide) rfl (Nat.le_of_ble_eq_true rfl) ?_
  intro p e s m below meth c A ls ar Q hE h0 hret hw hl
  obtain ⟨hx, hb, hr, hml, hown, hts, hlocks, hname⟩ := hE
  have hown : s.vm.findClass RX7 = some m.cls := hown
  have hw : WD g A s [(md 25, .inr (7, [.ref (md 0), .int (nI op), .ref (md 2), .ref (md 3), .ref (md 4), .ref (md 5), .ref (md 6), .ref (md 7), .ref (md 8), .ref (md 9), .ref (md 10), .ref (md 11), .int (nI on), .ref (md 13), .int (nI inn), .ref (md 15), .ref (md 16), .ref (md 17), .ref (md 18), .ref (md 19), .ref (md 20), .ref (md 21), .ref (md 22), .ref (md 23), .ref (md 24)])), (md 17, .inl (g.2.1 0, 400, .inl (rf))), (md 16, .inl (g.2.1 0, 64, .inl (wf))), (md 15, .inl (g.2.1 0, 8, .inl (sf))), (md 22, .inl (g.2.1 0, 64, .inl (kRW))), (md 18, .inl (g.2.1 0, 32, .inl (dg))), (md 19, .inl (g.2.1 0, 32, .inl (kf))), (md 21, .inl (g.2.1 0, 160, .inl (mf))), (md 3, .inl (g.2.1 0, 64, .inl (te))), (md 9, .inl (g.2.1 0, 1024, .inl (wr))), (md 2, .inl (g.2.1 0, 64, .inl (se))), (md 23, .inl (g.2.1 0, 16, .inl (wd))), (md 24, .inl (g.2.1 0, 16, .inl (mx))), (md 4, .inl (g.2.1 0, 2, .inl (szF epn))), (md 10, .inl (g.2.1 0, 8, .inl (szF z))), (md 6, .inl (g.2.1 2, 2, .inl (smf))), (md 7, .inl (g.2.1 1, 2, .inr (.inl (gtf)))), (md 8, .inl (g.2.1 2, 128, .inl (snf))), (md 13, .inl (g.2.1 0, 96, .inl (ibf)))] [] s.heap [] := hw
  have hinX7 : ∀ w ∈ u_ws RX7 TX7 25, w ∈ wsX7_deliver := by decide +kernel
  have k19 := hts (.fieldLink RX7 19 "RecordWireModel" "epochs" "[I") (by decide +kernel)
  have k26 := hts (.fieldLink RX7 26 "RecordWireModel" "some" "[Z") (by decide +kernel)
  have k30 := hts (.fieldLink RX7 30 "RecordWireModel" "greatest" "[J") (by decide +kernel)
  have k33 := hts (.fieldLink RX7 33 "RecordWireModel" "seen" "[Z") (by decide +kernel)
  have k36 := hts (.fieldLink RX7 36 "RecordWireModel" "wire" "[I") (by decide +kernel)
  have k39 := hts (.fieldLink RX7 39 "RecordWireModel" "sizes" "[I") (by decide +kernel)
  have k45 := hts (.fieldLink RX7 45 "RecordWireModel" "inbox" "[I") (by decide +kernel)
  have k57 := hts (.fieldLink RX7 57 "RecordWireModel" "digest" "[I") (by decide +kernel)
  have k145 := hts (.fieldLink RX7 145 "RecordWireModel" "isOpen" "Z") (by decide +kernel)
  have k153 := hts (.fieldLink RX7 153 "RecordWireModel" "inSize" "I") (by decide +kernel)
  have k227 := hts (.constantLong RX7 227 (64)) (by decide +kernel)
  have h5 : kwd (shf wr (128 * k)) 5 = kwd (f k) 5 := kwd_eq (hwr 5 (by omega)) (hwr 6 (by omega)) (hwr 7 (by omega)) (hwr 8 (by omega))
  have h9 : kwd (shf wr (128 * k)) 9 = kwd (f k) 9 := kwd_eq (hwr 9 (by omega)) (hwr 10 (by omega)) (hwr 11 (by omega)) (hwr 12 (by omega))
  have hl : lv_has ls 15 [(0, .ref (md 25)), (1, .int (nI k)), (2, .int (nI 0))] := hl
  refine lv_aload_n hx hb dX7_deliver_0 rfl (lv_at hl 0 rfl) ?_
  refine lv_iload_n hx hb dX7_deliver_1 rfl (lv_at hl 1 rfl) ?_
  refine r_calli (wr := [(md 17, .inl (g.2.1 0, 400, .inl (rf))), (md 16, .inl (g.2.1 0, 64, .inl (wf))), (md 15, .inl (g.2.1 0, 8, .inl (sf))), (md 22, .inl (g.2.1 0, 64, .inl (kRW))), (md 18, .inl (g.2.1 0, 32, .inl (dg))), (md 19, .inl (g.2.1 0, 32, .inl (kf))), (md 21, .inl (g.2.1 0, 160, .inl (mf))), (md 3, .inl (g.2.1 0, 64, .inl (te))), (md 9, .inl (g.2.1 0, 1024, .inl (wr))), (md 2, .inl (g.2.1 0, 64, .inl (se))), (md 23, .inl (g.2.1 0, 16, .inl (wd))), (md 24, .inl (g.2.1 0, 16, .inl (mx))), (md 4, .inl (g.2.1 0, 2, .inl (szF epn))), (md 6, .inl (g.2.1 2, 2, .inl (smf))), (md 7, .inl (g.2.1 1, 2, .inr (.inl (gtf)))), (md 8, .inl (g.2.1 2, 128, .inl (snf))), (md 13, .inl (g.2.1 0, 96, .inl (ibf)))]) [0, 14] [1, 2, 3, 4, 5, 6, 7, 8, 9, 10, 11, 12, 13, 15, 16, 17, 18] h0 hw rfl rfl (by decide) (by decide) (va_runV (As := [.int (nI k)]) (rest := []) ⟨hx, hb, hml, hown, hts⟩ (c_X7_isSlot l g md op on inn z k (by omega) (by omega) _) (cwV 1 hts gX7_deliver_X7_isSlot rfl rfl rfl (by decide +kernel) ⟨Nat.le_of_ble_eq_true rfl, Nat.le_of_ble_eq_true rfl⟩) (preV_of [0, 14] [.int (nI k)] h0 hw rfl (by decide) 0 7 rfl rfl) rfl rfl hl.1 rfl (lv_room (Nat.le_of_ble_eq_true rfl)) dX7_deliver_2 ⟨Nat.le_of_ble_eq_true rfl, Nat.le_of_ble_eq_true rfl⟩) (fun r1 u2 H locs hp3 hw => ?_)
  have hw : WD g A s [(md 17, .inl (g.2.1 0, 400, .inl (rf))), (md 16, .inl (g.2.1 0, 64, .inl (wf))), (md 15, .inl (g.2.1 0, 8, .inl (sf))), (md 22, .inl (g.2.1 0, 64, .inl (kRW))), (md 18, .inl (g.2.1 0, 32, .inl (dg))), (md 19, .inl (g.2.1 0, 32, .inl (kf))), (md 21, .inl (g.2.1 0, 160, .inl (mf))), (md 3, .inl (g.2.1 0, 64, .inl (te))), (md 9, .inl (g.2.1 0, 1024, .inl (wr))), (md 2, .inl (g.2.1 0, 64, .inl (se))), (md 23, .inl (g.2.1 0, 16, .inl (wd))), (md 24, .inl (g.2.1 0, 16, .inl (mx))), (md 4, .inl (g.2.1 0, 2, .inl (szF epn))), (md 6, .inl (g.2.1 2, 2, .inl (smf))), (md 7, .inl (g.2.1 1, 2, .inr (.inl (gtf)))), (md 8, .inl (g.2.1 2, 128, .inl (snf))), (md 13, .inl (g.2.1 0, 96, .inl (ibf))), (md 25, .inr (7, [.ref (md 0), .int (nI op), .ref (md 2), .ref (md 3), .ref (md 4), .ref (md 5), .ref (md 6), .ref (md 7), .ref (md 8), .ref (md 9), .ref (md 10), .ref (md 11), .int (nI on), .ref (md 13), .int (nI inn), .ref (md 15), .ref (md 16), .ref (md 17), .ref (md 18), .ref (md 19), .ref (md 20), .ref (md 21), .ref (md 22), .ref (md 23), .ref (md 24)])), (md 10, .inl (g.2.1 0, 8, .inl (szF z)))] [] H locs := hw
  subst hp3
  refine lv_if_eq (tgt := 24) hx hb dX7_deliver_5 (by decide) (fun c4 => ?_) (fun c4 => ?_)
  · skip
    have c4 : ¬ (¬ z k = 0) := bI_f c4
    exact absurd (by omega) c4
  · skip
    have c4 : ¬ z k = 0 := bI_t c4
    refine lv_iload_n hx hb dX7_deliver_8 rfl (lv_at hl 2 rfl) ?_
    refine lv_if_eq (tgt := 17) hx hb dX7_deliver_9 (by decide) (fun c5 => ?_) (fun c5 => ?_)
    · skip
      rw [← nI_0] at c5
      have c5 : 0 = 0 := (nI_eq (by omega) (by omega)).mp c5
      refine lv_aload_n hx hb dX7_deliver_17 rfl (lv_at hl 0 rfl) ?_
      refine r_get (ci := 7) (v := .int (nI op)) (C := RX7) (T := TX7) (N := 25) hx hb hts hinX7 hown h0 hw 17 rfl rfl 1 (by decide) k145 rfl dX7_deliver_18 ?_
      refine lv_if_ne (tgt := 26) hx hb dX7_deliver_21 (by decide) (fun c6 => ?_) (fun c6 => ?_)
      · skip
        rw [← nI_0] at c6
        have c6 : ¬ op = 0 := fun q => c6 (((nI_eq (by omega) (by omega)).mpr q))
        refine lv_sipush (v := nI 128) hx hb dX7_deliver_26 (by decide +kernel) ?_
        refine lv_iload_n hx hb dX7_deliver_29 rfl (lv_at hl 1 rfl) ?_
        refine lv_imul hx hb dX7_deliver_30 ?_
        refine r_te (y := nI (128 * k)) (pk_mul 128 k) ?_
        refine lv_istore_n (lv' := [(3, .int (nI (128 * k))), (0, .ref (md 25)), (1, .int (nI k)), (2, .int (nI 0))]) hx hb dX7_deliver_31 rfl hl (by decide) rfl (fun ls hl => ?_)
        refine lv_iconst (v := nI 1) hx hb dX7_deliver_32 (by decide +kernel) ?_
        refine lv_iload_n hx hb dX7_deliver_33 rfl (lv_at hl 3 rfl) ?_
        refine lv_isub hx hb dX7_deliver_34 ?_
        refine r_te (y := nI 1) (pk_sub (by omega)) ?_
        refine lv_istore (lv' := [(4, .int (nI 1)), (3, .int (nI (128 * k))), (0, .ref (md 25)), (1, .int (nI k)), (2, .int (nI 0))]) hx hb dX7_deliver_35 hl (by decide) rfl (fun ls hl => ?_)
        refine lv_aload_n hx hb dX7_deliver_37 rfl (lv_at hl 2 rfl) ?_
        refine lv_iload_n hx hb dX7_deliver_38 rfl (lv_at hl 1 rfl) ?_
        refine lv_bipush (v := nI 13) hx hb dX7_deliver_39 (by decide +kernel) ?_
        refine lv_iadd hx hb dX7_deliver_41 ?_
        refine r_te (y := nI (128 * k + 13)) (nI_add (128 * k) 13) ?_
        refine lv_iconst (v := nI 2) hx hb dX7_deliver_42 (by decide +kernel) ?_
        refine r_calll (wr := [(md 17, .inl (g.2.1 0, 400, .inl (rf))), (md 16, .inl (g.2.1 0, 64, .inl (wf))), (md 15, .inl (g.2.1 0, 8, .inl (sf))), (md 22, .inl (g.2.1 0, 64, .inl (kRW))), (md 18, .inl (g.2.1 0, 32, .inl (dg))), (md 19, .inl (g.2.1 0, 32, .inl (kf))), (md 21, .inl (g.2.1 0, 160, .inl (mf))), (md 3, .inl (g.2.1 0, 64, .inl (te))), (md 2, .inl (g.2.1 0, 64, .inl (se))), (md 23, .inl (g.2.1 0, 16, .inl (wd))), (md 24, .inl (g.2.1 0, 16, .inl (mx))), (md 4, .inl (g.2.1 0, 2, .inl (szF epn))), (md 6, .inl (g.2.1 2, 2, .inl (smf))), (md 7, .inl (g.2.1 1, 2, .inr (.inl (gtf)))), (md 8, .inl (g.2.1 2, 128, .inl (snf))), (md 13, .inl (g.2.1 0, 96, .inl (ibf))), (md 10, .inl (g.2.1 0, 8, .inl (szF z)))]) [17, 8] [0, 1, 2, 3, 4, 5, 6, 7, 9, 10, 11, 12, 13, 14, 15, 16, 18] h0 hw rfl rfl (by decide) (by decide) (va_runV (As := [.int (nI (128 * k + 13)), .int (nI 2)]) (rest := []) ⟨hx, hb, hml, hown, hts⟩ (c_X7_numberAt l g md op on inn wr (128 * k + 13) 2 (by omega) (fun j hj => by rw [Nat.add_assoc, hwr (13 + j) (by omega)]; exact hb8 (13 + j) (by omega)) _) (cwV 2 hts gX7_deliver_X7_numberAt rfl rfl rfl (by decide +kernel) ⟨Nat.le_of_ble_eq_true rfl, Nat.le_of_ble_eq_true rfl⟩) (preV_of [17, 8] [.int (nI (128 * k + 13)), .int (nI 2)] h0 hw rfl (by decide) 17 7 rfl rfl) rfl rfl hl.1 rfl (lv_room (Nat.le_of_ble_eq_true rfl)) dX7_deliver_43 ⟨Nat.le_of_ble_eq_true rfl, Nat.le_of_ble_eq_true rfl⟩) (fun r7 u8 H locs hp9 hw => ?_)
        have hw : WD g A s [(md 17, .inl (g.2.1 0, 400, .inl (rf))), (md 16, .inl (g.2.1 0, 64, .inl (wf))), (md 15, .inl (g.2.1 0, 8, .inl (sf))), (md 22, .inl (g.2.1 0, 64, .inl (kRW))), (md 18, .inl (g.2.1 0, 32, .inl (dg))), (md 19, .inl (g.2.1 0, 32, .inl (kf))), (md 21, .inl (g.2.1 0, 160, .inl (mf))), (md 3, .inl (g.2.1 0, 64, .inl (te))), (md 2, .inl (g.2.1 0, 64, .inl (se))), (md 23, .inl (g.2.1 0, 16, .inl (wd))), (md 24, .inl (g.2.1 0, 16, .inl (mx))), (md 4, .inl (g.2.1 0, 2, .inl (szF epn))), (md 6, .inl (g.2.1 2, 2, .inl (smf))), (md 7, .inl (g.2.1 1, 2, .inr (.inl (gtf)))), (md 8, .inl (g.2.1 2, 128, .inl (snf))), (md 13, .inl (g.2.1 0, 96, .inl (ibf))), (md 10, .inl (g.2.1 0, 8, .inl (szF z))), (md 25, .inr (7, [.ref (md 0), .int (nI op), .ref (md 2), .ref (md 3), .ref (md 4), .ref (md 5), .ref (md 6), .ref (md 7), .ref (md 8), .ref (md 9), .ref (md 10), .ref (md 11), .int (nI on), .ref (md 13), .int (nI inn), .ref (md 15), .ref (md 16), .ref (md 17), .ref (md 18), .ref (md 19), .ref (md 20), .ref (md 21), .ref (md 22), .ref (md 23), .ref (md 24)])), (md 9, .inl (g.2.1 0, 1024, .inl (wr)))] [] H locs := hw
        subst hp9
        refine r_tel (y := nAt (f k) 13 2) (nAt_eq 2 (fun j hj => by rw [Nat.add_assoc]; exact hwr (13 + j) (by omega))) ?_
        refine lv_l2i (v := (nAt (f k) 13 2).toInt32) hx hb dX7_deliver_46 rfl ?_
        refine r_te (y := nI ln) hln ?_
        refine lv_istore (lv' := [(5, .int (nI ln)), (4, .int (nI 1)), (3, .int (nI (128 * k))), (0, .ref (md 25)), (1, .int (nI k)), (2, .int (nI 0))]) hx hb dX7_deliver_47 hl (by decide) rfl (fun ls hl => ?_)
        refine lv_aload_n hx hb dX7_deliver_49 rfl (lv_at hl 3 rfl) ?_
        refine r_get (ci := 7) (v := .ref (md 9)) (C := RX7) (T := TX7) (N := 25) hx hb hts hinX7 hown h0 hw 17 rfl rfl 9 (by decide) k36 rfl dX7_deliver_50 ?_
        refine lv_iload_n hx hb dX7_deliver_53 rfl (lv_at hl 2 rfl) ?_
        refine r_iald hx hb h0 hw 18 rfl (i := 128 * k) (by omega) (by omega) dX7_deliver_54 ?_
        refine r_te (y := f k (0)) (by first | exact hwr (0) (by omega) | (have := hwr (0) (by omega); simpa [Nat.add_assoc] using this)) ?_
        refine lv_iload hx hb dX7_deliver_55 (lv_at hl 1 rfl) ?_
        refine lv_icmp_ne (tgt := 84) hx hb dX7_deliver_57 (by decide) (fun c10 => ?_) (fun c10 => ?_)
        · skip
          exact absurd hs0 c10
        · skip
          refine lv_iload hx hb dX7_deliver_60 (lv_at hl 0 rfl) ?_
          refine lv_bipush (v := nI 96) hx hb dX7_deliver_62 (by decide +kernel) ?_
          refine lv_icmp_gt (tgt := 84) hx hb dX7_deliver_64 (by decide) (fun c11 => ?_) (fun c11 => ?_)
          · skip
            have c11 : 96 < ln := (nI_ltI (by omega) (by omega)).mp c11
            exfalso; omega
          · skip
            have c11 : ¬ 96 < ln := fun q => c11 (((nI_ltI (by omega) (by omega)).mpr q))
            refine lv_aload_n hx hb dX7_deliver_67 rfl (lv_at hl 3 rfl) ?_
            refine r_get (ci := 7) (v := .ref (md 10)) (C := RX7) (T := TX7) (N := 25) hx hb hts hinX7 hown h0 hw 17 rfl rfl 10 (by decide) k39 rfl dX7_deliver_68 ?_
            refine lv_iload_n hx hb dX7_deliver_71 rfl (lv_at hl 4 rfl) ?_
            refine r_iald hx hb h0 hw 16 rfl (i := k) (by omega) (by omega) dX7_deliver_72 ?_
            refine r_te (y := nI (z k)) rfl ?_
            refine lv_bipush (v := nI 15) hx hb dX7_deliver_73 (by decide +kernel) ?_
            refine lv_iload hx hb dX7_deliver_75 (lv_at hl 0 rfl) ?_
            refine lv_iadd hx hb dX7_deliver_77 ?_
            refine r_te (y := nI (15 + ln)) (nI_add 15 ln) ?_
            refine lv_bipush (v := nI 16) hx hb dX7_deliver_78 (by decide +kernel) ?_
            refine lv_iadd hx hb dX7_deliver_80 ?_
            refine r_te (y := nI (15 + ln + 16)) (nI_add (15 + ln) 16) ?_
            refine lv_icmp_eq (tgt := 86) hx hb dX7_deliver_81 (by decide) (fun c12 => ?_) (fun c12 => ?_)
            · skip
              have c12 : (z k) = (15 + ln + 16) := (nI_eq (by omega) (by omega)).mp c12
              refine lv_aload_n hx hb dX7_deliver_86 rfl (lv_at hl 3 rfl) ?_
              refine lv_iload_n hx hb dX7_deliver_87 rfl (lv_at hl 2 rfl) ?_
              refine lv_iconst (v := nI 1) hx hb dX7_deliver_88 (by decide +kernel) ?_
              refine lv_iadd hx hb dX7_deliver_89 ?_
              refine r_te (y := nI (128 * k + 1)) (nI_add (128 * k) 1) ?_
              refine lv_iconst (v := nI 4) hx hb dX7_deliver_90 (by decide +kernel) ?_
              refine r_calll (wr := [(md 17, .inl (g.2.1 0, 400, .inl (rf))), (md 16, .inl (g.2.1 0, 64, .inl (wf))), (md 15, .inl (g.2.1 0, 8, .inl (sf))), (md 22, .inl (g.2.1 0, 64, .inl (kRW))), (md 18, .inl (g.2.1 0, 32, .inl (dg))), (md 19, .inl (g.2.1 0, 32, .inl (kf))), (md 21, .inl (g.2.1 0, 160, .inl (mf))), (md 3, .inl (g.2.1 0, 64, .inl (te))), (md 2, .inl (g.2.1 0, 64, .inl (se))), (md 23, .inl (g.2.1 0, 16, .inl (wd))), (md 24, .inl (g.2.1 0, 16, .inl (mx))), (md 4, .inl (g.2.1 0, 2, .inl (szF epn))), (md 6, .inl (g.2.1 2, 2, .inl (smf))), (md 7, .inl (g.2.1 1, 2, .inr (.inl (gtf)))), (md 8, .inl (g.2.1 2, 128, .inl (snf))), (md 13, .inl (g.2.1 0, 96, .inl (ibf))), (md 10, .inl (g.2.1 0, 8, .inl (szF z)))]) [17, 18] [0, 1, 2, 3, 4, 5, 6, 7, 8, 9, 10, 11, 12, 13, 14, 15, 16] h0 hw rfl rfl (by decide) (by decide) (va_runV (As := [.int (nI (128 * k + 1)), .int (nI 4)]) (rest := []) ⟨hx, hb, hml, hown, hts⟩ (c_X7_numberAt l g md op on inn wr (128 * k + 1) 4 (by omega) (fun j hj => by rw [Nat.add_assoc, hwr (1 + j) (by omega)]; exact hb8 (1 + j) (by omega)) _) (cwV 2 hts gX7_deliver_X7_numberAt rfl rfl rfl (by decide +kernel) ⟨Nat.le_of_ble_eq_true rfl, Nat.le_of_ble_eq_true rfl⟩) (preV_of [17, 18] [.int (nI (128 * k + 1)), .int (nI 4)] h0 hw rfl (by decide) 17 7 rfl rfl) rfl rfl hl.1 rfl (lv_room (Nat.le_of_ble_eq_true rfl)) dX7_deliver_91 ⟨Nat.le_of_ble_eq_true rfl, Nat.le_of_ble_eq_true rfl⟩) (fun r13 u14 H locs hp15 hw => ?_)
              have hw : WD g A s [(md 17, .inl (g.2.1 0, 400, .inl (rf))), (md 16, .inl (g.2.1 0, 64, .inl (wf))), (md 15, .inl (g.2.1 0, 8, .inl (sf))), (md 22, .inl (g.2.1 0, 64, .inl (kRW))), (md 18, .inl (g.2.1 0, 32, .inl (dg))), (md 19, .inl (g.2.1 0, 32, .inl (kf))), (md 21, .inl (g.2.1 0, 160, .inl (mf))), (md 3, .inl (g.2.1 0, 64, .inl (te))), (md 2, .inl (g.2.1 0, 64, .inl (se))), (md 23, .inl (g.2.1 0, 16, .inl (wd))), (md 24, .inl (g.2.1 0, 16, .inl (mx))), (md 4, .inl (g.2.1 0, 2, .inl (szF epn))), (md 6, .inl (g.2.1 2, 2, .inl (smf))), (md 7, .inl (g.2.1 1, 2, .inr (.inl (gtf)))), (md 8, .inl (g.2.1 2, 128, .inl (snf))), (md 13, .inl (g.2.1 0, 96, .inl (ibf))), (md 10, .inl (g.2.1 0, 8, .inl (szF z))), (md 25, .inr (7, [.ref (md 0), .int (nI op), .ref (md 2), .ref (md 3), .ref (md 4), .ref (md 5), .ref (md 6), .ref (md 7), .ref (md 8), .ref (md 9), .ref (md 10), .ref (md 11), .int (nI on), .ref (md 13), .int (nI inn), .ref (md 15), .ref (md 16), .ref (md 17), .ref (md 18), .ref (md 19), .ref (md 20), .ref (md 21), .ref (md 22), .ref (md 23), .ref (md 24)])), (md 9, .inl (g.2.1 0, 1024, .inl (wr)))] [] H locs := hw
              subst hp15
              refine r_tel (y := nAt (f k) 1 4) (nAt_eq 4 (fun j hj => by rw [Nat.add_assoc]; exact hwr (1 + j) (by omega))) ?_
              refine lv_aload_n hx hb dX7_deliver_94 rfl (lv_at hl 3 rfl) ?_
              refine r_get (ci := 7) (v := .ref (md 4)) (C := RX7) (T := TX7) (N := 25) hx hb hts hinX7 hown h0 hw 17 rfl rfl 4 (by decide) k19 rfl dX7_deliver_95 ?_
              refine lv_iload hx hb dX7_deliver_98 (lv_at hl 1 rfl) ?_
              refine r_iald hx hb h0 hw 11 rfl (i := 1) (by omega) (by omega) dX7_deliver_100 ?_
              refine r_te (y := nI (epn 1)) rfl ?_
              refine lv_i2l (v := (nI (epn 1)).toInt64) hx hb dX7_deliver_101 rfl ?_
              refine W.lcmp hx hb dX7_deliver_102 ?_
              refine lv_if_eq (tgt := 108) hx hb dX7_deliver_103 (by decide) (fun c16 => ?_) (fun c16 => ?_)
              · skip
                have c16 : (nAt (f k) 1 4) = ((nI (epn 1)).toInt64) := (lg_cmp_eq _ _).mp c16
                refine lv_aload_n hx hb dX7_deliver_108 rfl (lv_at hl 3 rfl) ?_
                refine lv_iload hx hb dX7_deliver_109 (lv_at hl 1 rfl) ?_
                refine lv_iload_n hx hb dX7_deliver_111 rfl (lv_at hl 4 rfl) ?_
                refine lv_bipush (v := nI 15) hx hb dX7_deliver_112 (by decide +kernel) ?_
                refine lv_iload hx hb dX7_deliver_114 (lv_at hl 0 rfl) ?_
                refine lv_iadd hx hb dX7_deliver_116 ?_
                refine r_te (y := nI (15 + ln)) (nI_add 15 ln) ?_
                refine r_callv (wr := [(md 2, .inl (g.2.1 0, 64, .inl (se))), (md 23, .inl (g.2.1 0, 16, .inl (wd))), (md 24, .inl (g.2.1 0, 16, .inl (mx))), (md 4, .inl (g.2.1 0, 2, .inl (szF epn))), (md 6, .inl (g.2.1 2, 2, .inl (smf))), (md 7, .inl (g.2.1 1, 2, .inr (.inl (gtf)))), (md 8, .inl (g.2.1 2, 128, .inl (snf))), (md 13, .inl (g.2.1 0, 96, .inl (ibf))), (md 10, .inl (g.2.1 0, 8, .inl (szF z)))]) [17, 0, 1, 2, 3, 4, 5, 6, 7, 18] [8, 9, 10, 11, 12, 13, 14, 15, 16] h0 hw rfl rfl (by decide) (by decide) (va_runV (As := [.int (nI 1), .int (nI k), .int (nI (15 + ln))]) (rest := []) ⟨hx, hb, hml, hown, hts⟩ (c_X7_tag l g md op on inn rf wf sf dg kf mf te wr 1 k (15 + ln) (by omega) (by omega) (by omega) _) (cwV 3 hts gX7_deliver_X7_tag rfl rfl rfl (by decide +kernel) ⟨Nat.le_of_ble_eq_true rfl, Nat.le_of_ble_eq_true rfl⟩) (preV_of [17, 0, 1, 2, 3, 4, 5, 6, 7, 18] [.int (nI 1), .int (nI k), .int (nI (15 + ln))] h0 hw rfl (by decide) 17 7 rfl rfl) rfl rfl hl.1 rfl (lv_room (Nat.le_of_ble_eq_true rfl)) dX7_deliver_117 ⟨Nat.le_of_ble_eq_true rfl, Nat.le_of_ble_eq_true rfl⟩) (fun u18 H locs hp19 hw => ?_)
                obtain ⟨r2_20, w2_21, s2_22, k2_23, m2_24⟩ := u18
                have hw : WD g A s [(md 2, .inl (g.2.1 0, 64, .inl (se))), (md 23, .inl (g.2.1 0, 16, .inl (wd))), (md 24, .inl (g.2.1 0, 16, .inl (mx))), (md 4, .inl (g.2.1 0, 2, .inl (szF epn))), (md 6, .inl (g.2.1 2, 2, .inl (smf))), (md 7, .inl (g.2.1 1, 2, .inr (.inl (gtf)))), (md 8, .inl (g.2.1 2, 128, .inl (snf))), (md 13, .inl (g.2.1 0, 96, .inl (ibf))), (md 10, .inl (g.2.1 0, 8, .inl (szF z))), (md 25, .inr (7, [.ref (md 0), .int (nI op), .ref (md 2), .ref (md 3), .ref (md 4), .ref (md 5), .ref (md 6), .ref (md 7), .ref (md 8), .ref (md 9), .ref (md 10), .ref (md 11), .int (nI on), .ref (md 13), .int (nI inn), .ref (md 15), .ref (md 16), .ref (md 17), .ref (md 18), .ref (md 19), .ref (md 20), .ref (md 21), .ref (md 22), .ref (md 23), .ref (md 24)])), (md 17, .inl (g.2.1 0, 400, .inl (r2_20))), (md 16, .inl (g.2.1 0, 64, .inl (w2_21))), (md 15, .inl (g.2.1 0, 8, .inl (s2_22))), (md 22, .inl (g.2.1 0, 64, .inl (kRW))), (md 18, .inl (g.2.1 0, 32, .inl (hmv (shf te (32 * 1)) (shf wr (128 * k)) (15 + ln)))), (md 19, .inl (g.2.1 0, 32, .inl (k2_23))), (md 21, .inl (g.2.1 0, 160, .inl (m2_24))), (md 3, .inl (g.2.1 0, 64, .inl (te))), (md 9, .inl (g.2.1 0, 1024, .inl (wr)))] [] H locs := hw
                have hw := hw.cong 14 rfl (f' := hmv tk (f k) (15 + ln)) (hmv_cong htk (fun j hj => hwr j (by omega)))
                have hw : WD g A s [(md 2, .inl (g.2.1 0, 64, .inl (se))), (md 23, .inl (g.2.1 0, 16, .inl (wd))), (md 24, .inl (g.2.1 0, 16, .inl (mx))), (md 4, .inl (g.2.1 0, 2, .inl (szF epn))), (md 6, .inl (g.2.1 2, 2, .inl (smf))), (md 7, .inl (g.2.1 1, 2, .inr (.inl (gtf)))), (md 8, .inl (g.2.1 2, 128, .inl (snf))), (md 13, .inl (g.2.1 0, 96, .inl (ibf))), (md 10, .inl (g.2.1 0, 8, .inl (szF z))), (md 25, .inr (7, [.ref (md 0), .int (nI op), .ref (md 2), .ref (md 3), .ref (md 4), .ref (md 5), .ref (md 6), .ref (md 7), .ref (md 8), .ref (md 9), .ref (md 10), .ref (md 11), .int (nI on), .ref (md 13), .int (nI inn), .ref (md 15), .ref (md 16), .ref (md 17), .ref (md 18), .ref (md 19), .ref (md 20), .ref (md 21), .ref (md 22), .ref (md 23), .ref (md 24)])), (md 17, .inl (g.2.1 0, 400, .inl (r2_20))), (md 16, .inl (g.2.1 0, 64, .inl (w2_21))), (md 15, .inl (g.2.1 0, 8, .inl (s2_22))), (md 22, .inl (g.2.1 0, 64, .inl (kRW))), (md 18, .inl (g.2.1 0, 32, .inl (hmv tk (f k) (15 + ln)))), (md 19, .inl (g.2.1 0, 32, .inl (k2_23))), (md 21, .inl (g.2.1 0, 160, .inl (m2_24))), (md 3, .inl (g.2.1 0, 64, .inl (te))), (md 9, .inl (g.2.1 0, 1024, .inl (wr)))] [] _ _ := hw
                refine lv_iconst (v := nI 0) hx hb dX7_deliver_120 (by decide +kernel) ?_
                refine lv_istore (lv' := [(6, .int (nI 0)), (5, .int (nI ln)), (4, .int (nI 1)), (3, .int (nI (128 * k))), (0, .ref (md 25)), (1, .int (nI k)), (2, .int (nI 0))]) hx hb dX7_deliver_121 hl (by decide) rfl (fun ls hl => ?_)
                have lp123 : ∀ (fu : Nat) (q : Nat), 16 - q < fu → (q ≤ 16) → (∀ j, j < q → f k (15 + ln + j) = hmv tk (f k) (15 + ln) j) → ∀ (H : Heap) (locs : List Loc) (ls : Array Slot), WD g A s [(md 2, .inl (g.2.1 0, 64, .inl (se))), (md 23, .inl (g.2.1 0, 16, .inl (wd))), (md 24, .inl (g.2.1 0, 16, .inl (mx))), (md 4, .inl (g.2.1 0, 2, .inl (szF epn))), (md 6, .inl (g.2.1 2, 2, .inl (smf))), (md 7, .inl (g.2.1 1, 2, .inr (.inl (gtf)))), (md 8, .inl (g.2.1 2, 128, .inl (snf))), (md 13, .inl (g.2.1 0, 96, .inl (ibf))), (md 10, .inl (g.2.1 0, 8, .inl (szF z))), (md 25, .inr (7, [.ref (md 0), .int (nI op), .ref (md 2), .ref (md 3), .ref (md 4), .ref (md 5), .ref (md 6), .ref (md 7), .ref (md 8), .ref (md 9), .ref (md 10), .ref (md 11), .int (nI on), .ref (md 13), .int (nI inn), .ref (md 15), .ref (md 16), .ref (md 17), .ref (md 18), .ref (md 19), .ref (md 20), .ref (md 21), .ref (md 22), .ref (md 23), .ref (md 24)])), (md 17, .inl (g.2.1 0, 400, .inl (r2_20))), (md 16, .inl (g.2.1 0, 64, .inl (w2_21))), (md 15, .inl (g.2.1 0, 8, .inl (s2_22))), (md 22, .inl (g.2.1 0, 64, .inl (kRW))), (md 18, .inl (g.2.1 0, 32, .inl (hmv tk (f k) (15 + ln)))), (md 19, .inl (g.2.1 0, 32, .inl (k2_23))), (md 21, .inl (g.2.1 0, 160, .inl (m2_24))), (md 3, .inl (g.2.1 0, 64, .inl (te))), (md 9, .inl (g.2.1 0, 1024, .inl (wr)))] [] H locs → lv_has ls 15 [(6, .int (nI q)), (0, .ref (md 25)), (1, .int (nI k)), (3, .int (nI (128 * k))), (4, .int (nI 1)), (5, .int (nI ln))] → W p l e { frames := 5, cells := 0, slots := 0, locals := 123 } s m ar below meth c H locs 0 0 Q (F0 m 123 ls []) := by
                  intro fu
                  induction fu with
                  | zero => intro q hmz; exact absurd hmz (Nat.not_lt_zero _)
                  | succ fu ih =>
                    intro q hms hq9 hv H locs ls hw hl
                    refine lv_iload hx hb dX7_deliver_123 (lv_at hl 0 rfl) ?_
                    refine lv_bipush (v := nI 16) hx hb dX7_deliver_125 (by decide +kernel) ?_
                    refine lv_icmp_ge (tgt := 163) hx hb dX7_deliver_127 (by decide) (fun c25 => ?_) (fun c25 => ?_)
                    · skip
                      have c25 : 16 ≤ q := (nI_leI (by omega) (by omega)).mp c25
                      have hq : q = 16 := by omega
                      have hwS26 := hw; have hlS27 := hl
                      subst q
                      have hw := hwS26; have hl := hlS27
                      refine lv_aload_n hx hb dX7_deliver_163 rfl (lv_at hl 1 rfl) ?_
                      refine lv_iload_n hx hb dX7_deliver_164 rfl (lv_at hl 3 rfl) ?_
                      refine lv_iconst (v := nI 5) hx hb dX7_deliver_165 (by decide +kernel) ?_
                      refine lv_iadd hx hb dX7_deliver_166 ?_
                      refine r_te (y := nI (128 * k + 5)) (nI_add (128 * k) 5) ?_
                      refine lv_bipush (v := nI 8) hx hb dX7_deliver_167 (by decide +kernel) ?_
                      refine r_calll (wr := [(md 2, .inl (g.2.1 0, 64, .inl (se))), (md 23, .inl (g.2.1 0, 16, .inl (wd))), (md 24, .inl (g.2.1 0, 16, .inl (mx))), (md 4, .inl (g.2.1 0, 2, .inl (szF epn))), (md 6, .inl (g.2.1 2, 2, .inl (smf))), (md 7, .inl (g.2.1 1, 2, .inr (.inl (gtf)))), (md 8, .inl (g.2.1 2, 128, .inl (snf))), (md 13, .inl (g.2.1 0, 96, .inl (ibf))), (md 10, .inl (g.2.1 0, 8, .inl (szF z))), (md 17, .inl (g.2.1 0, 400, .inl (r2_20))), (md 16, .inl (g.2.1 0, 64, .inl (w2_21))), (md 15, .inl (g.2.1 0, 8, .inl (s2_22))), (md 22, .inl (g.2.1 0, 64, .inl (kRW))), (md 18, .inl (g.2.1 0, 32, .inl (hmv tk (f k) (15 + ln)))), (md 19, .inl (g.2.1 0, 32, .inl (k2_23))), (md 21, .inl (g.2.1 0, 160, .inl (m2_24))), (md 3, .inl (g.2.1 0, 64, .inl (te)))]) [9, 18] [0, 1, 2, 3, 4, 5, 6, 7, 8, 10, 11, 12, 13, 14, 15, 16, 17] h0 hw rfl rfl (by decide) (by decide) (va_runV (As := [.int (nI (128 * k + 5)), .int (nI 8)]) (rest := []) ⟨hx, hb, hml, hown, hts⟩ (c_X7_numberAt l g md op on inn wr (128 * k + 5) 8 (by omega) (fun j hj => by rw [Nat.add_assoc, hwr (5 + j) (by omega)]; exact hb8 (5 + j) (by omega)) _) (cwV 2 hts gX7_deliver_X7_numberAt rfl rfl rfl (by decide +kernel) ⟨Nat.le_of_ble_eq_true rfl, Nat.le_of_ble_eq_true rfl⟩) (preV_of [9, 18] [.int (nI (128 * k + 5)), .int (nI 8)] h0 hw rfl (by decide) 9 7 rfl rfl) rfl rfl hl.1 rfl (lv_room (Nat.le_of_ble_eq_true rfl)) dX7_deliver_169 ⟨Nat.le_of_ble_eq_true rfl, Nat.le_of_ble_eq_true rfl⟩) (fun r28 u29 H locs hp30 hw => ?_)
                      have hw : WD g A s [(md 2, .inl (g.2.1 0, 64, .inl (se))), (md 23, .inl (g.2.1 0, 16, .inl (wd))), (md 24, .inl (g.2.1 0, 16, .inl (mx))), (md 4, .inl (g.2.1 0, 2, .inl (szF epn))), (md 6, .inl (g.2.1 2, 2, .inl (smf))), (md 7, .inl (g.2.1 1, 2, .inr (.inl (gtf)))), (md 8, .inl (g.2.1 2, 128, .inl (snf))), (md 13, .inl (g.2.1 0, 96, .inl (ibf))), (md 10, .inl (g.2.1 0, 8, .inl (szF z))), (md 17, .inl (g.2.1 0, 400, .inl (r2_20))), (md 16, .inl (g.2.1 0, 64, .inl (w2_21))), (md 15, .inl (g.2.1 0, 8, .inl (s2_22))), (md 22, .inl (g.2.1 0, 64, .inl (kRW))), (md 18, .inl (g.2.1 0, 32, .inl (hmv tk (f k) (15 + ln)))), (md 19, .inl (g.2.1 0, 32, .inl (k2_23))), (md 21, .inl (g.2.1 0, 160, .inl (m2_24))), (md 3, .inl (g.2.1 0, 64, .inl (te))), (md 25, .inr (7, [.ref (md 0), .int (nI op), .ref (md 2), .ref (md 3), .ref (md 4), .ref (md 5), .ref (md 6), .ref (md 7), .ref (md 8), .ref (md 9), .ref (md 10), .ref (md 11), .int (nI on), .ref (md 13), .int (nI inn), .ref (md 15), .ref (md 16), .ref (md 17), .ref (md 18), .ref (md 19), .ref (md 20), .ref (md 21), .ref (md 22), .ref (md 23), .ref (md 24)])), (md 9, .inl (g.2.1 0, 1024, .inl (wr)))] [] H locs := hw
                      subst hp30
                      refine r_tel (y := nAt (f k) 5 8) (nAt_eq 8 (fun j hj => by rw [Nat.add_assoc]; exact hwr (5 + j) (by omega))) ?_
                      refine lv_lstore (lv' := [(6, .long (nAt (f k) 5 8)), (0, .ref (md 25)), (1, .int (nI k)), (3, .int (nI (128 * k))), (4, .int (nI 1)), (5, .int (nI ln))]) hx hb dX7_deliver_172 hl (by decide) rfl (fun ls hl => ?_)
                      refine lv_aload_n hx hb dX7_deliver_174 rfl (lv_at hl 1 rfl) ?_
                      refine r_get (ci := 7) (v := .ref (md 6)) (C := RX7) (T := TX7) (N := 25) hx hb hts hinX7 hown h0 hw 17 rfl rfl 6 (by decide) k26 rfl dX7_deliver_175 ?_
                      refine lv_iload hx hb dX7_deliver_178 (lv_at hl 4 rfl) ?_
                      refine r_zald hx hb h0 hw 4 rfl (i := 1) (by omega) (by omega) dX7_deliver_180 ?_
                      refine lv_if_eq (tgt := 203) hx hb dX7_deliver_181 (by decide) (fun c31 => ?_) (fun c31 => ?_)
                      · skip
                        have g1 := c31
                        refine lv_iconst (v := nI 0) hx hb dX7_deliver_203 (by decide +kernel) ?_
                        refine lv_istore (lv' := [(8, .int (nI 0)), (6, .long (nAt (f k) 5 8)), (0, .ref (md 25)), (1, .int (nI k)), (3, .int (nI (128 * k))), (4, .int (nI 1)), (5, .int (nI ln))]) hx hb dX7_deliver_204 hl (by decide) rfl (fun ls hl => ?_)
                        refine lv_aload_n hx hb dX7_deliver_206 rfl (lv_at hl 2 rfl) ?_
                        refine r_get (ci := 7) (v := .ref (md 7)) (C := RX7) (T := TX7) (N := 25) hx hb hts hinX7 hown h0 hw 17 rfl rfl 7 (by decide) k30 rfl dX7_deliver_207 ?_
                        refine lv_iload hx hb dX7_deliver_210 (lv_at hl 5 rfl) ?_
                        refine r_lald hx hb h0 hw 5 rfl (i := 1) (by omega) (by omega) dX7_deliver_212 ?_
                        refine lv_lload hx hb dX7_deliver_213 (lv_at hl 1 rfl) ?_
                        refine lv_lsub hx hb dX7_deliver_215 ?_
                        refine lv_lstore (lv' := [(9, .long ((gtf 1) - (nAt (f k) 5 8))), (8, .int (nI 0)), (6, .long (nAt (f k) 5 8)), (0, .ref (md 25)), (1, .int (nI k)), (3, .int (nI (128 * k))), (4, .int (nI 1)), (5, .int (nI ln))]) hx hb dX7_deliver_216 hl (by decide) rfl (fun ls hl => ?_)
                        refine lv_iload hx hb dX7_deliver_218 (lv_at hl 1 rfl) ?_
                        refine lv_if_eq (tgt := 236) hx hb dX7_deliver_220 (by decide) (fun c32 => ?_) (fun c32 => ?_)
                        · skip
                          rw [← nI_0] at c32
                          have c32 : 0 = 0 := (nI_eq (by omega) (by omega)).mp c32
                          refine lv_iload hx hb dX7_deliver_236 (lv_at hl 1 rfl) ?_
                          refine lv_if_eq (tgt := 261) hx hb dX7_deliver_238 (by decide) (fun c33 => ?_) (fun c33 => ?_)
                          · skip
                            rw [← nI_0] at c33
                            have c33 : 0 = 0 := (nI_eq (by omega) (by omega)).mp c33
                            refine lv_iload hx hb dX7_deliver_261 (lv_at hl 1 rfl) ?_
                            refine lv_if_ne (tgt := 393) hx hb dX7_deliver_263 (by decide) (fun c34 => ?_) (fun c34 => ?_)
                            · skip
                              rw [← nI_0] at c34
                              have c34 : ¬ 0 = 0 := fun q => c34 (((nI_eq (by omega) (by omega)).mpr q))
                              exfalso; omega
                            · skip
                              rw [← nI_0] at c34
                              have c34 : 0 = 0 := (nI_eq (by omega) (by omega)).mp c34
                              refine lv_lload hx hb dX7_deliver_266 (lv_at hl 2 rfl) ?_
                              refine lv_aload_n hx hb dX7_deliver_268 rfl (lv_at hl 3 rfl) ?_
                              refine r_get (ci := 7) (v := .ref (md 7)) (C := RX7) (T := TX7) (N := 25) hx hb hts hinX7 hown h0 hw 17 rfl rfl 7 (by decide) k30 rfl dX7_deliver_269 ?_
                              refine lv_iload hx hb dX7_deliver_272 (lv_at hl 6 rfl) ?_
                              refine r_lald hx hb h0 hw 5 rfl (i := 1) (by omega) (by omega) dX7_deliver_274 ?_
                              refine lv_lsub hx hb dX7_deliver_275 ?_
                              refine lv_lstore (lv' := [(11, .long ((nAt (f k) 5 8) - (gtf 1))), (9, .long ((gtf 1) - (nAt (f k) 5 8))), (8, .int (nI 0)), (6, .long (nAt (f k) 5 8)), (0, .ref (md 25)), (1, .int (nI k)), (3, .int (nI (128 * k))), (4, .int (nI 1)), (5, .int (nI ln))]) hx hb dX7_deliver_276 hl (by decide) rfl (fun ls hl => ?_)
                              refine lv_bipush (v := nI 63) hx hb dX7_deliver_278 (by decide +kernel) ?_
                              refine lv_istore (lv' := [(13, .int (nI 63)), (11, .long ((nAt (f k) 5 8) - (gtf 1))), (9, .long ((gtf 1) - (nAt (f k) 5 8))), (8, .int (nI 0)), (6, .long (nAt (f k) 5 8)), (0, .ref (md 25)), (1, .int (nI k)), (3, .int (nI (128 * k))), (4, .int (nI 1)), (5, .int (nI ln))]) hx hb dX7_deliver_280 hl (by decide) rfl (fun ls hl => ?_)
                              have lp282 : ∀ (fu : Nat) (m_ : Nat), m_ < fu → (m_ ≤ 64) → ∀ (H : Heap) (locs : List Loc) (ls : Array Slot), WD g A s [(md 2, .inl (g.2.1 0, 64, .inl (se))), (md 23, .inl (g.2.1 0, 16, .inl (wd))), (md 24, .inl (g.2.1 0, 16, .inl (mx))), (md 4, .inl (g.2.1 0, 2, .inl (szF epn))), (md 6, .inl (g.2.1 2, 2, .inl (smf))), (md 7, .inl (g.2.1 1, 2, .inr (.inl (gtf)))), (md 8, .inl (g.2.1 2, 128, .inl (shM snf 64 64 m_))), (md 13, .inl (g.2.1 0, 96, .inl (ibf))), (md 10, .inl (g.2.1 0, 8, .inl (szF z))), (md 17, .inl (g.2.1 0, 400, .inl (r2_20))), (md 16, .inl (g.2.1 0, 64, .inl (w2_21))), (md 15, .inl (g.2.1 0, 8, .inl (s2_22))), (md 22, .inl (g.2.1 0, 64, .inl (kRW))), (md 18, .inl (g.2.1 0, 32, .inl (hmv tk (f k) (15 + ln)))), (md 19, .inl (g.2.1 0, 32, .inl (k2_23))), (md 21, .inl (g.2.1 0, 160, .inl (m2_24))), (md 3, .inl (g.2.1 0, 64, .inl (te))), (md 25, .inr (7, [.ref (md 0), .int (nI op), .ref (md 2), .ref (md 3), .ref (md 4), .ref (md 5), .ref (md 6), .ref (md 7), .ref (md 8), .ref (md 9), .ref (md 10), .ref (md 11), .int (nI on), .ref (md 13), .int (nI inn), .ref (md 15), .ref (md 16), .ref (md 17), .ref (md 18), .ref (md 19), .ref (md 20), .ref (md 21), .ref (md 22), .ref (md 23), .ref (md 24)])), (md 9, .inl (g.2.1 0, 1024, .inl (wr)))] [] H locs → lv_has ls 15 [(13, .int (nP m_)), (0, .ref (md 25)), (1, .int (nI k)), (3, .int (nI (128 * k))), (4, .int (nI 1)), (5, .int (nI ln)), (6, .long (nAt (f k) 5 8)), (11, .long ((nAt (f k) 5 8) - gtf 1))] → W p l e { frames := 5, cells := 0, slots := 0, locals := 123 } s m ar below meth c H locs 0 0 Q (F0 m 282 ls []) := by
                                intro fu
                                induction fu with
                                | zero => intro m_ hmz; exact absurd hmz (Nat.not_lt_zero _)
                                | succ fu ih =>
                                  intro m_ hms hm H locs ls hw hl
                                  refine lv_iload hx hb dX7_deliver_282 (lv_at hl 0 rfl) ?_
                                  refine lv_if_lt (tgt := 373) hx hb dX7_deliver_284 (by decide) (fun c35 => ?_) (fun c35 => ?_)
                                  · skip
                                    have hm0 : m_ = 0 := nP_neg (by omega) c35
                                    have hwS36 := hw; have hlS37 := hl
                                    subst m_
                                    have hw := hwS36; have hl := hlS37
                                    refine lv_aload_n hx hb dX7_deliver_373 rfl (lv_at hl 1 rfl) ?_
                                    refine r_get (ci := 7) (v := .ref (md 7)) (C := RX7) (T := TX7) (N := 25) hx hb hts hinX7 hown h0 hw 17 rfl rfl 7 (by decide) k30 rfl dX7_deliver_374 ?_
                                    refine lv_iload hx hb dX7_deliver_377 (lv_at hl 4 rfl) ?_
                                    refine lv_lload hx hb dX7_deliver_379 (lv_at hl 6 rfl) ?_
                                    refine r_last hx hb h0 hw 5 rfl (i := 1) (by omega) (by omega) dX7_deliver_381 (fun H locs hw => ?_)
                                    have hw : WD g A s [(md 2, .inl (g.2.1 0, 64, .inl (se))), (md 23, .inl (g.2.1 0, 16, .inl (wd))), (md 24, .inl (g.2.1 0, 16, .inl (mx))), (md 4, .inl (g.2.1 0, 2, .inl (szF epn))), (md 6, .inl (g.2.1 2, 2, .inl (smf))), (md 7, .inl (g.2.1 1, 2, .inr (.inl (vp_updL gtf 1 (nAt (f k) 5 8))))), (md 8, .inl (g.2.1 2, 128, .inl (shM snf 64 64 0))), (md 13, .inl (g.2.1 0, 96, .inl (ibf))), (md 10, .inl (g.2.1 0, 8, .inl (szF z))), (md 17, .inl (g.2.1 0, 400, .inl (r2_20))), (md 16, .inl (g.2.1 0, 64, .inl (w2_21))), (md 15, .inl (g.2.1 0, 8, .inl (s2_22))), (md 22, .inl (g.2.1 0, 64, .inl (kRW))), (md 18, .inl (g.2.1 0, 32, .inl (hmv tk (f k) (15 + ln)))), (md 19, .inl (g.2.1 0, 32, .inl (k2_23))), (md 21, .inl (g.2.1 0, 160, .inl (m2_24))), (md 3, .inl (g.2.1 0, 64, .inl (te))), (md 25, .inr (7, [.ref (md 0), .int (nI op), .ref (md 2), .ref (md 3), .ref (md 4), .ref (md 5), .ref (md 6), .ref (md 7), .ref (md 8), .ref (md 9), .ref (md 10), .ref (md 11), .int (nI on), .ref (md 13), .int (nI inn), .ref (md 15), .ref (md 16), .ref (md 17), .ref (md 18), .ref (md 19), .ref (md 20), .ref (md 21), .ref (md 22), .ref (md 23), .ref (md 24)])), (md 9, .inl (g.2.1 0, 1024, .inl (wr)))] [] H locs := hw
                                    refine lv_aload_n hx hb dX7_deliver_382 rfl (lv_at hl 1 rfl) ?_
                                    refine r_get (ci := 7) (v := .ref (md 6)) (C := RX7) (T := TX7) (N := 25) hx hb hts hinX7 hown h0 hw 17 rfl rfl 6 (by decide) k26 rfl dX7_deliver_383 ?_
                                    refine lv_iload hx hb dX7_deliver_386 (lv_at hl 4 rfl) ?_
                                    refine lv_iconst (v := nI 1) hx hb dX7_deliver_388 (by decide +kernel) ?_
                                    refine r_zast hx hb h0 hw 4 rfl (i := 1) (by decide +kernel) (by omega) (by omega) dX7_deliver_389 (fun H locs hw => ?_)
                                    have hw : WD g A s [(md 2, .inl (g.2.1 0, 64, .inl (se))), (md 23, .inl (g.2.1 0, 16, .inl (wd))), (md 24, .inl (g.2.1 0, 16, .inl (mx))), (md 4, .inl (g.2.1 0, 2, .inl (szF epn))), (md 6, .inl (g.2.1 2, 2, .inl (upd smf 1 (nI 1)))), (md 7, .inl (g.2.1 1, 2, .inr (.inl (vp_updL gtf 1 (nAt (f k) 5 8))))), (md 8, .inl (g.2.1 2, 128, .inl (shM snf 64 64 0))), (md 13, .inl (g.2.1 0, 96, .inl (ibf))), (md 10, .inl (g.2.1 0, 8, .inl (szF z))), (md 17, .inl (g.2.1 0, 400, .inl (r2_20))), (md 16, .inl (g.2.1 0, 64, .inl (w2_21))), (md 15, .inl (g.2.1 0, 8, .inl (s2_22))), (md 22, .inl (g.2.1 0, 64, .inl (kRW))), (md 18, .inl (g.2.1 0, 32, .inl (hmv tk (f k) (15 + ln)))), (md 19, .inl (g.2.1 0, 32, .inl (k2_23))), (md 21, .inl (g.2.1 0, 160, .inl (m2_24))), (md 3, .inl (g.2.1 0, 64, .inl (te))), (md 25, .inr (7, [.ref (md 0), .int (nI op), .ref (md 2), .ref (md 3), .ref (md 4), .ref (md 5), .ref (md 6), .ref (md 7), .ref (md 8), .ref (md 9), .ref (md 10), .ref (md 11), .int (nI on), .ref (md 13), .int (nI inn), .ref (md 15), .ref (md 16), .ref (md 17), .ref (md 18), .ref (md 19), .ref (md 20), .ref (md 21), .ref (md 22), .ref (md 23), .ref (md 24)])), (md 9, .inl (g.2.1 0, 1024, .inl (wr)))] [] H locs := hw
                                    refine lv_lconst (v := 0) hx hb dX7_deliver_390 (by decide +kernel) ?_
                                    refine lv_lstore (lv' := [(9, .long (0)), (13, .int (nP 0)), (0, .ref (md 25)), (1, .int (nI k)), (3, .int (nI (128 * k))), (4, .int (nI 1)), (5, .int (nI ln)), (6, .long (nAt (f k) 5 8)), (11, .long ((nAt (f k) 5 8) - gtf 1))]) hx hb dX7_deliver_391 hl (by decide) rfl (fun ls hl => ?_)
                                    refine lv_aload_n hx hb dX7_deliver_393 rfl (lv_at hl 2 rfl) ?_
                                    refine r_get (ci := 7) (v := .ref (md 8)) (C := RX7) (T := TX7) (N := 25) hx hb hts hinX7 hown h0 hw 17 rfl rfl 8 (by decide) k33 rfl dX7_deliver_394 ?_
                                    refine lv_bipush (v := nI 64) hx hb dX7_deliver_397 (by decide +kernel) ?_
                                    refine lv_iload hx hb dX7_deliver_399 (lv_at hl 5 rfl) ?_
                                    refine lv_imul hx hb dX7_deliver_401 ?_
                                    refine r_te (y := nI 64) (pk_mul 64 1) ?_
                                    refine lv_lload hx hb dX7_deliver_402 (lv_at hl 0 rfl) ?_
                                    refine lv_l2i (v := (0).toInt32) hx hb dX7_deliver_404 rfl ?_
                                    refine r_te (y := nI 0) rfl ?_
                                    refine lv_iadd hx hb dX7_deliver_405 ?_
                                    refine r_te (y := nI 64) (nI_add 64 0) ?_
                                    refine lv_iconst (v := nI 1) hx hb dX7_deliver_406 (by decide +kernel) ?_
                                    refine r_zast hx hb h0 hw 6 rfl (i := 64) (by decide +kernel) (by omega) (by omega) dX7_deliver_407 (fun H locs hw => ?_)
                                    have hw : WD g A s [(md 2, .inl (g.2.1 0, 64, .inl (se))), (md 23, .inl (g.2.1 0, 16, .inl (wd))), (md 24, .inl (g.2.1 0, 16, .inl (mx))), (md 4, .inl (g.2.1 0, 2, .inl (szF epn))), (md 6, .inl (g.2.1 2, 2, .inl (upd smf 1 (nI 1)))), (md 7, .inl (g.2.1 1, 2, .inr (.inl (vp_updL gtf 1 (nAt (f k) 5 8))))), (md 8, .inl (g.2.1 2, 128, .inl (upd (shM snf 64 64 0) 64 (nI 1)))), (md 13, .inl (g.2.1 0, 96, .inl (ibf))), (md 10, .inl (g.2.1 0, 8, .inl (szF z))), (md 17, .inl (g.2.1 0, 400, .inl (r2_20))), (md 16, .inl (g.2.1 0, 64, .inl (w2_21))), (md 15, .inl (g.2.1 0, 8, .inl (s2_22))), (md 22, .inl (g.2.1 0, 64, .inl (kRW))), (md 18, .inl (g.2.1 0, 32, .inl (hmv tk (f k) (15 + ln)))), (md 19, .inl (g.2.1 0, 32, .inl (k2_23))), (md 21, .inl (g.2.1 0, 160, .inl (m2_24))), (md 3, .inl (g.2.1 0, 64, .inl (te))), (md 25, .inr (7, [.ref (md 0), .int (nI op), .ref (md 2), .ref (md 3), .ref (md 4), .ref (md 5), .ref (md 6), .ref (md 7), .ref (md 8), .ref (md 9), .ref (md 10), .ref (md 11), .int (nI on), .ref (md 13), .int (nI inn), .ref (md 15), .ref (md 16), .ref (md 17), .ref (md 18), .ref (md 19), .ref (md 20), .ref (md 21), .ref (md 22), .ref (md 23), .ref (md 24)])), (md 9, .inl (g.2.1 0, 1024, .inl (wr)))] [] H locs := hw
                                    refine lv_iconst (v := nI 0) hx hb dX7_deliver_408 (by decide +kernel) ?_
                                    refine lv_istore (lv' := [(11, .int (nI 0)), (9, .long (0)), (13, .int (nP 0)), (0, .ref (md 25)), (1, .int (nI k)), (3, .int (nI (128 * k))), (4, .int (nI 1)), (5, .int (nI ln)), (6, .long (nAt (f k) 5 8))]) hx hb dX7_deliver_409 hl (by decide) rfl (fun ls hl => ?_)
                                    have lp411 : ∀ (fu : Nat) (t : Nat) (mv : Nat → Int32) (dv : Nat → Int32), ln - t < fu → (t ≤ ln) → (¬ t % 64 = 0 → mv = dbl (sIn (shf se (32 * 1)) (f k) (nI (t / 64))) 10 ∧ dv = sIn (shf se (32 * 1)) (f k) (nI (t / 64))) → ∀ (H : Heap) (locs : List Loc) (ls : Array Slot), WD g A s [(md 2, .inl (g.2.1 0, 64, .inl (se))), (md 23, .inl (g.2.1 0, 16, .inl (dv))), (md 24, .inl (g.2.1 0, 16, .inl (mv))), (md 4, .inl (g.2.1 0, 2, .inl (szF epn))), (md 6, .inl (g.2.1 2, 2, .inl (upd smf 1 (nI 1)))), (md 7, .inl (g.2.1 1, 2, .inr (.inl (vp_updL gtf 1 (nAt (f k) 5 8))))), (md 8, .inl (g.2.1 2, 128, .inl (upd (shM snf 64 64 0) 64 (nI 1)))), (md 13, .inl (g.2.1 0, 96, .inl (rdF ibf (f k) ek t))), (md 10, .inl (g.2.1 0, 8, .inl (szF z))), (md 17, .inl (g.2.1 0, 400, .inl (r2_20))), (md 16, .inl (g.2.1 0, 64, .inl (w2_21))), (md 15, .inl (g.2.1 0, 8, .inl (s2_22))), (md 22, .inl (g.2.1 0, 64, .inl (kRW))), (md 18, .inl (g.2.1 0, 32, .inl (hmv tk (f k) (15 + ln)))), (md 19, .inl (g.2.1 0, 32, .inl (k2_23))), (md 21, .inl (g.2.1 0, 160, .inl (m2_24))), (md 3, .inl (g.2.1 0, 64, .inl (te))), (md 25, .inr (7, [.ref (md 0), .int (nI op), .ref (md 2), .ref (md 3), .ref (md 4), .ref (md 5), .ref (md 6), .ref (md 7), .ref (md 8), .ref (md 9), .ref (md 10), .ref (md 11), .int (nI on), .ref (md 13), .int (nI inn), .ref (md 15), .ref (md 16), .ref (md 17), .ref (md 18), .ref (md 19), .ref (md 20), .ref (md 21), .ref (md 22), .ref (md 23), .ref (md 24)])), (md 9, .inl (g.2.1 0, 1024, .inl (wr)))] [] H locs → lv_has ls 15 [(11, .int (nI t)), (0, .ref (md 25)), (1, .int (nI k)), (3, .int (nI (128 * k))), (4, .int (nI 1)), (5, .int (nI ln))] → W p l e { frames := 5, cells := 0, slots := 0, locals := 123 } s m ar below meth c H locs 0 0 Q (F0 m 411 ls []) := by
                                      intro fu
                                      induction fu with
                                      | zero => intro t mv dv hmz; exact absurd hmz (Nat.not_lt_zero _)
                                      | succ fu ih =>
                                        intro t mv dv hms ht hg H locs ls hw hl
                                        refine lv_iload hx hb dX7_deliver_411 (lv_at hl 0 rfl) ?_
                                        refine lv_iload hx hb dX7_deliver_413 (lv_at hl 5 rfl) ?_
                                        refine lv_icmp_ge (tgt := 453) hx hb dX7_deliver_415 (by decide) (fun c38 => ?_) (fun c38 => ?_)
                                        · skip
                                          have c38 : ln ≤ t := (nI_leI (by omega) (by omega)).mp c38
                                          have hq : t = ln := by omega
                                          have hwS39 := hw; have hlS40 := hl
                                          subst t
                                          have hw := hwS39; have hl := hlS40
                                          refine lv_aload_n hx hb dX7_deliver_453 rfl (lv_at hl 1 rfl) ?_
                                          refine lv_iload hx hb dX7_deliver_454 (lv_at hl 5 rfl) ?_
                                          refine r_put (ci := 7) (v := .int (nI ln)) (C := RX7) (T := TX7) (N := 25) hx hb hts hinX7 tyX7 tyX7_ok nmX7 hown h0 hw 17 rfl rfl 14 (by decide) k153 rfl rfl rfl (Nat.le_of_ble_eq_true rfl) dX7_deliver_456 (fun H locs hw => ?_)
                                          have hw : WD g A s [(md 2, .inl (g.2.1 0, 64, .inl (se))), (md 23, .inl (g.2.1 0, 16, .inl (dv))), (md 24, .inl (g.2.1 0, 16, .inl (mv))), (md 4, .inl (g.2.1 0, 2, .inl (szF epn))), (md 6, .inl (g.2.1 2, 2, .inl (upd smf 1 (nI 1)))), (md 7, .inl (g.2.1 1, 2, .inr (.inl (vp_updL gtf 1 (nAt (f k) 5 8))))), (md 8, .inl (g.2.1 2, 128, .inl (upd (shM snf 64 64 0) 64 (nI 1)))), (md 13, .inl (g.2.1 0, 96, .inl (rdF ibf (f k) ek ln))), (md 10, .inl (g.2.1 0, 8, .inl (szF z))), (md 17, .inl (g.2.1 0, 400, .inl (r2_20))), (md 16, .inl (g.2.1 0, 64, .inl (w2_21))), (md 15, .inl (g.2.1 0, 8, .inl (s2_22))), (md 22, .inl (g.2.1 0, 64, .inl (kRW))), (md 18, .inl (g.2.1 0, 32, .inl (hmv tk (f k) (15 + ln)))), (md 19, .inl (g.2.1 0, 32, .inl (k2_23))), (md 21, .inl (g.2.1 0, 160, .inl (m2_24))), (md 3, .inl (g.2.1 0, 64, .inl (te))), (md 25, .inr (7, [.ref (md 0), .int (nI op), .ref (md 2), .ref (md 3), .ref (md 4), .ref (md 5), .ref (md 6), .ref (md 7), .ref (md 8), .ref (md 9), .ref (md 10), .ref (md 11), .int (nI on), .ref (md 13), .int (nI ln), .ref (md 15), .ref (md 16), .ref (md 17), .ref (md 18), .ref (md 19), .ref (md 20), .ref (md 21), .ref (md 22), .ref (md 23), .ref (md 24)])), (md 9, .inl (g.2.1 0, 1024, .inl (wr)))] [] H locs := hw
                                          refine lv_iconst (v := nI 0) hx hb dX7_deliver_459 (by decide +kernel) ?_
                                          exact hret (hw.perm (X' := [(md 25, .inr (7, [.ref (md 0), .int (nI op), .ref (md 2), .ref (md 3), .ref (md 4), .ref (md 5), .ref (md 6), .ref (md 7), .ref (md 8), .ref (md 9), .ref (md 10), .ref (md 11), .int (nI on), .ref (md 13), .int (nI ln), .ref (md 15), .ref (md 16), .ref (md 17), .ref (md 18), .ref (md 19), .ref (md 20), .ref (md 21), .ref (md 22), .ref (md 23), .ref (md 24)])), (md 17, .inl (g.2.1 0, 400, .inl (r2_20))), (md 16, .inl (g.2.1 0, 64, .inl (w2_21))), (md 15, .inl (g.2.1 0, 8, .inl (s2_22))), (md 22, .inl (g.2.1 0, 64, .inl (kRW))), (md 18, .inl (g.2.1 0, 32, .inl (hmv tk (f k) (15 + ln)))), (md 19, .inl (g.2.1 0, 32, .inl (k2_23))), (md 21, .inl (g.2.1 0, 160, .inl (m2_24))), (md 3, .inl (g.2.1 0, 64, .inl (te))), (md 9, .inl (g.2.1 0, 1024, .inl (wr))), (md 2, .inl (g.2.1 0, 64, .inl (se))), (md 23, .inl (g.2.1 0, 16, .inl (dv))), (md 24, .inl (g.2.1 0, 16, .inl (mv))), (md 4, .inl (g.2.1 0, 2, .inl (szF epn))), (md 10, .inl (g.2.1 0, 8, .inl (szF z))), (md 6, .inl (g.2.1 2, 2, .inl (upd smf 1 (nI 1)))), (md 7, .inl (g.2.1 1, 2, .inr (.inl (vp_updL gtf 1 (nAt (f k) 5 8))))), (md 8, .inl (g.2.1 2, 128, .inl (upd (shM snf 64 64 0) 64 (nI 1)))), (md 13, .inl (g.2.1 0, 96, .inl (rdF ibf (f k) ek ln)))]) [17, 9, 10, 11, 12, 13, 14, 15, 16, 18, 0, 1, 2, 3, 8, 4, 5, 6, 7] (by decide) rfl) (r2_20, w2_21, s2_22, hmv tk (f k) (15 + ln), k2_23, m2_24, dv, mv) (rfl) (rfl) (by omega) (by omega) dX7_deliver_460
                                        · skip
                                          have c38 : ¬ ln ≤ t := fun q => c38 (((nI_leI (by omega) (by omega)).mpr q))
                                          refine lv_aload_n hx hb dX7_deliver_418 rfl (lv_at hl 1 rfl) ?_
                                          refine r_get (ci := 7) (v := .ref (md 13)) (C := RX7) (T := TX7) (N := 25) hx hb hts hinX7 hown h0 hw 17 rfl rfl 13 (by decide) k45 rfl dX7_deliver_419 ?_
                                          refine lv_iload hx hb dX7_deliver_422 (lv_at hl 0 rfl) ?_
                                          refine lv_aload_n hx hb dX7_deliver_424 rfl (lv_at hl 1 rfl) ?_
                                          refine r_get (ci := 7) (v := .ref (md 9)) (C := RX7) (T := TX7) (N := 25) hx hb hts hinX7 hown h0 hw 17 rfl rfl 9 (by decide) k36 rfl dX7_deliver_425 ?_
                                          refine lv_iload_n hx hb dX7_deliver_428 rfl (lv_at hl 3 rfl) ?_
                                          refine lv_bipush (v := nI 15) hx hb dX7_deliver_429 (by decide +kernel) ?_
                                          refine lv_iadd hx hb dX7_deliver_431 ?_
                                          refine r_te (y := nI (128 * k + 15)) (nI_add (128 * k) 15) ?_
                                          refine lv_iload hx hb dX7_deliver_432 (lv_at hl 0 rfl) ?_
                                          refine lv_iadd hx hb dX7_deliver_434 ?_
                                          refine r_te (y := nI (128 * k + 15 + t)) (nI_add (128 * k + 15) t) ?_
                                          refine r_iald hx hb h0 hw 18 rfl (i := 128 * k + 15 + t) (by omega) (by omega) dX7_deliver_435 ?_
                                          refine r_te (y := f k (15 + t)) (by first | exact hwr (15 + t) (by omega) | (have := hwr (15 + t) (by omega); simpa [Nat.add_assoc] using this)) ?_
                                          refine lv_aload_n hx hb dX7_deliver_436 rfl (lv_at hl 1 rfl) ?_
                                          refine lv_iload hx hb dX7_deliver_437 (lv_at hl 4 rfl) ?_
                                          refine lv_iload_n hx hb dX7_deliver_439 rfl (lv_at hl 2 rfl) ?_
                                          refine lv_iload hx hb dX7_deliver_440 (lv_at hl 0 rfl) ?_
                                          refine r_calli (wr := [(md 4, .inl (g.2.1 0, 2, .inl (szF epn))), (md 6, .inl (g.2.1 2, 2, .inl (upd smf 1 (nI 1)))), (md 7, .inl (g.2.1 1, 2, .inr (.inl (vp_updL gtf 1 (nAt (f k) 5 8))))), (md 8, .inl (g.2.1 2, 128, .inl (upd (shM snf 64 64 0) 64 (nI 1)))), (md 13, .inl (g.2.1 0, 96, .inl (rdF ibf (f k) ek t))), (md 10, .inl (g.2.1 0, 8, .inl (szF z))), (md 17, .inl (g.2.1 0, 400, .inl (r2_20))), (md 16, .inl (g.2.1 0, 64, .inl (w2_21))), (md 15, .inl (g.2.1 0, 8, .inl (s2_22))), (md 22, .inl (g.2.1 0, 64, .inl (kRW))), (md 18, .inl (g.2.1 0, 32, .inl (hmv tk (f k) (15 + ln)))), (md 19, .inl (g.2.1 0, 32, .inl (k2_23))), (md 21, .inl (g.2.1 0, 160, .inl (m2_24))), (md 3, .inl (g.2.1 0, 64, .inl (te)))]) [17, 0, 18, 1, 2] [3, 4, 5, 6, 7, 8, 9, 10, 11, 12, 13, 14, 15, 16] h0 hw rfl rfl (by decide) (by decide) (va_runV (As := [.int (nI 1), .int (nI k), .int (nI t)]) (rest := [.int (f k (15 + t)), .int (nI t), .ref (md 13)]) ⟨hx, hb, hml, hown, hts⟩ (c_X7_streamByte l g md op on inn se wr dv mv ((shf se (32 * 1))) ((f k)) 1 k t (by omega) (by omega) (by omega) (rfl) (h5) (h9) (hg) _) (cwV 3 hts gX7_deliver_X7_streamByte rfl rfl rfl (by decide +kernel) ⟨Nat.le_of_ble_eq_true rfl, Nat.le_of_ble_eq_true rfl⟩) (preV_of [17, 0, 18, 1, 2] [.int (nI 1), .int (nI k), .int (nI t)] h0 hw rfl (by decide) 17 7 rfl rfl) rfl rfl hl.1 rfl (lv_room (Nat.le_of_ble_eq_true rfl)) dX7_deliver_442 ⟨Nat.le_of_ble_eq_true rfl, Nat.le_of_ble_eq_true rfl⟩) (fun r41 u42 H locs hp43 hw => ?_)
                                          obtain ⟨m2_44, w2_45⟩ := u42
                                          have hw : WD g A s [(md 4, .inl (g.2.1 0, 2, .inl (szF epn))), (md 6, .inl (g.2.1 2, 2, .inl (upd smf 1 (nI 1)))), (md 7, .inl (g.2.1 1, 2, .inr (.inl (vp_updL gtf 1 (nAt (f k) 5 8))))), (md 8, .inl (g.2.1 2, 128, .inl (upd (shM snf 64 64 0) 64 (nI 1)))), (md 13, .inl (g.2.1 0, 96, .inl (rdF ibf (f k) ek t))), (md 10, .inl (g.2.1 0, 8, .inl (szF z))), (md 17, .inl (g.2.1 0, 400, .inl (r2_20))), (md 16, .inl (g.2.1 0, 64, .inl (w2_21))), (md 15, .inl (g.2.1 0, 8, .inl (s2_22))), (md 22, .inl (g.2.1 0, 64, .inl (kRW))), (md 18, .inl (g.2.1 0, 32, .inl (hmv tk (f k) (15 + ln)))), (md 19, .inl (g.2.1 0, 32, .inl (k2_23))), (md 21, .inl (g.2.1 0, 160, .inl (m2_24))), (md 3, .inl (g.2.1 0, 64, .inl (te))), (md 25, .inr (7, [.ref (md 0), .int (nI op), .ref (md 2), .ref (md 3), .ref (md 4), .ref (md 5), .ref (md 6), .ref (md 7), .ref (md 8), .ref (md 9), .ref (md 10), .ref (md 11), .int (nI on), .ref (md 13), .int (nI inn), .ref (md 15), .ref (md 16), .ref (md 17), .ref (md 18), .ref (md 19), .ref (md 20), .ref (md 21), .ref (md 22), .ref (md 23), .ref (md 24)])), (md 2, .inl (g.2.1 0, 64, .inl (se))), (md 9, .inl (g.2.1 0, 1024, .inl (wr))), (md 23, .inl (g.2.1 0, 16, .inl (w2_45))), (md 24, .inl (g.2.1 0, 16, .inl (m2_44)))] [] H locs := hw
                                          obtain ⟨rfl, hp43⟩ := hp43
                                          have hpN := hp43
                                          refine lv_ixor hx hb dX7_deliver_445 ?_
                                          refine r_te (y := f k (15 + t) ^^^ sByte ek (f k) t) (by rw [sByte_key hek]) ?_
                                          refine r_iast hx hb h0 hw 4 rfl (i := t) (by omega) (by omega) dX7_deliver_446 (fun H locs hw => ?_)
                                          have hw : WD g A s [(md 4, .inl (g.2.1 0, 2, .inl (szF epn))), (md 6, .inl (g.2.1 2, 2, .inl (upd smf 1 (nI 1)))), (md 7, .inl (g.2.1 1, 2, .inr (.inl (vp_updL gtf 1 (nAt (f k) 5 8))))), (md 8, .inl (g.2.1 2, 128, .inl (upd (shM snf 64 64 0) 64 (nI 1)))), (md 13, .inl (g.2.1 0, 96, .inl (upd (rdF ibf (f k) ek t) t (f k (15 + t) ^^^ sByte ek (f k) t)))), (md 10, .inl (g.2.1 0, 8, .inl (szF z))), (md 17, .inl (g.2.1 0, 400, .inl (r2_20))), (md 16, .inl (g.2.1 0, 64, .inl (w2_21))), (md 15, .inl (g.2.1 0, 8, .inl (s2_22))), (md 22, .inl (g.2.1 0, 64, .inl (kRW))), (md 18, .inl (g.2.1 0, 32, .inl (hmv tk (f k) (15 + ln)))), (md 19, .inl (g.2.1 0, 32, .inl (k2_23))), (md 21, .inl (g.2.1 0, 160, .inl (m2_24))), (md 3, .inl (g.2.1 0, 64, .inl (te))), (md 25, .inr (7, [.ref (md 0), .int (nI op), .ref (md 2), .ref (md 3), .ref (md 4), .ref (md 5), .ref (md 6), .ref (md 7), .ref (md 8), .ref (md 9), .ref (md 10), .ref (md 11), .int (nI on), .ref (md 13), .int (nI inn), .ref (md 15), .ref (md 16), .ref (md 17), .ref (md 18), .ref (md 19), .ref (md 20), .ref (md 21), .ref (md 22), .ref (md 23), .ref (md 24)])), (md 2, .inl (g.2.1 0, 64, .inl (se))), (md 9, .inl (g.2.1 0, 1024, .inl (wr))), (md 23, .inl (g.2.1 0, 16, .inl (w2_45))), (md 24, .inl (g.2.1 0, 16, .inl (m2_44)))] [] H locs := hw
                                          refine lv_iinc (v := nI (t + 1)) (lv' := [(11, .int (nI (t + 1))), (0, .ref (md 25)), (1, .int (nI k)), (3, .int (nI (128 * k))), (4, .int (nI 1)), (5, .int (nI ln))]) hx hb dX7_deliver_447 hl (k := 0) rfl (nI_add t 1) (by decide) rfl (fun ls hl => ?_)
                                          refine lv_goto (tgt := 411) hx hb dX7_deliver_450 (by decide) ?_
                                          exact ih (t + 1) m2_44 w2_45 (by omega) (by omega) (fun q => by rw [show (t + 1) / 64 = t / 64 by omega]; exact hpN) _ _ _ (hw.perm [15, 17, 18, 0, 1, 2, 3, 4, 5, 6, 7, 8, 9, 10, 11, 12, 13, 14, 16] (by decide) rfl) (lv_sub hl [0, 1, 2, 3, 4, 5] rfl)
                                    exact lp411 (ln - 0 + 1) 0 mx wd (by omega) (by omega) (fun q => absurd rfl q) _ _ _ hw (lv_sub hl [0, 3, 4, 5, 6, 7] rfl)
                                  · skip
                                    have hm1 : 1 ≤ m_ := nP_nneg c35
                                    obtain ⟨k9, rfl⟩ : ∃ k9, m_ = k9 + 1 := ⟨m_ - 1, by omega⟩
                                    rw [nP_succ] at hl
                                    refine lv_aload_n hx hb dX7_deliver_287 rfl (lv_at hl 1 rfl) ?_
                                    refine r_get (ci := 7) (v := .ref (md 6)) (C := RX7) (T := TX7) (N := 25) hx hb hts hinX7 hown h0 hw 17 rfl rfl 6 (by decide) k26 rfl dX7_deliver_288 ?_
                                    refine lv_iload hx hb dX7_deliver_291 (lv_at hl 4 rfl) ?_
                                    refine r_zald hx hb h0 hw 4 rfl (i := 1) (by omega) (by omega) dX7_deliver_293 ?_
                                    refine lv_if_eq (tgt := 321) hx hb dX7_deliver_294 (by decide) (fun c46 => ?_) (fun c46 => ?_)
                                    · skip
                                      have g2_ := c46
                                      refine lv_iconst (v := nI 0) hx hb dX7_deliver_321 (by decide +kernel) ?_
                                      refine lv_istore (lv' := [(14, .int (nI 0)), (13, .int (nI k9)), (0, .ref (md 25)), (1, .int (nI k)), (3, .int (nI (128 * k))), (4, .int (nI 1)), (5, .int (nI ln)), (6, .long (nAt (f k) 5 8)), (11, .long ((nAt (f k) 5 8) - gtf 1))]) hx hb dX7_deliver_322 hl (by decide) rfl (fun ls hl => ?_)
                                      refine lv_aload_n hx hb dX7_deliver_324 rfl (lv_at hl 2 rfl) ?_
                                      refine r_get (ci := 7) (v := .ref (md 8)) (C := RX7) (T := TX7) (N := 25) hx hb hts hinX7 hown h0 hw 17 rfl rfl 8 (by decide) k33 rfl dX7_deliver_325 ?_
                                      refine lv_bipush (v := nI 64) hx hb dX7_deliver_328 (by decide +kernel) ?_
                                      refine lv_iload hx hb dX7_deliver_330 (lv_at hl 5 rfl) ?_
                                      refine lv_imul hx hb dX7_deliver_332 ?_
                                      refine r_te (y := nI 64) (pk_mul 64 1) ?_
                                      refine lv_iload hx hb dX7_deliver_333 (lv_at hl 1 rfl) ?_
                                      refine lv_iadd hx hb dX7_deliver_335 ?_
                                      refine r_te (y := nI (64 + k9)) (nI_add 64 k9) ?_
                                      refine lv_iload hx hb dX7_deliver_336 (lv_at hl 0 rfl) ?_
                                      refine lv_if_eq (tgt := 365) hx hb dX7_deliver_338 (by decide) (fun c47 => ?_) (fun c47 => ?_)
                                      · skip
                                        rw [← nI_0] at c47
                                        have c47 : 0 = 0 := (nI_eq (by omega) (by omega)).mp c47
                                        refine lv_iconst (v := nI 0) hx hb dX7_deliver_365 (by decide +kernel) ?_
                                        refine r_zast hx hb h0 hw 6 rfl (i := 64 + k9) (by decide +kernel) (by omega) (by omega) dX7_deliver_366 (fun H locs hw => ?_)
                                        have hw : WD g A s [(md 2, .inl (g.2.1 0, 64, .inl (se))), (md 23, .inl (g.2.1 0, 16, .inl (wd))), (md 24, .inl (g.2.1 0, 16, .inl (mx))), (md 4, .inl (g.2.1 0, 2, .inl (szF epn))), (md 6, .inl (g.2.1 2, 2, .inl (smf))), (md 7, .inl (g.2.1 1, 2, .inr (.inl (gtf)))), (md 8, .inl (g.2.1 2, 128, .inl (upd (shM snf 64 64 (k9 + 1)) (64 + k9) (nI 0)))), (md 13, .inl (g.2.1 0, 96, .inl (ibf))), (md 10, .inl (g.2.1 0, 8, .inl (szF z))), (md 17, .inl (g.2.1 0, 400, .inl (r2_20))), (md 16, .inl (g.2.1 0, 64, .inl (w2_21))), (md 15, .inl (g.2.1 0, 8, .inl (s2_22))), (md 22, .inl (g.2.1 0, 64, .inl (kRW))), (md 18, .inl (g.2.1 0, 32, .inl (hmv tk (f k) (15 + ln)))), (md 19, .inl (g.2.1 0, 32, .inl (k2_23))), (md 21, .inl (g.2.1 0, 160, .inl (m2_24))), (md 3, .inl (g.2.1 0, 64, .inl (te))), (md 25, .inr (7, [.ref (md 0), .int (nI op), .ref (md 2), .ref (md 3), .ref (md 4), .ref (md 5), .ref (md 6), .ref (md 7), .ref (md 8), .ref (md 9), .ref (md 10), .ref (md 11), .int (nI on), .ref (md 13), .int (nI inn), .ref (md 15), .ref (md 16), .ref (md 17), .ref (md 18), .ref (md 19), .ref (md 20), .ref (md 21), .ref (md 22), .ref (md 23), .ref (md 24)])), (md 9, .inl (g.2.1 0, 1024, .inl (wr)))] [] H locs := hw
                                        have hw : WD g A s [(md 2, .inl (g.2.1 0, 64, .inl (se))), (md 23, .inl (g.2.1 0, 16, .inl (wd))), (md 24, .inl (g.2.1 0, 16, .inl (mx))), (md 4, .inl (g.2.1 0, 2, .inl (szF epn))), (md 6, .inl (g.2.1 2, 2, .inl (smf))), (md 7, .inl (g.2.1 1, 2, .inr (.inl (gtf)))), (md 8, .inl (g.2.1 2, 128, .inl (shM snf 64 64 k9))), (md 13, .inl (g.2.1 0, 96, .inl (ibf))), (md 10, .inl (g.2.1 0, 8, .inl (szF z))), (md 17, .inl (g.2.1 0, 400, .inl (r2_20))), (md 16, .inl (g.2.1 0, 64, .inl (w2_21))), (md 15, .inl (g.2.1 0, 8, .inl (s2_22))), (md 22, .inl (g.2.1 0, 64, .inl (kRW))), (md 18, .inl (g.2.1 0, 32, .inl (hmv tk (f k) (15 + ln)))), (md 19, .inl (g.2.1 0, 32, .inl (k2_23))), (md 21, .inl (g.2.1 0, 160, .inl (m2_24))), (md 3, .inl (g.2.1 0, 64, .inl (te))), (md 25, .inr (7, [.ref (md 0), .int (nI op), .ref (md 2), .ref (md 3), .ref (md 4), .ref (md 5), .ref (md 6), .ref (md 7), .ref (md 8), .ref (md 9), .ref (md 10), .ref (md 11), .int (nI on), .ref (md 13), .int (nI inn), .ref (md 15), .ref (md 16), .ref (md 17), .ref (md 18), .ref (md 19), .ref (md 20), .ref (md 21), .ref (md 22), .ref (md 23), .ref (md 24)])), (md 9, .inl (g.2.1 0, 1024, .inl (wr)))] [] H locs := by rw [← shM_up snf 64 64 k9 (by omega), if_neg (by omega)]; exact hw
                                        refine lv_iinc (v := nP k9) (lv' := [(13, .int (nP k9)), (14, .int (nI 0)), (0, .ref (md 25)), (1, .int (nI k)), (3, .int (nI (128 * k))), (4, .int (nI 1)), (5, .int (nI ln)), (6, .long (nAt (f k) 5 8)), (11, .long ((nAt (f k) 5 8) - gtf 1))]) hx hb dX7_deliver_367 hl (k := 1) rfl (rfl) (by decide) rfl (fun ls hl => ?_)
                                        refine lv_goto (tgt := 282) hx hb dX7_deliver_370 (by decide) ?_
                                        exact ih k9 (by omega) (by omega) _ _ _ hw (lv_sub hl [0, 2, 3, 4, 5, 6, 7, 8] rfl)
                                      · skip
                                        rw [← nI_0] at c47
                                        have c47 : ¬ 0 = 0 := fun q => c47 (((nI_eq (by omega) (by omega)).mpr q))
                                        exfalso; omega
                                    · skip
                                      have g2_ := c46
                                      refine lv_lload hx hb dX7_deliver_297 (lv_at hl 7 rfl) ?_
                                      refine lv_ldc2 hx hb hown k227 dX7_deliver_299 ?_
                                      refine r_calli (wr := [(md 2, .inl (g.2.1 0, 64, .inl (se))), (md 23, .inl (g.2.1 0, 16, .inl (wd))), (md 24, .inl (g.2.1 0, 16, .inl (mx))), (md 4, .inl (g.2.1 0, 2, .inl (szF epn))), (md 6, .inl (g.2.1 2, 2, .inl (smf))), (md 7, .inl (g.2.1 1, 2, .inr (.inl (gtf)))), (md 8, .inl (g.2.1 2, 128, .inl (shM snf 64 64 (k9 + 1)))), (md 13, .inl (g.2.1 0, 96, .inl (ibf))), (md 10, .inl (g.2.1 0, 8, .inl (szF z))), (md 17, .inl (g.2.1 0, 400, .inl (r2_20))), (md 16, .inl (g.2.1 0, 64, .inl (w2_21))), (md 15, .inl (g.2.1 0, 8, .inl (s2_22))), (md 22, .inl (g.2.1 0, 64, .inl (kRW))), (md 18, .inl (g.2.1 0, 32, .inl (hmv tk (f k) (15 + ln)))), (md 19, .inl (g.2.1 0, 32, .inl (k2_23))), (md 21, .inl (g.2.1 0, 160, .inl (m2_24))), (md 3, .inl (g.2.1 0, 64, .inl (te))), (md 25, .inr (7, [.ref (md 0), .int (nI op), .ref (md 2), .ref (md 3), .ref (md 4), .ref (md 5), .ref (md 6), .ref (md 7), .ref (md 8), .ref (md 9), .ref (md 10), .ref (md 11), .int (nI on), .ref (md 13), .int (nI inn), .ref (md 15), .ref (md 16), .ref (md 17), .ref (md 18), .ref (md 19), .ref (md 20), .ref (md 21), .ref (md 22), .ref (md 23), .ref (md 24)])), (md 9, .inl (g.2.1 0, 1024, .inl (wr)))]) [] [0, 1, 2, 3, 4, 5, 6, 7, 8, 9, 10, 11, 12, 13, 14, 15, 16, 17, 18] h0 hw rfl rfl (by decide) (by decide) (va_runS (As := [.long ((nAt (f k) 5 8) - gtf 1), .long (64)]) (rest := []) ⟨hx, hb, hml, hown, hts⟩ (c_X7_isBelow l g ((nAt (f k) 5 8) - gtf 1) 64  _) (va_cwS 2 hts gX7_deliver_X7_isBelow rfl rfl rfl (by decide +kernel) ⟨Nat.le_of_ble_eq_true rfl, Nat.le_of_ble_eq_true rfl⟩) (preS_of [] [.long ((nAt (f k) 5 8) - gtf 1), .long (64)] h0 hw rfl (by decide)) rfl rfl hl.1 rfl (lv_room (Nat.le_of_ble_eq_true rfl)) dX7_deliver_302 ⟨Nat.le_of_ble_eq_true rfl, Nat.le_of_ble_eq_true rfl⟩) (fun r48 u49 H locs hp50 hw => ?_)
                                      have hw : WD g A s [(md 2, .inl (g.2.1 0, 64, .inl (se))), (md 23, .inl (g.2.1 0, 16, .inl (wd))), (md 24, .inl (g.2.1 0, 16, .inl (mx))), (md 4, .inl (g.2.1 0, 2, .inl (szF epn))), (md 6, .inl (g.2.1 2, 2, .inl (smf))), (md 7, .inl (g.2.1 1, 2, .inr (.inl (gtf)))), (md 8, .inl (g.2.1 2, 128, .inl (shM snf 64 64 (k9 + 1)))), (md 13, .inl (g.2.1 0, 96, .inl (ibf))), (md 10, .inl (g.2.1 0, 8, .inl (szF z))), (md 17, .inl (g.2.1 0, 400, .inl (r2_20))), (md 16, .inl (g.2.1 0, 64, .inl (w2_21))), (md 15, .inl (g.2.1 0, 8, .inl (s2_22))), (md 22, .inl (g.2.1 0, 64, .inl (kRW))), (md 18, .inl (g.2.1 0, 32, .inl (hmv tk (f k) (15 + ln)))), (md 19, .inl (g.2.1 0, 32, .inl (k2_23))), (md 21, .inl (g.2.1 0, 160, .inl (m2_24))), (md 3, .inl (g.2.1 0, 64, .inl (te))), (md 25, .inr (7, [.ref (md 0), .int (nI op), .ref (md 2), .ref (md 3), .ref (md 4), .ref (md 5), .ref (md 6), .ref (md 7), .ref (md 8), .ref (md 9), .ref (md 10), .ref (md 11), .int (nI on), .ref (md 13), .int (nI inn), .ref (md 15), .ref (md 16), .ref (md 17), .ref (md 18), .ref (md 19), .ref (md 20), .ref (md 21), .ref (md 22), .ref (md 23), .ref (md 24)])), (md 9, .inl (g.2.1 0, 1024, .inl (wr)))] [] H locs := hw
                                      subst hp50
                                      refine lv_if_eq (tgt := 321) hx hb dX7_deliver_305 (by decide) (fun c51 => ?_) (fun c51 => ?_)
                                      · skip
                                        have c51 : ¬ (lowU ((nAt (f k) 5 8) - gtf 1) 64) := bI_f c51
                                        refine lv_iconst (v := nI 0) hx hb dX7_deliver_321 (by decide +kernel) ?_
                                        refine lv_istore (lv' := [(14, .int (nI 0)), (13, .int (nI k9)), (0, .ref (md 25)), (1, .int (nI k)), (3, .int (nI (128 * k))), (4, .int (nI 1)), (5, .int (nI ln)), (6, .long (nAt (f k) 5 8)), (11, .long ((nAt (f k) 5 8) - gtf 1))]) hx hb dX7_deliver_322 hl (by decide) rfl (fun ls hl => ?_)
                                        refine lv_aload_n hx hb dX7_deliver_324 rfl (lv_at hl 2 rfl) ?_
                                        refine r_get (ci := 7) (v := .ref (md 8)) (C := RX7) (T := TX7) (N := 25) hx hb hts hinX7 hown h0 hw 17 rfl rfl 8 (by decide) k33 rfl dX7_deliver_325 ?_
                                        refine lv_bipush (v := nI 64) hx hb dX7_deliver_328 (by decide +kernel) ?_
                                        refine lv_iload hx hb dX7_deliver_330 (lv_at hl 5 rfl) ?_
                                        refine lv_imul hx hb dX7_deliver_332 ?_
                                        refine r_te (y := nI 64) (pk_mul 64 1) ?_
                                        refine lv_iload hx hb dX7_deliver_333 (lv_at hl 1 rfl) ?_
                                        refine lv_iadd hx hb dX7_deliver_335 ?_
                                        refine r_te (y := nI (64 + k9)) (nI_add 64 k9) ?_
                                        refine lv_iload hx hb dX7_deliver_336 (lv_at hl 0 rfl) ?_
                                        refine lv_if_eq (tgt := 365) hx hb dX7_deliver_338 (by decide) (fun c52 => ?_) (fun c52 => ?_)
                                        · skip
                                          rw [← nI_0] at c52
                                          have c52 : 0 = 0 := (nI_eq (by omega) (by omega)).mp c52
                                          refine lv_iconst (v := nI 0) hx hb dX7_deliver_365 (by decide +kernel) ?_
                                          refine r_zast hx hb h0 hw 6 rfl (i := 64 + k9) (by decide +kernel) (by omega) (by omega) dX7_deliver_366 (fun H locs hw => ?_)
                                          have hw : WD g A s [(md 2, .inl (g.2.1 0, 64, .inl (se))), (md 23, .inl (g.2.1 0, 16, .inl (wd))), (md 24, .inl (g.2.1 0, 16, .inl (mx))), (md 4, .inl (g.2.1 0, 2, .inl (szF epn))), (md 6, .inl (g.2.1 2, 2, .inl (smf))), (md 7, .inl (g.2.1 1, 2, .inr (.inl (gtf)))), (md 8, .inl (g.2.1 2, 128, .inl (upd (shM snf 64 64 (k9 + 1)) (64 + k9) (nI 0)))), (md 13, .inl (g.2.1 0, 96, .inl (ibf))), (md 10, .inl (g.2.1 0, 8, .inl (szF z))), (md 17, .inl (g.2.1 0, 400, .inl (r2_20))), (md 16, .inl (g.2.1 0, 64, .inl (w2_21))), (md 15, .inl (g.2.1 0, 8, .inl (s2_22))), (md 22, .inl (g.2.1 0, 64, .inl (kRW))), (md 18, .inl (g.2.1 0, 32, .inl (hmv tk (f k) (15 + ln)))), (md 19, .inl (g.2.1 0, 32, .inl (k2_23))), (md 21, .inl (g.2.1 0, 160, .inl (m2_24))), (md 3, .inl (g.2.1 0, 64, .inl (te))), (md 25, .inr (7, [.ref (md 0), .int (nI op), .ref (md 2), .ref (md 3), .ref (md 4), .ref (md 5), .ref (md 6), .ref (md 7), .ref (md 8), .ref (md 9), .ref (md 10), .ref (md 11), .int (nI on), .ref (md 13), .int (nI inn), .ref (md 15), .ref (md 16), .ref (md 17), .ref (md 18), .ref (md 19), .ref (md 20), .ref (md 21), .ref (md 22), .ref (md 23), .ref (md 24)])), (md 9, .inl (g.2.1 0, 1024, .inl (wr)))] [] H locs := hw
                                          have hw : WD g A s [(md 2, .inl (g.2.1 0, 64, .inl (se))), (md 23, .inl (g.2.1 0, 16, .inl (wd))), (md 24, .inl (g.2.1 0, 16, .inl (mx))), (md 4, .inl (g.2.1 0, 2, .inl (szF epn))), (md 6, .inl (g.2.1 2, 2, .inl (smf))), (md 7, .inl (g.2.1 1, 2, .inr (.inl (gtf)))), (md 8, .inl (g.2.1 2, 128, .inl (shM snf 64 64 k9))), (md 13, .inl (g.2.1 0, 96, .inl (ibf))), (md 10, .inl (g.2.1 0, 8, .inl (szF z))), (md 17, .inl (g.2.1 0, 400, .inl (r2_20))), (md 16, .inl (g.2.1 0, 64, .inl (w2_21))), (md 15, .inl (g.2.1 0, 8, .inl (s2_22))), (md 22, .inl (g.2.1 0, 64, .inl (kRW))), (md 18, .inl (g.2.1 0, 32, .inl (hmv tk (f k) (15 + ln)))), (md 19, .inl (g.2.1 0, 32, .inl (k2_23))), (md 21, .inl (g.2.1 0, 160, .inl (m2_24))), (md 3, .inl (g.2.1 0, 64, .inl (te))), (md 25, .inr (7, [.ref (md 0), .int (nI op), .ref (md 2), .ref (md 3), .ref (md 4), .ref (md 5), .ref (md 6), .ref (md 7), .ref (md 8), .ref (md 9), .ref (md 10), .ref (md 11), .int (nI on), .ref (md 13), .int (nI inn), .ref (md 15), .ref (md 16), .ref (md 17), .ref (md 18), .ref (md 19), .ref (md 20), .ref (md 21), .ref (md 22), .ref (md 23), .ref (md 24)])), (md 9, .inl (g.2.1 0, 1024, .inl (wr)))] [] H locs := by rw [← shM_up snf 64 64 k9 (by omega), if_neg (by omega)]; exact hw
                                          refine lv_iinc (v := nP k9) (lv' := [(13, .int (nP k9)), (14, .int (nI 0)), (0, .ref (md 25)), (1, .int (nI k)), (3, .int (nI (128 * k))), (4, .int (nI 1)), (5, .int (nI ln)), (6, .long (nAt (f k) 5 8)), (11, .long ((nAt (f k) 5 8) - gtf 1))]) hx hb dX7_deliver_367 hl (k := 1) rfl (rfl) (by decide) rfl (fun ls hl => ?_)
                                          refine lv_goto (tgt := 282) hx hb dX7_deliver_370 (by decide) ?_
                                          exact ih k9 (by omega) (by omega) _ _ _ hw (lv_sub hl [0, 2, 3, 4, 5, 6, 7, 8] rfl)
                                        · skip
                                          rw [← nI_0] at c52
                                          have c52 : ¬ 0 = 0 := fun q => c52 (((nI_eq (by omega) (by omega)).mpr q))
                                          exfalso; omega
                                      · skip
                                        have c51 : lowU ((nAt (f k) 5 8) - gtf 1) 64 := bI_t c51
                                        exact absurd c51 (hno.resolve_left g2_)
                              rw [show nI 63 = nP 64 from (nP_succ 63).symm] at hl
                              have hw : WD g A s [(md 2, .inl (g.2.1 0, 64, .inl (se))), (md 23, .inl (g.2.1 0, 16, .inl (wd))), (md 24, .inl (g.2.1 0, 16, .inl (mx))), (md 4, .inl (g.2.1 0, 2, .inl (szF epn))), (md 6, .inl (g.2.1 2, 2, .inl (smf))), (md 7, .inl (g.2.1 1, 2, .inr (.inl (gtf)))), (md 8, .inl (g.2.1 2, 128, .inl (shM snf 64 64 64))), (md 13, .inl (g.2.1 0, 96, .inl (ibf))), (md 10, .inl (g.2.1 0, 8, .inl (szF z))), (md 17, .inl (g.2.1 0, 400, .inl (r2_20))), (md 16, .inl (g.2.1 0, 64, .inl (w2_21))), (md 15, .inl (g.2.1 0, 8, .inl (s2_22))), (md 22, .inl (g.2.1 0, 64, .inl (kRW))), (md 18, .inl (g.2.1 0, 32, .inl (hmv tk (f k) (15 + ln)))), (md 19, .inl (g.2.1 0, 32, .inl (k2_23))), (md 21, .inl (g.2.1 0, 160, .inl (m2_24))), (md 3, .inl (g.2.1 0, 64, .inl (te))), (md 25, .inr (7, [.ref (md 0), .int (nI op), .ref (md 2), .ref (md 3), .ref (md 4), .ref (md 5), .ref (md 6), .ref (md 7), .ref (md 8), .ref (md 9), .ref (md 10), .ref (md 11), .int (nI on), .ref (md 13), .int (nI inn), .ref (md 15), .ref (md 16), .ref (md 17), .ref (md 18), .ref (md 19), .ref (md 20), .ref (md 21), .ref (md 22), .ref (md 23), .ref (md 24)])), (md 9, .inl (g.2.1 0, 1024, .inl (wr)))] [] H locs := by rw [shM_64]; exact hw
                              exact lp282 (64 + 1) 64 (by omega) (by omega) _ _ _ hw (lv_sub hl [0, 5, 6, 7, 8, 9, 4, 1] rfl)
                          · skip
                            rw [← nI_0] at c33
                            have c33 : ¬ 0 = 0 := fun q => c33 (((nI_eq (by omega) (by omega)).mpr q))
                            exfalso; omega
                        · skip
                          rw [← nI_0] at c32
                          have c32 : ¬ 0 = 0 := fun q => c32 (((nI_eq (by omega) (by omega)).mpr q))
                          exfalso; omega
                      · skip
                        have g1 := c31
                        refine lv_aload_n hx hb dX7_deliver_184 rfl (lv_at hl 1 rfl) ?_
                        refine r_get (ci := 7) (v := .ref (md 7)) (C := RX7) (T := TX7) (N := 25) hx hb hts hinX7 hown h0 hw 17 rfl rfl 7 (by decide) k30 rfl dX7_deliver_185 ?_
                        refine lv_iload hx hb dX7_deliver_188 (lv_at hl 4 rfl) ?_
                        refine r_lald hx hb h0 hw 5 rfl (i := 1) (by omega) (by omega) dX7_deliver_190 ?_
                        refine lv_lload hx hb dX7_deliver_191 (lv_at hl 0 rfl) ?_
                        refine r_calli (wr := [(md 2, .inl (g.2.1 0, 64, .inl (se))), (md 23, .inl (g.2.1 0, 16, .inl (wd))), (md 24, .inl (g.2.1 0, 16, .inl (mx))), (md 4, .inl (g.2.1 0, 2, .inl (szF epn))), (md 6, .inl (g.2.1 2, 2, .inl (smf))), (md 7, .inl (g.2.1 1, 2, .inr (.inl (gtf)))), (md 8, .inl (g.2.1 2, 128, .inl (snf))), (md 13, .inl (g.2.1 0, 96, .inl (ibf))), (md 10, .inl (g.2.1 0, 8, .inl (szF z))), (md 17, .inl (g.2.1 0, 400, .inl (r2_20))), (md 16, .inl (g.2.1 0, 64, .inl (w2_21))), (md 15, .inl (g.2.1 0, 8, .inl (s2_22))), (md 22, .inl (g.2.1 0, 64, .inl (kRW))), (md 18, .inl (g.2.1 0, 32, .inl (hmv tk (f k) (15 + ln)))), (md 19, .inl (g.2.1 0, 32, .inl (k2_23))), (md 21, .inl (g.2.1 0, 160, .inl (m2_24))), (md 3, .inl (g.2.1 0, 64, .inl (te))), (md 25, .inr (7, [.ref (md 0), .int (nI op), .ref (md 2), .ref (md 3), .ref (md 4), .ref (md 5), .ref (md 6), .ref (md 7), .ref (md 8), .ref (md 9), .ref (md 10), .ref (md 11), .int (nI on), .ref (md 13), .int (nI inn), .ref (md 15), .ref (md 16), .ref (md 17), .ref (md 18), .ref (md 19), .ref (md 20), .ref (md 21), .ref (md 22), .ref (md 23), .ref (md 24)])), (md 9, .inl (g.2.1 0, 1024, .inl (wr)))]) [] [0, 1, 2, 3, 4, 5, 6, 7, 8, 9, 10, 11, 12, 13, 14, 15, 16, 17, 18] h0 hw rfl rfl (by decide) (by decide) (va_runS (As := [.long (gtf 1), .long (nAt (f k) 5 8)]) (rest := []) ⟨hx, hb, hml, hown, hts⟩ (c_X7_isBelow l g (gtf 1) (nAt (f k) 5 8)  _) (va_cwS 2 hts gX7_deliver_X7_isBelow rfl rfl rfl (by decide +kernel) ⟨Nat.le_of_ble_eq_true rfl, Nat.le_of_ble_eq_true rfl⟩) (preS_of [] [.long (gtf 1), .long (nAt (f k) 5 8)] h0 hw rfl (by decide)) rfl rfl hl.1 rfl (lv_room (Nat.le_of_ble_eq_true rfl)) dX7_deliver_193 ⟨Nat.le_of_ble_eq_true rfl, Nat.le_of_ble_eq_true rfl⟩) (fun r53 u54 H locs hp55 hw => ?_)
                        have hw : WD g A s [(md 2, .inl (g.2.1 0, 64, .inl (se))), (md 23, .inl (g.2.1 0, 16, .inl (wd))), (md 24, .inl (g.2.1 0, 16, .inl (mx))), (md 4, .inl (g.2.1 0, 2, .inl (szF epn))), (md 6, .inl (g.2.1 2, 2, .inl (smf))), (md 7, .inl (g.2.1 1, 2, .inr (.inl (gtf)))), (md 8, .inl (g.2.1 2, 128, .inl (snf))), (md 13, .inl (g.2.1 0, 96, .inl (ibf))), (md 10, .inl (g.2.1 0, 8, .inl (szF z))), (md 17, .inl (g.2.1 0, 400, .inl (r2_20))), (md 16, .inl (g.2.1 0, 64, .inl (w2_21))), (md 15, .inl (g.2.1 0, 8, .inl (s2_22))), (md 22, .inl (g.2.1 0, 64, .inl (kRW))), (md 18, .inl (g.2.1 0, 32, .inl (hmv tk (f k) (15 + ln)))), (md 19, .inl (g.2.1 0, 32, .inl (k2_23))), (md 21, .inl (g.2.1 0, 160, .inl (m2_24))), (md 3, .inl (g.2.1 0, 64, .inl (te))), (md 25, .inr (7, [.ref (md 0), .int (nI op), .ref (md 2), .ref (md 3), .ref (md 4), .ref (md 5), .ref (md 6), .ref (md 7), .ref (md 8), .ref (md 9), .ref (md 10), .ref (md 11), .int (nI on), .ref (md 13), .int (nI inn), .ref (md 15), .ref (md 16), .ref (md 17), .ref (md 18), .ref (md 19), .ref (md 20), .ref (md 21), .ref (md 22), .ref (md 23), .ref (md 24)])), (md 9, .inl (g.2.1 0, 1024, .inl (wr)))] [] H locs := hw
                        subst hp55
                        refine lv_if_ne (tgt := 203) hx hb dX7_deliver_196 (by decide) (fun c56 => ?_) (fun c56 => ?_)
                        · skip
                          have c56 : lowU (gtf 1) (nAt (f k) 5 8) := bI_t c56
                          refine lv_iconst (v := nI 0) hx hb dX7_deliver_203 (by decide +kernel) ?_
                          refine lv_istore (lv' := [(8, .int (nI 0)), (6, .long (nAt (f k) 5 8)), (0, .ref (md 25)), (1, .int (nI k)), (3, .int (nI (128 * k))), (4, .int (nI 1)), (5, .int (nI ln))]) hx hb dX7_deliver_204 hl (by decide) rfl (fun ls hl => ?_)
                          refine lv_aload_n hx hb dX7_deliver_206 rfl (lv_at hl 2 rfl) ?_
                          refine r_get (ci := 7) (v := .ref (md 7)) (C := RX7) (T := TX7) (N := 25) hx hb hts hinX7 hown h0 hw 17 rfl rfl 7 (by decide) k30 rfl dX7_deliver_207 ?_
                          refine lv_iload hx hb dX7_deliver_210 (lv_at hl 5 rfl) ?_
                          refine r_lald hx hb h0 hw 5 rfl (i := 1) (by omega) (by omega) dX7_deliver_212 ?_
                          refine lv_lload hx hb dX7_deliver_213 (lv_at hl 1 rfl) ?_
                          refine lv_lsub hx hb dX7_deliver_215 ?_
                          refine lv_lstore (lv' := [(9, .long ((gtf 1) - (nAt (f k) 5 8))), (8, .int (nI 0)), (6, .long (nAt (f k) 5 8)), (0, .ref (md 25)), (1, .int (nI k)), (3, .int (nI (128 * k))), (4, .int (nI 1)), (5, .int (nI ln))]) hx hb dX7_deliver_216 hl (by decide) rfl (fun ls hl => ?_)
                          refine lv_iload hx hb dX7_deliver_218 (lv_at hl 1 rfl) ?_
                          refine lv_if_eq (tgt := 236) hx hb dX7_deliver_220 (by decide) (fun c57 => ?_) (fun c57 => ?_)
                          · skip
                            rw [← nI_0] at c57
                            have c57 : 0 = 0 := (nI_eq (by omega) (by omega)).mp c57
                            refine lv_iload hx hb dX7_deliver_236 (lv_at hl 1 rfl) ?_
                            refine lv_if_eq (tgt := 261) hx hb dX7_deliver_238 (by decide) (fun c58 => ?_) (fun c58 => ?_)
                            · skip
                              rw [← nI_0] at c58
                              have c58 : 0 = 0 := (nI_eq (by omega) (by omega)).mp c58
                              refine lv_iload hx hb dX7_deliver_261 (lv_at hl 1 rfl) ?_
                              refine lv_if_ne (tgt := 393) hx hb dX7_deliver_263 (by decide) (fun c59 => ?_) (fun c59 => ?_)
                              · skip
                                rw [← nI_0] at c59
                                have c59 : ¬ 0 = 0 := fun q => c59 (((nI_eq (by omega) (by omega)).mpr q))
                                exfalso; omega
                              · skip
                                rw [← nI_0] at c59
                                have c59 : 0 = 0 := (nI_eq (by omega) (by omega)).mp c59
                                refine lv_lload hx hb dX7_deliver_266 (lv_at hl 2 rfl) ?_
                                refine lv_aload_n hx hb dX7_deliver_268 rfl (lv_at hl 3 rfl) ?_
                                refine r_get (ci := 7) (v := .ref (md 7)) (C := RX7) (T := TX7) (N := 25) hx hb hts hinX7 hown h0 hw 17 rfl rfl 7 (by decide) k30 rfl dX7_deliver_269 ?_
                                refine lv_iload hx hb dX7_deliver_272 (lv_at hl 6 rfl) ?_
                                refine r_lald hx hb h0 hw 5 rfl (i := 1) (by omega) (by omega) dX7_deliver_274 ?_
                                refine lv_lsub hx hb dX7_deliver_275 ?_
                                refine lv_lstore (lv' := [(11, .long ((nAt (f k) 5 8) - (gtf 1))), (9, .long ((gtf 1) - (nAt (f k) 5 8))), (8, .int (nI 0)), (6, .long (nAt (f k) 5 8)), (0, .ref (md 25)), (1, .int (nI k)), (3, .int (nI (128 * k))), (4, .int (nI 1)), (5, .int (nI ln))]) hx hb dX7_deliver_276 hl (by decide) rfl (fun ls hl => ?_)
                                refine lv_bipush (v := nI 63) hx hb dX7_deliver_278 (by decide +kernel) ?_
                                refine lv_istore (lv' := [(13, .int (nI 63)), (11, .long ((nAt (f k) 5 8) - (gtf 1))), (9, .long ((gtf 1) - (nAt (f k) 5 8))), (8, .int (nI 0)), (6, .long (nAt (f k) 5 8)), (0, .ref (md 25)), (1, .int (nI k)), (3, .int (nI (128 * k))), (4, .int (nI 1)), (5, .int (nI ln))]) hx hb dX7_deliver_280 hl (by decide) rfl (fun ls hl => ?_)
                                have lp282 : ∀ (fu : Nat) (m_ : Nat), m_ < fu → (m_ ≤ 64) → ∀ (H : Heap) (locs : List Loc) (ls : Array Slot), WD g A s [(md 2, .inl (g.2.1 0, 64, .inl (se))), (md 23, .inl (g.2.1 0, 16, .inl (wd))), (md 24, .inl (g.2.1 0, 16, .inl (mx))), (md 4, .inl (g.2.1 0, 2, .inl (szF epn))), (md 6, .inl (g.2.1 2, 2, .inl (smf))), (md 7, .inl (g.2.1 1, 2, .inr (.inl (gtf)))), (md 8, .inl (g.2.1 2, 128, .inl (shM snf 64 64 m_))), (md 13, .inl (g.2.1 0, 96, .inl (ibf))), (md 10, .inl (g.2.1 0, 8, .inl (szF z))), (md 17, .inl (g.2.1 0, 400, .inl (r2_20))), (md 16, .inl (g.2.1 0, 64, .inl (w2_21))), (md 15, .inl (g.2.1 0, 8, .inl (s2_22))), (md 22, .inl (g.2.1 0, 64, .inl (kRW))), (md 18, .inl (g.2.1 0, 32, .inl (hmv tk (f k) (15 + ln)))), (md 19, .inl (g.2.1 0, 32, .inl (k2_23))), (md 21, .inl (g.2.1 0, 160, .inl (m2_24))), (md 3, .inl (g.2.1 0, 64, .inl (te))), (md 25, .inr (7, [.ref (md 0), .int (nI op), .ref (md 2), .ref (md 3), .ref (md 4), .ref (md 5), .ref (md 6), .ref (md 7), .ref (md 8), .ref (md 9), .ref (md 10), .ref (md 11), .int (nI on), .ref (md 13), .int (nI inn), .ref (md 15), .ref (md 16), .ref (md 17), .ref (md 18), .ref (md 19), .ref (md 20), .ref (md 21), .ref (md 22), .ref (md 23), .ref (md 24)])), (md 9, .inl (g.2.1 0, 1024, .inl (wr)))] [] H locs → lv_has ls 15 [(13, .int (nP m_)), (0, .ref (md 25)), (1, .int (nI k)), (3, .int (nI (128 * k))), (4, .int (nI 1)), (5, .int (nI ln)), (6, .long (nAt (f k) 5 8)), (11, .long ((nAt (f k) 5 8) - gtf 1))] → W p l e { frames := 5, cells := 0, slots := 0, locals := 123 } s m ar below meth c H locs 0 0 Q (F0 m 282 ls []) := by
                                  intro fu
                                  induction fu with
                                  | zero => intro m_ hmz; exact absurd hmz (Nat.not_lt_zero _)
                                  | succ fu ih =>
                                    intro m_ hms hm H locs ls hw hl
                                    refine lv_iload hx hb dX7_deliver_282 (lv_at hl 0 rfl) ?_
                                    refine lv_if_lt (tgt := 373) hx hb dX7_deliver_284 (by decide) (fun c60 => ?_) (fun c60 => ?_)
                                    · skip
                                      have hm0 : m_ = 0 := nP_neg (by omega) c60
                                      have hwS61 := hw; have hlS62 := hl
                                      subst m_
                                      have hw := hwS61; have hl := hlS62
                                      refine lv_aload_n hx hb dX7_deliver_373 rfl (lv_at hl 1 rfl) ?_
                                      refine r_get (ci := 7) (v := .ref (md 7)) (C := RX7) (T := TX7) (N := 25) hx hb hts hinX7 hown h0 hw 17 rfl rfl 7 (by decide) k30 rfl dX7_deliver_374 ?_
                                      refine lv_iload hx hb dX7_deliver_377 (lv_at hl 4 rfl) ?_
                                      refine lv_lload hx hb dX7_deliver_379 (lv_at hl 6 rfl) ?_
                                      refine r_last hx hb h0 hw 5 rfl (i := 1) (by omega) (by omega) dX7_deliver_381 (fun H locs hw => ?_)
                                      have hw : WD g A s [(md 2, .inl (g.2.1 0, 64, .inl (se))), (md 23, .inl (g.2.1 0, 16, .inl (wd))), (md 24, .inl (g.2.1 0, 16, .inl (mx))), (md 4, .inl (g.2.1 0, 2, .inl (szF epn))), (md 6, .inl (g.2.1 2, 2, .inl (smf))), (md 7, .inl (g.2.1 1, 2, .inr (.inl (vp_updL gtf 1 (nAt (f k) 5 8))))), (md 8, .inl (g.2.1 2, 128, .inl (shM snf 64 64 0))), (md 13, .inl (g.2.1 0, 96, .inl (ibf))), (md 10, .inl (g.2.1 0, 8, .inl (szF z))), (md 17, .inl (g.2.1 0, 400, .inl (r2_20))), (md 16, .inl (g.2.1 0, 64, .inl (w2_21))), (md 15, .inl (g.2.1 0, 8, .inl (s2_22))), (md 22, .inl (g.2.1 0, 64, .inl (kRW))), (md 18, .inl (g.2.1 0, 32, .inl (hmv tk (f k) (15 + ln)))), (md 19, .inl (g.2.1 0, 32, .inl (k2_23))), (md 21, .inl (g.2.1 0, 160, .inl (m2_24))), (md 3, .inl (g.2.1 0, 64, .inl (te))), (md 25, .inr (7, [.ref (md 0), .int (nI op), .ref (md 2), .ref (md 3), .ref (md 4), .ref (md 5), .ref (md 6), .ref (md 7), .ref (md 8), .ref (md 9), .ref (md 10), .ref (md 11), .int (nI on), .ref (md 13), .int (nI inn), .ref (md 15), .ref (md 16), .ref (md 17), .ref (md 18), .ref (md 19), .ref (md 20), .ref (md 21), .ref (md 22), .ref (md 23), .ref (md 24)])), (md 9, .inl (g.2.1 0, 1024, .inl (wr)))] [] H locs := hw
                                      refine lv_aload_n hx hb dX7_deliver_382 rfl (lv_at hl 1 rfl) ?_
                                      refine r_get (ci := 7) (v := .ref (md 6)) (C := RX7) (T := TX7) (N := 25) hx hb hts hinX7 hown h0 hw 17 rfl rfl 6 (by decide) k26 rfl dX7_deliver_383 ?_
                                      refine lv_iload hx hb dX7_deliver_386 (lv_at hl 4 rfl) ?_
                                      refine lv_iconst (v := nI 1) hx hb dX7_deliver_388 (by decide +kernel) ?_
                                      refine r_zast hx hb h0 hw 4 rfl (i := 1) (by decide +kernel) (by omega) (by omega) dX7_deliver_389 (fun H locs hw => ?_)
                                      have hw : WD g A s [(md 2, .inl (g.2.1 0, 64, .inl (se))), (md 23, .inl (g.2.1 0, 16, .inl (wd))), (md 24, .inl (g.2.1 0, 16, .inl (mx))), (md 4, .inl (g.2.1 0, 2, .inl (szF epn))), (md 6, .inl (g.2.1 2, 2, .inl (upd smf 1 (nI 1)))), (md 7, .inl (g.2.1 1, 2, .inr (.inl (vp_updL gtf 1 (nAt (f k) 5 8))))), (md 8, .inl (g.2.1 2, 128, .inl (shM snf 64 64 0))), (md 13, .inl (g.2.1 0, 96, .inl (ibf))), (md 10, .inl (g.2.1 0, 8, .inl (szF z))), (md 17, .inl (g.2.1 0, 400, .inl (r2_20))), (md 16, .inl (g.2.1 0, 64, .inl (w2_21))), (md 15, .inl (g.2.1 0, 8, .inl (s2_22))), (md 22, .inl (g.2.1 0, 64, .inl (kRW))), (md 18, .inl (g.2.1 0, 32, .inl (hmv tk (f k) (15 + ln)))), (md 19, .inl (g.2.1 0, 32, .inl (k2_23))), (md 21, .inl (g.2.1 0, 160, .inl (m2_24))), (md 3, .inl (g.2.1 0, 64, .inl (te))), (md 25, .inr (7, [.ref (md 0), .int (nI op), .ref (md 2), .ref (md 3), .ref (md 4), .ref (md 5), .ref (md 6), .ref (md 7), .ref (md 8), .ref (md 9), .ref (md 10), .ref (md 11), .int (nI on), .ref (md 13), .int (nI inn), .ref (md 15), .ref (md 16), .ref (md 17), .ref (md 18), .ref (md 19), .ref (md 20), .ref (md 21), .ref (md 22), .ref (md 23), .ref (md 24)])), (md 9, .inl (g.2.1 0, 1024, .inl (wr)))] [] H locs := hw
                                      refine lv_lconst (v := 0) hx hb dX7_deliver_390 (by decide +kernel) ?_
                                      refine lv_lstore (lv' := [(9, .long (0)), (13, .int (nP 0)), (0, .ref (md 25)), (1, .int (nI k)), (3, .int (nI (128 * k))), (4, .int (nI 1)), (5, .int (nI ln)), (6, .long (nAt (f k) 5 8)), (11, .long ((nAt (f k) 5 8) - gtf 1))]) hx hb dX7_deliver_391 hl (by decide) rfl (fun ls hl => ?_)
                                      refine lv_aload_n hx hb dX7_deliver_393 rfl (lv_at hl 2 rfl) ?_
                                      refine r_get (ci := 7) (v := .ref (md 8)) (C := RX7) (T := TX7) (N := 25) hx hb hts hinX7 hown h0 hw 17 rfl rfl 8 (by decide) k33 rfl dX7_deliver_394 ?_
                                      refine lv_bipush (v := nI 64) hx hb dX7_deliver_397 (by decide +kernel) ?_
                                      refine lv_iload hx hb dX7_deliver_399 (lv_at hl 5 rfl) ?_
                                      refine lv_imul hx hb dX7_deliver_401 ?_
                                      refine r_te (y := nI 64) (pk_mul 64 1) ?_
                                      refine lv_lload hx hb dX7_deliver_402 (lv_at hl 0 rfl) ?_
                                      refine lv_l2i (v := (0).toInt32) hx hb dX7_deliver_404 rfl ?_
                                      refine r_te (y := nI 0) rfl ?_
                                      refine lv_iadd hx hb dX7_deliver_405 ?_
                                      refine r_te (y := nI 64) (nI_add 64 0) ?_
                                      refine lv_iconst (v := nI 1) hx hb dX7_deliver_406 (by decide +kernel) ?_
                                      refine r_zast hx hb h0 hw 6 rfl (i := 64) (by decide +kernel) (by omega) (by omega) dX7_deliver_407 (fun H locs hw => ?_)
                                      have hw : WD g A s [(md 2, .inl (g.2.1 0, 64, .inl (se))), (md 23, .inl (g.2.1 0, 16, .inl (wd))), (md 24, .inl (g.2.1 0, 16, .inl (mx))), (md 4, .inl (g.2.1 0, 2, .inl (szF epn))), (md 6, .inl (g.2.1 2, 2, .inl (upd smf 1 (nI 1)))), (md 7, .inl (g.2.1 1, 2, .inr (.inl (vp_updL gtf 1 (nAt (f k) 5 8))))), (md 8, .inl (g.2.1 2, 128, .inl (upd (shM snf 64 64 0) 64 (nI 1)))), (md 13, .inl (g.2.1 0, 96, .inl (ibf))), (md 10, .inl (g.2.1 0, 8, .inl (szF z))), (md 17, .inl (g.2.1 0, 400, .inl (r2_20))), (md 16, .inl (g.2.1 0, 64, .inl (w2_21))), (md 15, .inl (g.2.1 0, 8, .inl (s2_22))), (md 22, .inl (g.2.1 0, 64, .inl (kRW))), (md 18, .inl (g.2.1 0, 32, .inl (hmv tk (f k) (15 + ln)))), (md 19, .inl (g.2.1 0, 32, .inl (k2_23))), (md 21, .inl (g.2.1 0, 160, .inl (m2_24))), (md 3, .inl (g.2.1 0, 64, .inl (te))), (md 25, .inr (7, [.ref (md 0), .int (nI op), .ref (md 2), .ref (md 3), .ref (md 4), .ref (md 5), .ref (md 6), .ref (md 7), .ref (md 8), .ref (md 9), .ref (md 10), .ref (md 11), .int (nI on), .ref (md 13), .int (nI inn), .ref (md 15), .ref (md 16), .ref (md 17), .ref (md 18), .ref (md 19), .ref (md 20), .ref (md 21), .ref (md 22), .ref (md 23), .ref (md 24)])), (md 9, .inl (g.2.1 0, 1024, .inl (wr)))] [] H locs := hw
                                      refine lv_iconst (v := nI 0) hx hb dX7_deliver_408 (by decide +kernel) ?_
                                      refine lv_istore (lv' := [(11, .int (nI 0)), (9, .long (0)), (13, .int (nP 0)), (0, .ref (md 25)), (1, .int (nI k)), (3, .int (nI (128 * k))), (4, .int (nI 1)), (5, .int (nI ln)), (6, .long (nAt (f k) 5 8))]) hx hb dX7_deliver_409 hl (by decide) rfl (fun ls hl => ?_)
                                      have lp411 : ∀ (fu : Nat) (t : Nat) (mv : Nat → Int32) (dv : Nat → Int32), ln - t < fu → (t ≤ ln) → (¬ t % 64 = 0 → mv = dbl (sIn (shf se (32 * 1)) (f k) (nI (t / 64))) 10 ∧ dv = sIn (shf se (32 * 1)) (f k) (nI (t / 64))) → ∀ (H : Heap) (locs : List Loc) (ls : Array Slot), WD g A s [(md 2, .inl (g.2.1 0, 64, .inl (se))), (md 23, .inl (g.2.1 0, 16, .inl (dv))), (md 24, .inl (g.2.1 0, 16, .inl (mv))), (md 4, .inl (g.2.1 0, 2, .inl (szF epn))), (md 6, .inl (g.2.1 2, 2, .inl (upd smf 1 (nI 1)))), (md 7, .inl (g.2.1 1, 2, .inr (.inl (vp_updL gtf 1 (nAt (f k) 5 8))))), (md 8, .inl (g.2.1 2, 128, .inl (upd (shM snf 64 64 0) 64 (nI 1)))), (md 13, .inl (g.2.1 0, 96, .inl (rdF ibf (f k) ek t))), (md 10, .inl (g.2.1 0, 8, .inl (szF z))), (md 17, .inl (g.2.1 0, 400, .inl (r2_20))), (md 16, .inl (g.2.1 0, 64, .inl (w2_21))), (md 15, .inl (g.2.1 0, 8, .inl (s2_22))), (md 22, .inl (g.2.1 0, 64, .inl (kRW))), (md 18, .inl (g.2.1 0, 32, .inl (hmv tk (f k) (15 + ln)))), (md 19, .inl (g.2.1 0, 32, .inl (k2_23))), (md 21, .inl (g.2.1 0, 160, .inl (m2_24))), (md 3, .inl (g.2.1 0, 64, .inl (te))), (md 25, .inr (7, [.ref (md 0), .int (nI op), .ref (md 2), .ref (md 3), .ref (md 4), .ref (md 5), .ref (md 6), .ref (md 7), .ref (md 8), .ref (md 9), .ref (md 10), .ref (md 11), .int (nI on), .ref (md 13), .int (nI inn), .ref (md 15), .ref (md 16), .ref (md 17), .ref (md 18), .ref (md 19), .ref (md 20), .ref (md 21), .ref (md 22), .ref (md 23), .ref (md 24)])), (md 9, .inl (g.2.1 0, 1024, .inl (wr)))] [] H locs → lv_has ls 15 [(11, .int (nI t)), (0, .ref (md 25)), (1, .int (nI k)), (3, .int (nI (128 * k))), (4, .int (nI 1)), (5, .int (nI ln))] → W p l e { frames := 5, cells := 0, slots := 0, locals := 123 } s m ar below meth c H locs 0 0 Q (F0 m 411 ls []) := by
                                        intro fu
                                        induction fu with
                                        | zero => intro t mv dv hmz; exact absurd hmz (Nat.not_lt_zero _)
                                        | succ fu ih =>
                                          intro t mv dv hms ht hg H locs ls hw hl
                                          refine lv_iload hx hb dX7_deliver_411 (lv_at hl 0 rfl) ?_
                                          refine lv_iload hx hb dX7_deliver_413 (lv_at hl 5 rfl) ?_
                                          refine lv_icmp_ge (tgt := 453) hx hb dX7_deliver_415 (by decide) (fun c63 => ?_) (fun c63 => ?_)
                                          · skip
                                            have c63 : ln ≤ t := (nI_leI (by omega) (by omega)).mp c63
                                            have hq : t = ln := by omega
                                            have hwS64 := hw; have hlS65 := hl
                                            subst t
                                            have hw := hwS64; have hl := hlS65
                                            refine lv_aload_n hx hb dX7_deliver_453 rfl (lv_at hl 1 rfl) ?_
                                            refine lv_iload hx hb dX7_deliver_454 (lv_at hl 5 rfl) ?_
                                            refine r_put (ci := 7) (v := .int (nI ln)) (C := RX7) (T := TX7) (N := 25) hx hb hts hinX7 tyX7 tyX7_ok nmX7 hown h0 hw 17 rfl rfl 14 (by decide) k153 rfl rfl rfl (Nat.le_of_ble_eq_true rfl) dX7_deliver_456 (fun H locs hw => ?_)
                                            have hw : WD g A s [(md 2, .inl (g.2.1 0, 64, .inl (se))), (md 23, .inl (g.2.1 0, 16, .inl (dv))), (md 24, .inl (g.2.1 0, 16, .inl (mv))), (md 4, .inl (g.2.1 0, 2, .inl (szF epn))), (md 6, .inl (g.2.1 2, 2, .inl (upd smf 1 (nI 1)))), (md 7, .inl (g.2.1 1, 2, .inr (.inl (vp_updL gtf 1 (nAt (f k) 5 8))))), (md 8, .inl (g.2.1 2, 128, .inl (upd (shM snf 64 64 0) 64 (nI 1)))), (md 13, .inl (g.2.1 0, 96, .inl (rdF ibf (f k) ek ln))), (md 10, .inl (g.2.1 0, 8, .inl (szF z))), (md 17, .inl (g.2.1 0, 400, .inl (r2_20))), (md 16, .inl (g.2.1 0, 64, .inl (w2_21))), (md 15, .inl (g.2.1 0, 8, .inl (s2_22))), (md 22, .inl (g.2.1 0, 64, .inl (kRW))), (md 18, .inl (g.2.1 0, 32, .inl (hmv tk (f k) (15 + ln)))), (md 19, .inl (g.2.1 0, 32, .inl (k2_23))), (md 21, .inl (g.2.1 0, 160, .inl (m2_24))), (md 3, .inl (g.2.1 0, 64, .inl (te))), (md 25, .inr (7, [.ref (md 0), .int (nI op), .ref (md 2), .ref (md 3), .ref (md 4), .ref (md 5), .ref (md 6), .ref (md 7), .ref (md 8), .ref (md 9), .ref (md 10), .ref (md 11), .int (nI on), .ref (md 13), .int (nI ln), .ref (md 15), .ref (md 16), .ref (md 17), .ref (md 18), .ref (md 19), .ref (md 20), .ref (md 21), .ref (md 22), .ref (md 23), .ref (md 24)])), (md 9, .inl (g.2.1 0, 1024, .inl (wr)))] [] H locs := hw
                                            refine lv_iconst (v := nI 0) hx hb dX7_deliver_459 (by decide +kernel) ?_
                                            exact hret (hw.perm (X' := [(md 25, .inr (7, [.ref (md 0), .int (nI op), .ref (md 2), .ref (md 3), .ref (md 4), .ref (md 5), .ref (md 6), .ref (md 7), .ref (md 8), .ref (md 9), .ref (md 10), .ref (md 11), .int (nI on), .ref (md 13), .int (nI ln), .ref (md 15), .ref (md 16), .ref (md 17), .ref (md 18), .ref (md 19), .ref (md 20), .ref (md 21), .ref (md 22), .ref (md 23), .ref (md 24)])), (md 17, .inl (g.2.1 0, 400, .inl (r2_20))), (md 16, .inl (g.2.1 0, 64, .inl (w2_21))), (md 15, .inl (g.2.1 0, 8, .inl (s2_22))), (md 22, .inl (g.2.1 0, 64, .inl (kRW))), (md 18, .inl (g.2.1 0, 32, .inl (hmv tk (f k) (15 + ln)))), (md 19, .inl (g.2.1 0, 32, .inl (k2_23))), (md 21, .inl (g.2.1 0, 160, .inl (m2_24))), (md 3, .inl (g.2.1 0, 64, .inl (te))), (md 9, .inl (g.2.1 0, 1024, .inl (wr))), (md 2, .inl (g.2.1 0, 64, .inl (se))), (md 23, .inl (g.2.1 0, 16, .inl (dv))), (md 24, .inl (g.2.1 0, 16, .inl (mv))), (md 4, .inl (g.2.1 0, 2, .inl (szF epn))), (md 10, .inl (g.2.1 0, 8, .inl (szF z))), (md 6, .inl (g.2.1 2, 2, .inl (upd smf 1 (nI 1)))), (md 7, .inl (g.2.1 1, 2, .inr (.inl (vp_updL gtf 1 (nAt (f k) 5 8))))), (md 8, .inl (g.2.1 2, 128, .inl (upd (shM snf 64 64 0) 64 (nI 1)))), (md 13, .inl (g.2.1 0, 96, .inl (rdF ibf (f k) ek ln)))]) [17, 9, 10, 11, 12, 13, 14, 15, 16, 18, 0, 1, 2, 3, 8, 4, 5, 6, 7] (by decide) rfl) (r2_20, w2_21, s2_22, hmv tk (f k) (15 + ln), k2_23, m2_24, dv, mv) (rfl) (rfl) (by omega) (by omega) dX7_deliver_460
                                          · skip
                                            have c63 : ¬ ln ≤ t := fun q => c63 (((nI_leI (by omega) (by omega)).mpr q))
                                            refine lv_aload_n hx hb dX7_deliver_418 rfl (lv_at hl 1 rfl) ?_
                                            refine r_get (ci := 7) (v := .ref (md 13)) (C := RX7) (T := TX7) (N := 25) hx hb hts hinX7 hown h0 hw 17 rfl rfl 13 (by decide) k45 rfl dX7_deliver_419 ?_
                                            refine lv_iload hx hb dX7_deliver_422 (lv_at hl 0 rfl) ?_
                                            refine lv_aload_n hx hb dX7_deliver_424 rfl (lv_at hl 1 rfl) ?_
                                            refine r_get (ci := 7) (v := .ref (md 9)) (C := RX7) (T := TX7) (N := 25) hx hb hts hinX7 hown h0 hw 17 rfl rfl 9 (by decide) k36 rfl dX7_deliver_425 ?_
                                            refine lv_iload_n hx hb dX7_deliver_428 rfl (lv_at hl 3 rfl) ?_
                                            refine lv_bipush (v := nI 15) hx hb dX7_deliver_429 (by decide +kernel) ?_
                                            refine lv_iadd hx hb dX7_deliver_431 ?_
                                            refine r_te (y := nI (128 * k + 15)) (nI_add (128 * k) 15) ?_
                                            refine lv_iload hx hb dX7_deliver_432 (lv_at hl 0 rfl) ?_
                                            refine lv_iadd hx hb dX7_deliver_434 ?_
                                            refine r_te (y := nI (128 * k + 15 + t)) (nI_add (128 * k + 15) t) ?_
                                            refine r_iald hx hb h0 hw 18 rfl (i := 128 * k + 15 + t) (by omega) (by omega) dX7_deliver_435 ?_
                                            refine r_te (y := f k (15 + t)) (by first | exact hwr (15 + t) (by omega) | (have := hwr (15 + t) (by omega); simpa [Nat.add_assoc] using this)) ?_
                                            refine lv_aload_n hx hb dX7_deliver_436 rfl (lv_at hl 1 rfl) ?_
                                            refine lv_iload hx hb dX7_deliver_437 (lv_at hl 4 rfl) ?_
                                            refine lv_iload_n hx hb dX7_deliver_439 rfl (lv_at hl 2 rfl) ?_
                                            refine lv_iload hx hb dX7_deliver_440 (lv_at hl 0 rfl) ?_
                                            refine r_calli (wr := [(md 4, .inl (g.2.1 0, 2, .inl (szF epn))), (md 6, .inl (g.2.1 2, 2, .inl (upd smf 1 (nI 1)))), (md 7, .inl (g.2.1 1, 2, .inr (.inl (vp_updL gtf 1 (nAt (f k) 5 8))))), (md 8, .inl (g.2.1 2, 128, .inl (upd (shM snf 64 64 0) 64 (nI 1)))), (md 13, .inl (g.2.1 0, 96, .inl (rdF ibf (f k) ek t))), (md 10, .inl (g.2.1 0, 8, .inl (szF z))), (md 17, .inl (g.2.1 0, 400, .inl (r2_20))), (md 16, .inl (g.2.1 0, 64, .inl (w2_21))), (md 15, .inl (g.2.1 0, 8, .inl (s2_22))), (md 22, .inl (g.2.1 0, 64, .inl (kRW))), (md 18, .inl (g.2.1 0, 32, .inl (hmv tk (f k) (15 + ln)))), (md 19, .inl (g.2.1 0, 32, .inl (k2_23))), (md 21, .inl (g.2.1 0, 160, .inl (m2_24))), (md 3, .inl (g.2.1 0, 64, .inl (te)))]) [17, 0, 18, 1, 2] [3, 4, 5, 6, 7, 8, 9, 10, 11, 12, 13, 14, 15, 16] h0 hw rfl rfl (by decide) (by decide) (va_runV (As := [.int (nI 1), .int (nI k), .int (nI t)]) (rest := [.int (f k (15 + t)), .int (nI t), .ref (md 13)]) ⟨hx, hb, hml, hown, hts⟩ (c_X7_streamByte l g md op on inn se wr dv mv ((shf se (32 * 1))) ((f k)) 1 k t (by omega) (by omega) (by omega) (rfl) (h5) (h9) (hg) _) (cwV 3 hts gX7_deliver_X7_streamByte rfl rfl rfl (by decide +kernel) ⟨Nat.le_of_ble_eq_true rfl, Nat.le_of_ble_eq_true rfl⟩) (preV_of [17, 0, 18, 1, 2] [.int (nI 1), .int (nI k), .int (nI t)] h0 hw rfl (by decide) 17 7 rfl rfl) rfl rfl hl.1 rfl (lv_room (Nat.le_of_ble_eq_true rfl)) dX7_deliver_442 ⟨Nat.le_of_ble_eq_true rfl, Nat.le_of_ble_eq_true rfl⟩) (fun r66 u67 H locs hp68 hw => ?_)
                                            obtain ⟨m2_69, w2_70⟩ := u67
                                            have hw : WD g A s [(md 4, .inl (g.2.1 0, 2, .inl (szF epn))), (md 6, .inl (g.2.1 2, 2, .inl (upd smf 1 (nI 1)))), (md 7, .inl (g.2.1 1, 2, .inr (.inl (vp_updL gtf 1 (nAt (f k) 5 8))))), (md 8, .inl (g.2.1 2, 128, .inl (upd (shM snf 64 64 0) 64 (nI 1)))), (md 13, .inl (g.2.1 0, 96, .inl (rdF ibf (f k) ek t))), (md 10, .inl (g.2.1 0, 8, .inl (szF z))), (md 17, .inl (g.2.1 0, 400, .inl (r2_20))), (md 16, .inl (g.2.1 0, 64, .inl (w2_21))), (md 15, .inl (g.2.1 0, 8, .inl (s2_22))), (md 22, .inl (g.2.1 0, 64, .inl (kRW))), (md 18, .inl (g.2.1 0, 32, .inl (hmv tk (f k) (15 + ln)))), (md 19, .inl (g.2.1 0, 32, .inl (k2_23))), (md 21, .inl (g.2.1 0, 160, .inl (m2_24))), (md 3, .inl (g.2.1 0, 64, .inl (te))), (md 25, .inr (7, [.ref (md 0), .int (nI op), .ref (md 2), .ref (md 3), .ref (md 4), .ref (md 5), .ref (md 6), .ref (md 7), .ref (md 8), .ref (md 9), .ref (md 10), .ref (md 11), .int (nI on), .ref (md 13), .int (nI inn), .ref (md 15), .ref (md 16), .ref (md 17), .ref (md 18), .ref (md 19), .ref (md 20), .ref (md 21), .ref (md 22), .ref (md 23), .ref (md 24)])), (md 2, .inl (g.2.1 0, 64, .inl (se))), (md 9, .inl (g.2.1 0, 1024, .inl (wr))), (md 23, .inl (g.2.1 0, 16, .inl (w2_70))), (md 24, .inl (g.2.1 0, 16, .inl (m2_69)))] [] H locs := hw
                                            obtain ⟨rfl, hp68⟩ := hp68
                                            have hpN := hp68
                                            refine lv_ixor hx hb dX7_deliver_445 ?_
                                            refine r_te (y := f k (15 + t) ^^^ sByte ek (f k) t) (by rw [sByte_key hek]) ?_
                                            refine r_iast hx hb h0 hw 4 rfl (i := t) (by omega) (by omega) dX7_deliver_446 (fun H locs hw => ?_)
                                            have hw : WD g A s [(md 4, .inl (g.2.1 0, 2, .inl (szF epn))), (md 6, .inl (g.2.1 2, 2, .inl (upd smf 1 (nI 1)))), (md 7, .inl (g.2.1 1, 2, .inr (.inl (vp_updL gtf 1 (nAt (f k) 5 8))))), (md 8, .inl (g.2.1 2, 128, .inl (upd (shM snf 64 64 0) 64 (nI 1)))), (md 13, .inl (g.2.1 0, 96, .inl (upd (rdF ibf (f k) ek t) t (f k (15 + t) ^^^ sByte ek (f k) t)))), (md 10, .inl (g.2.1 0, 8, .inl (szF z))), (md 17, .inl (g.2.1 0, 400, .inl (r2_20))), (md 16, .inl (g.2.1 0, 64, .inl (w2_21))), (md 15, .inl (g.2.1 0, 8, .inl (s2_22))), (md 22, .inl (g.2.1 0, 64, .inl (kRW))), (md 18, .inl (g.2.1 0, 32, .inl (hmv tk (f k) (15 + ln)))), (md 19, .inl (g.2.1 0, 32, .inl (k2_23))), (md 21, .inl (g.2.1 0, 160, .inl (m2_24))), (md 3, .inl (g.2.1 0, 64, .inl (te))), (md 25, .inr (7, [.ref (md 0), .int (nI op), .ref (md 2), .ref (md 3), .ref (md 4), .ref (md 5), .ref (md 6), .ref (md 7), .ref (md 8), .ref (md 9), .ref (md 10), .ref (md 11), .int (nI on), .ref (md 13), .int (nI inn), .ref (md 15), .ref (md 16), .ref (md 17), .ref (md 18), .ref (md 19), .ref (md 20), .ref (md 21), .ref (md 22), .ref (md 23), .ref (md 24)])), (md 2, .inl (g.2.1 0, 64, .inl (se))), (md 9, .inl (g.2.1 0, 1024, .inl (wr))), (md 23, .inl (g.2.1 0, 16, .inl (w2_70))), (md 24, .inl (g.2.1 0, 16, .inl (m2_69)))] [] H locs := hw
                                            refine lv_iinc (v := nI (t + 1)) (lv' := [(11, .int (nI (t + 1))), (0, .ref (md 25)), (1, .int (nI k)), (3, .int (nI (128 * k))), (4, .int (nI 1)), (5, .int (nI ln))]) hx hb dX7_deliver_447 hl (k := 0) rfl (nI_add t 1) (by decide) rfl (fun ls hl => ?_)
                                            refine lv_goto (tgt := 411) hx hb dX7_deliver_450 (by decide) ?_
                                            exact ih (t + 1) m2_69 w2_70 (by omega) (by omega) (fun q => by rw [show (t + 1) / 64 = t / 64 by omega]; exact hpN) _ _ _ (hw.perm [15, 17, 18, 0, 1, 2, 3, 4, 5, 6, 7, 8, 9, 10, 11, 12, 13, 14, 16] (by decide) rfl) (lv_sub hl [0, 1, 2, 3, 4, 5] rfl)
                                      exact lp411 (ln - 0 + 1) 0 mx wd (by omega) (by omega) (fun q => absurd rfl q) _ _ _ hw (lv_sub hl [0, 3, 4, 5, 6, 7] rfl)
                                    · skip
                                      have hm1 : 1 ≤ m_ := nP_nneg c60
                                      obtain ⟨k9, rfl⟩ : ∃ k9, m_ = k9 + 1 := ⟨m_ - 1, by omega⟩
                                      rw [nP_succ] at hl
                                      refine lv_aload_n hx hb dX7_deliver_287 rfl (lv_at hl 1 rfl) ?_
                                      refine r_get (ci := 7) (v := .ref (md 6)) (C := RX7) (T := TX7) (N := 25) hx hb hts hinX7 hown h0 hw 17 rfl rfl 6 (by decide) k26 rfl dX7_deliver_288 ?_
                                      refine lv_iload hx hb dX7_deliver_291 (lv_at hl 4 rfl) ?_
                                      refine r_zald hx hb h0 hw 4 rfl (i := 1) (by omega) (by omega) dX7_deliver_293 ?_
                                      refine lv_if_eq (tgt := 321) hx hb dX7_deliver_294 (by decide) (fun c71 => ?_) (fun c71 => ?_)
                                      · skip
                                        have g2_ := c71
                                        refine lv_iconst (v := nI 0) hx hb dX7_deliver_321 (by decide +kernel) ?_
                                        refine lv_istore (lv' := [(14, .int (nI 0)), (13, .int (nI k9)), (0, .ref (md 25)), (1, .int (nI k)), (3, .int (nI (128 * k))), (4, .int (nI 1)), (5, .int (nI ln)), (6, .long (nAt (f k) 5 8)), (11, .long ((nAt (f k) 5 8) - gtf 1))]) hx hb dX7_deliver_322 hl (by decide) rfl (fun ls hl => ?_)
                                        refine lv_aload_n hx hb dX7_deliver_324 rfl (lv_at hl 2 rfl) ?_
                                        refine r_get (ci := 7) (v := .ref (md 8)) (C := RX7) (T := TX7) (N := 25) hx hb hts hinX7 hown h0 hw 17 rfl rfl 8 (by decide) k33 rfl dX7_deliver_325 ?_
                                        refine lv_bipush (v := nI 64) hx hb dX7_deliver_328 (by decide +kernel) ?_
                                        refine lv_iload hx hb dX7_deliver_330 (lv_at hl 5 rfl) ?_
                                        refine lv_imul hx hb dX7_deliver_332 ?_
                                        refine r_te (y := nI 64) (pk_mul 64 1) ?_
                                        refine lv_iload hx hb dX7_deliver_333 (lv_at hl 1 rfl) ?_
                                        refine lv_iadd hx hb dX7_deliver_335 ?_
                                        refine r_te (y := nI (64 + k9)) (nI_add 64 k9) ?_
                                        refine lv_iload hx hb dX7_deliver_336 (lv_at hl 0 rfl) ?_
                                        refine lv_if_eq (tgt := 365) hx hb dX7_deliver_338 (by decide) (fun c72 => ?_) (fun c72 => ?_)
                                        · skip
                                          rw [← nI_0] at c72
                                          have c72 : 0 = 0 := (nI_eq (by omega) (by omega)).mp c72
                                          refine lv_iconst (v := nI 0) hx hb dX7_deliver_365 (by decide +kernel) ?_
                                          refine r_zast hx hb h0 hw 6 rfl (i := 64 + k9) (by decide +kernel) (by omega) (by omega) dX7_deliver_366 (fun H locs hw => ?_)
                                          have hw : WD g A s [(md 2, .inl (g.2.1 0, 64, .inl (se))), (md 23, .inl (g.2.1 0, 16, .inl (wd))), (md 24, .inl (g.2.1 0, 16, .inl (mx))), (md 4, .inl (g.2.1 0, 2, .inl (szF epn))), (md 6, .inl (g.2.1 2, 2, .inl (smf))), (md 7, .inl (g.2.1 1, 2, .inr (.inl (gtf)))), (md 8, .inl (g.2.1 2, 128, .inl (upd (shM snf 64 64 (k9 + 1)) (64 + k9) (nI 0)))), (md 13, .inl (g.2.1 0, 96, .inl (ibf))), (md 10, .inl (g.2.1 0, 8, .inl (szF z))), (md 17, .inl (g.2.1 0, 400, .inl (r2_20))), (md 16, .inl (g.2.1 0, 64, .inl (w2_21))), (md 15, .inl (g.2.1 0, 8, .inl (s2_22))), (md 22, .inl (g.2.1 0, 64, .inl (kRW))), (md 18, .inl (g.2.1 0, 32, .inl (hmv tk (f k) (15 + ln)))), (md 19, .inl (g.2.1 0, 32, .inl (k2_23))), (md 21, .inl (g.2.1 0, 160, .inl (m2_24))), (md 3, .inl (g.2.1 0, 64, .inl (te))), (md 25, .inr (7, [.ref (md 0), .int (nI op), .ref (md 2), .ref (md 3), .ref (md 4), .ref (md 5), .ref (md 6), .ref (md 7), .ref (md 8), .ref (md 9), .ref (md 10), .ref (md 11), .int (nI on), .ref (md 13), .int (nI inn), .ref (md 15), .ref (md 16), .ref (md 17), .ref (md 18), .ref (md 19), .ref (md 20), .ref (md 21), .ref (md 22), .ref (md 23), .ref (md 24)])), (md 9, .inl (g.2.1 0, 1024, .inl (wr)))] [] H locs := hw
                                          have hw : WD g A s [(md 2, .inl (g.2.1 0, 64, .inl (se))), (md 23, .inl (g.2.1 0, 16, .inl (wd))), (md 24, .inl (g.2.1 0, 16, .inl (mx))), (md 4, .inl (g.2.1 0, 2, .inl (szF epn))), (md 6, .inl (g.2.1 2, 2, .inl (smf))), (md 7, .inl (g.2.1 1, 2, .inr (.inl (gtf)))), (md 8, .inl (g.2.1 2, 128, .inl (shM snf 64 64 k9))), (md 13, .inl (g.2.1 0, 96, .inl (ibf))), (md 10, .inl (g.2.1 0, 8, .inl (szF z))), (md 17, .inl (g.2.1 0, 400, .inl (r2_20))), (md 16, .inl (g.2.1 0, 64, .inl (w2_21))), (md 15, .inl (g.2.1 0, 8, .inl (s2_22))), (md 22, .inl (g.2.1 0, 64, .inl (kRW))), (md 18, .inl (g.2.1 0, 32, .inl (hmv tk (f k) (15 + ln)))), (md 19, .inl (g.2.1 0, 32, .inl (k2_23))), (md 21, .inl (g.2.1 0, 160, .inl (m2_24))), (md 3, .inl (g.2.1 0, 64, .inl (te))), (md 25, .inr (7, [.ref (md 0), .int (nI op), .ref (md 2), .ref (md 3), .ref (md 4), .ref (md 5), .ref (md 6), .ref (md 7), .ref (md 8), .ref (md 9), .ref (md 10), .ref (md 11), .int (nI on), .ref (md 13), .int (nI inn), .ref (md 15), .ref (md 16), .ref (md 17), .ref (md 18), .ref (md 19), .ref (md 20), .ref (md 21), .ref (md 22), .ref (md 23), .ref (md 24)])), (md 9, .inl (g.2.1 0, 1024, .inl (wr)))] [] H locs := by rw [← shM_up snf 64 64 k9 (by omega), if_neg (by omega)]; exact hw
                                          refine lv_iinc (v := nP k9) (lv' := [(13, .int (nP k9)), (14, .int (nI 0)), (0, .ref (md 25)), (1, .int (nI k)), (3, .int (nI (128 * k))), (4, .int (nI 1)), (5, .int (nI ln)), (6, .long (nAt (f k) 5 8)), (11, .long ((nAt (f k) 5 8) - gtf 1))]) hx hb dX7_deliver_367 hl (k := 1) rfl (rfl) (by decide) rfl (fun ls hl => ?_)
                                          refine lv_goto (tgt := 282) hx hb dX7_deliver_370 (by decide) ?_
                                          exact ih k9 (by omega) (by omega) _ _ _ hw (lv_sub hl [0, 2, 3, 4, 5, 6, 7, 8] rfl)
                                        · skip
                                          rw [← nI_0] at c72
                                          have c72 : ¬ 0 = 0 := fun q => c72 (((nI_eq (by omega) (by omega)).mpr q))
                                          exfalso; omega
                                      · skip
                                        have g2_ := c71
                                        refine lv_lload hx hb dX7_deliver_297 (lv_at hl 7 rfl) ?_
                                        refine lv_ldc2 hx hb hown k227 dX7_deliver_299 ?_
                                        refine r_calli (wr := [(md 2, .inl (g.2.1 0, 64, .inl (se))), (md 23, .inl (g.2.1 0, 16, .inl (wd))), (md 24, .inl (g.2.1 0, 16, .inl (mx))), (md 4, .inl (g.2.1 0, 2, .inl (szF epn))), (md 6, .inl (g.2.1 2, 2, .inl (smf))), (md 7, .inl (g.2.1 1, 2, .inr (.inl (gtf)))), (md 8, .inl (g.2.1 2, 128, .inl (shM snf 64 64 (k9 + 1)))), (md 13, .inl (g.2.1 0, 96, .inl (ibf))), (md 10, .inl (g.2.1 0, 8, .inl (szF z))), (md 17, .inl (g.2.1 0, 400, .inl (r2_20))), (md 16, .inl (g.2.1 0, 64, .inl (w2_21))), (md 15, .inl (g.2.1 0, 8, .inl (s2_22))), (md 22, .inl (g.2.1 0, 64, .inl (kRW))), (md 18, .inl (g.2.1 0, 32, .inl (hmv tk (f k) (15 + ln)))), (md 19, .inl (g.2.1 0, 32, .inl (k2_23))), (md 21, .inl (g.2.1 0, 160, .inl (m2_24))), (md 3, .inl (g.2.1 0, 64, .inl (te))), (md 25, .inr (7, [.ref (md 0), .int (nI op), .ref (md 2), .ref (md 3), .ref (md 4), .ref (md 5), .ref (md 6), .ref (md 7), .ref (md 8), .ref (md 9), .ref (md 10), .ref (md 11), .int (nI on), .ref (md 13), .int (nI inn), .ref (md 15), .ref (md 16), .ref (md 17), .ref (md 18), .ref (md 19), .ref (md 20), .ref (md 21), .ref (md 22), .ref (md 23), .ref (md 24)])), (md 9, .inl (g.2.1 0, 1024, .inl (wr)))]) [] [0, 1, 2, 3, 4, 5, 6, 7, 8, 9, 10, 11, 12, 13, 14, 15, 16, 17, 18] h0 hw rfl rfl (by decide) (by decide) (va_runS (As := [.long ((nAt (f k) 5 8) - gtf 1), .long (64)]) (rest := []) ⟨hx, hb, hml, hown, hts⟩ (c_X7_isBelow l g ((nAt (f k) 5 8) - gtf 1) 64  _) (va_cwS 2 hts gX7_deliver_X7_isBelow rfl rfl rfl (by decide +kernel) ⟨Nat.le_of_ble_eq_true rfl, Nat.le_of_ble_eq_true rfl⟩) (preS_of [] [.long ((nAt (f k) 5 8) - gtf 1), .long (64)] h0 hw rfl (by decide)) rfl rfl hl.1 rfl (lv_room (Nat.le_of_ble_eq_true rfl)) dX7_deliver_302 ⟨Nat.le_of_ble_eq_true rfl, Nat.le_of_ble_eq_true rfl⟩) (fun r73 u74 H locs hp75 hw => ?_)
                                        have hw : WD g A s [(md 2, .inl (g.2.1 0, 64, .inl (se))), (md 23, .inl (g.2.1 0, 16, .inl (wd))), (md 24, .inl (g.2.1 0, 16, .inl (mx))), (md 4, .inl (g.2.1 0, 2, .inl (szF epn))), (md 6, .inl (g.2.1 2, 2, .inl (smf))), (md 7, .inl (g.2.1 1, 2, .inr (.inl (gtf)))), (md 8, .inl (g.2.1 2, 128, .inl (shM snf 64 64 (k9 + 1)))), (md 13, .inl (g.2.1 0, 96, .inl (ibf))), (md 10, .inl (g.2.1 0, 8, .inl (szF z))), (md 17, .inl (g.2.1 0, 400, .inl (r2_20))), (md 16, .inl (g.2.1 0, 64, .inl (w2_21))), (md 15, .inl (g.2.1 0, 8, .inl (s2_22))), (md 22, .inl (g.2.1 0, 64, .inl (kRW))), (md 18, .inl (g.2.1 0, 32, .inl (hmv tk (f k) (15 + ln)))), (md 19, .inl (g.2.1 0, 32, .inl (k2_23))), (md 21, .inl (g.2.1 0, 160, .inl (m2_24))), (md 3, .inl (g.2.1 0, 64, .inl (te))), (md 25, .inr (7, [.ref (md 0), .int (nI op), .ref (md 2), .ref (md 3), .ref (md 4), .ref (md 5), .ref (md 6), .ref (md 7), .ref (md 8), .ref (md 9), .ref (md 10), .ref (md 11), .int (nI on), .ref (md 13), .int (nI inn), .ref (md 15), .ref (md 16), .ref (md 17), .ref (md 18), .ref (md 19), .ref (md 20), .ref (md 21), .ref (md 22), .ref (md 23), .ref (md 24)])), (md 9, .inl (g.2.1 0, 1024, .inl (wr)))] [] H locs := hw
                                        subst hp75
                                        refine lv_if_eq (tgt := 321) hx hb dX7_deliver_305 (by decide) (fun c76 => ?_) (fun c76 => ?_)
                                        · skip
                                          have c76 : ¬ (lowU ((nAt (f k) 5 8) - gtf 1) 64) := bI_f c76
                                          refine lv_iconst (v := nI 0) hx hb dX7_deliver_321 (by decide +kernel) ?_
                                          refine lv_istore (lv' := [(14, .int (nI 0)), (13, .int (nI k9)), (0, .ref (md 25)), (1, .int (nI k)), (3, .int (nI (128 * k))), (4, .int (nI 1)), (5, .int (nI ln)), (6, .long (nAt (f k) 5 8)), (11, .long ((nAt (f k) 5 8) - gtf 1))]) hx hb dX7_deliver_322 hl (by decide) rfl (fun ls hl => ?_)
                                          refine lv_aload_n hx hb dX7_deliver_324 rfl (lv_at hl 2 rfl) ?_
                                          refine r_get (ci := 7) (v := .ref (md 8)) (C := RX7) (T := TX7) (N := 25) hx hb hts hinX7 hown h0 hw 17 rfl rfl 8 (by decide) k33 rfl dX7_deliver_325 ?_
                                          refine lv_bipush (v := nI 64) hx hb dX7_deliver_328 (by decide +kernel) ?_
                                          refine lv_iload hx hb dX7_deliver_330 (lv_at hl 5 rfl) ?_
                                          refine lv_imul hx hb dX7_deliver_332 ?_
                                          refine r_te (y := nI 64) (pk_mul 64 1) ?_
                                          refine lv_iload hx hb dX7_deliver_333 (lv_at hl 1 rfl) ?_
                                          refine lv_iadd hx hb dX7_deliver_335 ?_
                                          refine r_te (y := nI (64 + k9)) (nI_add 64 k9) ?_
                                          refine lv_iload hx hb dX7_deliver_336 (lv_at hl 0 rfl) ?_
                                          refine lv_if_eq (tgt := 365) hx hb dX7_deliver_338 (by decide) (fun c77 => ?_) (fun c77 => ?_)
                                          · skip
                                            rw [← nI_0] at c77
                                            have c77 : 0 = 0 := (nI_eq (by omega) (by omega)).mp c77
                                            refine lv_iconst (v := nI 0) hx hb dX7_deliver_365 (by decide +kernel) ?_
                                            refine r_zast hx hb h0 hw 6 rfl (i := 64 + k9) (by decide +kernel) (by omega) (by omega) dX7_deliver_366 (fun H locs hw => ?_)
                                            have hw : WD g A s [(md 2, .inl (g.2.1 0, 64, .inl (se))), (md 23, .inl (g.2.1 0, 16, .inl (wd))), (md 24, .inl (g.2.1 0, 16, .inl (mx))), (md 4, .inl (g.2.1 0, 2, .inl (szF epn))), (md 6, .inl (g.2.1 2, 2, .inl (smf))), (md 7, .inl (g.2.1 1, 2, .inr (.inl (gtf)))), (md 8, .inl (g.2.1 2, 128, .inl (upd (shM snf 64 64 (k9 + 1)) (64 + k9) (nI 0)))), (md 13, .inl (g.2.1 0, 96, .inl (ibf))), (md 10, .inl (g.2.1 0, 8, .inl (szF z))), (md 17, .inl (g.2.1 0, 400, .inl (r2_20))), (md 16, .inl (g.2.1 0, 64, .inl (w2_21))), (md 15, .inl (g.2.1 0, 8, .inl (s2_22))), (md 22, .inl (g.2.1 0, 64, .inl (kRW))), (md 18, .inl (g.2.1 0, 32, .inl (hmv tk (f k) (15 + ln)))), (md 19, .inl (g.2.1 0, 32, .inl (k2_23))), (md 21, .inl (g.2.1 0, 160, .inl (m2_24))), (md 3, .inl (g.2.1 0, 64, .inl (te))), (md 25, .inr (7, [.ref (md 0), .int (nI op), .ref (md 2), .ref (md 3), .ref (md 4), .ref (md 5), .ref (md 6), .ref (md 7), .ref (md 8), .ref (md 9), .ref (md 10), .ref (md 11), .int (nI on), .ref (md 13), .int (nI inn), .ref (md 15), .ref (md 16), .ref (md 17), .ref (md 18), .ref (md 19), .ref (md 20), .ref (md 21), .ref (md 22), .ref (md 23), .ref (md 24)])), (md 9, .inl (g.2.1 0, 1024, .inl (wr)))] [] H locs := hw
                                            have hw : WD g A s [(md 2, .inl (g.2.1 0, 64, .inl (se))), (md 23, .inl (g.2.1 0, 16, .inl (wd))), (md 24, .inl (g.2.1 0, 16, .inl (mx))), (md 4, .inl (g.2.1 0, 2, .inl (szF epn))), (md 6, .inl (g.2.1 2, 2, .inl (smf))), (md 7, .inl (g.2.1 1, 2, .inr (.inl (gtf)))), (md 8, .inl (g.2.1 2, 128, .inl (shM snf 64 64 k9))), (md 13, .inl (g.2.1 0, 96, .inl (ibf))), (md 10, .inl (g.2.1 0, 8, .inl (szF z))), (md 17, .inl (g.2.1 0, 400, .inl (r2_20))), (md 16, .inl (g.2.1 0, 64, .inl (w2_21))), (md 15, .inl (g.2.1 0, 8, .inl (s2_22))), (md 22, .inl (g.2.1 0, 64, .inl (kRW))), (md 18, .inl (g.2.1 0, 32, .inl (hmv tk (f k) (15 + ln)))), (md 19, .inl (g.2.1 0, 32, .inl (k2_23))), (md 21, .inl (g.2.1 0, 160, .inl (m2_24))), (md 3, .inl (g.2.1 0, 64, .inl (te))), (md 25, .inr (7, [.ref (md 0), .int (nI op), .ref (md 2), .ref (md 3), .ref (md 4), .ref (md 5), .ref (md 6), .ref (md 7), .ref (md 8), .ref (md 9), .ref (md 10), .ref (md 11), .int (nI on), .ref (md 13), .int (nI inn), .ref (md 15), .ref (md 16), .ref (md 17), .ref (md 18), .ref (md 19), .ref (md 20), .ref (md 21), .ref (md 22), .ref (md 23), .ref (md 24)])), (md 9, .inl (g.2.1 0, 1024, .inl (wr)))] [] H locs := by rw [← shM_up snf 64 64 k9 (by omega), if_neg (by omega)]; exact hw
                                            refine lv_iinc (v := nP k9) (lv' := [(13, .int (nP k9)), (14, .int (nI 0)), (0, .ref (md 25)), (1, .int (nI k)), (3, .int (nI (128 * k))), (4, .int (nI 1)), (5, .int (nI ln)), (6, .long (nAt (f k) 5 8)), (11, .long ((nAt (f k) 5 8) - gtf 1))]) hx hb dX7_deliver_367 hl (k := 1) rfl (rfl) (by decide) rfl (fun ls hl => ?_)
                                            refine lv_goto (tgt := 282) hx hb dX7_deliver_370 (by decide) ?_
                                            exact ih k9 (by omega) (by omega) _ _ _ hw (lv_sub hl [0, 2, 3, 4, 5, 6, 7, 8] rfl)
                                          · skip
                                            rw [← nI_0] at c77
                                            have c77 : ¬ 0 = 0 := fun q => c77 (((nI_eq (by omega) (by omega)).mpr q))
                                            exfalso; omega
                                        · skip
                                          have c76 : lowU ((nAt (f k) 5 8) - gtf 1) 64 := bI_t c76
                                          exact absurd c76 (hno.resolve_left g2_)
                                rw [show nI 63 = nP 64 from (nP_succ 63).symm] at hl
                                have hw : WD g A s [(md 2, .inl (g.2.1 0, 64, .inl (se))), (md 23, .inl (g.2.1 0, 16, .inl (wd))), (md 24, .inl (g.2.1 0, 16, .inl (mx))), (md 4, .inl (g.2.1 0, 2, .inl (szF epn))), (md 6, .inl (g.2.1 2, 2, .inl (smf))), (md 7, .inl (g.2.1 1, 2, .inr (.inl (gtf)))), (md 8, .inl (g.2.1 2, 128, .inl (shM snf 64 64 64))), (md 13, .inl (g.2.1 0, 96, .inl (ibf))), (md 10, .inl (g.2.1 0, 8, .inl (szF z))), (md 17, .inl (g.2.1 0, 400, .inl (r2_20))), (md 16, .inl (g.2.1 0, 64, .inl (w2_21))), (md 15, .inl (g.2.1 0, 8, .inl (s2_22))), (md 22, .inl (g.2.1 0, 64, .inl (kRW))), (md 18, .inl (g.2.1 0, 32, .inl (hmv tk (f k) (15 + ln)))), (md 19, .inl (g.2.1 0, 32, .inl (k2_23))), (md 21, .inl (g.2.1 0, 160, .inl (m2_24))), (md 3, .inl (g.2.1 0, 64, .inl (te))), (md 25, .inr (7, [.ref (md 0), .int (nI op), .ref (md 2), .ref (md 3), .ref (md 4), .ref (md 5), .ref (md 6), .ref (md 7), .ref (md 8), .ref (md 9), .ref (md 10), .ref (md 11), .int (nI on), .ref (md 13), .int (nI inn), .ref (md 15), .ref (md 16), .ref (md 17), .ref (md 18), .ref (md 19), .ref (md 20), .ref (md 21), .ref (md 22), .ref (md 23), .ref (md 24)])), (md 9, .inl (g.2.1 0, 1024, .inl (wr)))] [] H locs := by rw [shM_64]; exact hw
                                exact lp282 (64 + 1) 64 (by omega) (by omega) _ _ _ hw (lv_sub hl [0, 5, 6, 7, 8, 9, 4, 1] rfl)
                            · skip
                              rw [← nI_0] at c58
                              have c58 : ¬ 0 = 0 := fun q => c58 (((nI_eq (by omega) (by omega)).mpr q))
                              exfalso; omega
                          · skip
                            rw [← nI_0] at c57
                            have c57 : ¬ 0 = 0 := fun q => c57 (((nI_eq (by omega) (by omega)).mpr q))
                            exfalso; omega
                        · skip
                          have c56 : ¬ (lowU (gtf 1) (nAt (f k) 5 8)) := bI_f c56
                          exact absurd (hnb.resolve_left g1) c56
                    · skip
                      have c25 : ¬ 16 ≤ q := fun q => c25 (((nI_leI (by omega) (by omega)).mpr q))
                      refine lv_aload_n hx hb dX7_deliver_130 rfl (lv_at hl 1 rfl) ?_
                      refine r_get (ci := 7) (v := .ref (md 9)) (C := RX7) (T := TX7) (N := 25) hx hb hts hinX7 hown h0 hw 9 rfl rfl 9 (by decide) k36 rfl dX7_deliver_131 ?_
                      refine lv_iload_n hx hb dX7_deliver_134 rfl (lv_at hl 3 rfl) ?_
                      refine lv_bipush (v := nI 15) hx hb dX7_deliver_135 (by decide +kernel) ?_
                      refine lv_iadd hx hb dX7_deliver_137 ?_
                      refine r_te (y := nI (128 * k + 15)) (nI_add (128 * k) 15) ?_
                      refine lv_iload hx hb dX7_deliver_138 (lv_at hl 5 rfl) ?_
                      refine lv_iadd hx hb dX7_deliver_140 ?_
                      refine r_te (y := nI (128 * k + 15 + ln)) (nI_add (128 * k + 15) ln) ?_
                      refine lv_iload hx hb dX7_deliver_141 (lv_at hl 0 rfl) ?_
                      refine lv_iadd hx hb dX7_deliver_143 ?_
                      refine r_te (y := nI (128 * k + 15 + ln + q)) (nI_add (128 * k + 15 + ln) q) ?_
                      refine r_iald hx hb h0 hw 18 rfl (i := 128 * k + 15 + ln + q) (by omega) (by omega) dX7_deliver_144 ?_
                      refine r_te (y := f k (15 + ln + q)) (by first | exact hwr (15 + ln + q) (by omega) | (have := hwr (15 + ln + q) (by omega); simpa [Nat.add_assoc] using this)) ?_
                      refine lv_aload_n hx hb dX7_deliver_145 rfl (lv_at hl 1 rfl) ?_
                      refine r_get (ci := 7) (v := .ref (md 18)) (C := RX7) (T := TX7) (N := 25) hx hb hts hinX7 hown h0 hw 9 rfl rfl 18 (by decide) k57 rfl dX7_deliver_146 ?_
                      refine lv_iload hx hb dX7_deliver_149 (lv_at hl 0 rfl) ?_
                      refine r_iald hx hb h0 hw 14 rfl (i := q) (by omega) (by omega) dX7_deliver_151 ?_
                      refine lv_icmp_eq (tgt := 157) hx hb dX7_deliver_152 (by decide) (fun c78 => ?_) (fun c78 => ?_)
                      · skip
                        have cE := c78
                        refine lv_iinc (v := nI (q + 1)) (lv' := [(6, .int (nI (q + 1))), (0, .ref (md 25)), (1, .int (nI k)), (3, .int (nI (128 * k))), (4, .int (nI 1)), (5, .int (nI ln))]) hx hb dX7_deliver_157 hl (k := 0) rfl (nI_add q 1) (by decide) rfl (fun ls hl => ?_)
                        refine lv_goto (tgt := 123) hx hb dX7_deliver_160 (by decide) ?_
                        exact ih (q + 1) (by omega) (by omega) (fun j hj => (Nat.lt_succ_iff_lt_or_eq.mp hj).elim (hv j) (fun q9 => by rw [q9]; exact cE)) _ _ _ hw (lv_sub hl [0, 1, 2, 3, 4, 5] rfl)
                      · skip
                        exact absurd (htag q (by omega)) c78
                exact lp123 (16 - 0 + 1) 0 (by omega) (by omega) (fun j hj => absurd hj (Nat.not_lt_zero j)) _ _ _ hw (lv_sub hl [0, 4, 5, 3, 2, 1] rfl)
              · skip
                have c16 : ¬ (nAt (f k) 1 4) = ((nI (epn 1)).toInt64) := fun q => c16 ((lg_cmp_eq _ _).mpr q)
                exact absurd he3 c16
            · skip
              have c12 : ¬ (z k) = (15 + ln + 16) := fun q => c12 (((nI_eq (by omega) (by omega)).mpr q))
              exfalso; omega
      · skip
        rw [← nI_0] at c6
        have c6 : op = 0 := (nI_eq (by omega) (by omega)).mp c6
        exfalso; omega
    · skip
      rw [← nI_0] at c5
      have c5 : ¬ 0 = 0 := fun q => c5 (((nI_eq (by omega) (by omega)).mpr q))
      exfalso; omega

set_option maxHeartbeats 4000000 in
set_option maxRecDepth 100000 in
theorem c_X7_deliver_0c1 (l : Launch) (g : GE) (md : Nat → Nat) (op : Nat) (on : Nat) (inn : Nat) (rf : Nat → Int32) (wf : Nat → Int32) (sf : Nat → Int32) (dg : Nat → Int32) (kf : Nat → Int32) (mf : Nat → Int32) (te : Nat → Int32) (wr : Nat → Int32) (se : Nat → Int32) (wd : Nat → Int32) (mx : Nat → Int32) (epn : Nat → Nat) (z : Nat → Nat) (smf : Nat → Int32) (gtf : Nat → Int64) (snf : Nat → Int32) (ibf : Nat → Int32) (f : Nat → Nat → Int32) (k : Nat) (ek : Nat → Int32) (tk : Nat → Int32) (ln : Nat) (bb : Nat) (hop : ¬ op = 0) (hop2 : op < 2) (hk : k < 8) (hz1 : 31 ≤ z k) (hz2 : z k ≤ 127) (hwr : ∀ j, j < z k → wr (128 * k + j) = f k j) (hb8 : ∀ j, j < z k → f k j = f k j &&& nI 255) (hs0 : f k 0 = nI 1) (hln : (nAt (f k) 13 2).toInt32 = nI ln) (hl1 : z k = 31 + ln) (hl2 : ln ≤ 96) (he3 : nAt (f k) 1 4 = (nI (epn 1)).toInt64) (htk : EqB 32 (shf te (32 * 1)) tk) (hek : EqB 32 (shf se (32 * 1)) ek) (htag : tagOK (f k) (hmv tk (f k) (15 + ln)) (15 + ln)) (hsm : ¬ smf 1 = 0) (hlow : lowU (gtf 1) (nAt (f k) 5 8)) (hby : lowU ((nAt (f k) 5 8) - gtf 1) 64) (hbb : (nAt (f k) 5 8) - gtf 1 = lN bb) (hb64 : bb < 64) (sz : Nat) : MI l yX7_deliver wsX7_deliver { frames := 5, cells := 0, slots := 0, locals := 123 } g [.ref (md 25), .int (nI k), .int (nI 0)] [(md 25, .inr (7, [.ref (md 0), .int (nI op), .ref (md 2), .ref (md 3), .ref (md 4), .ref (md 5), .ref (md 6), .ref (md 7), .ref (md 8), .ref (md 9), .ref (md 10), .ref (md 11), .int (nI on), .ref (md 13), .int (nI inn), .ref (md 15), .ref (md 16), .ref (md 17), .ref (md 18), .ref (md 19), .ref (md 20), .ref (md 21), .ref (md 22), .ref (md 23), .ref (md 24)])), (md 17, .inl (g.2.1 0, 400, .inl (rf))), (md 16, .inl (g.2.1 0, 64, .inl (wf))), (md 15, .inl (g.2.1 0, 8, .inl (sf))), (md 22, .inl (g.2.1 0, 64, .inl (kRW))), (md 18, .inl (g.2.1 0, 32, .inl (dg))), (md 19, .inl (g.2.1 0, 32, .inl (kf))), (md 21, .inl (g.2.1 0, 160, .inl (mf))), (md 3, .inl (g.2.1 0, 64, .inl (te))), (md 9, .inl (g.2.1 0, 1024, .inl (wr))), (md 2, .inl (g.2.1 0, 64, .inl (se))), (md 23, .inl (g.2.1 0, 16, .inl (wd))), (md 24, .inl (g.2.1 0, 16, .inl (mx))), (md 4, .inl (g.2.1 0, 2, .inl (szF epn))), (md 10, .inl (g.2.1 0, 8, .inl (szF z))), (md 6, .inl (g.2.1 2, 2, .inl (smf))), (md 7, .inl (g.2.1 1, 2, .inr (.inl (gtf)))), (md 8, .inl (g.2.1 2, 128, .inl (snf))), (md 13, .inl (g.2.1 0, 96, .inl (ibf)))] sz (fun (r : Int32) (u : (Nat → Int32) × (Nat → Int32) × (Nat → Int32) × (Nat → Int32) × (Nat → Int32) × (Nat → Int32) × (Nat → Int32) × (Nat → Int32)) => r = nI 0) (fun (u : (Nat → Int32) × (Nat → Int32) × (Nat → Int32) × (Nat → Int32) × (Nat → Int32) × (Nat → Int32) × (Nat → Int32) × (Nat → Int32)) => [(md 25, .inr (7, [.ref (md 0), .int (nI op), .ref (md 2), .ref (md 3), .ref (md 4), .ref (md 5), .ref (md 6), .ref (md 7), .ref (md 8), .ref (md 9), .ref (md 10), .ref (md 11), .int (nI on), .ref (md 13), .int (nI ln), .ref (md 15), .ref (md 16), .ref (md 17), .ref (md 18), .ref (md 19), .ref (md 20), .ref (md 21), .ref (md 22), .ref (md 23), .ref (md 24)])), (md 17, .inl (g.2.1 0, 400, .inl (u.1))), (md 16, .inl (g.2.1 0, 64, .inl (u.2.1))), (md 15, .inl (g.2.1 0, 8, .inl (u.2.2.1))), (md 22, .inl (g.2.1 0, 64, .inl (kRW))), (md 18, .inl (g.2.1 0, 32, .inl (u.2.2.2.1))), (md 19, .inl (g.2.1 0, 32, .inl (u.2.2.2.2.1))), (md 21, .inl (g.2.1 0, 160, .inl (u.2.2.2.2.2.1))), (md 3, .inl (g.2.1 0, 64, .inl (te))), (md 9, .inl (g.2.1 0, 1024, .inl (wr))), (md 2, .inl (g.2.1 0, 64, .inl (se))), (md 23, .inl (g.2.1 0, 16, .inl (u.2.2.2.2.2.2.1))), (md 24, .inl (g.2.1 0, 16, .inl (u.2.2.2.2.2.2.2))), (md 4, .inl (g.2.1 0, 2, .inl (szF epn))), (md 10, .inl (g.2.1 0, 8, .inl (szF z))), (md 6, .inl (g.2.1 2, 2, .inl (upd smf 1 (nI 1)))), (md 7, .inl (g.2.1 1, 2, .inr (.inl (vp_updL gtf 1 (nAt (f k) 5 8))))), (md 8, .inl (g.2.1 2, 128, .inl (upd (shM snf 64 bb 0) (64 + 0) (nI 1)))), (md 13, .inl (g.2.1 0, 96, .inl (rdF ibf (f k) ek ln)))]) 0 0 := by
  refine enterI (by decide) rfl (Nat.le_of_ble_eq_true rfl) ?_
  intro p e s m below meth c A ls ar Q hE h0 hret hw hl
  obtain ⟨hx, hb, hr, hml, hown, hts, hlocks, hname⟩ := hE
  have hown : s.vm.findClass RX7 = some m.cls := hown
  have hw : WD g A s [(md 25, .inr (7, [.ref (md 0), .int (nI op), .ref (md 2), .ref (md 3), .ref (md 4), .ref (md 5), .ref (md 6), .ref (md 7), .ref (md 8), .ref (md 9), .ref (md 10), .ref (md 11), .int (nI on), .ref (md 13), .int (nI inn), .ref (md 15), .ref (md 16), .ref (md 17), .ref (md 18), .ref (md 19), .ref (md 20), .ref (md 21), .ref (md 22), .ref (md 23), .ref (md 24)])), (md 17, .inl (g.2.1 0, 400, .inl (rf))), (md 16, .inl (g.2.1 0, 64, .inl (wf))), (md 15, .inl (g.2.1 0, 8, .inl (sf))), (md 22, .inl (g.2.1 0, 64, .inl (kRW))), (md 18, .inl (g.2.1 0, 32, .inl (dg))), (md 19, .inl (g.2.1 0, 32, .inl (kf))), (md 21, .inl (g.2.1 0, 160, .inl (mf))), (md 3, .inl (g.2.1 0, 64, .inl (te))), (md 9, .inl (g.2.1 0, 1024, .inl (wr))), (md 2, .inl (g.2.1 0, 64, .inl (se))), (md 23, .inl (g.2.1 0, 16, .inl (wd))), (md 24, .inl (g.2.1 0, 16, .inl (mx))), (md 4, .inl (g.2.1 0, 2, .inl (szF epn))), (md 10, .inl (g.2.1 0, 8, .inl (szF z))), (md 6, .inl (g.2.1 2, 2, .inl (smf))), (md 7, .inl (g.2.1 1, 2, .inr (.inl (gtf)))), (md 8, .inl (g.2.1 2, 128, .inl (snf))), (md 13, .inl (g.2.1 0, 96, .inl (ibf)))] [] s.heap [] := hw
  have hinX7 : ∀ w ∈ u_ws RX7 TX7 25, w ∈ wsX7_deliver := by decide +kernel
  have k19 := hts (.fieldLink RX7 19 "RecordWireModel" "epochs" "[I") (by decide +kernel)
  have k26 := hts (.fieldLink RX7 26 "RecordWireModel" "some" "[Z") (by decide +kernel)
  have k30 := hts (.fieldLink RX7 30 "RecordWireModel" "greatest" "[J") (by decide +kernel)
  have k33 := hts (.fieldLink RX7 33 "RecordWireModel" "seen" "[Z") (by decide +kernel)
  have k36 := hts (.fieldLink RX7 36 "RecordWireModel" "wire" "[I") (by decide +kernel)
  have k39 := hts (.fieldLink RX7 39 "RecordWireModel" "sizes" "[I") (by decide +kernel)
  have k45 := hts (.fieldLink RX7 45 "RecordWireModel" "inbox" "[I") (by decide +kernel)
  have k57 := hts (.fieldLink RX7 57 "RecordWireModel" "digest" "[I") (by decide +kernel)
  have k145 := hts (.fieldLink RX7 145 "RecordWireModel" "isOpen" "Z") (by decide +kernel)
  have k153 := hts (.fieldLink RX7 153 "RecordWireModel" "inSize" "I") (by decide +kernel)
  have k227 := hts (.constantLong RX7 227 (64)) (by decide +kernel)
  have h5 : kwd (shf wr (128 * k)) 5 = kwd (f k) 5 := kwd_eq (hwr 5 (by omega)) (hwr 6 (by omega)) (hwr 7 (by omega)) (hwr 8 (by omega))
  have h9 : kwd (shf wr (128 * k)) 9 = kwd (f k) 9 := kwd_eq (hwr 9 (by omega)) (hwr 10 (by omega)) (hwr 11 (by omega)) (hwr 12 (by omega))
  have hl : lv_has ls 15 [(0, .ref (md 25)), (1, .int (nI k)), (2, .int (nI 0))] := hl
  refine lv_aload_n hx hb dX7_deliver_0 rfl (lv_at hl 0 rfl) ?_
  refine lv_iload_n hx hb dX7_deliver_1 rfl (lv_at hl 1 rfl) ?_
  refine r_calli (wr := [(md 17, .inl (g.2.1 0, 400, .inl (rf))), (md 16, .inl (g.2.1 0, 64, .inl (wf))), (md 15, .inl (g.2.1 0, 8, .inl (sf))), (md 22, .inl (g.2.1 0, 64, .inl (kRW))), (md 18, .inl (g.2.1 0, 32, .inl (dg))), (md 19, .inl (g.2.1 0, 32, .inl (kf))), (md 21, .inl (g.2.1 0, 160, .inl (mf))), (md 3, .inl (g.2.1 0, 64, .inl (te))), (md 9, .inl (g.2.1 0, 1024, .inl (wr))), (md 2, .inl (g.2.1 0, 64, .inl (se))), (md 23, .inl (g.2.1 0, 16, .inl (wd))), (md 24, .inl (g.2.1 0, 16, .inl (mx))), (md 4, .inl (g.2.1 0, 2, .inl (szF epn))), (md 6, .inl (g.2.1 2, 2, .inl (smf))), (md 7, .inl (g.2.1 1, 2, .inr (.inl (gtf)))), (md 8, .inl (g.2.1 2, 128, .inl (snf))), (md 13, .inl (g.2.1 0, 96, .inl (ibf)))]) [0, 14] [1, 2, 3, 4, 5, 6, 7, 8, 9, 10, 11, 12, 13, 15, 16, 17, 18] h0 hw rfl rfl (by decide) (by decide) (va_runV (As := [.int (nI k)]) (rest := []) ⟨hx, hb, hml, hown, hts⟩ (c_X7_isSlot l g md op on inn z k (by omega) (by omega) _) (cwV 1 hts gX7_deliver_X7_isSlot rfl rfl rfl (by decide +kernel) ⟨Nat.le_of_ble_eq_true rfl, Nat.le_of_ble_eq_true rfl⟩) (preV_of [0, 14] [.int (nI k)] h0 hw rfl (by decide) 0 7 rfl rfl) rfl rfl hl.1 rfl (lv_room (Nat.le_of_ble_eq_true rfl)) dX7_deliver_2 ⟨Nat.le_of_ble_eq_true rfl, Nat.le_of_ble_eq_true rfl⟩) (fun r1 u2 H locs hp3 hw => ?_)
  have hw : WD g A s [(md 17, .inl (g.2.1 0, 400, .inl (rf))), (md 16, .inl (g.2.1 0, 64, .inl (wf))), (md 15, .inl (g.2.1 0, 8, .inl (sf))), (md 22, .inl (g.2.1 0, 64, .inl (kRW))), (md 18, .inl (g.2.1 0, 32, .inl (dg))), (md 19, .inl (g.2.1 0, 32, .inl (kf))), (md 21, .inl (g.2.1 0, 160, .inl (mf))), (md 3, .inl (g.2.1 0, 64, .inl (te))), (md 9, .inl (g.2.1 0, 1024, .inl (wr))), (md 2, .inl (g.2.1 0, 64, .inl (se))), (md 23, .inl (g.2.1 0, 16, .inl (wd))), (md 24, .inl (g.2.1 0, 16, .inl (mx))), (md 4, .inl (g.2.1 0, 2, .inl (szF epn))), (md 6, .inl (g.2.1 2, 2, .inl (smf))), (md 7, .inl (g.2.1 1, 2, .inr (.inl (gtf)))), (md 8, .inl (g.2.1 2, 128, .inl (snf))), (md 13, .inl (g.2.1 0, 96, .inl (ibf))), (md 25, .inr (7, [.ref (md 0), .int (nI op), .ref (md 2), .ref (md 3), .ref (md 4), .ref (md 5), .ref (md 6), .ref (md 7), .ref (md 8), .ref (md 9), .ref (md 10), .ref (md 11), .int (nI on), .ref (md 13), .int (nI inn), .ref (md 15), .ref (md 16), .ref (md 17), .ref (md 18), .ref (md 19), .ref (md 20), .ref (md 21), .ref (md 22), .ref (md 23), .ref (md 24)])), (md 10, .inl (g.2.1 0, 8, .inl (szF z)))] [] H locs := hw
  subst hp3
  refine lv_if_eq (tgt := 24) hx hb dX7_deliver_5 (by decide) (fun c4 => ?_) (fun c4 => ?_)
  · skip
    have c4 : ¬ (¬ z k = 0) := bI_f c4
    exact absurd (by omega) c4
  · skip
    have c4 : ¬ z k = 0 := bI_t c4
    refine lv_iload_n hx hb dX7_deliver_8 rfl (lv_at hl 2 rfl) ?_
    refine lv_if_eq (tgt := 17) hx hb dX7_deliver_9 (by decide) (fun c5 => ?_) (fun c5 => ?_)
    · skip
      rw [← nI_0] at c5
      have c5 : 0 = 0 := (nI_eq (by omega) (by omega)).mp c5
      refine lv_aload_n hx hb dX7_deliver_17 rfl (lv_at hl 0 rfl) ?_
      refine r_get (ci := 7) (v := .int (nI op)) (C := RX7) (T := TX7) (N := 25) hx hb hts hinX7 hown h0 hw 17 rfl rfl 1 (by decide) k145 rfl dX7_deliver_18 ?_
      refine lv_if_ne (tgt := 26) hx hb dX7_deliver_21 (by decide) (fun c6 => ?_) (fun c6 => ?_)
      · skip
        rw [← nI_0] at c6
        have c6 : ¬ op = 0 := fun q => c6 (((nI_eq (by omega) (by omega)).mpr q))
        refine lv_sipush (v := nI 128) hx hb dX7_deliver_26 (by decide +kernel) ?_
        refine lv_iload_n hx hb dX7_deliver_29 rfl (lv_at hl 1 rfl) ?_
        refine lv_imul hx hb dX7_deliver_30 ?_
        refine r_te (y := nI (128 * k)) (pk_mul 128 k) ?_
        refine lv_istore_n (lv' := [(3, .int (nI (128 * k))), (0, .ref (md 25)), (1, .int (nI k)), (2, .int (nI 0))]) hx hb dX7_deliver_31 rfl hl (by decide) rfl (fun ls hl => ?_)
        refine lv_iconst (v := nI 1) hx hb dX7_deliver_32 (by decide +kernel) ?_
        refine lv_iload_n hx hb dX7_deliver_33 rfl (lv_at hl 3 rfl) ?_
        refine lv_isub hx hb dX7_deliver_34 ?_
        refine r_te (y := nI 1) (pk_sub (by omega)) ?_
        refine lv_istore (lv' := [(4, .int (nI 1)), (3, .int (nI (128 * k))), (0, .ref (md 25)), (1, .int (nI k)), (2, .int (nI 0))]) hx hb dX7_deliver_35 hl (by decide) rfl (fun ls hl => ?_)
        refine lv_aload_n hx hb dX7_deliver_37 rfl (lv_at hl 2 rfl) ?_
        refine lv_iload_n hx hb dX7_deliver_38 rfl (lv_at hl 1 rfl) ?_
        refine lv_bipush (v := nI 13) hx hb dX7_deliver_39 (by decide +kernel) ?_
        refine lv_iadd hx hb dX7_deliver_41 ?_
        refine r_te (y := nI (128 * k + 13)) (nI_add (128 * k) 13) ?_
        refine lv_iconst (v := nI 2) hx hb dX7_deliver_42 (by decide +kernel) ?_
        refine r_calll (wr := [(md 17, .inl (g.2.1 0, 400, .inl (rf))), (md 16, .inl (g.2.1 0, 64, .inl (wf))), (md 15, .inl (g.2.1 0, 8, .inl (sf))), (md 22, .inl (g.2.1 0, 64, .inl (kRW))), (md 18, .inl (g.2.1 0, 32, .inl (dg))), (md 19, .inl (g.2.1 0, 32, .inl (kf))), (md 21, .inl (g.2.1 0, 160, .inl (mf))), (md 3, .inl (g.2.1 0, 64, .inl (te))), (md 2, .inl (g.2.1 0, 64, .inl (se))), (md 23, .inl (g.2.1 0, 16, .inl (wd))), (md 24, .inl (g.2.1 0, 16, .inl (mx))), (md 4, .inl (g.2.1 0, 2, .inl (szF epn))), (md 6, .inl (g.2.1 2, 2, .inl (smf))), (md 7, .inl (g.2.1 1, 2, .inr (.inl (gtf)))), (md 8, .inl (g.2.1 2, 128, .inl (snf))), (md 13, .inl (g.2.1 0, 96, .inl (ibf))), (md 10, .inl (g.2.1 0, 8, .inl (szF z)))]) [17, 8] [0, 1, 2, 3, 4, 5, 6, 7, 9, 10, 11, 12, 13, 14, 15, 16, 18] h0 hw rfl rfl (by decide) (by decide) (va_runV (As := [.int (nI (128 * k + 13)), .int (nI 2)]) (rest := []) ⟨hx, hb, hml, hown, hts⟩ (c_X7_numberAt l g md op on inn wr (128 * k + 13) 2 (by omega) (fun j hj => by rw [Nat.add_assoc, hwr (13 + j) (by omega)]; exact hb8 (13 + j) (by omega)) _) (cwV 2 hts gX7_deliver_X7_numberAt rfl rfl rfl (by decide +kernel) ⟨Nat.le_of_ble_eq_true rfl, Nat.le_of_ble_eq_true rfl⟩) (preV_of [17, 8] [.int (nI (128 * k + 13)), .int (nI 2)] h0 hw rfl (by decide) 17 7 rfl rfl) rfl rfl hl.1 rfl (lv_room (Nat.le_of_ble_eq_true rfl)) dX7_deliver_43 ⟨Nat.le_of_ble_eq_true rfl, Nat.le_of_ble_eq_true rfl⟩) (fun r7 u8 H locs hp9 hw => ?_)
        have hw : WD g A s [(md 17, .inl (g.2.1 0, 400, .inl (rf))), (md 16, .inl (g.2.1 0, 64, .inl (wf))), (md 15, .inl (g.2.1 0, 8, .inl (sf))), (md 22, .inl (g.2.1 0, 64, .inl (kRW))), (md 18, .inl (g.2.1 0, 32, .inl (dg))), (md 19, .inl (g.2.1 0, 32, .inl (kf))), (md 21, .inl (g.2.1 0, 160, .inl (mf))), (md 3, .inl (g.2.1 0, 64, .inl (te))), (md 2, .inl (g.2.1 0, 64, .inl (se))), (md 23, .inl (g.2.1 0, 16, .inl (wd))), (md 24, .inl (g.2.1 0, 16, .inl (mx))), (md 4, .inl (g.2.1 0, 2, .inl (szF epn))), (md 6, .inl (g.2.1 2, 2, .inl (smf))), (md 7, .inl (g.2.1 1, 2, .inr (.inl (gtf)))), (md 8, .inl (g.2.1 2, 128, .inl (snf))), (md 13, .inl (g.2.1 0, 96, .inl (ibf))), (md 10, .inl (g.2.1 0, 8, .inl (szF z))), (md 25, .inr (7, [.ref (md 0), .int (nI op), .ref (md 2), .ref (md 3), .ref (md 4), .ref (md 5), .ref (md 6), .ref (md 7), .ref (md 8), .ref (md 9), .ref (md 10), .ref (md 11), .int (nI on), .ref (md 13), .int (nI inn), .ref (md 15), .ref (md 16), .ref (md 17), .ref (md 18), .ref (md 19), .ref (md 20), .ref (md 21), .ref (md 22), .ref (md 23), .ref (md 24)])), (md 9, .inl (g.2.1 0, 1024, .inl (wr)))] [] H locs := hw
        subst hp9
        refine r_tel (y := nAt (f k) 13 2) (nAt_eq 2 (fun j hj => by rw [Nat.add_assoc]; exact hwr (13 + j) (by omega))) ?_
        refine lv_l2i (v := (nAt (f k) 13 2).toInt32) hx hb dX7_deliver_46 rfl ?_
        refine r_te (y := nI ln) hln ?_
        refine lv_istore (lv' := [(5, .int (nI ln)), (4, .int (nI 1)), (3, .int (nI (128 * k))), (0, .ref (md 25)), (1, .int (nI k)), (2, .int (nI 0))]) hx hb dX7_deliver_47 hl (by decide) rfl (fun ls hl => ?_)
        refine lv_aload_n hx hb dX7_deliver_49 rfl (lv_at hl 3 rfl) ?_
        refine r_get (ci := 7) (v := .ref (md 9)) (C := RX7) (T := TX7) (N := 25) hx hb hts hinX7 hown h0 hw 17 rfl rfl 9 (by decide) k36 rfl dX7_deliver_50 ?_
        refine lv_iload_n hx hb dX7_deliver_53 rfl (lv_at hl 2 rfl) ?_
        refine r_iald hx hb h0 hw 18 rfl (i := 128 * k) (by omega) (by omega) dX7_deliver_54 ?_
        refine r_te (y := f k (0)) (by first | exact hwr (0) (by omega) | (have := hwr (0) (by omega); simpa [Nat.add_assoc] using this)) ?_
        refine lv_iload hx hb dX7_deliver_55 (lv_at hl 1 rfl) ?_
        refine lv_icmp_ne (tgt := 84) hx hb dX7_deliver_57 (by decide) (fun c10 => ?_) (fun c10 => ?_)
        · skip
          exact absurd hs0 c10
        · skip
          refine lv_iload hx hb dX7_deliver_60 (lv_at hl 0 rfl) ?_
          refine lv_bipush (v := nI 96) hx hb dX7_deliver_62 (by decide +kernel) ?_
          refine lv_icmp_gt (tgt := 84) hx hb dX7_deliver_64 (by decide) (fun c11 => ?_) (fun c11 => ?_)
          · skip
            have c11 : 96 < ln := (nI_ltI (by omega) (by omega)).mp c11
            exfalso; omega
          · skip
            have c11 : ¬ 96 < ln := fun q => c11 (((nI_ltI (by omega) (by omega)).mpr q))
            refine lv_aload_n hx hb dX7_deliver_67 rfl (lv_at hl 3 rfl) ?_
            refine r_get (ci := 7) (v := .ref (md 10)) (C := RX7) (T := TX7) (N := 25) hx hb hts hinX7 hown h0 hw 17 rfl rfl 10 (by decide) k39 rfl dX7_deliver_68 ?_
            refine lv_iload_n hx hb dX7_deliver_71 rfl (lv_at hl 4 rfl) ?_
            refine r_iald hx hb h0 hw 16 rfl (i := k) (by omega) (by omega) dX7_deliver_72 ?_
            refine r_te (y := nI (z k)) rfl ?_
            refine lv_bipush (v := nI 15) hx hb dX7_deliver_73 (by decide +kernel) ?_
            refine lv_iload hx hb dX7_deliver_75 (lv_at hl 0 rfl) ?_
            refine lv_iadd hx hb dX7_deliver_77 ?_
            refine r_te (y := nI (15 + ln)) (nI_add 15 ln) ?_
            refine lv_bipush (v := nI 16) hx hb dX7_deliver_78 (by decide +kernel) ?_
            refine lv_iadd hx hb dX7_deliver_80 ?_
            refine r_te (y := nI (15 + ln + 16)) (nI_add (15 + ln) 16) ?_
            refine lv_icmp_eq (tgt := 86) hx hb dX7_deliver_81 (by decide) (fun c12 => ?_) (fun c12 => ?_)
            · skip
              have c12 : (z k) = (15 + ln + 16) := (nI_eq (by omega) (by omega)).mp c12
              refine lv_aload_n hx hb dX7_deliver_86 rfl (lv_at hl 3 rfl) ?_
              refine lv_iload_n hx hb dX7_deliver_87 rfl (lv_at hl 2 rfl) ?_
              refine lv_iconst (v := nI 1) hx hb dX7_deliver_88 (by decide +kernel) ?_
              refine lv_iadd hx hb dX7_deliver_89 ?_
              refine r_te (y := nI (128 * k + 1)) (nI_add (128 * k) 1) ?_
              refine lv_iconst (v := nI 4) hx hb dX7_deliver_90 (by decide +kernel) ?_
              refine r_calll (wr := [(md 17, .inl (g.2.1 0, 400, .inl (rf))), (md 16, .inl (g.2.1 0, 64, .inl (wf))), (md 15, .inl (g.2.1 0, 8, .inl (sf))), (md 22, .inl (g.2.1 0, 64, .inl (kRW))), (md 18, .inl (g.2.1 0, 32, .inl (dg))), (md 19, .inl (g.2.1 0, 32, .inl (kf))), (md 21, .inl (g.2.1 0, 160, .inl (mf))), (md 3, .inl (g.2.1 0, 64, .inl (te))), (md 2, .inl (g.2.1 0, 64, .inl (se))), (md 23, .inl (g.2.1 0, 16, .inl (wd))), (md 24, .inl (g.2.1 0, 16, .inl (mx))), (md 4, .inl (g.2.1 0, 2, .inl (szF epn))), (md 6, .inl (g.2.1 2, 2, .inl (smf))), (md 7, .inl (g.2.1 1, 2, .inr (.inl (gtf)))), (md 8, .inl (g.2.1 2, 128, .inl (snf))), (md 13, .inl (g.2.1 0, 96, .inl (ibf))), (md 10, .inl (g.2.1 0, 8, .inl (szF z)))]) [17, 18] [0, 1, 2, 3, 4, 5, 6, 7, 8, 9, 10, 11, 12, 13, 14, 15, 16] h0 hw rfl rfl (by decide) (by decide) (va_runV (As := [.int (nI (128 * k + 1)), .int (nI 4)]) (rest := []) ⟨hx, hb, hml, hown, hts⟩ (c_X7_numberAt l g md op on inn wr (128 * k + 1) 4 (by omega) (fun j hj => by rw [Nat.add_assoc, hwr (1 + j) (by omega)]; exact hb8 (1 + j) (by omega)) _) (cwV 2 hts gX7_deliver_X7_numberAt rfl rfl rfl (by decide +kernel) ⟨Nat.le_of_ble_eq_true rfl, Nat.le_of_ble_eq_true rfl⟩) (preV_of [17, 18] [.int (nI (128 * k + 1)), .int (nI 4)] h0 hw rfl (by decide) 17 7 rfl rfl) rfl rfl hl.1 rfl (lv_room (Nat.le_of_ble_eq_true rfl)) dX7_deliver_91 ⟨Nat.le_of_ble_eq_true rfl, Nat.le_of_ble_eq_true rfl⟩) (fun r13 u14 H locs hp15 hw => ?_)
              have hw : WD g A s [(md 17, .inl (g.2.1 0, 400, .inl (rf))), (md 16, .inl (g.2.1 0, 64, .inl (wf))), (md 15, .inl (g.2.1 0, 8, .inl (sf))), (md 22, .inl (g.2.1 0, 64, .inl (kRW))), (md 18, .inl (g.2.1 0, 32, .inl (dg))), (md 19, .inl (g.2.1 0, 32, .inl (kf))), (md 21, .inl (g.2.1 0, 160, .inl (mf))), (md 3, .inl (g.2.1 0, 64, .inl (te))), (md 2, .inl (g.2.1 0, 64, .inl (se))), (md 23, .inl (g.2.1 0, 16, .inl (wd))), (md 24, .inl (g.2.1 0, 16, .inl (mx))), (md 4, .inl (g.2.1 0, 2, .inl (szF epn))), (md 6, .inl (g.2.1 2, 2, .inl (smf))), (md 7, .inl (g.2.1 1, 2, .inr (.inl (gtf)))), (md 8, .inl (g.2.1 2, 128, .inl (snf))), (md 13, .inl (g.2.1 0, 96, .inl (ibf))), (md 10, .inl (g.2.1 0, 8, .inl (szF z))), (md 25, .inr (7, [.ref (md 0), .int (nI op), .ref (md 2), .ref (md 3), .ref (md 4), .ref (md 5), .ref (md 6), .ref (md 7), .ref (md 8), .ref (md 9), .ref (md 10), .ref (md 11), .int (nI on), .ref (md 13), .int (nI inn), .ref (md 15), .ref (md 16), .ref (md 17), .ref (md 18), .ref (md 19), .ref (md 20), .ref (md 21), .ref (md 22), .ref (md 23), .ref (md 24)])), (md 9, .inl (g.2.1 0, 1024, .inl (wr)))] [] H locs := hw
              subst hp15
              refine r_tel (y := nAt (f k) 1 4) (nAt_eq 4 (fun j hj => by rw [Nat.add_assoc]; exact hwr (1 + j) (by omega))) ?_
              refine lv_aload_n hx hb dX7_deliver_94 rfl (lv_at hl 3 rfl) ?_
              refine r_get (ci := 7) (v := .ref (md 4)) (C := RX7) (T := TX7) (N := 25) hx hb hts hinX7 hown h0 hw 17 rfl rfl 4 (by decide) k19 rfl dX7_deliver_95 ?_
              refine lv_iload hx hb dX7_deliver_98 (lv_at hl 1 rfl) ?_
              refine r_iald hx hb h0 hw 11 rfl (i := 1) (by omega) (by omega) dX7_deliver_100 ?_
              refine r_te (y := nI (epn 1)) rfl ?_
              refine lv_i2l (v := (nI (epn 1)).toInt64) hx hb dX7_deliver_101 rfl ?_
              refine W.lcmp hx hb dX7_deliver_102 ?_
              refine lv_if_eq (tgt := 108) hx hb dX7_deliver_103 (by decide) (fun c16 => ?_) (fun c16 => ?_)
              · skip
                have c16 : (nAt (f k) 1 4) = ((nI (epn 1)).toInt64) := (lg_cmp_eq _ _).mp c16
                refine lv_aload_n hx hb dX7_deliver_108 rfl (lv_at hl 3 rfl) ?_
                refine lv_iload hx hb dX7_deliver_109 (lv_at hl 1 rfl) ?_
                refine lv_iload_n hx hb dX7_deliver_111 rfl (lv_at hl 4 rfl) ?_
                refine lv_bipush (v := nI 15) hx hb dX7_deliver_112 (by decide +kernel) ?_
                refine lv_iload hx hb dX7_deliver_114 (lv_at hl 0 rfl) ?_
                refine lv_iadd hx hb dX7_deliver_116 ?_
                refine r_te (y := nI (15 + ln)) (nI_add 15 ln) ?_
                refine r_callv (wr := [(md 2, .inl (g.2.1 0, 64, .inl (se))), (md 23, .inl (g.2.1 0, 16, .inl (wd))), (md 24, .inl (g.2.1 0, 16, .inl (mx))), (md 4, .inl (g.2.1 0, 2, .inl (szF epn))), (md 6, .inl (g.2.1 2, 2, .inl (smf))), (md 7, .inl (g.2.1 1, 2, .inr (.inl (gtf)))), (md 8, .inl (g.2.1 2, 128, .inl (snf))), (md 13, .inl (g.2.1 0, 96, .inl (ibf))), (md 10, .inl (g.2.1 0, 8, .inl (szF z)))]) [17, 0, 1, 2, 3, 4, 5, 6, 7, 18] [8, 9, 10, 11, 12, 13, 14, 15, 16] h0 hw rfl rfl (by decide) (by decide) (va_runV (As := [.int (nI 1), .int (nI k), .int (nI (15 + ln))]) (rest := []) ⟨hx, hb, hml, hown, hts⟩ (c_X7_tag l g md op on inn rf wf sf dg kf mf te wr 1 k (15 + ln) (by omega) (by omega) (by omega) _) (cwV 3 hts gX7_deliver_X7_tag rfl rfl rfl (by decide +kernel) ⟨Nat.le_of_ble_eq_true rfl, Nat.le_of_ble_eq_true rfl⟩) (preV_of [17, 0, 1, 2, 3, 4, 5, 6, 7, 18] [.int (nI 1), .int (nI k), .int (nI (15 + ln))] h0 hw rfl (by decide) 17 7 rfl rfl) rfl rfl hl.1 rfl (lv_room (Nat.le_of_ble_eq_true rfl)) dX7_deliver_117 ⟨Nat.le_of_ble_eq_true rfl, Nat.le_of_ble_eq_true rfl⟩) (fun u18 H locs hp19 hw => ?_)
                obtain ⟨r2_20, w2_21, s2_22, k2_23, m2_24⟩ := u18
                have hw : WD g A s [(md 2, .inl (g.2.1 0, 64, .inl (se))), (md 23, .inl (g.2.1 0, 16, .inl (wd))), (md 24, .inl (g.2.1 0, 16, .inl (mx))), (md 4, .inl (g.2.1 0, 2, .inl (szF epn))), (md 6, .inl (g.2.1 2, 2, .inl (smf))), (md 7, .inl (g.2.1 1, 2, .inr (.inl (gtf)))), (md 8, .inl (g.2.1 2, 128, .inl (snf))), (md 13, .inl (g.2.1 0, 96, .inl (ibf))), (md 10, .inl (g.2.1 0, 8, .inl (szF z))), (md 25, .inr (7, [.ref (md 0), .int (nI op), .ref (md 2), .ref (md 3), .ref (md 4), .ref (md 5), .ref (md 6), .ref (md 7), .ref (md 8), .ref (md 9), .ref (md 10), .ref (md 11), .int (nI on), .ref (md 13), .int (nI inn), .ref (md 15), .ref (md 16), .ref (md 17), .ref (md 18), .ref (md 19), .ref (md 20), .ref (md 21), .ref (md 22), .ref (md 23), .ref (md 24)])), (md 17, .inl (g.2.1 0, 400, .inl (r2_20))), (md 16, .inl (g.2.1 0, 64, .inl (w2_21))), (md 15, .inl (g.2.1 0, 8, .inl (s2_22))), (md 22, .inl (g.2.1 0, 64, .inl (kRW))), (md 18, .inl (g.2.1 0, 32, .inl (hmv (shf te (32 * 1)) (shf wr (128 * k)) (15 + ln)))), (md 19, .inl (g.2.1 0, 32, .inl (k2_23))), (md 21, .inl (g.2.1 0, 160, .inl (m2_24))), (md 3, .inl (g.2.1 0, 64, .inl (te))), (md 9, .inl (g.2.1 0, 1024, .inl (wr)))] [] H locs := hw
                have hw := hw.cong 14 rfl (f' := hmv tk (f k) (15 + ln)) (hmv_cong htk (fun j hj => hwr j (by omega)))
                have hw : WD g A s [(md 2, .inl (g.2.1 0, 64, .inl (se))), (md 23, .inl (g.2.1 0, 16, .inl (wd))), (md 24, .inl (g.2.1 0, 16, .inl (mx))), (md 4, .inl (g.2.1 0, 2, .inl (szF epn))), (md 6, .inl (g.2.1 2, 2, .inl (smf))), (md 7, .inl (g.2.1 1, 2, .inr (.inl (gtf)))), (md 8, .inl (g.2.1 2, 128, .inl (snf))), (md 13, .inl (g.2.1 0, 96, .inl (ibf))), (md 10, .inl (g.2.1 0, 8, .inl (szF z))), (md 25, .inr (7, [.ref (md 0), .int (nI op), .ref (md 2), .ref (md 3), .ref (md 4), .ref (md 5), .ref (md 6), .ref (md 7), .ref (md 8), .ref (md 9), .ref (md 10), .ref (md 11), .int (nI on), .ref (md 13), .int (nI inn), .ref (md 15), .ref (md 16), .ref (md 17), .ref (md 18), .ref (md 19), .ref (md 20), .ref (md 21), .ref (md 22), .ref (md 23), .ref (md 24)])), (md 17, .inl (g.2.1 0, 400, .inl (r2_20))), (md 16, .inl (g.2.1 0, 64, .inl (w2_21))), (md 15, .inl (g.2.1 0, 8, .inl (s2_22))), (md 22, .inl (g.2.1 0, 64, .inl (kRW))), (md 18, .inl (g.2.1 0, 32, .inl (hmv tk (f k) (15 + ln)))), (md 19, .inl (g.2.1 0, 32, .inl (k2_23))), (md 21, .inl (g.2.1 0, 160, .inl (m2_24))), (md 3, .inl (g.2.1 0, 64, .inl (te))), (md 9, .inl (g.2.1 0, 1024, .inl (wr)))] [] _ _ := hw
                refine lv_iconst (v := nI 0) hx hb dX7_deliver_120 (by decide +kernel) ?_
                refine lv_istore (lv' := [(6, .int (nI 0)), (5, .int (nI ln)), (4, .int (nI 1)), (3, .int (nI (128 * k))), (0, .ref (md 25)), (1, .int (nI k)), (2, .int (nI 0))]) hx hb dX7_deliver_121 hl (by decide) rfl (fun ls hl => ?_)
                have lp123 : ∀ (fu : Nat) (q : Nat), 16 - q < fu → (q ≤ 16) → (∀ j, j < q → f k (15 + ln + j) = hmv tk (f k) (15 + ln) j) → ∀ (H : Heap) (locs : List Loc) (ls : Array Slot), WD g A s [(md 2, .inl (g.2.1 0, 64, .inl (se))), (md 23, .inl (g.2.1 0, 16, .inl (wd))), (md 24, .inl (g.2.1 0, 16, .inl (mx))), (md 4, .inl (g.2.1 0, 2, .inl (szF epn))), (md 6, .inl (g.2.1 2, 2, .inl (smf))), (md 7, .inl (g.2.1 1, 2, .inr (.inl (gtf)))), (md 8, .inl (g.2.1 2, 128, .inl (snf))), (md 13, .inl (g.2.1 0, 96, .inl (ibf))), (md 10, .inl (g.2.1 0, 8, .inl (szF z))), (md 25, .inr (7, [.ref (md 0), .int (nI op), .ref (md 2), .ref (md 3), .ref (md 4), .ref (md 5), .ref (md 6), .ref (md 7), .ref (md 8), .ref (md 9), .ref (md 10), .ref (md 11), .int (nI on), .ref (md 13), .int (nI inn), .ref (md 15), .ref (md 16), .ref (md 17), .ref (md 18), .ref (md 19), .ref (md 20), .ref (md 21), .ref (md 22), .ref (md 23), .ref (md 24)])), (md 17, .inl (g.2.1 0, 400, .inl (r2_20))), (md 16, .inl (g.2.1 0, 64, .inl (w2_21))), (md 15, .inl (g.2.1 0, 8, .inl (s2_22))), (md 22, .inl (g.2.1 0, 64, .inl (kRW))), (md 18, .inl (g.2.1 0, 32, .inl (hmv tk (f k) (15 + ln)))), (md 19, .inl (g.2.1 0, 32, .inl (k2_23))), (md 21, .inl (g.2.1 0, 160, .inl (m2_24))), (md 3, .inl (g.2.1 0, 64, .inl (te))), (md 9, .inl (g.2.1 0, 1024, .inl (wr)))] [] H locs → lv_has ls 15 [(6, .int (nI q)), (0, .ref (md 25)), (1, .int (nI k)), (3, .int (nI (128 * k))), (4, .int (nI 1)), (5, .int (nI ln))] → W p l e { frames := 5, cells := 0, slots := 0, locals := 123 } s m ar below meth c H locs 0 0 Q (F0 m 123 ls []) := by
                  intro fu
                  induction fu with
                  | zero => intro q hmz; exact absurd hmz (Nat.not_lt_zero _)
                  | succ fu ih =>
                    intro q hms hq9 hv H locs ls hw hl
                    refine lv_iload hx hb dX7_deliver_123 (lv_at hl 0 rfl) ?_
                    refine lv_bipush (v := nI 16) hx hb dX7_deliver_125 (by decide +kernel) ?_
                    refine lv_icmp_ge (tgt := 163) hx hb dX7_deliver_127 (by decide) (fun c25 => ?_) (fun c25 => ?_)
                    · skip
                      have c25 : 16 ≤ q := (nI_leI (by omega) (by omega)).mp c25
                      have hq : q = 16 := by omega
                      have hwS26 := hw; have hlS27 := hl
                      subst q
                      have hw := hwS26; have hl := hlS27
                      refine lv_aload_n hx hb dX7_deliver_163 rfl (lv_at hl 1 rfl) ?_
                      refine lv_iload_n hx hb dX7_deliver_164 rfl (lv_at hl 3 rfl) ?_
                      refine lv_iconst (v := nI 5) hx hb dX7_deliver_165 (by decide +kernel) ?_
                      refine lv_iadd hx hb dX7_deliver_166 ?_
                      refine r_te (y := nI (128 * k + 5)) (nI_add (128 * k) 5) ?_
                      refine lv_bipush (v := nI 8) hx hb dX7_deliver_167 (by decide +kernel) ?_
                      refine r_calll (wr := [(md 2, .inl (g.2.1 0, 64, .inl (se))), (md 23, .inl (g.2.1 0, 16, .inl (wd))), (md 24, .inl (g.2.1 0, 16, .inl (mx))), (md 4, .inl (g.2.1 0, 2, .inl (szF epn))), (md 6, .inl (g.2.1 2, 2, .inl (smf))), (md 7, .inl (g.2.1 1, 2, .inr (.inl (gtf)))), (md 8, .inl (g.2.1 2, 128, .inl (snf))), (md 13, .inl (g.2.1 0, 96, .inl (ibf))), (md 10, .inl (g.2.1 0, 8, .inl (szF z))), (md 17, .inl (g.2.1 0, 400, .inl (r2_20))), (md 16, .inl (g.2.1 0, 64, .inl (w2_21))), (md 15, .inl (g.2.1 0, 8, .inl (s2_22))), (md 22, .inl (g.2.1 0, 64, .inl (kRW))), (md 18, .inl (g.2.1 0, 32, .inl (hmv tk (f k) (15 + ln)))), (md 19, .inl (g.2.1 0, 32, .inl (k2_23))), (md 21, .inl (g.2.1 0, 160, .inl (m2_24))), (md 3, .inl (g.2.1 0, 64, .inl (te)))]) [9, 18] [0, 1, 2, 3, 4, 5, 6, 7, 8, 10, 11, 12, 13, 14, 15, 16, 17] h0 hw rfl rfl (by decide) (by decide) (va_runV (As := [.int (nI (128 * k + 5)), .int (nI 8)]) (rest := []) ⟨hx, hb, hml, hown, hts⟩ (c_X7_numberAt l g md op on inn wr (128 * k + 5) 8 (by omega) (fun j hj => by rw [Nat.add_assoc, hwr (5 + j) (by omega)]; exact hb8 (5 + j) (by omega)) _) (cwV 2 hts gX7_deliver_X7_numberAt rfl rfl rfl (by decide +kernel) ⟨Nat.le_of_ble_eq_true rfl, Nat.le_of_ble_eq_true rfl⟩) (preV_of [9, 18] [.int (nI (128 * k + 5)), .int (nI 8)] h0 hw rfl (by decide) 9 7 rfl rfl) rfl rfl hl.1 rfl (lv_room (Nat.le_of_ble_eq_true rfl)) dX7_deliver_169 ⟨Nat.le_of_ble_eq_true rfl, Nat.le_of_ble_eq_true rfl⟩) (fun r28 u29 H locs hp30 hw => ?_)
                      have hw : WD g A s [(md 2, .inl (g.2.1 0, 64, .inl (se))), (md 23, .inl (g.2.1 0, 16, .inl (wd))), (md 24, .inl (g.2.1 0, 16, .inl (mx))), (md 4, .inl (g.2.1 0, 2, .inl (szF epn))), (md 6, .inl (g.2.1 2, 2, .inl (smf))), (md 7, .inl (g.2.1 1, 2, .inr (.inl (gtf)))), (md 8, .inl (g.2.1 2, 128, .inl (snf))), (md 13, .inl (g.2.1 0, 96, .inl (ibf))), (md 10, .inl (g.2.1 0, 8, .inl (szF z))), (md 17, .inl (g.2.1 0, 400, .inl (r2_20))), (md 16, .inl (g.2.1 0, 64, .inl (w2_21))), (md 15, .inl (g.2.1 0, 8, .inl (s2_22))), (md 22, .inl (g.2.1 0, 64, .inl (kRW))), (md 18, .inl (g.2.1 0, 32, .inl (hmv tk (f k) (15 + ln)))), (md 19, .inl (g.2.1 0, 32, .inl (k2_23))), (md 21, .inl (g.2.1 0, 160, .inl (m2_24))), (md 3, .inl (g.2.1 0, 64, .inl (te))), (md 25, .inr (7, [.ref (md 0), .int (nI op), .ref (md 2), .ref (md 3), .ref (md 4), .ref (md 5), .ref (md 6), .ref (md 7), .ref (md 8), .ref (md 9), .ref (md 10), .ref (md 11), .int (nI on), .ref (md 13), .int (nI inn), .ref (md 15), .ref (md 16), .ref (md 17), .ref (md 18), .ref (md 19), .ref (md 20), .ref (md 21), .ref (md 22), .ref (md 23), .ref (md 24)])), (md 9, .inl (g.2.1 0, 1024, .inl (wr)))] [] H locs := hw
                      subst hp30
                      refine r_tel (y := nAt (f k) 5 8) (nAt_eq 8 (fun j hj => by rw [Nat.add_assoc]; exact hwr (5 + j) (by omega))) ?_
                      refine lv_lstore (lv' := [(6, .long (nAt (f k) 5 8)), (0, .ref (md 25)), (1, .int (nI k)), (3, .int (nI (128 * k))), (4, .int (nI 1)), (5, .int (nI ln))]) hx hb dX7_deliver_172 hl (by decide) rfl (fun ls hl => ?_)
                      refine lv_aload_n hx hb dX7_deliver_174 rfl (lv_at hl 1 rfl) ?_
                      refine r_get (ci := 7) (v := .ref (md 6)) (C := RX7) (T := TX7) (N := 25) hx hb hts hinX7 hown h0 hw 17 rfl rfl 6 (by decide) k26 rfl dX7_deliver_175 ?_
                      refine lv_iload hx hb dX7_deliver_178 (lv_at hl 4 rfl) ?_
                      refine r_zald hx hb h0 hw 4 rfl (i := 1) (by omega) (by omega) dX7_deliver_180 ?_
                      refine lv_if_eq (tgt := 203) hx hb dX7_deliver_181 (by decide) (fun c31 => ?_) (fun c31 => ?_)
                      · skip
                        exact absurd c31 hsm
                      · skip
                        refine lv_aload_n hx hb dX7_deliver_184 rfl (lv_at hl 1 rfl) ?_
                        refine r_get (ci := 7) (v := .ref (md 7)) (C := RX7) (T := TX7) (N := 25) hx hb hts hinX7 hown h0 hw 17 rfl rfl 7 (by decide) k30 rfl dX7_deliver_185 ?_
                        refine lv_iload hx hb dX7_deliver_188 (lv_at hl 4 rfl) ?_
                        refine r_lald hx hb h0 hw 5 rfl (i := 1) (by omega) (by omega) dX7_deliver_190 ?_
                        refine lv_lload hx hb dX7_deliver_191 (lv_at hl 0 rfl) ?_
                        refine r_calli (wr := [(md 2, .inl (g.2.1 0, 64, .inl (se))), (md 23, .inl (g.2.1 0, 16, .inl (wd))), (md 24, .inl (g.2.1 0, 16, .inl (mx))), (md 4, .inl (g.2.1 0, 2, .inl (szF epn))), (md 6, .inl (g.2.1 2, 2, .inl (smf))), (md 7, .inl (g.2.1 1, 2, .inr (.inl (gtf)))), (md 8, .inl (g.2.1 2, 128, .inl (snf))), (md 13, .inl (g.2.1 0, 96, .inl (ibf))), (md 10, .inl (g.2.1 0, 8, .inl (szF z))), (md 17, .inl (g.2.1 0, 400, .inl (r2_20))), (md 16, .inl (g.2.1 0, 64, .inl (w2_21))), (md 15, .inl (g.2.1 0, 8, .inl (s2_22))), (md 22, .inl (g.2.1 0, 64, .inl (kRW))), (md 18, .inl (g.2.1 0, 32, .inl (hmv tk (f k) (15 + ln)))), (md 19, .inl (g.2.1 0, 32, .inl (k2_23))), (md 21, .inl (g.2.1 0, 160, .inl (m2_24))), (md 3, .inl (g.2.1 0, 64, .inl (te))), (md 25, .inr (7, [.ref (md 0), .int (nI op), .ref (md 2), .ref (md 3), .ref (md 4), .ref (md 5), .ref (md 6), .ref (md 7), .ref (md 8), .ref (md 9), .ref (md 10), .ref (md 11), .int (nI on), .ref (md 13), .int (nI inn), .ref (md 15), .ref (md 16), .ref (md 17), .ref (md 18), .ref (md 19), .ref (md 20), .ref (md 21), .ref (md 22), .ref (md 23), .ref (md 24)])), (md 9, .inl (g.2.1 0, 1024, .inl (wr)))]) [] [0, 1, 2, 3, 4, 5, 6, 7, 8, 9, 10, 11, 12, 13, 14, 15, 16, 17, 18] h0 hw rfl rfl (by decide) (by decide) (va_runS (As := [.long (gtf 1), .long (nAt (f k) 5 8)]) (rest := []) ⟨hx, hb, hml, hown, hts⟩ (c_X7_isBelow l g (gtf 1) (nAt (f k) 5 8)  _) (va_cwS 2 hts gX7_deliver_X7_isBelow rfl rfl rfl (by decide +kernel) ⟨Nat.le_of_ble_eq_true rfl, Nat.le_of_ble_eq_true rfl⟩) (preS_of [] [.long (gtf 1), .long (nAt (f k) 5 8)] h0 hw rfl (by decide)) rfl rfl hl.1 rfl (lv_room (Nat.le_of_ble_eq_true rfl)) dX7_deliver_193 ⟨Nat.le_of_ble_eq_true rfl, Nat.le_of_ble_eq_true rfl⟩) (fun r32 u33 H locs hp34 hw => ?_)
                        have hw : WD g A s [(md 2, .inl (g.2.1 0, 64, .inl (se))), (md 23, .inl (g.2.1 0, 16, .inl (wd))), (md 24, .inl (g.2.1 0, 16, .inl (mx))), (md 4, .inl (g.2.1 0, 2, .inl (szF epn))), (md 6, .inl (g.2.1 2, 2, .inl (smf))), (md 7, .inl (g.2.1 1, 2, .inr (.inl (gtf)))), (md 8, .inl (g.2.1 2, 128, .inl (snf))), (md 13, .inl (g.2.1 0, 96, .inl (ibf))), (md 10, .inl (g.2.1 0, 8, .inl (szF z))), (md 17, .inl (g.2.1 0, 400, .inl (r2_20))), (md 16, .inl (g.2.1 0, 64, .inl (w2_21))), (md 15, .inl (g.2.1 0, 8, .inl (s2_22))), (md 22, .inl (g.2.1 0, 64, .inl (kRW))), (md 18, .inl (g.2.1 0, 32, .inl (hmv tk (f k) (15 + ln)))), (md 19, .inl (g.2.1 0, 32, .inl (k2_23))), (md 21, .inl (g.2.1 0, 160, .inl (m2_24))), (md 3, .inl (g.2.1 0, 64, .inl (te))), (md 25, .inr (7, [.ref (md 0), .int (nI op), .ref (md 2), .ref (md 3), .ref (md 4), .ref (md 5), .ref (md 6), .ref (md 7), .ref (md 8), .ref (md 9), .ref (md 10), .ref (md 11), .int (nI on), .ref (md 13), .int (nI inn), .ref (md 15), .ref (md 16), .ref (md 17), .ref (md 18), .ref (md 19), .ref (md 20), .ref (md 21), .ref (md 22), .ref (md 23), .ref (md 24)])), (md 9, .inl (g.2.1 0, 1024, .inl (wr)))] [] H locs := hw
                        subst hp34
                        refine lv_if_ne (tgt := 203) hx hb dX7_deliver_196 (by decide) (fun c35 => ?_) (fun c35 => ?_)
                        · skip
                          have c35 : lowU (gtf 1) (nAt (f k) 5 8) := bI_t c35
                          refine lv_iconst (v := nI 0) hx hb dX7_deliver_203 (by decide +kernel) ?_
                          refine lv_istore (lv' := [(8, .int (nI 0)), (6, .long (nAt (f k) 5 8)), (0, .ref (md 25)), (1, .int (nI k)), (3, .int (nI (128 * k))), (4, .int (nI 1)), (5, .int (nI ln))]) hx hb dX7_deliver_204 hl (by decide) rfl (fun ls hl => ?_)
                          refine lv_aload_n hx hb dX7_deliver_206 rfl (lv_at hl 2 rfl) ?_
                          refine r_get (ci := 7) (v := .ref (md 7)) (C := RX7) (T := TX7) (N := 25) hx hb hts hinX7 hown h0 hw 17 rfl rfl 7 (by decide) k30 rfl dX7_deliver_207 ?_
                          refine lv_iload hx hb dX7_deliver_210 (lv_at hl 5 rfl) ?_
                          refine r_lald hx hb h0 hw 5 rfl (i := 1) (by omega) (by omega) dX7_deliver_212 ?_
                          refine lv_lload hx hb dX7_deliver_213 (lv_at hl 1 rfl) ?_
                          refine lv_lsub hx hb dX7_deliver_215 ?_
                          refine lv_lstore (lv' := [(9, .long ((gtf 1) - (nAt (f k) 5 8))), (8, .int (nI 0)), (6, .long (nAt (f k) 5 8)), (0, .ref (md 25)), (1, .int (nI k)), (3, .int (nI (128 * k))), (4, .int (nI 1)), (5, .int (nI ln))]) hx hb dX7_deliver_216 hl (by decide) rfl (fun ls hl => ?_)
                          refine lv_iload hx hb dX7_deliver_218 (lv_at hl 1 rfl) ?_
                          refine lv_if_eq (tgt := 236) hx hb dX7_deliver_220 (by decide) (fun c36 => ?_) (fun c36 => ?_)
                          · skip
                            rw [← nI_0] at c36
                            have c36 : 0 = 0 := (nI_eq (by omega) (by omega)).mp c36
                            refine lv_iload hx hb dX7_deliver_236 (lv_at hl 1 rfl) ?_
                            refine lv_if_eq (tgt := 261) hx hb dX7_deliver_238 (by decide) (fun c37 => ?_) (fun c37 => ?_)
                            · skip
                              rw [← nI_0] at c37
                              have c37 : 0 = 0 := (nI_eq (by omega) (by omega)).mp c37
                              refine lv_iload hx hb dX7_deliver_261 (lv_at hl 1 rfl) ?_
                              refine lv_if_ne (tgt := 393) hx hb dX7_deliver_263 (by decide) (fun c38 => ?_) (fun c38 => ?_)
                              · skip
                                rw [← nI_0] at c38
                                have c38 : ¬ 0 = 0 := fun q => c38 (((nI_eq (by omega) (by omega)).mpr q))
                                exfalso; omega
                              · skip
                                rw [← nI_0] at c38
                                have c38 : 0 = 0 := (nI_eq (by omega) (by omega)).mp c38
                                refine lv_lload hx hb dX7_deliver_266 (lv_at hl 2 rfl) ?_
                                refine lv_aload_n hx hb dX7_deliver_268 rfl (lv_at hl 3 rfl) ?_
                                refine r_get (ci := 7) (v := .ref (md 7)) (C := RX7) (T := TX7) (N := 25) hx hb hts hinX7 hown h0 hw 17 rfl rfl 7 (by decide) k30 rfl dX7_deliver_269 ?_
                                refine lv_iload hx hb dX7_deliver_272 (lv_at hl 6 rfl) ?_
                                refine r_lald hx hb h0 hw 5 rfl (i := 1) (by omega) (by omega) dX7_deliver_274 ?_
                                refine lv_lsub hx hb dX7_deliver_275 ?_
                                refine lv_lstore (lv' := [(11, .long ((nAt (f k) 5 8) - (gtf 1))), (9, .long ((gtf 1) - (nAt (f k) 5 8))), (8, .int (nI 0)), (6, .long (nAt (f k) 5 8)), (0, .ref (md 25)), (1, .int (nI k)), (3, .int (nI (128 * k))), (4, .int (nI 1)), (5, .int (nI ln))]) hx hb dX7_deliver_276 hl (by decide) rfl (fun ls hl => ?_)
                                refine lv_bipush (v := nI 63) hx hb dX7_deliver_278 (by decide +kernel) ?_
                                refine lv_istore (lv' := [(13, .int (nI 63)), (11, .long ((nAt (f k) 5 8) - (gtf 1))), (9, .long ((gtf 1) - (nAt (f k) 5 8))), (8, .int (nI 0)), (6, .long (nAt (f k) 5 8)), (0, .ref (md 25)), (1, .int (nI k)), (3, .int (nI (128 * k))), (4, .int (nI 1)), (5, .int (nI ln))]) hx hb dX7_deliver_280 hl (by decide) rfl (fun ls hl => ?_)
                                have lp282 : ∀ (fu : Nat) (m_ : Nat), m_ < fu → (m_ ≤ 64) → ∀ (H : Heap) (locs : List Loc) (ls : Array Slot), WD g A s [(md 2, .inl (g.2.1 0, 64, .inl (se))), (md 23, .inl (g.2.1 0, 16, .inl (wd))), (md 24, .inl (g.2.1 0, 16, .inl (mx))), (md 4, .inl (g.2.1 0, 2, .inl (szF epn))), (md 6, .inl (g.2.1 2, 2, .inl (smf))), (md 7, .inl (g.2.1 1, 2, .inr (.inl (gtf)))), (md 8, .inl (g.2.1 2, 128, .inl (shM snf 64 bb m_))), (md 13, .inl (g.2.1 0, 96, .inl (ibf))), (md 10, .inl (g.2.1 0, 8, .inl (szF z))), (md 17, .inl (g.2.1 0, 400, .inl (r2_20))), (md 16, .inl (g.2.1 0, 64, .inl (w2_21))), (md 15, .inl (g.2.1 0, 8, .inl (s2_22))), (md 22, .inl (g.2.1 0, 64, .inl (kRW))), (md 18, .inl (g.2.1 0, 32, .inl (hmv tk (f k) (15 + ln)))), (md 19, .inl (g.2.1 0, 32, .inl (k2_23))), (md 21, .inl (g.2.1 0, 160, .inl (m2_24))), (md 3, .inl (g.2.1 0, 64, .inl (te))), (md 25, .inr (7, [.ref (md 0), .int (nI op), .ref (md 2), .ref (md 3), .ref (md 4), .ref (md 5), .ref (md 6), .ref (md 7), .ref (md 8), .ref (md 9), .ref (md 10), .ref (md 11), .int (nI on), .ref (md 13), .int (nI inn), .ref (md 15), .ref (md 16), .ref (md 17), .ref (md 18), .ref (md 19), .ref (md 20), .ref (md 21), .ref (md 22), .ref (md 23), .ref (md 24)])), (md 9, .inl (g.2.1 0, 1024, .inl (wr)))] [] H locs → lv_has ls 15 [(13, .int (nP m_)), (0, .ref (md 25)), (1, .int (nI k)), (3, .int (nI (128 * k))), (4, .int (nI 1)), (5, .int (nI ln)), (6, .long (nAt (f k) 5 8)), (11, .long ((nAt (f k) 5 8) - gtf 1))] → W p l e { frames := 5, cells := 0, slots := 0, locals := 123 } s m ar below meth c H locs 0 0 Q (F0 m 282 ls []) := by
                                  intro fu
                                  induction fu with
                                  | zero => intro m_ hmz; exact absurd hmz (Nat.not_lt_zero _)
                                  | succ fu ih =>
                                    intro m_ hms hm H locs ls hw hl
                                    refine lv_iload hx hb dX7_deliver_282 (lv_at hl 0 rfl) ?_
                                    refine lv_if_lt (tgt := 373) hx hb dX7_deliver_284 (by decide) (fun c39 => ?_) (fun c39 => ?_)
                                    · skip
                                      have hm0 : m_ = 0 := nP_neg (by omega) c39
                                      have hwS40 := hw; have hlS41 := hl
                                      subst m_
                                      have hw := hwS40; have hl := hlS41
                                      refine lv_aload_n hx hb dX7_deliver_373 rfl (lv_at hl 1 rfl) ?_
                                      refine r_get (ci := 7) (v := .ref (md 7)) (C := RX7) (T := TX7) (N := 25) hx hb hts hinX7 hown h0 hw 17 rfl rfl 7 (by decide) k30 rfl dX7_deliver_374 ?_
                                      refine lv_iload hx hb dX7_deliver_377 (lv_at hl 4 rfl) ?_
                                      refine lv_lload hx hb dX7_deliver_379 (lv_at hl 6 rfl) ?_
                                      refine r_last hx hb h0 hw 5 rfl (i := 1) (by omega) (by omega) dX7_deliver_381 (fun H locs hw => ?_)
                                      have hw : WD g A s [(md 2, .inl (g.2.1 0, 64, .inl (se))), (md 23, .inl (g.2.1 0, 16, .inl (wd))), (md 24, .inl (g.2.1 0, 16, .inl (mx))), (md 4, .inl (g.2.1 0, 2, .inl (szF epn))), (md 6, .inl (g.2.1 2, 2, .inl (smf))), (md 7, .inl (g.2.1 1, 2, .inr (.inl (vp_updL gtf 1 (nAt (f k) 5 8))))), (md 8, .inl (g.2.1 2, 128, .inl (shM snf 64 bb 0))), (md 13, .inl (g.2.1 0, 96, .inl (ibf))), (md 10, .inl (g.2.1 0, 8, .inl (szF z))), (md 17, .inl (g.2.1 0, 400, .inl (r2_20))), (md 16, .inl (g.2.1 0, 64, .inl (w2_21))), (md 15, .inl (g.2.1 0, 8, .inl (s2_22))), (md 22, .inl (g.2.1 0, 64, .inl (kRW))), (md 18, .inl (g.2.1 0, 32, .inl (hmv tk (f k) (15 + ln)))), (md 19, .inl (g.2.1 0, 32, .inl (k2_23))), (md 21, .inl (g.2.1 0, 160, .inl (m2_24))), (md 3, .inl (g.2.1 0, 64, .inl (te))), (md 25, .inr (7, [.ref (md 0), .int (nI op), .ref (md 2), .ref (md 3), .ref (md 4), .ref (md 5), .ref (md 6), .ref (md 7), .ref (md 8), .ref (md 9), .ref (md 10), .ref (md 11), .int (nI on), .ref (md 13), .int (nI inn), .ref (md 15), .ref (md 16), .ref (md 17), .ref (md 18), .ref (md 19), .ref (md 20), .ref (md 21), .ref (md 22), .ref (md 23), .ref (md 24)])), (md 9, .inl (g.2.1 0, 1024, .inl (wr)))] [] H locs := hw
                                      refine lv_aload_n hx hb dX7_deliver_382 rfl (lv_at hl 1 rfl) ?_
                                      refine r_get (ci := 7) (v := .ref (md 6)) (C := RX7) (T := TX7) (N := 25) hx hb hts hinX7 hown h0 hw 17 rfl rfl 6 (by decide) k26 rfl dX7_deliver_383 ?_
                                      refine lv_iload hx hb dX7_deliver_386 (lv_at hl 4 rfl) ?_
                                      refine lv_iconst (v := nI 1) hx hb dX7_deliver_388 (by decide +kernel) ?_
                                      refine r_zast hx hb h0 hw 4 rfl (i := 1) (by decide +kernel) (by omega) (by omega) dX7_deliver_389 (fun H locs hw => ?_)
                                      have hw : WD g A s [(md 2, .inl (g.2.1 0, 64, .inl (se))), (md 23, .inl (g.2.1 0, 16, .inl (wd))), (md 24, .inl (g.2.1 0, 16, .inl (mx))), (md 4, .inl (g.2.1 0, 2, .inl (szF epn))), (md 6, .inl (g.2.1 2, 2, .inl (upd smf 1 (nI 1)))), (md 7, .inl (g.2.1 1, 2, .inr (.inl (vp_updL gtf 1 (nAt (f k) 5 8))))), (md 8, .inl (g.2.1 2, 128, .inl (shM snf 64 bb 0))), (md 13, .inl (g.2.1 0, 96, .inl (ibf))), (md 10, .inl (g.2.1 0, 8, .inl (szF z))), (md 17, .inl (g.2.1 0, 400, .inl (r2_20))), (md 16, .inl (g.2.1 0, 64, .inl (w2_21))), (md 15, .inl (g.2.1 0, 8, .inl (s2_22))), (md 22, .inl (g.2.1 0, 64, .inl (kRW))), (md 18, .inl (g.2.1 0, 32, .inl (hmv tk (f k) (15 + ln)))), (md 19, .inl (g.2.1 0, 32, .inl (k2_23))), (md 21, .inl (g.2.1 0, 160, .inl (m2_24))), (md 3, .inl (g.2.1 0, 64, .inl (te))), (md 25, .inr (7, [.ref (md 0), .int (nI op), .ref (md 2), .ref (md 3), .ref (md 4), .ref (md 5), .ref (md 6), .ref (md 7), .ref (md 8), .ref (md 9), .ref (md 10), .ref (md 11), .int (nI on), .ref (md 13), .int (nI inn), .ref (md 15), .ref (md 16), .ref (md 17), .ref (md 18), .ref (md 19), .ref (md 20), .ref (md 21), .ref (md 22), .ref (md 23), .ref (md 24)])), (md 9, .inl (g.2.1 0, 1024, .inl (wr)))] [] H locs := hw
                                      refine lv_lconst (v := 0) hx hb dX7_deliver_390 (by decide +kernel) ?_
                                      refine lv_lstore (lv' := [(9, .long (0)), (13, .int (nP 0)), (0, .ref (md 25)), (1, .int (nI k)), (3, .int (nI (128 * k))), (4, .int (nI 1)), (5, .int (nI ln)), (6, .long (nAt (f k) 5 8)), (11, .long ((nAt (f k) 5 8) - gtf 1))]) hx hb dX7_deliver_391 hl (by decide) rfl (fun ls hl => ?_)
                                      refine lv_aload_n hx hb dX7_deliver_393 rfl (lv_at hl 2 rfl) ?_
                                      refine r_get (ci := 7) (v := .ref (md 8)) (C := RX7) (T := TX7) (N := 25) hx hb hts hinX7 hown h0 hw 17 rfl rfl 8 (by decide) k33 rfl dX7_deliver_394 ?_
                                      refine lv_bipush (v := nI 64) hx hb dX7_deliver_397 (by decide +kernel) ?_
                                      refine lv_iload hx hb dX7_deliver_399 (lv_at hl 5 rfl) ?_
                                      refine lv_imul hx hb dX7_deliver_401 ?_
                                      refine r_te (y := nI 64) (pk_mul 64 1) ?_
                                      refine lv_lload hx hb dX7_deliver_402 (lv_at hl 0 rfl) ?_
                                      refine lv_l2i (v := (0).toInt32) hx hb dX7_deliver_404 rfl ?_
                                      refine r_te (y := nI 0) rfl ?_
                                      refine lv_iadd hx hb dX7_deliver_405 ?_
                                      refine r_te (y := nI 64) (nI_add 64 0) ?_
                                      refine lv_iconst (v := nI 1) hx hb dX7_deliver_406 (by decide +kernel) ?_
                                      refine r_zast hx hb h0 hw 6 rfl (i := 64) (by decide +kernel) (by omega) (by omega) dX7_deliver_407 (fun H locs hw => ?_)
                                      have hw : WD g A s [(md 2, .inl (g.2.1 0, 64, .inl (se))), (md 23, .inl (g.2.1 0, 16, .inl (wd))), (md 24, .inl (g.2.1 0, 16, .inl (mx))), (md 4, .inl (g.2.1 0, 2, .inl (szF epn))), (md 6, .inl (g.2.1 2, 2, .inl (upd smf 1 (nI 1)))), (md 7, .inl (g.2.1 1, 2, .inr (.inl (vp_updL gtf 1 (nAt (f k) 5 8))))), (md 8, .inl (g.2.1 2, 128, .inl (upd (shM snf 64 bb 0) 64 (nI 1)))), (md 13, .inl (g.2.1 0, 96, .inl (ibf))), (md 10, .inl (g.2.1 0, 8, .inl (szF z))), (md 17, .inl (g.2.1 0, 400, .inl (r2_20))), (md 16, .inl (g.2.1 0, 64, .inl (w2_21))), (md 15, .inl (g.2.1 0, 8, .inl (s2_22))), (md 22, .inl (g.2.1 0, 64, .inl (kRW))), (md 18, .inl (g.2.1 0, 32, .inl (hmv tk (f k) (15 + ln)))), (md 19, .inl (g.2.1 0, 32, .inl (k2_23))), (md 21, .inl (g.2.1 0, 160, .inl (m2_24))), (md 3, .inl (g.2.1 0, 64, .inl (te))), (md 25, .inr (7, [.ref (md 0), .int (nI op), .ref (md 2), .ref (md 3), .ref (md 4), .ref (md 5), .ref (md 6), .ref (md 7), .ref (md 8), .ref (md 9), .ref (md 10), .ref (md 11), .int (nI on), .ref (md 13), .int (nI inn), .ref (md 15), .ref (md 16), .ref (md 17), .ref (md 18), .ref (md 19), .ref (md 20), .ref (md 21), .ref (md 22), .ref (md 23), .ref (md 24)])), (md 9, .inl (g.2.1 0, 1024, .inl (wr)))] [] H locs := hw
                                      refine lv_iconst (v := nI 0) hx hb dX7_deliver_408 (by decide +kernel) ?_
                                      refine lv_istore (lv' := [(11, .int (nI 0)), (9, .long (0)), (13, .int (nP 0)), (0, .ref (md 25)), (1, .int (nI k)), (3, .int (nI (128 * k))), (4, .int (nI 1)), (5, .int (nI ln)), (6, .long (nAt (f k) 5 8))]) hx hb dX7_deliver_409 hl (by decide) rfl (fun ls hl => ?_)
                                      have lp411 : ∀ (fu : Nat) (t : Nat) (mv : Nat → Int32) (dv : Nat → Int32), ln - t < fu → (t ≤ ln) → (¬ t % 64 = 0 → mv = dbl (sIn (shf se (32 * 1)) (f k) (nI (t / 64))) 10 ∧ dv = sIn (shf se (32 * 1)) (f k) (nI (t / 64))) → ∀ (H : Heap) (locs : List Loc) (ls : Array Slot), WD g A s [(md 2, .inl (g.2.1 0, 64, .inl (se))), (md 23, .inl (g.2.1 0, 16, .inl (dv))), (md 24, .inl (g.2.1 0, 16, .inl (mv))), (md 4, .inl (g.2.1 0, 2, .inl (szF epn))), (md 6, .inl (g.2.1 2, 2, .inl (upd smf 1 (nI 1)))), (md 7, .inl (g.2.1 1, 2, .inr (.inl (vp_updL gtf 1 (nAt (f k) 5 8))))), (md 8, .inl (g.2.1 2, 128, .inl (upd (shM snf 64 bb 0) 64 (nI 1)))), (md 13, .inl (g.2.1 0, 96, .inl (rdF ibf (f k) ek t))), (md 10, .inl (g.2.1 0, 8, .inl (szF z))), (md 17, .inl (g.2.1 0, 400, .inl (r2_20))), (md 16, .inl (g.2.1 0, 64, .inl (w2_21))), (md 15, .inl (g.2.1 0, 8, .inl (s2_22))), (md 22, .inl (g.2.1 0, 64, .inl (kRW))), (md 18, .inl (g.2.1 0, 32, .inl (hmv tk (f k) (15 + ln)))), (md 19, .inl (g.2.1 0, 32, .inl (k2_23))), (md 21, .inl (g.2.1 0, 160, .inl (m2_24))), (md 3, .inl (g.2.1 0, 64, .inl (te))), (md 25, .inr (7, [.ref (md 0), .int (nI op), .ref (md 2), .ref (md 3), .ref (md 4), .ref (md 5), .ref (md 6), .ref (md 7), .ref (md 8), .ref (md 9), .ref (md 10), .ref (md 11), .int (nI on), .ref (md 13), .int (nI inn), .ref (md 15), .ref (md 16), .ref (md 17), .ref (md 18), .ref (md 19), .ref (md 20), .ref (md 21), .ref (md 22), .ref (md 23), .ref (md 24)])), (md 9, .inl (g.2.1 0, 1024, .inl (wr)))] [] H locs → lv_has ls 15 [(11, .int (nI t)), (0, .ref (md 25)), (1, .int (nI k)), (3, .int (nI (128 * k))), (4, .int (nI 1)), (5, .int (nI ln))] → W p l e { frames := 5, cells := 0, slots := 0, locals := 123 } s m ar below meth c H locs 0 0 Q (F0 m 411 ls []) := by
                                        intro fu
                                        induction fu with
                                        | zero => intro t mv dv hmz; exact absurd hmz (Nat.not_lt_zero _)
                                        | succ fu ih =>
                                          intro t mv dv hms ht hg H locs ls hw hl
                                          refine lv_iload hx hb dX7_deliver_411 (lv_at hl 0 rfl) ?_
                                          refine lv_iload hx hb dX7_deliver_413 (lv_at hl 5 rfl) ?_
                                          refine lv_icmp_ge (tgt := 453) hx hb dX7_deliver_415 (by decide) (fun c42 => ?_) (fun c42 => ?_)
                                          · skip
                                            have c42 : ln ≤ t := (nI_leI (by omega) (by omega)).mp c42
                                            have hq : t = ln := by omega
                                            have hwS43 := hw; have hlS44 := hl
                                            subst t
                                            have hw := hwS43; have hl := hlS44
                                            refine lv_aload_n hx hb dX7_deliver_453 rfl (lv_at hl 1 rfl) ?_
                                            refine lv_iload hx hb dX7_deliver_454 (lv_at hl 5 rfl) ?_
                                            refine r_put (ci := 7) (v := .int (nI ln)) (C := RX7) (T := TX7) (N := 25) hx hb hts hinX7 tyX7 tyX7_ok nmX7 hown h0 hw 17 rfl rfl 14 (by decide) k153 rfl rfl rfl (Nat.le_of_ble_eq_true rfl) dX7_deliver_456 (fun H locs hw => ?_)
                                            have hw : WD g A s [(md 2, .inl (g.2.1 0, 64, .inl (se))), (md 23, .inl (g.2.1 0, 16, .inl (dv))), (md 24, .inl (g.2.1 0, 16, .inl (mv))), (md 4, .inl (g.2.1 0, 2, .inl (szF epn))), (md 6, .inl (g.2.1 2, 2, .inl (upd smf 1 (nI 1)))), (md 7, .inl (g.2.1 1, 2, .inr (.inl (vp_updL gtf 1 (nAt (f k) 5 8))))), (md 8, .inl (g.2.1 2, 128, .inl (upd (shM snf 64 bb 0) 64 (nI 1)))), (md 13, .inl (g.2.1 0, 96, .inl (rdF ibf (f k) ek ln))), (md 10, .inl (g.2.1 0, 8, .inl (szF z))), (md 17, .inl (g.2.1 0, 400, .inl (r2_20))), (md 16, .inl (g.2.1 0, 64, .inl (w2_21))), (md 15, .inl (g.2.1 0, 8, .inl (s2_22))), (md 22, .inl (g.2.1 0, 64, .inl (kRW))), (md 18, .inl (g.2.1 0, 32, .inl (hmv tk (f k) (15 + ln)))), (md 19, .inl (g.2.1 0, 32, .inl (k2_23))), (md 21, .inl (g.2.1 0, 160, .inl (m2_24))), (md 3, .inl (g.2.1 0, 64, .inl (te))), (md 25, .inr (7, [.ref (md 0), .int (nI op), .ref (md 2), .ref (md 3), .ref (md 4), .ref (md 5), .ref (md 6), .ref (md 7), .ref (md 8), .ref (md 9), .ref (md 10), .ref (md 11), .int (nI on), .ref (md 13), .int (nI ln), .ref (md 15), .ref (md 16), .ref (md 17), .ref (md 18), .ref (md 19), .ref (md 20), .ref (md 21), .ref (md 22), .ref (md 23), .ref (md 24)])), (md 9, .inl (g.2.1 0, 1024, .inl (wr)))] [] H locs := hw
                                            refine lv_iconst (v := nI 0) hx hb dX7_deliver_459 (by decide +kernel) ?_
                                            exact hret (hw.perm (X' := [(md 25, .inr (7, [.ref (md 0), .int (nI op), .ref (md 2), .ref (md 3), .ref (md 4), .ref (md 5), .ref (md 6), .ref (md 7), .ref (md 8), .ref (md 9), .ref (md 10), .ref (md 11), .int (nI on), .ref (md 13), .int (nI ln), .ref (md 15), .ref (md 16), .ref (md 17), .ref (md 18), .ref (md 19), .ref (md 20), .ref (md 21), .ref (md 22), .ref (md 23), .ref (md 24)])), (md 17, .inl (g.2.1 0, 400, .inl (r2_20))), (md 16, .inl (g.2.1 0, 64, .inl (w2_21))), (md 15, .inl (g.2.1 0, 8, .inl (s2_22))), (md 22, .inl (g.2.1 0, 64, .inl (kRW))), (md 18, .inl (g.2.1 0, 32, .inl (hmv tk (f k) (15 + ln)))), (md 19, .inl (g.2.1 0, 32, .inl (k2_23))), (md 21, .inl (g.2.1 0, 160, .inl (m2_24))), (md 3, .inl (g.2.1 0, 64, .inl (te))), (md 9, .inl (g.2.1 0, 1024, .inl (wr))), (md 2, .inl (g.2.1 0, 64, .inl (se))), (md 23, .inl (g.2.1 0, 16, .inl (dv))), (md 24, .inl (g.2.1 0, 16, .inl (mv))), (md 4, .inl (g.2.1 0, 2, .inl (szF epn))), (md 10, .inl (g.2.1 0, 8, .inl (szF z))), (md 6, .inl (g.2.1 2, 2, .inl (upd smf 1 (nI 1)))), (md 7, .inl (g.2.1 1, 2, .inr (.inl (vp_updL gtf 1 (nAt (f k) 5 8))))), (md 8, .inl (g.2.1 2, 128, .inl (upd (shM snf 64 bb 0) 64 (nI 1)))), (md 13, .inl (g.2.1 0, 96, .inl (rdF ibf (f k) ek ln)))]) [17, 9, 10, 11, 12, 13, 14, 15, 16, 18, 0, 1, 2, 3, 8, 4, 5, 6, 7] (by decide) rfl) (r2_20, w2_21, s2_22, hmv tk (f k) (15 + ln), k2_23, m2_24, dv, mv) (rfl) (rfl) (by omega) (by omega) dX7_deliver_460
                                          · skip
                                            have c42 : ¬ ln ≤ t := fun q => c42 (((nI_leI (by omega) (by omega)).mpr q))
                                            refine lv_aload_n hx hb dX7_deliver_418 rfl (lv_at hl 1 rfl) ?_
                                            refine r_get (ci := 7) (v := .ref (md 13)) (C := RX7) (T := TX7) (N := 25) hx hb hts hinX7 hown h0 hw 17 rfl rfl 13 (by decide) k45 rfl dX7_deliver_419 ?_
                                            refine lv_iload hx hb dX7_deliver_422 (lv_at hl 0 rfl) ?_
                                            refine lv_aload_n hx hb dX7_deliver_424 rfl (lv_at hl 1 rfl) ?_
                                            refine r_get (ci := 7) (v := .ref (md 9)) (C := RX7) (T := TX7) (N := 25) hx hb hts hinX7 hown h0 hw 17 rfl rfl 9 (by decide) k36 rfl dX7_deliver_425 ?_
                                            refine lv_iload_n hx hb dX7_deliver_428 rfl (lv_at hl 3 rfl) ?_
                                            refine lv_bipush (v := nI 15) hx hb dX7_deliver_429 (by decide +kernel) ?_
                                            refine lv_iadd hx hb dX7_deliver_431 ?_
                                            refine r_te (y := nI (128 * k + 15)) (nI_add (128 * k) 15) ?_
                                            refine lv_iload hx hb dX7_deliver_432 (lv_at hl 0 rfl) ?_
                                            refine lv_iadd hx hb dX7_deliver_434 ?_
                                            refine r_te (y := nI (128 * k + 15 + t)) (nI_add (128 * k + 15) t) ?_
                                            refine r_iald hx hb h0 hw 18 rfl (i := 128 * k + 15 + t) (by omega) (by omega) dX7_deliver_435 ?_
                                            refine r_te (y := f k (15 + t)) (by first | exact hwr (15 + t) (by omega) | (have := hwr (15 + t) (by omega); simpa [Nat.add_assoc] using this)) ?_
                                            refine lv_aload_n hx hb dX7_deliver_436 rfl (lv_at hl 1 rfl) ?_
                                            refine lv_iload hx hb dX7_deliver_437 (lv_at hl 4 rfl) ?_
                                            refine lv_iload_n hx hb dX7_deliver_439 rfl (lv_at hl 2 rfl) ?_
                                            refine lv_iload hx hb dX7_deliver_440 (lv_at hl 0 rfl) ?_
                                            refine r_calli (wr := [(md 4, .inl (g.2.1 0, 2, .inl (szF epn))), (md 6, .inl (g.2.1 2, 2, .inl (upd smf 1 (nI 1)))), (md 7, .inl (g.2.1 1, 2, .inr (.inl (vp_updL gtf 1 (nAt (f k) 5 8))))), (md 8, .inl (g.2.1 2, 128, .inl (upd (shM snf 64 bb 0) 64 (nI 1)))), (md 13, .inl (g.2.1 0, 96, .inl (rdF ibf (f k) ek t))), (md 10, .inl (g.2.1 0, 8, .inl (szF z))), (md 17, .inl (g.2.1 0, 400, .inl (r2_20))), (md 16, .inl (g.2.1 0, 64, .inl (w2_21))), (md 15, .inl (g.2.1 0, 8, .inl (s2_22))), (md 22, .inl (g.2.1 0, 64, .inl (kRW))), (md 18, .inl (g.2.1 0, 32, .inl (hmv tk (f k) (15 + ln)))), (md 19, .inl (g.2.1 0, 32, .inl (k2_23))), (md 21, .inl (g.2.1 0, 160, .inl (m2_24))), (md 3, .inl (g.2.1 0, 64, .inl (te)))]) [17, 0, 18, 1, 2] [3, 4, 5, 6, 7, 8, 9, 10, 11, 12, 13, 14, 15, 16] h0 hw rfl rfl (by decide) (by decide) (va_runV (As := [.int (nI 1), .int (nI k), .int (nI t)]) (rest := [.int (f k (15 + t)), .int (nI t), .ref (md 13)]) ⟨hx, hb, hml, hown, hts⟩ (c_X7_streamByte l g md op on inn se wr dv mv ((shf se (32 * 1))) ((f k)) 1 k t (by omega) (by omega) (by omega) (rfl) (h5) (h9) (hg) _) (cwV 3 hts gX7_deliver_X7_streamByte rfl rfl rfl (by decide +kernel) ⟨Nat.le_of_ble_eq_true rfl, Nat.le_of_ble_eq_true rfl⟩) (preV_of [17, 0, 18, 1, 2] [.int (nI 1), .int (nI k), .int (nI t)] h0 hw rfl (by decide) 17 7 rfl rfl) rfl rfl hl.1 rfl (lv_room (Nat.le_of_ble_eq_true rfl)) dX7_deliver_442 ⟨Nat.le_of_ble_eq_true rfl, Nat.le_of_ble_eq_true rfl⟩) (fun r45 u46 H locs hp47 hw => ?_)
                                            obtain ⟨m2_48, w2_49⟩ := u46
                                            have hw : WD g A s [(md 4, .inl (g.2.1 0, 2, .inl (szF epn))), (md 6, .inl (g.2.1 2, 2, .inl (upd smf 1 (nI 1)))), (md 7, .inl (g.2.1 1, 2, .inr (.inl (vp_updL gtf 1 (nAt (f k) 5 8))))), (md 8, .inl (g.2.1 2, 128, .inl (upd (shM snf 64 bb 0) 64 (nI 1)))), (md 13, .inl (g.2.1 0, 96, .inl (rdF ibf (f k) ek t))), (md 10, .inl (g.2.1 0, 8, .inl (szF z))), (md 17, .inl (g.2.1 0, 400, .inl (r2_20))), (md 16, .inl (g.2.1 0, 64, .inl (w2_21))), (md 15, .inl (g.2.1 0, 8, .inl (s2_22))), (md 22, .inl (g.2.1 0, 64, .inl (kRW))), (md 18, .inl (g.2.1 0, 32, .inl (hmv tk (f k) (15 + ln)))), (md 19, .inl (g.2.1 0, 32, .inl (k2_23))), (md 21, .inl (g.2.1 0, 160, .inl (m2_24))), (md 3, .inl (g.2.1 0, 64, .inl (te))), (md 25, .inr (7, [.ref (md 0), .int (nI op), .ref (md 2), .ref (md 3), .ref (md 4), .ref (md 5), .ref (md 6), .ref (md 7), .ref (md 8), .ref (md 9), .ref (md 10), .ref (md 11), .int (nI on), .ref (md 13), .int (nI inn), .ref (md 15), .ref (md 16), .ref (md 17), .ref (md 18), .ref (md 19), .ref (md 20), .ref (md 21), .ref (md 22), .ref (md 23), .ref (md 24)])), (md 2, .inl (g.2.1 0, 64, .inl (se))), (md 9, .inl (g.2.1 0, 1024, .inl (wr))), (md 23, .inl (g.2.1 0, 16, .inl (w2_49))), (md 24, .inl (g.2.1 0, 16, .inl (m2_48)))] [] H locs := hw
                                            obtain ⟨rfl, hp47⟩ := hp47
                                            have hpN := hp47
                                            refine lv_ixor hx hb dX7_deliver_445 ?_
                                            refine r_te (y := f k (15 + t) ^^^ sByte ek (f k) t) (by rw [sByte_key hek]) ?_
                                            refine r_iast hx hb h0 hw 4 rfl (i := t) (by omega) (by omega) dX7_deliver_446 (fun H locs hw => ?_)
                                            have hw : WD g A s [(md 4, .inl (g.2.1 0, 2, .inl (szF epn))), (md 6, .inl (g.2.1 2, 2, .inl (upd smf 1 (nI 1)))), (md 7, .inl (g.2.1 1, 2, .inr (.inl (vp_updL gtf 1 (nAt (f k) 5 8))))), (md 8, .inl (g.2.1 2, 128, .inl (upd (shM snf 64 bb 0) 64 (nI 1)))), (md 13, .inl (g.2.1 0, 96, .inl (upd (rdF ibf (f k) ek t) t (f k (15 + t) ^^^ sByte ek (f k) t)))), (md 10, .inl (g.2.1 0, 8, .inl (szF z))), (md 17, .inl (g.2.1 0, 400, .inl (r2_20))), (md 16, .inl (g.2.1 0, 64, .inl (w2_21))), (md 15, .inl (g.2.1 0, 8, .inl (s2_22))), (md 22, .inl (g.2.1 0, 64, .inl (kRW))), (md 18, .inl (g.2.1 0, 32, .inl (hmv tk (f k) (15 + ln)))), (md 19, .inl (g.2.1 0, 32, .inl (k2_23))), (md 21, .inl (g.2.1 0, 160, .inl (m2_24))), (md 3, .inl (g.2.1 0, 64, .inl (te))), (md 25, .inr (7, [.ref (md 0), .int (nI op), .ref (md 2), .ref (md 3), .ref (md 4), .ref (md 5), .ref (md 6), .ref (md 7), .ref (md 8), .ref (md 9), .ref (md 10), .ref (md 11), .int (nI on), .ref (md 13), .int (nI inn), .ref (md 15), .ref (md 16), .ref (md 17), .ref (md 18), .ref (md 19), .ref (md 20), .ref (md 21), .ref (md 22), .ref (md 23), .ref (md 24)])), (md 2, .inl (g.2.1 0, 64, .inl (se))), (md 9, .inl (g.2.1 0, 1024, .inl (wr))), (md 23, .inl (g.2.1 0, 16, .inl (w2_49))), (md 24, .inl (g.2.1 0, 16, .inl (m2_48)))] [] H locs := hw
                                            refine lv_iinc (v := nI (t + 1)) (lv' := [(11, .int (nI (t + 1))), (0, .ref (md 25)), (1, .int (nI k)), (3, .int (nI (128 * k))), (4, .int (nI 1)), (5, .int (nI ln))]) hx hb dX7_deliver_447 hl (k := 0) rfl (nI_add t 1) (by decide) rfl (fun ls hl => ?_)
                                            refine lv_goto (tgt := 411) hx hb dX7_deliver_450 (by decide) ?_
                                            exact ih (t + 1) m2_48 w2_49 (by omega) (by omega) (fun q => by rw [show (t + 1) / 64 = t / 64 by omega]; exact hpN) _ _ _ (hw.perm [15, 17, 18, 0, 1, 2, 3, 4, 5, 6, 7, 8, 9, 10, 11, 12, 13, 14, 16] (by decide) rfl) (lv_sub hl [0, 1, 2, 3, 4, 5] rfl)
                                      exact lp411 (ln - 0 + 1) 0 mx wd (by omega) (by omega) (fun q => absurd rfl q) _ _ _ hw (lv_sub hl [0, 3, 4, 5, 6, 7] rfl)
                                    · skip
                                      have hm1 : 1 ≤ m_ := nP_nneg c39
                                      obtain ⟨k9, rfl⟩ : ∃ k9, m_ = k9 + 1 := ⟨m_ - 1, by omega⟩
                                      rw [nP_succ] at hl
                                      refine lv_aload_n hx hb dX7_deliver_287 rfl (lv_at hl 1 rfl) ?_
                                      refine r_get (ci := 7) (v := .ref (md 6)) (C := RX7) (T := TX7) (N := 25) hx hb hts hinX7 hown h0 hw 17 rfl rfl 6 (by decide) k26 rfl dX7_deliver_288 ?_
                                      refine lv_iload hx hb dX7_deliver_291 (lv_at hl 4 rfl) ?_
                                      refine r_zald hx hb h0 hw 4 rfl (i := 1) (by omega) (by omega) dX7_deliver_293 ?_
                                      refine lv_if_eq (tgt := 321) hx hb dX7_deliver_294 (by decide) (fun c50 => ?_) (fun c50 => ?_)
                                      · skip
                                        exact absurd c50 hsm
                                      · skip
                                        refine lv_lload hx hb dX7_deliver_297 (lv_at hl 7 rfl) ?_
                                        refine lv_ldc2 hx hb hown k227 dX7_deliver_299 ?_
                                        refine r_calli (wr := [(md 2, .inl (g.2.1 0, 64, .inl (se))), (md 23, .inl (g.2.1 0, 16, .inl (wd))), (md 24, .inl (g.2.1 0, 16, .inl (mx))), (md 4, .inl (g.2.1 0, 2, .inl (szF epn))), (md 6, .inl (g.2.1 2, 2, .inl (smf))), (md 7, .inl (g.2.1 1, 2, .inr (.inl (gtf)))), (md 8, .inl (g.2.1 2, 128, .inl (shM snf 64 bb (k9 + 1)))), (md 13, .inl (g.2.1 0, 96, .inl (ibf))), (md 10, .inl (g.2.1 0, 8, .inl (szF z))), (md 17, .inl (g.2.1 0, 400, .inl (r2_20))), (md 16, .inl (g.2.1 0, 64, .inl (w2_21))), (md 15, .inl (g.2.1 0, 8, .inl (s2_22))), (md 22, .inl (g.2.1 0, 64, .inl (kRW))), (md 18, .inl (g.2.1 0, 32, .inl (hmv tk (f k) (15 + ln)))), (md 19, .inl (g.2.1 0, 32, .inl (k2_23))), (md 21, .inl (g.2.1 0, 160, .inl (m2_24))), (md 3, .inl (g.2.1 0, 64, .inl (te))), (md 25, .inr (7, [.ref (md 0), .int (nI op), .ref (md 2), .ref (md 3), .ref (md 4), .ref (md 5), .ref (md 6), .ref (md 7), .ref (md 8), .ref (md 9), .ref (md 10), .ref (md 11), .int (nI on), .ref (md 13), .int (nI inn), .ref (md 15), .ref (md 16), .ref (md 17), .ref (md 18), .ref (md 19), .ref (md 20), .ref (md 21), .ref (md 22), .ref (md 23), .ref (md 24)])), (md 9, .inl (g.2.1 0, 1024, .inl (wr)))]) [] [0, 1, 2, 3, 4, 5, 6, 7, 8, 9, 10, 11, 12, 13, 14, 15, 16, 17, 18] h0 hw rfl rfl (by decide) (by decide) (va_runS (As := [.long ((nAt (f k) 5 8) - gtf 1), .long (64)]) (rest := []) ⟨hx, hb, hml, hown, hts⟩ (c_X7_isBelow l g ((nAt (f k) 5 8) - gtf 1) 64  _) (va_cwS 2 hts gX7_deliver_X7_isBelow rfl rfl rfl (by decide +kernel) ⟨Nat.le_of_ble_eq_true rfl, Nat.le_of_ble_eq_true rfl⟩) (preS_of [] [.long ((nAt (f k) 5 8) - gtf 1), .long (64)] h0 hw rfl (by decide)) rfl rfl hl.1 rfl (lv_room (Nat.le_of_ble_eq_true rfl)) dX7_deliver_302 ⟨Nat.le_of_ble_eq_true rfl, Nat.le_of_ble_eq_true rfl⟩) (fun r51 u52 H locs hp53 hw => ?_)
                                        have hw : WD g A s [(md 2, .inl (g.2.1 0, 64, .inl (se))), (md 23, .inl (g.2.1 0, 16, .inl (wd))), (md 24, .inl (g.2.1 0, 16, .inl (mx))), (md 4, .inl (g.2.1 0, 2, .inl (szF epn))), (md 6, .inl (g.2.1 2, 2, .inl (smf))), (md 7, .inl (g.2.1 1, 2, .inr (.inl (gtf)))), (md 8, .inl (g.2.1 2, 128, .inl (shM snf 64 bb (k9 + 1)))), (md 13, .inl (g.2.1 0, 96, .inl (ibf))), (md 10, .inl (g.2.1 0, 8, .inl (szF z))), (md 17, .inl (g.2.1 0, 400, .inl (r2_20))), (md 16, .inl (g.2.1 0, 64, .inl (w2_21))), (md 15, .inl (g.2.1 0, 8, .inl (s2_22))), (md 22, .inl (g.2.1 0, 64, .inl (kRW))), (md 18, .inl (g.2.1 0, 32, .inl (hmv tk (f k) (15 + ln)))), (md 19, .inl (g.2.1 0, 32, .inl (k2_23))), (md 21, .inl (g.2.1 0, 160, .inl (m2_24))), (md 3, .inl (g.2.1 0, 64, .inl (te))), (md 25, .inr (7, [.ref (md 0), .int (nI op), .ref (md 2), .ref (md 3), .ref (md 4), .ref (md 5), .ref (md 6), .ref (md 7), .ref (md 8), .ref (md 9), .ref (md 10), .ref (md 11), .int (nI on), .ref (md 13), .int (nI inn), .ref (md 15), .ref (md 16), .ref (md 17), .ref (md 18), .ref (md 19), .ref (md 20), .ref (md 21), .ref (md 22), .ref (md 23), .ref (md 24)])), (md 9, .inl (g.2.1 0, 1024, .inl (wr)))] [] H locs := hw
                                        subst hp53
                                        refine lv_if_eq (tgt := 321) hx hb dX7_deliver_305 (by decide) (fun c54 => ?_) (fun c54 => ?_)
                                        · skip
                                          have c54 : ¬ (lowU ((nAt (f k) 5 8) - gtf 1) 64) := bI_f c54
                                          exact absurd hby c54
                                        · skip
                                          have c54 : lowU ((nAt (f k) 5 8) - gtf 1) 64 := bI_t c54
                                          refine lv_iload hx hb dX7_deliver_308 (lv_at hl 0 rfl) ?_
                                          refine lv_i2l (v := (nI k9).toInt64) hx hb dX7_deliver_310 rfl ?_
                                          refine lv_lload hx hb dX7_deliver_311 (lv_at hl 7 rfl) ?_
                                          refine W.lcmp hx hb dX7_deliver_313 ?_
                                          refine lv_if_lt (tgt := 321) hx hb dX7_deliver_314 (by decide) (fun c55 => ?_) (fun c55 => ?_)
                                          · skip
                                            have c55 : ((nI k9).toInt64) < ((nAt (f k) 5 8) - gtf 1) := (lg_cmp_lt _ _).mp c55
                                            have c55n : ¬ ((nAt (f k) 5 8) - gtf 1) ≤ ((nI k9).toInt64) := Int64.not_le.mpr c55
                                            have hkb : ¬ bb ≤ k9 := by have q := c55; rw [hbb, nI_l (by omega), lN_lt (by omega) (by omega)] at q; omega
                                            refine lv_iconst (v := nI 0) hx hb dX7_deliver_321 (by decide +kernel) ?_
                                            refine lv_istore (lv' := [(14, .int (nI 0)), (13, .int (nI k9)), (0, .ref (md 25)), (1, .int (nI k)), (3, .int (nI (128 * k))), (4, .int (nI 1)), (5, .int (nI ln)), (6, .long (nAt (f k) 5 8)), (11, .long ((nAt (f k) 5 8) - gtf 1))]) hx hb dX7_deliver_322 hl (by decide) rfl (fun ls hl => ?_)
                                            refine lv_aload_n hx hb dX7_deliver_324 rfl (lv_at hl 2 rfl) ?_
                                            refine r_get (ci := 7) (v := .ref (md 8)) (C := RX7) (T := TX7) (N := 25) hx hb hts hinX7 hown h0 hw 17 rfl rfl 8 (by decide) k33 rfl dX7_deliver_325 ?_
                                            refine lv_bipush (v := nI 64) hx hb dX7_deliver_328 (by decide +kernel) ?_
                                            refine lv_iload hx hb dX7_deliver_330 (lv_at hl 5 rfl) ?_
                                            refine lv_imul hx hb dX7_deliver_332 ?_
                                            refine r_te (y := nI 64) (pk_mul 64 1) ?_
                                            refine lv_iload hx hb dX7_deliver_333 (lv_at hl 1 rfl) ?_
                                            refine lv_iadd hx hb dX7_deliver_335 ?_
                                            refine r_te (y := nI (64 + k9)) (nI_add 64 k9) ?_
                                            refine lv_iload hx hb dX7_deliver_336 (lv_at hl 0 rfl) ?_
                                            refine lv_if_eq (tgt := 365) hx hb dX7_deliver_338 (by decide) (fun c56 => ?_) (fun c56 => ?_)
                                            · skip
                                              rw [← nI_0] at c56
                                              have c56 : 0 = 0 := (nI_eq (by omega) (by omega)).mp c56
                                              refine lv_iconst (v := nI 0) hx hb dX7_deliver_365 (by decide +kernel) ?_
                                              refine r_zast hx hb h0 hw 6 rfl (i := 64 + k9) (by decide +kernel) (by omega) (by omega) dX7_deliver_366 (fun H locs hw => ?_)
                                              have hw : WD g A s [(md 2, .inl (g.2.1 0, 64, .inl (se))), (md 23, .inl (g.2.1 0, 16, .inl (wd))), (md 24, .inl (g.2.1 0, 16, .inl (mx))), (md 4, .inl (g.2.1 0, 2, .inl (szF epn))), (md 6, .inl (g.2.1 2, 2, .inl (smf))), (md 7, .inl (g.2.1 1, 2, .inr (.inl (gtf)))), (md 8, .inl (g.2.1 2, 128, .inl (upd (shM snf 64 bb (k9 + 1)) (64 + k9) (nI 0)))), (md 13, .inl (g.2.1 0, 96, .inl (ibf))), (md 10, .inl (g.2.1 0, 8, .inl (szF z))), (md 17, .inl (g.2.1 0, 400, .inl (r2_20))), (md 16, .inl (g.2.1 0, 64, .inl (w2_21))), (md 15, .inl (g.2.1 0, 8, .inl (s2_22))), (md 22, .inl (g.2.1 0, 64, .inl (kRW))), (md 18, .inl (g.2.1 0, 32, .inl (hmv tk (f k) (15 + ln)))), (md 19, .inl (g.2.1 0, 32, .inl (k2_23))), (md 21, .inl (g.2.1 0, 160, .inl (m2_24))), (md 3, .inl (g.2.1 0, 64, .inl (te))), (md 25, .inr (7, [.ref (md 0), .int (nI op), .ref (md 2), .ref (md 3), .ref (md 4), .ref (md 5), .ref (md 6), .ref (md 7), .ref (md 8), .ref (md 9), .ref (md 10), .ref (md 11), .int (nI on), .ref (md 13), .int (nI inn), .ref (md 15), .ref (md 16), .ref (md 17), .ref (md 18), .ref (md 19), .ref (md 20), .ref (md 21), .ref (md 22), .ref (md 23), .ref (md 24)])), (md 9, .inl (g.2.1 0, 1024, .inl (wr)))] [] H locs := hw
                                              have hw : WD g A s [(md 2, .inl (g.2.1 0, 64, .inl (se))), (md 23, .inl (g.2.1 0, 16, .inl (wd))), (md 24, .inl (g.2.1 0, 16, .inl (mx))), (md 4, .inl (g.2.1 0, 2, .inl (szF epn))), (md 6, .inl (g.2.1 2, 2, .inl (smf))), (md 7, .inl (g.2.1 1, 2, .inr (.inl (gtf)))), (md 8, .inl (g.2.1 2, 128, .inl (shM snf 64 bb k9))), (md 13, .inl (g.2.1 0, 96, .inl (ibf))), (md 10, .inl (g.2.1 0, 8, .inl (szF z))), (md 17, .inl (g.2.1 0, 400, .inl (r2_20))), (md 16, .inl (g.2.1 0, 64, .inl (w2_21))), (md 15, .inl (g.2.1 0, 8, .inl (s2_22))), (md 22, .inl (g.2.1 0, 64, .inl (kRW))), (md 18, .inl (g.2.1 0, 32, .inl (hmv tk (f k) (15 + ln)))), (md 19, .inl (g.2.1 0, 32, .inl (k2_23))), (md 21, .inl (g.2.1 0, 160, .inl (m2_24))), (md 3, .inl (g.2.1 0, 64, .inl (te))), (md 25, .inr (7, [.ref (md 0), .int (nI op), .ref (md 2), .ref (md 3), .ref (md 4), .ref (md 5), .ref (md 6), .ref (md 7), .ref (md 8), .ref (md 9), .ref (md 10), .ref (md 11), .int (nI on), .ref (md 13), .int (nI inn), .ref (md 15), .ref (md 16), .ref (md 17), .ref (md 18), .ref (md 19), .ref (md 20), .ref (md 21), .ref (md 22), .ref (md 23), .ref (md 24)])), (md 9, .inl (g.2.1 0, 1024, .inl (wr)))] [] H locs := by rw [← shM_up snf 64 bb k9 (by omega)]; first | (rw [if_neg (by omega)]; exact hw) | (rw [if_pos (by omega), ← bI_T cV]; exact hw) | (rw [if_pos (by omega), ← bI_F (fun q => q cV)]; exact hw)
                                              refine lv_iinc (v := nP k9) (lv' := [(13, .int (nP k9)), (14, .int (nI 0)), (0, .ref (md 25)), (1, .int (nI k)), (3, .int (nI (128 * k))), (4, .int (nI 1)), (5, .int (nI ln)), (6, .long (nAt (f k) 5 8)), (11, .long ((nAt (f k) 5 8) - gtf 1))]) hx hb dX7_deliver_367 hl (k := 1) rfl (rfl) (by decide) rfl (fun ls hl => ?_)
                                              refine lv_goto (tgt := 282) hx hb dX7_deliver_370 (by decide) ?_
                                              exact ih k9 (by omega) (by omega) _ _ _ hw (lv_sub hl [0, 2, 3, 4, 5, 6, 7, 8] rfl)
                                            · skip
                                              rw [← nI_0] at c56
                                              have c56 : ¬ 0 = 0 := fun q => c56 (((nI_eq (by omega) (by omega)).mpr q))
                                              exfalso; omega
                                          · skip
                                            have c55n : ¬ ((nI k9).toInt64) < ((nAt (f k) 5 8) - gtf 1) := fun q => c55 ((lg_cmp_lt _ _).mpr q)
                                            have c55 : ((nAt (f k) 5 8) - gtf 1) ≤ ((nI k9).toInt64) := Int64.not_lt.mp c55n
                                            have hkb : bb ≤ k9 := by have q := c55n; rw [hbb, nI_l (by omega), lN_lt (by omega) (by omega)] at q; omega
                                            refine lv_iconst (v := nI 1) hx hb dX7_deliver_317 (by decide +kernel) ?_
                                            refine lv_goto (tgt := 322) hx hb dX7_deliver_318 (by decide) ?_
                                            refine lv_istore (lv' := [(14, .int (nI 1)), (13, .int (nI k9)), (0, .ref (md 25)), (1, .int (nI k)), (3, .int (nI (128 * k))), (4, .int (nI 1)), (5, .int (nI ln)), (6, .long (nAt (f k) 5 8)), (11, .long ((nAt (f k) 5 8) - gtf 1))]) hx hb dX7_deliver_322 hl (by decide) rfl (fun ls hl => ?_)
                                            refine lv_aload_n hx hb dX7_deliver_324 rfl (lv_at hl 2 rfl) ?_
                                            refine r_get (ci := 7) (v := .ref (md 8)) (C := RX7) (T := TX7) (N := 25) hx hb hts hinX7 hown h0 hw 17 rfl rfl 8 (by decide) k33 rfl dX7_deliver_325 ?_
                                            refine lv_bipush (v := nI 64) hx hb dX7_deliver_328 (by decide +kernel) ?_
                                            refine lv_iload hx hb dX7_deliver_330 (lv_at hl 5 rfl) ?_
                                            refine lv_imul hx hb dX7_deliver_332 ?_
                                            refine r_te (y := nI 64) (pk_mul 64 1) ?_
                                            refine lv_iload hx hb dX7_deliver_333 (lv_at hl 1 rfl) ?_
                                            refine lv_iadd hx hb dX7_deliver_335 ?_
                                            refine r_te (y := nI (64 + k9)) (nI_add 64 k9) ?_
                                            refine lv_iload hx hb dX7_deliver_336 (lv_at hl 0 rfl) ?_
                                            refine lv_if_eq (tgt := 365) hx hb dX7_deliver_338 (by decide) (fun c57 => ?_) (fun c57 => ?_)
                                            · skip
                                              rw [← nI_0] at c57
                                              have c57 : 1 = 0 := (nI_eq (by omega) (by omega)).mp c57
                                              exfalso; omega
                                            · skip
                                              rw [← nI_0] at c57
                                              have c57 : ¬ 1 = 0 := fun q => c57 (((nI_eq (by omega) (by omega)).mpr q))
                                              refine lv_aload_n hx hb dX7_deliver_341 rfl (lv_at hl 2 rfl) ?_
                                              refine r_get (ci := 7) (v := .ref (md 8)) (C := RX7) (T := TX7) (N := 25) hx hb hts hinX7 hown h0 hw 17 rfl rfl 8 (by decide) k33 rfl dX7_deliver_342 ?_
                                              refine lv_bipush (v := nI 64) hx hb dX7_deliver_345 (by decide +kernel) ?_
                                              refine lv_iload hx hb dX7_deliver_347 (lv_at hl 5 rfl) ?_
                                              refine lv_imul hx hb dX7_deliver_349 ?_
                                              refine r_te (y := nI 64) (pk_mul 64 1) ?_
                                              refine lv_iload hx hb dX7_deliver_350 (lv_at hl 1 rfl) ?_
                                              refine lv_iadd hx hb dX7_deliver_352 ?_
                                              refine r_te (y := nI (64 + k9)) (nI_add 64 k9) ?_
                                              refine lv_lload hx hb dX7_deliver_353 (lv_at hl 8 rfl) ?_
                                              refine lv_l2i (v := ((nAt (f k) 5 8) - gtf 1).toInt32) hx hb dX7_deliver_355 rfl ?_
                                              refine r_te (y := nI bb) (by rw [hbb]; exact lN_i bb) ?_
                                              refine lv_isub hx hb dX7_deliver_356 ?_
                                              refine r_te (y := nI (64 + k9 - bb)) (pk_sub (by omega)) ?_
                                              refine r_zald hx hb h0 hw 6 rfl (i := 64 + k9 - bb) (by omega) (by omega) dX7_deliver_357 ?_
                                              refine r_te (y := snf (64 + k9 - bb)) (shM_lo snf 64 bb (k9 + 1) _ (by omega)) ?_
                                              refine lv_if_eq (tgt := 365) hx hb dX7_deliver_358 (by decide) (fun c58 => ?_) (fun c58 => ?_)
                                              · skip
                                                have cV := c58
                                                refine lv_iconst (v := nI 0) hx hb dX7_deliver_365 (by decide +kernel) ?_
                                                refine r_zast hx hb h0 hw 6 rfl (i := 64 + k9) (by decide +kernel) (by omega) (by omega) dX7_deliver_366 (fun H locs hw => ?_)
                                                have hw : WD g A s [(md 2, .inl (g.2.1 0, 64, .inl (se))), (md 23, .inl (g.2.1 0, 16, .inl (wd))), (md 24, .inl (g.2.1 0, 16, .inl (mx))), (md 4, .inl (g.2.1 0, 2, .inl (szF epn))), (md 6, .inl (g.2.1 2, 2, .inl (smf))), (md 7, .inl (g.2.1 1, 2, .inr (.inl (gtf)))), (md 8, .inl (g.2.1 2, 128, .inl (upd (shM snf 64 bb (k9 + 1)) (64 + k9) (nI 0)))), (md 13, .inl (g.2.1 0, 96, .inl (ibf))), (md 10, .inl (g.2.1 0, 8, .inl (szF z))), (md 17, .inl (g.2.1 0, 400, .inl (r2_20))), (md 16, .inl (g.2.1 0, 64, .inl (w2_21))), (md 15, .inl (g.2.1 0, 8, .inl (s2_22))), (md 22, .inl (g.2.1 0, 64, .inl (kRW))), (md 18, .inl (g.2.1 0, 32, .inl (hmv tk (f k) (15 + ln)))), (md 19, .inl (g.2.1 0, 32, .inl (k2_23))), (md 21, .inl (g.2.1 0, 160, .inl (m2_24))), (md 3, .inl (g.2.1 0, 64, .inl (te))), (md 25, .inr (7, [.ref (md 0), .int (nI op), .ref (md 2), .ref (md 3), .ref (md 4), .ref (md 5), .ref (md 6), .ref (md 7), .ref (md 8), .ref (md 9), .ref (md 10), .ref (md 11), .int (nI on), .ref (md 13), .int (nI inn), .ref (md 15), .ref (md 16), .ref (md 17), .ref (md 18), .ref (md 19), .ref (md 20), .ref (md 21), .ref (md 22), .ref (md 23), .ref (md 24)])), (md 9, .inl (g.2.1 0, 1024, .inl (wr)))] [] H locs := hw
                                                have hw : WD g A s [(md 2, .inl (g.2.1 0, 64, .inl (se))), (md 23, .inl (g.2.1 0, 16, .inl (wd))), (md 24, .inl (g.2.1 0, 16, .inl (mx))), (md 4, .inl (g.2.1 0, 2, .inl (szF epn))), (md 6, .inl (g.2.1 2, 2, .inl (smf))), (md 7, .inl (g.2.1 1, 2, .inr (.inl (gtf)))), (md 8, .inl (g.2.1 2, 128, .inl (shM snf 64 bb k9))), (md 13, .inl (g.2.1 0, 96, .inl (ibf))), (md 10, .inl (g.2.1 0, 8, .inl (szF z))), (md 17, .inl (g.2.1 0, 400, .inl (r2_20))), (md 16, .inl (g.2.1 0, 64, .inl (w2_21))), (md 15, .inl (g.2.1 0, 8, .inl (s2_22))), (md 22, .inl (g.2.1 0, 64, .inl (kRW))), (md 18, .inl (g.2.1 0, 32, .inl (hmv tk (f k) (15 + ln)))), (md 19, .inl (g.2.1 0, 32, .inl (k2_23))), (md 21, .inl (g.2.1 0, 160, .inl (m2_24))), (md 3, .inl (g.2.1 0, 64, .inl (te))), (md 25, .inr (7, [.ref (md 0), .int (nI op), .ref (md 2), .ref (md 3), .ref (md 4), .ref (md 5), .ref (md 6), .ref (md 7), .ref (md 8), .ref (md 9), .ref (md 10), .ref (md 11), .int (nI on), .ref (md 13), .int (nI inn), .ref (md 15), .ref (md 16), .ref (md 17), .ref (md 18), .ref (md 19), .ref (md 20), .ref (md 21), .ref (md 22), .ref (md 23), .ref (md 24)])), (md 9, .inl (g.2.1 0, 1024, .inl (wr)))] [] H locs := by rw [← shM_up snf 64 bb k9 (by omega)]; first | (rw [if_neg (by omega)]; exact hw) | (rw [if_pos (by omega), ← bI_T cV]; exact hw) | (rw [if_pos (by omega), ← bI_F (fun q => q cV)]; exact hw)
                                                refine lv_iinc (v := nP k9) (lv' := [(13, .int (nP k9)), (14, .int (nI 1)), (0, .ref (md 25)), (1, .int (nI k)), (3, .int (nI (128 * k))), (4, .int (nI 1)), (5, .int (nI ln)), (6, .long (nAt (f k) 5 8)), (11, .long ((nAt (f k) 5 8) - gtf 1))]) hx hb dX7_deliver_367 hl (k := 1) rfl (rfl) (by decide) rfl (fun ls hl => ?_)
                                                refine lv_goto (tgt := 282) hx hb dX7_deliver_370 (by decide) ?_
                                                exact ih k9 (by omega) (by omega) _ _ _ hw (lv_sub hl [0, 2, 3, 4, 5, 6, 7, 8] rfl)
                                              · skip
                                                have cV := c58
                                                refine lv_iconst (v := nI 1) hx hb dX7_deliver_361 (by decide +kernel) ?_
                                                refine lv_goto (tgt := 366) hx hb dX7_deliver_362 (by decide) ?_
                                                refine r_zast hx hb h0 hw 6 rfl (i := 64 + k9) (by decide +kernel) (by omega) (by omega) dX7_deliver_366 (fun H locs hw => ?_)
                                                have hw : WD g A s [(md 2, .inl (g.2.1 0, 64, .inl (se))), (md 23, .inl (g.2.1 0, 16, .inl (wd))), (md 24, .inl (g.2.1 0, 16, .inl (mx))), (md 4, .inl (g.2.1 0, 2, .inl (szF epn))), (md 6, .inl (g.2.1 2, 2, .inl (smf))), (md 7, .inl (g.2.1 1, 2, .inr (.inl (gtf)))), (md 8, .inl (g.2.1 2, 128, .inl (upd (shM snf 64 bb (k9 + 1)) (64 + k9) (nI 1)))), (md 13, .inl (g.2.1 0, 96, .inl (ibf))), (md 10, .inl (g.2.1 0, 8, .inl (szF z))), (md 17, .inl (g.2.1 0, 400, .inl (r2_20))), (md 16, .inl (g.2.1 0, 64, .inl (w2_21))), (md 15, .inl (g.2.1 0, 8, .inl (s2_22))), (md 22, .inl (g.2.1 0, 64, .inl (kRW))), (md 18, .inl (g.2.1 0, 32, .inl (hmv tk (f k) (15 + ln)))), (md 19, .inl (g.2.1 0, 32, .inl (k2_23))), (md 21, .inl (g.2.1 0, 160, .inl (m2_24))), (md 3, .inl (g.2.1 0, 64, .inl (te))), (md 25, .inr (7, [.ref (md 0), .int (nI op), .ref (md 2), .ref (md 3), .ref (md 4), .ref (md 5), .ref (md 6), .ref (md 7), .ref (md 8), .ref (md 9), .ref (md 10), .ref (md 11), .int (nI on), .ref (md 13), .int (nI inn), .ref (md 15), .ref (md 16), .ref (md 17), .ref (md 18), .ref (md 19), .ref (md 20), .ref (md 21), .ref (md 22), .ref (md 23), .ref (md 24)])), (md 9, .inl (g.2.1 0, 1024, .inl (wr)))] [] H locs := hw
                                                have hw : WD g A s [(md 2, .inl (g.2.1 0, 64, .inl (se))), (md 23, .inl (g.2.1 0, 16, .inl (wd))), (md 24, .inl (g.2.1 0, 16, .inl (mx))), (md 4, .inl (g.2.1 0, 2, .inl (szF epn))), (md 6, .inl (g.2.1 2, 2, .inl (smf))), (md 7, .inl (g.2.1 1, 2, .inr (.inl (gtf)))), (md 8, .inl (g.2.1 2, 128, .inl (shM snf 64 bb k9))), (md 13, .inl (g.2.1 0, 96, .inl (ibf))), (md 10, .inl (g.2.1 0, 8, .inl (szF z))), (md 17, .inl (g.2.1 0, 400, .inl (r2_20))), (md 16, .inl (g.2.1 0, 64, .inl (w2_21))), (md 15, .inl (g.2.1 0, 8, .inl (s2_22))), (md 22, .inl (g.2.1 0, 64, .inl (kRW))), (md 18, .inl (g.2.1 0, 32, .inl (hmv tk (f k) (15 + ln)))), (md 19, .inl (g.2.1 0, 32, .inl (k2_23))), (md 21, .inl (g.2.1 0, 160, .inl (m2_24))), (md 3, .inl (g.2.1 0, 64, .inl (te))), (md 25, .inr (7, [.ref (md 0), .int (nI op), .ref (md 2), .ref (md 3), .ref (md 4), .ref (md 5), .ref (md 6), .ref (md 7), .ref (md 8), .ref (md 9), .ref (md 10), .ref (md 11), .int (nI on), .ref (md 13), .int (nI inn), .ref (md 15), .ref (md 16), .ref (md 17), .ref (md 18), .ref (md 19), .ref (md 20), .ref (md 21), .ref (md 22), .ref (md 23), .ref (md 24)])), (md 9, .inl (g.2.1 0, 1024, .inl (wr)))] [] H locs := by rw [← shM_up snf 64 bb k9 (by omega)]; first | (rw [if_neg (by omega)]; exact hw) | (rw [if_pos (by omega), ← bI_T cV]; exact hw) | (rw [if_pos (by omega), ← bI_F (fun q => q cV)]; exact hw)
                                                refine lv_iinc (v := nP k9) (lv' := [(13, .int (nP k9)), (14, .int (nI 1)), (0, .ref (md 25)), (1, .int (nI k)), (3, .int (nI (128 * k))), (4, .int (nI 1)), (5, .int (nI ln)), (6, .long (nAt (f k) 5 8)), (11, .long ((nAt (f k) 5 8) - gtf 1))]) hx hb dX7_deliver_367 hl (k := 1) rfl (rfl) (by decide) rfl (fun ls hl => ?_)
                                                refine lv_goto (tgt := 282) hx hb dX7_deliver_370 (by decide) ?_
                                                exact ih k9 (by omega) (by omega) _ _ _ hw (lv_sub hl [0, 2, 3, 4, 5, 6, 7, 8] rfl)
                                rw [show nI 63 = nP 64 from (nP_succ 63).symm] at hl
                                have hw : WD g A s [(md 2, .inl (g.2.1 0, 64, .inl (se))), (md 23, .inl (g.2.1 0, 16, .inl (wd))), (md 24, .inl (g.2.1 0, 16, .inl (mx))), (md 4, .inl (g.2.1 0, 2, .inl (szF epn))), (md 6, .inl (g.2.1 2, 2, .inl (smf))), (md 7, .inl (g.2.1 1, 2, .inr (.inl (gtf)))), (md 8, .inl (g.2.1 2, 128, .inl (shM snf 64 bb 64))), (md 13, .inl (g.2.1 0, 96, .inl (ibf))), (md 10, .inl (g.2.1 0, 8, .inl (szF z))), (md 17, .inl (g.2.1 0, 400, .inl (r2_20))), (md 16, .inl (g.2.1 0, 64, .inl (w2_21))), (md 15, .inl (g.2.1 0, 8, .inl (s2_22))), (md 22, .inl (g.2.1 0, 64, .inl (kRW))), (md 18, .inl (g.2.1 0, 32, .inl (hmv tk (f k) (15 + ln)))), (md 19, .inl (g.2.1 0, 32, .inl (k2_23))), (md 21, .inl (g.2.1 0, 160, .inl (m2_24))), (md 3, .inl (g.2.1 0, 64, .inl (te))), (md 25, .inr (7, [.ref (md 0), .int (nI op), .ref (md 2), .ref (md 3), .ref (md 4), .ref (md 5), .ref (md 6), .ref (md 7), .ref (md 8), .ref (md 9), .ref (md 10), .ref (md 11), .int (nI on), .ref (md 13), .int (nI inn), .ref (md 15), .ref (md 16), .ref (md 17), .ref (md 18), .ref (md 19), .ref (md 20), .ref (md 21), .ref (md 22), .ref (md 23), .ref (md 24)])), (md 9, .inl (g.2.1 0, 1024, .inl (wr)))] [] H locs := by rw [shM_64]; exact hw
                                exact lp282 (64 + 1) 64 (by omega) (by omega) _ _ _ hw (lv_sub hl [0, 5, 6, 7, 8, 9, 4, 1] rfl)
                            · skip
                              rw [← nI_0] at c37
                              have c37 : ¬ 0 = 0 := fun q => c37 (((nI_eq (by omega) (by omega)).mpr q))
                              exfalso; omega
                          · skip
                            rw [← nI_0] at c36
                            have c36 : ¬ 0 = 0 := fun q => c36 (((nI_eq (by omega) (by omega)).mpr q))
                            exfalso; omega
                        · skip
                          have c35 : ¬ (lowU (gtf 1) (nAt (f k) 5 8)) := bI_f c35
                          exact absurd hlow c35
                    · skip
                      have c25 : ¬ 16 ≤ q := fun q => c25 (((nI_leI (by omega) (by omega)).mpr q))
                      refine lv_aload_n hx hb dX7_deliver_130 rfl (lv_at hl 1 rfl) ?_
                      refine r_get (ci := 7) (v := .ref (md 9)) (C := RX7) (T := TX7) (N := 25) hx hb hts hinX7 hown h0 hw 9 rfl rfl 9 (by decide) k36 rfl dX7_deliver_131 ?_
                      refine lv_iload_n hx hb dX7_deliver_134 rfl (lv_at hl 3 rfl) ?_
                      refine lv_bipush (v := nI 15) hx hb dX7_deliver_135 (by decide +kernel) ?_
                      refine lv_iadd hx hb dX7_deliver_137 ?_
                      refine r_te (y := nI (128 * k + 15)) (nI_add (128 * k) 15) ?_
                      refine lv_iload hx hb dX7_deliver_138 (lv_at hl 5 rfl) ?_
                      refine lv_iadd hx hb dX7_deliver_140 ?_
                      refine r_te (y := nI (128 * k + 15 + ln)) (nI_add (128 * k + 15) ln) ?_
                      refine lv_iload hx hb dX7_deliver_141 (lv_at hl 0 rfl) ?_
                      refine lv_iadd hx hb dX7_deliver_143 ?_
                      refine r_te (y := nI (128 * k + 15 + ln + q)) (nI_add (128 * k + 15 + ln) q) ?_
                      refine r_iald hx hb h0 hw 18 rfl (i := 128 * k + 15 + ln + q) (by omega) (by omega) dX7_deliver_144 ?_
                      refine r_te (y := f k (15 + ln + q)) (by first | exact hwr (15 + ln + q) (by omega) | (have := hwr (15 + ln + q) (by omega); simpa [Nat.add_assoc] using this)) ?_
                      refine lv_aload_n hx hb dX7_deliver_145 rfl (lv_at hl 1 rfl) ?_
                      refine r_get (ci := 7) (v := .ref (md 18)) (C := RX7) (T := TX7) (N := 25) hx hb hts hinX7 hown h0 hw 9 rfl rfl 18 (by decide) k57 rfl dX7_deliver_146 ?_
                      refine lv_iload hx hb dX7_deliver_149 (lv_at hl 0 rfl) ?_
                      refine r_iald hx hb h0 hw 14 rfl (i := q) (by omega) (by omega) dX7_deliver_151 ?_
                      refine lv_icmp_eq (tgt := 157) hx hb dX7_deliver_152 (by decide) (fun c59 => ?_) (fun c59 => ?_)
                      · skip
                        have cE := c59
                        refine lv_iinc (v := nI (q + 1)) (lv' := [(6, .int (nI (q + 1))), (0, .ref (md 25)), (1, .int (nI k)), (3, .int (nI (128 * k))), (4, .int (nI 1)), (5, .int (nI ln))]) hx hb dX7_deliver_157 hl (k := 0) rfl (nI_add q 1) (by decide) rfl (fun ls hl => ?_)
                        refine lv_goto (tgt := 123) hx hb dX7_deliver_160 (by decide) ?_
                        exact ih (q + 1) (by omega) (by omega) (fun j hj => (Nat.lt_succ_iff_lt_or_eq.mp hj).elim (hv j) (fun q9 => by rw [q9]; exact cE)) _ _ _ hw (lv_sub hl [0, 1, 2, 3, 4, 5] rfl)
                      · skip
                        exact absurd (htag q (by omega)) c59
                exact lp123 (16 - 0 + 1) 0 (by omega) (by omega) (fun j hj => absurd hj (Nat.not_lt_zero j)) _ _ _ hw (lv_sub hl [0, 4, 5, 3, 2, 1] rfl)
              · skip
                have c16 : ¬ (nAt (f k) 1 4) = ((nI (epn 1)).toInt64) := fun q => c16 ((lg_cmp_eq _ _).mpr q)
                exact absurd he3 c16
            · skip
              have c12 : ¬ (z k) = (15 + ln + 16) := fun q => c12 (((nI_eq (by omega) (by omega)).mpr q))
              exfalso; omega
      · skip
        rw [← nI_0] at c6
        have c6 : op = 0 := (nI_eq (by omega) (by omega)).mp c6
        exfalso; omega
    · skip
      rw [← nI_0] at c5
      have c5 : ¬ 0 = 0 := fun q => c5 (((nI_eq (by omega) (by omega)).mpr q))
      exfalso; omega
