set_option maxHeartbeats 4000000 in
set_option maxRecDepth 100000 in
theorem c_X6_isSide (l : Launch) (g : GE) (x : Int32) (sz : Nat) : MI l yX6_isSide wsX6_isSide { frames := 0, cells := 0, slots := 0, locals := 0 } g [.int (x)] [] sz (fun (r : Int32) (_ : Unit) => r = bI (decide (inR x 2))) (fun (_ : Unit) => []) 0 0 := by
  refine enterZ (by decide) rfl (Nat.le_of_ble_eq_true rfl) ?_
  intro p e s m below meth c A ls ar Q hE h0 hret hw hl
  obtain ⟨hx, hb, hr, hml, hown, hts, hlocks, hname⟩ := hE
  have hown : s.vm.findClass RX6 = some m.cls := hown
  have hw : WD g A s [] [] s.heap [] := hw
  have hl : lv_has ls 1 [(0, .int (x))] := hl
  refine lv_iload_n hx hb dX6_isSide_0 rfl (lv_at hl 0 rfl) ?_
  refine lv_if_lt (tgt := 13) hx hb dX6_isSide_1 (by decide) (fun c1 => ?_) (fun c1 => ?_)
  · skip
    refine lv_iconst (v := nI 0) hx hb dX6_isSide_13 (by decide +kernel) ?_
    exact hret (rfl) hw () (by first | exact bI_T ⟨Int32.not_lt.mp c1, Int32.not_le.mp c2⟩ | exact bI_F (fun q => absurd q.1 (Int32.not_le.mpr c1)) | exact bI_F (fun q => absurd q.2 (Int32.not_lt.mpr c2))) (rfl) (by omega) (by omega) dX6_isSide_14
  · skip
    refine lv_iload_n hx hb dX6_isSide_4 rfl (lv_at hl 0 rfl) ?_
    refine lv_iconst (v := nI 2) hx hb dX6_isSide_5 (by decide +kernel) ?_
    refine lv_icmp_ge (tgt := 13) hx hb dX6_isSide_6 (by decide) (fun c2 => ?_) (fun c2 => ?_)
    · skip
      refine lv_iconst (v := nI 0) hx hb dX6_isSide_13 (by decide +kernel) ?_
      exact hret (rfl) hw () (by first | exact bI_T ⟨Int32.not_lt.mp c1, Int32.not_le.mp c2⟩ | exact bI_F (fun q => absurd q.1 (Int32.not_le.mpr c1)) | exact bI_F (fun q => absurd q.2 (Int32.not_lt.mpr c2))) (rfl) (by omega) (by omega) dX6_isSide_14
    · skip
      refine lv_iconst (v := nI 1) hx hb dX6_isSide_9 (by decide +kernel) ?_
      refine lv_goto (tgt := 14) hx hb dX6_isSide_10 (by decide) ?_
      exact hret (rfl) hw () (by first | exact bI_T ⟨Int32.not_lt.mp c1, Int32.not_le.mp c2⟩ | exact bI_F (fun q => absurd q.1 (Int32.not_le.mpr c1)) | exact bI_F (fun q => absurd q.2 (Int32.not_lt.mpr c2))) (rfl) (by omega) (by omega) dX6_isSide_14

set_option maxHeartbeats 4000000 in
set_option maxRecDepth 100000 in
theorem c_X6_isSlot (l : Launch) (g : GE) (x : Int32) (sz : Nat) : MI l yX6_isSlot wsX6_isSlot { frames := 0, cells := 0, slots := 0, locals := 0 } g [.int (x)] [] sz (fun (r : Int32) (_ : Unit) => r = bI (decide (inR x 8))) (fun (_ : Unit) => []) 0 0 := by
  refine enterZ (by decide) rfl (Nat.le_of_ble_eq_true rfl) ?_
  intro p e s m below meth c A ls ar Q hE h0 hret hw hl
  obtain ⟨hx, hb, hr, hml, hown, hts, hlocks, hname⟩ := hE
  have hown : s.vm.findClass RX6 = some m.cls := hown
  have hw : WD g A s [] [] s.heap [] := hw
  have hl : lv_has ls 1 [(0, .int (x))] := hl
  refine lv_iload_n hx hb dX6_isSlot_0 rfl (lv_at hl 0 rfl) ?_
  refine lv_if_lt (tgt := 14) hx hb dX6_isSlot_1 (by decide) (fun c1 => ?_) (fun c1 => ?_)
  · skip
    refine lv_iconst (v := nI 0) hx hb dX6_isSlot_14 (by decide +kernel) ?_
    exact hret (rfl) hw () (by first | exact bI_T ⟨Int32.not_lt.mp c1, Int32.not_le.mp c2⟩ | exact bI_F (fun q => absurd q.1 (Int32.not_le.mpr c1)) | exact bI_F (fun q => absurd q.2 (Int32.not_lt.mpr c2))) (rfl) (by omega) (by omega) dX6_isSlot_15
  · skip
    refine lv_iload_n hx hb dX6_isSlot_4 rfl (lv_at hl 0 rfl) ?_
    refine lv_bipush (v := nI 8) hx hb dX6_isSlot_5 (by decide +kernel) ?_
    refine lv_icmp_ge (tgt := 14) hx hb dX6_isSlot_7 (by decide) (fun c2 => ?_) (fun c2 => ?_)
    · skip
      refine lv_iconst (v := nI 0) hx hb dX6_isSlot_14 (by decide +kernel) ?_
      exact hret (rfl) hw () (by first | exact bI_T ⟨Int32.not_lt.mp c1, Int32.not_le.mp c2⟩ | exact bI_F (fun q => absurd q.1 (Int32.not_le.mpr c1)) | exact bI_F (fun q => absurd q.2 (Int32.not_lt.mpr c2))) (rfl) (by omega) (by omega) dX6_isSlot_15
    · skip
      refine lv_iconst (v := nI 1) hx hb dX6_isSlot_10 (by decide +kernel) ?_
      refine lv_goto (tgt := 15) hx hb dX6_isSlot_11 (by decide) ?_
      exact hret (rfl) hw () (by first | exact bI_T ⟨Int32.not_lt.mp c1, Int32.not_le.mp c2⟩ | exact bI_F (fun q => absurd q.1 (Int32.not_le.mpr c1)) | exact bI_F (fun q => absurd q.2 (Int32.not_lt.mpr c2))) (rfl) (by omega) (by omega) dX6_isSlot_15

set_option maxHeartbeats 4000000 in
set_option maxRecDepth 100000 in
theorem c_X6_isByte (l : Launch) (g : GE) (x : Int32) (sz : Nat) : MI l yX6_isByte wsX6_isByte { frames := 0, cells := 0, slots := 0, locals := 0 } g [.int (x)] [] sz (fun (r : Int32) (_ : Unit) => r = bI (decide (inR x 256))) (fun (_ : Unit) => []) 0 0 := by
  refine enterZ (by decide) rfl (Nat.le_of_ble_eq_true rfl) ?_
  intro p e s m below meth c A ls ar Q hE h0 hret hw hl
  obtain ⟨hx, hb, hr, hml, hown, hts, hlocks, hname⟩ := hE
  have hown : s.vm.findClass RX6 = some m.cls := hown
  have hw : WD g A s [] [] s.heap [] := hw
  have hl : lv_has ls 1 [(0, .int (x))] := hl
  refine lv_iload_n hx hb dX6_isByte_0 rfl (lv_at hl 0 rfl) ?_
  refine lv_if_lt (tgt := 15) hx hb dX6_isByte_1 (by decide) (fun c1 => ?_) (fun c1 => ?_)
  · skip
    refine lv_iconst (v := nI 0) hx hb dX6_isByte_15 (by decide +kernel) ?_
    exact hret (rfl) hw () (by first | exact bI_T ⟨Int32.not_lt.mp c1, i32_le255 c2⟩ | exact bI_F (fun q => absurd q.1 (Int32.not_le.mpr c1)) | exact bI_F (fun q => i32_gt255 c2 q.2)) (rfl) (by omega) (by omega) dX6_isByte_16
  · skip
    refine lv_iload_n hx hb dX6_isByte_4 rfl (lv_at hl 0 rfl) ?_
    refine lv_sipush (v := nI 255) hx hb dX6_isByte_5 (by decide +kernel) ?_
    refine lv_icmp_gt (tgt := 15) hx hb dX6_isByte_8 (by decide) (fun c2 => ?_) (fun c2 => ?_)
    · skip
      refine lv_iconst (v := nI 0) hx hb dX6_isByte_15 (by decide +kernel) ?_
      exact hret (rfl) hw () (by first | exact bI_T ⟨Int32.not_lt.mp c1, i32_le255 c2⟩ | exact bI_F (fun q => absurd q.1 (Int32.not_le.mpr c1)) | exact bI_F (fun q => i32_gt255 c2 q.2)) (rfl) (by omega) (by omega) dX6_isByte_16
    · skip
      refine lv_iconst (v := nI 1) hx hb dX6_isByte_11 (by decide +kernel) ?_
      refine lv_goto (tgt := 16) hx hb dX6_isByte_12 (by decide) ?_
      exact hret (rfl) hw () (by first | exact bI_T ⟨Int32.not_lt.mp c1, i32_le255 c2⟩ | exact bI_F (fun q => absurd q.1 (Int32.not_le.mpr c1)) | exact bI_F (fun q => i32_gt255 c2 q.2)) (rfl) (by omega) (by omega) dX6_isByte_16

set_option maxHeartbeats 4000000 in
set_option maxRecDepth 100000 in
theorem c_X6_gotLen (l : Launch) (g : GE) (ad : Nat → Nat) (op : Nat) (inn : Nat) (sz : Nat) : MI l yX6_gotLen wsX6_gotLen { frames := 1, cells := 0, slots := 0, locals := 20 } g [.ref (ad 0)] [(ad 0, .inr (6, [.ref (ad 1), .ref (ad 2), .ref (ad 3), .ref (ad 4), .ref (ad 14), .ref (ad 15), .ref (ad 16), .ref (ad 18), .int (nI op)])), (ad 18, .inr (0, [.ref (ad 19), .int (nI inn)]))] sz (fun (r : Int32) (_ : Unit) => r = nI inn) (fun (_ : Unit) => [(ad 0, .inr (6, [.ref (ad 1), .ref (ad 2), .ref (ad 3), .ref (ad 4), .ref (ad 14), .ref (ad 15), .ref (ad 16), .ref (ad 18), .int (nI op)])), (ad 18, .inr (0, [.ref (ad 19), .int (nI inn)]))]) 0 0 := by
  refine enterI (by decide) rfl (Nat.le_of_ble_eq_true rfl) ?_
  intro p e s m below meth c A ls ar Q hE h0 hret hw hl
  obtain ⟨hx, hb, hr, hml, hown, hts, hlocks, hname⟩ := hE
  have hown : s.vm.findClass RX6 = some m.cls := hown
  have hw : WD g A s [(ad 0, .inr (6, [.ref (ad 1), .ref (ad 2), .ref (ad 3), .ref (ad 4), .ref (ad 14), .ref (ad 15), .ref (ad 16), .ref (ad 18), .int (nI op)])), (ad 18, .inr (0, [.ref (ad 19), .int (nI inn)]))] [] s.heap [] := hw
  have hinX6 : ∀ w ∈ u_ws RX6 TX6 9, w ∈ wsX6_gotLen := by decide +kernel
  have k43 := hts (.fieldLink RX6 43 "RecordWire" "inbox" "LRecordWire$ByteRow;") (by decide +kernel)
  have hl : lv_has ls 1 [(0, .ref (ad 0))] := hl
  refine lv_aload_n hx hb dX6_gotLen_0 rfl (lv_at hl 0 rfl) ?_
  refine r_get (ci := 6) (v := .ref (ad 18)) (C := RX6) (T := TX6) (N := 9) hx hb hts hinX6 hown h0 hw 0 rfl rfl 7 (by decide) k43 rfl dX6_gotLen_1 ?_
  refine r_calli (wr := [(ad 0, .inr (6, [.ref (ad 1), .ref (ad 2), .ref (ad 3), .ref (ad 4), .ref (ad 14), .ref (ad 15), .ref (ad 16), .ref (ad 18), .int (nI op)]))]) [1] [0] h0 hw rfl rfl (by decide) (by decide) (va_runV (As := []) (rest := []) ⟨hx, hb, hml, hown, hts⟩ (c_X0_size l g (ad 18) (ad 19) inn  _) (cwV 0 hts gX6_gotLen_X0_size rfl rfl rfl (by decide +kernel) ⟨Nat.le_of_ble_eq_true rfl, Nat.le_of_ble_eq_true rfl⟩) (preV_of [1] [] h0 hw rfl (by decide) 1 0 rfl rfl) rfl rfl hl.1 rfl (lv_room (Nat.le_of_ble_eq_true rfl)) dX6_gotLen_4 ⟨Nat.le_of_ble_eq_true rfl, Nat.le_of_ble_eq_true rfl⟩) (fun r1 u2 H locs hp3 hw => ?_)
  have hw : WD g A s [(ad 0, .inr (6, [.ref (ad 1), .ref (ad 2), .ref (ad 3), .ref (ad 4), .ref (ad 14), .ref (ad 15), .ref (ad 16), .ref (ad 18), .int (nI op)])), (ad 18, .inr (0, [.ref (ad 19), .int (nI inn)]))] [] H locs := hw
  subst hp3
  exact hret hw () (rfl) (rfl) (by omega) (by omega) dX6_gotLen_7

set_option maxHeartbeats 4000000 in
set_option maxRecDepth 100000 in
theorem c_X6_got (l : Launch) (g : GE) (ad : Nat → Nat) (op : Nat) (inn : Nat) (ibf : Nat → Int32) (i : Nat) (hi : i < inn) (hn : inn ≤ 127) (sz : Nat) : MI l yX6_got wsX6_got { frames := 1, cells := 0, slots := 0, locals := 21 } g [.ref (ad 0), .int (nI i)] [(ad 0, .inr (6, [.ref (ad 1), .ref (ad 2), .ref (ad 3), .ref (ad 4), .ref (ad 14), .ref (ad 15), .ref (ad 16), .ref (ad 18), .int (nI op)])), (ad 18, .inr (0, [.ref (ad 19), .int (nI inn)])), (ad 19, .inl (g.2.1 0, 127, .inl (ibf)))] sz (fun (r : Int32) (_ : Unit) => r = ibf i) (fun (_ : Unit) => [(ad 0, .inr (6, [.ref (ad 1), .ref (ad 2), .ref (ad 3), .ref (ad 4), .ref (ad 14), .ref (ad 15), .ref (ad 16), .ref (ad 18), .int (nI op)])), (ad 18, .inr (0, [.ref (ad 19), .int (nI inn)])), (ad 19, .inl (g.2.1 0, 127, .inl (ibf)))]) 0 0 := by
  refine enterI (by decide) rfl (Nat.le_of_ble_eq_true rfl) ?_
  intro p e s m below meth c A ls ar Q hE h0 hret hw hl
  obtain ⟨hx, hb, hr, hml, hown, hts, hlocks, hname⟩ := hE
  have hown : s.vm.findClass RX6 = some m.cls := hown
  have hw : WD g A s [(ad 0, .inr (6, [.ref (ad 1), .ref (ad 2), .ref (ad 3), .ref (ad 4), .ref (ad 14), .ref (ad 15), .ref (ad 16), .ref (ad 18), .int (nI op)])), (ad 18, .inr (0, [.ref (ad 19), .int (nI inn)])), (ad 19, .inl (g.2.1 0, 127, .inl (ibf)))] [] s.heap [] := hw
  have hinX6 : ∀ w ∈ u_ws RX6 TX6 9, w ∈ wsX6_got := by decide +kernel
  have k43 := hts (.fieldLink RX6 43 "RecordWire" "inbox" "LRecordWire$ByteRow;") (by decide +kernel)
  have hl : lv_has ls 2 [(0, .ref (ad 0)), (1, .int (nI i))] := hl
  refine lv_aload_n hx hb dX6_got_0 rfl (lv_at hl 0 rfl) ?_
  refine r_get (ci := 6) (v := .ref (ad 18)) (C := RX6) (T := TX6) (N := 9) hx hb hts hinX6 hown h0 hw 0 rfl rfl 7 (by decide) k43 rfl dX6_got_1 ?_
  refine lv_iload_n hx hb dX6_got_4 rfl (lv_at hl 1 rfl) ?_
  refine r_calli (wr := [(ad 0, .inr (6, [.ref (ad 1), .ref (ad 2), .ref (ad 3), .ref (ad 4), .ref (ad 14), .ref (ad 15), .ref (ad 16), .ref (ad 18), .int (nI op)]))]) [1, 2] [0] h0 hw rfl rfl (by decide) (by decide) (va_runV (As := [.int (nI i)]) (rest := []) ⟨hx, hb, hml, hown, hts⟩ (c_X0_at l g (ad 18) (ad 19) inn ibf i (by omega) (by omega) _) (cwV 1 hts gX6_got_X0_at rfl rfl rfl (by decide +kernel) ⟨Nat.le_of_ble_eq_true rfl, Nat.le_of_ble_eq_true rfl⟩) (preV_of [1, 2] [.int (nI i)] h0 hw rfl (by decide) 1 0 rfl rfl) rfl rfl hl.1 rfl (lv_room (Nat.le_of_ble_eq_true rfl)) dX6_got_5 ⟨Nat.le_of_ble_eq_true rfl, Nat.le_of_ble_eq_true rfl⟩) (fun r1 u2 H locs hp3 hw => ?_)
  have hw : WD g A s [(ad 0, .inr (6, [.ref (ad 1), .ref (ad 2), .ref (ad 3), .ref (ad 4), .ref (ad 14), .ref (ad 15), .ref (ad 16), .ref (ad 18), .int (nI op)])), (ad 18, .inr (0, [.ref (ad 19), .int (nI inn)])), (ad 19, .inl (g.2.1 0, 127, .inl (ibf)))] [] H locs := hw
  subst hp3
  exact hret hw () (rfl) (rfl) (by omega) (by omega) dX6_got_8

set_option maxHeartbeats 4000000 in
set_option maxRecDepth 100000 in
theorem c_X6_got_out (l : Launch) (g : GE) (ad : Nat → Nat) (op : Nat) (inn : Nat) (ibf : Nat → Int32) (i : Int32) (hi : i < 0 ∨ nI inn ≤ i) (sz : Nat) : MI l yX6_got wsX6_got { frames := 1, cells := 0, slots := 0, locals := 21 } g [.ref (ad 0), .int (i)] [(ad 0, .inr (6, [.ref (ad 1), .ref (ad 2), .ref (ad 3), .ref (ad 4), .ref (ad 14), .ref (ad 15), .ref (ad 16), .ref (ad 18), .int (nI op)])), (ad 18, .inr (0, [.ref (ad 19), .int (nI inn)])), (ad 19, .inl (g.2.1 0, 127, .inl (ibf)))] sz (fun (r : Int32) (_ : Unit) => r = -1) (fun (_ : Unit) => [(ad 0, .inr (6, [.ref (ad 1), .ref (ad 2), .ref (ad 3), .ref (ad 4), .ref (ad 14), .ref (ad 15), .ref (ad 16), .ref (ad 18), .int (nI op)])), (ad 18, .inr (0, [.ref (ad 19), .int (nI inn)])), (ad 19, .inl (g.2.1 0, 127, .inl (ibf)))]) 0 0 := by
  refine enterI (by decide) rfl (Nat.le_of_ble_eq_true rfl) ?_
  intro p e s m below meth c A ls ar Q hE h0 hret hw hl
  obtain ⟨hx, hb, hr, hml, hown, hts, hlocks, hname⟩ := hE
  have hown : s.vm.findClass RX6 = some m.cls := hown
  have hw : WD g A s [(ad 0, .inr (6, [.ref (ad 1), .ref (ad 2), .ref (ad 3), .ref (ad 4), .ref (ad 14), .ref (ad 15), .ref (ad 16), .ref (ad 18), .int (nI op)])), (ad 18, .inr (0, [.ref (ad 19), .int (nI inn)])), (ad 19, .inl (g.2.1 0, 127, .inl (ibf)))] [] s.heap [] := hw
  have hinX6 : ∀ w ∈ u_ws RX6 TX6 9, w ∈ wsX6_got := by decide +kernel
  have k43 := hts (.fieldLink RX6 43 "RecordWire" "inbox" "LRecordWire$ByteRow;") (by decide +kernel)
  have hl : lv_has ls 2 [(0, .ref (ad 0)), (1, .int (i))] := hl
  refine lv_aload_n hx hb dX6_got_0 rfl (lv_at hl 0 rfl) ?_
  refine r_get (ci := 6) (v := .ref (ad 18)) (C := RX6) (T := TX6) (N := 9) hx hb hts hinX6 hown h0 hw 0 rfl rfl 7 (by decide) k43 rfl dX6_got_1 ?_
  refine lv_iload_n hx hb dX6_got_4 rfl (lv_at hl 1 rfl) ?_
  refine r_calli (wr := [(ad 0, .inr (6, [.ref (ad 1), .ref (ad 2), .ref (ad 3), .ref (ad 4), .ref (ad 14), .ref (ad 15), .ref (ad 16), .ref (ad 18), .int (nI op)]))]) [1, 2] [0] h0 hw rfl rfl (by decide) (by decide) (va_runV (As := [.int (i)]) (rest := []) ⟨hx, hb, hml, hown, hts⟩ (c_X0_at_out l g (ad 18) (ad 19) inn ibf i (hi) _) (cwV 1 hts gX6_got_X0_at rfl rfl rfl (by decide +kernel) ⟨Nat.le_of_ble_eq_true rfl, Nat.le_of_ble_eq_true rfl⟩) (preV_of [1, 2] [.int (i)] h0 hw rfl (by decide) 1 0 rfl rfl) rfl rfl hl.1 rfl (lv_room (Nat.le_of_ble_eq_true rfl)) dX6_got_5 ⟨Nat.le_of_ble_eq_true rfl, Nat.le_of_ble_eq_true rfl⟩) (fun r1 u2 H locs hp3 hw => ?_)
  have hw : WD g A s [(ad 0, .inr (6, [.ref (ad 1), .ref (ad 2), .ref (ad 3), .ref (ad 4), .ref (ad 14), .ref (ad 15), .ref (ad 16), .ref (ad 18), .int (nI op)])), (ad 18, .inr (0, [.ref (ad 19), .int (nI inn)])), (ad 19, .inl (g.2.1 0, 127, .inl (ibf)))] [] H locs := hw
  subst hp3
  exact hret hw () (rfl) (rfl) (by omega) (by omega) dX6_got_8

set_option maxHeartbeats 4000000 in
set_option maxRecDepth 100000 in
theorem c_X6_setPsk (l : Launch) (g : GE) (ad : Nat → Nat) (op : Nat) (pf : Nat → Int32) (i : Nat) (v : Int32) (hop : op = 0) (hi : i < 32) (hv : inR v 256) (sz : Nat) : MI l yX6_setPsk wsX6_setPsk { frames := 1, cells := 0, slots := 0, locals := 20 } g [.ref (ad 0), .int (nI i), .int (v)] [(ad 0, .inr (6, [.ref (ad 1), .ref (ad 2), .ref (ad 3), .ref (ad 4), .ref (ad 14), .ref (ad 15), .ref (ad 16), .ref (ad 18), .int (nI op)])), (ad 1, .inl (g.2.1 0, 32, .inl (pf)))] sz (fun (r : Int32) (_ : Unit) => r = nI 1) (fun (_ : Unit) => [(ad 0, .inr (6, [.ref (ad 1), .ref (ad 2), .ref (ad 3), .ref (ad 4), .ref (ad 14), .ref (ad 15), .ref (ad 16), .ref (ad 18), .int (nI op)])), (ad 1, .inl (g.2.1 0, 32, .inl (upd pf i v)))]) 0 0 := by
  refine enterZ (by decide) rfl (Nat.le_of_ble_eq_true rfl) ?_
  intro p e s m below meth c A ls ar Q hE h0 hret hw hl
  obtain ⟨hx, hb, hr, hml, hown, hts, hlocks, hname⟩ := hE
  have hown : s.vm.findClass RX6 = some m.cls := hown
  have hw : WD g A s [(ad 0, .inr (6, [.ref (ad 1), .ref (ad 2), .ref (ad 3), .ref (ad 4), .ref (ad 14), .ref (ad 15), .ref (ad 16), .ref (ad 18), .int (nI op)])), (ad 1, .inl (g.2.1 0, 32, .inl (pf)))] [] s.heap [] := hw
  have hinX6 : ∀ w ∈ u_ws RX6 TX6 9, w ∈ wsX6_setPsk := by decide +kernel
  have k9 := hts (.fieldLink RX6 9 "RecordWire" "sharedKey" "[I") (by decide +kernel)
  have k58 := hts (.fieldLink RX6 58 "RecordWire" "opened" "Z") (by decide +kernel)
  have hl : lv_has ls 3 [(0, .ref (ad 0)), (1, .int (nI i)), (2, .int (v))] := hl
  refine lv_aload_n hx hb dX6_setPsk_0 rfl (lv_at hl 0 rfl) ?_
  refine r_get (ci := 6) (v := .int (nI op)) (C := RX6) (T := TX6) (N := 9) hx hb hts hinX6 hown h0 hw 0 rfl rfl 8 (by decide) k58 rfl dX6_setPsk_1 ?_
  refine lv_if_ne (tgt := 24) hx hb dX6_setPsk_4 (by decide) (fun c1 => ?_) (fun c1 => ?_)
  · skip
    rw [← nI_0] at c1
    have c1 : ¬ op = 0 := fun q => c1 (((nI_eq (by omega) (by omega)).mpr q))
    exfalso; omega
  · skip
    rw [← nI_0] at c1
    have c1 : op = 0 := (nI_eq (by omega) (by omega)).mp c1
    refine lv_iload_n hx hb dX6_setPsk_7 rfl (lv_at hl 1 rfl) ?_
    refine lv_if_lt (tgt := 24) hx hb dX6_setPsk_8 (by decide) (fun c2 => ?_) (fun c2 => ?_)
    · skip
      rw [← nI_0] at c2
      have c2 : i < 0 := (nI_ltI (by omega) (by omega)).mp c2
      exfalso; omega
    · skip
      rw [← nI_0] at c2
      have c2 : ¬ i < 0 := fun q => c2 (((nI_ltI (by omega) (by omega)).mpr q))
      refine lv_iload_n hx hb dX6_setPsk_11 rfl (lv_at hl 1 rfl) ?_
      refine lv_bipush (v := nI 32) hx hb dX6_setPsk_12 (by decide +kernel) ?_
      refine lv_icmp_ge (tgt := 24) hx hb dX6_setPsk_14 (by decide) (fun c3 => ?_) (fun c3 => ?_)
      · skip
        have c3 : 32 ≤ i := (nI_leI (by omega) (by omega)).mp c3
        exfalso; omega
      · skip
        have c3 : ¬ 32 ≤ i := fun q => c3 (((nI_leI (by omega) (by omega)).mpr q))
        refine lv_iload_n hx hb dX6_setPsk_17 rfl (lv_at hl 2 rfl) ?_
        refine r_calli (wr := [(ad 0, .inr (6, [.ref (ad 1), .ref (ad 2), .ref (ad 3), .ref (ad 4), .ref (ad 14), .ref (ad 15), .ref (ad 16), .ref (ad 18), .int (nI op)])), (ad 1, .inl (g.2.1 0, 32, .inl (pf)))]) [] [0, 1] h0 hw rfl rfl (by decide) (by decide) (va_runS (As := [.int (v)]) (rest := []) ⟨hx, hb, hml, hown, hts⟩ (c_X6_isByte l g v  _) (va_cwS 1 hts gX6_setPsk_X6_isByte rfl rfl rfl (by decide +kernel) ⟨Nat.le_of_ble_eq_true rfl, Nat.le_of_ble_eq_true rfl⟩) (preS_of [] [.int (v)] h0 hw rfl (by decide)) rfl rfl hl.1 rfl (lv_room (Nat.le_of_ble_eq_true rfl)) dX6_setPsk_18 ⟨Nat.le_of_ble_eq_true rfl, Nat.le_of_ble_eq_true rfl⟩) (fun r4 u5 H locs hp6 hw => ?_)
        have hw : WD g A s [(ad 0, .inr (6, [.ref (ad 1), .ref (ad 2), .ref (ad 3), .ref (ad 4), .ref (ad 14), .ref (ad 15), .ref (ad 16), .ref (ad 18), .int (nI op)])), (ad 1, .inl (g.2.1 0, 32, .inl (pf)))] [] H locs := hw
        subst hp6
        refine lv_if_ne (tgt := 26) hx hb dX6_setPsk_21 (by decide) (fun c7 => ?_) (fun c7 => ?_)
        · skip
          have c7 : inR v 256 := bI_t c7
          refine lv_aload_n hx hb dX6_setPsk_26 rfl (lv_at hl 0 rfl) ?_
          refine r_get (ci := 6) (v := .ref (ad 1)) (C := RX6) (T := TX6) (N := 9) hx hb hts hinX6 hown h0 hw 0 rfl rfl 0 (by decide) k9 rfl dX6_setPsk_27 ?_
          refine lv_iload_n hx hb dX6_setPsk_30 rfl (lv_at hl 1 rfl) ?_
          refine lv_iload_n hx hb dX6_setPsk_31 rfl (lv_at hl 2 rfl) ?_
          refine r_iast hx hb h0 hw 1 rfl (i := i) (by omega) (by omega) dX6_setPsk_32 (fun H locs hw => ?_)
          have hw : WD g A s [(ad 0, .inr (6, [.ref (ad 1), .ref (ad 2), .ref (ad 3), .ref (ad 4), .ref (ad 14), .ref (ad 15), .ref (ad 16), .ref (ad 18), .int (nI op)])), (ad 1, .inl (g.2.1 0, 32, .inl (upd pf i v)))] [] H locs := hw
          refine lv_iconst (v := nI 1) hx hb dX6_setPsk_33 (by decide +kernel) ?_
          exact hret (rfl) hw () (rfl) (rfl) (by omega) (by omega) dX6_setPsk_34
        · skip
          have c7 : ¬ (inR v 256) := bI_f c7
          exact absurd hv c7

set_option maxHeartbeats 4000000 in
set_option maxRecDepth 100000 in
theorem c_X6_setPsk_bad (l : Launch) (g : GE) (ad : Nat → Nat) (op : Nat) (pf : Nat → Int32) (i : Int32) (v : Int32) (hop : op < 2) (hbad : ¬ (op = 0 ∧ inR i 32 ∧ inR v 256)) (sz : Nat) : MI l yX6_setPsk wsX6_setPsk { frames := 1, cells := 0, slots := 0, locals := 20 } g [.ref (ad 0), .int (i), .int (v)] [(ad 0, .inr (6, [.ref (ad 1), .ref (ad 2), .ref (ad 3), .ref (ad 4), .ref (ad 14), .ref (ad 15), .ref (ad 16), .ref (ad 18), .int (nI op)])), (ad 1, .inl (g.2.1 0, 32, .inl (pf)))] sz (fun (r : Int32) (_ : Unit) => r = nI 0) (fun (_ : Unit) => [(ad 0, .inr (6, [.ref (ad 1), .ref (ad 2), .ref (ad 3), .ref (ad 4), .ref (ad 14), .ref (ad 15), .ref (ad 16), .ref (ad 18), .int (nI op)])), (ad 1, .inl (g.2.1 0, 32, .inl (pf)))]) 0 0 := by
  refine enterZ (by decide) rfl (Nat.le_of_ble_eq_true rfl) ?_
  intro p e s m below meth c A ls ar Q hE h0 hret hw hl
  obtain ⟨hx, hb, hr, hml, hown, hts, hlocks, hname⟩ := hE
  have hown : s.vm.findClass RX6 = some m.cls := hown
  have hw : WD g A s [(ad 0, .inr (6, [.ref (ad 1), .ref (ad 2), .ref (ad 3), .ref (ad 4), .ref (ad 14), .ref (ad 15), .ref (ad 16), .ref (ad 18), .int (nI op)])), (ad 1, .inl (g.2.1 0, 32, .inl (pf)))] [] s.heap [] := hw
  have hinX6 : ∀ w ∈ u_ws RX6 TX6 9, w ∈ wsX6_setPsk := by decide +kernel
  have k9 := hts (.fieldLink RX6 9 "RecordWire" "sharedKey" "[I") (by decide +kernel)
  have k58 := hts (.fieldLink RX6 58 "RecordWire" "opened" "Z") (by decide +kernel)
  have hl : lv_has ls 3 [(0, .ref (ad 0)), (1, .int (i)), (2, .int (v))] := hl
  refine lv_aload_n hx hb dX6_setPsk_0 rfl (lv_at hl 0 rfl) ?_
  refine r_get (ci := 6) (v := .int (nI op)) (C := RX6) (T := TX6) (N := 9) hx hb hts hinX6 hown h0 hw 0 rfl rfl 8 (by decide) k58 rfl dX6_setPsk_1 ?_
  refine lv_if_ne (tgt := 24) hx hb dX6_setPsk_4 (by decide) (fun c1 => ?_) (fun c1 => ?_)
  · skip
    rw [← nI_0] at c1
    have c1 : ¬ op = 0 := fun q => c1 (((nI_eq (by omega) (by omega)).mpr q))
    have q1 := c1
    refine lv_iconst (v := nI 0) hx hb dX6_setPsk_24 (by decide +kernel) ?_
    exact hret (rfl) hw () (rfl) (rfl) (by omega) (by omega) dX6_setPsk_25
  · skip
    rw [← nI_0] at c1
    have c1 : op = 0 := (nI_eq (by omega) (by omega)).mp c1
    have q1 := c1
    refine lv_iload_n hx hb dX6_setPsk_7 rfl (lv_at hl 1 rfl) ?_
    refine lv_if_lt (tgt := 24) hx hb dX6_setPsk_8 (by decide) (fun c2 => ?_) (fun c2 => ?_)
    · skip
      have q2 := c2
      refine lv_iconst (v := nI 0) hx hb dX6_setPsk_24 (by decide +kernel) ?_
      exact hret (rfl) hw () (rfl) (rfl) (by omega) (by omega) dX6_setPsk_25
    · skip
      have q2 := c2
      refine lv_iload_n hx hb dX6_setPsk_11 rfl (lv_at hl 1 rfl) ?_
      refine lv_bipush (v := nI 32) hx hb dX6_setPsk_12 (by decide +kernel) ?_
      refine lv_icmp_ge (tgt := 24) hx hb dX6_setPsk_14 (by decide) (fun c3 => ?_) (fun c3 => ?_)
      · skip
        have q3 := c3
        refine lv_iconst (v := nI 0) hx hb dX6_setPsk_24 (by decide +kernel) ?_
        exact hret (rfl) hw () (rfl) (rfl) (by omega) (by omega) dX6_setPsk_25
      · skip
        have q3 := c3
        refine lv_iload_n hx hb dX6_setPsk_17 rfl (lv_at hl 2 rfl) ?_
        refine r_calli (wr := [(ad 0, .inr (6, [.ref (ad 1), .ref (ad 2), .ref (ad 3), .ref (ad 4), .ref (ad 14), .ref (ad 15), .ref (ad 16), .ref (ad 18), .int (nI op)])), (ad 1, .inl (g.2.1 0, 32, .inl (pf)))]) [] [0, 1] h0 hw rfl rfl (by decide) (by decide) (va_runS (As := [.int (v)]) (rest := []) ⟨hx, hb, hml, hown, hts⟩ (c_X6_isByte l g v  _) (va_cwS 1 hts gX6_setPsk_X6_isByte rfl rfl rfl (by decide +kernel) ⟨Nat.le_of_ble_eq_true rfl, Nat.le_of_ble_eq_true rfl⟩) (preS_of [] [.int (v)] h0 hw rfl (by decide)) rfl rfl hl.1 rfl (lv_room (Nat.le_of_ble_eq_true rfl)) dX6_setPsk_18 ⟨Nat.le_of_ble_eq_true rfl, Nat.le_of_ble_eq_true rfl⟩) (fun r4 u5 H locs hp6 hw => ?_)
        have hw : WD g A s [(ad 0, .inr (6, [.ref (ad 1), .ref (ad 2), .ref (ad 3), .ref (ad 4), .ref (ad 14), .ref (ad 15), .ref (ad 16), .ref (ad 18), .int (nI op)])), (ad 1, .inl (g.2.1 0, 32, .inl (pf)))] [] H locs := hw
        subst hp6
        refine lv_if_ne (tgt := 26) hx hb dX6_setPsk_21 (by decide) (fun c7 => ?_) (fun c7 => ?_)
        · skip
          have c7 : inR v 256 := bI_t c7
          exact absurd ⟨by omega, ⟨Int32.not_lt.mp q2, Int32.not_le.mp q3⟩, c7⟩ hbad
        · skip
          have c7 : ¬ (inR v 256) := bI_f c7
          refine lv_iconst (v := nI 0) hx hb dX6_setPsk_24 (by decide +kernel) ?_
          exact hret (rfl) hw () (rfl) (rfl) (by omega) (by omega) dX6_setPsk_25

set_option maxHeartbeats 4000000 in
set_option maxRecDepth 100000 in
theorem c_X6_put (l : Launch) (g : GE) (ad : Nat → Nat) (op : Nat) (on : Nat) (obf : Nat → Int32) (v : Int32) (hv : inR v 256) (hn : on < 96) (sz : Nat) : MI l yX6_put wsX6_put { frames := 1, cells := 0, slots := 0, locals := 21 } g [.ref (ad 0), .int (v)] [(ad 0, .inr (6, [.ref (ad 1), .ref (ad 2), .ref (ad 3), .ref (ad 4), .ref (ad 14), .ref (ad 15), .ref (ad 16), .ref (ad 18), .int (nI op)])), (ad 16, .inr (0, [.ref (ad 17), .int (nI on)])), (ad 17, .inl (g.2.1 0, 127, .inl (obf)))] sz (fun (r : Int32) (_ : Unit) => r = nI 1) (fun (_ : Unit) => [(ad 0, .inr (6, [.ref (ad 1), .ref (ad 2), .ref (ad 3), .ref (ad 4), .ref (ad 14), .ref (ad 15), .ref (ad 16), .ref (ad 18), .int (nI op)])), (ad 16, .inr (0, [.ref (ad 17), .int (nI (on + 1))])), (ad 17, .inl (g.2.1 0, 127, .inl (upd obf on v)))]) 0 0 := by
  refine enterZ (by decide) rfl (Nat.le_of_ble_eq_true rfl) ?_
  intro p e s m below meth c A ls ar Q hE h0 hret hw hl
  obtain ⟨hx, hb, hr, hml, hown, hts, hlocks, hname⟩ := hE
  have hown : s.vm.findClass RX6 = some m.cls := hown
  have hw : WD g A s [(ad 0, .inr (6, [.ref (ad 1), .ref (ad 2), .ref (ad 3), .ref (ad 4), .ref (ad 14), .ref (ad 15), .ref (ad 16), .ref (ad 18), .int (nI op)])), (ad 16, .inr (0, [.ref (ad 17), .int (nI on)])), (ad 17, .inl (g.2.1 0, 127, .inl (obf)))] [] s.heap [] := hw
  have hinX6 : ∀ w ∈ u_ws RX6 TX6 9, w ∈ wsX6_put := by decide +kernel
  have k39 := hts (.fieldLink RX6 39 "RecordWire" "outbox" "LRecordWire$ByteRow;") (by decide +kernel)
  have hl : lv_has ls 2 [(0, .ref (ad 0)), (1, .int (v))] := hl
  refine lv_iload_n hx hb dX6_put_0 rfl (lv_at hl 1 rfl) ?_
  refine r_calli (wr := [(ad 0, .inr (6, [.ref (ad 1), .ref (ad 2), .ref (ad 3), .ref (ad 4), .ref (ad 14), .ref (ad 15), .ref (ad 16), .ref (ad 18), .int (nI op)])), (ad 16, .inr (0, [.ref (ad 17), .int (nI on)])), (ad 17, .inl (g.2.1 0, 127, .inl (obf)))]) [] [0, 1, 2] h0 hw rfl rfl (by decide) (by decide) (va_runS (As := [.int (v)]) (rest := []) ⟨hx, hb, hml, hown, hts⟩ (c_X6_isByte l g v  _) (va_cwS 1 hts gX6_put_X6_isByte rfl rfl rfl (by decide +kernel) ⟨Nat.le_of_ble_eq_true rfl, Nat.le_of_ble_eq_true rfl⟩) (preS_of [] [.int (v)] h0 hw rfl (by decide)) rfl rfl hl.1 rfl (lv_room (Nat.le_of_ble_eq_true rfl)) dX6_put_1 ⟨Nat.le_of_ble_eq_true rfl, Nat.le_of_ble_eq_true rfl⟩) (fun r1 u2 H locs hp3 hw => ?_)
  have hw : WD g A s [(ad 0, .inr (6, [.ref (ad 1), .ref (ad 2), .ref (ad 3), .ref (ad 4), .ref (ad 14), .ref (ad 15), .ref (ad 16), .ref (ad 18), .int (nI op)])), (ad 16, .inr (0, [.ref (ad 17), .int (nI on)])), (ad 17, .inl (g.2.1 0, 127, .inl (obf)))] [] H locs := hw
  subst hp3
  refine lv_if_eq (tgt := 19) hx hb dX6_put_4 (by decide) (fun c4 => ?_) (fun c4 => ?_)
  · skip
    have c4 : ¬ (inR v 256) := bI_f c4
    exact absurd hv c4
  · skip
    have c4 : inR v 256 := bI_t c4
    refine lv_aload_n hx hb dX6_put_7 rfl (lv_at hl 0 rfl) ?_
    refine r_get (ci := 6) (v := .ref (ad 16)) (C := RX6) (T := TX6) (N := 9) hx hb hts hinX6 hown h0 hw 0 rfl rfl 6 (by decide) k39 rfl dX6_put_8 ?_
    refine r_calli (wr := [(ad 0, .inr (6, [.ref (ad 1), .ref (ad 2), .ref (ad 3), .ref (ad 4), .ref (ad 14), .ref (ad 15), .ref (ad 16), .ref (ad 18), .int (nI op)])), (ad 17, .inl (g.2.1 0, 127, .inl (obf)))]) [1] [0, 2] h0 hw rfl rfl (by decide) (by decide) (va_runV (As := []) (rest := []) ⟨hx, hb, hml, hown, hts⟩ (c_X0_size l g (ad 16) (ad 17) on  _) (cwV 0 hts gX6_put_X0_size rfl rfl rfl (by decide +kernel) ⟨Nat.le_of_ble_eq_true rfl, Nat.le_of_ble_eq_true rfl⟩) (preV_of [1] [] h0 hw rfl (by decide) 1 0 rfl rfl) rfl rfl hl.1 rfl (lv_room (Nat.le_of_ble_eq_true rfl)) dX6_put_11 ⟨Nat.le_of_ble_eq_true rfl, Nat.le_of_ble_eq_true rfl⟩) (fun r5 u6 H locs hp7 hw => ?_)
    have hw : WD g A s [(ad 0, .inr (6, [.ref (ad 1), .ref (ad 2), .ref (ad 3), .ref (ad 4), .ref (ad 14), .ref (ad 15), .ref (ad 16), .ref (ad 18), .int (nI op)])), (ad 17, .inl (g.2.1 0, 127, .inl (obf))), (ad 16, .inr (0, [.ref (ad 17), .int (nI on)]))] [] H locs := hw
    subst hp7
    refine lv_bipush (v := nI 96) hx hb dX6_put_14 (by decide +kernel) ?_
    refine lv_icmp_lt (tgt := 21) hx hb dX6_put_16 (by decide) (fun c8 => ?_) (fun c8 => ?_)
    · skip
      have c8 : on < 96 := (nI_ltI (by omega) (by omega)).mp c8
      refine lv_aload_n hx hb dX6_put_21 rfl (lv_at hl 0 rfl) ?_
      refine r_get (ci := 6) (v := .ref (ad 16)) (C := RX6) (T := TX6) (N := 9) hx hb hts hinX6 hown h0 hw 0 rfl rfl 6 (by decide) k39 rfl dX6_put_22 ?_
      refine lv_iload_n hx hb dX6_put_25 rfl (lv_at hl 1 rfl) ?_
      refine r_callv (wr := [(ad 0, .inr (6, [.ref (ad 1), .ref (ad 2), .ref (ad 3), .ref (ad 4), .ref (ad 14), .ref (ad 15), .ref (ad 16), .ref (ad 18), .int (nI op)]))]) [2, 1] [0] h0 hw rfl rfl (by decide) (by decide) (va_runV (As := [.int (v)]) (rest := []) ⟨hx, hb, hml, hown, hts⟩ (c_X0_append l g (ad 16) (ad 17) on obf v (by omega) _) (cwV 1 hts gX6_put_X0_append rfl rfl rfl (by decide +kernel) ⟨Nat.le_of_ble_eq_true rfl, Nat.le_of_ble_eq_true rfl⟩) (preV_of [2, 1] [.int (v)] h0 hw rfl (by decide) 2 0 rfl rfl) rfl rfl hl.1 rfl (lv_room (Nat.le_of_ble_eq_true rfl)) dX6_put_26 ⟨Nat.le_of_ble_eq_true rfl, Nat.le_of_ble_eq_true rfl⟩) (fun u10 H locs hp11 hw => ?_)
      have hw : WD g A s [(ad 0, .inr (6, [.ref (ad 1), .ref (ad 2), .ref (ad 3), .ref (ad 4), .ref (ad 14), .ref (ad 15), .ref (ad 16), .ref (ad 18), .int (nI op)])), (ad 16, .inr (0, [.ref (ad 17), .int (nI (on + 1))])), (ad 17, .inl (g.2.1 0, 127, .inl (upd obf on v)))] [] H locs := hw
      refine lv_iconst (v := nI 1) hx hb dX6_put_29 (by decide +kernel) ?_
      exact hret (rfl) hw () (rfl) (rfl) (by omega) (by omega) dX6_put_30
    · skip
      have c8 : ¬ on < 96 := fun q => c8 (((nI_ltI (by omega) (by omega)).mpr q))
      exfalso; omega

set_option maxHeartbeats 4000000 in
set_option maxRecDepth 100000 in
theorem c_X6_put_bad (l : Launch) (g : GE) (ad : Nat → Nat) (op : Nat) (on : Nat) (obf : Nat → Int32) (v : Int32) (hn : on ≤ 96) (hbad : ¬ (inR v 256 ∧ on < 96)) (sz : Nat) : MI l yX6_put wsX6_put { frames := 1, cells := 0, slots := 0, locals := 21 } g [.ref (ad 0), .int (v)] [(ad 0, .inr (6, [.ref (ad 1), .ref (ad 2), .ref (ad 3), .ref (ad 4), .ref (ad 14), .ref (ad 15), .ref (ad 16), .ref (ad 18), .int (nI op)])), (ad 16, .inr (0, [.ref (ad 17), .int (nI on)])), (ad 17, .inl (g.2.1 0, 127, .inl (obf)))] sz (fun (r : Int32) (_ : Unit) => r = nI 0) (fun (_ : Unit) => [(ad 0, .inr (6, [.ref (ad 1), .ref (ad 2), .ref (ad 3), .ref (ad 4), .ref (ad 14), .ref (ad 15), .ref (ad 16), .ref (ad 18), .int (nI op)])), (ad 16, .inr (0, [.ref (ad 17), .int (nI on)])), (ad 17, .inl (g.2.1 0, 127, .inl (obf)))]) 0 0 := by
  refine enterZ (by decide) rfl (Nat.le_of_ble_eq_true rfl) ?_
  intro p e s m below meth c A ls ar Q hE h0 hret hw hl
  obtain ⟨hx, hb, hr, hml, hown, hts, hlocks, hname⟩ := hE
  have hown : s.vm.findClass RX6 = some m.cls := hown
  have hw : WD g A s [(ad 0, .inr (6, [.ref (ad 1), .ref (ad 2), .ref (ad 3), .ref (ad 4), .ref (ad 14), .ref (ad 15), .ref (ad 16), .ref (ad 18), .int (nI op)])), (ad 16, .inr (0, [.ref (ad 17), .int (nI on)])), (ad 17, .inl (g.2.1 0, 127, .inl (obf)))] [] s.heap [] := hw
  have hinX6 : ∀ w ∈ u_ws RX6 TX6 9, w ∈ wsX6_put := by decide +kernel
  have k39 := hts (.fieldLink RX6 39 "RecordWire" "outbox" "LRecordWire$ByteRow;") (by decide +kernel)
  have hl : lv_has ls 2 [(0, .ref (ad 0)), (1, .int (v))] := hl
  refine lv_iload_n hx hb dX6_put_0 rfl (lv_at hl 1 rfl) ?_
  refine r_calli (wr := [(ad 0, .inr (6, [.ref (ad 1), .ref (ad 2), .ref (ad 3), .ref (ad 4), .ref (ad 14), .ref (ad 15), .ref (ad 16), .ref (ad 18), .int (nI op)])), (ad 16, .inr (0, [.ref (ad 17), .int (nI on)])), (ad 17, .inl (g.2.1 0, 127, .inl (obf)))]) [] [0, 1, 2] h0 hw rfl rfl (by decide) (by decide) (va_runS (As := [.int (v)]) (rest := []) ⟨hx, hb, hml, hown, hts⟩ (c_X6_isByte l g v  _) (va_cwS 1 hts gX6_put_X6_isByte rfl rfl rfl (by decide +kernel) ⟨Nat.le_of_ble_eq_true rfl, Nat.le_of_ble_eq_true rfl⟩) (preS_of [] [.int (v)] h0 hw rfl (by decide)) rfl rfl hl.1 rfl (lv_room (Nat.le_of_ble_eq_true rfl)) dX6_put_1 ⟨Nat.le_of_ble_eq_true rfl, Nat.le_of_ble_eq_true rfl⟩) (fun r1 u2 H locs hp3 hw => ?_)
  have hw : WD g A s [(ad 0, .inr (6, [.ref (ad 1), .ref (ad 2), .ref (ad 3), .ref (ad 4), .ref (ad 14), .ref (ad 15), .ref (ad 16), .ref (ad 18), .int (nI op)])), (ad 16, .inr (0, [.ref (ad 17), .int (nI on)])), (ad 17, .inl (g.2.1 0, 127, .inl (obf)))] [] H locs := hw
  subst hp3
  refine lv_if_eq (tgt := 19) hx hb dX6_put_4 (by decide) (fun c4 => ?_) (fun c4 => ?_)
  · skip
    have c4 : ¬ (inR v 256) := bI_f c4
    have q1 := c4
    refine lv_iconst (v := nI 0) hx hb dX6_put_19 (by decide +kernel) ?_
    exact hret (rfl) hw () (rfl) (rfl) (by omega) (by omega) dX6_put_20
  · skip
    have c4 : inR v 256 := bI_t c4
    have q1 := c4
    refine lv_aload_n hx hb dX6_put_7 rfl (lv_at hl 0 rfl) ?_
    refine r_get (ci := 6) (v := .ref (ad 16)) (C := RX6) (T := TX6) (N := 9) hx hb hts hinX6 hown h0 hw 0 rfl rfl 6 (by decide) k39 rfl dX6_put_8 ?_
    refine r_calli (wr := [(ad 0, .inr (6, [.ref (ad 1), .ref (ad 2), .ref (ad 3), .ref (ad 4), .ref (ad 14), .ref (ad 15), .ref (ad 16), .ref (ad 18), .int (nI op)])), (ad 17, .inl (g.2.1 0, 127, .inl (obf)))]) [1] [0, 2] h0 hw rfl rfl (by decide) (by decide) (va_runV (As := []) (rest := []) ⟨hx, hb, hml, hown, hts⟩ (c_X0_size l g (ad 16) (ad 17) on  _) (cwV 0 hts gX6_put_X0_size rfl rfl rfl (by decide +kernel) ⟨Nat.le_of_ble_eq_true rfl, Nat.le_of_ble_eq_true rfl⟩) (preV_of [1] [] h0 hw rfl (by decide) 1 0 rfl rfl) rfl rfl hl.1 rfl (lv_room (Nat.le_of_ble_eq_true rfl)) dX6_put_11 ⟨Nat.le_of_ble_eq_true rfl, Nat.le_of_ble_eq_true rfl⟩) (fun r5 u6 H locs hp7 hw => ?_)
    have hw : WD g A s [(ad 0, .inr (6, [.ref (ad 1), .ref (ad 2), .ref (ad 3), .ref (ad 4), .ref (ad 14), .ref (ad 15), .ref (ad 16), .ref (ad 18), .int (nI op)])), (ad 17, .inl (g.2.1 0, 127, .inl (obf))), (ad 16, .inr (0, [.ref (ad 17), .int (nI on)]))] [] H locs := hw
    subst hp7
    refine lv_bipush (v := nI 96) hx hb dX6_put_14 (by decide +kernel) ?_
    refine lv_icmp_lt (tgt := 21) hx hb dX6_put_16 (by decide) (fun c8 => ?_) (fun c8 => ?_)
    · skip
      have c8 : on < 96 := (nI_ltI (by omega) (by omega)).mp c8
      exact absurd ⟨q1, c8⟩ hbad
    · skip
      have c8 : ¬ on < 96 := fun q => c8 (((nI_ltI (by omega) (by omega)).mpr q))
      refine lv_iconst (v := nI 0) hx hb dX6_put_19 (by decide +kernel) ?_
      exact hret (rfl) (hw.perm (X' := [(ad 0, .inr (6, [.ref (ad 1), .ref (ad 2), .ref (ad 3), .ref (ad 4), .ref (ad 14), .ref (ad 15), .ref (ad 16), .ref (ad 18), .int (nI op)])), (ad 16, .inr (0, [.ref (ad 17), .int (nI on)])), (ad 17, .inl (g.2.1 0, 127, .inl (obf)))]) [0, 2, 1] (by decide) rfl) () (rfl) (rfl) (by omega) (by omega) dX6_put_20
