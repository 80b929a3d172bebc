set_option maxHeartbeats 4000000 in
set_option maxRecDepth 100000 in
theorem c_X6_count_0 (l : Launch) (g : GE) (ad : Nat → Nat) (op : Nat) (sa : Nat → Nat) (sb : Nat → Nat) (z : Nat → Nat) (f : Nat → Nat → Int32) (hz : ∀ j, j < 8 → z j ≤ 127) (sz : Nat) : MI l yX6_count wsX6_count { frames := 3, cells := 0, slots := 0, locals := 61 } g [.ref (ad 0), .int (nI 0)] ([(ad 0, .inr (6, [.ref (ad 1), .ref (ad 2), .ref (ad 3), .ref (ad 4), .ref (ad 14), .ref (ad 15), .ref (ad 16), .ref (ad 18), .int (nI op)])), (ad 15, .inl (g.2.1 4, 8, .inr (.inr (.inr (.inr (fun j => some (sa j)))))))] ++ (slAll (slC g sa sb z f))) sz (fun (r : Int32) (_ : Unit) => r = nI (cntF z 8)) (fun (_ : Unit) => [(ad 0, .inr (6, [.ref (ad 1), .ref (ad 2), .ref (ad 3), .ref (ad 4), .ref (ad 14), .ref (ad 15), .ref (ad 16), .ref (ad 18), .int (nI op)])), (ad 15, .inl (g.2.1 4, 8, .inr (.inr (.inr (.inr (fun j => some (sa j)))))))] ++ (slAll (slC g sa sb z f))) 0 0 := by
  refine enterI (by decide) rfl (Nat.le_of_ble_eq_true rfl) ?_
  intro p e s m below meth c A ls ar Q hE h0 hret hw hl
  obtain ⟨hx, hb, hr, hml, hown, hts, hlocks, hname⟩ := hE
  have hown : s.vm.findClass RX6 = some m.cls := hown
  have hw : WD g A s [(ad 0, .inr (6, [.ref (ad 1), .ref (ad 2), .ref (ad 3), .ref (ad 4), .ref (ad 14), .ref (ad 15), .ref (ad 16), .ref (ad 18), .int (nI op)])), (ad 15, .inl (g.2.1 4, 8, .inr (.inr (.inr (.inr (fun j => some (sa j)))))))] (slAll (slC g sa sb z f)) s.heap [] := hw.to (by rw [List.append_nil])
  have hinX6 : ∀ w ∈ u_ws RX6 TX6 9, w ∈ wsX6_count := by decide +kernel
  have k28 := hts (.fieldLink RX6 28 "RecordWire" "directions" "[LRecordWire$Direction;") (by decide +kernel)
  have k39 := hts (.fieldLink RX6 39 "RecordWire" "outbox" "LRecordWire$ByteRow;") (by decide +kernel)
  have k58 := hts (.fieldLink RX6 58 "RecordWire" "opened" "Z") (by decide +kernel)
  have hl : lv_has ls 2 [(0, .ref (ad 0)), (1, .int (nI 0))] := hl
  refine lv_iload_n hx hb dX6_count_0 rfl (lv_at hl 1 rfl) ?_
  refine lv_tableIn (tgt := 40) (off := 39) hx hb dX6_count_1 (by decide +kernel) (by decide +kernel) (by decide +kernel) (by decide) ?_
  refine lv_aload_n hx hb dX6_count_40 rfl (lv_at hl 0 rfl) ?_
  refine r_calliP (wr := []) [0, 1] [] h0 hw rfl rfl (by decide) (by decide) (va_runV (As := []) (rest := []) ⟨hx, hb, hml, hown, hts⟩ (c_X6_fullSlots l g ad op sa sb z f (hz) _) (cwV 0 hts gX6_count_X6_fullSlots rfl rfl rfl (by decide +kernel) ⟨Nat.le_of_ble_eq_true rfl, Nat.le_of_ble_eq_true rfl⟩) (preV_ofP [0, 1] [] h0 hw rfl (by decide) 0 6 rfl rfl) rfl rfl hl.1 rfl (lv_room (Nat.le_of_ble_eq_true rfl)) dX6_count_41 ⟨Nat.le_of_ble_eq_true rfl, Nat.le_of_ble_eq_true rfl⟩) (fun r1 u2 H locs hp3 hw => ?_)
  have hw : WD g A s [(ad 0, .inr (6, [.ref (ad 1), .ref (ad 2), .ref (ad 3), .ref (ad 4), .ref (ad 14), .ref (ad 15), .ref (ad 16), .ref (ad 18), .int (nI op)])), (ad 15, .inl (g.2.1 4, 8, .inr (.inr (.inr (.inr (fun j => some (sa j)))))))] ((slAll (slC g sa sb z f))) H locs := hw
  subst hp3
  exact hret hw () (rfl) (rfl) (by omega) (by omega) dX6_count_44

set_option maxHeartbeats 4000000 in
set_option maxRecDepth 100000 in
theorem c_X6_count_1 (l : Launch) (g : GE) (ad : Nat → Nat) (op : Nat) (on : Nat) (sz : Nat) : MI l yX6_count wsX6_count { frames := 3, cells := 0, slots := 0, locals := 61 } g [.ref (ad 0), .int (nI 1)] [(ad 0, .inr (6, [.ref (ad 1), .ref (ad 2), .ref (ad 3), .ref (ad 4), .ref (ad 14), .ref (ad 15), .ref (ad 16), .ref (ad 18), .int (nI op)])), (ad 16, .inr (0, [.ref (ad 17), .int (nI on)]))] sz (fun (r : Int32) (_ : Unit) => r = nI on) (fun (_ : Unit) => [(ad 0, .inr (6, [.ref (ad 1), .ref (ad 2), .ref (ad 3), .ref (ad 4), .ref (ad 14), .ref (ad 15), .ref (ad 16), .ref (ad 18), .int (nI op)])), (ad 16, .inr (0, [.ref (ad 17), .int (nI on)]))]) 0 0 := by
  refine enterI (by decide) rfl (Nat.le_of_ble_eq_true rfl) ?_
  intro p e s m below meth c A ls ar Q hE h0 hret hw hl
  obtain ⟨hx, hb, hr, hml, hown, hts, hlocks, hname⟩ := hE
  have hown : s.vm.findClass RX6 = some m.cls := hown
  have hw : WD g A s [(ad 0, .inr (6, [.ref (ad 1), .ref (ad 2), .ref (ad 3), .ref (ad 4), .ref (ad 14), .ref (ad 15), .ref (ad 16), .ref (ad 18), .int (nI op)])), (ad 16, .inr (0, [.ref (ad 17), .int (nI on)]))] [] s.heap [] := hw
  have hinX6 : ∀ w ∈ u_ws RX6 TX6 9, w ∈ wsX6_count := by decide +kernel
  have k28 := hts (.fieldLink RX6 28 "RecordWire" "directions" "[LRecordWire$Direction;") (by decide +kernel)
  have k39 := hts (.fieldLink RX6 39 "RecordWire" "outbox" "LRecordWire$ByteRow;") (by decide +kernel)
  have k58 := hts (.fieldLink RX6 58 "RecordWire" "opened" "Z") (by decide +kernel)
  have hl : lv_has ls 2 [(0, .ref (ad 0)), (1, .int (nI 1))] := hl
  refine lv_iload_n hx hb dX6_count_0 rfl (lv_at hl 1 rfl) ?_
  refine lv_tableIn (tgt := 45) (off := 44) hx hb dX6_count_1 (by decide +kernel) (by decide +kernel) (by decide +kernel) (by decide) ?_
  refine lv_aload_n hx hb dX6_count_45 rfl (lv_at hl 0 rfl) ?_
  refine r_get (ci := 6) (v := .ref (ad 16)) (C := RX6) (T := TX6) (N := 9) hx hb hts hinX6 hown h0 hw 0 rfl rfl 6 (by decide) k39 rfl dX6_count_46 ?_
  refine r_calli (wr := [(ad 0, .inr (6, [.ref (ad 1), .ref (ad 2), .ref (ad 3), .ref (ad 4), .ref (ad 14), .ref (ad 15), .ref (ad 16), .ref (ad 18), .int (nI op)]))]) [1] [0] h0 hw rfl rfl (by decide) (by decide) (va_runV (As := []) (rest := []) ⟨hx, hb, hml, hown, hts⟩ (c_X0_size l g (ad 16) (ad 17) on  _) (cwV 0 hts gX6_count_X0_size rfl rfl rfl (by decide +kernel) ⟨Nat.le_of_ble_eq_true rfl, Nat.le_of_ble_eq_true rfl⟩) (preV_of [1] [] h0 hw rfl (by decide) 1 0 rfl rfl) rfl rfl hl.1 rfl (lv_room (Nat.le_of_ble_eq_true rfl)) dX6_count_49 ⟨Nat.le_of_ble_eq_true rfl, Nat.le_of_ble_eq_true rfl⟩) (fun r1 u2 H locs hp3 hw => ?_)
  have hw : WD g A s [(ad 0, .inr (6, [.ref (ad 1), .ref (ad 2), .ref (ad 3), .ref (ad 4), .ref (ad 14), .ref (ad 15), .ref (ad 16), .ref (ad 18), .int (nI op)])), (ad 16, .inr (0, [.ref (ad 17), .int (nI on)]))] [] H locs := hw
  subst hp3
  exact hret hw () (rfl) (rfl) (by omega) (by omega) dX6_count_52

set_option maxHeartbeats 4000000 in
set_option maxRecDepth 100000 in
theorem c_X6_count_2 (l : Launch) (g : GE) (ad : Nat → Nat) (op : Nat) (ep : Nat → Nat) (nx : Nat → Int64) (hop : ¬ op = 0) (hop2 : op < 2) (sz : Nat) : MI l yX6_count wsX6_count { frames := 3, cells := 0, slots := 0, locals := 61 } g [.ref (ad 0), .int (nI 2)] [(ad 0, .inr (6, [.ref (ad 1), .ref (ad 2), .ref (ad 3), .ref (ad 4), .ref (ad 14), .ref (ad 15), .ref (ad 16), .ref (ad 18), .int (nI op)])), (ad 14, .inl (g.2.1 3, 2, .inr (.inr (.inr (.inr (fun j => some (ad (20 + 15 * j)))))))), (ad 20, .inr (1, [.int (nI 0), .ref (ad 25), .ref (ad 32), .ref (ad 21), .ref (ad 22), .ref (ad 23), .ref (ad 24), .int (nI (ep 0)), .long (nx 0)]))] sz (fun (r : Int32) (_ : Unit) => r = nI (ep 0)) (fun (_ : Unit) => [(ad 0, .inr (6, [.ref (ad 1), .ref (ad 2), .ref (ad 3), .ref (ad 4), .ref (ad 14), .ref (ad 15), .ref (ad 16), .ref (ad 18), .int (nI op)])), (ad 14, .inl (g.2.1 3, 2, .inr (.inr (.inr (.inr (fun j => some (ad (20 + 15 * j)))))))), (ad 20, .inr (1, [.int (nI 0), .ref (ad 25), .ref (ad 32), .ref (ad 21), .ref (ad 22), .ref (ad 23), .ref (ad 24), .int (nI (ep 0)), .long (nx 0)]))]) 0 0 := by
  refine enterI (by decide) rfl (Nat.le_of_ble_eq_true rfl) ?_
  intro p e s m below meth c A ls ar Q hE h0 hret hw hl
  obtain ⟨hx, hb, hr, hml, hown, hts, hlocks, hname⟩ := hE
  have hown : s.vm.findClass RX6 = some m.cls := hown
  have hw : WD g A s [(ad 0, .inr (6, [.ref (ad 1), .ref (ad 2), .ref (ad 3), .ref (ad 4), .ref (ad 14), .ref (ad 15), .ref (ad 16), .ref (ad 18), .int (nI op)])), (ad 14, .inl (g.2.1 3, 2, .inr (.inr (.inr (.inr (fun j => some (ad (20 + 15 * j)))))))), (ad 20, .inr (1, [.int (nI 0), .ref (ad 25), .ref (ad 32), .ref (ad 21), .ref (ad 22), .ref (ad 23), .ref (ad 24), .int (nI (ep 0)), .long (nx 0)]))] [] s.heap [] := hw
  have hinX6 : ∀ w ∈ u_ws RX6 TX6 9, w ∈ wsX6_count := by decide +kernel
  have k28 := hts (.fieldLink RX6 28 "RecordWire" "directions" "[LRecordWire$Direction;") (by decide +kernel)
  have k39 := hts (.fieldLink RX6 39 "RecordWire" "outbox" "LRecordWire$ByteRow;") (by decide +kernel)
  have k58 := hts (.fieldLink RX6 58 "RecordWire" "opened" "Z") (by decide +kernel)
  have hl : lv_has ls 2 [(0, .ref (ad 0)), (1, .int (nI 2))] := hl
  refine lv_iload_n hx hb dX6_count_0 rfl (lv_at hl 1 rfl) ?_
  refine lv_tableIn (tgt := 53) (off := 52) hx hb dX6_count_1 (by decide +kernel) (by decide +kernel) (by decide +kernel) (by decide) ?_
  refine lv_aload_n hx hb dX6_count_53 rfl (lv_at hl 0 rfl) ?_
  refine r_get (ci := 6) (v := .int (nI op)) (C := RX6) (T := TX6) (N := 9) hx hb hts hinX6 hown h0 hw 0 rfl rfl 8 (by decide) k58 rfl dX6_count_54 ?_
  refine lv_if_eq (tgt := 74) hx hb dX6_count_57 (by decide) (fun c1 => ?_) (fun c1 => ?_)
  · skip
    rw [← nI_0] at c1
    have c1 : op = 0 := (nI_eq (by omega) (by omega)).mp c1
    exfalso; omega
  · skip
    rw [← nI_0] at c1
    have c1 : ¬ op = 0 := fun q => c1 (((nI_eq (by omega) (by omega)).mpr q))
    refine lv_aload_n hx hb dX6_count_60 rfl (lv_at hl 0 rfl) ?_
    refine r_get (ci := 6) (v := .ref (ad 14)) (C := RX6) (T := TX6) (N := 9) hx hb hts hinX6 hown h0 hw 0 rfl rfl 4 (by decide) k28 rfl dX6_count_61 ?_
    refine lv_iload_n hx hb dX6_count_64 rfl (lv_at hl 1 rfl) ?_
    refine lv_iconst (v := nI 2) hx hb dX6_count_65 (by decide +kernel) ?_
    refine lv_isub hx hb dX6_count_66 ?_
    refine r_te (y := nI 0) (pk_sub (by omega)) ?_
    refine r_aaldD hx hb h0 hw 1 rfl (i := 0) (b := ad 20) (by omega) (by decide) rfl dX6_count_67 ?_
    refine r_calli (wr := [(ad 0, .inr (6, [.ref (ad 1), .ref (ad 2), .ref (ad 3), .ref (ad 4), .ref (ad 14), .ref (ad 15), .ref (ad 16), .ref (ad 18), .int (nI op)])), (ad 14, .inl (g.2.1 3, 2, .inr (.inr (.inr (.inr (fun j => some (ad (20 + 15 * j))))))))]) [2] [0, 1] h0 hw rfl rfl (by decide) (by decide) (va_runV (As := []) (rest := []) ⟨hx, hb, hml, hown, hts⟩ (c_X1_epoch l g (ad 20) 0 (ad 25) (ad 32) (ad 21) (ad 22) (ad 23) (ad 24) (ep 0) (nx 0)  _) (cwV 0 hts gX6_count_X1_epoch rfl rfl rfl (by decide +kernel) ⟨Nat.le_of_ble_eq_true rfl, Nat.le_of_ble_eq_true rfl⟩) (preV_of [2] [] h0 hw rfl (by decide) 2 1 rfl rfl) rfl rfl hl.1 rfl (lv_room (Nat.le_of_ble_eq_true rfl)) dX6_count_68 ⟨Nat.le_of_ble_eq_true rfl, Nat.le_of_ble_eq_true rfl⟩) (fun r2 u3 H locs hp4 hw => ?_)
    have hw : WD g A s [(ad 0, .inr (6, [.ref (ad 1), .ref (ad 2), .ref (ad 3), .ref (ad 4), .ref (ad 14), .ref (ad 15), .ref (ad 16), .ref (ad 18), .int (nI op)])), (ad 14, .inl (g.2.1 3, 2, .inr (.inr (.inr (.inr (fun j => some (ad (20 + 15 * j)))))))), (ad 20, .inr (1, [.int (nI 0), .ref (ad 25), .ref (ad 32), .ref (ad 21), .ref (ad 22), .ref (ad 23), .ref (ad 24), .int (nI (ep 0)), .long (nx 0)]))] [] H locs := hw
    subst hp4
    refine lv_goto (tgt := 75) hx hb dX6_count_71 (by decide) ?_
    exact hret hw () (rfl) (rfl) (by omega) (by omega) dX6_count_75

set_option maxHeartbeats 4000000 in
set_option maxRecDepth 100000 in
theorem c_X6_count_c2 (l : Launch) (g : GE) (ad : Nat → Nat) (op : Nat) (hop : op = 0) (sz : Nat) : MI l yX6_count wsX6_count { frames := 3, cells := 0, slots := 0, locals := 61 } g [.ref (ad 0), .int (nI 2)] [(ad 0, .inr (6, [.ref (ad 1), .ref (ad 2), .ref (ad 3), .ref (ad 4), .ref (ad 14), .ref (ad 15), .ref (ad 16), .ref (ad 18), .int (nI op)]))] sz (fun (r : Int32) (_ : Unit) => r = -1) (fun (_ : Unit) => [(ad 0, .inr (6, [.ref (ad 1), .ref (ad 2), .ref (ad 3), .ref (ad 4), .ref (ad 14), .ref (ad 15), .ref (ad 16), .ref (ad 18), .int (nI op)]))]) 0 0 := by
  refine enterI (by decide) rfl (Nat.le_of_ble_eq_true rfl) ?_
  intro p e s m below meth c A ls ar Q hE h0 hret hw hl
  obtain ⟨hx, hb, hr, hml, hown, hts, hlocks, hname⟩ := hE
  have hown : s.vm.findClass RX6 = some m.cls := hown
  have hw : WD g A s [(ad 0, .inr (6, [.ref (ad 1), .ref (ad 2), .ref (ad 3), .ref (ad 4), .ref (ad 14), .ref (ad 15), .ref (ad 16), .ref (ad 18), .int (nI op)]))] [] s.heap [] := hw
  have hinX6 : ∀ w ∈ u_ws RX6 TX6 9, w ∈ wsX6_count := by decide +kernel
  have k28 := hts (.fieldLink RX6 28 "RecordWire" "directions" "[LRecordWire$Direction;") (by decide +kernel)
  have k39 := hts (.fieldLink RX6 39 "RecordWire" "outbox" "LRecordWire$ByteRow;") (by decide +kernel)
  have k58 := hts (.fieldLink RX6 58 "RecordWire" "opened" "Z") (by decide +kernel)
  have hl : lv_has ls 2 [(0, .ref (ad 0)), (1, .int (nI 2))] := hl
  refine lv_iload_n hx hb dX6_count_0 rfl (lv_at hl 1 rfl) ?_
  refine lv_tableIn (tgt := 53) (off := 52) hx hb dX6_count_1 (by decide +kernel) (by decide +kernel) (by decide +kernel) (by decide) ?_
  refine lv_aload_n hx hb dX6_count_53 rfl (lv_at hl 0 rfl) ?_
  refine r_get (ci := 6) (v := .int (nI op)) (C := RX6) (T := TX6) (N := 9) hx hb hts hinX6 hown h0 hw 0 rfl rfl 8 (by decide) k58 rfl dX6_count_54 ?_
  refine lv_if_eq (tgt := 74) hx hb dX6_count_57 (by decide) (fun c1 => ?_) (fun c1 => ?_)
  · skip
    rw [← nI_0] at c1
    have c1 : op = 0 := (nI_eq (by omega) (by omega)).mp c1
    refine lv_iconst (v := -1) hx hb dX6_count_74 (by decide +kernel) ?_
    exact hret hw () (rfl) (rfl) (by omega) (by omega) dX6_count_75
  · skip
    rw [← nI_0] at c1
    have c1 : ¬ op = 0 := fun q => c1 (((nI_eq (by omega) (by omega)).mpr q))
    exfalso; omega

set_option maxHeartbeats 4000000 in
set_option maxRecDepth 100000 in
theorem c_X6_count_4 (l : Launch) (g : GE) (ad : Nat → Nat) (op : Nat) (ep : Nat → Nat) (nx : Nat → Int64) (gt : Nat → Int64) (sn : Nat → Int64) (sz : Nat) : MI l yX6_count wsX6_count { frames := 3, cells := 0, slots := 0, locals := 61 } g [.ref (ad 0), .int (nI 4)] [(ad 0, .inr (6, [.ref (ad 1), .ref (ad 2), .ref (ad 3), .ref (ad 4), .ref (ad 14), .ref (ad 15), .ref (ad 16), .ref (ad 18), .int (nI op)])), (ad 14, .inl (g.2.1 3, 2, .inr (.inr (.inr (.inr (fun j => some (ad (20 + 15 * j)))))))), (ad 20, .inr (1, [.int (nI 0), .ref (ad 25), .ref (ad 32), .ref (ad 21), .ref (ad 22), .ref (ad 23), .ref (ad 24), .int (nI (ep 0)), .long (nx 0)])), (ad 24, .inr (5, [.long (gt 0), .long (sn 0)]))] sz (fun (r : Int32) (_ : Unit) => r = bitC (sn 0)) (fun (_ : Unit) => [(ad 0, .inr (6, [.ref (ad 1), .ref (ad 2), .ref (ad 3), .ref (ad 4), .ref (ad 14), .ref (ad 15), .ref (ad 16), .ref (ad 18), .int (nI op)])), (ad 14, .inl (g.2.1 3, 2, .inr (.inr (.inr (.inr (fun j => some (ad (20 + 15 * j)))))))), (ad 20, .inr (1, [.int (nI 0), .ref (ad 25), .ref (ad 32), .ref (ad 21), .ref (ad 22), .ref (ad 23), .ref (ad 24), .int (nI (ep 0)), .long (nx 0)])), (ad 24, .inr (5, [.long (gt 0), .long (sn 0)]))]) 0 0 := by
  refine enterI (by decide) rfl (Nat.le_of_ble_eq_true rfl) ?_
  intro p e s m below meth c A ls ar Q hE h0 hret hw hl
  obtain ⟨hx, hb, hr, hml, hown, hts, hlocks, hname⟩ := hE
  have hown : s.vm.findClass RX6 = some m.cls := hown
  have hw : WD g A s [(ad 0, .inr (6, [.ref (ad 1), .ref (ad 2), .ref (ad 3), .ref (ad 4), .ref (ad 14), .ref (ad 15), .ref (ad 16), .ref (ad 18), .int (nI op)])), (ad 14, .inl (g.2.1 3, 2, .inr (.inr (.inr (.inr (fun j => some (ad (20 + 15 * j)))))))), (ad 20, .inr (1, [.int (nI 0), .ref (ad 25), .ref (ad 32), .ref (ad 21), .ref (ad 22), .ref (ad 23), .ref (ad 24), .int (nI (ep 0)), .long (nx 0)])), (ad 24, .inr (5, [.long (gt 0), .long (sn 0)]))] [] s.heap [] := hw
  have hinX6 : ∀ w ∈ u_ws RX6 TX6 9, w ∈ wsX6_count := by decide +kernel
  have k28 := hts (.fieldLink RX6 28 "RecordWire" "directions" "[LRecordWire$Direction;") (by decide +kernel)
  have k39 := hts (.fieldLink RX6 39 "RecordWire" "outbox" "LRecordWire$ByteRow;") (by decide +kernel)
  have k58 := hts (.fieldLink RX6 58 "RecordWire" "opened" "Z") (by decide +kernel)
  have hl : lv_has ls 2 [(0, .ref (ad 0)), (1, .int (nI 4))] := hl
  refine lv_iload_n hx hb dX6_count_0 rfl (lv_at hl 1 rfl) ?_
  refine lv_tableIn (tgt := 76) (off := 75) hx hb dX6_count_1 (by decide +kernel) (by decide +kernel) (by decide +kernel) (by decide) ?_
  refine lv_aload_n hx hb dX6_count_76 rfl (lv_at hl 0 rfl) ?_
  refine r_get (ci := 6) (v := .ref (ad 14)) (C := RX6) (T := TX6) (N := 9) hx hb hts hinX6 hown h0 hw 0 rfl rfl 4 (by decide) k28 rfl dX6_count_77 ?_
  refine lv_iload_n hx hb dX6_count_80 rfl (lv_at hl 1 rfl) ?_
  refine lv_iconst (v := nI 4) hx hb dX6_count_81 (by decide +kernel) ?_
  refine lv_isub hx hb dX6_count_82 ?_
  refine r_te (y := nI 0) (pk_sub (by omega)) ?_
  refine r_aaldD hx hb h0 hw 1 rfl (i := 0) (b := ad 20) (by omega) (by decide) rfl dX6_count_83 ?_
  refine r_calli (wr := [(ad 0, .inr (6, [.ref (ad 1), .ref (ad 2), .ref (ad 3), .ref (ad 4), .ref (ad 14), .ref (ad 15), .ref (ad 16), .ref (ad 18), .int (nI op)])), (ad 14, .inl (g.2.1 3, 2, .inr (.inr (.inr (.inr (fun j => some (ad (20 + 15 * j))))))))]) [2, 3] [0, 1] h0 hw rfl rfl (by decide) (by decide) (va_runV (As := []) (rest := []) ⟨hx, hb, hml, hown, hts⟩ (c_X1_seenInWindow l g (ad 20) 0 (ad 25) (ad 32) (ad 21) (ad 22) (ad 23) (ad 24) (ep 0) (nx 0) (gt 0) (sn 0)  _) (cwV 0 hts gX6_count_X1_seenInWindow rfl rfl rfl (by decide +kernel) ⟨Nat.le_of_ble_eq_true rfl, Nat.le_of_ble_eq_true rfl⟩) (preV_of [2, 3] [] h0 hw rfl (by decide) 2 1 rfl rfl) rfl rfl hl.1 rfl (lv_room (Nat.le_of_ble_eq_true rfl)) dX6_count_84 ⟨Nat.le_of_ble_eq_true rfl, Nat.le_of_ble_eq_true rfl⟩) (fun r1 u2 H locs hp3 hw => ?_)
  have hw : WD g A s [(ad 0, .inr (6, [.ref (ad 1), .ref (ad 2), .ref (ad 3), .ref (ad 4), .ref (ad 14), .ref (ad 15), .ref (ad 16), .ref (ad 18), .int (nI op)])), (ad 14, .inl (g.2.1 3, 2, .inr (.inr (.inr (.inr (fun j => some (ad (20 + 15 * j)))))))), (ad 20, .inr (1, [.int (nI 0), .ref (ad 25), .ref (ad 32), .ref (ad 21), .ref (ad 22), .ref (ad 23), .ref (ad 24), .int (nI (ep 0)), .long (nx 0)])), (ad 24, .inr (5, [.long (gt 0), .long (sn 0)]))] [] H locs := hw
  subst hp3
  exact hret hw () (rfl) (rfl) (by omega) (by omega) dX6_count_87

set_option maxHeartbeats 4000000 in
set_option maxRecDepth 100000 in
theorem c_X6_count_3 (l : Launch) (g : GE) (ad : Nat → Nat) (op : Nat) (ep : Nat → Nat) (nx : Nat → Int64) (hop : ¬ op = 0) (hop2 : op < 2) (sz : Nat) : MI l yX6_count wsX6_count { frames := 3, cells := 0, slots := 0, locals := 61 } g [.ref (ad 0), .int (nI 3)] [(ad 0, .inr (6, [.ref (ad 1), .ref (ad 2), .ref (ad 3), .ref (ad 4), .ref (ad 14), .ref (ad 15), .ref (ad 16), .ref (ad 18), .int (nI op)])), (ad 14, .inl (g.2.1 3, 2, .inr (.inr (.inr (.inr (fun j => some (ad (20 + 15 * j)))))))), (ad 35, .inr (1, [.int (nI 1), .ref (ad 40), .ref (ad 47), .ref (ad 36), .ref (ad 37), .ref (ad 38), .ref (ad 39), .int (nI (ep 1)), .long (nx 1)]))] sz (fun (r : Int32) (_ : Unit) => r = nI (ep 1)) (fun (_ : Unit) => [(ad 0, .inr (6, [.ref (ad 1), .ref (ad 2), .ref (ad 3), .ref (ad 4), .ref (ad 14), .ref (ad 15), .ref (ad 16), .ref (ad 18), .int (nI op)])), (ad 14, .inl (g.2.1 3, 2, .inr (.inr (.inr (.inr (fun j => some (ad (20 + 15 * j)))))))), (ad 35, .inr (1, [.int (nI 1), .ref (ad 40), .ref (ad 47), .ref (ad 36), .ref (ad 37), .ref (ad 38), .ref (ad 39), .int (nI (ep 1)), .long (nx 1)]))]) 0 0 := by
  refine enterI (by decide) rfl (Nat.le_of_ble_eq_true rfl) ?_
  intro p e s m below meth c A ls ar Q hE h0 hret hw hl
  obtain ⟨hx, hb, hr, hml, hown, hts, hlocks, hname⟩ := hE
  have hown : s.vm.findClass RX6 = some m.cls := hown
  have hw : WD g A s [(ad 0, .inr (6, [.ref (ad 1), .ref (ad 2), .ref (ad 3), .ref (ad 4), .ref (ad 14), .ref (ad 15), .ref (ad 16), .ref (ad 18), .int (nI op)])), (ad 14, .inl (g.2.1 3, 2, .inr (.inr (.inr (.inr (fun j => some (ad (20 + 15 * j)))))))), (ad 35, .inr (1, [.int (nI 1), .ref (ad 40), .ref (ad 47), .ref (ad 36), .ref (ad 37), .ref (ad 38), .ref (ad 39), .int (nI (ep 1)), .long (nx 1)]))] [] s.heap [] := hw
  have hinX6 : ∀ w ∈ u_ws RX6 TX6 9, w ∈ wsX6_count := by decide +kernel
  have k28 := hts (.fieldLink RX6 28 "RecordWire" "directions" "[LRecordWire$Direction;") (by decide +kernel)
  have k39 := hts (.fieldLink RX6 39 "RecordWire" "outbox" "LRecordWire$ByteRow;") (by decide +kernel)
  have k58 := hts (.fieldLink RX6 58 "RecordWire" "opened" "Z") (by decide +kernel)
  have hl : lv_has ls 2 [(0, .ref (ad 0)), (1, .int (nI 3))] := hl
  refine lv_iload_n hx hb dX6_count_0 rfl (lv_at hl 1 rfl) ?_
  refine lv_tableIn (tgt := 53) (off := 52) hx hb dX6_count_1 (by decide +kernel) (by decide +kernel) (by decide +kernel) (by decide) ?_
  refine lv_aload_n hx hb dX6_count_53 rfl (lv_at hl 0 rfl) ?_
  refine r_get (ci := 6) (v := .int (nI op)) (C := RX6) (T := TX6) (N := 9) hx hb hts hinX6 hown h0 hw 0 rfl rfl 8 (by decide) k58 rfl dX6_count_54 ?_
  refine lv_if_eq (tgt := 74) hx hb dX6_count_57 (by decide) (fun c1 => ?_) (fun c1 => ?_)
  · skip
    rw [← nI_0] at c1
    have c1 : op = 0 := (nI_eq (by omega) (by omega)).mp c1
    exfalso; omega
  · skip
    rw [← nI_0] at c1
    have c1 : ¬ op = 0 := fun q => c1 (((nI_eq (by omega) (by omega)).mpr q))
    refine lv_aload_n hx hb dX6_count_60 rfl (lv_at hl 0 rfl) ?_
    refine r_get (ci := 6) (v := .ref (ad 14)) (C := RX6) (T := TX6) (N := 9) hx hb hts hinX6 hown h0 hw 0 rfl rfl 4 (by decide) k28 rfl dX6_count_61 ?_
    refine lv_iload_n hx hb dX6_count_64 rfl (lv_at hl 1 rfl) ?_
    refine lv_iconst (v := nI 2) hx hb dX6_count_65 (by decide +kernel) ?_
    refine lv_isub hx hb dX6_count_66 ?_
    refine r_te (y := nI 1) (pk_sub (by omega)) ?_
    refine r_aaldD hx hb h0 hw 1 rfl (i := 1) (b := ad 35) (by omega) (by decide) rfl dX6_count_67 ?_
    refine r_calli (wr := [(ad 0, .inr (6, [.ref (ad 1), .ref (ad 2), .ref (ad 3), .ref (ad 4), .ref (ad 14), .ref (ad 15), .ref (ad 16), .ref (ad 18), .int (nI op)])), (ad 14, .inl (g.2.1 3, 2, .inr (.inr (.inr (.inr (fun j => some (ad (20 + 15 * j))))))))]) [2] [0, 1] h0 hw rfl rfl (by decide) (by decide) (va_runV (As := []) (rest := []) ⟨hx, hb, hml, hown, hts⟩ (c_X1_epoch l g (ad 35) 1 (ad 40) (ad 47) (ad 36) (ad 37) (ad 38) (ad 39) (ep 1) (nx 1)  _) (cwV 0 hts gX6_count_X1_epoch rfl rfl rfl (by decide +kernel) ⟨Nat.le_of_ble_eq_true rfl, Nat.le_of_ble_eq_true rfl⟩) (preV_of [2] [] h0 hw rfl (by decide) 2 1 rfl rfl) rfl rfl hl.1 rfl (lv_room (Nat.le_of_ble_eq_true rfl)) dX6_count_68 ⟨Nat.le_of_ble_eq_true rfl, Nat.le_of_ble_eq_true rfl⟩) (fun r2 u3 H locs hp4 hw => ?_)
    have hw : WD g A s [(ad 0, .inr (6, [.ref (ad 1), .ref (ad 2), .ref (ad 3), .ref (ad 4), .ref (ad 14), .ref (ad 15), .ref (ad 16), .ref (ad 18), .int (nI op)])), (ad 14, .inl (g.2.1 3, 2, .inr (.inr (.inr (.inr (fun j => some (ad (20 + 15 * j)))))))), (ad 35, .inr (1, [.int (nI 1), .ref (ad 40), .ref (ad 47), .ref (ad 36), .ref (ad 37), .ref (ad 38), .ref (ad 39), .int (nI (ep 1)), .long (nx 1)]))] [] H locs := hw
    subst hp4
    refine lv_goto (tgt := 75) hx hb dX6_count_71 (by decide) ?_
    exact hret hw () (rfl) (rfl) (by omega) (by omega) dX6_count_75

set_option maxHeartbeats 4000000 in
set_option maxRecDepth 100000 in
theorem c_X6_count_c3 (l : Launch) (g : GE) (ad : Nat → Nat) (op : Nat) (hop : op = 0) (sz : Nat) : MI l yX6_count wsX6_count { frames := 3, cells := 0, slots := 0, locals := 61 } g [.ref (ad 0), .int (nI 3)] [(ad 0, .inr (6, [.ref (ad 1), .ref (ad 2), .ref (ad 3), .ref (ad 4), .ref (ad 14), .ref (ad 15), .ref (ad 16), .ref (ad 18), .int (nI op)]))] sz (fun (r : Int32) (_ : Unit) => r = -1) (fun (_ : Unit) => [(ad 0, .inr (6, [.ref (ad 1), .ref (ad 2), .ref (ad 3), .ref (ad 4), .ref (ad 14), .ref (ad 15), .ref (ad 16), .ref (ad 18), .int (nI op)]))]) 0 0 := by
  refine enterI (by decide) rfl (Nat.le_of_ble_eq_true rfl) ?_
  intro p e s m below meth c A ls ar Q hE h0 hret hw hl
  obtain ⟨hx, hb, hr, hml, hown, hts, hlocks, hname⟩ := hE
  have hown : s.vm.findClass RX6 = some m.cls := hown
  have hw : WD g A s [(ad 0, .inr (6, [.ref (ad 1), .ref (ad 2), .ref (ad 3), .ref (ad 4), .ref (ad 14), .ref (ad 15), .ref (ad 16), .ref (ad 18), .int (nI op)]))] [] s.heap [] := hw
  have hinX6 : ∀ w ∈ u_ws RX6 TX6 9, w ∈ wsX6_count := by decide +kernel
  have k28 := hts (.fieldLink RX6 28 "RecordWire" "directions" "[LRecordWire$Direction;") (by decide +kernel)
  have k39 := hts (.fieldLink RX6 39 "RecordWire" "outbox" "LRecordWire$ByteRow;") (by decide +kernel)
  have k58 := hts (.fieldLink RX6 58 "RecordWire" "opened" "Z") (by decide +kernel)
  have hl : lv_has ls 2 [(0, .ref (ad 0)), (1, .int (nI 3))] := hl
  refine lv_iload_n hx hb dX6_count_0 rfl (lv_at hl 1 rfl) ?_
  refine lv_tableIn (tgt := 53) (off := 52) hx hb dX6_count_1 (by decide +kernel) (by decide +kernel) (by decide +kernel) (by decide) ?_
  refine lv_aload_n hx hb dX6_count_53 rfl (lv_at hl 0 rfl) ?_
  refine r_get (ci := 6) (v := .int (nI op)) (C := RX6) (T := TX6) (N := 9) hx hb hts hinX6 hown h0 hw 0 rfl rfl 8 (by decide) k58 rfl dX6_count_54 ?_
  refine lv_if_eq (tgt := 74) hx hb dX6_count_57 (by decide) (fun c1 => ?_) (fun c1 => ?_)
  · skip
    rw [← nI_0] at c1
    have c1 : op = 0 := (nI_eq (by omega) (by omega)).mp c1
    refine lv_iconst (v := -1) hx hb dX6_count_74 (by decide +kernel) ?_
    exact hret hw () (rfl) (rfl) (by omega) (by omega) dX6_count_75
  · skip
    rw [← nI_0] at c1
    have c1 : ¬ op = 0 := fun q => c1 (((nI_eq (by omega) (by omega)).mpr q))
    exfalso; omega

set_option maxHeartbeats 4000000 in
set_option maxRecDepth 100000 in
theorem c_X6_count_5 (l : Launch) (g : GE) (ad : Nat → Nat) (op : Nat) (ep : Nat → Nat) (nx : Nat → Int64) (gt : Nat → Int64) (sn : Nat → Int64) (sz : Nat) : MI l yX6_count wsX6_count { frames := 3, cells := 0, slots := 0, locals := 61 } g [.ref (ad 0), .int (nI 5)] [(ad 0, .inr (6, [.ref (ad 1), .ref (ad 2), .ref (ad 3), .ref (ad 4), .ref (ad 14), .ref (ad 15), .ref (ad 16), .ref (ad 18), .int (nI op)])), (ad 14, .inl (g.2.1 3, 2, .inr (.inr (.inr (.inr (fun j => some (ad (20 + 15 * j)))))))), (ad 35, .inr (1, [.int (nI 1), .ref (ad 40), .ref (ad 47), .ref (ad 36), .ref (ad 37), .ref (ad 38), .ref (ad 39), .int (nI (ep 1)), .long (nx 1)])), (ad 39, .inr (5, [.long (gt 1), .long (sn 1)]))] sz (fun (r : Int32) (_ : Unit) => r = bitC (sn 1)) (fun (_ : Unit) => [(ad 0, .inr (6, [.ref (ad 1), .ref (ad 2), .ref (ad 3), .ref (ad 4), .ref (ad 14), .ref (ad 15), .ref (ad 16), .ref (ad 18), .int (nI op)])), (ad 14, .inl (g.2.1 3, 2, .inr (.inr (.inr (.inr (fun j => some (ad (20 + 15 * j)))))))), (ad 35, .inr (1, [.int (nI 1), .ref (ad 40), .ref (ad 47), .ref (ad 36), .ref (ad 37), .ref (ad 38), .ref (ad 39), .int (nI (ep 1)), .long (nx 1)])), (ad 39, .inr (5, [.long (gt 1), .long (sn 1)]))]) 0 0 := by
  refine enterI (by decide) rfl (Nat.le_of_ble_eq_true rfl) ?_
  intro p e s m below meth c A ls ar Q hE h0 hret hw hl
  obtain ⟨hx, hb, hr, hml, hown, hts, hlocks, hname⟩ := hE
  have hown : s.vm.findClass RX6 = some m.cls := hown
  have hw : WD g A s [(ad 0, .inr (6, [.ref (ad 1), .ref (ad 2), .ref (ad 3), .ref (ad 4), .ref (ad 14), .ref (ad 15), .ref (ad 16), .ref (ad 18), .int (nI op)])), (ad 14, .inl (g.2.1 3, 2, .inr (.inr (.inr (.inr (fun j => some (ad (20 + 15 * j)))))))), (ad 35, .inr (1, [.int (nI 1), .ref (ad 40), .ref (ad 47), .ref (ad 36), .ref (ad 37), .ref (ad 38), .ref (ad 39), .int (nI (ep 1)), .long (nx 1)])), (ad 39, .inr (5, [.long (gt 1), .long (sn 1)]))] [] s.heap [] := hw
  have hinX6 : ∀ w ∈ u_ws RX6 TX6 9, w ∈ wsX6_count := by decide +kernel
  have k28 := hts (.fieldLink RX6 28 "RecordWire" "directions" "[LRecordWire$Direction;") (by decide +kernel)
  have k39 := hts (.fieldLink RX6 39 "RecordWire" "outbox" "LRecordWire$ByteRow;") (by decide +kernel)
  have k58 := hts (.fieldLink RX6 58 "RecordWire" "opened" "Z") (by decide +kernel)
  have hl : lv_has ls 2 [(0, .ref (ad 0)), (1, .int (nI 5))] := hl
  refine lv_iload_n hx hb dX6_count_0 rfl (lv_at hl 1 rfl) ?_
  refine lv_tableIn (tgt := 76) (off := 75) hx hb dX6_count_1 (by decide +kernel) (by decide +kernel) (by decide +kernel) (by decide) ?_
  refine lv_aload_n hx hb dX6_count_76 rfl (lv_at hl 0 rfl) ?_
  refine r_get (ci := 6) (v := .ref (ad 14)) (C := RX6) (T := TX6) (N := 9) hx hb hts hinX6 hown h0 hw 0 rfl rfl 4 (by decide) k28 rfl dX6_count_77 ?_
  refine lv_iload_n hx hb dX6_count_80 rfl (lv_at hl 1 rfl) ?_
  refine lv_iconst (v := nI 4) hx hb dX6_count_81 (by decide +kernel) ?_
  refine lv_isub hx hb dX6_count_82 ?_
  refine r_te (y := nI 1) (pk_sub (by omega)) ?_
  refine r_aaldD hx hb h0 hw 1 rfl (i := 1) (b := ad 35) (by omega) (by decide) rfl dX6_count_83 ?_
  refine r_calli (wr := [(ad 0, .inr (6, [.ref (ad 1), .ref (ad 2), .ref (ad 3), .ref (ad 4), .ref (ad 14), .ref (ad 15), .ref (ad 16), .ref (ad 18), .int (nI op)])), (ad 14, .inl (g.2.1 3, 2, .inr (.inr (.inr (.inr (fun j => some (ad (20 + 15 * j))))))))]) [2, 3] [0, 1] h0 hw rfl rfl (by decide) (by decide) (va_runV (As := []) (rest := []) ⟨hx, hb, hml, hown, hts⟩ (c_X1_seenInWindow l g (ad 35) 1 (ad 40) (ad 47) (ad 36) (ad 37) (ad 38) (ad 39) (ep 1) (nx 1) (gt 1) (sn 1)  _) (cwV 0 hts gX6_count_X1_seenInWindow rfl rfl rfl (by decide +kernel) ⟨Nat.le_of_ble_eq_true rfl, Nat.le_of_ble_eq_true rfl⟩) (preV_of [2, 3] [] h0 hw rfl (by decide) 2 1 rfl rfl) rfl rfl hl.1 rfl (lv_room (Nat.le_of_ble_eq_true rfl)) dX6_count_84 ⟨Nat.le_of_ble_eq_true rfl, Nat.le_of_ble_eq_true rfl⟩) (fun r1 u2 H locs hp3 hw => ?_)
  have hw : WD g A s [(ad 0, .inr (6, [.ref (ad 1), .ref (ad 2), .ref (ad 3), .ref (ad 4), .ref (ad 14), .ref (ad 15), .ref (ad 16), .ref (ad 18), .int (nI op)])), (ad 14, .inl (g.2.1 3, 2, .inr (.inr (.inr (.inr (fun j => some (ad (20 + 15 * j)))))))), (ad 35, .inr (1, [.int (nI 1), .ref (ad 40), .ref (ad 47), .ref (ad 36), .ref (ad 37), .ref (ad 38), .ref (ad 39), .int (nI (ep 1)), .long (nx 1)])), (ad 39, .inr (5, [.long (gt 1), .long (sn 1)]))] [] H locs := hw
  subst hp3
  exact hret hw () (rfl) (rfl) (by omega) (by omega) dX6_count_87

set_option maxHeartbeats 4000000 in
set_option maxRecDepth 100000 in
theorem c_X6_count_bad (l : Launch) (g : GE) (ad : Nat → Nat) (op : Nat) (i : Int32) (hi : i.toInt < 0 ∨ 5 < i.toInt) (sz : Nat) : MI l yX6_count wsX6_count { frames := 3, cells := 0, slots := 0, locals := 61 } g [.ref (ad 0), .int (i)] [(ad 0, .inr (6, [.ref (ad 1), .ref (ad 2), .ref (ad 3), .ref (ad 4), .ref (ad 14), .ref (ad 15), .ref (ad 16), .ref (ad 18), .int (nI op)]))] sz (fun (r : Int32) (_ : Unit) => r = -1) (fun (_ : Unit) => [(ad 0, .inr (6, [.ref (ad 1), .ref (ad 2), .ref (ad 3), .ref (ad 4), .ref (ad 14), .ref (ad 15), .ref (ad 16), .ref (ad 18), .int (nI op)]))]) 0 0 := by
  refine enterI (by decide) rfl (Nat.le_of_ble_eq_true rfl) ?_
  intro p e s m below meth c A ls ar Q hE h0 hret hw hl
  obtain ⟨hx, hb, hr, hml, hown, hts, hlocks, hname⟩ := hE
  have hown : s.vm.findClass RX6 = some m.cls := hown
  have hw : WD g A s [(ad 0, .inr (6, [.ref (ad 1), .ref (ad 2), .ref (ad 3), .ref (ad 4), .ref (ad 14), .ref (ad 15), .ref (ad 16), .ref (ad 18), .int (nI op)]))] [] s.heap [] := hw
  have hinX6 : ∀ w ∈ u_ws RX6 TX6 9, w ∈ wsX6_count := by decide +kernel
  have k28 := hts (.fieldLink RX6 28 "RecordWire" "directions" "[LRecordWire$Direction;") (by decide +kernel)
  have k39 := hts (.fieldLink RX6 39 "RecordWire" "outbox" "LRecordWire$ByteRow;") (by decide +kernel)
  have k58 := hts (.fieldLink RX6 58 "RecordWire" "opened" "Z") (by decide +kernel)
  have hl : lv_has ls 2 [(0, .ref (ad 0)), (1, .int (i))] := hl
  refine lv_iload_n hx hb dX6_count_0 rfl (lv_at hl 1 rfl) ?_
  refine lv_tableOut (tgt := 88) hx hb dX6_count_1 (hi) (by decide) ?_
  refine lv_iconst (v := -1) hx hb dX6_count_88 (by decide +kernel) ?_
  exact hret hw () (rfl) (rfl) (by omega) (by omega) dX6_count_89
