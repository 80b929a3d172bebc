set_option maxHeartbeats 4000000 in
set_option maxRecDepth 100000 in
theorem c_X6_wireAt (l : Launch) (g : GE) (ad : Nat → Nat) (op : Nat) (sa : Nat → Nat) (sb : Nat → Nat) (z : Nat → Nat) (f : Nat → Nat → Int32) (k : Nat) (i : Nat) (hk : k < 8) (hi : i < z k) (hz : z k ≤ 127) (sz : Nat) : MI l yX6_wireAt wsX6_wireAt { frames := 1, cells := 0, slots := 0, locals := 21 } g [.ref (ad 0), .int (nI k), .int (nI i)] ([(ad 0, .inr (6, [.ref (ad 1), .ref (ad 2), .ref (ad 3), .ref (ad 4), .ref (ad 14), .ref (ad 15), .ref (ad 16), .ref (ad 18), .int (nI op)])), (ad 15, .inl (g.2.1 4, 8, .inr (.inr (.inr (.inr (fun j => some (sa j)))))))] ++ (slAll (slC g sa sb z f))) sz (fun (r : Int32) (_ : Unit) => r = f k i) (fun (_ : Unit) => [(ad 0, .inr (6, [.ref (ad 1), .ref (ad 2), .ref (ad 3), .ref (ad 4), .ref (ad 14), .ref (ad 15), .ref (ad 16), .ref (ad 18), .int (nI op)])), (ad 15, .inl (g.2.1 4, 8, .inr (.inr (.inr (.inr (fun j => some (sa j)))))))] ++ (slAll (slC g sa sb z f))) 0 0 := by
  refine enterI (by decide) rfl (Nat.le_of_ble_eq_true rfl) ?_
  intro p e s m below meth c A ls ar Q hE h0 hret hw hl
  obtain ⟨hx, hb, hr, hml, hown, hts, hlocks, hname⟩ := hE
  have hown : s.vm.findClass RX6 = some m.cls := hown
  have hw : WD g A s [(ad 0, .inr (6, [.ref (ad 1), .ref (ad 2), .ref (ad 3), .ref (ad 4), .ref (ad 14), .ref (ad 15), .ref (ad 16), .ref (ad 18), .int (nI op)])), (ad 15, .inl (g.2.1 4, 8, .inr (.inr (.inr (.inr (fun j => some (sa j)))))))] (slAll (slC g sa sb z f)) s.heap [] := hw.to (by rw [List.append_nil])
  have hinX6 : ∀ w ∈ u_ws RX6 TX6 9, w ∈ wsX6_wireAt := by decide +kernel
  have k34 := hts (.fieldLink RX6 34 "RecordWire" "slots" "[LRecordWire$ByteRow;") (by decide +kernel)
  have hl : lv_has ls 3 [(0, .ref (ad 0)), (1, .int (nI k)), (2, .int (nI i))] := hl
  refine lv_iload_n hx hb dX6_wireAt_0 rfl (lv_at hl 1 rfl) ?_
  refine r_calli (wr := [(ad 0, .inr (6, [.ref (ad 1), .ref (ad 2), .ref (ad 3), .ref (ad 4), .ref (ad 14), .ref (ad 15), .ref (ad 16), .ref (ad 18), .int (nI op)])), (ad 15, .inl (g.2.1 4, 8, .inr (.inr (.inr (.inr (fun j => some (sa j)))))))]) [] [0, 1] h0 hw rfl rfl (by decide) (by decide) (va_runS (As := [.int (nI k)]) (rest := []) ⟨hx, hb, hml, hown, hts⟩ (c_X6_isSlot l g (nI k)  _) (va_cwS 1 hts gX6_wireAt_X6_isSlot rfl rfl rfl (by decide +kernel) ⟨Nat.le_of_ble_eq_true rfl, Nat.le_of_ble_eq_true rfl⟩) (preS_of [] [.int (nI k)] h0 hw rfl (by decide)) rfl rfl hl.1 rfl (lv_room (Nat.le_of_ble_eq_true rfl)) dX6_wireAt_1 ⟨Nat.le_of_ble_eq_true rfl, Nat.le_of_ble_eq_true rfl⟩) (fun r1 u2 H locs hp3 hw => ?_)
  have hw : WD g A s [(ad 0, .inr (6, [.ref (ad 1), .ref (ad 2), .ref (ad 3), .ref (ad 4), .ref (ad 14), .ref (ad 15), .ref (ad 16), .ref (ad 18), .int (nI op)])), (ad 15, .inl (g.2.1 4, 8, .inr (.inr (.inr (.inr (fun j => some (sa j)))))))] (slAll (slC g sa sb z f)) H locs := hw
  subst hp3
  refine lv_if_eq (tgt := 20) hx hb dX6_wireAt_4 (by decide) (fun c4 => ?_) (fun c4 => ?_)
  · skip
    have c4 : ¬ (inR (nI k) 8) := bI_f c4
    exact absurd (inR_nI hk) c4
  · skip
    have c4 : inR (nI k) 8 := bI_t c4
    have hw := slOpen (k := k) (by omega) hw
    have hw : WD g A s [(ad 0, .inr (6, [.ref (ad 1), .ref (ad 2), .ref (ad 3), .ref (ad 4), .ref (ad 14), .ref (ad 15), .ref (ad 16), .ref (ad 18), .int (nI op)])), (ad 15, .inl (g.2.1 4, 8, .inr (.inr (.inr (.inr (fun j => some (sa j))))))), (sa k, .inr (0, [.ref (sb k), .int (nI (z k))])), (sb k, .inl (g.2.1 0, 127, .inl (f k)))] (slRest (slC g sa sb z f) k) H locs := hw
    refine lv_aload_n hx hb dX6_wireAt_7 rfl (lv_at hl 0 rfl) ?_
    refine r_get (ci := 6) (v := .ref (ad 15)) (C := RX6) (T := TX6) (N := 9) hx hb hts hinX6 hown h0 hw 0 rfl rfl 5 (by decide) k34 rfl dX6_wireAt_8 ?_
    refine lv_iload_n hx hb dX6_wireAt_11 rfl (lv_at hl 1 rfl) ?_
    refine r_aaldB hx hb h0 hw 1 rfl (i := k) (b := sa k) (by omega) (by decide) rfl dX6_wireAt_12 ?_
    refine lv_iload_n hx hb dX6_wireAt_13 rfl (lv_at hl 2 rfl) ?_
    refine r_calli (wr := [(ad 0, .inr (6, [.ref (ad 1), .ref (ad 2), .ref (ad 3), .ref (ad 4), .ref (ad 14), .ref (ad 15), .ref (ad 16), .ref (ad 18), .int (nI op)])), (ad 15, .inl (g.2.1 4, 8, .inr (.inr (.inr (.inr (fun j => some (sa j)))))))]) [2, 3] [0, 1] h0 hw rfl rfl (by decide) (by decide) (va_runV (As := [.int (nI i)]) (rest := []) ⟨hx, hb, hml, hown, hts⟩ (c_X0_at l g (sa k) (sb k) (z k) (f k) i (by omega) (by omega) _) (cwV 1 hts gX6_wireAt_X0_at rfl rfl rfl (by decide +kernel) ⟨Nat.le_of_ble_eq_true rfl, Nat.le_of_ble_eq_true rfl⟩) (preV_of [2, 3] [.int (nI i)] h0 hw rfl (by decide) 2 0 rfl rfl) rfl rfl hl.1 rfl (lv_room (Nat.le_of_ble_eq_true rfl)) dX6_wireAt_14 ⟨Nat.le_of_ble_eq_true rfl, Nat.le_of_ble_eq_true rfl⟩) (fun r5 u6 H locs hp7 hw => ?_)
    have hw : WD g A s [(ad 0, .inr (6, [.ref (ad 1), .ref (ad 2), .ref (ad 3), .ref (ad 4), .ref (ad 14), .ref (ad 15), .ref (ad 16), .ref (ad 18), .int (nI op)])), (ad 15, .inl (g.2.1 4, 8, .inr (.inr (.inr (.inr (fun j => some (sa j))))))), (sa k, .inr (0, [.ref (sb k), .int (nI (z k))])), (sb k, .inl (g.2.1 0, 127, .inl (f k)))] (slRest (slC g sa sb z f) k) H locs := hw
    subst hp7
    refine lv_goto (tgt := 21) hx hb dX6_wireAt_17 (by decide) ?_
    have hw := slClose (k := k) (X := [(ad 0, .inr (6, [.ref (ad 1), .ref (ad 2), .ref (ad 3), .ref (ad 4), .ref (ad 14), .ref (ad 15), .ref (ad 16), .ref (ad 18), .int (nI op)])), (ad 15, .inl (g.2.1 4, 8, .inr (.inr (.inr (.inr (fun j => some (sa j)))))))]) (n2 := z k) (f2 := f k) (by omega) hw
    have hw : WD g A s [(ad 0, .inr (6, [.ref (ad 1), .ref (ad 2), .ref (ad 3), .ref (ad 4), .ref (ad 14), .ref (ad 15), .ref (ad 16), .ref (ad 18), .int (nI op)])), (ad 15, .inl (g.2.1 4, 8, .inr (.inr (.inr (.inr (fun j => some (sa j)))))))] (slAll (slC g sa sb (va_up z k (z k)) (va_up f k (f k)))) H locs := hw
    rw [va_up_id, va_up_id] at hw
    exact hret hw () (rfl) (rfl) (by omega) (by omega) dX6_wireAt_21

set_option maxHeartbeats 4000000 in
set_option maxRecDepth 100000 in
theorem c_X6_wireAt_out (l : Launch) (g : GE) (ad : Nat → Nat) (op : Nat) (sa : Nat → Nat) (sb : Nat → Nat) (z : Nat → Nat) (f : Nat → Nat → Int32) (k : Nat) (i : Int32) (hk : k < 8) (hi : i < 0 ∨ nI (z k) ≤ i) (sz : Nat) : MI l yX6_wireAt wsX6_wireAt { frames := 1, cells := 0, slots := 0, locals := 21 } g [.ref (ad 0), .int (nI k), .int (i)] ([(ad 0, .inr (6, [.ref (ad 1), .ref (ad 2), .ref (ad 3), .ref (ad 4), .ref (ad 14), .ref (ad 15), .ref (ad 16), .ref (ad 18), .int (nI op)])), (ad 15, .inl (g.2.1 4, 8, .inr (.inr (.inr (.inr (fun j => some (sa j)))))))] ++ (slAll (slC g sa sb z f))) sz (fun (r : Int32) (_ : Unit) => r = -1) (fun (_ : Unit) => [(ad 0, .inr (6, [.ref (ad 1), .ref (ad 2), .ref (ad 3), .ref (ad 4), .ref (ad 14), .ref (ad 15), .ref (ad 16), .ref (ad 18), .int (nI op)])), (ad 15, .inl (g.2.1 4, 8, .inr (.inr (.inr (.inr (fun j => some (sa j)))))))] ++ (slAll (slC g sa sb z f))) 0 0 := by
  refine enterI (by decide) rfl (Nat.le_of_ble_eq_true rfl) ?_
  intro p e s m below meth c A ls ar Q hE h0 hret hw hl
  obtain ⟨hx, hb, hr, hml, hown, hts, hlocks, hname⟩ := hE
  have hown : s.vm.findClass RX6 = some m.cls := hown
  have hw : WD g A s [(ad 0, .inr (6, [.ref (ad 1), .ref (ad 2), .ref (ad 3), .ref (ad 4), .ref (ad 14), .ref (ad 15), .ref (ad 16), .ref (ad 18), .int (nI op)])), (ad 15, .inl (g.2.1 4, 8, .inr (.inr (.inr (.inr (fun j => some (sa j)))))))] (slAll (slC g sa sb z f)) s.heap [] := hw.to (by rw [List.append_nil])
  have hinX6 : ∀ w ∈ u_ws RX6 TX6 9, w ∈ wsX6_wireAt := by decide +kernel
  have k34 := hts (.fieldLink RX6 34 "RecordWire" "slots" "[LRecordWire$ByteRow;") (by decide +kernel)
  have hl : lv_has ls 3 [(0, .ref (ad 0)), (1, .int (nI k)), (2, .int (i))] := hl
  refine lv_iload_n hx hb dX6_wireAt_0 rfl (lv_at hl 1 rfl) ?_
  refine r_calli (wr := [(ad 0, .inr (6, [.ref (ad 1), .ref (ad 2), .ref (ad 3), .ref (ad 4), .ref (ad 14), .ref (ad 15), .ref (ad 16), .ref (ad 18), .int (nI op)])), (ad 15, .inl (g.2.1 4, 8, .inr (.inr (.inr (.inr (fun j => some (sa j)))))))]) [] [0, 1] h0 hw rfl rfl (by decide) (by decide) (va_runS (As := [.int (nI k)]) (rest := []) ⟨hx, hb, hml, hown, hts⟩ (c_X6_isSlot l g (nI k)  _) (va_cwS 1 hts gX6_wireAt_X6_isSlot rfl rfl rfl (by decide +kernel) ⟨Nat.le_of_ble_eq_true rfl, Nat.le_of_ble_eq_true rfl⟩) (preS_of [] [.int (nI k)] h0 hw rfl (by decide)) rfl rfl hl.1 rfl (lv_room (Nat.le_of_ble_eq_true rfl)) dX6_wireAt_1 ⟨Nat.le_of_ble_eq_true rfl, Nat.le_of_ble_eq_true rfl⟩) (fun r1 u2 H locs hp3 hw => ?_)
  have hw : WD g A s [(ad 0, .inr (6, [.ref (ad 1), .ref (ad 2), .ref (ad 3), .ref (ad 4), .ref (ad 14), .ref (ad 15), .ref (ad 16), .ref (ad 18), .int (nI op)])), (ad 15, .inl (g.2.1 4, 8, .inr (.inr (.inr (.inr (fun j => some (sa j)))))))] (slAll (slC g sa sb z f)) H locs := hw
  subst hp3
  refine lv_if_eq (tgt := 20) hx hb dX6_wireAt_4 (by decide) (fun c4 => ?_) (fun c4 => ?_)
  · skip
    have c4 : ¬ (inR (nI k) 8) := bI_f c4
    exact absurd (inR_nI hk) c4
  · skip
    have c4 : inR (nI k) 8 := bI_t c4
    have hw := slOpen (k := k) (by omega) hw
    have hw : WD g A s [(ad 0, .inr (6, [.ref (ad 1), .ref (ad 2), .ref (ad 3), .ref (ad 4), .ref (ad 14), .ref (ad 15), .ref (ad 16), .ref (ad 18), .int (nI op)])), (ad 15, .inl (g.2.1 4, 8, .inr (.inr (.inr (.inr (fun j => some (sa j))))))), (sa k, .inr (0, [.ref (sb k), .int (nI (z k))])), (sb k, .inl (g.2.1 0, 127, .inl (f k)))] (slRest (slC g sa sb z f) k) H locs := hw
    refine lv_aload_n hx hb dX6_wireAt_7 rfl (lv_at hl 0 rfl) ?_
    refine r_get (ci := 6) (v := .ref (ad 15)) (C := RX6) (T := TX6) (N := 9) hx hb hts hinX6 hown h0 hw 0 rfl rfl 5 (by decide) k34 rfl dX6_wireAt_8 ?_
    refine lv_iload_n hx hb dX6_wireAt_11 rfl (lv_at hl 1 rfl) ?_
    refine r_aaldB hx hb h0 hw 1 rfl (i := k) (b := sa k) (by omega) (by decide) rfl dX6_wireAt_12 ?_
    refine lv_iload_n hx hb dX6_wireAt_13 rfl (lv_at hl 2 rfl) ?_
    refine r_calli (wr := [(ad 0, .inr (6, [.ref (ad 1), .ref (ad 2), .ref (ad 3), .ref (ad 4), .ref (ad 14), .ref (ad 15), .ref (ad 16), .ref (ad 18), .int (nI op)])), (ad 15, .inl (g.2.1 4, 8, .inr (.inr (.inr (.inr (fun j => some (sa j)))))))]) [2, 3] [0, 1] h0 hw rfl rfl (by decide) (by decide) (va_runV (As := [.int (i)]) (rest := []) ⟨hx, hb, hml, hown, hts⟩ (c_X0_at_out l g (sa k) (sb k) (z k) (f k) i (hi) _) (cwV 1 hts gX6_wireAt_X0_at rfl rfl rfl (by decide +kernel) ⟨Nat.le_of_ble_eq_true rfl, Nat.le_of_ble_eq_true rfl⟩) (preV_of [2, 3] [.int (i)] h0 hw rfl (by decide) 2 0 rfl rfl) rfl rfl hl.1 rfl (lv_room (Nat.le_of_ble_eq_true rfl)) dX6_wireAt_14 ⟨Nat.le_of_ble_eq_true rfl, Nat.le_of_ble_eq_true rfl⟩) (fun r5 u6 H locs hp7 hw => ?_)
    have hw : WD g A s [(ad 0, .inr (6, [.ref (ad 1), .ref (ad 2), .ref (ad 3), .ref (ad 4), .ref (ad 14), .ref (ad 15), .ref (ad 16), .ref (ad 18), .int (nI op)])), (ad 15, .inl (g.2.1 4, 8, .inr (.inr (.inr (.inr (fun j => some (sa j))))))), (sa k, .inr (0, [.ref (sb k), .int (nI (z k))])), (sb k, .inl (g.2.1 0, 127, .inl (f k)))] (slRest (slC g sa sb z f) k) H locs := hw
    subst hp7
    refine lv_goto (tgt := 21) hx hb dX6_wireAt_17 (by decide) ?_
    have hw := slClose (k := k) (X := [(ad 0, .inr (6, [.ref (ad 1), .ref (ad 2), .ref (ad 3), .ref (ad 4), .ref (ad 14), .ref (ad 15), .ref (ad 16), .ref (ad 18), .int (nI op)])), (ad 15, .inl (g.2.1 4, 8, .inr (.inr (.inr (.inr (fun j => some (sa j)))))))]) (n2 := z k) (f2 := f k) (by omega) hw
    have hw : WD g A s [(ad 0, .inr (6, [.ref (ad 1), .ref (ad 2), .ref (ad 3), .ref (ad 4), .ref (ad 14), .ref (ad 15), .ref (ad 16), .ref (ad 18), .int (nI op)])), (ad 15, .inl (g.2.1 4, 8, .inr (.inr (.inr (.inr (fun j => some (sa j)))))))] (slAll (slC g sa sb (va_up z k (z k)) (va_up f k (f k)))) H locs := hw
    rw [va_up_id, va_up_id] at hw
    exact hret hw () (rfl) (rfl) (by omega) (by omega) dX6_wireAt_21

set_option maxHeartbeats 4000000 in
set_option maxRecDepth 100000 in
theorem c_X6_wireAt_bad (l : Launch) (g : GE) (ad : Nat → Nat) (op : Nat) (sa : Nat → Nat) (sb : Nat → Nat) (z : Nat → Nat) (f : Nat → Nat → Int32) (k : Int32) (i : Int32) (hk : ¬ inR k 8) (sz : Nat) : MI l yX6_wireAt wsX6_wireAt { frames := 1, cells := 0, slots := 0, locals := 21 } g [.ref (ad 0), .int (k), .int (i)] ([(ad 0, .inr (6, [.ref (ad 1), .ref (ad 2), .ref (ad 3), .ref (ad 4), .ref (ad 14), .ref (ad 15), .ref (ad 16), .ref (ad 18), .int (nI op)])), (ad 15, .inl (g.2.1 4, 8, .inr (.inr (.inr (.inr (fun j => some (sa j)))))))] ++ (slAll (slC g sa sb z f))) sz (fun (r : Int32) (_ : Unit) => r = -1) (fun (_ : Unit) => [(ad 0, .inr (6, [.ref (ad 1), .ref (ad 2), .ref (ad 3), .ref (ad 4), .ref (ad 14), .ref (ad 15), .ref (ad 16), .ref (ad 18), .int (nI op)])), (ad 15, .inl (g.2.1 4, 8, .inr (.inr (.inr (.inr (fun j => some (sa j)))))))] ++ (slAll (slC g sa sb z f))) 0 0 := by
  refine enterI (by decide) rfl (Nat.le_of_ble_eq_true rfl) ?_
  intro p e s m below meth c A ls ar Q hE h0 hret hw hl
  obtain ⟨hx, hb, hr, hml, hown, hts, hlocks, hname⟩ := hE
  have hown : s.vm.findClass RX6 = some m.cls := hown
  have hw : WD g A s [(ad 0, .inr (6, [.ref (ad 1), .ref (ad 2), .ref (ad 3), .ref (ad 4), .ref (ad 14), .ref (ad 15), .ref (ad 16), .ref (ad 18), .int (nI op)])), (ad 15, .inl (g.2.1 4, 8, .inr (.inr (.inr (.inr (fun j => some (sa j)))))))] (slAll (slC g sa sb z f)) s.heap [] := hw.to (by rw [List.append_nil])
  have hinX6 : ∀ w ∈ u_ws RX6 TX6 9, w ∈ wsX6_wireAt := by decide +kernel
  have k34 := hts (.fieldLink RX6 34 "RecordWire" "slots" "[LRecordWire$ByteRow;") (by decide +kernel)
  have hl : lv_has ls 3 [(0, .ref (ad 0)), (1, .int (k)), (2, .int (i))] := hl
  refine lv_iload_n hx hb dX6_wireAt_0 rfl (lv_at hl 1 rfl) ?_
  refine r_calli (wr := [(ad 0, .inr (6, [.ref (ad 1), .ref (ad 2), .ref (ad 3), .ref (ad 4), .ref (ad 14), .ref (ad 15), .ref (ad 16), .ref (ad 18), .int (nI op)])), (ad 15, .inl (g.2.1 4, 8, .inr (.inr (.inr (.inr (fun j => some (sa j)))))))]) [] [0, 1] h0 hw rfl rfl (by decide) (by decide) (va_runS (As := [.int (k)]) (rest := []) ⟨hx, hb, hml, hown, hts⟩ (c_X6_isSlot l g k  _) (va_cwS 1 hts gX6_wireAt_X6_isSlot rfl rfl rfl (by decide +kernel) ⟨Nat.le_of_ble_eq_true rfl, Nat.le_of_ble_eq_true rfl⟩) (preS_of [] [.int (k)] h0 hw rfl (by decide)) rfl rfl hl.1 rfl (lv_room (Nat.le_of_ble_eq_true rfl)) dX6_wireAt_1 ⟨Nat.le_of_ble_eq_true rfl, Nat.le_of_ble_eq_true rfl⟩) (fun r1 u2 H locs hp3 hw => ?_)
  have hw : WD g A s [(ad 0, .inr (6, [.ref (ad 1), .ref (ad 2), .ref (ad 3), .ref (ad 4), .ref (ad 14), .ref (ad 15), .ref (ad 16), .ref (ad 18), .int (nI op)])), (ad 15, .inl (g.2.1 4, 8, .inr (.inr (.inr (.inr (fun j => some (sa j)))))))] (slAll (slC g sa sb z f)) H locs := hw
  subst hp3
  refine lv_if_eq (tgt := 20) hx hb dX6_wireAt_4 (by decide) (fun c4 => ?_) (fun c4 => ?_)
  · skip
    have c4 : ¬ (inR k 8) := bI_f c4
    refine lv_iconst (v := -1) hx hb dX6_wireAt_20 (by decide +kernel) ?_
    exact hret hw () (rfl) (rfl) (by omega) (by omega) dX6_wireAt_21
  · skip
    have c4 : inR k 8 := bI_t c4
    exact absurd c4 hk

set_option maxHeartbeats 4000000 in
set_option maxRecDepth 100000 in
theorem c_X6_drop (l : Launch) (g : GE) (ad : Nat → Nat) (op : Nat) (sa : Nat → Nat) (sb : Nat → Nat) (z : Nat → Nat) (f : Nat → Nat → Int32) (k : Nat) (hk : k < 8) (hz0 : ¬ z k = 0) (hz : z k ≤ 127) (sz : Nat) : MI l yX6_drop wsX6_drop { frames := 1, cells := 0, slots := 0, locals := 20 } g [.ref (ad 0), .int (nI k)] ([(ad 0, .inr (6, [.ref (ad 1), .ref (ad 2), .ref (ad 3), .ref (ad 4), .ref (ad 14), .ref (ad 15), .ref (ad 16), .ref (ad 18), .int (nI op)])), (ad 15, .inl (g.2.1 4, 8, .inr (.inr (.inr (.inr (fun j => some (sa j)))))))] ++ (slAll (slC g sa sb z f))) sz (fun (r : Int32) (_ : Unit) => r = nI 1) (fun (_ : Unit) => [(ad 0, .inr (6, [.ref (ad 1), .ref (ad 2), .ref (ad 3), .ref (ad 4), .ref (ad 14), .ref (ad 15), .ref (ad 16), .ref (ad 18), .int (nI op)])), (ad 15, .inl (g.2.1 4, 8, .inr (.inr (.inr (.inr (fun j => some (sa j)))))))] ++ (slAll (slC g sa sb (va_up z k 0) f))) 0 0 := by
  refine enterZ (by decide) rfl (Nat.le_of_ble_eq_true rfl) ?_
  intro p e s m below meth c A ls ar Q hE h0 hret hw hl
  obtain ⟨hx, hb, hr, hml, hown, hts, hlocks, hname⟩ := hE
  have hown : s.vm.findClass RX6 = some m.cls := hown
  have hw : WD g A s [(ad 0, .inr (6, [.ref (ad 1), .ref (ad 2), .ref (ad 3), .ref (ad 4), .ref (ad 14), .ref (ad 15), .ref (ad 16), .ref (ad 18), .int (nI op)])), (ad 15, .inl (g.2.1 4, 8, .inr (.inr (.inr (.inr (fun j => some (sa j)))))))] (slAll (slC g sa sb z f)) s.heap [] := hw.to (by rw [List.append_nil])
  have hinX6 : ∀ w ∈ u_ws RX6 TX6 9, w ∈ wsX6_drop := by decide +kernel
  have k34 := hts (.fieldLink RX6 34 "RecordWire" "slots" "[LRecordWire$ByteRow;") (by decide +kernel)
  have hl : lv_has ls 2 [(0, .ref (ad 0)), (1, .int (nI k))] := hl
  refine lv_iload_n hx hb dX6_drop_0 rfl (lv_at hl 1 rfl) ?_
  refine r_calli (wr := [(ad 0, .inr (6, [.ref (ad 1), .ref (ad 2), .ref (ad 3), .ref (ad 4), .ref (ad 14), .ref (ad 15), .ref (ad 16), .ref (ad 18), .int (nI op)])), (ad 15, .inl (g.2.1 4, 8, .inr (.inr (.inr (.inr (fun j => some (sa j)))))))]) [] [0, 1] h0 hw rfl rfl (by decide) (by decide) (va_runS (As := [.int (nI k)]) (rest := []) ⟨hx, hb, hml, hown, hts⟩ (c_X6_isSlot l g (nI k)  _) (va_cwS 1 hts gX6_drop_X6_isSlot rfl rfl rfl (by decide +kernel) ⟨Nat.le_of_ble_eq_true rfl, Nat.le_of_ble_eq_true rfl⟩) (preS_of [] [.int (nI k)] h0 hw rfl (by decide)) rfl rfl hl.1 rfl (lv_room (Nat.le_of_ble_eq_true rfl)) dX6_drop_1 ⟨Nat.le_of_ble_eq_true rfl, Nat.le_of_ble_eq_true rfl⟩) (fun r1 u2 H locs hp3 hw => ?_)
  have hw : WD g A s [(ad 0, .inr (6, [.ref (ad 1), .ref (ad 2), .ref (ad 3), .ref (ad 4), .ref (ad 14), .ref (ad 15), .ref (ad 16), .ref (ad 18), .int (nI op)])), (ad 15, .inl (g.2.1 4, 8, .inr (.inr (.inr (.inr (fun j => some (sa j)))))))] (slAll (slC g sa sb z f)) H locs := hw
  subst hp3
  refine lv_if_eq (tgt := 19) hx hb dX6_drop_4 (by decide) (fun c4 => ?_) (fun c4 => ?_)
  · skip
    have c4 : ¬ (inR (nI k) 8) := bI_f c4
    exact absurd (inR_nI hk) c4
  · skip
    have c4 : inR (nI k) 8 := bI_t c4
    have hw := slOpen (k := k) (by omega) hw
    have hw : WD g A s [(ad 0, .inr (6, [.ref (ad 1), .ref (ad 2), .ref (ad 3), .ref (ad 4), .ref (ad 14), .ref (ad 15), .ref (ad 16), .ref (ad 18), .int (nI op)])), (ad 15, .inl (g.2.1 4, 8, .inr (.inr (.inr (.inr (fun j => some (sa j))))))), (sa k, .inr (0, [.ref (sb k), .int (nI (z k))])), (sb k, .inl (g.2.1 0, 127, .inl (f k)))] (slRest (slC g sa sb z f) k) H locs := hw
    refine lv_aload_n hx hb dX6_drop_7 rfl (lv_at hl 0 rfl) ?_
    refine r_get (ci := 6) (v := .ref (ad 15)) (C := RX6) (T := TX6) (N := 9) hx hb hts hinX6 hown h0 hw 0 rfl rfl 5 (by decide) k34 rfl dX6_drop_8 ?_
    refine lv_iload_n hx hb dX6_drop_11 rfl (lv_at hl 1 rfl) ?_
    refine r_aaldB hx hb h0 hw 1 rfl (i := k) (b := sa k) (by omega) (by decide) rfl dX6_drop_12 ?_
    refine r_calli (wr := [(ad 0, .inr (6, [.ref (ad 1), .ref (ad 2), .ref (ad 3), .ref (ad 4), .ref (ad 14), .ref (ad 15), .ref (ad 16), .ref (ad 18), .int (nI op)])), (ad 15, .inl (g.2.1 4, 8, .inr (.inr (.inr (.inr (fun j => some (sa j))))))), (sb k, .inl (g.2.1 0, 127, .inl (f k)))]) [2] [0, 1, 3] h0 hw rfl rfl (by decide) (by decide) (va_runV (As := []) (rest := []) ⟨hx, hb, hml, hown, hts⟩ (c_X0_isEmpty l g (sa k) (sb k) (z k) (by omega) _) (cwV 0 hts gX6_drop_X0_isEmpty rfl rfl rfl (by decide +kernel) ⟨Nat.le_of_ble_eq_true rfl, Nat.le_of_ble_eq_true rfl⟩) (preV_of [2] [] h0 hw rfl (by decide) 2 0 rfl rfl) rfl rfl hl.1 rfl (lv_room (Nat.le_of_ble_eq_true rfl)) dX6_drop_13 ⟨Nat.le_of_ble_eq_true rfl, Nat.le_of_ble_eq_true rfl⟩) (fun r5 u6 H locs hp7 hw => ?_)
    have hw : WD g A s [(ad 0, .inr (6, [.ref (ad 1), .ref (ad 2), .ref (ad 3), .ref (ad 4), .ref (ad 14), .ref (ad 15), .ref (ad 16), .ref (ad 18), .int (nI op)])), (ad 15, .inl (g.2.1 4, 8, .inr (.inr (.inr (.inr (fun j => some (sa j))))))), (sb k, .inl (g.2.1 0, 127, .inl (f k))), (sa k, .inr (0, [.ref (sb k), .int (nI (z k))]))] (slRest (slC g sa sb z f) k) H locs := hw
    subst hp7
    refine lv_if_eq (tgt := 21) hx hb dX6_drop_16 (by decide) (fun c8 => ?_) (fun c8 => ?_)
    · skip
      have c8 : ¬ ((z k) = 0) := bI_f c8
      refine lv_aload_n hx hb dX6_drop_21 rfl (lv_at hl 0 rfl) ?_
      refine r_get (ci := 6) (v := .ref (ad 15)) (C := RX6) (T := TX6) (N := 9) hx hb hts hinX6 hown h0 hw 0 rfl rfl 5 (by decide) k34 rfl dX6_drop_22 ?_
      refine lv_iload_n hx hb dX6_drop_25 rfl (lv_at hl 1 rfl) ?_
      refine r_aaldB hx hb h0 hw 1 rfl (i := k) (b := sa k) (by omega) (by decide) rfl dX6_drop_26 ?_
      refine r_callv (wr := [(ad 0, .inr (6, [.ref (ad 1), .ref (ad 2), .ref (ad 3), .ref (ad 4), .ref (ad 14), .ref (ad 15), .ref (ad 16), .ref (ad 18), .int (nI op)])), (ad 15, .inl (g.2.1 4, 8, .inr (.inr (.inr (.inr (fun j => some (sa j))))))), (sb k, .inl (g.2.1 0, 127, .inl (f k)))]) [3] [0, 1, 2] h0 hw rfl rfl (by decide) (by decide) (va_runV (As := []) (rest := []) ⟨hx, hb, hml, hown, hts⟩ (c_X0_clear l g (sa k) (sb k) (z k)  _) (cwV 0 hts gX6_drop_X0_clear rfl rfl rfl (by decide +kernel) ⟨Nat.le_of_ble_eq_true rfl, Nat.le_of_ble_eq_true rfl⟩) (preV_of [3] [] h0 hw rfl (by decide) 3 0 rfl rfl) rfl rfl hl.1 rfl (lv_room (Nat.le_of_ble_eq_true rfl)) dX6_drop_27 ⟨Nat.le_of_ble_eq_true rfl, Nat.le_of_ble_eq_true rfl⟩) (fun u10 H locs hp11 hw => ?_)
      have hw : WD g A s [(ad 0, .inr (6, [.ref (ad 1), .ref (ad 2), .ref (ad 3), .ref (ad 4), .ref (ad 14), .ref (ad 15), .ref (ad 16), .ref (ad 18), .int (nI op)])), (ad 15, .inl (g.2.1 4, 8, .inr (.inr (.inr (.inr (fun j => some (sa j))))))), (sb k, .inl (g.2.1 0, 127, .inl (f k))), (sa k, .inr (0, [.ref (sb k), .int (nI 0)]))] (slRest (slC g sa sb z f) k) H locs := hw
      refine lv_iconst (v := nI 1) hx hb dX6_drop_30 (by decide +kernel) ?_
      have hw := hw.perm (X' := [(ad 0, .inr (6, [.ref (ad 1), .ref (ad 2), .ref (ad 3), .ref (ad 4), .ref (ad 14), .ref (ad 15), .ref (ad 16), .ref (ad 18), .int (nI op)])), (ad 15, .inl (g.2.1 4, 8, .inr (.inr (.inr (.inr (fun j => some (sa j))))))), (sa k, .inr (0, [.ref (sb k), .int (nI 0)])), (sb k, .inl (g.2.1 0, 127, .inl (f k)))]) [0, 1, 3, 2] (by decide) rfl
      have hw := slClose (k := k) (X := [(ad 0, .inr (6, [.ref (ad 1), .ref (ad 2), .ref (ad 3), .ref (ad 4), .ref (ad 14), .ref (ad 15), .ref (ad 16), .ref (ad 18), .int (nI op)])), (ad 15, .inl (g.2.1 4, 8, .inr (.inr (.inr (.inr (fun j => some (sa j)))))))]) (n2 := 0) (f2 := f k) (by omega) hw
      have hw : WD g A s [(ad 0, .inr (6, [.ref (ad 1), .ref (ad 2), .ref (ad 3), .ref (ad 4), .ref (ad 14), .ref (ad 15), .ref (ad 16), .ref (ad 18), .int (nI op)])), (ad 15, .inl (g.2.1 4, 8, .inr (.inr (.inr (.inr (fun j => some (sa j)))))))] (slAll (slC g sa sb (va_up z k 0) (va_up f k (f k)))) H locs := hw
      rw [va_up_id (f := f)] at hw
      exact hret (rfl) hw () (rfl) (rfl) (by omega) (by omega) dX6_drop_31
    · skip
      have c8 : (z k) = 0 := bI_t c8
      exact absurd c8 hz0

set_option maxHeartbeats 4000000 in
set_option maxRecDepth 100000 in
theorem c_X6_drop_empty (l : Launch) (g : GE) (ad : Nat → Nat) (op : Nat) (sa : Nat → Nat) (sb : Nat → Nat) (z : Nat → Nat) (f : Nat → Nat → Int32) (k : Nat) (hk : k < 8) (hz0 : z k = 0) (sz : Nat) : MI l yX6_drop wsX6_drop { frames := 1, cells := 0, slots := 0, locals := 20 } g [.ref (ad 0), .int (nI k)] ([(ad 0, .inr (6, [.ref (ad 1), .ref (ad 2), .ref (ad 3), .ref (ad 4), .ref (ad 14), .ref (ad 15), .ref (ad 16), .ref (ad 18), .int (nI op)])), (ad 15, .inl (g.2.1 4, 8, .inr (.inr (.inr (.inr (fun j => some (sa j)))))))] ++ (slAll (slC g sa sb z f))) sz (fun (r : Int32) (_ : Unit) => r = nI 0) (fun (_ : Unit) => [(ad 0, .inr (6, [.ref (ad 1), .ref (ad 2), .ref (ad 3), .ref (ad 4), .ref (ad 14), .ref (ad 15), .ref (ad 16), .ref (ad 18), .int (nI op)])), (ad 15, .inl (g.2.1 4, 8, .inr (.inr (.inr (.inr (fun j => some (sa j)))))))] ++ (slAll (slC g sa sb z f))) 0 0 := by
  refine enterZ (by decide) rfl (Nat.le_of_ble_eq_true rfl) ?_
  intro p e s m below meth c A ls ar Q hE h0 hret hw hl
  obtain ⟨hx, hb, hr, hml, hown, hts, hlocks, hname⟩ := hE
  have hown : s.vm.findClass RX6 = some m.cls := hown
  have hw : WD g A s [(ad 0, .inr (6, [.ref (ad 1), .ref (ad 2), .ref (ad 3), .ref (ad 4), .ref (ad 14), .ref (ad 15), .ref (ad 16), .ref (ad 18), .int (nI op)])), (ad 15, .inl (g.2.1 4, 8, .inr (.inr (.inr (.inr (fun j => some (sa j)))))))] (slAll (slC g sa sb z f)) s.heap [] := hw.to (by rw [List.append_nil])
  have hinX6 : ∀ w ∈ u_ws RX6 TX6 9, w ∈ wsX6_drop := by decide +kernel
  have k34 := hts (.fieldLink RX6 34 "RecordWire" "slots" "[LRecordWire$ByteRow;") (by decide +kernel)
  have hl : lv_has ls 2 [(0, .ref (ad 0)), (1, .int (nI k))] := hl
  refine lv_iload_n hx hb dX6_drop_0 rfl (lv_at hl 1 rfl) ?_
  refine r_calli (wr := [(ad 0, .inr (6, [.ref (ad 1), .ref (ad 2), .ref (ad 3), .ref (ad 4), .ref (ad 14), .ref (ad 15), .ref (ad 16), .ref (ad 18), .int (nI op)])), (ad 15, .inl (g.2.1 4, 8, .inr (.inr (.inr (.inr (fun j => some (sa j)))))))]) [] [0, 1] h0 hw rfl rfl (by decide) (by decide) (va_runS (As := [.int (nI k)]) (rest := []) ⟨hx, hb, hml, hown, hts⟩ (c_X6_isSlot l g (nI k)  _) (va_cwS 1 hts gX6_drop_X6_isSlot rfl rfl rfl (by decide +kernel) ⟨Nat.le_of_ble_eq_true rfl, Nat.le_of_ble_eq_true rfl⟩) (preS_of [] [.int (nI k)] h0 hw rfl (by decide)) rfl rfl hl.1 rfl (lv_room (Nat.le_of_ble_eq_true rfl)) dX6_drop_1 ⟨Nat.le_of_ble_eq_true rfl, Nat.le_of_ble_eq_true rfl⟩) (fun r1 u2 H locs hp3 hw => ?_)
  have hw : WD g A s [(ad 0, .inr (6, [.ref (ad 1), .ref (ad 2), .ref (ad 3), .ref (ad 4), .ref (ad 14), .ref (ad 15), .ref (ad 16), .ref (ad 18), .int (nI op)])), (ad 15, .inl (g.2.1 4, 8, .inr (.inr (.inr (.inr (fun j => some (sa j)))))))] (slAll (slC g sa sb z f)) H locs := hw
  subst hp3
  refine lv_if_eq (tgt := 19) hx hb dX6_drop_4 (by decide) (fun c4 => ?_) (fun c4 => ?_)
  · skip
    have c4 : ¬ (inR (nI k) 8) := bI_f c4
    exact absurd (inR_nI hk) c4
  · skip
    have c4 : inR (nI k) 8 := bI_t c4
    have hw := slOpen (k := k) (by omega) hw
    have hw : WD g A s [(ad 0, .inr (6, [.ref (ad 1), .ref (ad 2), .ref (ad 3), .ref (ad 4), .ref (ad 14), .ref (ad 15), .ref (ad 16), .ref (ad 18), .int (nI op)])), (ad 15, .inl (g.2.1 4, 8, .inr (.inr (.inr (.inr (fun j => some (sa j))))))), (sa k, .inr (0, [.ref (sb k), .int (nI (z k))])), (sb k, .inl (g.2.1 0, 127, .inl (f k)))] (slRest (slC g sa sb z f) k) H locs := hw
    refine lv_aload_n hx hb dX6_drop_7 rfl (lv_at hl 0 rfl) ?_
    refine r_get (ci := 6) (v := .ref (ad 15)) (C := RX6) (T := TX6) (N := 9) hx hb hts hinX6 hown h0 hw 0 rfl rfl 5 (by decide) k34 rfl dX6_drop_8 ?_
    refine lv_iload_n hx hb dX6_drop_11 rfl (lv_at hl 1 rfl) ?_
    refine r_aaldB hx hb h0 hw 1 rfl (i := k) (b := sa k) (by omega) (by decide) rfl dX6_drop_12 ?_
    refine r_calli (wr := [(ad 0, .inr (6, [.ref (ad 1), .ref (ad 2), .ref (ad 3), .ref (ad 4), .ref (ad 14), .ref (ad 15), .ref (ad 16), .ref (ad 18), .int (nI op)])), (ad 15, .inl (g.2.1 4, 8, .inr (.inr (.inr (.inr (fun j => some (sa j))))))), (sb k, .inl (g.2.1 0, 127, .inl (f k)))]) [2] [0, 1, 3] h0 hw rfl rfl (by decide) (by decide) (va_runV (As := []) (rest := []) ⟨hx, hb, hml, hown, hts⟩ (c_X0_isEmpty l g (sa k) (sb k) (z k) (by omega) _) (cwV 0 hts gX6_drop_X0_isEmpty rfl rfl rfl (by decide +kernel) ⟨Nat.le_of_ble_eq_true rfl, Nat.le_of_ble_eq_true rfl⟩) (preV_of [2] [] h0 hw rfl (by decide) 2 0 rfl rfl) rfl rfl hl.1 rfl (lv_room (Nat.le_of_ble_eq_true rfl)) dX6_drop_13 ⟨Nat.le_of_ble_eq_true rfl, Nat.le_of_ble_eq_true rfl⟩) (fun r5 u6 H locs hp7 hw => ?_)
    have hw : WD g A s [(ad 0, .inr (6, [.ref (ad 1), .ref (ad 2), .ref (ad 3), .ref (ad 4), .ref (ad 14), .ref (ad 15), .ref (ad 16), .ref (ad 18), .int (nI op)])), (ad 15, .inl (g.2.1 4, 8, .inr (.inr (.inr (.inr (fun j => some (sa j))))))), (sb k, .inl (g.2.1 0, 127, .inl (f k))), (sa k, .inr (0, [.ref (sb k), .int (nI (z k))]))] (slRest (slC g sa sb z f) k) H locs := hw
    subst hp7
    refine lv_if_eq (tgt := 21) hx hb dX6_drop_16 (by decide) (fun c8 => ?_) (fun c8 => ?_)
    · skip
      have c8 : ¬ ((z k) = 0) := bI_f c8
      exact absurd hz0 c8
    · skip
      have c8 : (z k) = 0 := bI_t c8
      refine lv_iconst (v := nI 0) hx hb dX6_drop_19 (by decide +kernel) ?_
      have hw := hw.perm (X' := [(ad 0, .inr (6, [.ref (ad 1), .ref (ad 2), .ref (ad 3), .ref (ad 4), .ref (ad 14), .ref (ad 15), .ref (ad 16), .ref (ad 18), .int (nI op)])), (ad 15, .inl (g.2.1 4, 8, .inr (.inr (.inr (.inr (fun j => some (sa j))))))), (sa k, .inr (0, [.ref (sb k), .int (nI (z k))])), (sb k, .inl (g.2.1 0, 127, .inl (f k)))]) [0, 1, 3, 2] (by decide) rfl
      have hw := slClose (k := k) (X := [(ad 0, .inr (6, [.ref (ad 1), .ref (ad 2), .ref (ad 3), .ref (ad 4), .ref (ad 14), .ref (ad 15), .ref (ad 16), .ref (ad 18), .int (nI op)])), (ad 15, .inl (g.2.1 4, 8, .inr (.inr (.inr (.inr (fun j => some (sa j)))))))]) (n2 := z k) (f2 := f k) (by omega) hw
      have hw : WD g A s [(ad 0, .inr (6, [.ref (ad 1), .ref (ad 2), .ref (ad 3), .ref (ad 4), .ref (ad 14), .ref (ad 15), .ref (ad 16), .ref (ad 18), .int (nI op)])), (ad 15, .inl (g.2.1 4, 8, .inr (.inr (.inr (.inr (fun j => some (sa j)))))))] (slAll (slC g sa sb (va_up z k (z k)) (va_up f k (f k)))) H locs := hw
      rw [va_up_id, va_up_id] at hw
      exact hret (rfl) hw () (rfl) (rfl) (by omega) (by omega) dX6_drop_20

set_option maxHeartbeats 4000000 in
set_option maxRecDepth 100000 in
theorem c_X6_drop_bad (l : Launch) (g : GE) (ad : Nat → Nat) (op : Nat) (sa : Nat → Nat) (sb : Nat → Nat) (z : Nat → Nat) (f : Nat → Nat → Int32) (k : Int32) (hk : ¬ inR k 8) (sz : Nat) : MI l yX6_drop wsX6_drop { frames := 1, cells := 0, slots := 0, locals := 20 } g [.ref (ad 0), .int (k)] ([(ad 0, .inr (6, [.ref (ad 1), .ref (ad 2), .ref (ad 3), .ref (ad 4), .ref (ad 14), .ref (ad 15), .ref (ad 16), .ref (ad 18), .int (nI op)])), (ad 15, .inl (g.2.1 4, 8, .inr (.inr (.inr (.inr (fun j => some (sa j)))))))] ++ (slAll (slC g sa sb z f))) sz (fun (r : Int32) (_ : Unit) => r = nI 0) (fun (_ : Unit) => [(ad 0, .inr (6, [.ref (ad 1), .ref (ad 2), .ref (ad 3), .ref (ad 4), .ref (ad 14), .ref (ad 15), .ref (ad 16), .ref (ad 18), .int (nI op)])), (ad 15, .inl (g.2.1 4, 8, .inr (.inr (.inr (.inr (fun j => some (sa j)))))))] ++ (slAll (slC g sa sb z f))) 0 0 := by
  refine enterZ (by decide) rfl (Nat.le_of_ble_eq_true rfl) ?_
  intro p e s m below meth c A ls ar Q hE h0 hret hw hl
  obtain ⟨hx, hb, hr, hml, hown, hts, hlocks, hname⟩ := hE
  have hown : s.vm.findClass RX6 = some m.cls := hown
  have hw : WD g A s [(ad 0, .inr (6, [.ref (ad 1), .ref (ad 2), .ref (ad 3), .ref (ad 4), .ref (ad 14), .ref (ad 15), .ref (ad 16), .ref (ad 18), .int (nI op)])), (ad 15, .inl (g.2.1 4, 8, .inr (.inr (.inr (.inr (fun j => some (sa j)))))))] (slAll (slC g sa sb z f)) s.heap [] := hw.to (by rw [List.append_nil])
  have hinX6 : ∀ w ∈ u_ws RX6 TX6 9, w ∈ wsX6_drop := by decide +kernel
  have k34 := hts (.fieldLink RX6 34 "RecordWire" "slots" "[LRecordWire$ByteRow;") (by decide +kernel)
  have hl : lv_has ls 2 [(0, .ref (ad 0)), (1, .int (k))] := hl
  refine lv_iload_n hx hb dX6_drop_0 rfl (lv_at hl 1 rfl) ?_
  refine r_calli (wr := [(ad 0, .inr (6, [.ref (ad 1), .ref (ad 2), .ref (ad 3), .ref (ad 4), .ref (ad 14), .ref (ad 15), .ref (ad 16), .ref (ad 18), .int (nI op)])), (ad 15, .inl (g.2.1 4, 8, .inr (.inr (.inr (.inr (fun j => some (sa j)))))))]) [] [0, 1] h0 hw rfl rfl (by decide) (by decide) (va_runS (As := [.int (k)]) (rest := []) ⟨hx, hb, hml, hown, hts⟩ (c_X6_isSlot l g k  _) (va_cwS 1 hts gX6_drop_X6_isSlot rfl rfl rfl (by decide +kernel) ⟨Nat.le_of_ble_eq_true rfl, Nat.le_of_ble_eq_true rfl⟩) (preS_of [] [.int (k)] h0 hw rfl (by decide)) rfl rfl hl.1 rfl (lv_room (Nat.le_of_ble_eq_true rfl)) dX6_drop_1 ⟨Nat.le_of_ble_eq_true rfl, Nat.le_of_ble_eq_true rfl⟩) (fun r1 u2 H locs hp3 hw => ?_)
  have hw : WD g A s [(ad 0, .inr (6, [.ref (ad 1), .ref (ad 2), .ref (ad 3), .ref (ad 4), .ref (ad 14), .ref (ad 15), .ref (ad 16), .ref (ad 18), .int (nI op)])), (ad 15, .inl (g.2.1 4, 8, .inr (.inr (.inr (.inr (fun j => some (sa j)))))))] (slAll (slC g sa sb z f)) H locs := hw
  subst hp3
  refine lv_if_eq (tgt := 19) hx hb dX6_drop_4 (by decide) (fun c4 => ?_) (fun c4 => ?_)
  · skip
    have c4 : ¬ (inR k 8) := bI_f c4
    refine lv_iconst (v := nI 0) hx hb dX6_drop_19 (by decide +kernel) ?_
    exact hret (rfl) hw () (rfl) (rfl) (by omega) (by omega) dX6_drop_20
  · skip
    have c4 : inR k 8 := bI_t c4
    exact absurd c4 hk

set_option maxHeartbeats 4000000 in
set_option maxRecDepth 100000 in
theorem c_X6_corrupt (l : Launch) (g : GE) (ad : Nat → Nat) (op : Nat) (sa : Nat → Nat) (sb : Nat → Nat) (z : Nat → Nat) (f : Nat → Nat → Int32) (k : Nat) (i : Nat) (v : Int32) (hk : k < 8) (hi : i < z k) (hz : z k ≤ 127) (hv : inR v 256) (sz : Nat) : MI l yX6_corrupt wsX6_corrupt { frames := 1, cells := 0, slots := 0, locals := 22 } g [.ref (ad 0), .int (nI k), .int (nI i), .int (v)] ([(ad 0, .inr (6, [.ref (ad 1), .ref (ad 2), .ref (ad 3), .ref (ad 4), .ref (ad 14), .ref (ad 15), .ref (ad 16), .ref (ad 18), .int (nI op)])), (ad 15, .inl (g.2.1 4, 8, .inr (.inr (.inr (.inr (fun j => some (sa j)))))))] ++ (slAll (slC g sa sb z f))) sz (fun (r : Int32) (_ : Unit) => r = nI 1) (fun (_ : Unit) => [(ad 0, .inr (6, [.ref (ad 1), .ref (ad 2), .ref (ad 3), .ref (ad 4), .ref (ad 14), .ref (ad 15), .ref (ad 16), .ref (ad 18), .int (nI op)])), (ad 15, .inl (g.2.1 4, 8, .inr (.inr (.inr (.inr (fun j => some (sa j)))))))] ++ (slAll (slC g sa sb z (va_up f k (upd (f k) i v))))) 0 0 := by
  refine enterZ (by decide) rfl (Nat.le_of_ble_eq_true rfl) ?_
  intro p e s m below meth c A ls ar Q hE h0 hret hw hl
  obtain ⟨hx, hb, hr, hml, hown, hts, hlocks, hname⟩ := hE
  have hown : s.vm.findClass RX6 = some m.cls := hown
  have hw : WD g A s [(ad 0, .inr (6, [.ref (ad 1), .ref (ad 2), .ref (ad 3), .ref (ad 4), .ref (ad 14), .ref (ad 15), .ref (ad 16), .ref (ad 18), .int (nI op)])), (ad 15, .inl (g.2.1 4, 8, .inr (.inr (.inr (.inr (fun j => some (sa j)))))))] (slAll (slC g sa sb z f)) s.heap [] := hw.to (by rw [List.append_nil])
  have hinX6 : ∀ w ∈ u_ws RX6 TX6 9, w ∈ wsX6_corrupt := by decide +kernel
  have k34 := hts (.fieldLink RX6 34 "RecordWire" "slots" "[LRecordWire$ByteRow;") (by decide +kernel)
  have hl : lv_has ls 4 [(0, .ref (ad 0)), (1, .int (nI k)), (2, .int (nI i)), (3, .int (v))] := hl
  refine lv_iload_n hx hb dX6_corrupt_0 rfl (lv_at hl 1 rfl) ?_
  refine r_calli (wr := [(ad 0, .inr (6, [.ref (ad 1), .ref (ad 2), .ref (ad 3), .ref (ad 4), .ref (ad 14), .ref (ad 15), .ref (ad 16), .ref (ad 18), .int (nI op)])), (ad 15, .inl (g.2.1 4, 8, .inr (.inr (.inr (.inr (fun j => some (sa j)))))))]) [] [0, 1] h0 hw rfl rfl (by decide) (by decide) (va_runS (As := [.int (nI k)]) (rest := []) ⟨hx, hb, hml, hown, hts⟩ (c_X6_isSlot l g (nI k)  _) (va_cwS 1 hts gX6_corrupt_X6_isSlot rfl rfl rfl (by decide +kernel) ⟨Nat.le_of_ble_eq_true rfl, Nat.le_of_ble_eq_true rfl⟩) (preS_of [] [.int (nI k)] h0 hw rfl (by decide)) rfl rfl hl.1 rfl (lv_room (Nat.le_of_ble_eq_true rfl)) dX6_corrupt_1 ⟨Nat.le_of_ble_eq_true rfl, Nat.le_of_ble_eq_true rfl⟩) (fun r1 u2 H locs hp3 hw => ?_)
  have hw : WD g A s [(ad 0, .inr (6, [.ref (ad 1), .ref (ad 2), .ref (ad 3), .ref (ad 4), .ref (ad 14), .ref (ad 15), .ref (ad 16), .ref (ad 18), .int (nI op)])), (ad 15, .inl (g.2.1 4, 8, .inr (.inr (.inr (.inr (fun j => some (sa j)))))))] (slAll (slC g sa sb z f)) H locs := hw
  subst hp3
  refine lv_if_eq (tgt := 32) hx hb dX6_corrupt_4 (by decide) (fun c4 => ?_) (fun c4 => ?_)
  · skip
    have c4 : ¬ (inR (nI k) 8) := bI_f c4
    exact absurd (inR_nI hk) c4
  · skip
    have c4 : inR (nI k) 8 := bI_t c4
    refine lv_iload_n hx hb dX6_corrupt_7 rfl (lv_at hl 3 rfl) ?_
    refine r_calli (wr := [(ad 0, .inr (6, [.ref (ad 1), .ref (ad 2), .ref (ad 3), .ref (ad 4), .ref (ad 14), .ref (ad 15), .ref (ad 16), .ref (ad 18), .int (nI op)])), (ad 15, .inl (g.2.1 4, 8, .inr (.inr (.inr (.inr (fun j => some (sa j)))))))]) [] [0, 1] h0 hw rfl rfl (by decide) (by decide) (va_runS (As := [.int (v)]) (rest := []) ⟨hx, hb, hml, hown, hts⟩ (c_X6_isByte l g v  _) (va_cwS 1 hts gX6_corrupt_X6_isByte rfl rfl rfl (by decide +kernel) ⟨Nat.le_of_ble_eq_true rfl, Nat.le_of_ble_eq_true rfl⟩) (preS_of [] [.int (v)] h0 hw rfl (by decide)) rfl rfl hl.1 rfl (lv_room (Nat.le_of_ble_eq_true rfl)) dX6_corrupt_8 ⟨Nat.le_of_ble_eq_true rfl, Nat.le_of_ble_eq_true rfl⟩) (fun r5 u6 H locs hp7 hw => ?_)
    have hw : WD g A s [(ad 0, .inr (6, [.ref (ad 1), .ref (ad 2), .ref (ad 3), .ref (ad 4), .ref (ad 14), .ref (ad 15), .ref (ad 16), .ref (ad 18), .int (nI op)])), (ad 15, .inl (g.2.1 4, 8, .inr (.inr (.inr (.inr (fun j => some (sa j)))))))] (slAll (slC g sa sb z f)) H locs := hw
    subst hp7
    refine lv_if_eq (tgt := 32) hx hb dX6_corrupt_11 (by decide) (fun c8 => ?_) (fun c8 => ?_)
    · skip
      have c8 : ¬ (inR v 256) := bI_f c8
      exact absurd hv c8
    · skip
      have c8 : inR v 256 := bI_t c8
      have hw := slOpen (k := k) (by omega) hw
      have hw : WD g A s [(ad 0, .inr (6, [.ref (ad 1), .ref (ad 2), .ref (ad 3), .ref (ad 4), .ref (ad 14), .ref (ad 15), .ref (ad 16), .ref (ad 18), .int (nI op)])), (ad 15, .inl (g.2.1 4, 8, .inr (.inr (.inr (.inr (fun j => some (sa j))))))), (sa k, .inr (0, [.ref (sb k), .int (nI (z k))])), (sb k, .inl (g.2.1 0, 127, .inl (f k)))] (slRest (slC g sa sb z f) k) H locs := hw
      refine lv_aload_n hx hb dX6_corrupt_14 rfl (lv_at hl 0 rfl) ?_
      refine r_get (ci := 6) (v := .ref (ad 15)) (C := RX6) (T := TX6) (N := 9) hx hb hts hinX6 hown h0 hw 0 rfl rfl 5 (by decide) k34 rfl dX6_corrupt_15 ?_
      refine lv_iload_n hx hb dX6_corrupt_18 rfl (lv_at hl 1 rfl) ?_
      refine r_aaldB hx hb h0 hw 1 rfl (i := k) (b := sa k) (by omega) (by decide) rfl dX6_corrupt_19 ?_
      refine lv_iload_n hx hb dX6_corrupt_20 rfl (lv_at hl 2 rfl) ?_
      refine lv_iload_n hx hb dX6_corrupt_21 rfl (lv_at hl 3 rfl) ?_
      refine r_calli (wr := [(ad 0, .inr (6, [.ref (ad 1), .ref (ad 2), .ref (ad 3), .ref (ad 4), .ref (ad 14), .ref (ad 15), .ref (ad 16), .ref (ad 18), .int (nI op)])), (ad 15, .inl (g.2.1 4, 8, .inr (.inr (.inr (.inr (fun j => some (sa j)))))))]) [2, 3] [0, 1] h0 hw rfl rfl (by decide) (by decide) (va_runV (As := [.int (nI i), .int (v)]) (rest := []) ⟨hx, hb, hml, hown, hts⟩ (c_X0_change l g (sa k) (sb k) (z k) (f k) i v (by omega) (by omega) _) (cwV 2 hts gX6_corrupt_X0_change rfl rfl rfl (by decide +kernel) ⟨Nat.le_of_ble_eq_true rfl, Nat.le_of_ble_eq_true rfl⟩) (preV_of [2, 3] [.int (nI i), .int (v)] h0 hw rfl (by decide) 2 0 rfl rfl) rfl rfl hl.1 rfl (lv_room (Nat.le_of_ble_eq_true rfl)) dX6_corrupt_22 ⟨Nat.le_of_ble_eq_true rfl, Nat.le_of_ble_eq_true rfl⟩) (fun r9 u10 H locs hp11 hw => ?_)
      have hw : WD g A s [(ad 0, .inr (6, [.ref (ad 1), .ref (ad 2), .ref (ad 3), .ref (ad 4), .ref (ad 14), .ref (ad 15), .ref (ad 16), .ref (ad 18), .int (nI op)])), (ad 15, .inl (g.2.1 4, 8, .inr (.inr (.inr (.inr (fun j => some (sa j))))))), (sa k, .inr (0, [.ref (sb k), .int (nI (z k))])), (sb k, .inl (g.2.1 0, 127, .inl (upd (f k) i v)))] (slRest (slC g sa sb z f) k) H locs := hw
      subst hp11
      refine lv_if_eq (tgt := 32) hx hb dX6_corrupt_25 (by decide) (fun c12 => ?_) (fun c12 => ?_)
      · skip
        rw [← nI_0] at c12
        have c12 : 1 = 0 := (nI_eq (by omega) (by omega)).mp c12
        exfalso; omega
      · skip
        rw [← nI_0] at c12
        have c12 : ¬ 1 = 0 := fun q => c12 (((nI_eq (by omega) (by omega)).mpr q))
        refine lv_iconst (v := nI 1) hx hb dX6_corrupt_28 (by decide +kernel) ?_
        refine lv_goto (tgt := 33) hx hb dX6_corrupt_29 (by decide) ?_
        have hw := slClose (k := k) (X := [(ad 0, .inr (6, [.ref (ad 1), .ref (ad 2), .ref (ad 3), .ref (ad 4), .ref (ad 14), .ref (ad 15), .ref (ad 16), .ref (ad 18), .int (nI op)])), (ad 15, .inl (g.2.1 4, 8, .inr (.inr (.inr (.inr (fun j => some (sa j)))))))]) (n2 := z k) (f2 := upd (f k) i v) (by omega) hw
        have hw : WD g A s [(ad 0, .inr (6, [.ref (ad 1), .ref (ad 2), .ref (ad 3), .ref (ad 4), .ref (ad 14), .ref (ad 15), .ref (ad 16), .ref (ad 18), .int (nI op)])), (ad 15, .inl (g.2.1 4, 8, .inr (.inr (.inr (.inr (fun j => some (sa j)))))))] (slAll (slC g sa sb (va_up z k (z k)) (va_up f k (upd (f k) i v)))) H locs := hw
        rw [va_up_id (f := z)] at hw
        exact hret (rfl) hw () (rfl) (rfl) (by omega) (by omega) dX6_corrupt_33

set_option maxHeartbeats 4000000 in
set_option maxRecDepth 100000 in
theorem c_X6_corrupt_out (l : Launch) (g : GE) (ad : Nat → Nat) (op : Nat) (sa : Nat → Nat) (sb : Nat → Nat) (z : Nat → Nat) (f : Nat → Nat → Int32) (k : Nat) (i : Int32) (v : Int32) (hk : k < 8) (hi : i < 0 ∨ nI (z k) ≤ i) (hv : inR v 256) (sz : Nat) : MI l yX6_corrupt wsX6_corrupt { frames := 1, cells := 0, slots := 0, locals := 22 } g [.ref (ad 0), .int (nI k), .int (i), .int (v)] ([(ad 0, .inr (6, [.ref (ad 1), .ref (ad 2), .ref (ad 3), .ref (ad 4), .ref (ad 14), .ref (ad 15), .ref (ad 16), .ref (ad 18), .int (nI op)])), (ad 15, .inl (g.2.1 4, 8, .inr (.inr (.inr (.inr (fun j => some (sa j)))))))] ++ (slAll (slC g sa sb z f))) sz (fun (r : Int32) (_ : Unit) => r = nI 0) (fun (_ : Unit) => [(ad 0, .inr (6, [.ref (ad 1), .ref (ad 2), .ref (ad 3), .ref (ad 4), .ref (ad 14), .ref (ad 15), .ref (ad 16), .ref (ad 18), .int (nI op)])), (ad 15, .inl (g.2.1 4, 8, .inr (.inr (.inr (.inr (fun j => some (sa j)))))))] ++ (slAll (slC g sa sb z f))) 0 0 := by
  refine enterZ (by decide) rfl (Nat.le_of_ble_eq_true rfl) ?_
  intro p e s m below meth c A ls ar Q hE h0 hret hw hl
  obtain ⟨hx, hb, hr, hml, hown, hts, hlocks, hname⟩ := hE
  have hown : s.vm.findClass RX6 = some m.cls := hown
  have hw : WD g A s [(ad 0, .inr (6, [.ref (ad 1), .ref (ad 2), .ref (ad 3), .ref (ad 4), .ref (ad 14), .ref (ad 15), .ref (ad 16), .ref (ad 18), .int (nI op)])), (ad 15, .inl (g.2.1 4, 8, .inr (.inr (.inr (.inr (fun j => some (sa j)))))))] (slAll (slC g sa sb z f)) s.heap [] := hw.to (by rw [List.append_nil])
  have hinX6 : ∀ w ∈ u_ws RX6 TX6 9, w ∈ wsX6_corrupt := by decide +kernel
  have k34 := hts (.fieldLink RX6 34 "RecordWire" "slots" "[LRecordWire$ByteRow;") (by decide +kernel)
  have hl : lv_has ls 4 [(0, .ref (ad 0)), (1, .int (nI k)), (2, .int (i)), (3, .int (v))] := hl
  refine lv_iload_n hx hb dX6_corrupt_0 rfl (lv_at hl 1 rfl) ?_
  refine r_calli (wr := [(ad 0, .inr (6, [.ref (ad 1), .ref (ad 2), .ref (ad 3), .ref (ad 4), .ref (ad 14), .ref (ad 15), .ref (ad 16), .ref (ad 18), .int (nI op)])), (ad 15, .inl (g.2.1 4, 8, .inr (.inr (.inr (.inr (fun j => some (sa j)))))))]) [] [0, 1] h0 hw rfl rfl (by decide) (by decide) (va_runS (As := [.int (nI k)]) (rest := []) ⟨hx, hb, hml, hown, hts⟩ (c_X6_isSlot l g (nI k)  _) (va_cwS 1 hts gX6_corrupt_X6_isSlot rfl rfl rfl (by decide +kernel) ⟨Nat.le_of_ble_eq_true rfl, Nat.le_of_ble_eq_true rfl⟩) (preS_of [] [.int (nI k)] h0 hw rfl (by decide)) rfl rfl hl.1 rfl (lv_room (Nat.le_of_ble_eq_true rfl)) dX6_corrupt_1 ⟨Nat.le_of_ble_eq_true rfl, Nat.le_of_ble_eq_true rfl⟩) (fun r1 u2 H locs hp3 hw => ?_)
  have hw : WD g A s [(ad 0, .inr (6, [.ref (ad 1), .ref (ad 2), .ref (ad 3), .ref (ad 4), .ref (ad 14), .ref (ad 15), .ref (ad 16), .ref (ad 18), .int (nI op)])), (ad 15, .inl (g.2.1 4, 8, .inr (.inr (.inr (.inr (fun j => some (sa j)))))))] (slAll (slC g sa sb z f)) H locs := hw
  subst hp3
  refine lv_if_eq (tgt := 32) hx hb dX6_corrupt_4 (by decide) (fun c4 => ?_) (fun c4 => ?_)
  · skip
    have c4 : ¬ (inR (nI k) 8) := bI_f c4
    exact absurd (inR_nI hk) c4
  · skip
    have c4 : inR (nI k) 8 := bI_t c4
    refine lv_iload_n hx hb dX6_corrupt_7 rfl (lv_at hl 3 rfl) ?_
    refine r_calli (wr := [(ad 0, .inr (6, [.ref (ad 1), .ref (ad 2), .ref (ad 3), .ref (ad 4), .ref (ad 14), .ref (ad 15), .ref (ad 16), .ref (ad 18), .int (nI op)])), (ad 15, .inl (g.2.1 4, 8, .inr (.inr (.inr (.inr (fun j => some (sa j)))))))]) [] [0, 1] h0 hw rfl rfl (by decide) (by decide) (va_runS (As := [.int (v)]) (rest := []) ⟨hx, hb, hml, hown, hts⟩ (c_X6_isByte l g v  _) (va_cwS 1 hts gX6_corrupt_X6_isByte rfl rfl rfl (by decide +kernel) ⟨Nat.le_of_ble_eq_true rfl, Nat.le_of_ble_eq_true rfl⟩) (preS_of [] [.int (v)] h0 hw rfl (by decide)) rfl rfl hl.1 rfl (lv_room (Nat.le_of_ble_eq_true rfl)) dX6_corrupt_8 ⟨Nat.le_of_ble_eq_true rfl, Nat.le_of_ble_eq_true rfl⟩) (fun r5 u6 H locs hp7 hw => ?_)
    have hw : WD g A s [(ad 0, .inr (6, [.ref (ad 1), .ref (ad 2), .ref (ad 3), .ref (ad 4), .ref (ad 14), .ref (ad 15), .ref (ad 16), .ref (ad 18), .int (nI op)])), (ad 15, .inl (g.2.1 4, 8, .inr (.inr (.inr (.inr (fun j => some (sa j)))))))] (slAll (slC g sa sb z f)) H locs := hw
    subst hp7
    refine lv_if_eq (tgt := 32) hx hb dX6_corrupt_11 (by decide) (fun c8 => ?_) (fun c8 => ?_)
    · skip
      have c8 : ¬ (inR v 256) := bI_f c8
      exact absurd hv c8
    · skip
      have c8 : inR v 256 := bI_t c8
      have hw := slOpen (k := k) (by omega) hw
      have hw : WD g A s [(ad 0, .inr (6, [.ref (ad 1), .ref (ad 2), .ref (ad 3), .ref (ad 4), .ref (ad 14), .ref (ad 15), .ref (ad 16), .ref (ad 18), .int (nI op)])), (ad 15, .inl (g.2.1 4, 8, .inr (.inr (.inr (.inr (fun j => some (sa j))))))), (sa k, .inr (0, [.ref (sb k), .int (nI (z k))])), (sb k, .inl (g.2.1 0, 127, .inl (f k)))] (slRest (slC g sa sb z f) k) H locs := hw
      refine lv_aload_n hx hb dX6_corrupt_14 rfl (lv_at hl 0 rfl) ?_
      refine r_get (ci := 6) (v := .ref (ad 15)) (C := RX6) (T := TX6) (N := 9) hx hb hts hinX6 hown h0 hw 0 rfl rfl 5 (by decide) k34 rfl dX6_corrupt_15 ?_
      refine lv_iload_n hx hb dX6_corrupt_18 rfl (lv_at hl 1 rfl) ?_
      refine r_aaldB hx hb h0 hw 1 rfl (i := k) (b := sa k) (by omega) (by decide) rfl dX6_corrupt_19 ?_
      refine lv_iload_n hx hb dX6_corrupt_20 rfl (lv_at hl 2 rfl) ?_
      refine lv_iload_n hx hb dX6_corrupt_21 rfl (lv_at hl 3 rfl) ?_
      refine r_calli (wr := [(ad 0, .inr (6, [.ref (ad 1), .ref (ad 2), .ref (ad 3), .ref (ad 4), .ref (ad 14), .ref (ad 15), .ref (ad 16), .ref (ad 18), .int (nI op)])), (ad 15, .inl (g.2.1 4, 8, .inr (.inr (.inr (.inr (fun j => some (sa j)))))))]) [2, 3] [0, 1] h0 hw rfl rfl (by decide) (by decide) (va_runV (As := [.int (i), .int (v)]) (rest := []) ⟨hx, hb, hml, hown, hts⟩ (c_X0_change_out l g (sa k) (sb k) (z k) (f k) i v (hi) _) (cwV 2 hts gX6_corrupt_X0_change rfl rfl rfl (by decide +kernel) ⟨Nat.le_of_ble_eq_true rfl, Nat.le_of_ble_eq_true rfl⟩) (preV_of [2, 3] [.int (i), .int (v)] h0 hw rfl (by decide) 2 0 rfl rfl) rfl rfl hl.1 rfl (lv_room (Nat.le_of_ble_eq_true rfl)) dX6_corrupt_22 ⟨Nat.le_of_ble_eq_true rfl, Nat.le_of_ble_eq_true rfl⟩) (fun r9 u10 H locs hp11 hw => ?_)
      have hw : WD g A s [(ad 0, .inr (6, [.ref (ad 1), .ref (ad 2), .ref (ad 3), .ref (ad 4), .ref (ad 14), .ref (ad 15), .ref (ad 16), .ref (ad 18), .int (nI op)])), (ad 15, .inl (g.2.1 4, 8, .inr (.inr (.inr (.inr (fun j => some (sa j))))))), (sa k, .inr (0, [.ref (sb k), .int (nI (z k))])), (sb k, .inl (g.2.1 0, 127, .inl (f k)))] (slRest (slC g sa sb z f) k) H locs := hw
      subst hp11
      refine lv_if_eq (tgt := 32) hx hb dX6_corrupt_25 (by decide) (fun c12 => ?_) (fun c12 => ?_)
      · skip
        rw [← nI_0] at c12
        have c12 : 0 = 0 := (nI_eq (by omega) (by omega)).mp c12
        refine lv_iconst (v := nI 0) hx hb dX6_corrupt_32 (by decide +kernel) ?_
        have hw := slClose (k := k) (X := [(ad 0, .inr (6, [.ref (ad 1), .ref (ad 2), .ref (ad 3), .ref (ad 4), .ref (ad 14), .ref (ad 15), .ref (ad 16), .ref (ad 18), .int (nI op)])), (ad 15, .inl (g.2.1 4, 8, .inr (.inr (.inr (.inr (fun j => some (sa j)))))))]) (n2 := z k) (f2 := f k) (by omega) hw
        have hw : WD g A s [(ad 0, .inr (6, [.ref (ad 1), .ref (ad 2), .ref (ad 3), .ref (ad 4), .ref (ad 14), .ref (ad 15), .ref (ad 16), .ref (ad 18), .int (nI op)])), (ad 15, .inl (g.2.1 4, 8, .inr (.inr (.inr (.inr (fun j => some (sa j)))))))] (slAll (slC g sa sb (va_up z k (z k)) (va_up f k (f k)))) H locs := hw
        rw [va_up_id, va_up_id] at hw
        exact hret (rfl) hw () (rfl) (rfl) (by omega) (by omega) dX6_corrupt_33
      · skip
        rw [← nI_0] at c12
        have c12 : ¬ 0 = 0 := fun q => c12 (((nI_eq (by omega) (by omega)).mpr q))
        exfalso; omega

set_option maxHeartbeats 4000000 in
set_option maxRecDepth 100000 in
theorem c_X6_corrupt_bad (l : Launch) (g : GE) (ad : Nat → Nat) (op : Nat) (sa : Nat → Nat) (sb : Nat → Nat) (z : Nat → Nat) (f : Nat → Nat → Int32) (k : Int32) (i : Int32) (v : Int32) (hk : ¬ (inR k 8 ∧ inR v 256)) (sz : Nat) : MI l yX6_corrupt wsX6_corrupt { frames := 1, cells := 0, slots := 0, locals := 22 } g [.ref (ad 0), .int (k), .int (i), .int (v)] ([(ad 0, .inr (6, [.ref (ad 1), .ref (ad 2), .ref (ad 3), .ref (ad 4), .ref (ad 14), .ref (ad 15), .ref (ad 16), .ref (ad 18), .int (nI op)])), (ad 15, .inl (g.2.1 4, 8, .inr (.inr (.inr (.inr (fun j => some (sa j)))))))] ++ (slAll (slC g sa sb z f))) sz (fun (r : Int32) (_ : Unit) => r = nI 0) (fun (_ : Unit) => [(ad 0, .inr (6, [.ref (ad 1), .ref (ad 2), .ref (ad 3), .ref (ad 4), .ref (ad 14), .ref (ad 15), .ref (ad 16), .ref (ad 18), .int (nI op)])), (ad 15, .inl (g.2.1 4, 8, .inr (.inr (.inr (.inr (fun j => some (sa j)))))))] ++ (slAll (slC g sa sb z f))) 0 0 := by
  refine enterZ (by decide) rfl (Nat.le_of_ble_eq_true rfl) ?_
  intro p e s m below meth c A ls ar Q hE h0 hret hw hl
  obtain ⟨hx, hb, hr, hml, hown, hts, hlocks, hname⟩ := hE
  have hown : s.vm.findClass RX6 = some m.cls := hown
  have hw : WD g A s [(ad 0, .inr (6, [.ref (ad 1), .ref (ad 2), .ref (ad 3), .ref (ad 4), .ref (ad 14), .ref (ad 15), .ref (ad 16), .ref (ad 18), .int (nI op)])), (ad 15, .inl (g.2.1 4, 8, .inr (.inr (.inr (.inr (fun j => some (sa j)))))))] (slAll (slC g sa sb z f)) s.heap [] := hw.to (by rw [List.append_nil])
  have hinX6 : ∀ w ∈ u_ws RX6 TX6 9, w ∈ wsX6_corrupt := by decide +kernel
  have k34 := hts (.fieldLink RX6 34 "RecordWire" "slots" "[LRecordWire$ByteRow;") (by decide +kernel)
  have hl : lv_has ls 4 [(0, .ref (ad 0)), (1, .int (k)), (2, .int (i)), (3, .int (v))] := hl
  refine lv_iload_n hx hb dX6_corrupt_0 rfl (lv_at hl 1 rfl) ?_
  refine r_calli (wr := [(ad 0, .inr (6, [.ref (ad 1), .ref (ad 2), .ref (ad 3), .ref (ad 4), .ref (ad 14), .ref (ad 15), .ref (ad 16), .ref (ad 18), .int (nI op)])), (ad 15, .inl (g.2.1 4, 8, .inr (.inr (.inr (.inr (fun j => some (sa j)))))))]) [] [0, 1] h0 hw rfl rfl (by decide) (by decide) (va_runS (As := [.int (k)]) (rest := []) ⟨hx, hb, hml, hown, hts⟩ (c_X6_isSlot l g k  _) (va_cwS 1 hts gX6_corrupt_X6_isSlot rfl rfl rfl (by decide +kernel) ⟨Nat.le_of_ble_eq_true rfl, Nat.le_of_ble_eq_true rfl⟩) (preS_of [] [.int (k)] h0 hw rfl (by decide)) rfl rfl hl.1 rfl (lv_room (Nat.le_of_ble_eq_true rfl)) dX6_corrupt_1 ⟨Nat.le_of_ble_eq_true rfl, Nat.le_of_ble_eq_true rfl⟩) (fun r1 u2 H locs hp3 hw => ?_)
  have hw : WD g A s [(ad 0, .inr (6, [.ref (ad 1), .ref (ad 2), .ref (ad 3), .ref (ad 4), .ref (ad 14), .ref (ad 15), .ref (ad 16), .ref (ad 18), .int (nI op)])), (ad 15, .inl (g.2.1 4, 8, .inr (.inr (.inr (.inr (fun j => some (sa j)))))))] (slAll (slC g sa sb z f)) H locs := hw
  subst hp3
  refine lv_if_eq (tgt := 32) hx hb dX6_corrupt_4 (by decide) (fun c4 => ?_) (fun c4 => ?_)
  · skip
    have c4 : ¬ (inR k 8) := bI_f c4
    have q1 := c4
    refine lv_iconst (v := nI 0) hx hb dX6_corrupt_32 (by decide +kernel) ?_
    exact hret (rfl) hw () (rfl) (rfl) (by omega) (by omega) dX6_corrupt_33
  · skip
    have c4 : inR k 8 := bI_t c4
    have q1 := c4
    refine lv_iload_n hx hb dX6_corrupt_7 rfl (lv_at hl 3 rfl) ?_
    refine r_calli (wr := [(ad 0, .inr (6, [.ref (ad 1), .ref (ad 2), .ref (ad 3), .ref (ad 4), .ref (ad 14), .ref (ad 15), .ref (ad 16), .ref (ad 18), .int (nI op)])), (ad 15, .inl (g.2.1 4, 8, .inr (.inr (.inr (.inr (fun j => some (sa j)))))))]) [] [0, 1] h0 hw rfl rfl (by decide) (by decide) (va_runS (As := [.int (v)]) (rest := []) ⟨hx, hb, hml, hown, hts⟩ (c_X6_isByte l g v  _) (va_cwS 1 hts gX6_corrupt_X6_isByte rfl rfl rfl (by decide +kernel) ⟨Nat.le_of_ble_eq_true rfl, Nat.le_of_ble_eq_true rfl⟩) (preS_of [] [.int (v)] h0 hw rfl (by decide)) rfl rfl hl.1 rfl (lv_room (Nat.le_of_ble_eq_true rfl)) dX6_corrupt_8 ⟨Nat.le_of_ble_eq_true rfl, Nat.le_of_ble_eq_true rfl⟩) (fun r5 u6 H locs hp7 hw => ?_)
    have hw : WD g A s [(ad 0, .inr (6, [.ref (ad 1), .ref (ad 2), .ref (ad 3), .ref (ad 4), .ref (ad 14), .ref (ad 15), .ref (ad 16), .ref (ad 18), .int (nI op)])), (ad 15, .inl (g.2.1 4, 8, .inr (.inr (.inr (.inr (fun j => some (sa j)))))))] (slAll (slC g sa sb z f)) H locs := hw
    subst hp7
    refine lv_if_eq (tgt := 32) hx hb dX6_corrupt_11 (by decide) (fun c8 => ?_) (fun c8 => ?_)
    · skip
      have c8 : ¬ (inR v 256) := bI_f c8
      refine lv_iconst (v := nI 0) hx hb dX6_corrupt_32 (by decide +kernel) ?_
      exact hret (rfl) hw () (rfl) (rfl) (by omega) (by omega) dX6_corrupt_33
    · skip
      have c8 : inR v 256 := bI_t c8
      exact absurd ⟨q1, c8⟩ hk
