set_option maxHeartbeats 4000000 in
set_option maxRecDepth 100000 in
theorem c_X7_deliver_b1 (l : Launch) (g : GE) (md : Nat → Nat) (op : Nat) (on : Nat) (inn : Nat) (k : Int32) (i : Int32) (hk : ¬ inR k 8) (sz : Nat) : MI l yX7_deliver wsX7_deliver { frames := 5, cells := 0, slots := 0, locals := 123 } g [.ref (md 25), .int (k), .int (i)] [(md 25, .inr (7, [.ref (md 0), .int (nI op), .ref (md 2), .ref (md 3), .ref (md 4), .ref (md 5), .ref (md 6), .ref (md 7), .ref (md 8), .ref (md 9), .ref (md 10), .ref (md 11), .int (nI on), .ref (md 13), .int (nI inn), .ref (md 15), .ref (md 16), .ref (md 17), .ref (md 18), .ref (md 19), .ref (md 20), .ref (md 21), .ref (md 22), .ref (md 23), .ref (md 24)]))] sz (fun (r : Int32) (_ : Unit) => r = nI 1) (fun (_ : Unit) => [(md 25, .inr (7, [.ref (md 0), .int (nI op), .ref (md 2), .ref (md 3), .ref (md 4), .ref (md 5), .ref (md 6), .ref (md 7), .ref (md 8), .ref (md 9), .ref (md 10), .ref (md 11), .int (nI on), .ref (md 13), .int (nI inn), .ref (md 15), .ref (md 16), .ref (md 17), .ref (md 18), .ref (md 19), .ref (md 20), .ref (md 21), .ref (md 22), .ref (md 23), .ref (md 24)]))]) 0 0 := by
  refine enterI (by decide) rfl (Nat.le_of_ble_eq_true rfl) ?_
  intro p e s m below meth c A ls ar Q hE h0 hret hw hl
  obtain ⟨hx, hb, hr, hml, hown, hts, hlocks, hname⟩ := hE
  have hown : s.vm.findClass RX7 = some m.cls := hown
  have hw : WD g A s [(md 25, .inr (7, [.ref (md 0), .int (nI op), .ref (md 2), .ref (md 3), .ref (md 4), .ref (md 5), .ref (md 6), .ref (md 7), .ref (md 8), .ref (md 9), .ref (md 10), .ref (md 11), .int (nI on), .ref (md 13), .int (nI inn), .ref (md 15), .ref (md 16), .ref (md 17), .ref (md 18), .ref (md 19), .ref (md 20), .ref (md 21), .ref (md 22), .ref (md 23), .ref (md 24)]))] [] s.heap [] := hw
  have hinX7 : ∀ w ∈ u_ws RX7 TX7 25, w ∈ wsX7_deliver := by decide +kernel
  have k19 := hts (.fieldLink RX7 19 "RecordWireModel" "epochs" "[I") (by decide +kernel)
  have k26 := hts (.fieldLink RX7 26 "RecordWireModel" "some" "[Z") (by decide +kernel)
  have k30 := hts (.fieldLink RX7 30 "RecordWireModel" "greatest" "[J") (by decide +kernel)
  have k33 := hts (.fieldLink RX7 33 "RecordWireModel" "seen" "[Z") (by decide +kernel)
  have k36 := hts (.fieldLink RX7 36 "RecordWireModel" "wire" "[I") (by decide +kernel)
  have k39 := hts (.fieldLink RX7 39 "RecordWireModel" "sizes" "[I") (by decide +kernel)
  have k45 := hts (.fieldLink RX7 45 "RecordWireModel" "inbox" "[I") (by decide +kernel)
  have k57 := hts (.fieldLink RX7 57 "RecordWireModel" "digest" "[I") (by decide +kernel)
  have k145 := hts (.fieldLink RX7 145 "RecordWireModel" "isOpen" "Z") (by decide +kernel)
  have k153 := hts (.fieldLink RX7 153 "RecordWireModel" "inSize" "I") (by decide +kernel)
  have k227 := hts (.constantLong RX7 227 (64)) (by decide +kernel)
  have hl : lv_has ls 15 [(0, .ref (md 25)), (1, .int (k)), (2, .int (i))] := hl
  refine lv_aload_n hx hb dX7_deliver_0 rfl (lv_at hl 0 rfl) ?_
  refine lv_iload_n hx hb dX7_deliver_1 rfl (lv_at hl 1 rfl) ?_
  refine r_calli (wr := []) [0] [] h0 hw rfl rfl (by decide) (by decide) (va_runV (As := [.int (k)]) (rest := []) ⟨hx, hb, hml, hown, hts⟩ (c_X7_isSlot_bad l g md op on inn k (hk) _) (cwV 1 hts gX7_deliver_X7_isSlot rfl rfl rfl (by decide +kernel) ⟨Nat.le_of_ble_eq_true rfl, Nat.le_of_ble_eq_true rfl⟩) (preV_of [0] [.int (k)] h0 hw rfl (by decide) 0 7 rfl rfl) rfl rfl hl.1 rfl (lv_room (Nat.le_of_ble_eq_true rfl)) dX7_deliver_2 ⟨Nat.le_of_ble_eq_true rfl, Nat.le_of_ble_eq_true rfl⟩) (fun r1 u2 H locs hp3 hw => ?_)
  have hw : WD g A s [(md 25, .inr (7, [.ref (md 0), .int (nI op), .ref (md 2), .ref (md 3), .ref (md 4), .ref (md 5), .ref (md 6), .ref (md 7), .ref (md 8), .ref (md 9), .ref (md 10), .ref (md 11), .int (nI on), .ref (md 13), .int (nI inn), .ref (md 15), .ref (md 16), .ref (md 17), .ref (md 18), .ref (md 19), .ref (md 20), .ref (md 21), .ref (md 22), .ref (md 23), .ref (md 24)]))] [] H locs := hw
  subst hp3
  refine lv_if_eq (tgt := 24) hx hb dX7_deliver_5 (by decide) (fun c4 => ?_) (fun c4 => ?_)
  · skip
    rw [← nI_0] at c4
    have c4 : 0 = 0 := (nI_eq (by omega) (by omega)).mp c4
    refine lv_iconst (v := nI 1) hx hb dX7_deliver_24 (by decide +kernel) ?_
    exact hret hw () (rfl) (rfl) (by omega) (by omega) dX7_deliver_25
  · skip
    rw [← nI_0] at c4
    have c4 : ¬ 0 = 0 := fun q => c4 (((nI_eq (by omega) (by omega)).mpr q))
    exfalso; omega

set_option maxHeartbeats 4000000 in
set_option maxRecDepth 100000 in
theorem c_X7_deliver_b2 (l : Launch) (g : GE) (md : Nat → Nat) (op : Nat) (on : Nat) (inn : Nat) (z : Nat → Nat) (k : Nat) (i : Int32) (hk : k < 8) (hz0 : z k = 0) (sz : Nat) : MI l yX7_deliver wsX7_deliver { frames := 5, cells := 0, slots := 0, locals := 123 } g [.ref (md 25), .int (nI k), .int (i)] [(md 25, .inr (7, [.ref (md 0), .int (nI op), .ref (md 2), .ref (md 3), .ref (md 4), .ref (md 5), .ref (md 6), .ref (md 7), .ref (md 8), .ref (md 9), .ref (md 10), .ref (md 11), .int (nI on), .ref (md 13), .int (nI inn), .ref (md 15), .ref (md 16), .ref (md 17), .ref (md 18), .ref (md 19), .ref (md 20), .ref (md 21), .ref (md 22), .ref (md 23), .ref (md 24)])), (md 10, .inl (g.2.1 0, 8, .inl (szF z)))] sz (fun (r : Int32) (_ : Unit) => r = nI 1) (fun (_ : Unit) => [(md 25, .inr (7, [.ref (md 0), .int (nI op), .ref (md 2), .ref (md 3), .ref (md 4), .ref (md 5), .ref (md 6), .ref (md 7), .ref (md 8), .ref (md 9), .ref (md 10), .ref (md 11), .int (nI on), .ref (md 13), .int (nI inn), .ref (md 15), .ref (md 16), .ref (md 17), .ref (md 18), .ref (md 19), .ref (md 20), .ref (md 21), .ref (md 22), .ref (md 23), .ref (md 24)])), (md 10, .inl (g.2.1 0, 8, .inl (szF z)))]) 0 0 := by
  refine enterI (by decide) rfl (Nat.le_of_ble_eq_true rfl) ?_
  intro p e s m below meth c A ls ar Q hE h0 hret hw hl
  obtain ⟨hx, hb, hr, hml, hown, hts, hlocks, hname⟩ := hE
  have hown : s.vm.findClass RX7 = some m.cls := hown
  have hw : WD g A s [(md 25, .inr (7, [.ref (md 0), .int (nI op), .ref (md 2), .ref (md 3), .ref (md 4), .ref (md 5), .ref (md 6), .ref (md 7), .ref (md 8), .ref (md 9), .ref (md 10), .ref (md 11), .int (nI on), .ref (md 13), .int (nI inn), .ref (md 15), .ref (md 16), .ref (md 17), .ref (md 18), .ref (md 19), .ref (md 20), .ref (md 21), .ref (md 22), .ref (md 23), .ref (md 24)])), (md 10, .inl (g.2.1 0, 8, .inl (szF z)))] [] s.heap [] := hw
  have hinX7 : ∀ w ∈ u_ws RX7 TX7 25, w ∈ wsX7_deliver := by decide +kernel
  have k19 := hts (.fieldLink RX7 19 "RecordWireModel" "epochs" "[I") (by decide +kernel)
  have k26 := hts (.fieldLink RX7 26 "RecordWireModel" "some" "[Z") (by decide +kernel)
  have k30 := hts (.fieldLink RX7 30 "RecordWireModel" "greatest" "[J") (by decide +kernel)
  have k33 := hts (.fieldLink RX7 33 "RecordWireModel" "seen" "[Z") (by decide +kernel)
  have k36 := hts (.fieldLink RX7 36 "RecordWireModel" "wire" "[I") (by decide +kernel)
  have k39 := hts (.fieldLink RX7 39 "RecordWireModel" "sizes" "[I") (by decide +kernel)
  have k45 := hts (.fieldLink RX7 45 "RecordWireModel" "inbox" "[I") (by decide +kernel)
  have k57 := hts (.fieldLink RX7 57 "RecordWireModel" "digest" "[I") (by decide +kernel)
  have k145 := hts (.fieldLink RX7 145 "RecordWireModel" "isOpen" "Z") (by decide +kernel)
  have k153 := hts (.fieldLink RX7 153 "RecordWireModel" "inSize" "I") (by decide +kernel)
  have k227 := hts (.constantLong RX7 227 (64)) (by decide +kernel)
  have hl : lv_has ls 15 [(0, .ref (md 25)), (1, .int (nI k)), (2, .int (i))] := hl
  refine lv_aload_n hx hb dX7_deliver_0 rfl (lv_at hl 0 rfl) ?_
  refine lv_iload_n hx hb dX7_deliver_1 rfl (lv_at hl 1 rfl) ?_
  refine r_calli (wr := []) [0, 1] [] h0 hw rfl rfl (by decide) (by decide) (va_runV (As := [.int (nI k)]) (rest := []) ⟨hx, hb, hml, hown, hts⟩ (c_X7_isSlot l g md op on inn z k (by omega) (by omega) _) (cwV 1 hts gX7_deliver_X7_isSlot rfl rfl rfl (by decide +kernel) ⟨Nat.le_of_ble_eq_true rfl, Nat.le_of_ble_eq_true rfl⟩) (preV_of [0, 1] [.int (nI k)] h0 hw rfl (by decide) 0 7 rfl rfl) rfl rfl hl.1 rfl (lv_room (Nat.le_of_ble_eq_true rfl)) dX7_deliver_2 ⟨Nat.le_of_ble_eq_true rfl, Nat.le_of_ble_eq_true rfl⟩) (fun r1 u2 H locs hp3 hw => ?_)
  have hw : WD g A s [(md 25, .inr (7, [.ref (md 0), .int (nI op), .ref (md 2), .ref (md 3), .ref (md 4), .ref (md 5), .ref (md 6), .ref (md 7), .ref (md 8), .ref (md 9), .ref (md 10), .ref (md 11), .int (nI on), .ref (md 13), .int (nI inn), .ref (md 15), .ref (md 16), .ref (md 17), .ref (md 18), .ref (md 19), .ref (md 20), .ref (md 21), .ref (md 22), .ref (md 23), .ref (md 24)])), (md 10, .inl (g.2.1 0, 8, .inl (szF z)))] [] H locs := hw
  subst hp3
  refine lv_if_eq (tgt := 24) hx hb dX7_deliver_5 (by decide) (fun c4 => ?_) (fun c4 => ?_)
  · skip
    have c4 : ¬ (¬ z k = 0) := bI_f c4
    refine lv_iconst (v := nI 1) hx hb dX7_deliver_24 (by decide +kernel) ?_
    exact hret hw () (rfl) (rfl) (by omega) (by omega) dX7_deliver_25
  · skip
    have c4 : ¬ z k = 0 := bI_t c4
    exact absurd hz0 c4

set_option maxHeartbeats 4000000 in
set_option maxRecDepth 100000 in
theorem c_X7_deliver_b3 (l : Launch) (g : GE) (md : Nat → Nat) (op : Nat) (on : Nat) (inn : Nat) (z : Nat → Nat) (k : Nat) (i : Int32) (hk : k < 8) (hz : z k ≤ 127) (hop2 : op < 2) (hbad : ¬ (inR i 2 ∧ ¬ op = 0)) (sz : Nat) : MI l yX7_deliver wsX7_deliver { frames := 5, cells := 0, slots := 0, locals := 123 } g [.ref (md 25), .int (nI k), .int (i)] [(md 25, .inr (7, [.ref (md 0), .int (nI op), .ref (md 2), .ref (md 3), .ref (md 4), .ref (md 5), .ref (md 6), .ref (md 7), .ref (md 8), .ref (md 9), .ref (md 10), .ref (md 11), .int (nI on), .ref (md 13), .int (nI inn), .ref (md 15), .ref (md 16), .ref (md 17), .ref (md 18), .ref (md 19), .ref (md 20), .ref (md 21), .ref (md 22), .ref (md 23), .ref (md 24)])), (md 10, .inl (g.2.1 0, 8, .inl (szF z)))] sz (fun (r : Int32) (_ : Unit) => r = nI 1) (fun (_ : Unit) => [(md 25, .inr (7, [.ref (md 0), .int (nI op), .ref (md 2), .ref (md 3), .ref (md 4), .ref (md 5), .ref (md 6), .ref (md 7), .ref (md 8), .ref (md 9), .ref (md 10), .ref (md 11), .int (nI on), .ref (md 13), .int (nI inn), .ref (md 15), .ref (md 16), .ref (md 17), .ref (md 18), .ref (md 19), .ref (md 20), .ref (md 21), .ref (md 22), .ref (md 23), .ref (md 24)])), (md 10, .inl (g.2.1 0, 8, .inl (szF z)))]) 0 0 := by
  refine enterI (by decide) rfl (Nat.le_of_ble_eq_true rfl) ?_
  intro p e s m below meth c A ls ar Q hE h0 hret hw hl
  obtain ⟨hx, hb, hr, hml, hown, hts, hlocks, hname⟩ := hE
  have hown : s.vm.findClass RX7 = some m.cls := hown
  have hw : WD g A s [(md 25, .inr (7, [.ref (md 0), .int (nI op), .ref (md 2), .ref (md 3), .ref (md 4), .ref (md 5), .ref (md 6), .ref (md 7), .ref (md 8), .ref (md 9), .ref (md 10), .ref (md 11), .int (nI on), .ref (md 13), .int (nI inn), .ref (md 15), .ref (md 16), .ref (md 17), .ref (md 18), .ref (md 19), .ref (md 20), .ref (md 21), .ref (md 22), .ref (md 23), .ref (md 24)])), (md 10, .inl (g.2.1 0, 8, .inl (szF z)))] [] s.heap [] := hw
  have hinX7 : ∀ w ∈ u_ws RX7 TX7 25, w ∈ wsX7_deliver := by decide +kernel
  have k19 := hts (.fieldLink RX7 19 "RecordWireModel" "epochs" "[I") (by decide +kernel)
  have k26 := hts (.fieldLink RX7 26 "RecordWireModel" "some" "[Z") (by decide +kernel)
  have k30 := hts (.fieldLink RX7 30 "RecordWireModel" "greatest" "[J") (by decide +kernel)
  have k33 := hts (.fieldLink RX7 33 "RecordWireModel" "seen" "[Z") (by decide +kernel)
  have k36 := hts (.fieldLink RX7 36 "RecordWireModel" "wire" "[I") (by decide +kernel)
  have k39 := hts (.fieldLink RX7 39 "RecordWireModel" "sizes" "[I") (by decide +kernel)
  have k45 := hts (.fieldLink RX7 45 "RecordWireModel" "inbox" "[I") (by decide +kernel)
  have k57 := hts (.fieldLink RX7 57 "RecordWireModel" "digest" "[I") (by decide +kernel)
  have k145 := hts (.fieldLink RX7 145 "RecordWireModel" "isOpen" "Z") (by decide +kernel)
  have k153 := hts (.fieldLink RX7 153 "RecordWireModel" "inSize" "I") (by decide +kernel)
  have k227 := hts (.constantLong RX7 227 (64)) (by decide +kernel)
  have hl : lv_has ls 15 [(0, .ref (md 25)), (1, .int (nI k)), (2, .int (i))] := hl
  refine lv_aload_n hx hb dX7_deliver_0 rfl (lv_at hl 0 rfl) ?_
  refine lv_iload_n hx hb dX7_deliver_1 rfl (lv_at hl 1 rfl) ?_
  refine r_calli (wr := []) [0, 1] [] h0 hw rfl rfl (by decide) (by decide) (va_runV (As := [.int (nI k)]) (rest := []) ⟨hx, hb, hml, hown, hts⟩ (c_X7_isSlot l g md op on inn z k (by omega) (by omega) _) (cwV 1 hts gX7_deliver_X7_isSlot rfl rfl rfl (by decide +kernel) ⟨Nat.le_of_ble_eq_true rfl, Nat.le_of_ble_eq_true rfl⟩) (preV_of [0, 1] [.int (nI k)] h0 hw rfl (by decide) 0 7 rfl rfl) rfl rfl hl.1 rfl (lv_room (Nat.le_of_ble_eq_true rfl)) dX7_deliver_2 ⟨Nat.le_of_ble_eq_true rfl, Nat.le_of_ble_eq_true rfl⟩) (fun r1 u2 H locs hp3 hw => ?_)
  have hw : WD g A s [(md 25, .inr (7, [.ref (md 0), .int (nI op), .ref (md 2), .ref (md 3), .ref (md 4), .ref (md 5), .ref (md 6), .ref (md 7), .ref (md 8), .ref (md 9), .ref (md 10), .ref (md 11), .int (nI on), .ref (md 13), .int (nI inn), .ref (md 15), .ref (md 16), .ref (md 17), .ref (md 18), .ref (md 19), .ref (md 20), .ref (md 21), .ref (md 22), .ref (md 23), .ref (md 24)])), (md 10, .inl (g.2.1 0, 8, .inl (szF z)))] [] H locs := hw
  subst hp3
  refine lv_if_eq (tgt := 24) hx hb dX7_deliver_5 (by decide) (fun c4 => ?_) (fun c4 => ?_)
  · skip
    have c4 : ¬ (¬ z k = 0) := bI_f c4
    refine lv_iconst (v := nI 1) hx hb dX7_deliver_24 (by decide +kernel) ?_
    exact hret hw () (rfl) (rfl) (by omega) (by omega) dX7_deliver_25
  · skip
    have c4 : ¬ z k = 0 := bI_t c4
    refine lv_iload_n hx hb dX7_deliver_8 rfl (lv_at hl 2 rfl) ?_
    refine lv_if_eq (tgt := 17) hx hb dX7_deliver_9 (by decide) (fun c5 => ?_) (fun c5 => ?_)
    · skip
      have q1 : inR i 2 := by rw [c5]; decide +kernel
      refine lv_aload_n hx hb dX7_deliver_17 rfl (lv_at hl 0 rfl) ?_
      refine r_get (ci := 7) (v := .int (nI op)) (C := RX7) (T := TX7) (N := 25) hx hb hts hinX7 hown h0 hw 0 rfl rfl 1 (by decide) k145 rfl dX7_deliver_18 ?_
      refine lv_if_ne (tgt := 26) hx hb dX7_deliver_21 (by decide) (fun c6 => ?_) (fun c6 => ?_)
      · skip
        rw [← nI_0] at c6
        have c6 : ¬ op = 0 := fun q => c6 (((nI_eq (by omega) (by omega)).mpr q))
        exact absurd ⟨q1, c6⟩ hbad
      · skip
        rw [← nI_0] at c6
        have c6 : op = 0 := (nI_eq (by omega) (by omega)).mp c6
        refine lv_iconst (v := nI 1) hx hb dX7_deliver_24 (by decide +kernel) ?_
        exact hret hw () (rfl) (rfl) (by omega) (by omega) dX7_deliver_25
    · skip
      refine lv_iload_n hx hb dX7_deliver_12 rfl (lv_at hl 2 rfl) ?_
      refine lv_iconst (v := nI 1) hx hb dX7_deliver_13 (by decide +kernel) ?_
      refine lv_icmp_ne (tgt := 24) hx hb dX7_deliver_14 (by decide) (fun c7 => ?_) (fun c7 => ?_)
      · skip
        refine lv_iconst (v := nI 1) hx hb dX7_deliver_24 (by decide +kernel) ?_
        exact hret hw () (rfl) (rfl) (by omega) (by omega) dX7_deliver_25
      · skip
        have q1 : inR i 2 := by rw [c7]; decide +kernel
        refine lv_aload_n hx hb dX7_deliver_17 rfl (lv_at hl 0 rfl) ?_
        refine r_get (ci := 7) (v := .int (nI op)) (C := RX7) (T := TX7) (N := 25) hx hb hts hinX7 hown h0 hw 0 rfl rfl 1 (by decide) k145 rfl dX7_deliver_18 ?_
        refine lv_if_ne (tgt := 26) hx hb dX7_deliver_21 (by decide) (fun c8 => ?_) (fun c8 => ?_)
        · skip
          rw [← nI_0] at c8
          have c8 : ¬ op = 0 := fun q => c8 (((nI_eq (by omega) (by omega)).mpr q))
          exact absurd ⟨q1, c8⟩ hbad
        · skip
          rw [← nI_0] at c8
          have c8 : op = 0 := (nI_eq (by omega) (by omega)).mp c8
          refine lv_iconst (v := nI 1) hx hb dX7_deliver_24 (by decide +kernel) ?_
          exact hret hw () (rfl) (rfl) (by omega) (by omega) dX7_deliver_25
