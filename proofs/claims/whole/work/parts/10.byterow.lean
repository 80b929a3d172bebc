set_option maxHeartbeats 4000000 in
set_option maxRecDepth 100000 in
theorem c_X0_clear (l : Launch) (g : GE) (h : Nat) (b : Nat) (n : Nat) (sz : Nat) : MV l yX0_clear wsX0_clear { frames := 0, cells := 0, slots := 0, locals := 0 } g [.ref h] [(h, .inr (0, [.ref b, .int (nI n)]))] sz (fun (_ : Unit) => True) (fun (_ : Unit) => [(h, .inr (0, [.ref b, .int (nI 0)]))]) 0 0 := by
  refine enterV (by decide) rfl (Nat.le_of_ble_eq_true rfl) ?_
  intro p e s m below meth c A ls ar Q hE h0 hret hw hl
  obtain ⟨hx, hb, hr, hml, hown, hts, hlocks, hname⟩ := hE
  have hown : s.vm.findClass RX0 = some m.cls := hown
  have hw : WD g A s [(h, .inr (0, [.ref b, .int (nI n)]))] [] s.heap [] := hw
  have hinX0 : ∀ w ∈ u_ws RX0 TX0 2, w ∈ wsX0_clear := by decide +kernel
  have k15 := hts (.fieldLink RX0 15 "RecordWire$ByteRow" "size" "I") (by decide +kernel)
  have hl : lv_has ls 1 [(0, .ref h)] := hl
  refine lv_aload_n hx hb dX0_clear_0 rfl (lv_at hl 0 rfl) ?_
  refine lv_iconst (v := nI 0) hx hb dX0_clear_1 (by decide +kernel) ?_
  refine r_put (ci := 0) (v := .int (nI 0)) (C := RX0) (T := TX0) (N := 2) hx hb hts hinX0 tyX0 tyX0_ok nmX0 hown h0 hw 0 rfl rfl 1 (by decide) k15 rfl rfl rfl (Nat.le_of_ble_eq_true rfl) dX0_clear_2 (fun H locs hw => ?_)
  have hw : WD g A s [(h, .inr (0, [.ref b, .int (nI 0)]))] [] H locs := hw
  exact hret hw () (trivial) (rfl) (by omega) (by omega) dX0_clear_5

set_option maxHeartbeats 4000000 in
set_option maxRecDepth 100000 in
theorem c_X0_size (l : Launch) (g : GE) (h : Nat) (b : Nat) (n : Nat) (sz : Nat) : MI l yX0_size wsX0_size { frames := 0, cells := 0, slots := 0, locals := 0 } g [.ref h] [(h, .inr (0, [.ref b, .int (nI n)]))] sz (fun (r : Int32) (_ : Unit) => r = nI n) (fun (_ : Unit) => [(h, .inr (0, [.ref b, .int (nI n)]))]) 0 0 := by
  refine enterI (by decide) rfl (Nat.le_of_ble_eq_true rfl) ?_
  intro p e s m below meth c A ls ar Q hE h0 hret hw hl
  obtain ⟨hx, hb, hr, hml, hown, hts, hlocks, hname⟩ := hE
  have hown : s.vm.findClass RX0 = some m.cls := hown
  have hw : WD g A s [(h, .inr (0, [.ref b, .int (nI n)]))] [] s.heap [] := hw
  have hinX0 : ∀ w ∈ u_ws RX0 TX0 2, w ∈ wsX0_size := by decide +kernel
  have k15 := hts (.fieldLink RX0 15 "RecordWire$ByteRow" "size" "I") (by decide +kernel)
  have hl : lv_has ls 1 [(0, .ref h)] := hl
  refine lv_aload_n hx hb dX0_size_0 rfl (lv_at hl 0 rfl) ?_
  refine r_get (ci := 0) (v := .int (nI n)) (C := RX0) (T := TX0) (N := 2) hx hb hts hinX0 hown h0 hw 0 rfl rfl 1 (by decide) k15 rfl dX0_size_1 ?_
  exact hret hw () (rfl) (rfl) (by omega) (by omega) dX0_size_4

set_option maxHeartbeats 4000000 in
set_option maxRecDepth 100000 in
theorem c_X0_isEmpty (l : Launch) (g : GE) (h : Nat) (b : Nat) (n : Nat) (hn : n ≤ 127) (sz : Nat) : MI l yX0_isEmpty wsX0_isEmpty { frames := 0, cells := 0, slots := 0, locals := 0 } g [.ref h] [(h, .inr (0, [.ref b, .int (nI n)]))] sz (fun (r : Int32) (_ : Unit) => r = bI (decide (n = 0))) (fun (_ : Unit) => [(h, .inr (0, [.ref b, .int (nI n)]))]) 0 0 := by
  refine enterZ (by decide) rfl (Nat.le_of_ble_eq_true rfl) ?_
  intro p e s m below meth c A ls ar Q hE h0 hret hw hl
  obtain ⟨hx, hb, hr, hml, hown, hts, hlocks, hname⟩ := hE
  have hown : s.vm.findClass RX0 = some m.cls := hown
  have hw : WD g A s [(h, .inr (0, [.ref b, .int (nI n)]))] [] s.heap [] := hw
  have hinX0 : ∀ w ∈ u_ws RX0 TX0 2, w ∈ wsX0_isEmpty := by decide +kernel
  have k15 := hts (.fieldLink RX0 15 "RecordWire$ByteRow" "size" "I") (by decide +kernel)
  have hl : lv_has ls 1 [(0, .ref h)] := hl
  refine lv_aload_n hx hb dX0_isEmpty_0 rfl (lv_at hl 0 rfl) ?_
  refine r_get (ci := 0) (v := .int (nI n)) (C := RX0) (T := TX0) (N := 2) hx hb hts hinX0 hown h0 hw 0 rfl rfl 1 (by decide) k15 rfl dX0_isEmpty_1 ?_
  refine lv_if_ne (tgt := 11) hx hb dX0_isEmpty_4 (by decide) (fun c1 => ?_) (fun c1 => ?_)
  · skip
    rw [← nI_0] at c1
    have c1 : ¬ n = 0 := fun q => c1 (((nI_eq (by omega) (by omega)).mpr q))
    refine lv_iconst (v := nI 0) hx hb dX0_isEmpty_11 (by decide +kernel) ?_
    exact hret (rfl) hw () (by first | exact bI_T (by omega) | exact bI_F (by omega)) (rfl) (by omega) (by omega) dX0_isEmpty_12
  · skip
    rw [← nI_0] at c1
    have c1 : n = 0 := (nI_eq (by omega) (by omega)).mp c1
    refine lv_iconst (v := nI 1) hx hb dX0_isEmpty_7 (by decide +kernel) ?_
    refine lv_goto (tgt := 12) hx hb dX0_isEmpty_8 (by decide) ?_
    exact hret (rfl) hw () (by first | exact bI_T (by omega) | exact bI_F (by omega)) (rfl) (by omega) (by omega) dX0_isEmpty_12

set_option maxHeartbeats 4000000 in
set_option maxRecDepth 100000 in
theorem c_X0_at (l : Launch) (g : GE) (h : Nat) (b : Nat) (n : Nat) (f : Nat → Int32) (i : Nat) (hi : i < n) (hn : n ≤ 127) (sz : Nat) : MI l yX0_at wsX0_at { frames := 0, cells := 0, slots := 0, locals := 0 } g [.ref h, .int (nI i)] [(h, .inr (0, [.ref b, .int (nI n)])), (b, .inl (g.2.1 0, 127, .inl (f)))] sz (fun (r : Int32) (_ : Unit) => r = f i) (fun (_ : Unit) => [(h, .inr (0, [.ref b, .int (nI n)])), (b, .inl (g.2.1 0, 127, .inl (f)))]) 0 0 := by
  refine enterI (by decide) rfl (Nat.le_of_ble_eq_true rfl) ?_
  intro p e s m below meth c A ls ar Q hE h0 hret hw hl
  obtain ⟨hx, hb, hr, hml, hown, hts, hlocks, hname⟩ := hE
  have hown : s.vm.findClass RX0 = some m.cls := hown
  have hw : WD g A s [(h, .inr (0, [.ref b, .int (nI n)])), (b, .inl (g.2.1 0, 127, .inl (f)))] [] s.heap [] := hw
  have hinX0 : ∀ w ∈ u_ws RX0 TX0 2, w ∈ wsX0_at := by decide +kernel
  have k9 := hts (.fieldLink RX0 9 "RecordWire$ByteRow" "bytes" "[I") (by decide +kernel)
  have k15 := hts (.fieldLink RX0 15 "RecordWire$ByteRow" "size" "I") (by decide +kernel)
  have hl : lv_has ls 2 [(0, .ref h), (1, .int (nI i))] := hl
  refine lv_iload_n hx hb dX0_at_0 rfl (lv_at hl 1 rfl) ?_
  refine lv_if_lt (tgt := 21) hx hb dX0_at_1 (by decide) (fun c1 => ?_) (fun c1 => ?_)
  · skip
    rw [← nI_0] at c1
    have c1 : i < 0 := (nI_ltI (by omega) (by omega)).mp c1
    exfalso; omega
  · skip
    rw [← nI_0] at c1
    have c1 : ¬ i < 0 := fun q => c1 (((nI_ltI (by omega) (by omega)).mpr q))
    refine lv_iload_n hx hb dX0_at_4 rfl (lv_at hl 1 rfl) ?_
    refine lv_aload_n hx hb dX0_at_5 rfl (lv_at hl 0 rfl) ?_
    refine r_get (ci := 0) (v := .int (nI n)) (C := RX0) (T := TX0) (N := 2) hx hb hts hinX0 hown h0 hw 0 rfl rfl 1 (by decide) k15 rfl dX0_at_6 ?_
    refine lv_icmp_ge (tgt := 21) hx hb dX0_at_9 (by decide) (fun c2 => ?_) (fun c2 => ?_)
    · skip
      have c2 : n ≤ i := (nI_leI (by omega) (by omega)).mp c2
      exfalso; omega
    · skip
      have c2 : ¬ n ≤ i := fun q => c2 (((nI_leI (by omega) (by omega)).mpr q))
      refine lv_aload_n hx hb dX0_at_12 rfl (lv_at hl 0 rfl) ?_
      refine r_get (ci := 0) (v := .ref b) (C := RX0) (T := TX0) (N := 2) hx hb hts hinX0 hown h0 hw 0 rfl rfl 0 (by decide) k9 rfl dX0_at_13 ?_
      refine lv_iload_n hx hb dX0_at_16 rfl (lv_at hl 1 rfl) ?_
      refine r_iald hx hb h0 hw 1 rfl (i := i) (by omega) (by omega) dX0_at_17 ?_
      refine lv_goto (tgt := 22) hx hb dX0_at_18 (by decide) ?_
      exact hret hw () (rfl) (rfl) (by omega) (by omega) dX0_at_22

set_option maxHeartbeats 4000000 in
set_option maxRecDepth 100000 in
theorem c_X0_at_out (l : Launch) (g : GE) (h : Nat) (b : Nat) (n : Nat) (f : Nat → Int32) (i : Int32) (hi : i < 0 ∨ nI n ≤ i) (sz : Nat) : MI l yX0_at wsX0_at { frames := 0, cells := 0, slots := 0, locals := 0 } g [.ref h, .int (i)] [(h, .inr (0, [.ref b, .int (nI n)])), (b, .inl (g.2.1 0, 127, .inl (f)))] sz (fun (r : Int32) (_ : Unit) => r = -1) (fun (_ : Unit) => [(h, .inr (0, [.ref b, .int (nI n)])), (b, .inl (g.2.1 0, 127, .inl (f)))]) 0 0 := by
  refine enterI (by decide) rfl (Nat.le_of_ble_eq_true rfl) ?_
  intro p e s m below meth c A ls ar Q hE h0 hret hw hl
  obtain ⟨hx, hb, hr, hml, hown, hts, hlocks, hname⟩ := hE
  have hown : s.vm.findClass RX0 = some m.cls := hown
  have hw : WD g A s [(h, .inr (0, [.ref b, .int (nI n)])), (b, .inl (g.2.1 0, 127, .inl (f)))] [] s.heap [] := hw
  have hinX0 : ∀ w ∈ u_ws RX0 TX0 2, w ∈ wsX0_at := by decide +kernel
  have k9 := hts (.fieldLink RX0 9 "RecordWire$ByteRow" "bytes" "[I") (by decide +kernel)
  have k15 := hts (.fieldLink RX0 15 "RecordWire$ByteRow" "size" "I") (by decide +kernel)
  have hl : lv_has ls 2 [(0, .ref h), (1, .int (i))] := hl
  refine lv_iload_n hx hb dX0_at_0 rfl (lv_at hl 1 rfl) ?_
  refine lv_if_lt (tgt := 21) hx hb dX0_at_1 (by decide) (fun c1 => ?_) (fun c1 => ?_)
  · skip
    refine lv_iconst (v := -1) hx hb dX0_at_21 (by decide +kernel) ?_
    exact hret hw () (rfl) (rfl) (by omega) (by omega) dX0_at_22
  · skip
    refine lv_iload_n hx hb dX0_at_4 rfl (lv_at hl 1 rfl) ?_
    refine lv_aload_n hx hb dX0_at_5 rfl (lv_at hl 0 rfl) ?_
    refine r_get (ci := 0) (v := .int (nI n)) (C := RX0) (T := TX0) (N := 2) hx hb hts hinX0 hown h0 hw 0 rfl rfl 1 (by decide) k15 rfl dX0_at_6 ?_
    refine lv_icmp_ge (tgt := 21) hx hb dX0_at_9 (by decide) (fun c2 => ?_) (fun c2 => ?_)
    · skip
      refine lv_iconst (v := -1) hx hb dX0_at_21 (by decide +kernel) ?_
      exact hret hw () (rfl) (rfl) (by omega) (by omega) dX0_at_22
    · skip
      exact absurd (hi.resolve_left c1) c2

set_option maxHeartbeats 4000000 in
set_option maxRecDepth 100000 in
theorem c_X0_change (l : Launch) (g : GE) (h : Nat) (b : Nat) (n : Nat) (f : Nat → Int32) (i : Nat) (v : Int32) (hi : i < n) (hn : n ≤ 127) (sz : Nat) : MI l yX0_change wsX0_change { frames := 0, cells := 0, slots := 0, locals := 0 } g [.ref h, .int (nI i), .int (v)] [(h, .inr (0, [.ref b, .int (nI n)])), (b, .inl (g.2.1 0, 127, .inl (f)))] sz (fun (r : Int32) (_ : Unit) => r = nI 1) (fun (_ : Unit) => [(h, .inr (0, [.ref b, .int (nI n)])), (b, .inl (g.2.1 0, 127, .inl (upd f i v)))]) 0 0 := by
  refine enterZ (by decide) rfl (Nat.le_of_ble_eq_true rfl) ?_
  intro p e s m below meth c A ls ar Q hE h0 hret hw hl
  obtain ⟨hx, hb, hr, hml, hown, hts, hlocks, hname⟩ := hE
  have hown : s.vm.findClass RX0 = some m.cls := hown
  have hw : WD g A s [(h, .inr (0, [.ref b, .int (nI n)])), (b, .inl (g.2.1 0, 127, .inl (f)))] [] s.heap [] := hw
  have hinX0 : ∀ w ∈ u_ws RX0 TX0 2, w ∈ wsX0_change := by decide +kernel
  have k9 := hts (.fieldLink RX0 9 "RecordWire$ByteRow" "bytes" "[I") (by decide +kernel)
  have k15 := hts (.fieldLink RX0 15 "RecordWire$ByteRow" "size" "I") (by decide +kernel)
  have hl : lv_has ls 3 [(0, .ref h), (1, .int (nI i)), (2, .int (v))] := hl
  refine lv_iload_n hx hb dX0_change_0 rfl (lv_at hl 1 rfl) ?_
  refine lv_if_lt (tgt := 12) hx hb dX0_change_1 (by decide) (fun c1 => ?_) (fun c1 => ?_)
  · skip
    rw [← nI_0] at c1
    have c1 : i < 0 := (nI_ltI (by omega) (by omega)).mp c1
    exfalso; omega
  · skip
    rw [← nI_0] at c1
    have c1 : ¬ i < 0 := fun q => c1 (((nI_ltI (by omega) (by omega)).mpr q))
    refine lv_iload_n hx hb dX0_change_4 rfl (lv_at hl 1 rfl) ?_
    refine lv_aload_n hx hb dX0_change_5 rfl (lv_at hl 0 rfl) ?_
    refine r_get (ci := 0) (v := .int (nI n)) (C := RX0) (T := TX0) (N := 2) hx hb hts hinX0 hown h0 hw 0 rfl rfl 1 (by decide) k15 rfl dX0_change_6 ?_
    refine lv_icmp_lt (tgt := 14) hx hb dX0_change_9 (by decide) (fun c2 => ?_) (fun c2 => ?_)
    · skip
      have c2 : i < n := (nI_ltI (by omega) (by omega)).mp c2
      refine lv_aload_n hx hb dX0_change_14 rfl (lv_at hl 0 rfl) ?_
      refine r_get (ci := 0) (v := .ref b) (C := RX0) (T := TX0) (N := 2) hx hb hts hinX0 hown h0 hw 0 rfl rfl 0 (by decide) k9 rfl dX0_change_15 ?_
      refine lv_iload_n hx hb dX0_change_18 rfl (lv_at hl 1 rfl) ?_
      refine lv_iload_n hx hb dX0_change_19 rfl (lv_at hl 2 rfl) ?_
      refine r_iast hx hb h0 hw 1 rfl (i := i) (by omega) (by omega) dX0_change_20 (fun H locs hw => ?_)
      have hw : WD g A s [(h, .inr (0, [.ref b, .int (nI n)])), (b, .inl (g.2.1 0, 127, .inl (upd f i v)))] [] H locs := hw
      refine lv_iconst (v := nI 1) hx hb dX0_change_21 (by decide +kernel) ?_
      exact hret (rfl) hw () (rfl) (rfl) (by omega) (by omega) dX0_change_22
    · skip
      have c2 : ¬ i < n := fun q => c2 (((nI_ltI (by omega) (by omega)).mpr q))
      exfalso; omega

set_option maxHeartbeats 4000000 in
set_option maxRecDepth 100000 in
theorem c_X0_change_out (l : Launch) (g : GE) (h : Nat) (b : Nat) (n : Nat) (f : Nat → Int32) (i : Int32) (v : Int32) (hi : i < 0 ∨ nI n ≤ i) (sz : Nat) : MI l yX0_change wsX0_change { frames := 0, cells := 0, slots := 0, locals := 0 } g [.ref h, .int (i), .int (v)] [(h, .inr (0, [.ref b, .int (nI n)])), (b, .inl (g.2.1 0, 127, .inl (f)))] sz (fun (r : Int32) (_ : Unit) => r = nI 0) (fun (_ : Unit) => [(h, .inr (0, [.ref b, .int (nI n)])), (b, .inl (g.2.1 0, 127, .inl (f)))]) 0 0 := by
  refine enterZ (by decide) rfl (Nat.le_of_ble_eq_true rfl) ?_
  intro p e s m below meth c A ls ar Q hE h0 hret hw hl
  obtain ⟨hx, hb, hr, hml, hown, hts, hlocks, hname⟩ := hE
  have hown : s.vm.findClass RX0 = some m.cls := hown
  have hw : WD g A s [(h, .inr (0, [.ref b, .int (nI n)])), (b, .inl (g.2.1 0, 127, .inl (f)))] [] s.heap [] := hw
  have hinX0 : ∀ w ∈ u_ws RX0 TX0 2, w ∈ wsX0_change := by decide +kernel
  have k9 := hts (.fieldLink RX0 9 "RecordWire$ByteRow" "bytes" "[I") (by decide +kernel)
  have k15 := hts (.fieldLink RX0 15 "RecordWire$ByteRow" "size" "I") (by decide +kernel)
  have hl : lv_has ls 3 [(0, .ref h), (1, .int (i)), (2, .int (v))] := hl
  refine lv_iload_n hx hb dX0_change_0 rfl (lv_at hl 1 rfl) ?_
  refine lv_if_lt (tgt := 12) hx hb dX0_change_1 (by decide) (fun c1 => ?_) (fun c1 => ?_)
  · skip
    refine lv_iconst (v := nI 0) hx hb dX0_change_12 (by decide +kernel) ?_
    exact hret (rfl) hw () (rfl) (rfl) (by omega) (by omega) dX0_change_13
  · skip
    refine lv_iload_n hx hb dX0_change_4 rfl (lv_at hl 1 rfl) ?_
    refine lv_aload_n hx hb dX0_change_5 rfl (lv_at hl 0 rfl) ?_
    refine r_get (ci := 0) (v := .int (nI n)) (C := RX0) (T := TX0) (N := 2) hx hb hts hinX0 hown h0 hw 0 rfl rfl 1 (by decide) k15 rfl dX0_change_6 ?_
    refine lv_icmp_lt (tgt := 14) hx hb dX0_change_9 (by decide) (fun c2 => ?_) (fun c2 => ?_)
    · skip
      exact absurd c2 (Int32.not_lt.mpr (hi.resolve_left c1))
    · skip
      refine lv_iconst (v := nI 0) hx hb dX0_change_12 (by decide +kernel) ?_
      exact hret (rfl) hw () (rfl) (rfl) (by omega) (by omega) dX0_change_13

set_option maxHeartbeats 4000000 in
set_option maxRecDepth 100000 in
theorem c_X0_append (l : Launch) (g : GE) (h : Nat) (b : Nat) (n : Nat) (f : Nat → Int32) (v : Int32) (hn : n < 127) (sz : Nat) : MV l yX0_append wsX0_append { frames := 0, cells := 0, slots := 0, locals := 0 } g [.ref h, .int (v)] [(h, .inr (0, [.ref b, .int (nI n)])), (b, .inl (g.2.1 0, 127, .inl (f)))] sz (fun (_ : Unit) => True) (fun (_ : Unit) => [(h, .inr (0, [.ref b, .int (nI (n + 1))])), (b, .inl (g.2.1 0, 127, .inl (upd f n v)))]) 0 0 := by
  refine enterV (by decide) rfl (Nat.le_of_ble_eq_true rfl) ?_
  intro p e s m below meth c A ls ar Q hE h0 hret hw hl
  obtain ⟨hx, hb, hr, hml, hown, hts, hlocks, hname⟩ := hE
  have hown : s.vm.findClass RX0 = some m.cls := hown
  have hw : WD g A s [(h, .inr (0, [.ref b, .int (nI n)])), (b, .inl (g.2.1 0, 127, .inl (f)))] [] s.heap [] := hw
  have hinX0 : ∀ w ∈ u_ws RX0 TX0 2, w ∈ wsX0_append := by decide +kernel
  have k9 := hts (.fieldLink RX0 9 "RecordWire$ByteRow" "bytes" "[I") (by decide +kernel)
  have k15 := hts (.fieldLink RX0 15 "RecordWire$ByteRow" "size" "I") (by decide +kernel)
  have hl : lv_has ls 2 [(0, .ref h), (1, .int (v))] := hl
  refine lv_aload_n hx hb dX0_append_0 rfl (lv_at hl 0 rfl) ?_
  refine r_get (ci := 0) (v := .int (nI n)) (C := RX0) (T := TX0) (N := 2) hx hb hts hinX0 hown h0 hw 0 rfl rfl 1 (by decide) k15 rfl dX0_append_1 ?_
  refine lv_bipush (v := nI 127) hx hb dX0_append_4 (by decide +kernel) ?_
  refine lv_icmp_ge (tgt := 29) hx hb dX0_append_6 (by decide) (fun c1 => ?_) (fun c1 => ?_)
  · skip
    have c1 : 127 ≤ n := (nI_leI (by omega) (by omega)).mp c1
    exfalso; omega
  · skip
    have c1 : ¬ 127 ≤ n := fun q => c1 (((nI_leI (by omega) (by omega)).mpr q))
    refine lv_aload_n hx hb dX0_append_9 rfl (lv_at hl 0 rfl) ?_
    refine r_get (ci := 0) (v := .ref b) (C := RX0) (T := TX0) (N := 2) hx hb hts hinX0 hown h0 hw 0 rfl rfl 0 (by decide) k9 rfl dX0_append_10 ?_
    refine lv_aload_n hx hb dX0_append_13 rfl (lv_at hl 0 rfl) ?_
    refine r_get (ci := 0) (v := .int (nI n)) (C := RX0) (T := TX0) (N := 2) hx hb hts hinX0 hown h0 hw 0 rfl rfl 1 (by decide) k15 rfl dX0_append_14 ?_
    refine lv_iload_n hx hb dX0_append_17 rfl (lv_at hl 1 rfl) ?_
    refine r_iast hx hb h0 hw 1 rfl (i := n) (by omega) (by omega) dX0_append_18 (fun H locs hw => ?_)
    have hw : WD g A s [(h, .inr (0, [.ref b, .int (nI n)])), (b, .inl (g.2.1 0, 127, .inl (upd f n v)))] [] H locs := hw
    refine lv_aload_n hx hb dX0_append_19 rfl (lv_at hl 0 rfl) ?_
    refine lv_dup hx hb dX0_append_20 rfl ?_
    refine r_get (ci := 0) (v := .int (nI n)) (C := RX0) (T := TX0) (N := 2) hx hb hts hinX0 hown h0 hw 0 rfl rfl 1 (by decide) k15 rfl dX0_append_21 ?_
    refine lv_iconst (v := nI 1) hx hb dX0_append_24 (by decide +kernel) ?_
    refine lv_iadd hx hb dX0_append_25 ?_
    refine r_te (y := nI (n + 1)) (nI_add n 1) ?_
    refine r_put (ci := 0) (v := .int (nI (n + 1))) (C := RX0) (T := TX0) (N := 2) hx hb hts hinX0 tyX0 tyX0_ok nmX0 hown h0 hw 0 rfl rfl 1 (by decide) k15 rfl rfl rfl (Nat.le_of_ble_eq_true rfl) dX0_append_26 (fun H locs hw => ?_)
    have hw : WD g A s [(h, .inr (0, [.ref b, .int (nI (n + 1))])), (b, .inl (g.2.1 0, 127, .inl (upd f n v)))] [] H locs := hw
    exact hret hw () (trivial) (rfl) (by omega) (by omega) dX0_append_29

set_option maxHeartbeats 4000000 in
set_option maxRecDepth 100000 in
theorem c_X0_appendNumber (l : Launch) (g : GE) (h : Nat) (b : Nat) (n : Nat) (f : Nat → Int32) (v : Int64) (k : Nat) (hn : n + k ≤ 127) (hk : k ≤ 8) (hk0 : 1 ≤ k) (sz : Nat) : MV l yX0_appendNumber wsX0_appendNumber { frames := 1, cells := 0, slots := 0, locals := 21 } g [.ref h, .long (v), .int (nI k)] [(h, .inr (0, [.ref b, .int (nI n)])), (b, .inl (g.2.1 0, 127, .inl (f)))] sz (fun (_ : Unit) => True) (fun (_ : Unit) => [(h, .inr (0, [.ref b, .int (nI (n + k))])), (b, .inl (g.2.1 0, 127, .inl (apD f n v k k)))]) 0 0 := by
  refine enterV (by decide) rfl (Nat.le_of_ble_eq_true rfl) ?_
  intro p e s m below meth c A ls ar Q hE h0 hret hw hl
  obtain ⟨hx, hb, hr, hml, hown, hts, hlocks, hname⟩ := hE
  have hown : s.vm.findClass RX0 = some m.cls := hown
  have hw : WD g A s [(h, .inr (0, [.ref b, .int (nI n)])), (b, .inl (g.2.1 0, 127, .inl (f)))] [] s.heap [] := hw
  have hl : lv_has ls 5 [(0, .ref h), (1, .long (v)), (3, .int (nI k))] := hl
  refine lv_iload_n hx hb dX0_appendNumber_0 rfl (lv_at hl 2 rfl) ?_
  refine lv_iconst (v := nI 1) hx hb dX0_appendNumber_1 (by decide +kernel) ?_
  refine lv_isub hx hb dX0_appendNumber_2 ?_
  refine r_te (y := nI (k - 1)) (pk_sub (by omega)) ?_
  refine lv_istore (lv' := [(4, .int (nI (k - 1))), (0, .ref h), (1, .long (v)), (3, .int (nI k))]) hx hb dX0_appendNumber_3 hl (by decide) rfl (fun ls hl => ?_)
  have lp5 : ∀ (fu : Nat) (d : Nat), k - d < fu → (d ≤ k) → ∀ (H : Heap) (locs : List Loc) (ls : Array Slot), WD g A s [(h, .inr (0, [.ref b, .int (nI (n + d))])), (b, .inl (g.2.1 0, 127, .inl (apD f n v k d)))] [] H locs → lv_has ls 5 [(4, .int (nP (k - d))), (0, .ref h), (1, .long (v)), (3, .int (nI k))] → W p l e { frames := 1, cells := 0, slots := 0, locals := 21 } s m ar below meth c H locs 0 0 Q (F0 m 5 ls []) := by
    intro fu
    induction fu with
    | zero => intro d hmz; exact absurd hmz (Nat.not_lt_zero _)
    | succ fu ih =>
      intro d hms hd H locs ls hw hl
      refine lv_iload hx hb dX0_appendNumber_5 (lv_at hl 0 rfl) ?_
      refine lv_if_lt (tgt := 32) hx hb dX0_appendNumber_7 (by decide) (fun c1 => ?_) (fun c1 => ?_)
      · skip
        have hz : k - d = 0 := nP_neg (by omega) c1
        have hq : d = k := by omega
        subst d
        exact hret hw () (trivial) (rfl) (by omega) (by omega) dX0_appendNumber_32
      · skip
        have hz : 1 ≤ k - d := nP_nneg c1
        rw [nP_pos hz] at hl
        refine lv_aload_n hx hb dX0_appendNumber_10 rfl (lv_at hl 1 rfl) ?_
        refine lv_lload_n hx hb dX0_appendNumber_11 rfl (lv_at hl 2 rfl) ?_
        refine lv_bipush (v := nI 8) hx hb dX0_appendNumber_12 (by decide +kernel) ?_
        refine lv_iload hx hb dX0_appendNumber_14 (lv_at hl 0 rfl) ?_
        refine lv_imul hx hb dX0_appendNumber_16 ?_
        refine r_te (y := nI (8 * (k - d - 1))) (pk_mul 8 (k - d - 1)) ?_
        refine lv_lushr (v := jlushr v (nI (8 * (k - d - 1)))) hx hb dX0_appendNumber_17 rfl ?_
        refine lv_l2i (v := (jlushr v (nI (8 * (k - d - 1)))).toInt32) hx hb dX0_appendNumber_18 rfl ?_
        refine lv_sipush (v := nI 255) hx hb dX0_appendNumber_19 (by decide +kernel) ?_
        refine lv_iand hx hb dX0_appendNumber_22 ?_
        refine r_callv (wr := []) [0, 1] [] h0 hw rfl rfl (by decide) (by decide) (va_runV (As := [.int (((jlushr v (nI (8 * (k - d - 1)))).toInt32) &&& (nI 255))]) (rest := []) ⟨hx, hb, hml, hown, hts⟩ (c_X0_append l g h b (n + d) (apD f n v k d) (((jlushr v (nI (8 * (k - d - 1)))).toInt32) &&& (nI 255)) (by omega) _) (cwV 1 hts gX0_appendNumber_X0_append rfl rfl rfl (by decide +kernel) ⟨Nat.le_of_ble_eq_true rfl, Nat.le_of_ble_eq_true rfl⟩) (preV_of [0, 1] [.int (((jlushr v (nI (8 * (k - d - 1)))).toInt32) &&& (nI 255))] h0 hw rfl (by decide) 0 0 rfl rfl) rfl rfl hl.1 rfl (lv_room (Nat.le_of_ble_eq_true rfl)) dX0_appendNumber_23 ⟨Nat.le_of_ble_eq_true rfl, Nat.le_of_ble_eq_true rfl⟩) (fun u3 H locs hp4 hw => ?_)
        have hw : WD g A s [(h, .inr (0, [.ref b, .int (nI ((n + d) + 1))])), (b, .inl (g.2.1 0, 127, .inl (upd (apD f n v k d) (n + d) (((jlushr v (nI (8 * (k - d - 1)))).toInt32) &&& (nI 255)))))] [] H locs := hw
        refine lv_iinc (v := nP (k - d - 1)) (lv' := [(4, .int (nP (k - d - 1))), (0, .ref h), (1, .long (v)), (3, .int (nI k))]) hx hb dX0_appendNumber_26 hl (k := 0) rfl (rfl) (by decide) rfl (fun ls hl => ?_)
        refine lv_goto (tgt := 5) hx hb dX0_appendNumber_29 (by decide) ?_
        exact ih (d + 1) (by omega) (by omega) _ _ _ hw (lv_sub hl [0, 1, 2, 3] rfl)
  rw [← nP_pos hk0] at hl
  exact lp5 (k - 0 + 1) 0 (by omega) (by omega) _ _ _ hw (lv_sub hl [0, 1, 2, 3] rfl)

set_option maxHeartbeats 4000000 in
set_option maxRecDepth 100000 in
theorem c_X0_numberAt (l : Launch) (g : GE) (h : Nat) (b : Nat) (n : Nat) (f : Nat → Int32) (i : Nat) (k : Nat) (hn : n ≤ 127) (hi : i + k ≤ n) (sz : Nat) : ML l yX0_numberAt wsX0_numberAt { frames := 1, cells := 0, slots := 0, locals := 21 } g [.ref h, .int (nI i), .int (nI k)] [(h, .inr (0, [.ref b, .int (nI n)])), (b, .inl (g.2.1 0, 127, .inl (f)))] sz (fun (r : Int64) (_ : Unit) => r = nAt f i k) (fun (_ : Unit) => [(h, .inr (0, [.ref b, .int (nI n)])), (b, .inl (g.2.1 0, 127, .inl (f)))]) 0 0 := by
  refine enterL (by decide) rfl (Nat.le_of_ble_eq_true rfl) ?_
  intro p e s m below meth c A ls ar Q hE h0 hret hw hl
  obtain ⟨hx, hb, hr, hml, hown, hts, hlocks, hname⟩ := hE
  have hown : s.vm.findClass RX0 = some m.cls := hown
  have hw : WD g A s [(h, .inr (0, [.ref b, .int (nI n)])), (b, .inl (g.2.1 0, 127, .inl (f)))] [] s.heap [] := hw
  have hl : lv_has ls 6 [(0, .ref h), (1, .int (nI i)), (2, .int (nI k))] := hl
  refine lv_lconst (v := 0) hx hb dX0_numberAt_0 (by decide +kernel) ?_
  refine lv_lstore_n (lv' := [(3, .long (0)), (0, .ref h), (1, .int (nI i)), (2, .int (nI k))]) hx hb dX0_numberAt_1 rfl hl (by decide) rfl (fun ls hl => ?_)
  refine lv_iconst (v := nI 0) hx hb dX0_numberAt_2 (by decide +kernel) ?_
  refine lv_istore (lv' := [(5, .int (nI 0)), (3, .long (0)), (0, .ref h), (1, .int (nI i)), (2, .int (nI k))]) hx hb dX0_numberAt_3 hl (by decide) rfl (fun ls hl => ?_)
  have lp5 : ∀ (fu : Nat) (d : Nat), k - d < fu → (d ≤ k) → ∀ (H : Heap) (locs : List Loc) (ls : Array Slot), WD g A s [(h, .inr (0, [.ref b, .int (nI n)])), (b, .inl (g.2.1 0, 127, .inl (f)))] [] H locs → lv_has ls 6 [(5, .int (nI d)), (0, .ref h), (1, .int (nI i)), (2, .int (nI k)), (3, .long (nAt f i d))] → W p l e { frames := 1, cells := 0, slots := 0, locals := 21 } s m ar below meth c H locs 0 0 Q (F0 m 5 ls []) := by
    intro fu
    induction fu with
    | zero => intro d hmz; exact absurd hmz (Nat.not_lt_zero _)
    | succ fu ih =>
      intro d hms hd H locs ls hw hl
      refine lv_iload hx hb dX0_numberAt_5 (lv_at hl 0 rfl) ?_
      refine lv_iload_n hx hb dX0_numberAt_7 rfl (lv_at hl 3 rfl) ?_
      refine lv_icmp_ge (tgt := 36) hx hb dX0_numberAt_8 (by decide) (fun c1 => ?_) (fun c1 => ?_)
      · skip
        have c1 : k ≤ d := (nI_leI (by omega) (by omega)).mp c1
        have hq : d = k := by omega
        subst d
        refine lv_lload_n hx hb dX0_numberAt_36 rfl (lv_at hl 4 rfl) ?_
        exact hret hw () (rfl) (rfl) (by omega) (by omega) dX0_numberAt_37
      · skip
        have c1 : ¬ k ≤ d := fun q => c1 (((nI_leI (by omega) (by omega)).mpr q))
        refine lv_lload_n hx hb dX0_numberAt_11 rfl (lv_at hl 4 rfl) ?_
        refine lv_bipush (v := nI 8) hx hb dX0_numberAt_12 (by decide +kernel) ?_
        refine lv_lshl (v := jlshl (nAt f i d) (nI 8)) hx hb dX0_numberAt_14 rfl ?_
        refine lv_aload_n hx hb dX0_numberAt_15 rfl (lv_at hl 1 rfl) ?_
        refine lv_iload_n hx hb dX0_numberAt_16 rfl (lv_at hl 2 rfl) ?_
        refine lv_iload hx hb dX0_numberAt_17 (lv_at hl 0 rfl) ?_
        refine lv_iadd hx hb dX0_numberAt_19 ?_
        refine r_te (y := nI (i + d)) (nI_add i d) ?_
        refine r_calli (wr := []) [0, 1] [] h0 hw rfl rfl (by decide) (by decide) (va_runV (As := [.int (nI (i + d))]) (rest := [.long (jlshl (nAt f i d) (nI 8))]) ⟨hx, hb, hml, hown, hts⟩ (c_X0_at l g h b n f (i + d) (by omega) (by omega) _) (cwV 1 hts gX0_numberAt_X0_at rfl rfl rfl (by decide +kernel) ⟨Nat.le_of_ble_eq_true rfl, Nat.le_of_ble_eq_true rfl⟩) (preV_of [0, 1] [.int (nI (i + d))] h0 hw rfl (by decide) 0 0 rfl rfl) rfl rfl hl.1 rfl (lv_room (Nat.le_of_ble_eq_true rfl)) dX0_numberAt_20 ⟨Nat.le_of_ble_eq_true rfl, Nat.le_of_ble_eq_true rfl⟩) (fun r2 u3 H locs hp4 hw => ?_)
        have hw : WD g A s [(h, .inr (0, [.ref b, .int (nI n)])), (b, .inl (g.2.1 0, 127, .inl (f)))] [] H locs := hw
        subst hp4
        refine lv_sipush (v := nI 255) hx hb dX0_numberAt_23 (by decide +kernel) ?_
        refine lv_iand hx hb dX0_numberAt_26 ?_
        refine lv_i2l (v := ((f (i + d)) &&& (nI 255)).toInt64) hx hb dX0_numberAt_27 rfl ?_
        refine lv_lor hx hb dX0_numberAt_28 ?_
        refine lv_topl (fun z5 ez5 => ?_)
        refine lv_lstore_n (lv' := [(3, .long (z5)), (5, .int (nI d)), (0, .ref h), (1, .int (nI i)), (2, .int (nI k))]) hx hb dX0_numberAt_29 rfl hl (by decide) rfl (fun ls hl => ?_)
        refine lv_iinc (v := nI (d + 1)) (lv' := [(5, .int (nI (d + 1))), (3, .long (z5)), (0, .ref h), (1, .int (nI i)), (2, .int (nI k))]) hx hb dX0_numberAt_30 hl (k := 1) rfl (nI_add d 1) (by decide) rfl (fun ls hl => ?_)
        refine lv_goto (tgt := 5) hx hb dX0_numberAt_33 (by decide) ?_
        subst ez5
        exact ih (d + 1) (by omega) (by omega) _ _ _ hw (lv_sub hl [0, 2, 3, 4, 1] rfl)
  exact lp5 (k - 0 + 1) 0 (by omega) (by omega) _ _ _ hw (lv_sub hl [0, 2, 3, 4, 1] rfl)
