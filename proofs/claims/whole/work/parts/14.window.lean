set_option maxHeartbeats 4000000 in
set_option maxRecDepth 100000 in
theorem c_X5_fits (l : Launch) (g : GE) (d : Int64) (sz : Nat) : MI l yX5_fits wsX5_fits { frames := 0, cells := 0, slots := 0, locals := 0 } g [.long (d)] [] sz (fun (r : Int32) (_ : Unit) => r = bI (decide (fit64 d))) (fun (_ : Unit) => []) 0 0 := by
  refine enterZ (by decide) rfl (Nat.le_of_ble_eq_true rfl) ?_
  intro p e s m below meth c A ls ar Q hE h0 hret hw hl
  obtain ⟨hx, hb, hr, hml, hown, hts, hlocks, hname⟩ := hE
  have hown : s.vm.findClass RX5 = some m.cls := hown
  have hw : WD g A s [] [] s.heap [] := hw
  have k30 := hts (.constantLong RX5 30 (64)) (by decide +kernel)
  have hl : lv_has ls 2 [(0, .long (d))] := hl
  refine lv_lload_n hx hb dX5_fits_0 rfl (lv_at hl 0 rfl) ?_
  refine lv_lconst (v := 0) hx hb dX5_fits_1 (by decide +kernel) ?_
  refine W.lcmp hx hb dX5_fits_2 ?_
  refine lv_if_lt (tgt := 18) hx hb dX5_fits_3 (by decide) (fun c1 => ?_) (fun c1 => ?_)
  · skip
    have c1 : d < 0 := (lg_cmp_lt _ _).mp c1
    have c1n : ¬ 0 ≤ d := Int64.not_le.mpr c1
    refine lv_iconst (v := nI 0) hx hb dX5_fits_18 (by decide +kernel) ?_
    exact hret (rfl) hw () (by first | exact bI_T ⟨c1, c2⟩ | exact bI_F (fun q => c1n q.1) | exact bI_F (fun q => c2n q.2)) (rfl) (by omega) (by omega) dX5_fits_19
  · skip
    have c1n : ¬ d < 0 := fun q => c1 ((lg_cmp_lt _ _).mpr q)
    have c1 : 0 ≤ d := Int64.not_lt.mp c1n
    refine lv_lload_n hx hb dX5_fits_6 rfl (lv_at hl 0 rfl) ?_
    refine lv_ldc2 hx hb hown k30 dX5_fits_7 ?_
    refine W.lcmp hx hb dX5_fits_10 ?_
    refine lv_if_ge (tgt := 18) hx hb dX5_fits_11 (by decide) (fun c2 => ?_) (fun c2 => ?_)
    · skip
      have c2 : 64 ≤ d := (lg_cmp_ge _ _).mp c2
      have c2n : ¬ d < 64 := Int64.not_lt.mpr c2
      refine lv_iconst (v := nI 0) hx hb dX5_fits_18 (by decide +kernel) ?_
      exact hret (rfl) hw () (by first | exact bI_T ⟨c1, c2⟩ | exact bI_F (fun q => c1n q.1) | exact bI_F (fun q => c2n q.2)) (rfl) (by omega) (by omega) dX5_fits_19
    · skip
      have c2n : ¬ 64 ≤ d := fun q => c2 ((lg_cmp_ge _ _).mpr q)
      have c2 : d < 64 := Int64.not_le.mp c2n
      refine lv_iconst (v := nI 1) hx hb dX5_fits_14 (by decide +kernel) ?_
      refine lv_goto (tgt := 19) hx hb dX5_fits_15 (by decide) ?_
      exact hret (rfl) hw () (by first | exact bI_T ⟨c1, c2⟩ | exact bI_F (fun q => c1n q.1) | exact bI_F (fun q => c2n q.2)) (rfl) (by omega) (by omega) dX5_fits_19

set_option maxHeartbeats 4000000 in
set_option maxRecDepth 100000 in
theorem c_X5_isAbove (l : Launch) (g : GE) (a : Int64) (b : Int64) (sz : Nat) : MI l yX5_isAbove wsX5_isAbove { frames := 0, cells := 0, slots := 0, locals := 0 } g [.long (a), .long (b)] [] sz (fun (r : Int32) (_ : Unit) => r = bI (decide (lowU b a))) (fun (_ : Unit) => []) 0 0 := by
  refine enterZ (by decide) rfl (Nat.le_of_ble_eq_true rfl) ?_
  intro p e s m below meth c A ls ar Q hE h0 hret hw hl
  obtain ⟨hx, hb, hr, hml, hown, hts, hlocks, hname⟩ := hE
  have hown : s.vm.findClass RX5 = some m.cls := hown
  have hw : WD g A s [] [] s.heap [] := hw
  have k32 := hts (.constantLong RX5 32 (-9223372036854775808)) (by decide +kernel)
  have hl : lv_has ls 4 [(0, .long (a)), (2, .long (b))] := hl
  refine lv_lload_n hx hb dX5_isAbove_0 rfl (lv_at hl 0 rfl) ?_
  refine lv_ldc2 hx hb hown k32 dX5_isAbove_1 ?_
  refine lv_lxor hx hb dX5_isAbove_4 ?_
  refine lv_lload_n hx hb dX5_isAbove_5 rfl (lv_at hl 1 rfl) ?_
  refine lv_ldc2 hx hb hown k32 dX5_isAbove_6 ?_
  refine lv_lxor hx hb dX5_isAbove_9 ?_
  refine W.lcmp hx hb dX5_isAbove_10 ?_
  refine lv_if_le (tgt := 18) hx hb dX5_isAbove_11 (by decide) (fun c1 => ?_) (fun c1 => ?_)
  · skip
    have c1 : (a ^^^ (-9223372036854775808)) ≤ (b ^^^ (-9223372036854775808)) := (lg_cmp_le _ _).mp c1
    have c1n : ¬ (b ^^^ (-9223372036854775808)) < (a ^^^ (-9223372036854775808)) := Int64.not_lt.mpr c1
    refine lv_iconst (v := nI 0) hx hb dX5_isAbove_18 (by decide +kernel) ?_
    exact hret (rfl) hw () (by first | exact bI_T c1 | exact bI_F c1n) (rfl) (by omega) (by omega) dX5_isAbove_19
  · skip
    have c1n : ¬ (a ^^^ (-9223372036854775808)) ≤ (b ^^^ (-9223372036854775808)) := fun q => c1 ((lg_cmp_le _ _).mpr q)
    have c1 : (b ^^^ (-9223372036854775808)) < (a ^^^ (-9223372036854775808)) := Int64.not_le.mp c1n
    refine lv_iconst (v := nI 1) hx hb dX5_isAbove_14 (by decide +kernel) ?_
    refine lv_goto (tgt := 19) hx hb dX5_isAbove_15 (by decide) ?_
    exact hret (rfl) hw () (by first | exact bI_T c1 | exact bI_F c1n) (rfl) (by omega) (by omega) dX5_isAbove_19

set_option maxHeartbeats 4000000 in
set_option maxRecDepth 100000 in
theorem c_X5_forget (l : Launch) (g : GE) (h : Nat) (gt : Int64) (sn : Int64) (sz : Nat) : MV l yX5_forget wsX5_forget { frames := 0, cells := 0, slots := 0, locals := 0 } g [.ref h] [(h, .inr (5, [.long (gt), .long (sn)]))] sz (fun (_ : Unit) => True) (fun (_ : Unit) => [(h, .inr (5, [.long (0), .long (0)]))]) 0 0 := by
  refine enterV (by decide) rfl (Nat.le_of_ble_eq_true rfl) ?_
  intro p e s m below meth c A ls ar Q hE h0 hret hw hl
  obtain ⟨hx, hb, hr, hml, hown, hts, hlocks, hname⟩ := hE
  have hown : s.vm.findClass RX5 = some m.cls := hown
  have hw : WD g A s [(h, .inr (5, [.long (gt), .long (sn)]))] [] s.heap [] := hw
  have hinX5 : ∀ w ∈ u_ws RX5 TX5 2, w ∈ wsX5_forget := by decide +kernel
  have k7 := hts (.fieldLink RX5 7 "RecordWire$Window" "greatest" "J") (by decide +kernel)
  have k13 := hts (.fieldLink RX5 13 "RecordWire$Window" "seen" "J") (by decide +kernel)
  have hl : lv_has ls 1 [(0, .ref h)] := hl
  refine lv_aload_n hx hb dX5_forget_0 rfl (lv_at hl 0 rfl) ?_
  refine lv_lconst (v := 0) hx hb dX5_forget_1 (by decide +kernel) ?_
  refine r_put (ci := 5) (v := .long (0)) (C := RX5) (T := TX5) (N := 2) hx hb hts hinX5 tyX5 tyX5_ok nmX5 hown h0 hw 0 rfl rfl 0 (by decide) k7 rfl rfl rfl (Nat.le_of_ble_eq_true rfl) dX5_forget_2 (fun H locs hw => ?_)
  have hw : WD g A s [(h, .inr (5, [.long (0), .long (sn)]))] [] H locs := hw
  refine lv_aload_n hx hb dX5_forget_5 rfl (lv_at hl 0 rfl) ?_
  refine lv_lconst (v := 0) hx hb dX5_forget_6 (by decide +kernel) ?_
  refine r_put (ci := 5) (v := .long (0)) (C := RX5) (T := TX5) (N := 2) hx hb hts hinX5 tyX5 tyX5_ok nmX5 hown h0 hw 0 rfl rfl 1 (by decide) k13 rfl rfl rfl (Nat.le_of_ble_eq_true rfl) dX5_forget_7 (fun H locs hw => ?_)
  have hw : WD g A s [(h, .inr (5, [.long (0), .long (0)]))] [] H locs := hw
  exact hret hw () (trivial) (rfl) (by omega) (by omega) dX5_forget_10

set_option maxHeartbeats 4000000 in
set_option maxRecDepth 100000 in
theorem c_X5_isTooOld (l : Launch) (g : GE) (h : Nat) (gt : Int64) (sn : Int64) (n : Int64) (sz : Nat) : MI l yX5_isTooOld wsX5_isTooOld { frames := 1, cells := 0, slots := 0, locals := 23 } g [.ref h, .long (n)] [(h, .inr (5, [.long (gt), .long (sn)]))] sz (fun (r : Int32) (_ : Unit) => r = bI (decide (¬ sn = 0 ∧ ¬ lowU gt n ∧ ¬ fit64 (gt - n)))) (fun (_ : Unit) => [(h, .inr (5, [.long (gt), .long (sn)]))]) 0 0 := by
  refine enterZ (by decide) rfl (Nat.le_of_ble_eq_true rfl) ?_
  intro p e s m below meth c A ls ar Q hE h0 hret hw hl
  obtain ⟨hx, hb, hr, hml, hown, hts, hlocks, hname⟩ := hE
  have hown : s.vm.findClass RX5 = some m.cls := hown
  have hw : WD g A s [(h, .inr (5, [.long (gt), .long (sn)]))] [] s.heap [] := hw
  have hinX5 : ∀ w ∈ u_ws RX5 TX5 2, w ∈ wsX5_isTooOld := by decide +kernel
  have k7 := hts (.fieldLink RX5 7 "RecordWire$Window" "greatest" "J") (by decide +kernel)
  have k13 := hts (.fieldLink RX5 13 "RecordWire$Window" "seen" "J") (by decide +kernel)
  have hl : lv_has ls 3 [(0, .ref h), (1, .long (n))] := hl
  refine lv_aload_n hx hb dX5_isTooOld_0 rfl (lv_at hl 0 rfl) ?_
  refine r_get (ci := 5) (v := .long (sn)) (C := RX5) (T := TX5) (N := 2) hx hb hts hinX5 hown h0 hw 0 rfl rfl 1 (by decide) k13 rfl dX5_isTooOld_1 ?_
  refine lv_lconst (v := 0) hx hb dX5_isTooOld_4 (by decide +kernel) ?_
  refine W.lcmp hx hb dX5_isTooOld_5 ?_
  refine lv_if_eq (tgt := 36) hx hb dX5_isTooOld_6 (by decide) (fun c1 => ?_) (fun c1 => ?_)
  · skip
    have c1 : sn = 0 := (lg_cmp_eq _ _).mp c1
    refine lv_iconst (v := nI 0) hx hb dX5_isTooOld_36 (by decide +kernel) ?_
    exact hret (rfl) hw () (by first | exact bI_T (by grind) | exact bI_F (by grind)) (rfl) (by omega) (by omega) dX5_isTooOld_37
  · skip
    have c1 : ¬ sn = 0 := fun q => c1 ((lg_cmp_eq _ _).mpr q)
    refine lv_lload_n hx hb dX5_isTooOld_9 rfl (lv_at hl 1 rfl) ?_
    refine lv_aload_n hx hb dX5_isTooOld_10 rfl (lv_at hl 0 rfl) ?_
    refine r_get (ci := 5) (v := .long (gt)) (C := RX5) (T := TX5) (N := 2) hx hb hts hinX5 hown h0 hw 0 rfl rfl 0 (by decide) k7 rfl dX5_isTooOld_11 ?_
    refine r_calli (wr := [(h, .inr (5, [.long (gt), .long (sn)]))]) [] [0] h0 hw rfl rfl (by decide) (by decide) (va_runS (As := [.long (n), .long (gt)]) (rest := []) ⟨hx, hb, hml, hown, hts⟩ (c_X5_isAbove l g n gt  _) (va_cwS 2 hts gX5_isTooOld_X5_isAbove rfl rfl rfl (by decide +kernel) ⟨Nat.le_of_ble_eq_true rfl, Nat.le_of_ble_eq_true rfl⟩) (preS_of [] [.long (n), .long (gt)] h0 hw rfl (by decide)) rfl rfl hl.1 rfl (lv_room (Nat.le_of_ble_eq_true rfl)) dX5_isTooOld_14 ⟨Nat.le_of_ble_eq_true rfl, Nat.le_of_ble_eq_true rfl⟩) (fun r2 u3 H locs hp4 hw => ?_)
    have hw : WD g A s [(h, .inr (5, [.long (gt), .long (sn)]))] [] H locs := hw
    subst hp4
    refine lv_if_ne (tgt := 36) hx hb dX5_isTooOld_17 (by decide) (fun c5 => ?_) (fun c5 => ?_)
    · skip
      have c5 : lowU gt n := bI_t c5
      refine lv_iconst (v := nI 0) hx hb dX5_isTooOld_36 (by decide +kernel) ?_
      exact hret (rfl) hw () (by first | exact bI_T (by grind) | exact bI_F (by grind)) (rfl) (by omega) (by omega) dX5_isTooOld_37
    · skip
      have c5 : ¬ (lowU gt n) := bI_f c5
      refine lv_aload_n hx hb dX5_isTooOld_20 rfl (lv_at hl 0 rfl) ?_
      refine r_get (ci := 5) (v := .long (gt)) (C := RX5) (T := TX5) (N := 2) hx hb hts hinX5 hown h0 hw 0 rfl rfl 0 (by decide) k7 rfl dX5_isTooOld_21 ?_
      refine lv_lload_n hx hb dX5_isTooOld_24 rfl (lv_at hl 1 rfl) ?_
      refine lv_lsub hx hb dX5_isTooOld_25 ?_
      refine r_calli (wr := [(h, .inr (5, [.long (gt), .long (sn)]))]) [] [0] h0 hw rfl rfl (by decide) (by decide) (va_runS (As := [.long (gt - n)]) (rest := []) ⟨hx, hb, hml, hown, hts⟩ (c_X5_fits l g (gt - n)  _) (va_cwS 1 hts gX5_isTooOld_X5_fits rfl rfl rfl (by decide +kernel) ⟨Nat.le_of_ble_eq_true rfl, Nat.le_of_ble_eq_true rfl⟩) (preS_of [] [.long (gt - n)] h0 hw rfl (by decide)) rfl rfl hl.1 rfl (lv_room (Nat.le_of_ble_eq_true rfl)) dX5_isTooOld_26 ⟨Nat.le_of_ble_eq_true rfl, Nat.le_of_ble_eq_true rfl⟩) (fun r6 u7 H locs hp8 hw => ?_)
      have hw : WD g A s [(h, .inr (5, [.long (gt), .long (sn)]))] [] H locs := hw
      subst hp8
      refine lv_if_ne (tgt := 36) hx hb dX5_isTooOld_29 (by decide) (fun c9 => ?_) (fun c9 => ?_)
      · skip
        have c9 : fit64 (gt - n) := bI_t c9
        refine lv_iconst (v := nI 0) hx hb dX5_isTooOld_36 (by decide +kernel) ?_
        exact hret (rfl) hw () (by first | exact bI_T (by grind) | exact bI_F (by grind)) (rfl) (by omega) (by omega) dX5_isTooOld_37
      · skip
        have c9 : ¬ (fit64 (gt - n)) := bI_f c9
        refine lv_iconst (v := nI 1) hx hb dX5_isTooOld_32 (by decide +kernel) ?_
        refine lv_goto (tgt := 37) hx hb dX5_isTooOld_33 (by decide) ?_
        exact hret (rfl) hw () (by first | exact bI_T (by grind) | exact bI_F (by grind)) (rfl) (by omega) (by omega) dX5_isTooOld_37

set_option maxHeartbeats 4000000 in
set_option maxRecDepth 100000 in
theorem c_X5_wasSeen (l : Launch) (g : GE) (h : Nat) (gt : Int64) (sn : Int64) (n : Int64) (sz : Nat) : MI l yX5_wasSeen wsX5_wasSeen { frames := 1, cells := 0, slots := 0, locals := 23 } g [.ref h, .long (n)] [(h, .inr (5, [.long (gt), .long (sn)]))] sz (fun (r : Int32) (_ : Unit) => r = bI (decide (¬ lowU gt n ∧ fit64 (gt - n) ∧ jlushr sn (gt - n).toInt32 &&& 1 = 1))) (fun (_ : Unit) => [(h, .inr (5, [.long (gt), .long (sn)]))]) 0 0 := by
  refine enterZ (by decide) rfl (Nat.le_of_ble_eq_true rfl) ?_
  intro p e s m below meth c A ls ar Q hE h0 hret hw hl
  obtain ⟨hx, hb, hr, hml, hown, hts, hlocks, hname⟩ := hE
  have hown : s.vm.findClass RX5 = some m.cls := hown
  have hw : WD g A s [(h, .inr (5, [.long (gt), .long (sn)]))] [] s.heap [] := hw
  have hinX5 : ∀ w ∈ u_ws RX5 TX5 2, w ∈ wsX5_wasSeen := by decide +kernel
  have k7 := hts (.fieldLink RX5 7 "RecordWire$Window" "greatest" "J") (by decide +kernel)
  have k13 := hts (.fieldLink RX5 13 "RecordWire$Window" "seen" "J") (by decide +kernel)
  have hl : lv_has ls 5 [(0, .ref h), (1, .long (n))] := hl
  refine lv_aload_n hx hb dX5_wasSeen_0 rfl (lv_at hl 0 rfl) ?_
  refine r_get (ci := 5) (v := .long (gt)) (C := RX5) (T := TX5) (N := 2) hx hb hts hinX5 hown h0 hw 0 rfl rfl 0 (by decide) k7 rfl dX5_wasSeen_1 ?_
  refine lv_lload_n hx hb dX5_wasSeen_4 rfl (lv_at hl 1 rfl) ?_
  refine lv_lsub hx hb dX5_wasSeen_5 ?_
  refine lv_lstore_n (lv' := [(3, .long (gt - n)), (0, .ref h), (1, .long (n))]) hx hb dX5_wasSeen_6 rfl hl (by decide) rfl (fun ls hl => ?_)
  refine lv_lload_n hx hb dX5_wasSeen_7 rfl (lv_at hl 2 rfl) ?_
  refine lv_aload_n hx hb dX5_wasSeen_8 rfl (lv_at hl 1 rfl) ?_
  refine r_get (ci := 5) (v := .long (gt)) (C := RX5) (T := TX5) (N := 2) hx hb hts hinX5 hown h0 hw 0 rfl rfl 0 (by decide) k7 rfl dX5_wasSeen_9 ?_
  refine r_calli (wr := [(h, .inr (5, [.long (gt), .long (sn)]))]) [] [0] h0 hw rfl rfl (by decide) (by decide) (va_runS (As := [.long (n), .long (gt)]) (rest := []) ⟨hx, hb, hml, hown, hts⟩ (c_X5_isAbove l g n gt  _) (va_cwS 2 hts gX5_wasSeen_X5_isAbove rfl rfl rfl (by decide +kernel) ⟨Nat.le_of_ble_eq_true rfl, Nat.le_of_ble_eq_true rfl⟩) (preS_of [] [.long (n), .long (gt)] h0 hw rfl (by decide)) rfl rfl hl.1 rfl (lv_room (Nat.le_of_ble_eq_true rfl)) dX5_wasSeen_12 ⟨Nat.le_of_ble_eq_true rfl, Nat.le_of_ble_eq_true rfl⟩) (fun r1 u2 H locs hp3 hw => ?_)
  have hw : WD g A s [(h, .inr (5, [.long (gt), .long (sn)]))] [] H locs := hw
  subst hp3
  refine lv_if_ne (tgt := 43) hx hb dX5_wasSeen_15 (by decide) (fun c4 => ?_) (fun c4 => ?_)
  · skip
    have c4 : lowU gt n := bI_t c4
    refine lv_iconst (v := nI 0) hx hb dX5_wasSeen_43 (by decide +kernel) ?_
    exact hret (rfl) hw () (by first | exact bI_T (by grind) | exact bI_F (by grind)) (rfl) (by omega) (by omega) dX5_wasSeen_44
  · skip
    have c4 : ¬ (lowU gt n) := bI_f c4
    refine lv_lload_n hx hb dX5_wasSeen_18 rfl (lv_at hl 0 rfl) ?_
    refine r_calli (wr := [(h, .inr (5, [.long (gt), .long (sn)]))]) [] [0] h0 hw rfl rfl (by decide) (by decide) (va_runS (As := [.long (gt - n)]) (rest := []) ⟨hx, hb, hml, hown, hts⟩ (c_X5_fits l g (gt - n)  _) (va_cwS 1 hts gX5_wasSeen_X5_fits rfl rfl rfl (by decide +kernel) ⟨Nat.le_of_ble_eq_true rfl, Nat.le_of_ble_eq_true rfl⟩) (preS_of [] [.long (gt - n)] h0 hw rfl (by decide)) rfl rfl hl.1 rfl (lv_room (Nat.le_of_ble_eq_true rfl)) dX5_wasSeen_19 ⟨Nat.le_of_ble_eq_true rfl, Nat.le_of_ble_eq_true rfl⟩) (fun r5 u6 H locs hp7 hw => ?_)
    have hw : WD g A s [(h, .inr (5, [.long (gt), .long (sn)]))] [] H locs := hw
    subst hp7
    refine lv_if_eq (tgt := 43) hx hb dX5_wasSeen_22 (by decide) (fun c8 => ?_) (fun c8 => ?_)
    · skip
      have c8 : ¬ (fit64 (gt - n)) := bI_f c8
      refine lv_iconst (v := nI 0) hx hb dX5_wasSeen_43 (by decide +kernel) ?_
      exact hret (rfl) hw () (by first | exact bI_T (by grind) | exact bI_F (by grind)) (rfl) (by omega) (by omega) dX5_wasSeen_44
    · skip
      have c8 : fit64 (gt - n) := bI_t c8
      refine lv_aload_n hx hb dX5_wasSeen_25 rfl (lv_at hl 1 rfl) ?_
      refine r_get (ci := 5) (v := .long (sn)) (C := RX5) (T := TX5) (N := 2) hx hb hts hinX5 hown h0 hw 0 rfl rfl 1 (by decide) k13 rfl dX5_wasSeen_26 ?_
      refine lv_lload_n hx hb dX5_wasSeen_29 rfl (lv_at hl 0 rfl) ?_
      refine lv_l2i (v := (gt - n).toInt32) hx hb dX5_wasSeen_30 rfl ?_
      refine lv_lushr (v := jlushr sn ((gt - n).toInt32)) hx hb dX5_wasSeen_31 rfl ?_
      refine lv_lconst (v := 1) hx hb dX5_wasSeen_32 (by decide +kernel) ?_
      refine lv_land hx hb dX5_wasSeen_33 ?_
      refine lv_lconst (v := 1) hx hb dX5_wasSeen_34 (by decide +kernel) ?_
      refine W.lcmp hx hb dX5_wasSeen_35 ?_
      refine lv_if_ne (tgt := 43) hx hb dX5_wasSeen_36 (by decide) (fun c9 => ?_) (fun c9 => ?_)
      · skip
        have c9 : ¬ ((jlushr sn ((gt - n).toInt32)) &&& 1) = 1 := fun q => c9 ((lg_cmp_eq _ _).mpr q)
        refine lv_iconst (v := nI 0) hx hb dX5_wasSeen_43 (by decide +kernel) ?_
        exact hret (rfl) hw () (by first | exact bI_T (by grind) | exact bI_F (by grind)) (rfl) (by omega) (by omega) dX5_wasSeen_44
      · skip
        have c9 : ((jlushr sn ((gt - n).toInt32)) &&& 1) = 1 := (lg_cmp_eq _ _).mp c9
        refine lv_iconst (v := nI 1) hx hb dX5_wasSeen_39 (by decide +kernel) ?_
        refine lv_goto (tgt := 44) hx hb dX5_wasSeen_40 (by decide) ?_
        exact hret (rfl) hw () (by first | exact bI_T (by grind) | exact bI_F (by grind)) (rfl) (by omega) (by omega) dX5_wasSeen_44

set_option maxHeartbeats 4000000 in
set_option maxRecDepth 100000 in
theorem c_X5_mark (l : Launch) (g : GE) (h : Nat) (gt : Int64) (sn : Int64) (n : Int64) (sz : Nat) : MV l yX5_mark wsX5_mark { frames := 1, cells := 0, slots := 0, locals := 23 } g [.ref h, .long (n)] [(h, .inr (5, [.long (gt), .long (sn)]))] sz (fun (_ : Unit) => True) (fun (_ : Unit) => [(h, .inr (5, [.long ((wMark gt sn n).1), .long ((wMark gt sn n).2)]))]) 0 0 := by
  refine enterV (by decide) rfl (Nat.le_of_ble_eq_true rfl) ?_
  intro p e s m below meth c A ls ar Q hE h0 hret hw hl
  obtain ⟨hx, hb, hr, hml, hown, hts, hlocks, hname⟩ := hE
  have hown : s.vm.findClass RX5 = some m.cls := hown
  have hw : WD g A s [(h, .inr (5, [.long (gt), .long (sn)]))] [] s.heap [] := hw
  have hinX5 : ∀ w ∈ u_ws RX5 TX5 2, w ∈ wsX5_mark := by decide +kernel
  have k7 := hts (.fieldLink RX5 7 "RecordWire$Window" "greatest" "J") (by decide +kernel)
  have k13 := hts (.fieldLink RX5 13 "RecordWire$Window" "seen" "J") (by decide +kernel)
  have hl : lv_has ls 5 [(0, .ref h), (1, .long (n))] := hl
  refine lv_aload_n hx hb dX5_mark_0 rfl (lv_at hl 0 rfl) ?_
  refine r_get (ci := 5) (v := .long (sn)) (C := RX5) (T := TX5) (N := 2) hx hb hts hinX5 hown h0 hw 0 rfl rfl 1 (by decide) k13 rfl dX5_mark_1 ?_
  refine lv_lconst (v := 0) hx hb dX5_mark_4 (by decide +kernel) ?_
  refine W.lcmp hx hb dX5_mark_5 ?_
  refine lv_if_ne (tgt := 22) hx hb dX5_mark_6 (by decide) (fun c1 => ?_) (fun c1 => ?_)
  · skip
    have c1 : ¬ sn = 0 := fun q => c1 ((lg_cmp_eq _ _).mpr q)
    refine lv_lload_n hx hb dX5_mark_22 rfl (lv_at hl 1 rfl) ?_
    refine lv_aload_n hx hb dX5_mark_23 rfl (lv_at hl 0 rfl) ?_
    refine r_get (ci := 5) (v := .long (gt)) (C := RX5) (T := TX5) (N := 2) hx hb hts hinX5 hown h0 hw 0 rfl rfl 0 (by decide) k7 rfl dX5_mark_24 ?_
    refine r_calli (wr := [(h, .inr (5, [.long (gt), .long (sn)]))]) [] [0] h0 hw rfl rfl (by decide) (by decide) (va_runS (As := [.long (n), .long (gt)]) (rest := []) ⟨hx, hb, hml, hown, hts⟩ (c_X5_isAbove l g n gt  _) (va_cwS 2 hts gX5_mark_X5_isAbove rfl rfl rfl (by decide +kernel) ⟨Nat.le_of_ble_eq_true rfl, Nat.le_of_ble_eq_true rfl⟩) (preS_of [] [.long (n), .long (gt)] h0 hw rfl (by decide)) rfl rfl hl.1 rfl (lv_room (Nat.le_of_ble_eq_true rfl)) dX5_mark_27 ⟨Nat.le_of_ble_eq_true rfl, Nat.le_of_ble_eq_true rfl⟩) (fun r2 u3 H locs hp4 hw => ?_)
    have hw : WD g A s [(h, .inr (5, [.long (gt), .long (sn)]))] [] H locs := hw
    subst hp4
    refine lv_if_eq (tgt := 72) hx hb dX5_mark_30 (by decide) (fun c5 => ?_) (fun c5 => ?_)
    · skip
      have c5 : ¬ (lowU gt n) := bI_f c5
      refine lv_aload_n hx hb dX5_mark_72 rfl (lv_at hl 0 rfl) ?_
      refine r_get (ci := 5) (v := .long (gt)) (C := RX5) (T := TX5) (N := 2) hx hb hts hinX5 hown h0 hw 0 rfl rfl 0 (by decide) k7 rfl dX5_mark_73 ?_
      refine lv_lload_n hx hb dX5_mark_76 rfl (lv_at hl 1 rfl) ?_
      refine lv_lsub hx hb dX5_mark_77 ?_
      refine r_calli (wr := [(h, .inr (5, [.long (gt), .long (sn)]))]) [] [0] h0 hw rfl rfl (by decide) (by decide) (va_runS (As := [.long (gt - n)]) (rest := []) ⟨hx, hb, hml, hown, hts⟩ (c_X5_fits l g (gt - n)  _) (va_cwS 1 hts gX5_mark_X5_fits rfl rfl rfl (by decide +kernel) ⟨Nat.le_of_ble_eq_true rfl, Nat.le_of_ble_eq_true rfl⟩) (preS_of [] [.long (gt - n)] h0 hw rfl (by decide)) rfl rfl hl.1 rfl (lv_room (Nat.le_of_ble_eq_true rfl)) dX5_mark_78 ⟨Nat.le_of_ble_eq_true rfl, Nat.le_of_ble_eq_true rfl⟩) (fun r6 u7 H locs hp8 hw => ?_)
      have hw : WD g A s [(h, .inr (5, [.long (gt), .long (sn)]))] [] H locs := hw
      subst hp8
      refine lv_if_eq (tgt := 102) hx hb dX5_mark_81 (by decide) (fun c9 => ?_) (fun c9 => ?_)
      · skip
        have c9 : ¬ (fit64 (gt - n)) := bI_f c9
        exact hret hw () (trivial) (by unfold wMark; (repeat' split) <;> first | rfl | contradiction) (by omega) (by omega) dX5_mark_102
      · skip
        have c9 : fit64 (gt - n) := bI_t c9
        refine lv_aload_n hx hb dX5_mark_84 rfl (lv_at hl 0 rfl) ?_
        refine lv_dup hx hb dX5_mark_85 rfl ?_
        refine r_get (ci := 5) (v := .long (sn)) (C := RX5) (T := TX5) (N := 2) hx hb hts hinX5 hown h0 hw 0 rfl rfl 1 (by decide) k13 rfl dX5_mark_86 ?_
        refine lv_lconst (v := 1) hx hb dX5_mark_89 (by decide +kernel) ?_
        refine lv_aload_n hx hb dX5_mark_90 rfl (lv_at hl 0 rfl) ?_
        refine r_get (ci := 5) (v := .long (gt)) (C := RX5) (T := TX5) (N := 2) hx hb hts hinX5 hown h0 hw 0 rfl rfl 0 (by decide) k7 rfl dX5_mark_91 ?_
        refine lv_lload_n hx hb dX5_mark_94 rfl (lv_at hl 1 rfl) ?_
        refine lv_lsub hx hb dX5_mark_95 ?_
        refine lv_l2i (v := (gt - n).toInt32) hx hb dX5_mark_96 rfl ?_
        refine lv_lshl (v := jlshl 1 ((gt - n).toInt32)) hx hb dX5_mark_97 rfl ?_
        refine lv_lor hx hb dX5_mark_98 ?_
        refine r_put (ci := 5) (v := .long (sn ||| (jlshl 1 ((gt - n).toInt32)))) (C := RX5) (T := TX5) (N := 2) hx hb hts hinX5 tyX5 tyX5_ok nmX5 hown h0 hw 0 rfl rfl 1 (by decide) k13 rfl rfl rfl (Nat.le_of_ble_eq_true rfl) dX5_mark_99 (fun H locs hw => ?_)
        have hw : WD g A s [(h, .inr (5, [.long (gt), .long (sn ||| (jlshl 1 ((gt - n).toInt32)))]))] [] H locs := hw
        exact hret hw () (trivial) (by unfold wMark; (repeat' split) <;> first | rfl | contradiction) (by omega) (by omega) dX5_mark_102
    · skip
      have c5 : lowU gt n := bI_t c5
      refine lv_lload_n hx hb dX5_mark_33 rfl (lv_at hl 1 rfl) ?_
      refine lv_aload_n hx hb dX5_mark_34 rfl (lv_at hl 0 rfl) ?_
      refine r_get (ci := 5) (v := .long (gt)) (C := RX5) (T := TX5) (N := 2) hx hb hts hinX5 hown h0 hw 0 rfl rfl 0 (by decide) k7 rfl dX5_mark_35 ?_
      refine lv_lsub hx hb dX5_mark_38 ?_
      refine lv_lstore_n (lv' := [(3, .long (n - gt)), (0, .ref h), (1, .long (n))]) hx hb dX5_mark_39 rfl hl (by decide) rfl (fun ls hl => ?_)
      refine lv_aload_n hx hb dX5_mark_40 rfl (lv_at hl 1 rfl) ?_
      refine lv_lload_n hx hb dX5_mark_41 rfl (lv_at hl 0 rfl) ?_
      refine r_calli (wr := [(h, .inr (5, [.long (gt), .long (sn)]))]) [] [0] h0 hw rfl rfl (by decide) (by decide) (va_runS (As := [.long (n - gt)]) (rest := [.ref h]) ⟨hx, hb, hml, hown, hts⟩ (c_X5_fits l g (n - gt)  _) (va_cwS 1 hts gX5_mark_X5_fits rfl rfl rfl (by decide +kernel) ⟨Nat.le_of_ble_eq_true rfl, Nat.le_of_ble_eq_true rfl⟩) (preS_of [] [.long (n - gt)] h0 hw rfl (by decide)) rfl rfl hl.1 rfl (lv_room (Nat.le_of_ble_eq_true rfl)) dX5_mark_42 ⟨Nat.le_of_ble_eq_true rfl, Nat.le_of_ble_eq_true rfl⟩) (fun r10 u11 H locs hp12 hw => ?_)
      have hw : WD g A s [(h, .inr (5, [.long (gt), .long (sn)]))] [] H locs := hw
      subst hp12
      refine lv_if_eq (tgt := 60) hx hb dX5_mark_45 (by decide) (fun c13 => ?_) (fun c13 => ?_)
      · skip
        have c13 : ¬ (fit64 (n - gt)) := bI_f c13
        refine lv_lconst (v := 1) hx hb dX5_mark_60 (by decide +kernel) ?_
        refine r_put (ci := 5) (v := .long (1)) (C := RX5) (T := TX5) (N := 2) hx hb hts hinX5 tyX5 tyX5_ok nmX5 hown h0 hw 0 rfl rfl 1 (by decide) k13 rfl rfl rfl (Nat.le_of_ble_eq_true rfl) dX5_mark_61 (fun H locs hw => ?_)
        have hw : WD g A s [(h, .inr (5, [.long (gt), .long (1)]))] [] H locs := hw
        refine lv_aload_n hx hb dX5_mark_64 rfl (lv_at hl 1 rfl) ?_
        refine lv_lload_n hx hb dX5_mark_65 rfl (lv_at hl 2 rfl) ?_
        refine r_put (ci := 5) (v := .long (n)) (C := RX5) (T := TX5) (N := 2) hx hb hts hinX5 tyX5 tyX5_ok nmX5 hown h0 hw 0 rfl rfl 0 (by decide) k7 rfl rfl rfl (Nat.le_of_ble_eq_true rfl) dX5_mark_66 (fun H locs hw => ?_)
        have hw : WD g A s [(h, .inr (5, [.long (n), .long (1)]))] [] H locs := hw
        refine lv_goto (tgt := 102) hx hb dX5_mark_69 (by decide) ?_
        exact hret hw () (trivial) (by unfold wMark; (repeat' split) <;> first | rfl | contradiction) (by omega) (by omega) dX5_mark_102
      · skip
        have c13 : fit64 (n - gt) := bI_t c13
        refine lv_aload_n hx hb dX5_mark_48 rfl (lv_at hl 1 rfl) ?_
        refine r_get (ci := 5) (v := .long (sn)) (C := RX5) (T := TX5) (N := 2) hx hb hts hinX5 hown h0 hw 0 rfl rfl 1 (by decide) k13 rfl dX5_mark_49 ?_
        refine lv_lload_n hx hb dX5_mark_52 rfl (lv_at hl 0 rfl) ?_
        refine lv_l2i (v := (n - gt).toInt32) hx hb dX5_mark_53 rfl ?_
        refine lv_lshl (v := jlshl sn ((n - gt).toInt32)) hx hb dX5_mark_54 rfl ?_
        refine lv_lconst (v := 1) hx hb dX5_mark_55 (by decide +kernel) ?_
        refine lv_lor hx hb dX5_mark_56 ?_
        refine lv_goto (tgt := 61) hx hb dX5_mark_57 (by decide) ?_
        refine r_put (ci := 5) (v := .long ((jlshl sn ((n - gt).toInt32)) ||| 1)) (C := RX5) (T := TX5) (N := 2) hx hb hts hinX5 tyX5 tyX5_ok nmX5 hown h0 hw 0 rfl rfl 1 (by decide) k13 rfl rfl rfl (Nat.le_of_ble_eq_true rfl) dX5_mark_61 (fun H locs hw => ?_)
        have hw : WD g A s [(h, .inr (5, [.long (gt), .long ((jlshl sn ((n - gt).toInt32)) ||| 1)]))] [] H locs := hw
        refine lv_aload_n hx hb dX5_mark_64 rfl (lv_at hl 1 rfl) ?_
        refine lv_lload_n hx hb dX5_mark_65 rfl (lv_at hl 2 rfl) ?_
        refine r_put (ci := 5) (v := .long (n)) (C := RX5) (T := TX5) (N := 2) hx hb hts hinX5 tyX5 tyX5_ok nmX5 hown h0 hw 0 rfl rfl 0 (by decide) k7 rfl rfl rfl (Nat.le_of_ble_eq_true rfl) dX5_mark_66 (fun H locs hw => ?_)
        have hw : WD g A s [(h, .inr (5, [.long (n), .long ((jlshl sn ((n - gt).toInt32)) ||| 1)]))] [] H locs := hw
        refine lv_goto (tgt := 102) hx hb dX5_mark_69 (by decide) ?_
        exact hret hw () (trivial) (by unfold wMark; (repeat' split) <;> first | rfl | contradiction) (by omega) (by omega) dX5_mark_102
  · skip
    have c1 : sn = 0 := (lg_cmp_eq _ _).mp c1
    refine lv_aload_n hx hb dX5_mark_9 rfl (lv_at hl 0 rfl) ?_
    refine lv_lload_n hx hb dX5_mark_10 rfl (lv_at hl 1 rfl) ?_
    refine r_put (ci := 5) (v := .long (n)) (C := RX5) (T := TX5) (N := 2) hx hb hts hinX5 tyX5 tyX5_ok nmX5 hown h0 hw 0 rfl rfl 0 (by decide) k7 rfl rfl rfl (Nat.le_of_ble_eq_true rfl) dX5_mark_11 (fun H locs hw => ?_)
    have hw : WD g A s [(h, .inr (5, [.long (n), .long (sn)]))] [] H locs := hw
    refine lv_aload_n hx hb dX5_mark_14 rfl (lv_at hl 0 rfl) ?_
    refine lv_lconst (v := 1) hx hb dX5_mark_15 (by decide +kernel) ?_
    refine r_put (ci := 5) (v := .long (1)) (C := RX5) (T := TX5) (N := 2) hx hb hts hinX5 tyX5 tyX5_ok nmX5 hown h0 hw 0 rfl rfl 1 (by decide) k13 rfl rfl rfl (Nat.le_of_ble_eq_true rfl) dX5_mark_16 (fun H locs hw => ?_)
    have hw : WD g A s [(h, .inr (5, [.long (n), .long (1)]))] [] H locs := hw
    refine lv_goto (tgt := 102) hx hb dX5_mark_19 (by decide) ?_
    exact hret hw () (trivial) (by unfold wMark; (repeat' split) <;> first | rfl | contradiction) (by omega) (by omega) dX5_mark_102

set_option maxHeartbeats 4000000 in
set_option maxRecDepth 100000 in
theorem c_J13_bitCount_95d88 (l : Launch) (g : GE) (i : Int64) (sz : Nat) : MI l yJ13_bitCount_95d88 wsJ13_bitCount_95d88 { frames := 0, cells := 0, slots := 0, locals := 0 } g [.long (i)] [] sz (fun (r : Int32) (_ : Unit) => r = bitC i) (fun (_ : Unit) => []) 0 0 := by
  refine enterI (by decide) rfl (Nat.le_of_ble_eq_true rfl) ?_
  intro p e s m below meth c A ls ar Q hE h0 hret hw hl
  obtain ⟨hx, hb, hr, hml, hown, hts, hlocks, hname⟩ := hE
  have hown : s.vm.findClass RJ13 = some m.cls := hown
  have hw : WD g A s [] [] s.heap [] := hw
  have k314 := hts (.constantLong RJ13 314 (6148914691236517205)) (by decide +kernel)
  have k316 := hts (.constantLong RJ13 316 (3689348814741910323)) (by decide +kernel)
  have k318 := hts (.constantLong RJ13 318 (1085102592571150095)) (by decide +kernel)
  have hl : lv_has ls 2 [(0, .long (i))] := hl
  refine lv_lload_n hx hb dJ13_bitCount_95d88_0 rfl (lv_at hl 0 rfl) ?_
  refine lv_lload_n hx hb dJ13_bitCount_95d88_1 rfl (lv_at hl 0 rfl) ?_
  refine lv_iconst (v := nI 1) hx hb dJ13_bitCount_95d88_2 (by decide +kernel) ?_
  refine lv_lushr (v := jlushr i (nI 1)) hx hb dJ13_bitCount_95d88_3 rfl ?_
  refine lv_ldc2 hx hb hown k314 dJ13_bitCount_95d88_4 ?_
  refine lv_land hx hb dJ13_bitCount_95d88_7 ?_
  refine lv_lsub hx hb dJ13_bitCount_95d88_8 ?_
  refine lv_lstore_n (lv' := [(0, .long (i - ((jlushr i (nI 1)) &&& 6148914691236517205)))]) hx hb dJ13_bitCount_95d88_9 rfl hl (by decide) rfl (fun ls hl => ?_)
  refine lv_lload_n hx hb dJ13_bitCount_95d88_10 rfl (lv_at hl 0 rfl) ?_
  refine lv_ldc2 hx hb hown k316 dJ13_bitCount_95d88_11 ?_
  refine lv_land hx hb dJ13_bitCount_95d88_14 ?_
  refine lv_lload_n hx hb dJ13_bitCount_95d88_15 rfl (lv_at hl 0 rfl) ?_
  refine lv_iconst (v := nI 2) hx hb dJ13_bitCount_95d88_16 (by decide +kernel) ?_
  refine lv_lushr (v := jlushr (i - ((jlushr i (nI 1)) &&& 6148914691236517205)) (nI 2)) hx hb dJ13_bitCount_95d88_17 rfl ?_
  refine lv_ldc2 hx hb hown k316 dJ13_bitCount_95d88_18 ?_
  refine lv_land hx hb dJ13_bitCount_95d88_21 ?_
  refine lv_ladd hx hb dJ13_bitCount_95d88_22 ?_
  refine lv_topl (fun z1 ez1 => ?_)
  refine lv_lstore_n (lv' := [(0, .long (z1))]) hx hb dJ13_bitCount_95d88_23 rfl hl (by decide) rfl (fun ls hl => ?_)
  refine lv_lload_n hx hb dJ13_bitCount_95d88_24 rfl (lv_at hl 0 rfl) ?_
  refine lv_lload_n hx hb dJ13_bitCount_95d88_25 rfl (lv_at hl 0 rfl) ?_
  refine lv_iconst (v := nI 4) hx hb dJ13_bitCount_95d88_26 (by decide +kernel) ?_
  refine lv_lushr (v := jlushr z1 (nI 4)) hx hb dJ13_bitCount_95d88_27 rfl ?_
  refine lv_ladd hx hb dJ13_bitCount_95d88_28 ?_
  refine lv_ldc2 hx hb hown k318 dJ13_bitCount_95d88_29 ?_
  refine lv_land hx hb dJ13_bitCount_95d88_32 ?_
  refine lv_lstore_n (lv' := [(0, .long ((z1 + (jlushr z1 (nI 4))) &&& 1085102592571150095))]) hx hb dJ13_bitCount_95d88_33 rfl hl (by decide) rfl (fun ls hl => ?_)
  refine lv_lload_n hx hb dJ13_bitCount_95d88_34 rfl (lv_at hl 0 rfl) ?_
  refine lv_lload_n hx hb dJ13_bitCount_95d88_35 rfl (lv_at hl 0 rfl) ?_
  refine lv_bipush (v := nI 8) hx hb dJ13_bitCount_95d88_36 (by decide +kernel) ?_
  refine lv_lushr (v := jlushr ((z1 + (jlushr z1 (nI 4))) &&& 1085102592571150095) (nI 8)) hx hb dJ13_bitCount_95d88_38 rfl ?_
  refine lv_ladd hx hb dJ13_bitCount_95d88_39 ?_
  refine lv_topl (fun z2 ez2 => ?_)
  refine lv_lstore_n (lv' := [(0, .long (z2))]) hx hb dJ13_bitCount_95d88_40 rfl hl (by decide) rfl (fun ls hl => ?_)
  refine lv_lload_n hx hb dJ13_bitCount_95d88_41 rfl (lv_at hl 0 rfl) ?_
  refine lv_lload_n hx hb dJ13_bitCount_95d88_42 rfl (lv_at hl 0 rfl) ?_
  refine lv_bipush (v := nI 16) hx hb dJ13_bitCount_95d88_43 (by decide +kernel) ?_
  refine lv_lushr (v := jlushr z2 (nI 16)) hx hb dJ13_bitCount_95d88_45 rfl ?_
  refine lv_ladd hx hb dJ13_bitCount_95d88_46 ?_
  refine lv_lstore_n (lv' := [(0, .long (z2 + (jlushr z2 (nI 16))))]) hx hb dJ13_bitCount_95d88_47 rfl hl (by decide) rfl (fun ls hl => ?_)
  refine lv_lload_n hx hb dJ13_bitCount_95d88_48 rfl (lv_at hl 0 rfl) ?_
  refine lv_lload_n hx hb dJ13_bitCount_95d88_49 rfl (lv_at hl 0 rfl) ?_
  refine lv_bipush (v := nI 32) hx hb dJ13_bitCount_95d88_50 (by decide +kernel) ?_
  refine lv_lushr (v := jlushr (z2 + (jlushr z2 (nI 16))) (nI 32)) hx hb dJ13_bitCount_95d88_52 rfl ?_
  refine lv_ladd hx hb dJ13_bitCount_95d88_53 ?_
  refine lv_topl (fun z3 ez3 => ?_)
  refine lv_lstore_n (lv' := [(0, .long (z3))]) hx hb dJ13_bitCount_95d88_54 rfl hl (by decide) rfl (fun ls hl => ?_)
  refine lv_lload_n hx hb dJ13_bitCount_95d88_55 rfl (lv_at hl 0 rfl) ?_
  refine lv_l2i (v := (z3).toInt32) hx hb dJ13_bitCount_95d88_56 rfl ?_
  refine lv_bipush (v := nI 127) hx hb dJ13_bitCount_95d88_57 (by decide +kernel) ?_
  refine lv_iand hx hb dJ13_bitCount_95d88_59 ?_
  subst ez3
  subst ez2
  subst ez1
  exact hret hw () (rfl) (rfl) (by omega) (by omega) dJ13_bitCount_95d88_60

set_option maxHeartbeats 4000000 in
set_option maxRecDepth 100000 in
theorem c_X5_seenCount (l : Launch) (g : GE) (h : Nat) (gt : Int64) (sn : Int64) (sz : Nat) : MI l yX5_seenCount wsX5_seenCount { frames := 1, cells := 0, slots := 0, locals := 21 } g [.ref h] [(h, .inr (5, [.long (gt), .long (sn)]))] sz (fun (r : Int32) (_ : Unit) => r = bitC sn) (fun (_ : Unit) => [(h, .inr (5, [.long (gt), .long (sn)]))]) 0 0 := by
  refine enterI (by decide) rfl (Nat.le_of_ble_eq_true rfl) ?_
  intro p e s m below meth c A ls ar Q hE h0 hret hw hl
  obtain ⟨hx, hb, hr, hml, hown, hts, hlocks, hname⟩ := hE
  have hown : s.vm.findClass RX5 = some m.cls := hown
  have hw : WD g A s [(h, .inr (5, [.long (gt), .long (sn)]))] [] s.heap [] := hw
  have hinX5 : ∀ w ∈ u_ws RX5 TX5 2, w ∈ wsX5_seenCount := by decide +kernel
  have k13 := hts (.fieldLink RX5 13 "RecordWire$Window" "seen" "J") (by decide +kernel)
  have hl : lv_has ls 1 [(0, .ref h)] := hl
  refine lv_aload_n hx hb dX5_seenCount_0 rfl (lv_at hl 0 rfl) ?_
  refine r_get (ci := 5) (v := .long (sn)) (C := RX5) (T := TX5) (N := 2) hx hb hts hinX5 hown h0 hw 0 rfl rfl 1 (by decide) k13 rfl dX5_seenCount_1 ?_
  refine r_calli (wr := [(h, .inr (5, [.long (gt), .long (sn)]))]) [] [0] h0 hw rfl rfl (by decide) (by decide) (va_runS (As := [.long (sn)]) (rest := []) ⟨hx, hb, hml, hown, hts⟩ (c_J13_bitCount_95d88 l g sn  _) (va_cwS 1 hts gX5_seenCount_J13_bitCount_95d88 rfl rfl rfl (by decide +kernel) ⟨Nat.le_of_ble_eq_true rfl, Nat.le_of_ble_eq_true rfl⟩) (preS_of [] [.long (sn)] h0 hw rfl (by decide)) rfl rfl hl.1 rfl (lv_room (Nat.le_of_ble_eq_true rfl)) dX5_seenCount_4 ⟨Nat.le_of_ble_eq_true rfl, Nat.le_of_ble_eq_true rfl⟩) (fun r1 u2 H locs hp3 hw => ?_)
  have hw : WD g A s [(h, .inr (5, [.long (gt), .long (sn)]))] [] H locs := hw
  subst hp3
  exact hret hw () (rfl) (rfl) (by omega) (by omega) dX5_seenCount_7
