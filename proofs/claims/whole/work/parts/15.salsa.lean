set_option maxHeartbeats 4000000 in
set_option maxRecDepth 100000 in
theorem c_X3_turn (l : Launch) (g : GE) (x : Int32) (y : Int32) (sz : Nat) : MI l yX3_turn wsX3_turn { frames := 0, cells := 0, slots := 0, locals := 0 } g [.int (x), .int (y)] [] sz (fun (r : Int32) (_ : Unit) => r = rotl x y) (fun (_ : Unit) => []) 0 0 := by
  refine enterI (by decide) rfl (Nat.le_of_ble_eq_true rfl) ?_
  intro p e s m below meth c A ls ar Q hE h0 hret hw hl
  obtain ⟨hx, hb, hr, hml, hown, hts, hlocks, hname⟩ := hE
  have hown : s.vm.findClass RX3 = some m.cls := hown
  have hw : WD g A s [] [] s.heap [] := hw
  have hl : lv_has ls 2 [(0, .int (x)), (1, .int (y))] := hl
  refine lv_iload_n hx hb dX3_turn_0 rfl (lv_at hl 0 rfl) ?_
  refine lv_iload_n hx hb dX3_turn_1 rfl (lv_at hl 1 rfl) ?_
  refine lv_ishl hx hb dX3_turn_2 ?_
  refine r_te (y := jshl x y) rfl ?_
  refine lv_iload_n hx hb dX3_turn_3 rfl (lv_at hl 0 rfl) ?_
  refine lv_bipush (v := nI 32) hx hb dX3_turn_4 (by decide +kernel) ?_
  refine lv_iload_n hx hb dX3_turn_6 rfl (lv_at hl 1 rfl) ?_
  refine lv_isub hx hb dX3_turn_7 ?_
  refine lv_iushr (v := jushr x ((nI 32) - y)) hx hb dX3_turn_8 rfl ?_
  refine lv_ior hx hb dX3_turn_9 ?_
  exact hret hw () (rfl) (rfl) (by omega) (by omega) dX3_turn_10

set_option maxHeartbeats 4000000 in
set_option maxRecDepth 100000 in
theorem c_X3_word (l : Launch) (g : GE) (v0 : Int32) (v1 : Int32) (v2 : Int32) (v3 : Int32) (sz : Nat) : MI l yX3_word wsX3_word { frames := 0, cells := 0, slots := 0, locals := 0 } g [.int (v0), .int (v1), .int (v2), .int (v3)] [] sz (fun (r : Int32) (_ : Unit) => r = wrd v0 v1 v2 v3) (fun (_ : Unit) => []) 0 0 := by
  refine enterI (by decide) rfl (Nat.le_of_ble_eq_true rfl) ?_
  intro p e s m below meth c A ls ar Q hE h0 hret hw hl
  obtain ⟨hx, hb, hr, hml, hown, hts, hlocks, hname⟩ := hE
  have hown : s.vm.findClass RX3 = some m.cls := hown
  have hw : WD g A s [] [] s.heap [] := hw
  have hl : lv_has ls 4 [(0, .int (v0)), (1, .int (v1)), (2, .int (v2)), (3, .int (v3))] := hl
  refine lv_iload_n hx hb dX3_word_0 rfl (lv_at hl 0 rfl) ?_
  refine lv_iload_n hx hb dX3_word_1 rfl (lv_at hl 1 rfl) ?_
  refine lv_bipush (v := nI 8) hx hb dX3_word_2 (by decide +kernel) ?_
  refine lv_ishl hx hb dX3_word_4 ?_
  refine r_te (y := jshl v1 (nI 8)) rfl ?_
  refine lv_ior hx hb dX3_word_5 ?_
  refine lv_iload_n hx hb dX3_word_6 rfl (lv_at hl 2 rfl) ?_
  refine lv_bipush (v := nI 16) hx hb dX3_word_7 (by decide +kernel) ?_
  refine lv_ishl hx hb dX3_word_9 ?_
  refine r_te (y := jshl v2 (nI 16)) rfl ?_
  refine lv_ior hx hb dX3_word_10 ?_
  refine lv_iload_n hx hb dX3_word_11 rfl (lv_at hl 3 rfl) ?_
  refine lv_bipush (v := nI 24) hx hb dX3_word_12 (by decide +kernel) ?_
  refine lv_ishl hx hb dX3_word_14 ?_
  refine r_te (y := jshl v3 (nI 24)) rfl ?_
  refine lv_ior hx hb dX3_word_15 ?_
  exact hret hw () (rfl) (rfl) (by omega) (by omega) dX3_word_16

set_option maxHeartbeats 4000000 in
set_option maxRecDepth 100000 in
theorem c_X3_keyWord (l : Launch) (g : GE) (ca : Nat) (cf : Nat → Int32) (i : Nat) (hi : i + 3 < 32) (sz : Nat) : MI l yX3_keyWord wsX3_keyWord { frames := 1, cells := 0, slots := 0, locals := 23 } g [.ref ca, .int (nI i)] [(ca, .inl (g.2.1 0, 32, .inl (cf)))] sz (fun (r : Int32) (_ : Unit) => r = kwd cf i) (fun (_ : Unit) => [(ca, .inl (g.2.1 0, 32, .inl (cf)))]) 0 0 := by
  refine enterI (by decide) rfl (Nat.le_of_ble_eq_true rfl) ?_
  intro p e s m below meth c A ls ar Q hE h0 hret hw hl
  obtain ⟨hx, hb, hr, hml, hown, hts, hlocks, hname⟩ := hE
  have hown : s.vm.findClass RX3 = some m.cls := hown
  have hw : WD g A s [(ca, .inl (g.2.1 0, 32, .inl (cf)))] [] s.heap [] := hw
  have hl : lv_has ls 2 [(0, .ref ca), (1, .int (nI i))] := hl
  refine lv_iload_n hx hb dX3_keyWord_0 rfl (lv_at hl 1 rfl) ?_
  refine lv_if_lt (tgt := 12) hx hb dX3_keyWord_1 (by decide) (fun c1 => ?_) (fun c1 => ?_)
  · skip
    rw [← nI_0] at c1
    have c1 : i < 0 := (nI_ltI (by omega) (by omega)).mp c1
    exfalso; omega
  · skip
    rw [← nI_0] at c1
    have c1 : ¬ i < 0 := fun q => c1 (((nI_ltI (by omega) (by omega)).mpr q))
    refine lv_iload_n hx hb dX3_keyWord_4 rfl (lv_at hl 1 rfl) ?_
    refine lv_iconst (v := nI 3) hx hb dX3_keyWord_5 (by decide +kernel) ?_
    refine lv_iadd hx hb dX3_keyWord_6 ?_
    refine r_te (y := nI (i + 3)) (nI_add i 3) ?_
    refine lv_aload_n hx hb dX3_keyWord_7 rfl (lv_at hl 0 rfl) ?_
    refine r_alen hx hb h0 hw 0 rfl dX3_keyWord_8 ?_
    refine lv_icmp_lt (tgt := 14) hx hb dX3_keyWord_9 (by decide) (fun c2 => ?_) (fun c2 => ?_)
    · skip
      have c2 : (i + 3) < 32 := (nI_ltI (by omega) (by omega)).mp c2
      refine lv_aload_n hx hb dX3_keyWord_14 rfl (lv_at hl 0 rfl) ?_
      refine lv_iload_n hx hb dX3_keyWord_15 rfl (lv_at hl 1 rfl) ?_
      refine r_iald hx hb h0 hw 0 rfl (i := i) (by omega) (by omega) dX3_keyWord_16 ?_
      refine lv_aload_n hx hb dX3_keyWord_17 rfl (lv_at hl 0 rfl) ?_
      refine lv_iload_n hx hb dX3_keyWord_18 rfl (lv_at hl 1 rfl) ?_
      refine lv_iconst (v := nI 1) hx hb dX3_keyWord_19 (by decide +kernel) ?_
      refine lv_iadd hx hb dX3_keyWord_20 ?_
      refine r_te (y := nI (i + 1)) (nI_add i 1) ?_
      refine r_iald hx hb h0 hw 0 rfl (i := i + 1) (by omega) (by omega) dX3_keyWord_21 ?_
      refine lv_aload_n hx hb dX3_keyWord_22 rfl (lv_at hl 0 rfl) ?_
      refine lv_iload_n hx hb dX3_keyWord_23 rfl (lv_at hl 1 rfl) ?_
      refine lv_iconst (v := nI 2) hx hb dX3_keyWord_24 (by decide +kernel) ?_
      refine lv_iadd hx hb dX3_keyWord_25 ?_
      refine r_te (y := nI (i + 2)) (nI_add i 2) ?_
      refine r_iald hx hb h0 hw 0 rfl (i := i + 2) (by omega) (by omega) dX3_keyWord_26 ?_
      refine lv_aload_n hx hb dX3_keyWord_27 rfl (lv_at hl 0 rfl) ?_
      refine lv_iload_n hx hb dX3_keyWord_28 rfl (lv_at hl 1 rfl) ?_
      refine lv_iconst (v := nI 3) hx hb dX3_keyWord_29 (by decide +kernel) ?_
      refine lv_iadd hx hb dX3_keyWord_30 ?_
      refine r_te (y := nI (i + 3)) (nI_add i 3) ?_
      refine r_iald hx hb h0 hw 0 rfl (i := i + 3) (by omega) (by omega) dX3_keyWord_31 ?_
      refine r_calli (wr := [(ca, .inl (g.2.1 0, 32, .inl (cf)))]) [] [0] h0 hw rfl rfl (by decide) (by decide) (va_runS (As := [.int (cf i), .int (cf (i + 1)), .int (cf (i + 2)), .int (cf (i + 3))]) (rest := []) ⟨hx, hb, hml, hown, hts⟩ (c_X3_word l g (cf i) (cf (i + 1)) (cf (i + 2)) (cf (i + 3))  _) (va_cwS 4 hts gX3_keyWord_X3_word rfl rfl rfl (by decide +kernel) ⟨Nat.le_of_ble_eq_true rfl, Nat.le_of_ble_eq_true rfl⟩) (preS_of [] [.int (cf i), .int (cf (i + 1)), .int (cf (i + 2)), .int (cf (i + 3))] h0 hw rfl (by decide)) rfl rfl hl.1 rfl (lv_room (Nat.le_of_ble_eq_true rfl)) dX3_keyWord_32 ⟨Nat.le_of_ble_eq_true rfl, Nat.le_of_ble_eq_true rfl⟩) (fun r3 u4 H locs hp5 hw => ?_)
      have hw : WD g A s [(ca, .inl (g.2.1 0, 32, .inl (cf)))] [] H locs := hw
      subst hp5
      exact hret hw () (rfl) (rfl) (by omega) (by omega) dX3_keyWord_35
    · skip
      have c2 : ¬ (i + 3) < 32 := fun q => c2 (((nI_ltI (by omega) (by omega)).mpr q))
      exfalso; omega

set_option maxHeartbeats 4000000 in
set_option maxRecDepth 100000 in
theorem c_X3_headWord (l : Launch) (g : GE) (h : Nat) (b : Nat) (n : Nat) (f : Nat → Int32) (i : Nat) (hi : i + 3 < n) (hn : n ≤ 127) (sz : Nat) : MI l yX3_headWord wsX3_headWord { frames := 1, cells := 0, slots := 0, locals := 23 } g [.ref h, .int (nI i)] [(h, .inr (0, [.ref b, .int (nI n)])), (b, .inl (g.2.1 0, 127, .inl (f)))] sz (fun (r : Int32) (_ : Unit) => r = kwd f i) (fun (_ : Unit) => [(h, .inr (0, [.ref b, .int (nI n)])), (b, .inl (g.2.1 0, 127, .inl (f)))]) 0 0 := by
  refine enterI (by decide) rfl (Nat.le_of_ble_eq_true rfl) ?_
  intro p e s m below meth c A ls ar Q hE h0 hret hw hl
  obtain ⟨hx, hb, hr, hml, hown, hts, hlocks, hname⟩ := hE
  have hown : s.vm.findClass RX3 = some m.cls := hown
  have hw : WD g A s [(h, .inr (0, [.ref b, .int (nI n)])), (b, .inl (g.2.1 0, 127, .inl (f)))] [] s.heap [] := hw
  have hl : lv_has ls 2 [(0, .ref h), (1, .int (nI i))] := hl
  refine lv_aload_n hx hb dX3_headWord_0 rfl (lv_at hl 0 rfl) ?_
  refine lv_iload_n hx hb dX3_headWord_1 rfl (lv_at hl 1 rfl) ?_
  refine r_calli (wr := []) [0, 1] [] h0 hw rfl rfl (by decide) (by decide) (va_runV (As := [.int (nI i)]) (rest := []) ⟨hx, hb, hml, hown, hts⟩ (c_X0_at l g h b n f i (by omega) (by omega) _) (cwV 1 hts gX3_headWord_X0_at rfl rfl rfl (by decide +kernel) ⟨Nat.le_of_ble_eq_true rfl, Nat.le_of_ble_eq_true rfl⟩) (preV_of [0, 1] [.int (nI i)] h0 hw rfl (by decide) 0 0 rfl rfl) rfl rfl hl.1 rfl (lv_room (Nat.le_of_ble_eq_true rfl)) dX3_headWord_2 ⟨Nat.le_of_ble_eq_true rfl, Nat.le_of_ble_eq_true rfl⟩) (fun r1 u2 H locs hp3 hw => ?_)
  have hw : WD g A s [(h, .inr (0, [.ref b, .int (nI n)])), (b, .inl (g.2.1 0, 127, .inl (f)))] [] H locs := hw
  subst hp3
  refine lv_aload_n hx hb dX3_headWord_5 rfl (lv_at hl 0 rfl) ?_
  refine lv_iload_n hx hb dX3_headWord_6 rfl (lv_at hl 1 rfl) ?_
  refine lv_iconst (v := nI 1) hx hb dX3_headWord_7 (by decide +kernel) ?_
  refine lv_iadd hx hb dX3_headWord_8 ?_
  refine r_te (y := nI (i + 1)) (nI_add i 1) ?_
  refine r_calli (wr := []) [0, 1] [] h0 hw rfl rfl (by decide) (by decide) (va_runV (As := [.int (nI (i + 1))]) (rest := [.int (f i)]) ⟨hx, hb, hml, hown, hts⟩ (c_X0_at l g h b n f (i + 1) (by omega) (by omega) _) (cwV 1 hts gX3_headWord_X0_at rfl rfl rfl (by decide +kernel) ⟨Nat.le_of_ble_eq_true rfl, Nat.le_of_ble_eq_true rfl⟩) (preV_of [0, 1] [.int (nI (i + 1))] h0 hw rfl (by decide) 0 0 rfl rfl) rfl rfl hl.1 rfl (lv_room (Nat.le_of_ble_eq_true rfl)) dX3_headWord_9 ⟨Nat.le_of_ble_eq_true rfl, Nat.le_of_ble_eq_true rfl⟩) (fun r4 u5 H locs hp6 hw => ?_)
  have hw : WD g A s [(h, .inr (0, [.ref b, .int (nI n)])), (b, .inl (g.2.1 0, 127, .inl (f)))] [] H locs := hw
  subst hp6
  refine lv_aload_n hx hb dX3_headWord_12 rfl (lv_at hl 0 rfl) ?_
  refine lv_iload_n hx hb dX3_headWord_13 rfl (lv_at hl 1 rfl) ?_
  refine lv_iconst (v := nI 2) hx hb dX3_headWord_14 (by decide +kernel) ?_
  refine lv_iadd hx hb dX3_headWord_15 ?_
  refine r_te (y := nI (i + 2)) (nI_add i 2) ?_
  refine r_calli (wr := []) [0, 1] [] h0 hw rfl rfl (by decide) (by decide) (va_runV (As := [.int (nI (i + 2))]) (rest := [.int (f (i + 1)), .int (f i)]) ⟨hx, hb, hml, hown, hts⟩ (c_X0_at l g h b n f (i + 2) (by omega) (by omega) _) (cwV 1 hts gX3_headWord_X0_at rfl rfl rfl (by decide +kernel) ⟨Nat.le_of_ble_eq_true rfl, Nat.le_of_ble_eq_true rfl⟩) (preV_of [0, 1] [.int (nI (i + 2))] h0 hw rfl (by decide) 0 0 rfl rfl) rfl rfl hl.1 rfl (lv_room (Nat.le_of_ble_eq_true rfl)) dX3_headWord_16 ⟨Nat.le_of_ble_eq_true rfl, Nat.le_of_ble_eq_true rfl⟩) (fun r7 u8 H locs hp9 hw => ?_)
  have hw : WD g A s [(h, .inr (0, [.ref b, .int (nI n)])), (b, .inl (g.2.1 0, 127, .inl (f)))] [] H locs := hw
  subst hp9
  refine lv_aload_n hx hb dX3_headWord_19 rfl (lv_at hl 0 rfl) ?_
  refine lv_iload_n hx hb dX3_headWord_20 rfl (lv_at hl 1 rfl) ?_
  refine lv_iconst (v := nI 3) hx hb dX3_headWord_21 (by decide +kernel) ?_
  refine lv_iadd hx hb dX3_headWord_22 ?_
  refine r_te (y := nI (i + 3)) (nI_add i 3) ?_
  refine r_calli (wr := []) [0, 1] [] h0 hw rfl rfl (by decide) (by decide) (va_runV (As := [.int (nI (i + 3))]) (rest := [.int (f (i + 2)), .int (f (i + 1)), .int (f i)]) ⟨hx, hb, hml, hown, hts⟩ (c_X0_at l g h b n f (i + 3) (by omega) (by omega) _) (cwV 1 hts gX3_headWord_X0_at rfl rfl rfl (by decide +kernel) ⟨Nat.le_of_ble_eq_true rfl, Nat.le_of_ble_eq_true rfl⟩) (preV_of [0, 1] [.int (nI (i + 3))] h0 hw rfl (by decide) 0 0 rfl rfl) rfl rfl hl.1 rfl (lv_room (Nat.le_of_ble_eq_true rfl)) dX3_headWord_23 ⟨Nat.le_of_ble_eq_true rfl, Nat.le_of_ble_eq_true rfl⟩) (fun r10 u11 H locs hp12 hw => ?_)
  have hw : WD g A s [(h, .inr (0, [.ref b, .int (nI n)])), (b, .inl (g.2.1 0, 127, .inl (f)))] [] H locs := hw
  subst hp12
  refine r_calli (wr := [(h, .inr (0, [.ref b, .int (nI n)])), (b, .inl (g.2.1 0, 127, .inl (f)))]) [] [0, 1] h0 hw rfl rfl (by decide) (by decide) (va_runS (As := [.int (f i), .int (f (i + 1)), .int (f (i + 2)), .int (f (i + 3))]) (rest := []) ⟨hx, hb, hml, hown, hts⟩ (c_X3_word l g (f i) (f (i + 1)) (f (i + 2)) (f (i + 3))  _) (va_cwS 4 hts gX3_headWord_X3_word rfl rfl rfl (by decide +kernel) ⟨Nat.le_of_ble_eq_true rfl, Nat.le_of_ble_eq_true rfl⟩) (preS_of [] [.int (f i), .int (f (i + 1)), .int (f (i + 2)), .int (f (i + 3))] h0 hw rfl (by decide)) rfl rfl hl.1 rfl (lv_room (Nat.le_of_ble_eq_true rfl)) dX3_headWord_26 ⟨Nat.le_of_ble_eq_true rfl, Nat.le_of_ble_eq_true rfl⟩) (fun r13 u14 H locs hp15 hw => ?_)
  have hw : WD g A s [(h, .inr (0, [.ref b, .int (nI n)])), (b, .inl (g.2.1 0, 127, .inl (f)))] [] H locs := hw
  subst hp15
  exact hret hw () (rfl) (rfl) (by omega) (by omega) dX3_headWord_29

set_option maxHeartbeats 4000000 in
set_option maxRecDepth 100000 in
theorem c_X3_mixQuarter (l : Launch) (g : GE) (h : Nat) (ia : Nat) (ba : Nat) (ps : Nat) (f : Nat → Int32) (qa : Nat) (qb : Nat) (qc : Nat) (qd : Nat) (h_a : qa < 16) (h_b : qb < 16) (h_c : qc < 16) (h_d : qd < 16) (sz : Nat) : MV l yX3_mixQuarter wsX3_mixQuarter { frames := 1, cells := 0, slots := 0, locals := 21 } g [.ref h, .int (nI qa), .int (nI qb), .int (nI qc), .int (nI qd)] [(h, .inr (3, [.ref ia, .ref ba, .int (nI ps)])), (ba, .inl (g.2.1 0, 16, .inl (f)))] sz (fun (_ : Unit) => True) (fun (_ : Unit) => [(h, .inr (3, [.ref ia, .ref ba, .int (nI ps)])), (ba, .inl (g.2.1 0, 16, .inl (qr f qa qb qc qd)))]) 0 0 := by
  refine enterV (by decide) rfl (Nat.le_of_ble_eq_true rfl) ?_
  intro p e s m below meth c A ls ar Q hE h0 hret hw hl
  obtain ⟨hx, hb, hr, hml, hown, hts, hlocks, hname⟩ := hE
  have hown : s.vm.findClass RX3 = some m.cls := hown
  have hw : WD g A s [(h, .inr (3, [.ref ia, .ref ba, .int (nI ps)])), (ba, .inl (g.2.1 0, 16, .inl (f)))] [] s.heap [] := hw
  have hinX3 : ∀ w ∈ u_ws RX3 TX3 3, w ∈ wsX3_mixQuarter := by decide +kernel
  have k15 := hts (.fieldLink RX3 15 "RecordWire$Salsa20" "block" "[I") (by decide +kernel)
  have hl : lv_has ls 5 [(0, .ref h), (1, .int (nI qa)), (2, .int (nI qb)), (3, .int (nI qc)), (4, .int (nI qd))] := hl
  refine lv_aload_n hx hb dX3_mixQuarter_0 rfl (lv_at hl 0 rfl) ?_
  refine r_get (ci := 3) (v := .ref ba) (C := RX3) (T := TX3) (N := 3) hx hb hts hinX3 hown h0 hw 0 rfl rfl 1 (by decide) k15 rfl dX3_mixQuarter_1 ?_
  refine lv_iload_n hx hb dX3_mixQuarter_4 rfl (lv_at hl 2 rfl) ?_
  refine lv_dup2_11 hx hb dX3_mixQuarter_5 rfl rfl ?_
  refine r_iald hx hb h0 hw 1 rfl (i := qb) (by omega) (by omega) dX3_mixQuarter_6 ?_
  refine lv_aload_n hx hb dX3_mixQuarter_7 rfl (lv_at hl 0 rfl) ?_
  refine r_get (ci := 3) (v := .ref ba) (C := RX3) (T := TX3) (N := 3) hx hb hts hinX3 hown h0 hw 0 rfl rfl 1 (by decide) k15 rfl dX3_mixQuarter_8 ?_
  refine lv_iload_n hx hb dX3_mixQuarter_11 rfl (lv_at hl 1 rfl) ?_
  refine r_iald hx hb h0 hw 1 rfl (i := qa) (by omega) (by omega) dX3_mixQuarter_12 ?_
  refine lv_aload_n hx hb dX3_mixQuarter_13 rfl (lv_at hl 0 rfl) ?_
  refine r_get (ci := 3) (v := .ref ba) (C := RX3) (T := TX3) (N := 3) hx hb hts hinX3 hown h0 hw 0 rfl rfl 1 (by decide) k15 rfl dX3_mixQuarter_14 ?_
  refine lv_iload hx hb dX3_mixQuarter_17 (lv_at hl 4 rfl) ?_
  refine r_iald hx hb h0 hw 1 rfl (i := qd) (by omega) (by omega) dX3_mixQuarter_19 ?_
  refine lv_iadd hx hb dX3_mixQuarter_20 ?_
  refine lv_bipush (v := nI 7) hx hb dX3_mixQuarter_21 (by decide +kernel) ?_
  refine r_calli (wr := [(h, .inr (3, [.ref ia, .ref ba, .int (nI ps)])), (ba, .inl (g.2.1 0, 16, .inl (f)))]) [] [0, 1] h0 hw rfl rfl (by decide) (by decide) (va_runS (As := [.int ((f qa) + (f qd)), .int (nI 7)]) (rest := [.int (f qb), .int (nI qb), .ref ba]) ⟨hx, hb, hml, hown, hts⟩ (c_X3_turn l g ((f qa) + (f qd)) (nI 7)  _) (va_cwS 2 hts gX3_mixQuarter_X3_turn rfl rfl rfl (by decide +kernel) ⟨Nat.le_of_ble_eq_true rfl, Nat.le_of_ble_eq_true rfl⟩) (preS_of [] [.int ((f qa) + (f qd)), .int (nI 7)] h0 hw rfl (by decide)) rfl rfl hl.1 rfl (lv_room (Nat.le_of_ble_eq_true rfl)) dX3_mixQuarter_23 ⟨Nat.le_of_ble_eq_true rfl, Nat.le_of_ble_eq_true rfl⟩) (fun r1 u2 H locs hp3 hw => ?_)
  have hw : WD g A s [(h, .inr (3, [.ref ia, .ref ba, .int (nI ps)])), (ba, .inl (g.2.1 0, 16, .inl (f)))] [] H locs := hw
  subst hp3
  refine lv_ixor hx hb dX3_mixQuarter_26 ?_
  refine r_iast hx hb h0 hw 1 rfl (i := qb) (by omega) (by omega) dX3_mixQuarter_27 (fun H locs hw => ?_)
  have hw : WD g A s [(h, .inr (3, [.ref ia, .ref ba, .int (nI ps)])), (ba, .inl (g.2.1 0, 16, .inl (upd f qb ((f qb) ^^^ (rotl ((f qa) + (f qd)) (nI 7))))))] [] H locs := hw
  have hw : WD g A s [(h, .inr (3, [.ref ia, .ref ba, .int (nI ps)])), (ba, .inl (g.2.1 0, 16, .inl (q1 f qa qb qd)))] [] H locs := hw
  refine lv_aload_n hx hb dX3_mixQuarter_28 rfl (lv_at hl 0 rfl) ?_
  refine r_get (ci := 3) (v := .ref ba) (C := RX3) (T := TX3) (N := 3) hx hb hts hinX3 hown h0 hw 0 rfl rfl 1 (by decide) k15 rfl dX3_mixQuarter_29 ?_
  refine lv_iload_n hx hb dX3_mixQuarter_32 rfl (lv_at hl 3 rfl) ?_
  refine lv_dup2_11 hx hb dX3_mixQuarter_33 rfl rfl ?_
  refine r_iald hx hb h0 hw 1 rfl (i := qc) (by omega) (by omega) dX3_mixQuarter_34 ?_
  refine lv_aload_n hx hb dX3_mixQuarter_35 rfl (lv_at hl 0 rfl) ?_
  refine r_get (ci := 3) (v := .ref ba) (C := RX3) (T := TX3) (N := 3) hx hb hts hinX3 hown h0 hw 0 rfl rfl 1 (by decide) k15 rfl dX3_mixQuarter_36 ?_
  refine lv_iload_n hx hb dX3_mixQuarter_39 rfl (lv_at hl 2 rfl) ?_
  refine r_iald hx hb h0 hw 1 rfl (i := qb) (by omega) (by omega) dX3_mixQuarter_40 ?_
  refine lv_aload_n hx hb dX3_mixQuarter_41 rfl (lv_at hl 0 rfl) ?_
  refine r_get (ci := 3) (v := .ref ba) (C := RX3) (T := TX3) (N := 3) hx hb hts hinX3 hown h0 hw 0 rfl rfl 1 (by decide) k15 rfl dX3_mixQuarter_42 ?_
  refine lv_iload_n hx hb dX3_mixQuarter_45 rfl (lv_at hl 1 rfl) ?_
  refine r_iald hx hb h0 hw 1 rfl (i := qa) (by omega) (by omega) dX3_mixQuarter_46 ?_
  refine lv_iadd hx hb dX3_mixQuarter_47 ?_
  refine lv_bipush (v := nI 9) hx hb dX3_mixQuarter_48 (by decide +kernel) ?_
  refine r_calli (wr := [(h, .inr (3, [.ref ia, .ref ba, .int (nI ps)])), (ba, .inl (g.2.1 0, 16, .inl (q1 f qa qb qd)))]) [] [0, 1] h0 hw rfl rfl (by decide) (by decide) (va_runS (As := [.int (((q1 f qa qb qd) qb) + ((q1 f qa qb qd) qa)), .int (nI 9)]) (rest := [.int ((q1 f qa qb qd) qc), .int (nI qc), .ref ba]) ⟨hx, hb, hml, hown, hts⟩ (c_X3_turn l g (((q1 f qa qb qd) qb) + ((q1 f qa qb qd) qa)) (nI 9)  _) (va_cwS 2 hts gX3_mixQuarter_X3_turn rfl rfl rfl (by decide +kernel) ⟨Nat.le_of_ble_eq_true rfl, Nat.le_of_ble_eq_true rfl⟩) (preS_of [] [.int (((q1 f qa qb qd) qb) + ((q1 f qa qb qd) qa)), .int (nI 9)] h0 hw rfl (by decide)) rfl rfl hl.1 rfl (lv_room (Nat.le_of_ble_eq_true rfl)) dX3_mixQuarter_50 ⟨Nat.le_of_ble_eq_true rfl, Nat.le_of_ble_eq_true rfl⟩) (fun r4 u5 H locs hp6 hw => ?_)
  have hw : WD g A s [(h, .inr (3, [.ref ia, .ref ba, .int (nI ps)])), (ba, .inl (g.2.1 0, 16, .inl (q1 f qa qb qd)))] [] H locs := hw
  subst hp6
  refine lv_ixor hx hb dX3_mixQuarter_53 ?_
  refine r_iast hx hb h0 hw 1 rfl (i := qc) (by omega) (by omega) dX3_mixQuarter_54 (fun H locs hw => ?_)
  have hw : WD g A s [(h, .inr (3, [.ref ia, .ref ba, .int (nI ps)])), (ba, .inl (g.2.1 0, 16, .inl (upd (q1 f qa qb qd) qc (((q1 f qa qb qd) qc) ^^^ (rotl (((q1 f qa qb qd) qb) + ((q1 f qa qb qd) qa)) (nI 9))))))] [] H locs := hw
  have hw : WD g A s [(h, .inr (3, [.ref ia, .ref ba, .int (nI ps)])), (ba, .inl (g.2.1 0, 16, .inl (q2 (q1 f qa qb qd) qa qb qc)))] [] H locs := hw
  refine lv_aload_n hx hb dX3_mixQuarter_55 rfl (lv_at hl 0 rfl) ?_
  refine r_get (ci := 3) (v := .ref ba) (C := RX3) (T := TX3) (N := 3) hx hb hts hinX3 hown h0 hw 0 rfl rfl 1 (by decide) k15 rfl dX3_mixQuarter_56 ?_
  refine lv_iload hx hb dX3_mixQuarter_59 (lv_at hl 4 rfl) ?_
  refine lv_dup2_11 hx hb dX3_mixQuarter_61 rfl rfl ?_
  refine r_iald hx hb h0 hw 1 rfl (i := qd) (by omega) (by omega) dX3_mixQuarter_62 ?_
  refine lv_aload_n hx hb dX3_mixQuarter_63 rfl (lv_at hl 0 rfl) ?_
  refine r_get (ci := 3) (v := .ref ba) (C := RX3) (T := TX3) (N := 3) hx hb hts hinX3 hown h0 hw 0 rfl rfl 1 (by decide) k15 rfl dX3_mixQuarter_64 ?_
  refine lv_iload_n hx hb dX3_mixQuarter_67 rfl (lv_at hl 3 rfl) ?_
  refine r_iald hx hb h0 hw 1 rfl (i := qc) (by omega) (by omega) dX3_mixQuarter_68 ?_
  refine lv_aload_n hx hb dX3_mixQuarter_69 rfl (lv_at hl 0 rfl) ?_
  refine r_get (ci := 3) (v := .ref ba) (C := RX3) (T := TX3) (N := 3) hx hb hts hinX3 hown h0 hw 0 rfl rfl 1 (by decide) k15 rfl dX3_mixQuarter_70 ?_
  refine lv_iload_n hx hb dX3_mixQuarter_73 rfl (lv_at hl 2 rfl) ?_
  refine r_iald hx hb h0 hw 1 rfl (i := qb) (by omega) (by omega) dX3_mixQuarter_74 ?_
  refine lv_iadd hx hb dX3_mixQuarter_75 ?_
  refine lv_bipush (v := nI 13) hx hb dX3_mixQuarter_76 (by decide +kernel) ?_
  refine r_calli (wr := [(h, .inr (3, [.ref ia, .ref ba, .int (nI ps)])), (ba, .inl (g.2.1 0, 16, .inl (q2 (q1 f qa qb qd) qa qb qc)))]) [] [0, 1] h0 hw rfl rfl (by decide) (by decide) (va_runS (As := [.int (((q2 (q1 f qa qb qd) qa qb qc) qc) + ((q2 (q1 f qa qb qd) qa qb qc) qb)), .int (nI 13)]) (rest := [.int ((q2 (q1 f qa qb qd) qa qb qc) qd), .int (nI qd), .ref ba]) ⟨hx, hb, hml, hown, hts⟩ (c_X3_turn l g (((q2 (q1 f qa qb qd) qa qb qc) qc) + ((q2 (q1 f qa qb qd) qa qb qc) qb)) (nI 13)  _) (va_cwS 2 hts gX3_mixQuarter_X3_turn rfl rfl rfl (by decide +kernel) ⟨Nat.le_of_ble_eq_true rfl, Nat.le_of_ble_eq_true rfl⟩) (preS_of [] [.int (((q2 (q1 f qa qb qd) qa qb qc) qc) + ((q2 (q1 f qa qb qd) qa qb qc) qb)), .int (nI 13)] h0 hw rfl (by decide)) rfl rfl hl.1 rfl (lv_room (Nat.le_of_ble_eq_true rfl)) dX3_mixQuarter_78 ⟨Nat.le_of_ble_eq_true rfl, Nat.le_of_ble_eq_true rfl⟩) (fun r7 u8 H locs hp9 hw => ?_)
  have hw : WD g A s [(h, .inr (3, [.ref ia, .ref ba, .int (nI ps)])), (ba, .inl (g.2.1 0, 16, .inl (q2 (q1 f qa qb qd) qa qb qc)))] [] H locs := hw
  subst hp9
  refine lv_ixor hx hb dX3_mixQuarter_81 ?_
  refine r_iast hx hb h0 hw 1 rfl (i := qd) (by omega) (by omega) dX3_mixQuarter_82 (fun H locs hw => ?_)
  have hw : WD g A s [(h, .inr (3, [.ref ia, .ref ba, .int (nI ps)])), (ba, .inl (g.2.1 0, 16, .inl (upd (q2 (q1 f qa qb qd) qa qb qc) qd (((q2 (q1 f qa qb qd) qa qb qc) qd) ^^^ (rotl (((q2 (q1 f qa qb qd) qa qb qc) qc) + ((q2 (q1 f qa qb qd) qa qb qc) qb)) (nI 13))))))] [] H locs := hw
  have hw : WD g A s [(h, .inr (3, [.ref ia, .ref ba, .int (nI ps)])), (ba, .inl (g.2.1 0, 16, .inl (q3 (q2 (q1 f qa qb qd) qa qb qc) qb qc qd)))] [] H locs := hw
  refine lv_aload_n hx hb dX3_mixQuarter_83 rfl (lv_at hl 0 rfl) ?_
  refine r_get (ci := 3) (v := .ref ba) (C := RX3) (T := TX3) (N := 3) hx hb hts hinX3 hown h0 hw 0 rfl rfl 1 (by decide) k15 rfl dX3_mixQuarter_84 ?_
  refine lv_iload_n hx hb dX3_mixQuarter_87 rfl (lv_at hl 1 rfl) ?_
  refine lv_dup2_11 hx hb dX3_mixQuarter_88 rfl rfl ?_
  refine r_iald hx hb h0 hw 1 rfl (i := qa) (by omega) (by omega) dX3_mixQuarter_89 ?_
  refine lv_aload_n hx hb dX3_mixQuarter_90 rfl (lv_at hl 0 rfl) ?_
  refine r_get (ci := 3) (v := .ref ba) (C := RX3) (T := TX3) (N := 3) hx hb hts hinX3 hown h0 hw 0 rfl rfl 1 (by decide) k15 rfl dX3_mixQuarter_91 ?_
  refine lv_iload hx hb dX3_mixQuarter_94 (lv_at hl 4 rfl) ?_
  refine r_iald hx hb h0 hw 1 rfl (i := qd) (by omega) (by omega) dX3_mixQuarter_96 ?_
  refine lv_aload_n hx hb dX3_mixQuarter_97 rfl (lv_at hl 0 rfl) ?_
  refine r_get (ci := 3) (v := .ref ba) (C := RX3) (T := TX3) (N := 3) hx hb hts hinX3 hown h0 hw 0 rfl rfl 1 (by decide) k15 rfl dX3_mixQuarter_98 ?_
  refine lv_iload_n hx hb dX3_mixQuarter_101 rfl (lv_at hl 3 rfl) ?_
  refine r_iald hx hb h0 hw 1 rfl (i := qc) (by omega) (by omega) dX3_mixQuarter_102 ?_
  refine lv_iadd hx hb dX3_mixQuarter_103 ?_
  refine lv_bipush (v := nI 18) hx hb dX3_mixQuarter_104 (by decide +kernel) ?_
  refine r_calli (wr := [(h, .inr (3, [.ref ia, .ref ba, .int (nI ps)])), (ba, .inl (g.2.1 0, 16, .inl (q3 (q2 (q1 f qa qb qd) qa qb qc) qb qc qd)))]) [] [0, 1] h0 hw rfl rfl (by decide) (by decide) (va_runS (As := [.int (((q3 (q2 (q1 f qa qb qd) qa qb qc) qb qc qd) qd) + ((q3 (q2 (q1 f qa qb qd) qa qb qc) qb qc qd) qc)), .int (nI 18)]) (rest := [.int ((q3 (q2 (q1 f qa qb qd) qa qb qc) qb qc qd) qa), .int (nI qa), .ref ba]) ⟨hx, hb, hml, hown, hts⟩ (c_X3_turn l g (((q3 (q2 (q1 f qa qb qd) qa qb qc) qb qc qd) qd) + ((q3 (q2 (q1 f qa qb qd) qa qb qc) qb qc qd) qc)) (nI 18)  _) (va_cwS 2 hts gX3_mixQuarter_X3_turn rfl rfl rfl (by decide +kernel) ⟨Nat.le_of_ble_eq_true rfl, Nat.le_of_ble_eq_true rfl⟩) (preS_of [] [.int (((q3 (q2 (q1 f qa qb qd) qa qb qc) qb qc qd) qd) + ((q3 (q2 (q1 f qa qb qd) qa qb qc) qb qc qd) qc)), .int (nI 18)] h0 hw rfl (by decide)) rfl rfl hl.1 rfl (lv_room (Nat.le_of_ble_eq_true rfl)) dX3_mixQuarter_106 ⟨Nat.le_of_ble_eq_true rfl, Nat.le_of_ble_eq_true rfl⟩) (fun r10 u11 H locs hp12 hw => ?_)
  have hw : WD g A s [(h, .inr (3, [.ref ia, .ref ba, .int (nI ps)])), (ba, .inl (g.2.1 0, 16, .inl (q3 (q2 (q1 f qa qb qd) qa qb qc) qb qc qd)))] [] H locs := hw
  subst hp12
  refine lv_ixor hx hb dX3_mixQuarter_109 ?_
  refine r_iast hx hb h0 hw 1 rfl (i := qa) (by omega) (by omega) dX3_mixQuarter_110 (fun H locs hw => ?_)
  have hw : WD g A s [(h, .inr (3, [.ref ia, .ref ba, .int (nI ps)])), (ba, .inl (g.2.1 0, 16, .inl (upd (q3 (q2 (q1 f qa qb qd) qa qb qc) qb qc qd) qa (((q3 (q2 (q1 f qa qb qd) qa qb qc) qb qc qd) qa) ^^^ (rotl (((q3 (q2 (q1 f qa qb qd) qa qb qc) qb qc qd) qd) + ((q3 (q2 (q1 f qa qb qd) qa qb qc) qb qc qd) qc)) (nI 18))))))] [] H locs := hw
  have hw : WD g A s [(h, .inr (3, [.ref ia, .ref ba, .int (nI ps)])), (ba, .inl (g.2.1 0, 16, .inl (qr f qa qb qc qd)))] [] H locs := hw
  exact hret hw () (trivial) (rfl) (by omega) (by omega) dX3_mixQuarter_111

set_option maxHeartbeats 4000000 in
set_option maxRecDepth 100000 in
theorem c_X3_mixColumns (l : Launch) (g : GE) (h : Nat) (ia : Nat) (ba : Nat) (ps : Nat) (f : Nat → Int32) (sz : Nat) : MV l yX3_mixColumns wsX3_mixColumns { frames := 2, cells := 0, slots := 0, locals := 45 } g [.ref h] [(h, .inr (3, [.ref ia, .ref ba, .int (nI ps)])), (ba, .inl (g.2.1 0, 16, .inl (f)))] sz (fun (_ : Unit) => True) (fun (_ : Unit) => [(h, .inr (3, [.ref ia, .ref ba, .int (nI ps)])), (ba, .inl (g.2.1 0, 16, .inl (colR f)))]) 0 0 := by
  refine enterV (by decide) rfl (Nat.le_of_ble_eq_true rfl) ?_
  intro p e s m below meth c A ls ar Q hE h0 hret hw hl
  obtain ⟨hx, hb, hr, hml, hown, hts, hlocks, hname⟩ := hE
  have hown : s.vm.findClass RX3 = some m.cls := hown
  have hw : WD g A s [(h, .inr (3, [.ref ia, .ref ba, .int (nI ps)])), (ba, .inl (g.2.1 0, 16, .inl (f)))] [] s.heap [] := hw
  have hl : lv_has ls 1 [(0, .ref h)] := hl
  refine lv_aload_n hx hb dX3_mixColumns_0 rfl (lv_at hl 0 rfl) ?_
  refine lv_iconst (v := nI 0) hx hb dX3_mixColumns_1 (by decide +kernel) ?_
  refine lv_iconst (v := nI 4) hx hb dX3_mixColumns_2 (by decide +kernel) ?_
  refine lv_bipush (v := nI 8) hx hb dX3_mixColumns_3 (by decide +kernel) ?_
  refine lv_bipush (v := nI 12) hx hb dX3_mixColumns_5 (by decide +kernel) ?_
  refine r_callv (wr := []) [0, 1] [] h0 hw rfl rfl (by decide) (by decide) (va_runV (As := [.int (nI 0), .int (nI 4), .int (nI 8), .int (nI 12)]) (rest := []) ⟨hx, hb, hml, hown, hts⟩ (c_X3_mixQuarter l g h ia ba ps f 0 4 8 12 (by omega) (by omega) (by omega) (by omega) _) (cwV 4 hts gX3_mixColumns_X3_mixQuarter rfl rfl rfl (by decide +kernel) ⟨Nat.le_of_ble_eq_true rfl, Nat.le_of_ble_eq_true rfl⟩) (preV_of [0, 1] [.int (nI 0), .int (nI 4), .int (nI 8), .int (nI 12)] h0 hw rfl (by decide) 0 3 rfl rfl) rfl rfl hl.1 rfl (lv_room (Nat.le_of_ble_eq_true rfl)) dX3_mixColumns_7 ⟨Nat.le_of_ble_eq_true rfl, Nat.le_of_ble_eq_true rfl⟩) (fun u2 H locs hp3 hw => ?_)
  have hw : WD g A s [(h, .inr (3, [.ref ia, .ref ba, .int (nI ps)])), (ba, .inl (g.2.1 0, 16, .inl (qr f 0 4 8 12)))] [] H locs := hw
  refine lv_aload_n hx hb dX3_mixColumns_10 rfl (lv_at hl 0 rfl) ?_
  refine lv_iconst (v := nI 5) hx hb dX3_mixColumns_11 (by decide +kernel) ?_
  refine lv_bipush (v := nI 9) hx hb dX3_mixColumns_12 (by decide +kernel) ?_
  refine lv_bipush (v := nI 13) hx hb dX3_mixColumns_14 (by decide +kernel) ?_
  refine lv_iconst (v := nI 1) hx hb dX3_mixColumns_16 (by decide +kernel) ?_
  refine r_callv (wr := []) [0, 1] [] h0 hw rfl rfl (by decide) (by decide) (va_runV (As := [.int (nI 5), .int (nI 9), .int (nI 13), .int (nI 1)]) (rest := []) ⟨hx, hb, hml, hown, hts⟩ (c_X3_mixQuarter l g h ia ba ps (qr f 0 4 8 12) 5 9 13 1 (by omega) (by omega) (by omega) (by omega) _) (cwV 4 hts gX3_mixColumns_X3_mixQuarter rfl rfl rfl (by decide +kernel) ⟨Nat.le_of_ble_eq_true rfl, Nat.le_of_ble_eq_true rfl⟩) (preV_of [0, 1] [.int (nI 5), .int (nI 9), .int (nI 13), .int (nI 1)] h0 hw rfl (by decide) 0 3 rfl rfl) rfl rfl hl.1 rfl (lv_room (Nat.le_of_ble_eq_true rfl)) dX3_mixColumns_17 ⟨Nat.le_of_ble_eq_true rfl, Nat.le_of_ble_eq_true rfl⟩) (fun u5 H locs hp6 hw => ?_)
  have hw : WD g A s [(h, .inr (3, [.ref ia, .ref ba, .int (nI ps)])), (ba, .inl (g.2.1 0, 16, .inl (qr (qr f 0 4 8 12) 5 9 13 1)))] [] H locs := hw
  refine lv_aload_n hx hb dX3_mixColumns_20 rfl (lv_at hl 0 rfl) ?_
  refine lv_bipush (v := nI 10) hx hb dX3_mixColumns_21 (by decide +kernel) ?_
  refine lv_bipush (v := nI 14) hx hb dX3_mixColumns_23 (by decide +kernel) ?_
  refine lv_iconst (v := nI 2) hx hb dX3_mixColumns_25 (by decide +kernel) ?_
  refine lv_bipush (v := nI 6) hx hb dX3_mixColumns_26 (by decide +kernel) ?_
  refine r_callv (wr := []) [0, 1] [] h0 hw rfl rfl (by decide) (by decide) (va_runV (As := [.int (nI 10), .int (nI 14), .int (nI 2), .int (nI 6)]) (rest := []) ⟨hx, hb, hml, hown, hts⟩ (c_X3_mixQuarter l g h ia ba ps (qr (qr f 0 4 8 12) 5 9 13 1) 10 14 2 6 (by omega) (by omega) (by omega) (by omega) _) (cwV 4 hts gX3_mixColumns_X3_mixQuarter rfl rfl rfl (by decide +kernel) ⟨Nat.le_of_ble_eq_true rfl, Nat.le_of_ble_eq_true rfl⟩) (preV_of [0, 1] [.int (nI 10), .int (nI 14), .int (nI 2), .int (nI 6)] h0 hw rfl (by decide) 0 3 rfl rfl) rfl rfl hl.1 rfl (lv_room (Nat.le_of_ble_eq_true rfl)) dX3_mixColumns_28 ⟨Nat.le_of_ble_eq_true rfl, Nat.le_of_ble_eq_true rfl⟩) (fun u8 H locs hp9 hw => ?_)
  have hw : WD g A s [(h, .inr (3, [.ref ia, .ref ba, .int (nI ps)])), (ba, .inl (g.2.1 0, 16, .inl (qr (qr (qr f 0 4 8 12) 5 9 13 1) 10 14 2 6)))] [] H locs := hw
  refine lv_aload_n hx hb dX3_mixColumns_31 rfl (lv_at hl 0 rfl) ?_
  refine lv_bipush (v := nI 15) hx hb dX3_mixColumns_32 (by decide +kernel) ?_
  refine lv_iconst (v := nI 3) hx hb dX3_mixColumns_34 (by decide +kernel) ?_
  refine lv_bipush (v := nI 7) hx hb dX3_mixColumns_35 (by decide +kernel) ?_
  refine lv_bipush (v := nI 11) hx hb dX3_mixColumns_37 (by decide +kernel) ?_
  refine r_callv (wr := []) [0, 1] [] h0 hw rfl rfl (by decide) (by decide) (va_runV (As := [.int (nI 15), .int (nI 3), .int (nI 7), .int (nI 11)]) (rest := []) ⟨hx, hb, hml, hown, hts⟩ (c_X3_mixQuarter l g h ia ba ps (qr (qr (qr f 0 4 8 12) 5 9 13 1) 10 14 2 6) 15 3 7 11 (by omega) (by omega) (by omega) (by omega) _) (cwV 4 hts gX3_mixColumns_X3_mixQuarter rfl rfl rfl (by decide +kernel) ⟨Nat.le_of_ble_eq_true rfl, Nat.le_of_ble_eq_true rfl⟩) (preV_of [0, 1] [.int (nI 15), .int (nI 3), .int (nI 7), .int (nI 11)] h0 hw rfl (by decide) 0 3 rfl rfl) rfl rfl hl.1 rfl (lv_room (Nat.le_of_ble_eq_true rfl)) dX3_mixColumns_39 ⟨Nat.le_of_ble_eq_true rfl, Nat.le_of_ble_eq_true rfl⟩) (fun u11 H locs hp12 hw => ?_)
  have hw : WD g A s [(h, .inr (3, [.ref ia, .ref ba, .int (nI ps)])), (ba, .inl (g.2.1 0, 16, .inl (qr (qr (qr (qr f 0 4 8 12) 5 9 13 1) 10 14 2 6) 15 3 7 11)))] [] H locs := hw
  exact hret hw () (trivial) (rfl) (by omega) (by omega) dX3_mixColumns_42

set_option maxHeartbeats 4000000 in
set_option maxRecDepth 100000 in
theorem c_X3_mixRows (l : Launch) (g : GE) (h : Nat) (ia : Nat) (ba : Nat) (ps : Nat) (f : Nat → Int32) (sz : Nat) : MV l yX3_mixRows wsX3_mixRows { frames := 2, cells := 0, slots := 0, locals := 45 } g [.ref h] [(h, .inr (3, [.ref ia, .ref ba, .int (nI ps)])), (ba, .inl (g.2.1 0, 16, .inl (f)))] sz (fun (_ : Unit) => True) (fun (_ : Unit) => [(h, .inr (3, [.ref ia, .ref ba, .int (nI ps)])), (ba, .inl (g.2.1 0, 16, .inl (rowR f)))]) 0 0 := by
  refine enterV (by decide) rfl (Nat.le_of_ble_eq_true rfl) ?_
  intro p e s m below meth c A ls ar Q hE h0 hret hw hl
  obtain ⟨hx, hb, hr, hml, hown, hts, hlocks, hname⟩ := hE
  have hown : s.vm.findClass RX3 = some m.cls := hown
  have hw : WD g A s [(h, .inr (3, [.ref ia, .ref ba, .int (nI ps)])), (ba, .inl (g.2.1 0, 16, .inl (f)))] [] s.heap [] := hw
  have hl : lv_has ls 1 [(0, .ref h)] := hl
  refine lv_aload_n hx hb dX3_mixRows_0 rfl (lv_at hl 0 rfl) ?_
  refine lv_iconst (v := nI 0) hx hb dX3_mixRows_1 (by decide +kernel) ?_
  refine lv_iconst (v := nI 1) hx hb dX3_mixRows_2 (by decide +kernel) ?_
  refine lv_iconst (v := nI 2) hx hb dX3_mixRows_3 (by decide +kernel) ?_
  refine lv_iconst (v := nI 3) hx hb dX3_mixRows_4 (by decide +kernel) ?_
  refine r_callv (wr := []) [0, 1] [] h0 hw rfl rfl (by decide) (by decide) (va_runV (As := [.int (nI 0), .int (nI 1), .int (nI 2), .int (nI 3)]) (rest := []) ⟨hx, hb, hml, hown, hts⟩ (c_X3_mixQuarter l g h ia ba ps f 0 1 2 3 (by omega) (by omega) (by omega) (by omega) _) (cwV 4 hts gX3_mixRows_X3_mixQuarter rfl rfl rfl (by decide +kernel) ⟨Nat.le_of_ble_eq_true rfl, Nat.le_of_ble_eq_true rfl⟩) (preV_of [0, 1] [.int (nI 0), .int (nI 1), .int (nI 2), .int (nI 3)] h0 hw rfl (by decide) 0 3 rfl rfl) rfl rfl hl.1 rfl (lv_room (Nat.le_of_ble_eq_true rfl)) dX3_mixRows_5 ⟨Nat.le_of_ble_eq_true rfl, Nat.le_of_ble_eq_true rfl⟩) (fun u2 H locs hp3 hw => ?_)
  have hw : WD g A s [(h, .inr (3, [.ref ia, .ref ba, .int (nI ps)])), (ba, .inl (g.2.1 0, 16, .inl (qr f 0 1 2 3)))] [] H locs := hw
  refine lv_aload_n hx hb dX3_mixRows_8 rfl (lv_at hl 0 rfl) ?_
  refine lv_iconst (v := nI 5) hx hb dX3_mixRows_9 (by decide +kernel) ?_
  refine lv_bipush (v := nI 6) hx hb dX3_mixRows_10 (by decide +kernel) ?_
  refine lv_bipush (v := nI 7) hx hb dX3_mixRows_12 (by decide +kernel) ?_
  refine lv_iconst (v := nI 4) hx hb dX3_mixRows_14 (by decide +kernel) ?_
  refine r_callv (wr := []) [0, 1] [] h0 hw rfl rfl (by decide) (by decide) (va_runV (As := [.int (nI 5), .int (nI 6), .int (nI 7), .int (nI 4)]) (rest := []) ⟨hx, hb, hml, hown, hts⟩ (c_X3_mixQuarter l g h ia ba ps (qr f 0 1 2 3) 5 6 7 4 (by omega) (by omega) (by omega) (by omega) _) (cwV 4 hts gX3_mixRows_X3_mixQuarter rfl rfl rfl (by decide +kernel) ⟨Nat.le_of_ble_eq_true rfl, Nat.le_of_ble_eq_true rfl⟩) (preV_of [0, 1] [.int (nI 5), .int (nI 6), .int (nI 7), .int (nI 4)] h0 hw rfl (by decide) 0 3 rfl rfl) rfl rfl hl.1 rfl (lv_room (Nat.le_of_ble_eq_true rfl)) dX3_mixRows_15 ⟨Nat.le_of_ble_eq_true rfl, Nat.le_of_ble_eq_true rfl⟩) (fun u5 H locs hp6 hw => ?_)
  have hw : WD g A s [(h, .inr (3, [.ref ia, .ref ba, .int (nI ps)])), (ba, .inl (g.2.1 0, 16, .inl (qr (qr f 0 1 2 3) 5 6 7 4)))] [] H locs := hw
  refine lv_aload_n hx hb dX3_mixRows_18 rfl (lv_at hl 0 rfl) ?_
  refine lv_bipush (v := nI 10) hx hb dX3_mixRows_19 (by decide +kernel) ?_
  refine lv_bipush (v := nI 11) hx hb dX3_mixRows_21 (by decide +kernel) ?_
  refine lv_bipush (v := nI 8) hx hb dX3_mixRows_23 (by decide +kernel) ?_
  refine lv_bipush (v := nI 9) hx hb dX3_mixRows_25 (by decide +kernel) ?_
  refine r_callv (wr := []) [0, 1] [] h0 hw rfl rfl (by decide) (by decide) (va_runV (As := [.int (nI 10), .int (nI 11), .int (nI 8), .int (nI 9)]) (rest := []) ⟨hx, hb, hml, hown, hts⟩ (c_X3_mixQuarter l g h ia ba ps (qr (qr f 0 1 2 3) 5 6 7 4) 10 11 8 9 (by omega) (by omega) (by omega) (by omega) _) (cwV 4 hts gX3_mixRows_X3_mixQuarter rfl rfl rfl (by decide +kernel) ⟨Nat.le_of_ble_eq_true rfl, Nat.le_of_ble_eq_true rfl⟩) (preV_of [0, 1] [.int (nI 10), .int (nI 11), .int (nI 8), .int (nI 9)] h0 hw rfl (by decide) 0 3 rfl rfl) rfl rfl hl.1 rfl (lv_room (Nat.le_of_ble_eq_true rfl)) dX3_mixRows_27 ⟨Nat.le_of_ble_eq_true rfl, Nat.le_of_ble_eq_true rfl⟩) (fun u8 H locs hp9 hw => ?_)
  have hw : WD g A s [(h, .inr (3, [.ref ia, .ref ba, .int (nI ps)])), (ba, .inl (g.2.1 0, 16, .inl (qr (qr (qr f 0 1 2 3) 5 6 7 4) 10 11 8 9)))] [] H locs := hw
  refine lv_aload_n hx hb dX3_mixRows_30 rfl (lv_at hl 0 rfl) ?_
  refine lv_bipush (v := nI 15) hx hb dX3_mixRows_31 (by decide +kernel) ?_
  refine lv_bipush (v := nI 12) hx hb dX3_mixRows_33 (by decide +kernel) ?_
  refine lv_bipush (v := nI 13) hx hb dX3_mixRows_35 (by decide +kernel) ?_
  refine lv_bipush (v := nI 14) hx hb dX3_mixRows_37 (by decide +kernel) ?_
  refine r_callv (wr := []) [0, 1] [] h0 hw rfl rfl (by decide) (by decide) (va_runV (As := [.int (nI 15), .int (nI 12), .int (nI 13), .int (nI 14)]) (rest := []) ⟨hx, hb, hml, hown, hts⟩ (c_X3_mixQuarter l g h ia ba ps (qr (qr (qr f 0 1 2 3) 5 6 7 4) 10 11 8 9) 15 12 13 14 (by omega) (by omega) (by omega) (by omega) _) (cwV 4 hts gX3_mixRows_X3_mixQuarter rfl rfl rfl (by decide +kernel) ⟨Nat.le_of_ble_eq_true rfl, Nat.le_of_ble_eq_true rfl⟩) (preV_of [0, 1] [.int (nI 15), .int (nI 12), .int (nI 13), .int (nI 14)] h0 hw rfl (by decide) 0 3 rfl rfl) rfl rfl hl.1 rfl (lv_room (Nat.le_of_ble_eq_true rfl)) dX3_mixRows_39 ⟨Nat.le_of_ble_eq_true rfl, Nat.le_of_ble_eq_true rfl⟩) (fun u11 H locs hp12 hw => ?_)
  have hw : WD g A s [(h, .inr (3, [.ref ia, .ref ba, .int (nI ps)])), (ba, .inl (g.2.1 0, 16, .inl (qr (qr (qr (qr f 0 1 2 3) 5 6 7 4) 10 11 8 9) 15 12 13 14)))] [] H locs := hw
  exact hret hw () (trivial) (rfl) (by omega) (by omega) dX3_mixRows_42

set_option maxHeartbeats 4000000 in
set_option maxRecDepth 100000 in
theorem c_X3_fillBlock (l : Launch) (g : GE) (h : Nat) (ia : Nat) (ba : Nat) (ps : Nat) (x : Nat → Int32) (f : Nat → Int32) (sz : Nat) : MV l yX3_fillBlock wsX3_fillBlock { frames := 3, cells := 0, slots := 0, locals := 65 } g [.ref h] [(h, .inr (3, [.ref ia, .ref ba, .int (nI ps)])), (ia, .inl (g.2.1 0, 16, .inl (x))), (ba, .inl (g.2.1 0, 16, .inl (f)))] sz (fun (_ : Unit) => True) (fun (_ : Unit) => [(h, .inr (3, [.ref ia, .ref ba, .int (nI ps)])), (ia, .inl (g.2.1 0, 16, .inl (x))), (ba, .inl (g.2.1 0, 16, .inl (sBlk x)))]) 0 0 := by
  refine enterV (by decide) rfl (Nat.le_of_ble_eq_true rfl) ?_
  intro p e s m below meth c A ls ar Q hE h0 hret hw hl
  obtain ⟨hx, hb, hr, hml, hown, hts, hlocks, hname⟩ := hE
  have hown : s.vm.findClass RX3 = some m.cls := hown
  have hw : WD g A s [(h, .inr (3, [.ref ia, .ref ba, .int (nI ps)])), (ia, .inl (g.2.1 0, 16, .inl (x))), (ba, .inl (g.2.1 0, 16, .inl (f)))] [] s.heap [] := hw
  have hinX3 : ∀ w ∈ u_ws RX3 TX3 3, w ∈ wsX3_fillBlock := by decide +kernel
  have k11 := hts (.fieldLink RX3 11 "RecordWire$Salsa20" "input" "[I") (by decide +kernel)
  have k15 := hts (.fieldLink RX3 15 "RecordWire$Salsa20" "block" "[I") (by decide +kernel)
  have hl : lv_has ls 2 [(0, .ref h)] := hl
  refine lv_iconst (v := nI 0) hx hb dX3_fillBlock_0 (by decide +kernel) ?_
  refine lv_istore_n (lv' := [(1, .int (nI 0)), (0, .ref h)]) hx hb dX3_fillBlock_1 rfl hl (by decide) rfl (fun ls hl => ?_)
  have lp2 : ∀ (fu : Nat) (i : Nat), 16 - i < fu → (i ≤ 16) → ∀ (H : Heap) (locs : List Loc) (ls : Array Slot), WD g A s [(h, .inr (3, [.ref ia, .ref ba, .int (nI ps)])), (ia, .inl (g.2.1 0, 16, .inl (x))), (ba, .inl (g.2.1 0, 16, .inl (cpF f x i)))] [] H locs → lv_has ls 2 [(1, .int (nI i)), (0, .ref h)] → W p l e { frames := 3, cells := 0, slots := 0, locals := 65 } s m ar below meth c H locs 0 0 Q (F0 m 2 ls []) := by
    intro fu
    induction fu with
    | zero => intro i hmz; exact absurd hmz (Nat.not_lt_zero _)
    | succ fu ih =>
      intro i hms hi H locs ls hw hl
      refine lv_iload_n hx hb dX3_fillBlock_2 rfl (lv_at hl 0 rfl) ?_
      refine lv_bipush (v := nI 16) hx hb dX3_fillBlock_3 (by decide +kernel) ?_
      refine lv_icmp_ge (tgt := 26) hx hb dX3_fillBlock_5 (by decide) (fun c1 => ?_) (fun c1 => ?_)
      · skip
        have c1 : 16 ≤ i := (nI_leI (by omega) (by omega)).mp c1
        have hq : i = 16 := by omega
        subst i
        refine lv_iconst (v := nI 0) hx hb dX3_fillBlock_26 (by decide +kernel) ?_
        refine lv_istore_n (lv' := [(1, .int (nI 0)), (0, .ref h)]) hx hb dX3_fillBlock_27 rfl hl (by decide) rfl (fun ls hl => ?_)
        have lp28 : ∀ (fu : Nat) (i : Nat), 10 - i < fu → (i ≤ 10) → ∀ (H : Heap) (locs : List Loc) (ls : Array Slot), WD g A s [(h, .inr (3, [.ref ia, .ref ba, .int (nI ps)])), (ia, .inl (g.2.1 0, 16, .inl (x))), (ba, .inl (g.2.1 0, 16, .inl (dbl (cpF f x 16) i)))] [] H locs → lv_has ls 2 [(1, .int (nI i)), (0, .ref h)] → W p l e { frames := 3, cells := 0, slots := 0, locals := 65 } s m ar below meth c H locs 0 0 Q (F0 m 28 ls []) := by
          intro fu
          induction fu with
          | zero => intro i hmz; exact absurd hmz (Nat.not_lt_zero _)
          | succ fu ih =>
            intro i hms hi H locs ls hw hl
            refine lv_iload_n hx hb dX3_fillBlock_28 rfl (lv_at hl 0 rfl) ?_
            refine lv_bipush (v := nI 10) hx hb dX3_fillBlock_29 (by decide +kernel) ?_
            refine lv_icmp_ge (tgt := 48) hx hb dX3_fillBlock_31 (by decide) (fun c2 => ?_) (fun c2 => ?_)
            · skip
              have c2 : 10 ≤ i := (nI_leI (by omega) (by omega)).mp c2
              have hq : i = 10 := by omega
              subst i
              refine lv_iconst (v := nI 0) hx hb dX3_fillBlock_48 (by decide +kernel) ?_
              refine lv_istore_n (lv' := [(1, .int (nI 0)), (0, .ref h)]) hx hb dX3_fillBlock_49 rfl hl (by decide) rfl (fun ls hl => ?_)
              have lp50 : ∀ (fu : Nat) (i : Nat), 16 - i < fu → (i ≤ 16) → ∀ (H : Heap) (locs : List Loc) (ls : Array Slot), WD g A s [(h, .inr (3, [.ref ia, .ref ba, .int (nI ps)])), (ia, .inl (g.2.1 0, 16, .inl (x))), (ba, .inl (g.2.1 0, 16, .inl (addF (dbl (cpF f x 16) 10) x i)))] [] H locs → lv_has ls 2 [(1, .int (nI i)), (0, .ref h)] → W p l e { frames := 3, cells := 0, slots := 0, locals := 65 } s m ar below meth c H locs 0 0 Q (F0 m 50 ls []) := by
                intro fu
                induction fu with
                | zero => intro i hmz; exact absurd hmz (Nat.not_lt_zero _)
                | succ fu ih =>
                  intro i hms hi H locs ls hw hl
                  refine lv_iload_n hx hb dX3_fillBlock_50 rfl (lv_at hl 0 rfl) ?_
                  refine lv_bipush (v := nI 16) hx hb dX3_fillBlock_51 (by decide +kernel) ?_
                  refine lv_icmp_ge (tgt := 77) hx hb dX3_fillBlock_53 (by decide) (fun c3 => ?_) (fun c3 => ?_)
                  · skip
                    have c3 : 16 ≤ i := (nI_leI (by omega) (by omega)).mp c3
                    have hq : i = 16 := by omega
                    subst i
                    have hw := hw.cong 2 rfl (f' := sBlk x) (sBlk_of f x)
                    have hw : WD g A s [(h, .inr (3, [.ref ia, .ref ba, .int (nI ps)])), (ia, .inl (g.2.1 0, 16, .inl (x))), (ba, .inl (g.2.1 0, 16, .inl (sBlk x)))] [] _ _ := hw
                    exact hret hw () (trivial) (rfl) (by omega) (by omega) dX3_fillBlock_77
                  · skip
                    have c3 : ¬ 16 ≤ i := fun q => c3 (((nI_leI (by omega) (by omega)).mpr q))
                    refine lv_aload_n hx hb dX3_fillBlock_56 rfl (lv_at hl 1 rfl) ?_
                    refine r_get (ci := 3) (v := .ref ba) (C := RX3) (T := TX3) (N := 3) hx hb hts hinX3 hown h0 hw 0 rfl rfl 1 (by decide) k15 rfl dX3_fillBlock_57 ?_
                    refine lv_iload_n hx hb dX3_fillBlock_60 rfl (lv_at hl 0 rfl) ?_
                    refine lv_dup2_11 hx hb dX3_fillBlock_61 rfl rfl ?_
                    refine r_iald hx hb h0 hw 2 rfl (i := i) (by omega) (by omega) dX3_fillBlock_62 ?_
                    refine lv_aload_n hx hb dX3_fillBlock_63 rfl (lv_at hl 1 rfl) ?_
                    refine r_get (ci := 3) (v := .ref ia) (C := RX3) (T := TX3) (N := 3) hx hb hts hinX3 hown h0 hw 0 rfl rfl 0 (by decide) k11 rfl dX3_fillBlock_64 ?_
                    refine lv_iload_n hx hb dX3_fillBlock_67 rfl (lv_at hl 0 rfl) ?_
                    refine r_iald hx hb h0 hw 1 rfl (i := i) (by omega) (by omega) dX3_fillBlock_68 ?_
                    refine lv_iadd hx hb dX3_fillBlock_69 ?_
                    refine r_iast hx hb h0 hw 2 rfl (i := i) (by omega) (by omega) dX3_fillBlock_70 (fun H locs hw => ?_)
                    have hw : WD g A s [(h, .inr (3, [.ref ia, .ref ba, .int (nI ps)])), (ia, .inl (g.2.1 0, 16, .inl (x))), (ba, .inl (g.2.1 0, 16, .inl (upd (addF (dbl (cpF f x 16) 10) x i) i (((addF (dbl (cpF f x 16) 10) x i) i) + (x i)))))] [] H locs := hw
                    refine lv_iinc (v := nI (i + 1)) (lv' := [(1, .int (nI (i + 1))), (0, .ref h)]) hx hb dX3_fillBlock_71 hl (k := 0) rfl (nI_add i 1) (by decide) rfl (fun ls hl => ?_)
                    refine lv_goto (tgt := 50) hx hb dX3_fillBlock_74 (by decide) ?_
                    exact ih (i + 1) (by omega) (by omega) _ _ _ hw (lv_sub hl [0, 1] rfl)
              exact lp50 (16 - 0 + 1) 0 (by omega) (by omega) _ _ _ hw (lv_sub hl [0, 1] rfl)
            · skip
              have c2 : ¬ 10 ≤ i := fun q => c2 (((nI_leI (by omega) (by omega)).mpr q))
              refine lv_aload_n hx hb dX3_fillBlock_34 rfl (lv_at hl 1 rfl) ?_
              refine r_callv (wr := [(ia, .inl (g.2.1 0, 16, .inl (x)))]) [0, 2] [1] h0 hw rfl rfl (by decide) (by decide) (va_runV (As := []) (rest := []) ⟨hx, hb, hml, hown, hts⟩ (c_X3_mixColumns l g h ia ba ps (dbl (cpF f x 16) i)  _) (cwV 0 hts gX3_fillBlock_X3_mixColumns rfl rfl rfl (by decide +kernel) ⟨Nat.le_of_ble_eq_true rfl, Nat.le_of_ble_eq_true rfl⟩) (preV_of [0, 2] [] h0 hw rfl (by decide) 0 3 rfl rfl) rfl rfl hl.1 rfl (lv_room (Nat.le_of_ble_eq_true rfl)) dX3_fillBlock_35 ⟨Nat.le_of_ble_eq_true rfl, Nat.le_of_ble_eq_true rfl⟩) (fun u5 H locs hp6 hw => ?_)
              have hw : WD g A s [(ia, .inl (g.2.1 0, 16, .inl (x))), (h, .inr (3, [.ref ia, .ref ba, .int (nI ps)])), (ba, .inl (g.2.1 0, 16, .inl (colR (dbl (cpF f x 16) i))))] [] H locs := hw
              refine lv_aload_n hx hb dX3_fillBlock_38 rfl (lv_at hl 1 rfl) ?_
              refine r_callv (wr := [(ia, .inl (g.2.1 0, 16, .inl (x)))]) [1, 2] [0] h0 hw rfl rfl (by decide) (by decide) (va_runV (As := []) (rest := []) ⟨hx, hb, hml, hown, hts⟩ (c_X3_mixRows l g h ia ba ps (colR (dbl (cpF f x 16) i))  _) (cwV 0 hts gX3_fillBlock_X3_mixRows rfl rfl rfl (by decide +kernel) ⟨Nat.le_of_ble_eq_true rfl, Nat.le_of_ble_eq_true rfl⟩) (preV_of [1, 2] [] h0 hw rfl (by decide) 1 3 rfl rfl) rfl rfl hl.1 rfl (lv_room (Nat.le_of_ble_eq_true rfl)) dX3_fillBlock_39 ⟨Nat.le_of_ble_eq_true rfl, Nat.le_of_ble_eq_true rfl⟩) (fun u8 H locs hp9 hw => ?_)
              have hw : WD g A s [(ia, .inl (g.2.1 0, 16, .inl (x))), (h, .inr (3, [.ref ia, .ref ba, .int (nI ps)])), (ba, .inl (g.2.1 0, 16, .inl (rowR (colR (dbl (cpF f x 16) i)))))] [] H locs := hw
              refine lv_iinc (v := nI (i + 1)) (lv' := [(1, .int (nI (i + 1))), (0, .ref h)]) hx hb dX3_fillBlock_42 hl (k := 0) rfl (nI_add i 1) (by decide) rfl (fun ls hl => ?_)
              refine lv_goto (tgt := 28) hx hb dX3_fillBlock_45 (by decide) ?_
              exact ih (i + 1) (by omega) (by omega) _ _ _ (hw.perm [1, 0, 2] (by decide) rfl) (lv_sub hl [0, 1] rfl)
        exact lp28 (10 - 0 + 1) 0 (by omega) (by omega) _ _ _ hw (lv_sub hl [0, 1] rfl)
      · skip
        have c1 : ¬ 16 ≤ i := fun q => c1 (((nI_leI (by omega) (by omega)).mpr q))
        refine lv_aload_n hx hb dX3_fillBlock_8 rfl (lv_at hl 1 rfl) ?_
        refine r_get (ci := 3) (v := .ref ba) (C := RX3) (T := TX3) (N := 3) hx hb hts hinX3 hown h0 hw 0 rfl rfl 1 (by decide) k15 rfl dX3_fillBlock_9 ?_
        refine lv_iload_n hx hb dX3_fillBlock_12 rfl (lv_at hl 0 rfl) ?_
        refine lv_aload_n hx hb dX3_fillBlock_13 rfl (lv_at hl 1 rfl) ?_
        refine r_get (ci := 3) (v := .ref ia) (C := RX3) (T := TX3) (N := 3) hx hb hts hinX3 hown h0 hw 0 rfl rfl 0 (by decide) k11 rfl dX3_fillBlock_14 ?_
        refine lv_iload_n hx hb dX3_fillBlock_17 rfl (lv_at hl 0 rfl) ?_
        refine r_iald hx hb h0 hw 1 rfl (i := i) (by omega) (by omega) dX3_fillBlock_18 ?_
        refine r_iast hx hb h0 hw 2 rfl (i := i) (by omega) (by omega) dX3_fillBlock_19 (fun H locs hw => ?_)
        have hw : WD g A s [(h, .inr (3, [.ref ia, .ref ba, .int (nI ps)])), (ia, .inl (g.2.1 0, 16, .inl (x))), (ba, .inl (g.2.1 0, 16, .inl (upd (cpF f x i) i (x i))))] [] H locs := hw
        refine lv_iinc (v := nI (i + 1)) (lv' := [(1, .int (nI (i + 1))), (0, .ref h)]) hx hb dX3_fillBlock_20 hl (k := 0) rfl (nI_add i 1) (by decide) rfl (fun ls hl => ?_)
        refine lv_goto (tgt := 2) hx hb dX3_fillBlock_23 (by decide) ?_
        exact ih (i + 1) (by omega) (by omega) _ _ _ hw (lv_sub hl [0, 1] rfl)
  exact lp2 (16 - 0 + 1) 0 (by omega) (by omega) _ _ _ hw (lv_sub hl [0, 1] rfl)

set_option maxHeartbeats 4000000 in
set_option maxRecDepth 100000 in
theorem c_X3_begin (l : Launch) (g : GE) (h : Nat) (ia : Nat) (ba : Nat) (ps : Nat) (x : Nat → Int32) (ca : Nat) (cf : Nat → Int32) (rd : Nat) (rb : Nat) (rn : Nat) (rf : Nat → Int32) (hh : 13 ≤ rn) (hh2 : rn ≤ 127) (sz : Nat) : MV l yX3_begin wsX3_begin { frames := 2, cells := 0, slots := 0, locals := 44 } g [.ref h, .ref ca, .ref rd] [(h, .inr (3, [.ref ia, .ref ba, .int (nI ps)])), (ia, .inl (g.2.1 0, 16, .inl (x))), (ca, .inl (g.2.1 0, 32, .inl (cf))), (rd, .inr (0, [.ref rb, .int (nI rn)])), (rb, .inl (g.2.1 0, 127, .inl (rf)))] sz (fun (_ : Unit) => True) (fun (_ : Unit) => [(h, .inr (3, [.ref ia, .ref ba, .int (nI 64)])), (ia, .inl (g.2.1 0, 16, .inl (sIn cf rf (nI 0)))), (ca, .inl (g.2.1 0, 32, .inl (cf))), (rd, .inr (0, [.ref rb, .int (nI rn)])), (rb, .inl (g.2.1 0, 127, .inl (rf)))]) 0 0 := by
  refine enterV (by decide) rfl (Nat.le_of_ble_eq_true rfl) ?_
  intro p e s m below meth c A ls ar Q hE h0 hret hw hl
  obtain ⟨hx, hb, hr, hml, hown, hts, hlocks, hname⟩ := hE
  have hown : s.vm.findClass RX3 = some m.cls := hown
  have hw : WD g A s [(h, .inr (3, [.ref ia, .ref ba, .int (nI ps)])), (ia, .inl (g.2.1 0, 16, .inl (x))), (ca, .inl (g.2.1 0, 32, .inl (cf))), (rd, .inr (0, [.ref rb, .int (nI rn)])), (rb, .inl (g.2.1 0, 127, .inl (rf)))] [] s.heap [] := hw
  have hinX3 : ∀ w ∈ u_ws RX3 TX3 3, w ∈ wsX3_begin := by decide +kernel
  have k11 := hts (.fieldLink RX3 11 "RecordWire$Salsa20" "input" "[I") (by decide +kernel)
  have k18 := hts (.fieldLink RX3 18 "RecordWire$Salsa20" "EXPAND" "[I") (by decide +kernel)
  have k29 := hts (.fieldLink RX3 29 "RecordWire$Salsa20" "position" "I") (by decide +kernel)
  have hl : lv_has ls 4 [(0, .ref h), (1, .ref ca), (2, .ref rd)] := hl
  refine lv_iconst (v := nI 0) hx hb dX3_begin_0 (by decide +kernel) ?_
  refine lv_istore_n (lv' := [(3, .int (nI 0)), (0, .ref h), (1, .ref ca), (2, .ref rd)]) hx hb dX3_begin_1 rfl hl (by decide) rfl (fun ls hl => ?_)
  have lp2 : ∀ (fu : Nat) (i : Nat), 4 - i < fu → (i ≤ 4) → ∀ (H : Heap) (locs : List Loc) (ls : Array Slot), WD g A s [(h, .inr (3, [.ref ia, .ref ba, .int (nI ps)])), (ia, .inl (g.2.1 0, 16, .inl (inL x cf i))), (ca, .inl (g.2.1 0, 32, .inl (cf))), (rd, .inr (0, [.ref rb, .int (nI rn)])), (rb, .inl (g.2.1 0, 127, .inl (rf)))] [] H locs → lv_has ls 4 [(3, .int (nI i)), (0, .ref h), (1, .ref ca), (2, .ref rd)] → W p l e { frames := 2, cells := 0, slots := 0, locals := 44 } s m ar below meth c H locs 0 0 Q (F0 m 2 ls []) := by
    intro fu
    induction fu with
    | zero => intro i hmz; exact absurd hmz (Nat.not_lt_zero _)
    | succ fu ih =>
      intro i hms hi H locs ls hw hl
      refine lv_iload_n hx hb dX3_begin_2 rfl (lv_at hl 0 rfl) ?_
      refine lv_iconst (v := nI 4) hx hb dX3_begin_3 (by decide +kernel) ?_
      refine lv_icmp_ge (tgt := 60) hx hb dX3_begin_4 (by decide) (fun c1 => ?_) (fun c1 => ?_)
      · skip
        have c1 : 4 ≤ i := (nI_leI (by omega) (by omega)).mp c1
        have hq : i = 4 := by omega
        subst i
        refine lv_aload_n hx hb dX3_begin_60 rfl (lv_at hl 1 rfl) ?_
        refine r_get (ci := 3) (v := .ref ia) (C := RX3) (T := TX3) (N := 3) hx hb hts hinX3 hown h0 hw 0 rfl rfl 0 (by decide) k11 rfl dX3_begin_61 ?_
        refine lv_bipush (v := nI 6) hx hb dX3_begin_64 (by decide +kernel) ?_
        refine lv_aload_n hx hb dX3_begin_66 rfl (lv_at hl 3 rfl) ?_
        refine lv_iconst (v := nI 5) hx hb dX3_begin_67 (by decide +kernel) ?_
        refine r_calli (wr := [(h, .inr (3, [.ref ia, .ref ba, .int (nI ps)])), (ia, .inl (g.2.1 0, 16, .inl (inL x cf 4))), (ca, .inl (g.2.1 0, 32, .inl (cf)))]) [3, 4] [0, 1, 2] h0 hw rfl rfl (by decide) (by decide) (va_runS (As := [.ref rd, .int (nI 5)]) (rest := [.int (nI 6), .ref ia]) ⟨hx, hb, hml, hown, hts⟩ (c_X3_headWord l g rd rb rn rf 5 (by omega) (by omega) _) (va_cwS 2 hts gX3_begin_X3_headWord rfl rfl rfl (by decide +kernel) ⟨Nat.le_of_ble_eq_true rfl, Nat.le_of_ble_eq_true rfl⟩) (preS_of [3, 4] [.ref rd, .int (nI 5)] h0 hw rfl (by decide)) rfl rfl hl.1 rfl (lv_room (Nat.le_of_ble_eq_true rfl)) dX3_begin_68 ⟨Nat.le_of_ble_eq_true rfl, Nat.le_of_ble_eq_true rfl⟩) (fun r2 u3 H locs hp4 hw => ?_)
        have hw : WD g A s [(h, .inr (3, [.ref ia, .ref ba, .int (nI ps)])), (ia, .inl (g.2.1 0, 16, .inl (inL x cf 4))), (ca, .inl (g.2.1 0, 32, .inl (cf))), (rd, .inr (0, [.ref rb, .int (nI rn)])), (rb, .inl (g.2.1 0, 127, .inl (rf)))] [] H locs := hw
        subst hp4
        refine r_iast hx hb h0 hw 1 rfl (i := 6) (by omega) (by omega) dX3_begin_71 (fun H locs hw => ?_)
        have hw : WD g A s [(h, .inr (3, [.ref ia, .ref ba, .int (nI ps)])), (ia, .inl (g.2.1 0, 16, .inl (upd (inL x cf 4) 6 (kwd rf 5)))), (ca, .inl (g.2.1 0, 32, .inl (cf))), (rd, .inr (0, [.ref rb, .int (nI rn)])), (rb, .inl (g.2.1 0, 127, .inl (rf)))] [] H locs := hw
        refine lv_aload_n hx hb dX3_begin_72 rfl (lv_at hl 1 rfl) ?_
        refine r_get (ci := 3) (v := .ref ia) (C := RX3) (T := TX3) (N := 3) hx hb hts hinX3 hown h0 hw 0 rfl rfl 0 (by decide) k11 rfl dX3_begin_73 ?_
        refine lv_bipush (v := nI 7) hx hb dX3_begin_76 (by decide +kernel) ?_
        refine lv_aload_n hx hb dX3_begin_78 rfl (lv_at hl 3 rfl) ?_
        refine lv_bipush (v := nI 9) hx hb dX3_begin_79 (by decide +kernel) ?_
        refine r_calli (wr := [(h, .inr (3, [.ref ia, .ref ba, .int (nI ps)])), (ia, .inl (g.2.1 0, 16, .inl (upd (inL x cf 4) 6 (kwd rf 5)))), (ca, .inl (g.2.1 0, 32, .inl (cf)))]) [3, 4] [0, 1, 2] h0 hw rfl rfl (by decide) (by decide) (va_runS (As := [.ref rd, .int (nI 9)]) (rest := [.int (nI 7), .ref ia]) ⟨hx, hb, hml, hown, hts⟩ (c_X3_headWord l g rd rb rn rf 9 (by omega) (by omega) _) (va_cwS 2 hts gX3_begin_X3_headWord rfl rfl rfl (by decide +kernel) ⟨Nat.le_of_ble_eq_true rfl, Nat.le_of_ble_eq_true rfl⟩) (preS_of [3, 4] [.ref rd, .int (nI 9)] h0 hw rfl (by decide)) rfl rfl hl.1 rfl (lv_room (Nat.le_of_ble_eq_true rfl)) dX3_begin_81 ⟨Nat.le_of_ble_eq_true rfl, Nat.le_of_ble_eq_true rfl⟩) (fun r5 u6 H locs hp7 hw => ?_)
        have hw : WD g A s [(h, .inr (3, [.ref ia, .ref ba, .int (nI ps)])), (ia, .inl (g.2.1 0, 16, .inl (upd (inL x cf 4) 6 (kwd rf 5)))), (ca, .inl (g.2.1 0, 32, .inl (cf))), (rd, .inr (0, [.ref rb, .int (nI rn)])), (rb, .inl (g.2.1 0, 127, .inl (rf)))] [] H locs := hw
        subst hp7
        refine r_iast hx hb h0 hw 1 rfl (i := 7) (by omega) (by omega) dX3_begin_84 (fun H locs hw => ?_)
        have hw : WD g A s [(h, .inr (3, [.ref ia, .ref ba, .int (nI ps)])), (ia, .inl (g.2.1 0, 16, .inl (upd (upd (inL x cf 4) 6 (kwd rf 5)) 7 (kwd rf 9)))), (ca, .inl (g.2.1 0, 32, .inl (cf))), (rd, .inr (0, [.ref rb, .int (nI rn)])), (rb, .inl (g.2.1 0, 127, .inl (rf)))] [] H locs := hw
        refine lv_aload_n hx hb dX3_begin_85 rfl (lv_at hl 1 rfl) ?_
        refine r_get (ci := 3) (v := .ref ia) (C := RX3) (T := TX3) (N := 3) hx hb hts hinX3 hown h0 hw 0 rfl rfl 0 (by decide) k11 rfl dX3_begin_86 ?_
        refine lv_bipush (v := nI 8) hx hb dX3_begin_89 (by decide +kernel) ?_
        refine lv_iconst (v := nI 0) hx hb dX3_begin_91 (by decide +kernel) ?_
        refine r_iast hx hb h0 hw 1 rfl (i := 8) (by omega) (by omega) dX3_begin_92 (fun H locs hw => ?_)
        have hw : WD g A s [(h, .inr (3, [.ref ia, .ref ba, .int (nI ps)])), (ia, .inl (g.2.1 0, 16, .inl (upd (upd (upd (inL x cf 4) 6 (kwd rf 5)) 7 (kwd rf 9)) 8 (nI 0)))), (ca, .inl (g.2.1 0, 32, .inl (cf))), (rd, .inr (0, [.ref rb, .int (nI rn)])), (rb, .inl (g.2.1 0, 127, .inl (rf)))] [] H locs := hw
        refine lv_aload_n hx hb dX3_begin_93 rfl (lv_at hl 1 rfl) ?_
        refine r_get (ci := 3) (v := .ref ia) (C := RX3) (T := TX3) (N := 3) hx hb hts hinX3 hown h0 hw 0 rfl rfl 0 (by decide) k11 rfl dX3_begin_94 ?_
        refine lv_bipush (v := nI 9) hx hb dX3_begin_97 (by decide +kernel) ?_
        refine lv_iconst (v := nI 0) hx hb dX3_begin_99 (by decide +kernel) ?_
        refine r_iast hx hb h0 hw 1 rfl (i := 9) (by omega) (by omega) dX3_begin_100 (fun H locs hw => ?_)
        have hw : WD g A s [(h, .inr (3, [.ref ia, .ref ba, .int (nI ps)])), (ia, .inl (g.2.1 0, 16, .inl (upd (upd (upd (upd (inL x cf 4) 6 (kwd rf 5)) 7 (kwd rf 9)) 8 (nI 0)) 9 (nI 0)))), (ca, .inl (g.2.1 0, 32, .inl (cf))), (rd, .inr (0, [.ref rb, .int (nI rn)])), (rb, .inl (g.2.1 0, 127, .inl (rf)))] [] H locs := hw
        refine lv_aload_n hx hb dX3_begin_101 rfl (lv_at hl 1 rfl) ?_
        refine lv_bipush (v := nI 64) hx hb dX3_begin_102 (by decide +kernel) ?_
        refine r_put (ci := 3) (v := .int (nI 64)) (C := RX3) (T := TX3) (N := 3) hx hb hts hinX3 tyX3 tyX3_ok nmX3 hown h0 hw 0 rfl rfl 2 (by decide) k29 rfl rfl rfl (Nat.le_of_ble_eq_true rfl) dX3_begin_104 (fun H locs hw => ?_)
        have hw : WD g A s [(h, .inr (3, [.ref ia, .ref ba, .int (nI 64)])), (ia, .inl (g.2.1 0, 16, .inl (upd (upd (upd (upd (inL x cf 4) 6 (kwd rf 5)) 7 (kwd rf 9)) 8 (nI 0)) 9 (nI 0)))), (ca, .inl (g.2.1 0, 32, .inl (cf))), (rd, .inr (0, [.ref rb, .int (nI rn)])), (rb, .inl (g.2.1 0, 127, .inl (rf)))] [] H locs := hw
        have hw := hw.cong 1 rfl (f' := sIn cf rf (nI 0)) (sIn_of x cf rf)
        have hw : WD g A s [(h, .inr (3, [.ref ia, .ref ba, .int (nI 64)])), (ia, .inl (g.2.1 0, 16, .inl (sIn cf rf (nI 0)))), (ca, .inl (g.2.1 0, 32, .inl (cf))), (rd, .inr (0, [.ref rb, .int (nI rn)])), (rb, .inl (g.2.1 0, 127, .inl (rf)))] [] _ _ := hw
        exact hret hw () (trivial) (rfl) (by omega) (by omega) dX3_begin_107
      · skip
        have c1 : ¬ 4 ≤ i := fun q => c1 (((nI_leI (by omega) (by omega)).mpr q))
        refine lv_aload_n hx hb dX3_begin_7 rfl (lv_at hl 1 rfl) ?_
        refine r_get (ci := 3) (v := .ref ia) (C := RX3) (T := TX3) (N := 3) hx hb hts hinX3 hown h0 hw 0 rfl rfl 0 (by decide) k11 rfl dX3_begin_8 ?_
        refine lv_iconst (v := nI 5) hx hb dX3_begin_11 (by decide +kernel) ?_
        refine lv_iload_n hx hb dX3_begin_12 rfl (lv_at hl 0 rfl) ?_
        refine lv_imul hx hb dX3_begin_13 ?_
        refine r_te (y := nI (5 * i)) (pk_mul 5 i) ?_
        refine r_gets hx hb h0.2.1.2.2 hw hown k18 dX3_begin_14 ?_
        refine lv_iload_n hx hb dX3_begin_17 rfl (lv_at hl 0 rfl) ?_
        refine r_tab hx hb h0.2.1.2.2 hw (by omega) (by decide) dX3_begin_18 ?_
        refine r_iast hx hb h0 hw 1 rfl (i := 5 * i) (by omega) (by omega) dX3_begin_19 (fun H locs hw => ?_)
        have hw : WD g A s [(h, .inr (3, [.ref ia, .ref ba, .int (nI ps)])), (ia, .inl (g.2.1 0, 16, .inl (upd (inL x cf i) (5 * i) (kEX i)))), (ca, .inl (g.2.1 0, 32, .inl (cf))), (rd, .inr (0, [.ref rb, .int (nI rn)])), (rb, .inl (g.2.1 0, 127, .inl (rf)))] [] H locs := hw
        refine lv_aload_n hx hb dX3_begin_20 rfl (lv_at hl 1 rfl) ?_
        refine r_get (ci := 3) (v := .ref ia) (C := RX3) (T := TX3) (N := 3) hx hb hts hinX3 hown h0 hw 0 rfl rfl 0 (by decide) k11 rfl dX3_begin_21 ?_
        refine lv_iconst (v := nI 1) hx hb dX3_begin_24 (by decide +kernel) ?_
        refine lv_iload_n hx hb dX3_begin_25 rfl (lv_at hl 0 rfl) ?_
        refine lv_iadd hx hb dX3_begin_26 ?_
        refine r_te (y := nI (1 + i)) (nI_add 1 i) ?_
        refine lv_aload_n hx hb dX3_begin_27 rfl (lv_at hl 2 rfl) ?_
        refine lv_iconst (v := nI 4) hx hb dX3_begin_28 (by decide +kernel) ?_
        refine lv_iload_n hx hb dX3_begin_29 rfl (lv_at hl 0 rfl) ?_
        refine lv_imul hx hb dX3_begin_30 ?_
        refine r_te (y := nI (4 * i)) (pk_mul 4 i) ?_
        refine r_calli (wr := [(h, .inr (3, [.ref ia, .ref ba, .int (nI ps)])), (ia, .inl (g.2.1 0, 16, .inl (upd (inL x cf i) (5 * i) (kEX i)))), (rd, .inr (0, [.ref rb, .int (nI rn)])), (rb, .inl (g.2.1 0, 127, .inl (rf)))]) [2] [0, 1, 3, 4] h0 hw rfl rfl (by decide) (by decide) (va_runS (As := [.ref ca, .int (nI (4 * i))]) (rest := [.int (nI (1 + i)), .ref ia]) ⟨hx, hb, hml, hown, hts⟩ (c_X3_keyWord l g ca cf (4 * i) (by omega) _) (va_cwS 2 hts gX3_begin_X3_keyWord rfl rfl rfl (by decide +kernel) ⟨Nat.le_of_ble_eq_true rfl, Nat.le_of_ble_eq_true rfl⟩) (preS_of [2] [.ref ca, .int (nI (4 * i))] h0 hw rfl (by decide)) rfl rfl hl.1 rfl (lv_room (Nat.le_of_ble_eq_true rfl)) dX3_begin_31 ⟨Nat.le_of_ble_eq_true rfl, Nat.le_of_ble_eq_true rfl⟩) (fun r8 u9 H locs hp10 hw => ?_)
        have hw : WD g A s [(h, .inr (3, [.ref ia, .ref ba, .int (nI ps)])), (ia, .inl (g.2.1 0, 16, .inl (upd (inL x cf i) (5 * i) (kEX i)))), (rd, .inr (0, [.ref rb, .int (nI rn)])), (rb, .inl (g.2.1 0, 127, .inl (rf))), (ca, .inl (g.2.1 0, 32, .inl (cf)))] [] H locs := hw
        subst hp10
        refine r_iast hx hb h0 hw 1 rfl (i := 1 + i) (by omega) (by omega) dX3_begin_34 (fun H locs hw => ?_)
        have hw : WD g A s [(h, .inr (3, [.ref ia, .ref ba, .int (nI ps)])), (ia, .inl (g.2.1 0, 16, .inl (upd (upd (inL x cf i) (5 * i) (kEX i)) (1 + i) (kwd cf (4 * i))))), (rd, .inr (0, [.ref rb, .int (nI rn)])), (rb, .inl (g.2.1 0, 127, .inl (rf))), (ca, .inl (g.2.1 0, 32, .inl (cf)))] [] H locs := hw
        refine lv_aload_n hx hb dX3_begin_35 rfl (lv_at hl 1 rfl) ?_
        refine r_get (ci := 3) (v := .ref ia) (C := RX3) (T := TX3) (N := 3) hx hb hts hinX3 hown h0 hw 0 rfl rfl 0 (by decide) k11 rfl dX3_begin_36 ?_
        refine lv_bipush (v := nI 11) hx hb dX3_begin_39 (by decide +kernel) ?_
        refine lv_iload_n hx hb dX3_begin_41 rfl (lv_at hl 0 rfl) ?_
        refine lv_iadd hx hb dX3_begin_42 ?_
        refine r_te (y := nI (11 + i)) (nI_add 11 i) ?_
        refine lv_aload_n hx hb dX3_begin_43 rfl (lv_at hl 2 rfl) ?_
        refine lv_bipush (v := nI 16) hx hb dX3_begin_44 (by decide +kernel) ?_
        refine lv_iconst (v := nI 4) hx hb dX3_begin_46 (by decide +kernel) ?_
        refine lv_iload_n hx hb dX3_begin_47 rfl (lv_at hl 0 rfl) ?_
        refine lv_imul hx hb dX3_begin_48 ?_
        refine r_te (y := nI (4 * i)) (pk_mul 4 i) ?_
        refine lv_iadd hx hb dX3_begin_49 ?_
        refine r_te (y := nI (16 + (4 * i))) (nI_add 16 (4 * i)) ?_
        refine r_calli (wr := [(h, .inr (3, [.ref ia, .ref ba, .int (nI ps)])), (ia, .inl (g.2.1 0, 16, .inl (upd (upd (inL x cf i) (5 * i) (kEX i)) (1 + i) (kwd cf (4 * i))))), (rd, .inr (0, [.ref rb, .int (nI rn)])), (rb, .inl (g.2.1 0, 127, .inl (rf)))]) [4] [0, 1, 2, 3] h0 hw rfl rfl (by decide) (by decide) (va_runS (As := [.ref ca, .int (nI (16 + (4 * i)))]) (rest := [.int (nI (11 + i)), .ref ia]) ⟨hx, hb, hml, hown, hts⟩ (c_X3_keyWord l g ca cf (16 + (4 * i)) (by omega) _) (va_cwS 2 hts gX3_begin_X3_keyWord rfl rfl rfl (by decide +kernel) ⟨Nat.le_of_ble_eq_true rfl, Nat.le_of_ble_eq_true rfl⟩) (preS_of [4] [.ref ca, .int (nI (16 + (4 * i)))] h0 hw rfl (by decide)) rfl rfl hl.1 rfl (lv_room (Nat.le_of_ble_eq_true rfl)) dX3_begin_50 ⟨Nat.le_of_ble_eq_true rfl, Nat.le_of_ble_eq_true rfl⟩) (fun r11 u12 H locs hp13 hw => ?_)
        have hw : WD g A s [(h, .inr (3, [.ref ia, .ref ba, .int (nI ps)])), (ia, .inl (g.2.1 0, 16, .inl (upd (upd (inL x cf i) (5 * i) (kEX i)) (1 + i) (kwd cf (4 * i))))), (rd, .inr (0, [.ref rb, .int (nI rn)])), (rb, .inl (g.2.1 0, 127, .inl (rf))), (ca, .inl (g.2.1 0, 32, .inl (cf)))] [] H locs := hw
        subst hp13
        refine r_iast hx hb h0 hw 1 rfl (i := 11 + i) (by omega) (by omega) dX3_begin_53 (fun H locs hw => ?_)
        have hw : WD g A s [(h, .inr (3, [.ref ia, .ref ba, .int (nI ps)])), (ia, .inl (g.2.1 0, 16, .inl (upd (upd (upd (inL x cf i) (5 * i) (kEX i)) (1 + i) (kwd cf (4 * i))) (11 + i) (kwd cf (16 + (4 * i)))))), (rd, .inr (0, [.ref rb, .int (nI rn)])), (rb, .inl (g.2.1 0, 127, .inl (rf))), (ca, .inl (g.2.1 0, 32, .inl (cf)))] [] H locs := hw
        refine lv_iinc (v := nI (i + 1)) (lv' := [(3, .int (nI (i + 1))), (0, .ref h), (1, .ref ca), (2, .ref rd)]) hx hb dX3_begin_54 hl (k := 0) rfl (nI_add i 1) (by decide) rfl (fun ls hl => ?_)
        refine lv_goto (tgt := 2) hx hb dX3_begin_57 (by decide) ?_
        exact ih (i + 1) (by omega) (by omega) _ _ _ (hw.perm [0, 1, 4, 2, 3] (by decide) rfl) (lv_sub hl [0, 1, 2, 3] rfl)
  exact lp2 (4 - 0 + 1) 0 (by omega) (by omega) _ _ _ hw (lv_sub hl [0, 1, 2, 3] rfl)
