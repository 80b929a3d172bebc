set_option maxHeartbeats 4000000 in
set_option maxRecDepth 100000 in
theorem c_X3_next_fill (l : Launch) (g : GE) (h : Nat) (ia : Nat) (ba : Nat) (bf : Nat → Int32) (cf : Nat → Int32) (hf : Nat → Int32) (t : Nat) (ht : t % 64 = 0) (ht9 : t < 1000) (hbf : ¬ t % 64 = 0 → bf = sBlk (sIn cf hf (nI (t / 64)))) (sz : Nat) : MI l yX3_next wsX3_next { frames := 4, cells := 0, slots := 0, locals := 86 } g [.ref h] [(h, .inr (3, [.ref ia, .ref ba, .int (nI (sPos t))])), (ia, .inl (g.2.1 0, 16, .inl (sIn cf hf (nI ((t + 63) / 64))))), (ba, .inl (g.2.1 0, 16, .inl (bf)))] sz (fun (r : Int32) (b2 : (Nat → Int32)) => r = sByte cf hf t ∧ (¬ (t + 1) % 64 = 0 → b2 = sBlk (sIn cf hf (nI ((t + 1) / 64))))) (fun (b2 : (Nat → Int32)) => [(h, .inr (3, [.ref ia, .ref ba, .int (nI (sPos (t + 1)))])), (ia, .inl (g.2.1 0, 16, .inl (sIn cf hf (nI ((t + 1 + 63) / 64))))), (ba, .inl (g.2.1 0, 16, .inl (b2)))]) 0 0 := by
  refine enterI (by decide) rfl (Nat.le_of_ble_eq_true rfl) ?_
  intro p e s m below meth c A ls ar Q hE h0 hret hw hl
  obtain ⟨hx, hb, hr, hml, hown, hts, hlocks, hname⟩ := hE
  have hown : s.vm.findClass RX3 = some m.cls := hown
  have hw : WD g A s [(h, .inr (3, [.ref ia, .ref ba, .int (nI (sPos t))])), (ia, .inl (g.2.1 0, 16, .inl (sIn cf hf (nI ((t + 63) / 64))))), (ba, .inl (g.2.1 0, 16, .inl (bf)))] [] s.heap [] := hw
  have hinX3 : ∀ w ∈ u_ws RX3 TX3 3, w ∈ wsX3_next := by decide +kernel
  have k11 := hts (.fieldLink RX3 11 "RecordWire$Salsa20" "input" "[I") (by decide +kernel)
  have k15 := hts (.fieldLink RX3 15 "RecordWire$Salsa20" "block" "[I") (by decide +kernel)
  have k29 := hts (.fieldLink RX3 29 "RecordWire$Salsa20" "position" "I") (by decide +kernel)
  have hp : sPos t = 64 := by unfold sPos; rw [if_pos ht]
  have hl : lv_has ls 2 [(0, .ref h)] := hl
  refine lv_aload_n hx hb dX3_next_0 rfl (lv_at hl 0 rfl) ?_
  refine r_get (ci := 3) (v := .int (nI (sPos t))) (C := RX3) (T := TX3) (N := 3) hx hb hts hinX3 hown h0 hw 0 rfl rfl 2 (by decide) k29 rfl dX3_next_1 ?_
  refine lv_bipush (v := nI 64) hx hb dX3_next_4 (by decide +kernel) ?_
  refine lv_icmp_lt (tgt := 29) hx hb dX3_next_6 (by decide) (fun c1 => ?_) (fun c1 => ?_)
  · skip
    have c1 : (sPos t) < 64 := (nI_ltI (by omega) (by omega)).mp c1
    exfalso; omega
  · skip
    have c1 : ¬ (sPos t) < 64 := fun q => c1 (((nI_ltI (by omega) (by omega)).mpr q))
    refine lv_aload_n hx hb dX3_next_9 rfl (lv_at hl 0 rfl) ?_
    refine r_callv (wr := []) [0, 1, 2] [] h0 hw rfl rfl (by decide) (by decide) (va_runV (As := []) (rest := []) ⟨hx, hb, hml, hown, hts⟩ (c_X3_fillBlock l g h ia ba (sPos t) (sIn cf hf (nI ((t + 63) / 64))) bf  _) (cwV 0 hts gX3_next_X3_fillBlock rfl rfl rfl (by decide +kernel) ⟨Nat.le_of_ble_eq_true rfl, Nat.le_of_ble_eq_true rfl⟩) (preV_of [0, 1, 2] [] h0 hw rfl (by decide) 0 3 rfl rfl) rfl rfl hl.1 rfl (lv_room (Nat.le_of_ble_eq_true rfl)) dX3_next_10 ⟨Nat.le_of_ble_eq_true rfl, Nat.le_of_ble_eq_true rfl⟩) (fun u3 H locs hp4 hw => ?_)
    have hw : WD g A s [(h, .inr (3, [.ref ia, .ref ba, .int (nI (sPos t))])), (ia, .inl (g.2.1 0, 16, .inl (sIn cf hf (nI ((t + 63) / 64))))), (ba, .inl (g.2.1 0, 16, .inl (sBlk (sIn cf hf (nI ((t + 63) / 64))))))] [] H locs := hw
    refine lv_aload_n hx hb dX3_next_13 rfl (lv_at hl 0 rfl) ?_
    refine r_get (ci := 3) (v := .ref ia) (C := RX3) (T := TX3) (N := 3) hx hb hts hinX3 hown h0 hw 0 rfl rfl 0 (by decide) k11 rfl dX3_next_14 ?_
    refine lv_bipush (v := nI 8) hx hb dX3_next_17 (by decide +kernel) ?_
    refine lv_dup2_11 hx hb dX3_next_19 rfl rfl ?_
    refine r_iald hx hb h0 hw 1 rfl (i := 8) (by omega) (by omega) dX3_next_20 ?_
    refine lv_iconst (v := nI 1) hx hb dX3_next_21 (by decide +kernel) ?_
    refine lv_iadd hx hb dX3_next_22 ?_
    refine r_iast hx hb h0 hw 1 rfl (i := 8) (by omega) (by omega) dX3_next_23 (fun H locs hw => ?_)
    have hw : WD g A s [(h, .inr (3, [.ref ia, .ref ba, .int (nI (sPos t))])), (ia, .inl (g.2.1 0, 16, .inl (upd (sIn cf hf (nI ((t + 63) / 64))) 8 (((sIn cf hf (nI ((t + 63) / 64))) 8) + (nI 1))))), (ba, .inl (g.2.1 0, 16, .inl (sBlk (sIn cf hf (nI ((t + 63) / 64))))))] [] H locs := hw
    refine lv_aload_n hx hb dX3_next_24 rfl (lv_at hl 0 rfl) ?_
    refine lv_iconst (v := nI 0) hx hb dX3_next_25 (by decide +kernel) ?_
    refine r_put (ci := 3) (v := .int (nI 0)) (C := RX3) (T := TX3) (N := 3) hx hb hts hinX3 tyX3 tyX3_ok nmX3 hown h0 hw 0 rfl rfl 2 (by decide) k29 rfl rfl rfl (Nat.le_of_ble_eq_true rfl) dX3_next_26 (fun H locs hw => ?_)
    have hw : WD g A s [(h, .inr (3, [.ref ia, .ref ba, .int (nI 0)])), (ia, .inl (g.2.1 0, 16, .inl (upd (sIn cf hf (nI ((t + 63) / 64))) 8 (((sIn cf hf (nI ((t + 63) / 64))) 8) + (nI 1))))), (ba, .inl (g.2.1 0, 16, .inl (sBlk (sIn cf hf (nI ((t + 63) / 64))))))] [] H locs := hw
    refine lv_aload_n hx hb dX3_next_29 rfl (lv_at hl 0 rfl) ?_
    refine r_get (ci := 3) (v := .ref ba) (C := RX3) (T := TX3) (N := 3) hx hb hts hinX3 hown h0 hw 0 rfl rfl 1 (by decide) k15 rfl dX3_next_30 ?_
    refine lv_aload_n hx hb dX3_next_33 rfl (lv_at hl 0 rfl) ?_
    refine r_get (ci := 3) (v := .int (nI 0)) (C := RX3) (T := TX3) (N := 3) hx hb hts hinX3 hown h0 hw 0 rfl rfl 2 (by decide) k29 rfl dX3_next_34 ?_
    refine lv_iconst (v := nI 2) hx hb dX3_next_37 (by decide +kernel) ?_
    refine lv_ishr hx hb dX3_next_38 ?_
    refine r_te (y := nI (0 / 4)) (pk_shrN (by omega) _ 2 (by decide +kernel)) ?_
    refine r_iald hx hb h0 hw 2 rfl (i := 0 / 4) (by omega) (by omega) dX3_next_39 ?_
    refine lv_bipush (v := nI 8) hx hb dX3_next_40 (by decide +kernel) ?_
    refine lv_aload_n hx hb dX3_next_42 rfl (lv_at hl 0 rfl) ?_
    refine r_get (ci := 3) (v := .int (nI 0)) (C := RX3) (T := TX3) (N := 3) hx hb hts hinX3 hown h0 hw 0 rfl rfl 2 (by decide) k29 rfl dX3_next_43 ?_
    refine lv_iconst (v := nI 3) hx hb dX3_next_46 (by decide +kernel) ?_
    refine lv_iand hx hb dX3_next_47 ?_
    refine r_te (y := nI (0 % 4)) (pk_andN (by omega) 2 (by decide +kernel)) ?_
    refine lv_imul hx hb dX3_next_48 ?_
    refine r_te (y := nI (8 * (0 % 4))) (pk_mul 8 (0 % 4)) ?_
    refine lv_iushr (v := jushr ((sBlk (sIn cf hf (nI ((t + 63) / 64)))) (0 / 4)) (nI (8 * (0 % 4)))) hx hb dX3_next_49 rfl ?_
    refine lv_sipush (v := nI 255) hx hb dX3_next_50 (by decide +kernel) ?_
    refine lv_iand hx hb dX3_next_53 ?_
    refine lv_topi (fun z5 ez5 => ?_)
    refine lv_istore_n (lv' := [(1, .int (z5)), (0, .ref h)]) hx hb dX3_next_54 rfl hl (by decide) rfl (fun ls hl => ?_)
    refine lv_aload_n hx hb dX3_next_55 rfl (lv_at hl 1 rfl) ?_
    refine lv_dup hx hb dX3_next_56 rfl ?_
    refine r_get (ci := 3) (v := .int (nI 0)) (C := RX3) (T := TX3) (N := 3) hx hb hts hinX3 hown h0 hw 0 rfl rfl 2 (by decide) k29 rfl dX3_next_57 ?_
    refine lv_iconst (v := nI 1) hx hb dX3_next_60 (by decide +kernel) ?_
    refine lv_iadd hx hb dX3_next_61 ?_
    refine r_te (y := nI 1) (nI_add 0 1) ?_
    refine r_put (ci := 3) (v := .int (nI 1)) (C := RX3) (T := TX3) (N := 3) hx hb hts hinX3 tyX3 tyX3_ok nmX3 hown h0 hw 0 rfl rfl 2 (by decide) k29 rfl rfl rfl (Nat.le_of_ble_eq_true rfl) dX3_next_62 (fun H locs hw => ?_)
    have hw : WD g A s [(h, .inr (3, [.ref ia, .ref ba, .int (nI 1)])), (ia, .inl (g.2.1 0, 16, .inl (upd (sIn cf hf (nI ((t + 63) / 64))) 8 (((sIn cf hf (nI ((t + 63) / 64))) 8) + (nI 1))))), (ba, .inl (g.2.1 0, 16, .inl (sBlk (sIn cf hf (nI ((t + 63) / 64))))))] [] H locs := hw
    refine lv_iload_n hx hb dX3_next_65 rfl (lv_at hl 0 rfl) ?_
    have hp2 : sPos (t + 1) = 0 + 1 := by unfold sPos; rw [if_neg (by omega)]; omega
    have hw := hw.cong 1 rfl (f' := sIn cf hf (nI ((t + 1 + 63) / 64))) (fun j hj => by rw [show (t + 1 + 63) / 64 = (t + 63) / 64 + 1 by omega, ← nI_add]; exact sIn_up _ _ _ _ j hj)
    have hw : WD g A s [(h, .inr (3, [.ref ia, .ref ba, .int (nI 1)])), (ia, .inl (g.2.1 0, 16, .inl (sIn cf hf (nI ((t + 1 + 63) / 64))))), (ba, .inl (g.2.1 0, 16, .inl (sBlk (sIn cf hf (nI ((t + 63) / 64))))))] [] _ _ := hw
    have hw : WD g A s [(h, .inr (3, [.ref ia, .ref ba, .int (nI (sPos (t + 1)))])), (ia, .inl (g.2.1 0, 16, .inl (sIn cf hf (nI ((t + 1 + 63) / 64))))), (ba, .inl (g.2.1 0, 16, .inl (sBlk (sIn cf hf (nI ((t + 63) / 64))))))] [] H locs := by rw [hp2]; exact hw
    subst ez5
    exact hret hw (sBlk (sIn cf hf (nI ((t + 63) / 64)))) (⟨by unfold sByte; rw [ht, show (t + 63) / 64 = t / 64 by omega], fun _ => by rw [show (t + 63) / 64 = (t + 1) / 64 by omega]⟩) (rfl) (by omega) (by omega) dX3_next_66

set_option maxHeartbeats 4000000 in
set_option maxRecDepth 100000 in
theorem c_X3_next_go (l : Launch) (g : GE) (h : Nat) (ia : Nat) (ba : Nat) (bf : Nat → Int32) (cf : Nat → Int32) (hf : Nat → Int32) (t : Nat) (ht : ¬ t % 64 = 0) (ht9 : t < 1000) (hbf : ¬ t % 64 = 0 → bf = sBlk (sIn cf hf (nI (t / 64)))) (sz : Nat) : MI l yX3_next wsX3_next { frames := 4, cells := 0, slots := 0, locals := 86 } g [.ref h] [(h, .inr (3, [.ref ia, .ref ba, .int (nI (sPos t))])), (ia, .inl (g.2.1 0, 16, .inl (sIn cf hf (nI ((t + 63) / 64))))), (ba, .inl (g.2.1 0, 16, .inl (bf)))] sz (fun (r : Int32) (b2 : (Nat → Int32)) => r = sByte cf hf t ∧ (¬ (t + 1) % 64 = 0 → b2 = sBlk (sIn cf hf (nI ((t + 1) / 64))))) (fun (b2 : (Nat → Int32)) => [(h, .inr (3, [.ref ia, .ref ba, .int (nI (sPos (t + 1)))])), (ia, .inl (g.2.1 0, 16, .inl (sIn cf hf (nI ((t + 1 + 63) / 64))))), (ba, .inl (g.2.1 0, 16, .inl (b2)))]) 0 0 := by
  refine enterI (by decide) rfl (Nat.le_of_ble_eq_true rfl) ?_
  intro p e s m below meth c A ls ar Q hE h0 hret hw hl
  obtain ⟨hx, hb, hr, hml, hown, hts, hlocks, hname⟩ := hE
  have hown : s.vm.findClass RX3 = some m.cls := hown
  have hw : WD g A s [(h, .inr (3, [.ref ia, .ref ba, .int (nI (sPos t))])), (ia, .inl (g.2.1 0, 16, .inl (sIn cf hf (nI ((t + 63) / 64))))), (ba, .inl (g.2.1 0, 16, .inl (bf)))] [] s.heap [] := hw
  have hinX3 : ∀ w ∈ u_ws RX3 TX3 3, w ∈ wsX3_next := by decide +kernel
  have k11 := hts (.fieldLink RX3 11 "RecordWire$Salsa20" "input" "[I") (by decide +kernel)
  have k15 := hts (.fieldLink RX3 15 "RecordWire$Salsa20" "block" "[I") (by decide +kernel)
  have k29 := hts (.fieldLink RX3 29 "RecordWire$Salsa20" "position" "I") (by decide +kernel)
  have hp : sPos t = t % 64 := by unfold sPos; rw [if_neg ht]
  have hl : lv_has ls 2 [(0, .ref h)] := hl
  refine lv_aload_n hx hb dX3_next_0 rfl (lv_at hl 0 rfl) ?_
  refine r_get (ci := 3) (v := .int (nI (sPos t))) (C := RX3) (T := TX3) (N := 3) hx hb hts hinX3 hown h0 hw 0 rfl rfl 2 (by decide) k29 rfl dX3_next_1 ?_
  refine lv_bipush (v := nI 64) hx hb dX3_next_4 (by decide +kernel) ?_
  refine lv_icmp_lt (tgt := 29) hx hb dX3_next_6 (by decide) (fun c1 => ?_) (fun c1 => ?_)
  · skip
    have c1 : (sPos t) < 64 := (nI_ltI (by omega) (by omega)).mp c1
    refine lv_aload_n hx hb dX3_next_29 rfl (lv_at hl 0 rfl) ?_
    refine r_get (ci := 3) (v := .ref ba) (C := RX3) (T := TX3) (N := 3) hx hb hts hinX3 hown h0 hw 0 rfl rfl 1 (by decide) k15 rfl dX3_next_30 ?_
    refine lv_aload_n hx hb dX3_next_33 rfl (lv_at hl 0 rfl) ?_
    refine r_get (ci := 3) (v := .int (nI (sPos t))) (C := RX3) (T := TX3) (N := 3) hx hb hts hinX3 hown h0 hw 0 rfl rfl 2 (by decide) k29 rfl dX3_next_34 ?_
    refine lv_iconst (v := nI 2) hx hb dX3_next_37 (by decide +kernel) ?_
    refine lv_ishr hx hb dX3_next_38 ?_
    refine r_te (y := nI ((sPos t) / 4)) (pk_shrN (by omega) _ 2 (by decide +kernel)) ?_
    refine r_iald hx hb h0 hw 2 rfl (i := (sPos t) / 4) (by omega) (by omega) dX3_next_39 ?_
    refine lv_bipush (v := nI 8) hx hb dX3_next_40 (by decide +kernel) ?_
    refine lv_aload_n hx hb dX3_next_42 rfl (lv_at hl 0 rfl) ?_
    refine r_get (ci := 3) (v := .int (nI (sPos t))) (C := RX3) (T := TX3) (N := 3) hx hb hts hinX3 hown h0 hw 0 rfl rfl 2 (by decide) k29 rfl dX3_next_43 ?_
    refine lv_iconst (v := nI 3) hx hb dX3_next_46 (by decide +kernel) ?_
    refine lv_iand hx hb dX3_next_47 ?_
    refine r_te (y := nI ((sPos t) % 4)) (pk_andN (by omega) 2 (by decide +kernel)) ?_
    refine lv_imul hx hb dX3_next_48 ?_
    refine r_te (y := nI (8 * ((sPos t) % 4))) (pk_mul 8 ((sPos t) % 4)) ?_
    refine lv_iushr (v := jushr (bf ((sPos t) / 4)) (nI (8 * ((sPos t) % 4)))) hx hb dX3_next_49 rfl ?_
    refine lv_sipush (v := nI 255) hx hb dX3_next_50 (by decide +kernel) ?_
    refine lv_iand hx hb dX3_next_53 ?_
    refine lv_topi (fun z2 ez2 => ?_)
    refine lv_istore_n (lv' := [(1, .int (z2)), (0, .ref h)]) hx hb dX3_next_54 rfl hl (by decide) rfl (fun ls hl => ?_)
    refine lv_aload_n hx hb dX3_next_55 rfl (lv_at hl 1 rfl) ?_
    refine lv_dup hx hb dX3_next_56 rfl ?_
    refine r_get (ci := 3) (v := .int (nI (sPos t))) (C := RX3) (T := TX3) (N := 3) hx hb hts hinX3 hown h0 hw 0 rfl rfl 2 (by decide) k29 rfl dX3_next_57 ?_
    refine lv_iconst (v := nI 1) hx hb dX3_next_60 (by decide +kernel) ?_
    refine lv_iadd hx hb dX3_next_61 ?_
    refine r_te (y := nI (sPos t + 1)) (nI_add (sPos t) 1) ?_
    refine r_put (ci := 3) (v := .int (nI (sPos t + 1))) (C := RX3) (T := TX3) (N := 3) hx hb hts hinX3 tyX3 tyX3_ok nmX3 hown h0 hw 0 rfl rfl 2 (by decide) k29 rfl rfl rfl (Nat.le_of_ble_eq_true rfl) dX3_next_62 (fun H locs hw => ?_)
    have hw : WD g A s [(h, .inr (3, [.ref ia, .ref ba, .int (nI (sPos t + 1))])), (ia, .inl (g.2.1 0, 16, .inl (sIn cf hf (nI ((t + 63) / 64))))), (ba, .inl (g.2.1 0, 16, .inl (bf)))] [] H locs := hw
    refine lv_iload_n hx hb dX3_next_65 rfl (lv_at hl 0 rfl) ?_
    have hp2 : sPos (t + 1) = sPos t + 1 := by unfold sPos; rw [if_neg ht]; split <;> omega
    have hw : WD g A s [(h, .inr (3, [.ref ia, .ref ba, .int (nI (sPos (t + 1)))])), (ia, .inl (g.2.1 0, 16, .inl (sIn cf hf (nI ((t + 1 + 63) / 64))))), (ba, .inl (g.2.1 0, 16, .inl (bf)))] [] H locs := by rw [hp2, show (t + 1 + 63) / 64 = (t + 63) / 64 by omega]; exact hw
    subst ez2
    exact hret hw bf (⟨by unfold sByte; rw [hbf ht, hp], fun _ => by rw [hbf ht, show t / 64 = (t + 1) / 64 by omega]⟩) (rfl) (by omega) (by omega) dX3_next_66
  · skip
    have c1 : ¬ (sPos t) < 64 := fun q => c1 (((nI_ltI (by omega) (by omega)).mpr q))
    exfalso; omega

theorem c_X3_next (l : Launch) (g : GE) (h : Nat) (ia : Nat) (ba : Nat) (bf : Nat → Int32) (cf : Nat → Int32) (hf : Nat → Int32) (t : Nat) (ht9 : t < 1000) (hbf : ¬ t % 64 = 0 → bf = sBlk (sIn cf hf (nI (t / 64)))) (sz : Nat) : MI l yX3_next wsX3_next { frames := 4, cells := 0, slots := 0, locals := 86 } g [.ref h] [(h, .inr (3, [.ref ia, .ref ba, .int (nI (sPos t))])), (ia, .inl (g.2.1 0, 16, .inl (sIn cf hf (nI ((t + 63) / 64))))), (ba, .inl (g.2.1 0, 16, .inl (bf)))] sz (fun (r : Int32) (b2 : (Nat → Int32)) => r = sByte cf hf t ∧ (¬ (t + 1) % 64 = 0 → b2 = sBlk (sIn cf hf (nI ((t + 1) / 64))))) (fun (b2 : (Nat → Int32)) => [(h, .inr (3, [.ref ia, .ref ba, .int (nI (sPos (t + 1)))])), (ia, .inl (g.2.1 0, 16, .inl (sIn cf hf (nI ((t + 1 + 63) / 64))))), (ba, .inl (g.2.1 0, 16, .inl (b2)))]) 0 0 := by
  by_cases ht : t % 64 = 0
  · exact c_X3_next_fill l g h ia ba bf cf hf t ht ht9 hbf sz
  · exact c_X3_next_go l g h ia ba bf cf hf t ht ht9 hbf sz
