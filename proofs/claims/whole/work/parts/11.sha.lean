set_option maxHeartbeats 4000000 in
set_option maxRecDepth 100000 in
theorem c_X4_turn (l : Launch) (g : GE) (x : Int32) (y : Int32) (sz : Nat) : MI l yX4_turn wsX4_turn { frames := 0, cells := 0, slots := 0, locals := 0 } g [.int (x), .int (y)] [] sz (fun (r : Int32) (_ : Unit) => r = rotr x y) (fun (_ : Unit) => []) 0 0 := by
  refine enterI (by decide) rfl (Nat.le_of_ble_eq_true rfl) ?_
  intro p e s m below meth c A ls ar Q hE h0 hret hw hl
  obtain ⟨hx, hb, hr, hml, hown, hts, hlocks, hname⟩ := hE
  have hown : s.vm.findClass RX4 = some m.cls := hown
  have hw : WD g A s [] [] s.heap [] := hw
  have hl : lv_has ls 2 [(0, .int (x)), (1, .int (y))] := hl
  refine lv_iload_n hx hb dX4_turn_0 rfl (lv_at hl 0 rfl) ?_
  refine lv_iload_n hx hb dX4_turn_1 rfl (lv_at hl 1 rfl) ?_
  refine lv_iushr (v := jushr x y) hx hb dX4_turn_2 rfl ?_
  refine lv_iload_n hx hb dX4_turn_3 rfl (lv_at hl 0 rfl) ?_
  refine lv_bipush (v := nI 32) hx hb dX4_turn_4 (by decide +kernel) ?_
  refine lv_iload_n hx hb dX4_turn_6 rfl (lv_at hl 1 rfl) ?_
  refine lv_isub hx hb dX4_turn_7 ?_
  refine lv_ishl hx hb dX4_turn_8 ?_
  refine r_te (y := jshl x ((nI 32) - y)) rfl ?_
  refine lv_ior hx hb dX4_turn_9 ?_
  exact hret hw () (rfl) (rfl) (by omega) (by omega) dX4_turn_10

set_option maxHeartbeats 4000000 in
set_option maxRecDepth 100000 in
theorem c_X4_begin (l : Launch) (g : GE) (h : Nat) (ma : Nat) (wa : Nat) (sa : Nat) (n : Nat) (sz : Nat) : MV l yX4_begin wsX4_begin { frames := 0, cells := 0, slots := 0, locals := 0 } g [.ref h] [(h, .inr (4, [.ref ma, .ref wa, .ref sa, .int (nI n)]))] sz (fun (_ : Unit) => True) (fun (_ : Unit) => [(h, .inr (4, [.ref ma, .ref wa, .ref sa, .int (nI 0)]))]) 0 0 := by
  refine enterV (by decide) rfl (Nat.le_of_ble_eq_true rfl) ?_
  intro p e s m below meth c A ls ar Q hE h0 hret hw hl
  obtain ⟨hx, hb, hr, hml, hown, hts, hlocks, hname⟩ := hE
  have hown : s.vm.findClass RX4 = some m.cls := hown
  have hw : WD g A s [(h, .inr (4, [.ref ma, .ref wa, .ref sa, .int (nI n)]))] [] s.heap [] := hw
  have hinX4 : ∀ w ∈ u_ws RX4 TX4 4, w ∈ wsX4_begin := by decide +kernel
  have k19 := hts (.fieldLink RX4 19 "RecordWire$Sha256" "length" "I") (by decide +kernel)
  have hl : lv_has ls 1 [(0, .ref h)] := hl
  refine lv_aload_n hx hb dX4_begin_0 rfl (lv_at hl 0 rfl) ?_
  refine lv_iconst (v := nI 0) hx hb dX4_begin_1 (by decide +kernel) ?_
  refine r_put (ci := 4) (v := .int (nI 0)) (C := RX4) (T := TX4) (N := 4) hx hb hts hinX4 tyX4 tyX4_ok nmX4 hown h0 hw 0 rfl rfl 3 (by decide) k19 rfl rfl rfl (Nat.le_of_ble_eq_true rfl) dX4_begin_2 (fun H locs hw => ?_)
  have hw : WD g A s [(h, .inr (4, [.ref ma, .ref wa, .ref sa, .int (nI 0)]))] [] H locs := hw
  exact hret hw () (trivial) (rfl) (by omega) (by omega) dX4_begin_5

set_option maxHeartbeats 4000000 in
set_option maxRecDepth 100000 in
theorem c_X4_append (l : Launch) (g : GE) (h : Nat) (ma : Nat) (wa : Nat) (sa : Nat) (n : Nat) (mf : Nat → Int32) (v : Int32) (hn : n < 192) (sz : Nat) : MV l yX4_append wsX4_append { frames := 0, cells := 0, slots := 0, locals := 0 } g [.ref h, .int (v)] [(h, .inr (4, [.ref ma, .ref wa, .ref sa, .int (nI n)])), (ma, .inl (g.2.1 0, 192, .inl (mf)))] sz (fun (_ : Unit) => True) (fun (_ : Unit) => [(h, .inr (4, [.ref ma, .ref wa, .ref sa, .int (nI (n + 1))])), (ma, .inl (g.2.1 0, 192, .inl (upd mf n v)))]) 0 0 := by
  refine enterV (by decide) rfl (Nat.le_of_ble_eq_true rfl) ?_
  intro p e s m below meth c A ls ar Q hE h0 hret hw hl
  obtain ⟨hx, hb, hr, hml, hown, hts, hlocks, hname⟩ := hE
  have hown : s.vm.findClass RX4 = some m.cls := hown
  have hw : WD g A s [(h, .inr (4, [.ref ma, .ref wa, .ref sa, .int (nI n)])), (ma, .inl (g.2.1 0, 192, .inl (mf)))] [] s.heap [] := hw
  have hinX4 : ∀ w ∈ u_ws RX4 TX4 4, w ∈ wsX4_append := by decide +kernel
  have k9 := hts (.fieldLink RX4 9 "RecordWire$Sha256" "message" "[I") (by decide +kernel)
  have k19 := hts (.fieldLink RX4 19 "RecordWire$Sha256" "length" "I") (by decide +kernel)
  have hl : lv_has ls 2 [(0, .ref h), (1, .int (v))] := hl
  refine lv_aload_n hx hb dX4_append_0 rfl (lv_at hl 0 rfl) ?_
  refine r_get (ci := 4) (v := .int (nI n)) (C := RX4) (T := TX4) (N := 4) hx hb hts hinX4 hown h0 hw 0 rfl rfl 3 (by decide) k19 rfl dX4_append_1 ?_
  refine lv_sipush (v := nI 192) hx hb dX4_append_4 (by decide +kernel) ?_
  refine lv_icmp_ge (tgt := 30) hx hb dX4_append_7 (by decide) (fun c1 => ?_) (fun c1 => ?_)
  · skip
    have c1 : 192 ≤ n := (nI_leI (by omega) (by omega)).mp c1
    exfalso; omega
  · skip
    have c1 : ¬ 192 ≤ n := fun q => c1 (((nI_leI (by omega) (by omega)).mpr q))
    refine lv_aload_n hx hb dX4_append_10 rfl (lv_at hl 0 rfl) ?_
    refine r_get (ci := 4) (v := .ref ma) (C := RX4) (T := TX4) (N := 4) hx hb hts hinX4 hown h0 hw 0 rfl rfl 0 (by decide) k9 rfl dX4_append_11 ?_
    refine lv_aload_n hx hb dX4_append_14 rfl (lv_at hl 0 rfl) ?_
    refine r_get (ci := 4) (v := .int (nI n)) (C := RX4) (T := TX4) (N := 4) hx hb hts hinX4 hown h0 hw 0 rfl rfl 3 (by decide) k19 rfl dX4_append_15 ?_
    refine lv_iload_n hx hb dX4_append_18 rfl (lv_at hl 1 rfl) ?_
    refine r_iast hx hb h0 hw 1 rfl (i := n) (by omega) (by omega) dX4_append_19 (fun H locs hw => ?_)
    have hw : WD g A s [(h, .inr (4, [.ref ma, .ref wa, .ref sa, .int (nI n)])), (ma, .inl (g.2.1 0, 192, .inl (upd mf n v)))] [] H locs := hw
    refine lv_aload_n hx hb dX4_append_20 rfl (lv_at hl 0 rfl) ?_
    refine lv_dup hx hb dX4_append_21 rfl ?_
    refine r_get (ci := 4) (v := .int (nI n)) (C := RX4) (T := TX4) (N := 4) hx hb hts hinX4 hown h0 hw 0 rfl rfl 3 (by decide) k19 rfl dX4_append_22 ?_
    refine lv_iconst (v := nI 1) hx hb dX4_append_25 (by decide +kernel) ?_
    refine lv_iadd hx hb dX4_append_26 ?_
    refine r_te (y := nI (n + 1)) (nI_add n 1) ?_
    refine r_put (ci := 4) (v := .int (nI (n + 1))) (C := RX4) (T := TX4) (N := 4) hx hb hts hinX4 tyX4 tyX4_ok nmX4 hown h0 hw 0 rfl rfl 3 (by decide) k19 rfl rfl rfl (Nat.le_of_ble_eq_true rfl) dX4_append_27 (fun H locs hw => ?_)
    have hw : WD g A s [(h, .inr (4, [.ref ma, .ref wa, .ref sa, .int (nI (n + 1))])), (ma, .inl (g.2.1 0, 192, .inl (upd mf n v)))] [] H locs := hw
    exact hret hw () (trivial) (rfl) (by omega) (by omega) dX4_append_30

set_option maxHeartbeats 4000000 in
set_option maxRecDepth 100000 in
theorem c_X4_pad (l : Launch) (g : GE) (h : Nat) (ma : Nat) (wa : Nat) (sa : Nat) (n : Nat) (mf : Nat → Int32) (hn : n ≤ 183) (sz : Nat) : MV l yX4_pad wsX4_pad { frames := 1, cells := 0, slots := 0, locals := 21 } g [.ref h] [(h, .inr (4, [.ref ma, .ref wa, .ref sa, .int (nI n)])), (ma, .inl (g.2.1 0, 192, .inl (mf)))] sz (fun (_ : Unit) => True) (fun (_ : Unit) => [(h, .inr (4, [.ref ma, .ref wa, .ref sa, .int (nI (pE n))])), (ma, .inl (g.2.1 0, 192, .inl (shP mf n)))]) 0 0 := by
  refine enterV (by decide) rfl (Nat.le_of_ble_eq_true rfl) ?_
  intro p e s m below meth c A ls ar Q hE h0 hret hw hl
  obtain ⟨hx, hb, hr, hml, hown, hts, hlocks, hname⟩ := hE
  have hown : s.vm.findClass RX4 = some m.cls := hown
  have hw : WD g A s [(h, .inr (4, [.ref ma, .ref wa, .ref sa, .int (nI n)])), (ma, .inl (g.2.1 0, 192, .inl (mf)))] [] s.heap [] := hw
  have hinX4 : ∀ w ∈ u_ws RX4 TX4 4, w ∈ wsX4_pad := by decide +kernel
  have k19 := hts (.fieldLink RX4 19 "RecordWire$Sha256" "length" "I") (by decide +kernel)
  have k36 := hts (.constantLong RX4 36 (8)) (by decide +kernel)
  have hE : pE n = (n + 8) / 64 * 64 + 64 := rfl
  have hl : lv_has ls 4 [(0, .ref h)] := hl
  refine lv_ldc2 hx hb hown k36 dX4_pad_0 ?_
  refine lv_aload_n hx hb dX4_pad_3 rfl (lv_at hl 0 rfl) ?_
  refine r_get (ci := 4) (v := .int (nI n)) (C := RX4) (T := TX4) (N := 4) hx hb hts hinX4 hown h0 hw 0 rfl rfl 3 (by decide) k19 rfl dX4_pad_4 ?_
  refine lv_i2l (v := (nI n).toInt64) hx hb dX4_pad_7 rfl ?_
  refine lv_lmul hx hb dX4_pad_8 ?_
  refine lv_lstore_n (lv' := [(1, .long (8 * ((nI n).toInt64))), (0, .ref h)]) hx hb dX4_pad_9 rfl hl (by decide) rfl (fun ls hl => ?_)
  refine lv_aload_n hx hb dX4_pad_10 rfl (lv_at hl 1 rfl) ?_
  refine lv_sipush (v := nI 128) hx hb dX4_pad_11 (by decide +kernel) ?_
  refine r_callv (wr := []) [0, 1] [] h0 hw rfl rfl (by decide) (by decide) (va_runV (As := [.int (nI 128)]) (rest := []) ⟨hx, hb, hml, hown, hts⟩ (c_X4_append l g h ma wa sa n mf (nI 128) (by omega) _) (cwV 1 hts gX4_pad_X4_append rfl rfl rfl (by decide +kernel) ⟨Nat.le_of_ble_eq_true rfl, Nat.le_of_ble_eq_true rfl⟩) (preV_of [0, 1] [.int (nI 128)] h0 hw rfl (by decide) 0 4 rfl rfl) rfl rfl hl.1 rfl (lv_room (Nat.le_of_ble_eq_true rfl)) dX4_pad_14 ⟨Nat.le_of_ble_eq_true rfl, Nat.le_of_ble_eq_true rfl⟩) (fun u2 H locs hp3 hw => ?_)
  have hw : WD g A s [(h, .inr (4, [.ref ma, .ref wa, .ref sa, .int (nI (n + 1))])), (ma, .inl (g.2.1 0, 192, .inl (upd mf n (nI 128))))] [] H locs := hw
  refine lv_iconst (v := nI 0) hx hb dX4_pad_17 (by decide +kernel) ?_
  refine lv_istore_n (lv' := [(3, .int (nI 0)), (1, .long (8 * ((nI n).toInt64))), (0, .ref h)]) hx hb dX4_pad_18 rfl hl (by decide) rfl (fun ls hl => ?_)
  have lp19 : ∀ (fu : Nat) (i : Nat), 64 - i < fu → (n + 1 + i ≤ pE n - 8) → ∀ (H : Heap) (locs : List Loc) (ls : Array Slot), WD g A s [(h, .inr (4, [.ref ma, .ref wa, .ref sa, .int (nI (n + 1 + i))])), (ma, .inl (g.2.1 0, 192, .inl (zF mf n i)))] [] H locs → lv_has ls 4 [(3, .int (nI i)), (0, .ref h), (1, .long (bitsL n))] → W p l e { frames := 1, cells := 0, slots := 0, locals := 21 } s m ar below meth c H locs 0 0 Q (F0 m 19 ls []) := by
    intro fu
    induction fu with
    | zero => intro i hmz; exact absurd hmz (Nat.not_lt_zero _)
    | succ fu ih =>
      intro i hms hi H locs ls hw hl
      refine lv_iload_n hx hb dX4_pad_19 rfl (lv_at hl 0 rfl) ?_
      refine lv_bipush (v := nI 64) hx hb dX4_pad_20 (by decide +kernel) ?_
      refine lv_icmp_ge (tgt := 48) hx hb dX4_pad_22 (by decide) (fun c4 => ?_) (fun c4 => ?_)
      · skip
        have c4 : 64 ≤ i := (nI_leI (by omega) (by omega)).mp c4
        exfalso; omega
      · skip
        have c4 : ¬ 64 ≤ i := fun q => c4 (((nI_leI (by omega) (by omega)).mpr q))
        refine lv_aload_n hx hb dX4_pad_25 rfl (lv_at hl 1 rfl) ?_
        refine r_get (ci := 4) (v := .int (nI (n + 1 + i))) (C := RX4) (T := TX4) (N := 4) hx hb hts hinX4 hown h0 hw 0 rfl rfl 3 (by decide) k19 rfl dX4_pad_26 ?_
        refine lv_bipush (v := nI 64) hx hb dX4_pad_29 (by decide +kernel) ?_
        refine lv_irem hx hb dX4_pad_31 (by decide +kernel) ?_
        refine r_te (y := nI ((n + 1 + i) % 64)) (pk_rem (by omega) (by decide) (by decide)) ?_
        refine lv_bipush (v := nI 56) hx hb dX4_pad_32 (by decide +kernel) ?_
        refine lv_icmp_eq (tgt := 48) hx hb dX4_pad_34 (by decide) (fun c5 => ?_) (fun c5 => ?_)
        · skip
          have c5 : ((n + 1 + i) % 64) = 56 := (nI_eq (by omega) (by omega)).mp c5
          have hi2 : i = pE n - 9 - n := by omega
          subst hi2
          rw [show n + 1 + (pE n - 9 - n) = pE n - 8 by omega] at hw
          refine lv_bipush (v := nI 56) hx hb dX4_pad_48 (by decide +kernel) ?_
          refine lv_istore_n (lv' := [(3, .int (nI 56)), (0, .ref h), (1, .long (bitsL n))]) hx hb dX4_pad_50 rfl hl (by decide) rfl (fun ls hl => ?_)
          have lp51 : ∀ (fu : Nat) (d : Nat), 8 - d < fu → (d ≤ 8) → ∀ (H : Heap) (locs : List Loc) (ls : Array Slot), WD g A s [(h, .inr (4, [.ref ma, .ref wa, .ref sa, .int (nI (pE n - 8 + d))])), (ma, .inl (g.2.1 0, 192, .inl (apD (zF mf n (pE n - 9 - n)) (pE n - 8) (bitsL n) 8 d)))] [] H locs → lv_has ls 4 [(3, .int (sh8 d)), (0, .ref h), (1, .long (bitsL n))] → W p l e { frames := 1, cells := 0, slots := 0, locals := 21 } s m ar below meth c H locs 0 0 Q (F0 m 51 ls []) := by
            intro fu
            induction fu with
            | zero => intro d hmz; exact absurd hmz (Nat.not_lt_zero _)
            | succ fu ih =>
              intro d hms hd H locs ls hw hl
              refine lv_iload_n hx hb dX4_pad_51 rfl (lv_at hl 0 rfl) ?_
              refine lv_if_lt (tgt := 73) hx hb dX4_pad_52 (by decide) (fun c6 => ?_) (fun c6 => ?_)
              · skip
                have hd8 : d = 8 := by
                  rcases Nat.lt_or_ge d 8 with q | q
                  · exact absurd c6 (sh8_nn d q)
                  · omega
                subst hd8
                rw [show pE n - 8 + 8 = pE n by omega] at hw
                exact hret hw () (trivial) (rfl) (by omega) (by omega) dX4_pad_73
              · skip
                have hd8 : d < 8 := by
                  rcases Nat.lt_or_ge d 8 with q | q
                  · exact q
                  · exact absurd sh8_8 (by rw [show (8 : Nat) = d by omega]; exact c6)
                refine lv_aload_n hx hb dX4_pad_55 rfl (lv_at hl 1 rfl) ?_
                refine lv_lload_n hx hb dX4_pad_56 rfl (lv_at hl 2 rfl) ?_
                refine lv_iload_n hx hb dX4_pad_57 rfl (lv_at hl 0 rfl) ?_
                refine r_te (y := nI (8 * (8 - d - 1))) (sh8_lt d hd8) ?_
                refine lv_lushr (v := jlushr (bitsL n) (nI (8 * (8 - d - 1)))) hx hb dX4_pad_58 rfl ?_
                refine lv_l2i (v := (jlushr (bitsL n) (nI (8 * (8 - d - 1)))).toInt32) hx hb dX4_pad_59 rfl ?_
                refine lv_sipush (v := nI 255) hx hb dX4_pad_60 (by decide +kernel) ?_
                refine lv_iand hx hb dX4_pad_63 ?_
                refine r_callv (wr := []) [0, 1] [] h0 hw rfl rfl (by decide) (by decide) (va_runV (As := [.int (((jlushr (bitsL n) (nI (8 * (8 - d - 1)))).toInt32) &&& (nI 255))]) (rest := []) ⟨hx, hb, hml, hown, hts⟩ (c_X4_append l g h ma wa sa (pE n - 8 + d) (apD (zF mf n (pE n - 9 - n)) (pE n - 8) (bitsL n) 8 d) (((jlushr (bitsL n) (nI (8 * (8 - d - 1)))).toInt32) &&& (nI 255)) (by omega) _) (cwV 1 hts gX4_pad_X4_append rfl rfl rfl (by decide +kernel) ⟨Nat.le_of_ble_eq_true rfl, Nat.le_of_ble_eq_true rfl⟩) (preV_of [0, 1] [.int (((jlushr (bitsL n) (nI (8 * (8 - d - 1)))).toInt32) &&& (nI 255))] h0 hw rfl (by decide) 0 4 rfl rfl) rfl rfl hl.1 rfl (lv_room (Nat.le_of_ble_eq_true rfl)) dX4_pad_64 ⟨Nat.le_of_ble_eq_true rfl, Nat.le_of_ble_eq_true rfl⟩) (fun u8 H locs hp9 hw => ?_)
                have hw : WD g A s [(h, .inr (4, [.ref ma, .ref wa, .ref sa, .int (nI ((pE n - 8 + d) + 1))])), (ma, .inl (g.2.1 0, 192, .inl (upd (apD (zF mf n (pE n - 9 - n)) (pE n - 8) (bitsL n) 8 d) (pE n - 8 + d) (((jlushr (bitsL n) (nI (8 * (8 - d - 1)))).toInt32) &&& (nI 255)))))] [] H locs := hw
                refine lv_iinc (v := (sh8 d) + Int32.ofInt (-8)) (lv' := [(3, .int ((sh8 d) + Int32.ofInt (-8))), (0, .ref h), (1, .long (bitsL n))]) hx hb dX4_pad_67 hl (k := 0) rfl (rfl) (by decide) rfl (fun ls hl => ?_)
                refine lv_goto (tgt := 51) hx hb dX4_pad_70 (by decide) ?_
                exact ih (d + 1) (by omega) (by omega) _ _ _ hw (lv_sub hl [0, 1, 2] rfl)
          exact lp51 (8 - 0 + 1) 0 (by omega) (by omega) _ _ _ hw (lv_sub hl [0, 1, 2] rfl)
        · skip
          have c5 : ¬ ((n + 1 + i) % 64) = 56 := fun q => c5 (((nI_eq (by omega) (by omega)).mpr q))
          refine lv_aload_n hx hb dX4_pad_37 rfl (lv_at hl 1 rfl) ?_
          refine lv_iconst (v := nI 0) hx hb dX4_pad_38 (by decide +kernel) ?_
          refine r_callv (wr := []) [0, 1] [] h0 hw rfl rfl (by decide) (by decide) (va_runV (As := [.int (nI 0)]) (rest := []) ⟨hx, hb, hml, hown, hts⟩ (c_X4_append l g h ma wa sa (n + 1 + i) (zF mf n i) (nI 0) (by omega) _) (cwV 1 hts gX4_pad_X4_append rfl rfl rfl (by decide +kernel) ⟨Nat.le_of_ble_eq_true rfl, Nat.le_of_ble_eq_true rfl⟩) (preV_of [0, 1] [.int (nI 0)] h0 hw rfl (by decide) 0 4 rfl rfl) rfl rfl hl.1 rfl (lv_room (Nat.le_of_ble_eq_true rfl)) dX4_pad_39 ⟨Nat.le_of_ble_eq_true rfl, Nat.le_of_ble_eq_true rfl⟩) (fun u11 H locs hp12 hw => ?_)
          have hw : WD g A s [(h, .inr (4, [.ref ma, .ref wa, .ref sa, .int (nI ((n + 1 + i) + 1))])), (ma, .inl (g.2.1 0, 192, .inl (upd (zF mf n i) (n + 1 + i) (nI 0))))] [] H locs := hw
          refine lv_iinc (v := nI (i + 1)) (lv' := [(3, .int (nI (i + 1))), (0, .ref h), (1, .long (bitsL n))]) hx hb dX4_pad_42 hl (k := 0) rfl (nI_add i 1) (by decide) rfl (fun ls hl => ?_)
          refine lv_goto (tgt := 19) hx hb dX4_pad_45 (by decide) ?_
          exact ih (i + 1) (by omega) (by omega) _ _ _ hw (lv_sub hl [0, 1, 2] rfl)
  exact lp19 (64 - 0 + 1) 0 (by omega) (by omega) _ _ _ hw (lv_sub hl [0, 2, 1] rfl)

set_option maxHeartbeats 4000000 in
set_option maxRecDepth 100000 in
theorem c_X4_fillSchedule (l : Launch) (g : GE) (h : Nat) (ma : Nat) (wa : Nat) (sa : Nat) (n : Nat) (mf : Nat → Int32) (wf : Nat → Int32) (fr : Nat) (hf : fr + 64 ≤ 192) (sz : Nat) : MV l yX4_fillSchedule wsX4_fillSchedule { frames := 1, cells := 0, slots := 0, locals := 21 } g [.ref h, .int (nI fr)] [(h, .inr (4, [.ref ma, .ref wa, .ref sa, .int (nI n)])), (ma, .inl (g.2.1 0, 192, .inl (mf))), (wa, .inl (g.2.1 0, 64, .inl (wf)))] sz (fun (_ : Unit) => True) (fun (_ : Unit) => [(h, .inr (4, [.ref ma, .ref wa, .ref sa, .int (nI n)])), (ma, .inl (g.2.1 0, 192, .inl (mf))), (wa, .inl (g.2.1 0, 64, .inl (shW mf fr wf)))]) 0 0 := by
  refine enterV (by decide) rfl (Nat.le_of_ble_eq_true rfl) ?_
  intro p e s m below meth c A ls ar Q hE h0 hret hw hl
  obtain ⟨hx, hb, hr, hml, hown, hts, hlocks, hname⟩ := hE
  have hown : s.vm.findClass RX4 = some m.cls := hown
  have hw : WD g A s [(h, .inr (4, [.ref ma, .ref wa, .ref sa, .int (nI n)])), (ma, .inl (g.2.1 0, 192, .inl (mf))), (wa, .inl (g.2.1 0, 64, .inl (wf)))] [] s.heap [] := hw
  have hinX4 : ∀ w ∈ u_ws RX4 TX4 4, w ∈ wsX4_fillSchedule := by decide +kernel
  have k9 := hts (.fieldLink RX4 9 "RecordWire$Sha256" "message" "[I") (by decide +kernel)
  have k13 := hts (.fieldLink RX4 13 "RecordWire$Sha256" "schedule" "[I") (by decide +kernel)
  have hl : lv_has ls 7 [(0, .ref h), (1, .int (nI fr))] := hl
  refine lv_iconst (v := nI 0) hx hb dX4_fillSchedule_0 (by decide +kernel) ?_
  refine lv_istore_n (lv' := [(2, .int (nI 0)), (0, .ref h), (1, .int (nI fr))]) hx hb dX4_fillSchedule_1 rfl hl (by decide) rfl (fun ls hl => ?_)
  have lp2 : ∀ (fu : Nat) (t : Nat), 16 - t < fu → (t ≤ 16) → ∀ (H : Heap) (locs : List Loc) (ls : Array Slot), WD g A s [(h, .inr (4, [.ref ma, .ref wa, .ref sa, .int (nI n)])), (ma, .inl (g.2.1 0, 192, .inl (mf))), (wa, .inl (g.2.1 0, 64, .inl (shF mf fr wf t)))] [] H locs → lv_has ls 7 [(2, .int (nI t)), (0, .ref h), (1, .int (nI fr))] → W p l e { frames := 1, cells := 0, slots := 0, locals := 21 } s m ar below meth c H locs 0 0 Q (F0 m 2 ls []) := by
    intro fu
    induction fu with
    | zero => intro t hmz; exact absurd hmz (Nat.not_lt_zero _)
    | succ fu ih =>
      intro t hms ht H locs ls hw hl
      refine lv_iload_n hx hb dX4_fillSchedule_2 rfl (lv_at hl 0 rfl) ?_
      refine lv_bipush (v := nI 16) hx hb dX4_fillSchedule_3 (by decide +kernel) ?_
      refine lv_icmp_ge (tgt := 68) hx hb dX4_fillSchedule_5 (by decide) (fun c1 => ?_) (fun c1 => ?_)
      · skip
        have c1 : 16 ≤ t := (nI_leI (by omega) (by omega)).mp c1
        have hq : t = 16 := by omega
        subst t
        refine lv_bipush (v := nI 16) hx hb dX4_fillSchedule_68 (by decide +kernel) ?_
        refine lv_istore_n (lv' := [(2, .int (nI 16)), (0, .ref h), (1, .int (nI fr))]) hx hb dX4_fillSchedule_70 rfl hl (by decide) rfl (fun ls hl => ?_)
        have lp71 : ∀ (fu : Nat) (t : Nat), 48 - t < fu → (t ≤ 48) → ∀ (H : Heap) (locs : List Loc) (ls : Array Slot), WD g A s [(h, .inr (4, [.ref ma, .ref wa, .ref sa, .int (nI n)])), (ma, .inl (g.2.1 0, 192, .inl (mf))), (wa, .inl (g.2.1 0, 64, .inl (shG (shF mf fr wf 16) t)))] [] H locs → lv_has ls 7 [(2, .int (nI (16 + t))), (0, .ref h)] → W p l e { frames := 1, cells := 0, slots := 0, locals := 21 } s m ar below meth c H locs 0 0 Q (F0 m 71 ls []) := by
          intro fu
          induction fu with
          | zero => intro t hmz; exact absurd hmz (Nat.not_lt_zero _)
          | succ fu ih =>
            intro t hms ht H locs ls hw hl
            refine lv_iload_n hx hb dX4_fillSchedule_71 rfl (lv_at hl 0 rfl) ?_
            refine lv_bipush (v := nI 64) hx hb dX4_fillSchedule_72 (by decide +kernel) ?_
            refine lv_icmp_ge (tgt := 176) hx hb dX4_fillSchedule_74 (by decide) (fun c2 => ?_) (fun c2 => ?_)
            · skip
              have c2 : 64 ≤ (16 + t) := (nI_leI (by omega) (by omega)).mp c2
              have hq : t = 48 := by omega
              subst t
              exact hret hw () (trivial) (rfl) (by omega) (by omega) dX4_fillSchedule_176
            · skip
              have c2 : ¬ 64 ≤ (16 + t) := fun q => c2 (((nI_leI (by omega) (by omega)).mpr q))
              refine lv_aload_n hx hb dX4_fillSchedule_77 rfl (lv_at hl 1 rfl) ?_
              refine r_get (ci := 4) (v := .ref wa) (C := RX4) (T := TX4) (N := 4) hx hb hts hinX4 hown h0 hw 0 rfl rfl 1 (by decide) k13 rfl dX4_fillSchedule_78 ?_
              refine lv_iload_n hx hb dX4_fillSchedule_81 rfl (lv_at hl 0 rfl) ?_
              refine lv_iconst (v := nI 2) hx hb dX4_fillSchedule_82 (by decide +kernel) ?_
              refine lv_isub hx hb dX4_fillSchedule_83 ?_
              refine r_te (y := nI (16 + t - 2)) (pk_sub (by omega)) ?_
              refine r_iald hx hb h0 hw 2 rfl (i := 16 + t - 2) (by omega) (by omega) dX4_fillSchedule_84 ?_
              refine lv_istore_n (lv' := [(3, .int ((shG (shF mf fr wf 16) t) (16 + t - 2))), (2, .int (nI (16 + t))), (0, .ref h)]) hx hb dX4_fillSchedule_85 rfl hl (by decide) rfl (fun ls hl => ?_)
              refine lv_aload_n hx hb dX4_fillSchedule_86 rfl (lv_at hl 2 rfl) ?_
              refine r_get (ci := 4) (v := .ref wa) (C := RX4) (T := TX4) (N := 4) hx hb hts hinX4 hown h0 hw 0 rfl rfl 1 (by decide) k13 rfl dX4_fillSchedule_87 ?_
              refine lv_iload_n hx hb dX4_fillSchedule_90 rfl (lv_at hl 1 rfl) ?_
              refine lv_bipush (v := nI 15) hx hb dX4_fillSchedule_91 (by decide +kernel) ?_
              refine lv_isub hx hb dX4_fillSchedule_93 ?_
              refine r_te (y := nI (16 + t - 15)) (pk_sub (by omega)) ?_
              refine r_iald hx hb h0 hw 2 rfl (i := 16 + t - 15) (by omega) (by omega) dX4_fillSchedule_94 ?_
              refine lv_istore (lv' := [(4, .int ((shG (shF mf fr wf 16) t) (16 + t - 15))), (3, .int ((shG (shF mf fr wf 16) t) (16 + t - 2))), (2, .int (nI (16 + t))), (0, .ref h)]) hx hb dX4_fillSchedule_95 hl (by decide) rfl (fun ls hl => ?_)
              refine lv_iload_n hx hb dX4_fillSchedule_97 rfl (lv_at hl 1 rfl) ?_
              refine lv_bipush (v := nI 17) hx hb dX4_fillSchedule_98 (by decide +kernel) ?_
              refine r_calli (wr := [(h, .inr (4, [.ref ma, .ref wa, .ref sa, .int (nI n)])), (ma, .inl (g.2.1 0, 192, .inl (mf))), (wa, .inl (g.2.1 0, 64, .inl (shG (shF mf fr wf 16) t)))]) [] [0, 1, 2] h0 hw rfl rfl (by decide) (by decide) (va_runS (As := [.int ((shG (shF mf fr wf 16) t) (16 + t - 2)), .int (nI 17)]) (rest := []) ⟨hx, hb, hml, hown, hts⟩ (c_X4_turn l g ((shG (shF mf fr wf 16) t) (16 + t - 2)) (nI 17)  _) (va_cwS 2 hts gX4_fillSchedule_X4_turn rfl rfl rfl (by decide +kernel) ⟨Nat.le_of_ble_eq_true rfl, Nat.le_of_ble_eq_true rfl⟩) (preS_of [] [.int ((shG (shF mf fr wf 16) t) (16 + t - 2)), .int (nI 17)] h0 hw rfl (by decide)) rfl rfl hl.1 rfl (lv_room (Nat.le_of_ble_eq_true rfl)) dX4_fillSchedule_100 ⟨Nat.le_of_ble_eq_true rfl, Nat.le_of_ble_eq_true rfl⟩) (fun r3 u4 H locs hp5 hw => ?_)
              have hw : WD g A s [(h, .inr (4, [.ref ma, .ref wa, .ref sa, .int (nI n)])), (ma, .inl (g.2.1 0, 192, .inl (mf))), (wa, .inl (g.2.1 0, 64, .inl (shG (shF mf fr wf 16) t)))] [] H locs := hw
              subst hp5
              refine lv_iload_n hx hb dX4_fillSchedule_103 rfl (lv_at hl 1 rfl) ?_
              refine lv_bipush (v := nI 19) hx hb dX4_fillSchedule_104 (by decide +kernel) ?_
              refine r_calli (wr := [(h, .inr (4, [.ref ma, .ref wa, .ref sa, .int (nI n)])), (ma, .inl (g.2.1 0, 192, .inl (mf))), (wa, .inl (g.2.1 0, 64, .inl (shG (shF mf fr wf 16) t)))]) [] [0, 1, 2] h0 hw rfl rfl (by decide) (by decide) (va_runS (As := [.int ((shG (shF mf fr wf 16) t) (16 + t - 2)), .int (nI 19)]) (rest := [.int (rotr ((shG (shF mf fr wf 16) t) (16 + t - 2)) (nI 17))]) ⟨hx, hb, hml, hown, hts⟩ (c_X4_turn l g ((shG (shF mf fr wf 16) t) (16 + t - 2)) (nI 19)  _) (va_cwS 2 hts gX4_fillSchedule_X4_turn rfl rfl rfl (by decide +kernel) ⟨Nat.le_of_ble_eq_true rfl, Nat.le_of_ble_eq_true rfl⟩) (preS_of [] [.int ((shG (shF mf fr wf 16) t) (16 + t - 2)), .int (nI 19)] h0 hw rfl (by decide)) rfl rfl hl.1 rfl (lv_room (Nat.le_of_ble_eq_true rfl)) dX4_fillSchedule_106 ⟨Nat.le_of_ble_eq_true rfl, Nat.le_of_ble_eq_true rfl⟩) (fun r6 u7 H locs hp8 hw => ?_)
              have hw : WD g A s [(h, .inr (4, [.ref ma, .ref wa, .ref sa, .int (nI n)])), (ma, .inl (g.2.1 0, 192, .inl (mf))), (wa, .inl (g.2.1 0, 64, .inl (shG (shF mf fr wf 16) t)))] [] H locs := hw
              subst hp8
              refine lv_ixor hx hb dX4_fillSchedule_109 ?_
              refine lv_iload_n hx hb dX4_fillSchedule_110 rfl (lv_at hl 1 rfl) ?_
              refine lv_bipush (v := nI 10) hx hb dX4_fillSchedule_111 (by decide +kernel) ?_
              refine lv_iushr (v := jushr ((shG (shF mf fr wf 16) t) (16 + t - 2)) (nI 10)) hx hb dX4_fillSchedule_113 rfl ?_
              refine lv_ixor hx hb dX4_fillSchedule_114 ?_
              refine lv_topi (fun z9 ez9 => ?_)
              refine lv_istore (lv' := [(5, .int (z9)), (4, .int ((shG (shF mf fr wf 16) t) (16 + t - 15))), (3, .int ((shG (shF mf fr wf 16) t) (16 + t - 2))), (2, .int (nI (16 + t))), (0, .ref h)]) hx hb dX4_fillSchedule_115 hl (by decide) rfl (fun ls hl => ?_)
              refine lv_iload hx hb dX4_fillSchedule_117 (lv_at hl 1 rfl) ?_
              refine lv_bipush (v := nI 7) hx hb dX4_fillSchedule_119 (by decide +kernel) ?_
              refine r_calli (wr := [(h, .inr (4, [.ref ma, .ref wa, .ref sa, .int (nI n)])), (ma, .inl (g.2.1 0, 192, .inl (mf))), (wa, .inl (g.2.1 0, 64, .inl (shG (shF mf fr wf 16) t)))]) [] [0, 1, 2] h0 hw rfl rfl (by decide) (by decide) (va_runS (As := [.int ((shG (shF mf fr wf 16) t) (16 + t - 15)), .int (nI 7)]) (rest := []) ⟨hx, hb, hml, hown, hts⟩ (c_X4_turn l g ((shG (shF mf fr wf 16) t) (16 + t - 15)) (nI 7)  _) (va_cwS 2 hts gX4_fillSchedule_X4_turn rfl rfl rfl (by decide +kernel) ⟨Nat.le_of_ble_eq_true rfl, Nat.le_of_ble_eq_true rfl⟩) (preS_of [] [.int ((shG (shF mf fr wf 16) t) (16 + t - 15)), .int (nI 7)] h0 hw rfl (by decide)) rfl rfl hl.1 rfl (lv_room (Nat.le_of_ble_eq_true rfl)) dX4_fillSchedule_121 ⟨Nat.le_of_ble_eq_true rfl, Nat.le_of_ble_eq_true rfl⟩) (fun r10 u11 H locs hp12 hw => ?_)
              have hw : WD g A s [(h, .inr (4, [.ref ma, .ref wa, .ref sa, .int (nI n)])), (ma, .inl (g.2.1 0, 192, .inl (mf))), (wa, .inl (g.2.1 0, 64, .inl (shG (shF mf fr wf 16) t)))] [] H locs := hw
              subst hp12
              refine lv_iload hx hb dX4_fillSchedule_124 (lv_at hl 1 rfl) ?_
              refine lv_bipush (v := nI 18) hx hb dX4_fillSchedule_126 (by decide +kernel) ?_
              refine r_calli (wr := [(h, .inr (4, [.ref ma, .ref wa, .ref sa, .int (nI n)])), (ma, .inl (g.2.1 0, 192, .inl (mf))), (wa, .inl (g.2.1 0, 64, .inl (shG (shF mf fr wf 16) t)))]) [] [0, 1, 2] h0 hw rfl rfl (by decide) (by decide) (va_runS (As := [.int ((shG (shF mf fr wf 16) t) (16 + t - 15)), .int (nI 18)]) (rest := [.int (rotr ((shG (shF mf fr wf 16) t) (16 + t - 15)) (nI 7))]) ⟨hx, hb, hml, hown, hts⟩ (c_X4_turn l g ((shG (shF mf fr wf 16) t) (16 + t - 15)) (nI 18)  _) (va_cwS 2 hts gX4_fillSchedule_X4_turn rfl rfl rfl (by decide +kernel) ⟨Nat.le_of_ble_eq_true rfl, Nat.le_of_ble_eq_true rfl⟩) (preS_of [] [.int ((shG (shF mf fr wf 16) t) (16 + t - 15)), .int (nI 18)] h0 hw rfl (by decide)) rfl rfl hl.1 rfl (lv_room (Nat.le_of_ble_eq_true rfl)) dX4_fillSchedule_128 ⟨Nat.le_of_ble_eq_true rfl, Nat.le_of_ble_eq_true rfl⟩) (fun r13 u14 H locs hp15 hw => ?_)
              have hw : WD g A s [(h, .inr (4, [.ref ma, .ref wa, .ref sa, .int (nI n)])), (ma, .inl (g.2.1 0, 192, .inl (mf))), (wa, .inl (g.2.1 0, 64, .inl (shG (shF mf fr wf 16) t)))] [] H locs := hw
              subst hp15
              refine lv_ixor hx hb dX4_fillSchedule_131 ?_
              refine lv_iload hx hb dX4_fillSchedule_132 (lv_at hl 1 rfl) ?_
              refine lv_iconst (v := nI 3) hx hb dX4_fillSchedule_134 (by decide +kernel) ?_
              refine lv_iushr (v := jushr ((shG (shF mf fr wf 16) t) (16 + t - 15)) (nI 3)) hx hb dX4_fillSchedule_135 rfl ?_
              refine lv_ixor hx hb dX4_fillSchedule_136 ?_
              refine lv_topi (fun z16 ez16 => ?_)
              refine lv_istore (lv' := [(6, .int (z16)), (5, .int (z9)), (4, .int ((shG (shF mf fr wf 16) t) (16 + t - 15))), (3, .int ((shG (shF mf fr wf 16) t) (16 + t - 2))), (2, .int (nI (16 + t))), (0, .ref h)]) hx hb dX4_fillSchedule_137 hl (by decide) rfl (fun ls hl => ?_)
              refine lv_aload_n hx hb dX4_fillSchedule_139 rfl (lv_at hl 5 rfl) ?_
              refine r_get (ci := 4) (v := .ref wa) (C := RX4) (T := TX4) (N := 4) hx hb hts hinX4 hown h0 hw 0 rfl rfl 1 (by decide) k13 rfl dX4_fillSchedule_140 ?_
              refine lv_iload_n hx hb dX4_fillSchedule_143 rfl (lv_at hl 4 rfl) ?_
              refine lv_iload hx hb dX4_fillSchedule_144 (lv_at hl 1 rfl) ?_
              refine lv_aload_n hx hb dX4_fillSchedule_146 rfl (lv_at hl 5 rfl) ?_
              refine r_get (ci := 4) (v := .ref wa) (C := RX4) (T := TX4) (N := 4) hx hb hts hinX4 hown h0 hw 0 rfl rfl 1 (by decide) k13 rfl dX4_fillSchedule_147 ?_
              refine lv_iload_n hx hb dX4_fillSchedule_150 rfl (lv_at hl 4 rfl) ?_
              refine lv_bipush (v := nI 7) hx hb dX4_fillSchedule_151 (by decide +kernel) ?_
              refine lv_isub hx hb dX4_fillSchedule_153 ?_
              refine r_te (y := nI (16 + t - 7)) (pk_sub (by omega)) ?_
              refine r_iald hx hb h0 hw 2 rfl (i := 16 + t - 7) (by omega) (by omega) dX4_fillSchedule_154 ?_
              refine lv_iadd hx hb dX4_fillSchedule_155 ?_
              refine lv_iload hx hb dX4_fillSchedule_156 (lv_at hl 0 rfl) ?_
              refine lv_iadd hx hb dX4_fillSchedule_158 ?_
              refine lv_aload_n hx hb dX4_fillSchedule_159 rfl (lv_at hl 5 rfl) ?_
              refine r_get (ci := 4) (v := .ref wa) (C := RX4) (T := TX4) (N := 4) hx hb hts hinX4 hown h0 hw 0 rfl rfl 1 (by decide) k13 rfl dX4_fillSchedule_160 ?_
              refine lv_iload_n hx hb dX4_fillSchedule_163 rfl (lv_at hl 4 rfl) ?_
              refine lv_bipush (v := nI 16) hx hb dX4_fillSchedule_164 (by decide +kernel) ?_
              refine lv_isub hx hb dX4_fillSchedule_166 ?_
              refine r_te (y := nI (16 + t - 16)) (pk_sub (by omega)) ?_
              refine r_iald hx hb h0 hw 2 rfl (i := 16 + t - 16) (by omega) (by omega) dX4_fillSchedule_167 ?_
              refine lv_iadd hx hb dX4_fillSchedule_168 ?_
              refine r_iast hx hb h0 hw 2 rfl (i := 16 + t) (by omega) (by omega) dX4_fillSchedule_169 (fun H locs hw => ?_)
              have hw : WD g A s [(h, .inr (4, [.ref ma, .ref wa, .ref sa, .int (nI n)])), (ma, .inl (g.2.1 0, 192, .inl (mf))), (wa, .inl (g.2.1 0, 64, .inl (upd (shG (shF mf fr wf 16) t) (16 + t) (((z9 + ((shG (shF mf fr wf 16) t) (16 + t - 7))) + z16) + ((shG (shF mf fr wf 16) t) (16 + t - 16))))))] [] H locs := hw
              refine lv_iinc (v := nI (16 + t + 1)) (lv' := [(2, .int (nI (16 + t + 1))), (6, .int (z16)), (5, .int (z9)), (4, .int ((shG (shF mf fr wf 16) t) (16 + t - 15))), (3, .int ((shG (shF mf fr wf 16) t) (16 + t - 2))), (0, .ref h)]) hx hb dX4_fillSchedule_170 hl (k := 4) rfl (nI_add (16 + t) 1) (by decide) rfl (fun ls hl => ?_)
              refine lv_goto (tgt := 71) hx hb dX4_fillSchedule_173 (by decide) ?_
              subst ez16
              subst ez9
              exact ih (t + 1) (by omega) (by omega) _ _ _ hw (lv_sub hl [0, 5] rfl)
        exact lp71 (48 - 0 + 1) 0 (by omega) (by omega) _ _ _ hw (lv_sub hl [0, 1] rfl)
      · skip
        have c1 : ¬ 16 ≤ t := fun q => c1 (((nI_leI (by omega) (by omega)).mpr q))
        refine lv_iload_n hx hb dX4_fillSchedule_8 rfl (lv_at hl 2 rfl) ?_
        refine lv_iconst (v := nI 4) hx hb dX4_fillSchedule_9 (by decide +kernel) ?_
        refine lv_iload_n hx hb dX4_fillSchedule_10 rfl (lv_at hl 0 rfl) ?_
        refine lv_imul hx hb dX4_fillSchedule_11 ?_
        refine r_te (y := nI (4 * t)) (pk_mul 4 t) ?_
        refine lv_iadd hx hb dX4_fillSchedule_12 ?_
        refine r_te (y := nI (fr + (4 * t))) (nI_add fr (4 * t)) ?_
        refine lv_istore_n (lv' := [(3, .int (nI (fr + (4 * t)))), (2, .int (nI t)), (0, .ref h), (1, .int (nI fr))]) hx hb dX4_fillSchedule_13 rfl hl (by decide) rfl (fun ls hl => ?_)
        refine lv_aload_n hx hb dX4_fillSchedule_14 rfl (lv_at hl 2 rfl) ?_
        refine r_get (ci := 4) (v := .ref wa) (C := RX4) (T := TX4) (N := 4) hx hb hts hinX4 hown h0 hw 0 rfl rfl 1 (by decide) k13 rfl dX4_fillSchedule_15 ?_
        refine lv_iload_n hx hb dX4_fillSchedule_18 rfl (lv_at hl 1 rfl) ?_
        refine lv_aload_n hx hb dX4_fillSchedule_19 rfl (lv_at hl 2 rfl) ?_
        refine r_get (ci := 4) (v := .ref ma) (C := RX4) (T := TX4) (N := 4) hx hb hts hinX4 hown h0 hw 0 rfl rfl 0 (by decide) k9 rfl dX4_fillSchedule_20 ?_
        refine lv_iload_n hx hb dX4_fillSchedule_23 rfl (lv_at hl 0 rfl) ?_
        refine r_iald hx hb h0 hw 1 rfl (i := fr + (4 * t)) (by omega) (by omega) dX4_fillSchedule_24 ?_
        refine lv_bipush (v := nI 24) hx hb dX4_fillSchedule_25 (by decide +kernel) ?_
        refine lv_ishl hx hb dX4_fillSchedule_27 ?_
        refine r_te (y := jshl (mf (fr + (4 * t))) (nI 24)) rfl ?_
        refine lv_aload_n hx hb dX4_fillSchedule_28 rfl (lv_at hl 2 rfl) ?_
        refine r_get (ci := 4) (v := .ref ma) (C := RX4) (T := TX4) (N := 4) hx hb hts hinX4 hown h0 hw 0 rfl rfl 0 (by decide) k9 rfl dX4_fillSchedule_29 ?_
        refine lv_iload_n hx hb dX4_fillSchedule_32 rfl (lv_at hl 0 rfl) ?_
        refine lv_iconst (v := nI 1) hx hb dX4_fillSchedule_33 (by decide +kernel) ?_
        refine lv_iadd hx hb dX4_fillSchedule_34 ?_
        refine r_te (y := nI (fr + (4 * t) + 1)) (nI_add (fr + (4 * t)) 1) ?_
        refine r_iald hx hb h0 hw 1 rfl (i := fr + (4 * t) + 1) (by omega) (by omega) dX4_fillSchedule_35 ?_
        refine lv_bipush (v := nI 16) hx hb dX4_fillSchedule_36 (by decide +kernel) ?_
        refine lv_ishl hx hb dX4_fillSchedule_38 ?_
        refine r_te (y := jshl (mf (fr + (4 * t) + 1)) (nI 16)) rfl ?_
        refine lv_ior hx hb dX4_fillSchedule_39 ?_
        refine lv_aload_n hx hb dX4_fillSchedule_40 rfl (lv_at hl 2 rfl) ?_
        refine r_get (ci := 4) (v := .ref ma) (C := RX4) (T := TX4) (N := 4) hx hb hts hinX4 hown h0 hw 0 rfl rfl 0 (by decide) k9 rfl dX4_fillSchedule_41 ?_
        refine lv_iload_n hx hb dX4_fillSchedule_44 rfl (lv_at hl 0 rfl) ?_
        refine lv_iconst (v := nI 2) hx hb dX4_fillSchedule_45 (by decide +kernel) ?_
        refine lv_iadd hx hb dX4_fillSchedule_46 ?_
        refine r_te (y := nI (fr + (4 * t) + 2)) (nI_add (fr + (4 * t)) 2) ?_
        refine r_iald hx hb h0 hw 1 rfl (i := fr + (4 * t) + 2) (by omega) (by omega) dX4_fillSchedule_47 ?_
        refine lv_bipush (v := nI 8) hx hb dX4_fillSchedule_48 (by decide +kernel) ?_
        refine lv_ishl hx hb dX4_fillSchedule_50 ?_
        refine r_te (y := jshl (mf (fr + (4 * t) + 2)) (nI 8)) rfl ?_
        refine lv_ior hx hb dX4_fillSchedule_51 ?_
        refine lv_aload_n hx hb dX4_fillSchedule_52 rfl (lv_at hl 2 rfl) ?_
        refine r_get (ci := 4) (v := .ref ma) (C := RX4) (T := TX4) (N := 4) hx hb hts hinX4 hown h0 hw 0 rfl rfl 0 (by decide) k9 rfl dX4_fillSchedule_53 ?_
        refine lv_iload_n hx hb dX4_fillSchedule_56 rfl (lv_at hl 0 rfl) ?_
        refine lv_iconst (v := nI 3) hx hb dX4_fillSchedule_57 (by decide +kernel) ?_
        refine lv_iadd hx hb dX4_fillSchedule_58 ?_
        refine r_te (y := nI (fr + (4 * t) + 3)) (nI_add (fr + (4 * t)) 3) ?_
        refine r_iald hx hb h0 hw 1 rfl (i := fr + (4 * t) + 3) (by omega) (by omega) dX4_fillSchedule_59 ?_
        refine lv_ior hx hb dX4_fillSchedule_60 ?_
        refine r_iast hx hb h0 hw 2 rfl (i := t) (by omega) (by omega) dX4_fillSchedule_61 (fun H locs hw => ?_)
        have hw : WD g A s [(h, .inr (4, [.ref ma, .ref wa, .ref sa, .int (nI n)])), (ma, .inl (g.2.1 0, 192, .inl (mf))), (wa, .inl (g.2.1 0, 64, .inl (upd (shF mf fr wf t) t ((((jshl (mf (fr + (4 * t))) (nI 24)) ||| (jshl (mf (fr + (4 * t) + 1)) (nI 16))) ||| (jshl (mf (fr + (4 * t) + 2)) (nI 8))) ||| (mf (fr + (4 * t) + 3))))))] [] H locs := hw
        refine lv_iinc (v := nI (t + 1)) (lv' := [(2, .int (nI (t + 1))), (3, .int (nI (fr + (4 * t)))), (0, .ref h), (1, .int (nI fr))]) hx hb dX4_fillSchedule_62 hl (k := 1) rfl (nI_add t 1) (by decide) rfl (fun ls hl => ?_)
        refine lv_goto (tgt := 2) hx hb dX4_fillSchedule_65 (by decide) ?_
        exact ih (t + 1) (by omega) (by omega) _ _ _ hw (lv_sub hl [0, 2, 3] rfl)
  exact lp2 (16 - 0 + 1) 0 (by omega) (by omega) _ _ _ hw (lv_sub hl [0, 1, 2] rfl)

set_option maxHeartbeats 4000000 in
set_option maxRecDepth 100000 in
theorem c_X4_mixState (l : Launch) (g : GE) (h : Nat) (ma : Nat) (wa : Nat) (sa : Nat) (n : Nat) (wf : Nat → Int32) (sf : Nat → Int32) (sz : Nat) : MV l yX4_mixState wsX4_mixState { frames := 1, cells := 0, slots := 0, locals := 21 } g [.ref h] [(h, .inr (4, [.ref ma, .ref wa, .ref sa, .int (nI n)])), (wa, .inl (g.2.1 0, 64, .inl (wf))), (sa, .inl (g.2.1 0, 8, .inl (sf)))] sz (fun (_ : Unit) => True) (fun (_ : Unit) => [(h, .inr (4, [.ref ma, .ref wa, .ref sa, .int (nI n)])), (wa, .inl (g.2.1 0, 64, .inl (wf))), (sa, .inl (g.2.1 0, 8, .inl (stAdd sf (shI (tup sf) wf 64))))]) 0 0 := by
  refine enterV (by decide) rfl (Nat.le_of_ble_eq_true rfl) ?_
  intro p e s m below meth c A ls ar Q hE h0 hret hw hl
  obtain ⟨hx, hb, hr, hml, hown, hts, hlocks, hname⟩ := hE
  have hown : s.vm.findClass RX4 = some m.cls := hown
  have hw : WD g A s [(h, .inr (4, [.ref ma, .ref wa, .ref sa, .int (nI n)])), (wa, .inl (g.2.1 0, 64, .inl (wf))), (sa, .inl (g.2.1 0, 8, .inl (sf)))] [] s.heap [] := hw
  have hinX4 : ∀ w ∈ u_ws RX4 TX4 4, w ∈ wsX4_mixState := by decide +kernel
  have k13 := hts (.fieldLink RX4 13 "RecordWire$Sha256" "schedule" "[I") (by decide +kernel)
  have k16 := hts (.fieldLink RX4 16 "RecordWire$Sha256" "state" "[I") (by decide +kernel)
  have k45 := hts (.fieldLink RX4 45 "RecordWire$Sha256" "ROUND_WORDS" "[I") (by decide +kernel)
  have hl : lv_has ls 14 [(0, .ref h)] := hl
  refine lv_aload_n hx hb dX4_mixState_0 rfl (lv_at hl 0 rfl) ?_
  refine r_get (ci := 4) (v := .ref sa) (C := RX4) (T := TX4) (N := 4) hx hb hts hinX4 hown h0 hw 0 rfl rfl 2 (by decide) k16 rfl dX4_mixState_1 ?_
  refine lv_iconst (v := nI 0) hx hb dX4_mixState_4 (by decide +kernel) ?_
  refine r_iald hx hb h0 hw 2 rfl (i := 0) (by omega) (by omega) dX4_mixState_5 ?_
  refine lv_istore_n (lv' := [(1, .int (sf 0)), (0, .ref h)]) hx hb dX4_mixState_6 rfl hl (by decide) rfl (fun ls hl => ?_)
  refine lv_aload_n hx hb dX4_mixState_7 rfl (lv_at hl 1 rfl) ?_
  refine r_get (ci := 4) (v := .ref sa) (C := RX4) (T := TX4) (N := 4) hx hb hts hinX4 hown h0 hw 0 rfl rfl 2 (by decide) k16 rfl dX4_mixState_8 ?_
  refine lv_iconst (v := nI 1) hx hb dX4_mixState_11 (by decide +kernel) ?_
  refine r_iald hx hb h0 hw 2 rfl (i := 1) (by omega) (by omega) dX4_mixState_12 ?_
  refine lv_istore_n (lv' := [(2, .int (sf 1)), (1, .int (sf 0)), (0, .ref h)]) hx hb dX4_mixState_13 rfl hl (by decide) rfl (fun ls hl => ?_)
  refine lv_aload_n hx hb dX4_mixState_14 rfl (lv_at hl 2 rfl) ?_
  refine r_get (ci := 4) (v := .ref sa) (C := RX4) (T := TX4) (N := 4) hx hb hts hinX4 hown h0 hw 0 rfl rfl 2 (by decide) k16 rfl dX4_mixState_15 ?_
  refine lv_iconst (v := nI 2) hx hb dX4_mixState_18 (by decide +kernel) ?_
  refine r_iald hx hb h0 hw 2 rfl (i := 2) (by omega) (by omega) dX4_mixState_19 ?_
  refine lv_istore_n (lv' := [(3, .int (sf 2)), (2, .int (sf 1)), (1, .int (sf 0)), (0, .ref h)]) hx hb dX4_mixState_20 rfl hl (by decide) rfl (fun ls hl => ?_)
  refine lv_aload_n hx hb dX4_mixState_21 rfl (lv_at hl 3 rfl) ?_
  refine r_get (ci := 4) (v := .ref sa) (C := RX4) (T := TX4) (N := 4) hx hb hts hinX4 hown h0 hw 0 rfl rfl 2 (by decide) k16 rfl dX4_mixState_22 ?_
  refine lv_iconst (v := nI 3) hx hb dX4_mixState_25 (by decide +kernel) ?_
  refine r_iald hx hb h0 hw 2 rfl (i := 3) (by omega) (by omega) dX4_mixState_26 ?_
  refine lv_istore (lv' := [(4, .int (sf 3)), (3, .int (sf 2)), (2, .int (sf 1)), (1, .int (sf 0)), (0, .ref h)]) hx hb dX4_mixState_27 hl (by decide) rfl (fun ls hl => ?_)
  refine lv_aload_n hx hb dX4_mixState_29 rfl (lv_at hl 4 rfl) ?_
  refine r_get (ci := 4) (v := .ref sa) (C := RX4) (T := TX4) (N := 4) hx hb hts hinX4 hown h0 hw 0 rfl rfl 2 (by decide) k16 rfl dX4_mixState_30 ?_
  refine lv_iconst (v := nI 4) hx hb dX4_mixState_33 (by decide +kernel) ?_
  refine r_iald hx hb h0 hw 2 rfl (i := 4) (by omega) (by omega) dX4_mixState_34 ?_
  refine lv_istore (lv' := [(5, .int (sf 4)), (4, .int (sf 3)), (3, .int (sf 2)), (2, .int (sf 1)), (1, .int (sf 0)), (0, .ref h)]) hx hb dX4_mixState_35 hl (by decide) rfl (fun ls hl => ?_)
  refine lv_aload_n hx hb dX4_mixState_37 rfl (lv_at hl 5 rfl) ?_
  refine r_get (ci := 4) (v := .ref sa) (C := RX4) (T := TX4) (N := 4) hx hb hts hinX4 hown h0 hw 0 rfl rfl 2 (by decide) k16 rfl dX4_mixState_38 ?_
  refine lv_iconst (v := nI 5) hx hb dX4_mixState_41 (by decide +kernel) ?_
  refine r_iald hx hb h0 hw 2 rfl (i := 5) (by omega) (by omega) dX4_mixState_42 ?_
  refine lv_istore (lv' := [(6, .int (sf 5)), (5, .int (sf 4)), (4, .int (sf 3)), (3, .int (sf 2)), (2, .int (sf 1)), (1, .int (sf 0)), (0, .ref h)]) hx hb dX4_mixState_43 hl (by decide) rfl (fun ls hl => ?_)
  refine lv_aload_n hx hb dX4_mixState_45 rfl (lv_at hl 6 rfl) ?_
  refine r_get (ci := 4) (v := .ref sa) (C := RX4) (T := TX4) (N := 4) hx hb hts hinX4 hown h0 hw 0 rfl rfl 2 (by decide) k16 rfl dX4_mixState_46 ?_
  refine lv_bipush (v := nI 6) hx hb dX4_mixState_49 (by decide +kernel) ?_
  refine r_iald hx hb h0 hw 2 rfl (i := 6) (by omega) (by omega) dX4_mixState_51 ?_
  refine lv_istore (lv' := [(7, .int (sf 6)), (6, .int (sf 5)), (5, .int (sf 4)), (4, .int (sf 3)), (3, .int (sf 2)), (2, .int (sf 1)), (1, .int (sf 0)), (0, .ref h)]) hx hb dX4_mixState_52 hl (by decide) rfl (fun ls hl => ?_)
  refine lv_aload_n hx hb dX4_mixState_54 rfl (lv_at hl 7 rfl) ?_
  refine r_get (ci := 4) (v := .ref sa) (C := RX4) (T := TX4) (N := 4) hx hb hts hinX4 hown h0 hw 0 rfl rfl 2 (by decide) k16 rfl dX4_mixState_55 ?_
  refine lv_bipush (v := nI 7) hx hb dX4_mixState_58 (by decide +kernel) ?_
  refine r_iald hx hb h0 hw 2 rfl (i := 7) (by omega) (by omega) dX4_mixState_60 ?_
  refine lv_istore (lv' := [(8, .int (sf 7)), (7, .int (sf 6)), (6, .int (sf 5)), (5, .int (sf 4)), (4, .int (sf 3)), (3, .int (sf 2)), (2, .int (sf 1)), (1, .int (sf 0)), (0, .ref h)]) hx hb dX4_mixState_61 hl (by decide) rfl (fun ls hl => ?_)
  refine lv_iconst (v := nI 0) hx hb dX4_mixState_63 (by decide +kernel) ?_
  refine lv_istore (lv' := [(9, .int (nI 0)), (8, .int (sf 7)), (7, .int (sf 6)), (6, .int (sf 5)), (5, .int (sf 4)), (4, .int (sf 3)), (3, .int (sf 2)), (2, .int (sf 1)), (1, .int (sf 0)), (0, .ref h)]) hx hb dX4_mixState_64 hl (by decide) rfl (fun ls hl => ?_)
  have lp66 : ∀ (fu : Nat) (t : Nat) (va : Int32) (vb : Int32) (vc : Int32) (vd : Int32) (ve : Int32) (vf : Int32) (vg : Int32) (vh : Int32), 64 - t < fu → (t ≤ 64) → (shI (tup sf) wf t = (va, vb, vc, vd, ve, vf, vg, vh)) → ∀ (H : Heap) (locs : List Loc) (ls : Array Slot), WD g A s [(h, .inr (4, [.ref ma, .ref wa, .ref sa, .int (nI n)])), (wa, .inl (g.2.1 0, 64, .inl (wf))), (sa, .inl (g.2.1 0, 8, .inl (sf)))] [] H locs → lv_has ls 14 [(9, .int (nI t)), (0, .ref h), (1, .int (va)), (2, .int (vb)), (3, .int (vc)), (4, .int (vd)), (5, .int (ve)), (6, .int (vf)), (7, .int (vg)), (8, .int (vh))] → W p l e { frames := 1, cells := 0, slots := 0, locals := 21 } s m ar below meth c H locs 0 0 Q (F0 m 66 ls []) := by
    intro fu
    induction fu with
    | zero => intro t va vb vc vd ve vf vg vh hmz; exact absurd hmz (Nat.not_lt_zero _)
    | succ fu ih =>
      intro t va vb vc vd ve vf vg vh hms ht hI H locs ls hw hl
      refine lv_iload hx hb dX4_mixState_66 (lv_at hl 0 rfl) ?_
      refine lv_bipush (v := nI 64) hx hb dX4_mixState_68 (by decide +kernel) ?_
      refine lv_icmp_ge (tgt := 209) hx hb dX4_mixState_70 (by decide) (fun c1 => ?_) (fun c1 => ?_)
      · skip
        have c1 : 64 ≤ t := (nI_leI (by omega) (by omega)).mp c1
        have hq : t = 64 := by omega
        subst t
        refine lv_aload_n hx hb dX4_mixState_209 rfl (lv_at hl 1 rfl) ?_
        refine r_get (ci := 4) (v := .ref sa) (C := RX4) (T := TX4) (N := 4) hx hb hts hinX4 hown h0 hw 0 rfl rfl 2 (by decide) k16 rfl dX4_mixState_210 ?_
        refine lv_iconst (v := nI 0) hx hb dX4_mixState_213 (by decide +kernel) ?_
        refine lv_dup2_11 hx hb dX4_mixState_214 rfl rfl ?_
        refine r_iald hx hb h0 hw 2 rfl (i := 0) (by omega) (by omega) dX4_mixState_215 ?_
        refine lv_iload_n hx hb dX4_mixState_216 rfl (lv_at hl 2 rfl) ?_
        refine lv_iadd hx hb dX4_mixState_217 ?_
        refine r_iast hx hb h0 hw 2 rfl (i := 0) (by omega) (by omega) dX4_mixState_218 (fun H locs hw => ?_)
        have hw : WD g A s [(h, .inr (4, [.ref ma, .ref wa, .ref sa, .int (nI n)])), (wa, .inl (g.2.1 0, 64, .inl (wf))), (sa, .inl (g.2.1 0, 8, .inl (upd sf 0 ((sf 0) + va))))] [] H locs := hw
        refine lv_aload_n hx hb dX4_mixState_219 rfl (lv_at hl 1 rfl) ?_
        refine r_get (ci := 4) (v := .ref sa) (C := RX4) (T := TX4) (N := 4) hx hb hts hinX4 hown h0 hw 0 rfl rfl 2 (by decide) k16 rfl dX4_mixState_220 ?_
        refine lv_iconst (v := nI 1) hx hb dX4_mixState_223 (by decide +kernel) ?_
        refine lv_dup2_11 hx hb dX4_mixState_224 rfl rfl ?_
        refine r_iald hx hb h0 hw 2 rfl (i := 1) (by omega) (by omega) dX4_mixState_225 ?_
        refine r_te (y := sf 1) rfl ?_
        refine lv_iload_n hx hb dX4_mixState_226 rfl (lv_at hl 3 rfl) ?_
        refine lv_iadd hx hb dX4_mixState_227 ?_
        refine r_iast hx hb h0 hw 2 rfl (i := 1) (by omega) (by omega) dX4_mixState_228 (fun H locs hw => ?_)
        have hw : WD g A s [(h, .inr (4, [.ref ma, .ref wa, .ref sa, .int (nI n)])), (wa, .inl (g.2.1 0, 64, .inl (wf))), (sa, .inl (g.2.1 0, 8, .inl (upd (upd sf 0 ((sf 0) + va)) 1 ((sf 1) + vb))))] [] H locs := hw
        refine lv_aload_n hx hb dX4_mixState_229 rfl (lv_at hl 1 rfl) ?_
        refine r_get (ci := 4) (v := .ref sa) (C := RX4) (T := TX4) (N := 4) hx hb hts hinX4 hown h0 hw 0 rfl rfl 2 (by decide) k16 rfl dX4_mixState_230 ?_
        refine lv_iconst (v := nI 2) hx hb dX4_mixState_233 (by decide +kernel) ?_
        refine lv_dup2_11 hx hb dX4_mixState_234 rfl rfl ?_
        refine r_iald hx hb h0 hw 2 rfl (i := 2) (by omega) (by omega) dX4_mixState_235 ?_
        refine r_te (y := sf 2) rfl ?_
        refine lv_iload_n hx hb dX4_mixState_236 rfl (lv_at hl 4 rfl) ?_
        refine lv_iadd hx hb dX4_mixState_237 ?_
        refine r_iast hx hb h0 hw 2 rfl (i := 2) (by omega) (by omega) dX4_mixState_238 (fun H locs hw => ?_)
        have hw : WD g A s [(h, .inr (4, [.ref ma, .ref wa, .ref sa, .int (nI n)])), (wa, .inl (g.2.1 0, 64, .inl (wf))), (sa, .inl (g.2.1 0, 8, .inl (upd (upd (upd sf 0 ((sf 0) + va)) 1 ((sf 1) + vb)) 2 ((sf 2) + vc))))] [] H locs := hw
        refine lv_aload_n hx hb dX4_mixState_239 rfl (lv_at hl 1 rfl) ?_
        refine r_get (ci := 4) (v := .ref sa) (C := RX4) (T := TX4) (N := 4) hx hb hts hinX4 hown h0 hw 0 rfl rfl 2 (by decide) k16 rfl dX4_mixState_240 ?_
        refine lv_iconst (v := nI 3) hx hb dX4_mixState_243 (by decide +kernel) ?_
        refine lv_dup2_11 hx hb dX4_mixState_244 rfl rfl ?_
        refine r_iald hx hb h0 hw 2 rfl (i := 3) (by omega) (by omega) dX4_mixState_245 ?_
        refine r_te (y := sf 3) rfl ?_
        refine lv_iload hx hb dX4_mixState_246 (lv_at hl 5 rfl) ?_
        refine lv_iadd hx hb dX4_mixState_248 ?_
        refine r_iast hx hb h0 hw 2 rfl (i := 3) (by omega) (by omega) dX4_mixState_249 (fun H locs hw => ?_)
        have hw : WD g A s [(h, .inr (4, [.ref ma, .ref wa, .ref sa, .int (nI n)])), (wa, .inl (g.2.1 0, 64, .inl (wf))), (sa, .inl (g.2.1 0, 8, .inl (upd (upd (upd (upd sf 0 ((sf 0) + va)) 1 ((sf 1) + vb)) 2 ((sf 2) + vc)) 3 ((sf 3) + vd))))] [] H locs := hw
        refine lv_aload_n hx hb dX4_mixState_250 rfl (lv_at hl 1 rfl) ?_
        refine r_get (ci := 4) (v := .ref sa) (C := RX4) (T := TX4) (N := 4) hx hb hts hinX4 hown h0 hw 0 rfl rfl 2 (by decide) k16 rfl dX4_mixState_251 ?_
        refine lv_iconst (v := nI 4) hx hb dX4_mixState_254 (by decide +kernel) ?_
        refine lv_dup2_11 hx hb dX4_mixState_255 rfl rfl ?_
        refine r_iald hx hb h0 hw 2 rfl (i := 4) (by omega) (by omega) dX4_mixState_256 ?_
        refine r_te (y := sf 4) rfl ?_
        refine lv_iload hx hb dX4_mixState_257 (lv_at hl 6 rfl) ?_
        refine lv_iadd hx hb dX4_mixState_259 ?_
        refine r_iast hx hb h0 hw 2 rfl (i := 4) (by omega) (by omega) dX4_mixState_260 (fun H locs hw => ?_)
        have hw : WD g A s [(h, .inr (4, [.ref ma, .ref wa, .ref sa, .int (nI n)])), (wa, .inl (g.2.1 0, 64, .inl (wf))), (sa, .inl (g.2.1 0, 8, .inl (upd (upd (upd (upd (upd sf 0 ((sf 0) + va)) 1 ((sf 1) + vb)) 2 ((sf 2) + vc)) 3 ((sf 3) + vd)) 4 ((sf 4) + ve))))] [] H locs := hw
        refine lv_aload_n hx hb dX4_mixState_261 rfl (lv_at hl 1 rfl) ?_
        refine r_get (ci := 4) (v := .ref sa) (C := RX4) (T := TX4) (N := 4) hx hb hts hinX4 hown h0 hw 0 rfl rfl 2 (by decide) k16 rfl dX4_mixState_262 ?_
        refine lv_iconst (v := nI 5) hx hb dX4_mixState_265 (by decide +kernel) ?_
        refine lv_dup2_11 hx hb dX4_mixState_266 rfl rfl ?_
        refine r_iald hx hb h0 hw 2 rfl (i := 5) (by omega) (by omega) dX4_mixState_267 ?_
        refine r_te (y := sf 5) rfl ?_
        refine lv_iload hx hb dX4_mixState_268 (lv_at hl 7 rfl) ?_
        refine lv_iadd hx hb dX4_mixState_270 ?_
        refine r_iast hx hb h0 hw 2 rfl (i := 5) (by omega) (by omega) dX4_mixState_271 (fun H locs hw => ?_)
        have hw : WD g A s [(h, .inr (4, [.ref ma, .ref wa, .ref sa, .int (nI n)])), (wa, .inl (g.2.1 0, 64, .inl (wf))), (sa, .inl (g.2.1 0, 8, .inl (upd (upd (upd (upd (upd (upd sf 0 ((sf 0) + va)) 1 ((sf 1) + vb)) 2 ((sf 2) + vc)) 3 ((sf 3) + vd)) 4 ((sf 4) + ve)) 5 ((sf 5) + vf))))] [] H locs := hw
        refine lv_aload_n hx hb dX4_mixState_272 rfl (lv_at hl 1 rfl) ?_
        refine r_get (ci := 4) (v := .ref sa) (C := RX4) (T := TX4) (N := 4) hx hb hts hinX4 hown h0 hw 0 rfl rfl 2 (by decide) k16 rfl dX4_mixState_273 ?_
        refine lv_bipush (v := nI 6) hx hb dX4_mixState_276 (by decide +kernel) ?_
        refine lv_dup2_11 hx hb dX4_mixState_278 rfl rfl ?_
        refine r_iald hx hb h0 hw 2 rfl (i := 6) (by omega) (by omega) dX4_mixState_279 ?_
        refine r_te (y := sf 6) rfl ?_
        refine lv_iload hx hb dX4_mixState_280 (lv_at hl 8 rfl) ?_
        refine lv_iadd hx hb dX4_mixState_282 ?_
        refine r_iast hx hb h0 hw 2 rfl (i := 6) (by omega) (by omega) dX4_mixState_283 (fun H locs hw => ?_)
        have hw : WD g A s [(h, .inr (4, [.ref ma, .ref wa, .ref sa, .int (nI n)])), (wa, .inl (g.2.1 0, 64, .inl (wf))), (sa, .inl (g.2.1 0, 8, .inl (upd (upd (upd (upd (upd (upd (upd sf 0 ((sf 0) + va)) 1 ((sf 1) + vb)) 2 ((sf 2) + vc)) 3 ((sf 3) + vd)) 4 ((sf 4) + ve)) 5 ((sf 5) + vf)) 6 ((sf 6) + vg))))] [] H locs := hw
        refine lv_aload_n hx hb dX4_mixState_284 rfl (lv_at hl 1 rfl) ?_
        refine r_get (ci := 4) (v := .ref sa) (C := RX4) (T := TX4) (N := 4) hx hb hts hinX4 hown h0 hw 0 rfl rfl 2 (by decide) k16 rfl dX4_mixState_285 ?_
        refine lv_bipush (v := nI 7) hx hb dX4_mixState_288 (by decide +kernel) ?_
        refine lv_dup2_11 hx hb dX4_mixState_290 rfl rfl ?_
        refine r_iald hx hb h0 hw 2 rfl (i := 7) (by omega) (by omega) dX4_mixState_291 ?_
        refine r_te (y := sf 7) rfl ?_
        refine lv_iload hx hb dX4_mixState_292 (lv_at hl 9 rfl) ?_
        refine lv_iadd hx hb dX4_mixState_294 ?_
        refine r_iast hx hb h0 hw 2 rfl (i := 7) (by omega) (by omega) dX4_mixState_295 (fun H locs hw => ?_)
        have hw : WD g A s [(h, .inr (4, [.ref ma, .ref wa, .ref sa, .int (nI n)])), (wa, .inl (g.2.1 0, 64, .inl (wf))), (sa, .inl (g.2.1 0, 8, .inl (upd (upd (upd (upd (upd (upd (upd (upd sf 0 ((sf 0) + va)) 1 ((sf 1) + vb)) 2 ((sf 2) + vc)) 3 ((sf 3) + vd)) 4 ((sf 4) + ve)) 5 ((sf 5) + vf)) 6 ((sf 6) + vg)) 7 ((sf 7) + vh))))] [] H locs := hw
        exact hret hw () (trivial) (by rw [hI]; rfl) (by omega) (by omega) dX4_mixState_296
      · skip
        have c1 : ¬ 64 ≤ t := fun q => c1 (((nI_leI (by omega) (by omega)).mpr q))
        refine lv_iload hx hb dX4_mixState_73 (lv_at hl 6 rfl) ?_
        refine lv_iload hx hb dX4_mixState_75 (lv_at hl 7 rfl) ?_
        refine lv_iand hx hb dX4_mixState_77 ?_
        refine lv_iload hx hb dX4_mixState_78 (lv_at hl 6 rfl) ?_
        refine lv_iconst (v := -1) hx hb dX4_mixState_80 (by decide +kernel) ?_
        refine lv_ixor hx hb dX4_mixState_81 ?_
        refine lv_iload hx hb dX4_mixState_82 (lv_at hl 8 rfl) ?_
        refine lv_iand hx hb dX4_mixState_84 ?_
        refine lv_ixor hx hb dX4_mixState_85 ?_
        refine lv_istore (lv' := [(10, .int ((ve &&& vf) ^^^ ((ve ^^^ (-1)) &&& vg))), (9, .int (nI t)), (0, .ref h), (1, .int (va)), (2, .int (vb)), (3, .int (vc)), (4, .int (vd)), (5, .int (ve)), (6, .int (vf)), (7, .int (vg)), (8, .int (vh))]) hx hb dX4_mixState_86 hl (by decide) rfl (fun ls hl => ?_)
        refine lv_iload_n hx hb dX4_mixState_88 rfl (lv_at hl 3 rfl) ?_
        refine lv_iload_n hx hb dX4_mixState_89 rfl (lv_at hl 4 rfl) ?_
        refine lv_iand hx hb dX4_mixState_90 ?_
        refine lv_iload_n hx hb dX4_mixState_91 rfl (lv_at hl 3 rfl) ?_
        refine lv_iload_n hx hb dX4_mixState_92 rfl (lv_at hl 5 rfl) ?_
        refine lv_iand hx hb dX4_mixState_93 ?_
        refine lv_ixor hx hb dX4_mixState_94 ?_
        refine lv_iload_n hx hb dX4_mixState_95 rfl (lv_at hl 4 rfl) ?_
        refine lv_iload_n hx hb dX4_mixState_96 rfl (lv_at hl 5 rfl) ?_
        refine lv_iand hx hb dX4_mixState_97 ?_
        refine lv_ixor hx hb dX4_mixState_98 ?_
        refine lv_istore (lv' := [(11, .int (((va &&& vb) ^^^ (va &&& vc)) ^^^ (vb &&& vc))), (10, .int ((ve &&& vf) ^^^ ((ve ^^^ (-1)) &&& vg))), (9, .int (nI t)), (0, .ref h), (1, .int (va)), (2, .int (vb)), (3, .int (vc)), (4, .int (vd)), (5, .int (ve)), (6, .int (vf)), (7, .int (vg)), (8, .int (vh))]) hx hb dX4_mixState_99 hl (by decide) rfl (fun ls hl => ?_)
        refine lv_iload hx hb dX4_mixState_101 (lv_at hl 11 rfl) ?_
        refine lv_iload hx hb dX4_mixState_103 (lv_at hl 8 rfl) ?_
        refine lv_bipush (v := nI 6) hx hb dX4_mixState_105 (by decide +kernel) ?_
        refine r_calli (wr := [(h, .inr (4, [.ref ma, .ref wa, .ref sa, .int (nI n)])), (wa, .inl (g.2.1 0, 64, .inl (wf))), (sa, .inl (g.2.1 0, 8, .inl (sf)))]) [] [0, 1, 2] h0 hw rfl rfl (by decide) (by decide) (va_runS (As := [.int (ve), .int (nI 6)]) (rest := [.int (vh)]) ⟨hx, hb, hml, hown, hts⟩ (c_X4_turn l g ve (nI 6)  _) (va_cwS 2 hts gX4_mixState_X4_turn rfl rfl rfl (by decide +kernel) ⟨Nat.le_of_ble_eq_true rfl, Nat.le_of_ble_eq_true rfl⟩) (preS_of [] [.int (ve), .int (nI 6)] h0 hw rfl (by decide)) rfl rfl hl.1 rfl (lv_room (Nat.le_of_ble_eq_true rfl)) dX4_mixState_107 ⟨Nat.le_of_ble_eq_true rfl, Nat.le_of_ble_eq_true rfl⟩) (fun r2 u3 H locs hp4 hw => ?_)
        have hw : WD g A s [(h, .inr (4, [.ref ma, .ref wa, .ref sa, .int (nI n)])), (wa, .inl (g.2.1 0, 64, .inl (wf))), (sa, .inl (g.2.1 0, 8, .inl (sf)))] [] H locs := hw
        subst hp4
        refine lv_iload hx hb dX4_mixState_110 (lv_at hl 8 rfl) ?_
        refine lv_bipush (v := nI 11) hx hb dX4_mixState_112 (by decide +kernel) ?_
        refine r_calli (wr := [(h, .inr (4, [.ref ma, .ref wa, .ref sa, .int (nI n)])), (wa, .inl (g.2.1 0, 64, .inl (wf))), (sa, .inl (g.2.1 0, 8, .inl (sf)))]) [] [0, 1, 2] h0 hw rfl rfl (by decide) (by decide) (va_runS (As := [.int (ve), .int (nI 11)]) (rest := [.int (rotr ve (nI 6)), .int (vh)]) ⟨hx, hb, hml, hown, hts⟩ (c_X4_turn l g ve (nI 11)  _) (va_cwS 2 hts gX4_mixState_X4_turn rfl rfl rfl (by decide +kernel) ⟨Nat.le_of_ble_eq_true rfl, Nat.le_of_ble_eq_true rfl⟩) (preS_of [] [.int (ve), .int (nI 11)] h0 hw rfl (by decide)) rfl rfl hl.1 rfl (lv_room (Nat.le_of_ble_eq_true rfl)) dX4_mixState_114 ⟨Nat.le_of_ble_eq_true rfl, Nat.le_of_ble_eq_true rfl⟩) (fun r5 u6 H locs hp7 hw => ?_)
        have hw : WD g A s [(h, .inr (4, [.ref ma, .ref wa, .ref sa, .int (nI n)])), (wa, .inl (g.2.1 0, 64, .inl (wf))), (sa, .inl (g.2.1 0, 8, .inl (sf)))] [] H locs := hw
        subst hp7
        refine lv_ixor hx hb dX4_mixState_117 ?_
        refine lv_iload hx hb dX4_mixState_118 (lv_at hl 8 rfl) ?_
        refine lv_bipush (v := nI 25) hx hb dX4_mixState_120 (by decide +kernel) ?_
        refine r_calli (wr := [(h, .inr (4, [.ref ma, .ref wa, .ref sa, .int (nI n)])), (wa, .inl (g.2.1 0, 64, .inl (wf))), (sa, .inl (g.2.1 0, 8, .inl (sf)))]) [] [0, 1, 2] h0 hw rfl rfl (by decide) (by decide) (va_runS (As := [.int (ve), .int (nI 25)]) (rest := [.int ((rotr ve (nI 6)) ^^^ (rotr ve (nI 11))), .int (vh)]) ⟨hx, hb, hml, hown, hts⟩ (c_X4_turn l g ve (nI 25)  _) (va_cwS 2 hts gX4_mixState_X4_turn rfl rfl rfl (by decide +kernel) ⟨Nat.le_of_ble_eq_true rfl, Nat.le_of_ble_eq_true rfl⟩) (preS_of [] [.int (ve), .int (nI 25)] h0 hw rfl (by decide)) rfl rfl hl.1 rfl (lv_room (Nat.le_of_ble_eq_true rfl)) dX4_mixState_122 ⟨Nat.le_of_ble_eq_true rfl, Nat.le_of_ble_eq_true rfl⟩) (fun r8 u9 H locs hp10 hw => ?_)
        have hw : WD g A s [(h, .inr (4, [.ref ma, .ref wa, .ref sa, .int (nI n)])), (wa, .inl (g.2.1 0, 64, .inl (wf))), (sa, .inl (g.2.1 0, 8, .inl (sf)))] [] H locs := hw
        subst hp10
        refine lv_ixor hx hb dX4_mixState_125 ?_
        refine lv_iadd hx hb dX4_mixState_126 ?_
        refine lv_iload hx hb dX4_mixState_127 (lv_at hl 1 rfl) ?_
        refine lv_iadd hx hb dX4_mixState_129 ?_
        refine r_gets hx hb h0.2.1.2.1 hw hown k45 dX4_mixState_130 ?_
        refine lv_iload hx hb dX4_mixState_133 (lv_at hl 2 rfl) ?_
        refine r_tab hx hb h0.2.1.2.1 hw (by omega) (by decide) dX4_mixState_135 ?_
        refine lv_iadd hx hb dX4_mixState_136 ?_
        refine lv_aload_n hx hb dX4_mixState_137 rfl (lv_at hl 3 rfl) ?_
        refine r_get (ci := 4) (v := .ref wa) (C := RX4) (T := TX4) (N := 4) hx hb hts hinX4 hown h0 hw 0 rfl rfl 1 (by decide) k13 rfl dX4_mixState_138 ?_
        refine lv_iload hx hb dX4_mixState_141 (lv_at hl 2 rfl) ?_
        refine r_iald hx hb h0 hw 1 rfl (i := t) (by omega) (by omega) dX4_mixState_143 ?_
        refine lv_iadd hx hb dX4_mixState_144 ?_
        refine lv_topi (fun z11 ez11 => ?_)
        refine lv_istore (lv' := [(12, .int (z11)), (11, .int (((va &&& vb) ^^^ (va &&& vc)) ^^^ (vb &&& vc))), (10, .int ((ve &&& vf) ^^^ ((ve ^^^ (-1)) &&& vg))), (9, .int (nI t)), (0, .ref h), (1, .int (va)), (2, .int (vb)), (3, .int (vc)), (4, .int (vd)), (5, .int (ve)), (6, .int (vf)), (7, .int (vg)), (8, .int (vh))]) hx hb dX4_mixState_145 hl (by decide) rfl (fun ls hl => ?_)
        refine lv_iload_n hx hb dX4_mixState_147 rfl (lv_at hl 5 rfl) ?_
        refine lv_iconst (v := nI 2) hx hb dX4_mixState_148 (by decide +kernel) ?_
        refine r_calli (wr := [(h, .inr (4, [.ref ma, .ref wa, .ref sa, .int (nI n)])), (wa, .inl (g.2.1 0, 64, .inl (wf))), (sa, .inl (g.2.1 0, 8, .inl (sf)))]) [] [0, 1, 2] h0 hw rfl rfl (by decide) (by decide) (va_runS (As := [.int (va), .int (nI 2)]) (rest := []) ⟨hx, hb, hml, hown, hts⟩ (c_X4_turn l g va (nI 2)  _) (va_cwS 2 hts gX4_mixState_X4_turn rfl rfl rfl (by decide +kernel) ⟨Nat.le_of_ble_eq_true rfl, Nat.le_of_ble_eq_true rfl⟩) (preS_of [] [.int (va), .int (nI 2)] h0 hw rfl (by decide)) rfl rfl hl.1 rfl (lv_room (Nat.le_of_ble_eq_true rfl)) dX4_mixState_149 ⟨Nat.le_of_ble_eq_true rfl, Nat.le_of_ble_eq_true rfl⟩) (fun r12 u13 H locs hp14 hw => ?_)
        have hw : WD g A s [(h, .inr (4, [.ref ma, .ref wa, .ref sa, .int (nI n)])), (wa, .inl (g.2.1 0, 64, .inl (wf))), (sa, .inl (g.2.1 0, 8, .inl (sf)))] [] H locs := hw
        subst hp14
        refine lv_iload_n hx hb dX4_mixState_152 rfl (lv_at hl 5 rfl) ?_
        refine lv_bipush (v := nI 13) hx hb dX4_mixState_153 (by decide +kernel) ?_
        refine r_calli (wr := [(h, .inr (4, [.ref ma, .ref wa, .ref sa, .int (nI n)])), (wa, .inl (g.2.1 0, 64, .inl (wf))), (sa, .inl (g.2.1 0, 8, .inl (sf)))]) [] [0, 1, 2] h0 hw rfl rfl (by decide) (by decide) (va_runS (As := [.int (va), .int (nI 13)]) (rest := [.int (rotr va (nI 2))]) ⟨hx, hb, hml, hown, hts⟩ (c_X4_turn l g va (nI 13)  _) (va_cwS 2 hts gX4_mixState_X4_turn rfl rfl rfl (by decide +kernel) ⟨Nat.le_of_ble_eq_true rfl, Nat.le_of_ble_eq_true rfl⟩) (preS_of [] [.int (va), .int (nI 13)] h0 hw rfl (by decide)) rfl rfl hl.1 rfl (lv_room (Nat.le_of_ble_eq_true rfl)) dX4_mixState_155 ⟨Nat.le_of_ble_eq_true rfl, Nat.le_of_ble_eq_true rfl⟩) (fun r15 u16 H locs hp17 hw => ?_)
        have hw : WD g A s [(h, .inr (4, [.ref ma, .ref wa, .ref sa, .int (nI n)])), (wa, .inl (g.2.1 0, 64, .inl (wf))), (sa, .inl (g.2.1 0, 8, .inl (sf)))] [] H locs := hw
        subst hp17
        refine lv_ixor hx hb dX4_mixState_158 ?_
        refine lv_iload_n hx hb dX4_mixState_159 rfl (lv_at hl 5 rfl) ?_
        refine lv_bipush (v := nI 22) hx hb dX4_mixState_160 (by decide +kernel) ?_
        refine r_calli (wr := [(h, .inr (4, [.ref ma, .ref wa, .ref sa, .int (nI n)])), (wa, .inl (g.2.1 0, 64, .inl (wf))), (sa, .inl (g.2.1 0, 8, .inl (sf)))]) [] [0, 1, 2] h0 hw rfl rfl (by decide) (by decide) (va_runS (As := [.int (va), .int (nI 22)]) (rest := [.int ((rotr va (nI 2)) ^^^ (rotr va (nI 13)))]) ⟨hx, hb, hml, hown, hts⟩ (c_X4_turn l g va (nI 22)  _) (va_cwS 2 hts gX4_mixState_X4_turn rfl rfl rfl (by decide +kernel) ⟨Nat.le_of_ble_eq_true rfl, Nat.le_of_ble_eq_true rfl⟩) (preS_of [] [.int (va), .int (nI 22)] h0 hw rfl (by decide)) rfl rfl hl.1 rfl (lv_room (Nat.le_of_ble_eq_true rfl)) dX4_mixState_162 ⟨Nat.le_of_ble_eq_true rfl, Nat.le_of_ble_eq_true rfl⟩) (fun r18 u19 H locs hp20 hw => ?_)
        have hw : WD g A s [(h, .inr (4, [.ref ma, .ref wa, .ref sa, .int (nI n)])), (wa, .inl (g.2.1 0, 64, .inl (wf))), (sa, .inl (g.2.1 0, 8, .inl (sf)))] [] H locs := hw
        subst hp20
        refine lv_ixor hx hb dX4_mixState_165 ?_
        refine lv_iload hx hb dX4_mixState_166 (lv_at hl 1 rfl) ?_
        refine lv_iadd hx hb dX4_mixState_168 ?_
        refine lv_topi (fun z21 ez21 => ?_)
        refine lv_istore (lv' := [(13, .int (z21)), (12, .int (z11)), (11, .int (((va &&& vb) ^^^ (va &&& vc)) ^^^ (vb &&& vc))), (10, .int ((ve &&& vf) ^^^ ((ve ^^^ (-1)) &&& vg))), (9, .int (nI t)), (0, .ref h), (1, .int (va)), (2, .int (vb)), (3, .int (vc)), (4, .int (vd)), (5, .int (ve)), (6, .int (vf)), (7, .int (vg)), (8, .int (vh))]) hx hb dX4_mixState_169 hl (by decide) rfl (fun ls hl => ?_)
        refine lv_iload hx hb dX4_mixState_171 (lv_at hl 12 rfl) ?_
        refine lv_istore (lv' := [(8, .int (vg)), (13, .int (z21)), (12, .int (z11)), (11, .int (((va &&& vb) ^^^ (va &&& vc)) ^^^ (vb &&& vc))), (10, .int ((ve &&& vf) ^^^ ((ve ^^^ (-1)) &&& vg))), (9, .int (nI t)), (0, .ref h), (1, .int (va)), (2, .int (vb)), (3, .int (vc)), (4, .int (vd)), (5, .int (ve)), (6, .int (vf)), (7, .int (vg))]) hx hb dX4_mixState_173 hl (by decide) rfl (fun ls hl => ?_)
        refine lv_iload hx hb dX4_mixState_175 (lv_at hl 12 rfl) ?_
        refine lv_istore (lv' := [(7, .int (vf)), (8, .int (vg)), (13, .int (z21)), (12, .int (z11)), (11, .int (((va &&& vb) ^^^ (va &&& vc)) ^^^ (vb &&& vc))), (10, .int ((ve &&& vf) ^^^ ((ve ^^^ (-1)) &&& vg))), (9, .int (nI t)), (0, .ref h), (1, .int (va)), (2, .int (vb)), (3, .int (vc)), (4, .int (vd)), (5, .int (ve)), (6, .int (vf))]) hx hb dX4_mixState_177 hl (by decide) rfl (fun ls hl => ?_)
        refine lv_iload hx hb dX4_mixState_179 (lv_at hl 12 rfl) ?_
        refine lv_istore (lv' := [(6, .int (ve)), (7, .int (vf)), (8, .int (vg)), (13, .int (z21)), (12, .int (z11)), (11, .int (((va &&& vb) ^^^ (va &&& vc)) ^^^ (vb &&& vc))), (10, .int ((ve &&& vf) ^^^ ((ve ^^^ (-1)) &&& vg))), (9, .int (nI t)), (0, .ref h), (1, .int (va)), (2, .int (vb)), (3, .int (vc)), (4, .int (vd)), (5, .int (ve))]) hx hb dX4_mixState_181 hl (by decide) rfl (fun ls hl => ?_)
        refine lv_iload hx hb dX4_mixState_183 (lv_at hl 12 rfl) ?_
        refine lv_iload hx hb dX4_mixState_185 (lv_at hl 4 rfl) ?_
        refine lv_iadd hx hb dX4_mixState_187 ?_
        refine lv_istore (lv' := [(5, .int (vd + z11)), (6, .int (ve)), (7, .int (vf)), (8, .int (vg)), (13, .int (z21)), (12, .int (z11)), (11, .int (((va &&& vb) ^^^ (va &&& vc)) ^^^ (vb &&& vc))), (10, .int ((ve &&& vf) ^^^ ((ve ^^^ (-1)) &&& vg))), (9, .int (nI t)), (0, .ref h), (1, .int (va)), (2, .int (vb)), (3, .int (vc)), (4, .int (vd))]) hx hb dX4_mixState_188 hl (by decide) rfl (fun ls hl => ?_)
        refine lv_iload_n hx hb dX4_mixState_190 rfl (lv_at hl 12 rfl) ?_
        refine lv_istore (lv' := [(4, .int (vc)), (5, .int (vd + z11)), (6, .int (ve)), (7, .int (vf)), (8, .int (vg)), (13, .int (z21)), (12, .int (z11)), (11, .int (((va &&& vb) ^^^ (va &&& vc)) ^^^ (vb &&& vc))), (10, .int ((ve &&& vf) ^^^ ((ve ^^^ (-1)) &&& vg))), (9, .int (nI t)), (0, .ref h), (1, .int (va)), (2, .int (vb)), (3, .int (vc))]) hx hb dX4_mixState_191 hl (by decide) rfl (fun ls hl => ?_)
        refine lv_iload_n hx hb dX4_mixState_193 rfl (lv_at hl 12 rfl) ?_
        refine lv_istore_n (lv' := [(3, .int (vb)), (4, .int (vc)), (5, .int (vd + z11)), (6, .int (ve)), (7, .int (vf)), (8, .int (vg)), (13, .int (z21)), (12, .int (z11)), (11, .int (((va &&& vb) ^^^ (va &&& vc)) ^^^ (vb &&& vc))), (10, .int ((ve &&& vf) ^^^ ((ve ^^^ (-1)) &&& vg))), (9, .int (nI t)), (0, .ref h), (1, .int (va)), (2, .int (vb))]) hx hb dX4_mixState_194 rfl hl (by decide) rfl (fun ls hl => ?_)
        refine lv_iload_n hx hb dX4_mixState_195 rfl (lv_at hl 12 rfl) ?_
        refine lv_istore_n (lv' := [(2, .int (va)), (3, .int (vb)), (4, .int (vc)), (5, .int (vd + z11)), (6, .int (ve)), (7, .int (vf)), (8, .int (vg)), (13, .int (z21)), (12, .int (z11)), (11, .int (((va &&& vb) ^^^ (va &&& vc)) ^^^ (vb &&& vc))), (10, .int ((ve &&& vf) ^^^ ((ve ^^^ (-1)) &&& vg))), (9, .int (nI t)), (0, .ref h), (1, .int (va))]) hx hb dX4_mixState_196 rfl hl (by decide) rfl (fun ls hl => ?_)
        refine lv_iload hx hb dX4_mixState_197 (lv_at hl 8 rfl) ?_
        refine lv_iload hx hb dX4_mixState_199 (lv_at hl 7 rfl) ?_
        refine lv_iadd hx hb dX4_mixState_201 ?_
        refine lv_istore_n (lv' := [(1, .int (z11 + z21)), (2, .int (va)), (3, .int (vb)), (4, .int (vc)), (5, .int (vd + z11)), (6, .int (ve)), (7, .int (vf)), (8, .int (vg)), (13, .int (z21)), (12, .int (z11)), (11, .int (((va &&& vb) ^^^ (va &&& vc)) ^^^ (vb &&& vc))), (10, .int ((ve &&& vf) ^^^ ((ve ^^^ (-1)) &&& vg))), (9, .int (nI t)), (0, .ref h)]) hx hb dX4_mixState_202 rfl hl (by decide) rfl (fun ls hl => ?_)
        refine lv_iinc (v := nI (t + 1)) (lv' := [(9, .int (nI (t + 1))), (1, .int (z11 + z21)), (2, .int (va)), (3, .int (vb)), (4, .int (vc)), (5, .int (vd + z11)), (6, .int (ve)), (7, .int (vf)), (8, .int (vg)), (13, .int (z21)), (12, .int (z11)), (11, .int (((va &&& vb) ^^^ (va &&& vc)) ^^^ (vb &&& vc))), (10, .int ((ve &&& vf) ^^^ ((ve ^^^ (-1)) &&& vg))), (0, .ref h)]) hx hb dX4_mixState_203 hl (k := 12) rfl (nI_add t 1) (by decide) rfl (fun ls hl => ?_)
        refine lv_goto (tgt := 66) hx hb dX4_mixState_206 (by decide) ?_
        subst ez21
        subst ez11
        exact ih (t + 1) (((((vh + (((rotr ve (nI 6)) ^^^ (rotr ve (nI 11))) ^^^ (rotr ve (nI 25)))) + ((ve &&& vf) ^^^ ((ve ^^^ (-1)) &&& vg))) + (kRW t)) + (wf t)) + ((((rotr va (nI 2)) ^^^ (rotr va (nI 13))) ^^^ (rotr va (nI 22))) + (((va &&& vb) ^^^ (va &&& vc)) ^^^ (vb &&& vc)))) va vb vc (vd + ((((vh + (((rotr ve (nI 6)) ^^^ (rotr ve (nI 11))) ^^^ (rotr ve (nI 25)))) + ((ve &&& vf) ^^^ ((ve ^^^ (-1)) &&& vg))) + (kRW t)) + (wf t))) ve vf vg (by omega) (by omega) (by show shR (shI (tup sf) wf t) (kRW t) (wf t) = _; rw [hI]; rfl) _ _ _ hw (lv_sub hl [0, 13, 1, 2, 3, 4, 5, 6, 7, 8] rfl)
  exact lp66 (64 - 0 + 1) 0 (sf 0) (sf 1) (sf 2) (sf 3) (sf 4) (sf 5) (sf 6) (sf 7) (by omega) (by omega) (rfl) _ _ _ hw (lv_sub hl [0, 9, 8, 7, 6, 5, 4, 3, 2, 1] rfl)
