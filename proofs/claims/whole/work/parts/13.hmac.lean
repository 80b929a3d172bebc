set_option maxHeartbeats 4000000 in
set_option maxRecDepth 100000 in
theorem c_X2_append (l : Launch) (g : GE) (h : Nat) (sh : Nat) (ka : Nat) (ia : Nat) (ma : Nat) (wa : Nat) (sa : Nat) (n : Nat) (mf : Nat → Int32) (v : Int32) (hn : n < 192) (sz : Nat) : MV l yX2_append wsX2_append { frames := 1, cells := 0, slots := 0, locals := 21 } g [.ref h, .int (v)] [(h, .inr (2, [.ref sh, .ref ka, .ref ia])), (sh, .inr (4, [.ref ma, .ref wa, .ref sa, .int (nI n)])), (ma, .inl (g.2.1 0, 192, .inl (mf)))] sz (fun (_ : Unit) => True) (fun (_ : Unit) => [(h, .inr (2, [.ref sh, .ref ka, .ref ia])), (sh, .inr (4, [.ref ma, .ref wa, .ref sa, .int (nI (n + 1))])), (ma, .inl (g.2.1 0, 192, .inl (upd mf n v)))]) 0 0 := by
  refine enterV (by decide) rfl (Nat.le_of_ble_eq_true rfl) ?_
  intro p e s m below meth c A ls ar Q hE h0 hret hw hl
  obtain ⟨hx, hb, hr, hml, hown, hts, hlocks, hname⟩ := hE
  have hown : s.vm.findClass RX2 = some m.cls := hown
  have hw : WD g A s [(h, .inr (2, [.ref sh, .ref ka, .ref ia])), (sh, .inr (4, [.ref ma, .ref wa, .ref sa, .int (nI n)])), (ma, .inl (g.2.1 0, 192, .inl (mf)))] [] s.heap [] := hw
  have hinX2 : ∀ w ∈ u_ws RX2 TX2 3, w ∈ wsX2_append := by decide +kernel
  have k10 := hts (.fieldLink RX2 10 "RecordWire$Hmac" "hash" "LRecordWire$Sha256;") (by decide +kernel)
  have hl : lv_has ls 2 [(0, .ref h), (1, .int (v))] := hl
  refine lv_aload_n hx hb dX2_append_0 rfl (lv_at hl 0 rfl) ?_
  refine r_get (ci := 2) (v := .ref sh) (C := RX2) (T := TX2) (N := 3) hx hb hts hinX2 hown h0 hw 0 rfl rfl 0 (by decide) k10 rfl dX2_append_1 ?_
  refine lv_iload_n hx hb dX2_append_4 rfl (lv_at hl 1 rfl) ?_
  refine r_callv (wr := [(h, .inr (2, [.ref sh, .ref ka, .ref ia]))]) [1, 2] [0] h0 hw rfl rfl (by decide) (by decide) (va_runV (As := [.int (v)]) (rest := []) ⟨hx, hb, hml, hown, hts⟩ (c_X4_append l g sh ma wa sa n mf v (by omega) _) (cwV 1 hts gX2_append_X4_append rfl rfl rfl (by decide +kernel) ⟨Nat.le_of_ble_eq_true rfl, Nat.le_of_ble_eq_true rfl⟩) (preV_of [1, 2] [.int (v)] h0 hw rfl (by decide) 1 4 rfl rfl) rfl rfl hl.1 rfl (lv_room (Nat.le_of_ble_eq_true rfl)) dX2_append_5 ⟨Nat.le_of_ble_eq_true rfl, Nat.le_of_ble_eq_true rfl⟩) (fun u2 H locs hp3 hw => ?_)
  have hw : WD g A s [(h, .inr (2, [.ref sh, .ref ka, .ref ia])), (sh, .inr (4, [.ref ma, .ref wa, .ref sa, .int (nI (n + 1))])), (ma, .inl (g.2.1 0, 192, .inl (upd mf n v)))] [] H locs := hw
  exact hret hw () (trivial) (rfl) (by omega) (by omega) dX2_append_8

set_option maxHeartbeats 4000000 in
set_option maxRecDepth 100000 in
theorem c_X2_appendAll (l : Launch) (g : GE) (h : Nat) (sh : Nat) (ka : Nat) (ia : Nat) (ma : Nat) (wa : Nat) (sa : Nat) (n : Nat) (mf : Nat → Int32) (xa : Nat) (k : Nat) (xf : Nat → Int32) (hn : n + k ≤ 192) (sz : Nat) : MV l yX2_appendAll wsX2_appendAll { frames := 1, cells := 0, slots := 0, locals := 21 } g [.ref h, .ref xa] [(h, .inr (2, [.ref sh, .ref ka, .ref ia])), (sh, .inr (4, [.ref ma, .ref wa, .ref sa, .int (nI n)])), (ma, .inl (g.2.1 0, 192, .inl (mf))), (xa, .inl (g.2.1 0, k, .inl (xf)))] sz (fun (_ : Unit) => True) (fun (_ : Unit) => [(h, .inr (2, [.ref sh, .ref ka, .ref ia])), (sh, .inr (4, [.ref ma, .ref wa, .ref sa, .int (nI (n + k))])), (ma, .inl (g.2.1 0, 192, .inl (apA mf n xf k))), (xa, .inl (g.2.1 0, k, .inl (xf)))]) 0 0 := by
  refine enterV (by decide) rfl (Nat.le_of_ble_eq_true rfl) ?_
  intro p e s m below meth c A ls ar Q hE h0 hret hw hl
  obtain ⟨hx, hb, hr, hml, hown, hts, hlocks, hname⟩ := hE
  have hown : s.vm.findClass RX2 = some m.cls := hown
  have hw : WD g A s [(h, .inr (2, [.ref sh, .ref ka, .ref ia])), (sh, .inr (4, [.ref ma, .ref wa, .ref sa, .int (nI n)])), (ma, .inl (g.2.1 0, 192, .inl (mf))), (xa, .inl (g.2.1 0, k, .inl (xf)))] [] s.heap [] := hw
  have hinX2 : ∀ w ∈ u_ws RX2 TX2 3, w ∈ wsX2_appendAll := by decide +kernel
  have k10 := hts (.fieldLink RX2 10 "RecordWire$Hmac" "hash" "LRecordWire$Sha256;") (by decide +kernel)
  have hl : lv_has ls 3 [(0, .ref h), (1, .ref xa)] := hl
  refine lv_iconst (v := nI 0) hx hb dX2_appendAll_0 (by decide +kernel) ?_
  refine lv_istore_n (lv' := [(2, .int (nI 0)), (0, .ref h), (1, .ref xa)]) hx hb dX2_appendAll_1 rfl hl (by decide) rfl (fun ls hl => ?_)
  have lp2 : ∀ (fu : Nat) (i : Nat), k - i < fu → (i ≤ k) → ∀ (H : Heap) (locs : List Loc) (ls : Array Slot), WD g A s [(h, .inr (2, [.ref sh, .ref ka, .ref ia])), (sh, .inr (4, [.ref ma, .ref wa, .ref sa, .int (nI (n + i))])), (ma, .inl (g.2.1 0, 192, .inl (apA mf n xf i))), (xa, .inl (g.2.1 0, k, .inl (xf)))] [] H locs → lv_has ls 3 [(2, .int (nI i)), (0, .ref h), (1, .ref xa)] → W p l e { frames := 1, cells := 0, slots := 0, locals := 21 } s m ar below meth c H locs 0 0 Q (F0 m 2 ls []) := by
    intro fu
    induction fu with
    | zero => intro i hmz; exact absurd hmz (Nat.not_lt_zero _)
    | succ fu ih =>
      intro i hms hi H locs ls hw hl
      refine lv_iload_n hx hb dX2_appendAll_2 rfl (lv_at hl 0 rfl) ?_
      refine lv_aload_n hx hb dX2_appendAll_3 rfl (lv_at hl 2 rfl) ?_
      refine r_alen hx hb h0 hw 3 rfl dX2_appendAll_4 ?_
      refine lv_icmp_ge (tgt := 24) hx hb dX2_appendAll_5 (by decide) (fun c1 => ?_) (fun c1 => ?_)
      · skip
        have c1 : k ≤ i := (nI_leI (by omega) (by omega)).mp c1
        have hq : i = k := by omega
        subst i
        exact hret hw () (trivial) (rfl) (by omega) (by omega) dX2_appendAll_24
      · skip
        have c1 : ¬ k ≤ i := fun q => c1 (((nI_leI (by omega) (by omega)).mpr q))
        refine lv_aload_n hx hb dX2_appendAll_8 rfl (lv_at hl 1 rfl) ?_
        refine r_get (ci := 2) (v := .ref sh) (C := RX2) (T := TX2) (N := 3) hx hb hts hinX2 hown h0 hw 0 rfl rfl 0 (by decide) k10 rfl dX2_appendAll_9 ?_
        refine lv_aload_n hx hb dX2_appendAll_12 rfl (lv_at hl 2 rfl) ?_
        refine lv_iload_n hx hb dX2_appendAll_13 rfl (lv_at hl 0 rfl) ?_
        refine r_iald hx hb h0 hw 3 rfl (i := i) (by omega) (by omega) dX2_appendAll_14 ?_
        refine r_callv (wr := [(h, .inr (2, [.ref sh, .ref ka, .ref ia])), (xa, .inl (g.2.1 0, k, .inl (xf)))]) [1, 2] [0, 3] h0 hw rfl rfl (by decide) (by decide) (va_runV (As := [.int (xf i)]) (rest := []) ⟨hx, hb, hml, hown, hts⟩ (c_X4_append l g sh ma wa sa (n + i) (apA mf n xf i) (xf i) (by omega) _) (cwV 1 hts gX2_appendAll_X4_append rfl rfl rfl (by decide +kernel) ⟨Nat.le_of_ble_eq_true rfl, Nat.le_of_ble_eq_true rfl⟩) (preV_of [1, 2] [.int (xf i)] h0 hw rfl (by decide) 1 4 rfl rfl) rfl rfl hl.1 rfl (lv_room (Nat.le_of_ble_eq_true rfl)) dX2_appendAll_15 ⟨Nat.le_of_ble_eq_true rfl, Nat.le_of_ble_eq_true rfl⟩) (fun u3 H locs hp4 hw => ?_)
        have hw : WD g A s [(h, .inr (2, [.ref sh, .ref ka, .ref ia])), (xa, .inl (g.2.1 0, k, .inl (xf))), (sh, .inr (4, [.ref ma, .ref wa, .ref sa, .int (nI ((n + i) + 1))])), (ma, .inl (g.2.1 0, 192, .inl (upd (apA mf n xf i) (n + i) (xf i))))] [] H locs := hw
        refine lv_iinc (v := nI (i + 1)) (lv' := [(2, .int (nI (i + 1))), (0, .ref h), (1, .ref xa)]) hx hb dX2_appendAll_18 hl (k := 0) rfl (nI_add i 1) (by decide) rfl (fun ls hl => ?_)
        refine lv_goto (tgt := 2) hx hb dX2_appendAll_21 (by decide) ?_
        exact ih (i + 1) (by omega) (by omega) _ _ _ (hw.perm [0, 2, 3, 1] (by decide) rfl) (lv_sub hl [0, 1, 2] rfl)
  exact lp2 (k - 0 + 1) 0 (by omega) (by omega) _ _ _ hw (lv_sub hl [0, 1, 2] rfl)

set_option maxHeartbeats 4000000 in
set_option maxRecDepth 100000 in
theorem c_X2_beginWithPad (l : Launch) (g : GE) (h : Nat) (sh : Nat) (ka : Nat) (ia : Nat) (ma : Nat) (wa : Nat) (sa : Nat) (n : Nat) (mf : Nat → Int32) (kf : Nat → Int32) (pv : Int32) (sz : Nat) : MV l yX2_beginWithPad wsX2_beginWithPad { frames := 1, cells := 0, slots := 0, locals := 21 } g [.ref h, .int (pv)] [(h, .inr (2, [.ref sh, .ref ka, .ref ia])), (sh, .inr (4, [.ref ma, .ref wa, .ref sa, .int (nI n)])), (ma, .inl (g.2.1 0, 192, .inl (mf))), (ka, .inl (g.2.1 0, 64, .inl (kf)))] sz (fun (_ : Unit) => True) (fun (_ : Unit) => [(h, .inr (2, [.ref sh, .ref ka, .ref ia])), (sh, .inr (4, [.ref ma, .ref wa, .ref sa, .int (nI 64)])), (ma, .inl (g.2.1 0, 192, .inl (bpF mf kf pv 64))), (ka, .inl (g.2.1 0, 64, .inl (kf)))]) 0 0 := by
  refine enterV (by decide) rfl (Nat.le_of_ble_eq_true rfl) ?_
  intro p e s m below meth c A ls ar Q hE h0 hret hw hl
  obtain ⟨hx, hb, hr, hml, hown, hts, hlocks, hname⟩ := hE
  have hown : s.vm.findClass RX2 = some m.cls := hown
  have hw : WD g A s [(h, .inr (2, [.ref sh, .ref ka, .ref ia])), (sh, .inr (4, [.ref ma, .ref wa, .ref sa, .int (nI n)])), (ma, .inl (g.2.1 0, 192, .inl (mf))), (ka, .inl (g.2.1 0, 64, .inl (kf)))] [] s.heap [] := hw
  have hinX2 : ∀ w ∈ u_ws RX2 TX2 3, w ∈ wsX2_beginWithPad := by decide +kernel
  have k10 := hts (.fieldLink RX2 10 "RecordWire$Hmac" "hash" "LRecordWire$Sha256;") (by decide +kernel)
  have k16 := hts (.fieldLink RX2 16 "RecordWire$Hmac" "keyBlock" "[I") (by decide +kernel)
  have hl : lv_has ls 3 [(0, .ref h), (1, .int (pv))] := hl
  refine lv_aload_n hx hb dX2_beginWithPad_0 rfl (lv_at hl 0 rfl) ?_
  refine r_get (ci := 2) (v := .ref sh) (C := RX2) (T := TX2) (N := 3) hx hb hts hinX2 hown h0 hw 0 rfl rfl 0 (by decide) k10 rfl dX2_beginWithPad_1 ?_
  refine r_callv (wr := [(h, .inr (2, [.ref sh, .ref ka, .ref ia])), (ma, .inl (g.2.1 0, 192, .inl (mf))), (ka, .inl (g.2.1 0, 64, .inl (kf)))]) [1] [0, 2, 3] h0 hw rfl rfl (by decide) (by decide) (va_runV (As := []) (rest := []) ⟨hx, hb, hml, hown, hts⟩ (c_X4_begin l g sh ma wa sa n  _) (cwV 0 hts gX2_beginWithPad_X4_begin rfl rfl rfl (by decide +kernel) ⟨Nat.le_of_ble_eq_true rfl, Nat.le_of_ble_eq_true rfl⟩) (preV_of [1] [] h0 hw rfl (by decide) 1 4 rfl rfl) rfl rfl hl.1 rfl (lv_room (Nat.le_of_ble_eq_true rfl)) dX2_beginWithPad_4 ⟨Nat.le_of_ble_eq_true rfl, Nat.le_of_ble_eq_true rfl⟩) (fun u2 H locs hp3 hw => ?_)
  have hw : WD g A s [(h, .inr (2, [.ref sh, .ref ka, .ref ia])), (ma, .inl (g.2.1 0, 192, .inl (mf))), (ka, .inl (g.2.1 0, 64, .inl (kf))), (sh, .inr (4, [.ref ma, .ref wa, .ref sa, .int (nI 0)]))] [] H locs := hw
  refine lv_iconst (v := nI 0) hx hb dX2_beginWithPad_7 (by decide +kernel) ?_
  refine lv_istore_n (lv' := [(2, .int (nI 0)), (0, .ref h), (1, .int (pv))]) hx hb dX2_beginWithPad_8 rfl hl (by decide) rfl (fun ls hl => ?_)
  have lp9 : ∀ (fu : Nat) (i : Nat), 64 - i < fu → (i ≤ 64) → ∀ (H : Heap) (locs : List Loc) (ls : Array Slot), WD g A s [(h, .inr (2, [.ref sh, .ref ka, .ref ia])), (ma, .inl (g.2.1 0, 192, .inl (bpF mf kf pv i))), (ka, .inl (g.2.1 0, 64, .inl (kf))), (sh, .inr (4, [.ref ma, .ref wa, .ref sa, .int (nI i)]))] [] H locs → lv_has ls 3 [(2, .int (nI i)), (0, .ref h), (1, .int (pv))] → W p l e { frames := 1, cells := 0, slots := 0, locals := 21 } s m ar below meth c H locs 0 0 Q (F0 m 9 ls []) := by
    intro fu
    induction fu with
    | zero => intro i hmz; exact absurd hmz (Nat.not_lt_zero _)
    | succ fu ih =>
      intro i hms hi H locs ls hw hl
      refine lv_iload_n hx hb dX2_beginWithPad_9 rfl (lv_at hl 0 rfl) ?_
      refine lv_bipush (v := nI 64) hx hb dX2_beginWithPad_10 (by decide +kernel) ?_
      refine lv_icmp_ge (tgt := 36) hx hb dX2_beginWithPad_12 (by decide) (fun c4 => ?_) (fun c4 => ?_)
      · skip
        have c4 : 64 ≤ i := (nI_leI (by omega) (by omega)).mp c4
        have hq : i = 64 := by omega
        subst i
        exact hret (hw.perm (X' := [(h, .inr (2, [.ref sh, .ref ka, .ref ia])), (sh, .inr (4, [.ref ma, .ref wa, .ref sa, .int (nI 64)])), (ma, .inl (g.2.1 0, 192, .inl (bpF mf kf pv 64))), (ka, .inl (g.2.1 0, 64, .inl (kf)))]) [0, 3, 1, 2] (by decide) rfl) () (trivial) (rfl) (by omega) (by omega) dX2_beginWithPad_36
      · skip
        have c4 : ¬ 64 ≤ i := fun q => c4 (((nI_leI (by omega) (by omega)).mpr q))
        refine lv_aload_n hx hb dX2_beginWithPad_15 rfl (lv_at hl 1 rfl) ?_
        refine r_get (ci := 2) (v := .ref sh) (C := RX2) (T := TX2) (N := 3) hx hb hts hinX2 hown h0 hw 0 rfl rfl 0 (by decide) k10 rfl dX2_beginWithPad_16 ?_
        refine lv_aload_n hx hb dX2_beginWithPad_19 rfl (lv_at hl 1 rfl) ?_
        refine r_get (ci := 2) (v := .ref ka) (C := RX2) (T := TX2) (N := 3) hx hb hts hinX2 hown h0 hw 0 rfl rfl 1 (by decide) k16 rfl dX2_beginWithPad_20 ?_
        refine lv_iload_n hx hb dX2_beginWithPad_23 rfl (lv_at hl 0 rfl) ?_
        refine r_iald hx hb h0 hw 2 rfl (i := i) (by omega) (by omega) dX2_beginWithPad_24 ?_
        refine lv_iload_n hx hb dX2_beginWithPad_25 rfl (lv_at hl 2 rfl) ?_
        refine lv_ixor hx hb dX2_beginWithPad_26 ?_
        refine r_callv (wr := [(h, .inr (2, [.ref sh, .ref ka, .ref ia])), (ka, .inl (g.2.1 0, 64, .inl (kf)))]) [3, 1] [0, 2] h0 hw rfl rfl (by decide) (by decide) (va_runV (As := [.int ((kf i) ^^^ pv)]) (rest := []) ⟨hx, hb, hml, hown, hts⟩ (c_X4_append l g sh ma wa sa i (bpF mf kf pv i) ((kf i) ^^^ pv) (by omega) _) (cwV 1 hts gX2_beginWithPad_X4_append rfl rfl rfl (by decide +kernel) ⟨Nat.le_of_ble_eq_true rfl, Nat.le_of_ble_eq_true rfl⟩) (preV_of [3, 1] [.int ((kf i) ^^^ pv)] h0 hw rfl (by decide) 3 4 rfl rfl) rfl rfl hl.1 rfl (lv_room (Nat.le_of_ble_eq_true rfl)) dX2_beginWithPad_27 ⟨Nat.le_of_ble_eq_true rfl, Nat.le_of_ble_eq_true rfl⟩) (fun u6 H locs hp7 hw => ?_)
        have hw : WD g A s [(h, .inr (2, [.ref sh, .ref ka, .ref ia])), (ka, .inl (g.2.1 0, 64, .inl (kf))), (sh, .inr (4, [.ref ma, .ref wa, .ref sa, .int (nI (i + 1))])), (ma, .inl (g.2.1 0, 192, .inl (upd (bpF mf kf pv i) i ((kf i) ^^^ pv))))] [] H locs := hw
        refine lv_iinc (v := nI (i + 1)) (lv' := [(2, .int (nI (i + 1))), (0, .ref h), (1, .int (pv))]) hx hb dX2_beginWithPad_30 hl (k := 0) rfl (nI_add i 1) (by decide) rfl (fun ls hl => ?_)
        refine lv_goto (tgt := 9) hx hb dX2_beginWithPad_33 (by decide) ?_
        exact ih (i + 1) (by omega) (by omega) _ _ _ (hw.perm [0, 3, 1, 2] (by decide) rfl) (lv_sub hl [0, 1, 2] rfl)
  exact lp9 (64 - 0 + 1) 0 (by omega) (by omega) _ _ _ hw (lv_sub hl [0, 1, 2] rfl)

set_option maxHeartbeats 4000000 in
set_option maxRecDepth 100000 in
theorem c_X2_begin (l : Launch) (g : GE) (h : Nat) (sh : Nat) (ka : Nat) (ia : Nat) (ma : Nat) (wa : Nat) (sa : Nat) (n : Nat) (mf : Nat → Int32) (kf : Nat → Int32) (ca : Nat) (cf : Nat → Int32) (sz : Nat) : MV l yX2_begin wsX2_begin { frames := 2, cells := 0, slots := 0, locals := 43 } g [.ref h, .ref ca] [(h, .inr (2, [.ref sh, .ref ka, .ref ia])), (sh, .inr (4, [.ref ma, .ref wa, .ref sa, .int (nI n)])), (ma, .inl (g.2.1 0, 192, .inl (mf))), (ka, .inl (g.2.1 0, 64, .inl (kf))), (ca, .inl (g.2.1 0, 32, .inl (cf)))] sz (fun (_ : Unit) => True) (fun (_ : Unit) => [(h, .inr (2, [.ref sh, .ref ka, .ref ia])), (sh, .inr (4, [.ref ma, .ref wa, .ref sa, .int (nI 64)])), (ma, .inl (g.2.1 0, 192, .inl (bpF mf (kv cf) (nI 54) 64))), (ka, .inl (g.2.1 0, 64, .inl (kv cf))), (ca, .inl (g.2.1 0, 32, .inl (cf)))]) 0 0 := by
  refine enterV (by decide) rfl (Nat.le_of_ble_eq_true rfl) ?_
  intro p e s m below meth c A ls ar Q hE h0 hret hw hl
  obtain ⟨hx, hb, hr, hml, hown, hts, hlocks, hname⟩ := hE
  have hown : s.vm.findClass RX2 = some m.cls := hown
  have hw : WD g A s [(h, .inr (2, [.ref sh, .ref ka, .ref ia])), (sh, .inr (4, [.ref ma, .ref wa, .ref sa, .int (nI n)])), (ma, .inl (g.2.1 0, 192, .inl (mf))), (ka, .inl (g.2.1 0, 64, .inl (kf))), (ca, .inl (g.2.1 0, 32, .inl (cf)))] [] s.heap [] := hw
  have hinX2 : ∀ w ∈ u_ws RX2 TX2 3, w ∈ wsX2_begin := by decide +kernel
  have k16 := hts (.fieldLink RX2 16 "RecordWire$Hmac" "keyBlock" "[I") (by decide +kernel)
  have hl : lv_has ls 3 [(0, .ref h), (1, .ref ca)] := hl
  refine lv_iconst (v := nI 0) hx hb dX2_begin_0 (by decide +kernel) ?_
  refine lv_istore_n (lv' := [(2, .int (nI 0)), (0, .ref h), (1, .ref ca)]) hx hb dX2_begin_1 rfl hl (by decide) rfl (fun ls hl => ?_)
  have lp2 : ∀ (fu : Nat) (i : Nat), 64 - i < fu → (i ≤ 64) → ∀ (H : Heap) (locs : List Loc) (ls : Array Slot), WD g A s [(h, .inr (2, [.ref sh, .ref ka, .ref ia])), (sh, .inr (4, [.ref ma, .ref wa, .ref sa, .int (nI n)])), (ma, .inl (g.2.1 0, 192, .inl (mf))), (ka, .inl (g.2.1 0, 64, .inl (kbF kf cf i))), (ca, .inl (g.2.1 0, 32, .inl (cf)))] [] H locs → lv_has ls 3 [(2, .int (nI i)), (0, .ref h), (1, .ref ca)] → W p l e { frames := 2, cells := 0, slots := 0, locals := 43 } s m ar below meth c H locs 0 0 Q (F0 m 2 ls []) := by
    intro fu
    induction fu with
    | zero => intro i hmz; exact absurd hmz (Nat.not_lt_zero _)
    | succ fu ih =>
      intro i hms hi H locs ls hw hl
      refine lv_iload_n hx hb dX2_begin_2 rfl (lv_at hl 0 rfl) ?_
      refine lv_bipush (v := nI 64) hx hb dX2_begin_3 (by decide +kernel) ?_
      refine lv_icmp_ge (tgt := 33) hx hb dX2_begin_5 (by decide) (fun c1 => ?_) (fun c1 => ?_)
      · skip
        have c1 : 64 ≤ i := (nI_leI (by omega) (by omega)).mp c1
        have hq : i = 64 := by omega
        subst i
        have hw := hw.cong 3 rfl (f' := kv cf) (kbF_at kf cf 64)
        have hw : WD g A s [(h, .inr (2, [.ref sh, .ref ka, .ref ia])), (sh, .inr (4, [.ref ma, .ref wa, .ref sa, .int (nI n)])), (ma, .inl (g.2.1 0, 192, .inl (mf))), (ka, .inl (g.2.1 0, 64, .inl (kv cf))), (ca, .inl (g.2.1 0, 32, .inl (cf)))] [] _ _ := hw
        refine lv_aload_n hx hb dX2_begin_33 rfl (lv_at hl 1 rfl) ?_
        refine lv_bipush (v := nI 54) hx hb dX2_begin_34 (by decide +kernel) ?_
        refine r_callv (wr := [(ca, .inl (g.2.1 0, 32, .inl (cf)))]) [0, 1, 2, 3] [4] h0 hw rfl rfl (by decide) (by decide) (va_runV (As := [.int (nI 54)]) (rest := []) ⟨hx, hb, hml, hown, hts⟩ (c_X2_beginWithPad l g h sh ka ia ma wa sa n mf (kv cf) (nI 54)  _) (cwV 1 hts gX2_begin_X2_beginWithPad rfl rfl rfl (by decide +kernel) ⟨Nat.le_of_ble_eq_true rfl, Nat.le_of_ble_eq_true rfl⟩) (preV_of [0, 1, 2, 3] [.int (nI 54)] h0 hw rfl (by decide) 0 2 rfl rfl) rfl rfl hl.1 rfl (lv_room (Nat.le_of_ble_eq_true rfl)) dX2_begin_36 ⟨Nat.le_of_ble_eq_true rfl, Nat.le_of_ble_eq_true rfl⟩) (fun u3 H locs hp4 hw => ?_)
        have hw : WD g A s [(ca, .inl (g.2.1 0, 32, .inl (cf))), (h, .inr (2, [.ref sh, .ref ka, .ref ia])), (sh, .inr (4, [.ref ma, .ref wa, .ref sa, .int (nI 64)])), (ma, .inl (g.2.1 0, 192, .inl (bpF mf (kv cf) (nI 54) 64))), (ka, .inl (g.2.1 0, 64, .inl (kv cf)))] [] H locs := hw
        exact hret (hw.perm (X' := [(h, .inr (2, [.ref sh, .ref ka, .ref ia])), (sh, .inr (4, [.ref ma, .ref wa, .ref sa, .int (nI 64)])), (ma, .inl (g.2.1 0, 192, .inl (bpF mf (kv cf) (nI 54) 64))), (ka, .inl (g.2.1 0, 64, .inl (kv cf))), (ca, .inl (g.2.1 0, 32, .inl (cf)))]) [1, 2, 3, 4, 0] (by decide) rfl) () (trivial) (rfl) (by omega) (by omega) dX2_begin_39
      · skip
        have c1 : ¬ 64 ≤ i := fun q => c1 (((nI_leI (by omega) (by omega)).mpr q))
        refine lv_aload_n hx hb dX2_begin_8 rfl (lv_at hl 1 rfl) ?_
        refine r_get (ci := 2) (v := .ref ka) (C := RX2) (T := TX2) (N := 3) hx hb hts hinX2 hown h0 hw 0 rfl rfl 1 (by decide) k16 rfl dX2_begin_9 ?_
        refine lv_iload_n hx hb dX2_begin_12 rfl (lv_at hl 0 rfl) ?_
        refine lv_iload_n hx hb dX2_begin_13 rfl (lv_at hl 0 rfl) ?_
        refine lv_aload_n hx hb dX2_begin_14 rfl (lv_at hl 2 rfl) ?_
        refine r_alen hx hb h0 hw 4 rfl dX2_begin_15 ?_
        refine lv_icmp_ge (tgt := 25) hx hb dX2_begin_16 (by decide) (fun c5 => ?_) (fun c5 => ?_)
        · skip
          have c5 : 32 ≤ i := (nI_leI (by omega) (by omega)).mp c5
          refine lv_iconst (v := nI 0) hx hb dX2_begin_25 (by decide +kernel) ?_
          refine r_te (y := kv cf i) (by first | exact kv_lt (by omega) | exact kv_ge (by omega)) ?_
          refine r_iast hx hb h0 hw 3 rfl (i := i) (by omega) (by omega) dX2_begin_26 (fun H locs hw => ?_)
          have hw : WD g A s [(h, .inr (2, [.ref sh, .ref ka, .ref ia])), (sh, .inr (4, [.ref ma, .ref wa, .ref sa, .int (nI n)])), (ma, .inl (g.2.1 0, 192, .inl (mf))), (ka, .inl (g.2.1 0, 64, .inl (upd (kbF kf cf i) i (kv cf i)))), (ca, .inl (g.2.1 0, 32, .inl (cf)))] [] H locs := hw
          refine lv_iinc (v := nI (i + 1)) (lv' := [(2, .int (nI (i + 1))), (0, .ref h), (1, .ref ca)]) hx hb dX2_begin_27 hl (k := 0) rfl (nI_add i 1) (by decide) rfl (fun ls hl => ?_)
          refine lv_goto (tgt := 2) hx hb dX2_begin_30 (by decide) ?_
          exact ih (i + 1) (by omega) (by omega) _ _ _ hw (lv_sub hl [0, 1, 2] rfl)
        · skip
          have c5 : ¬ 32 ≤ i := fun q => c5 (((nI_leI (by omega) (by omega)).mpr q))
          refine lv_aload_n hx hb dX2_begin_19 rfl (lv_at hl 2 rfl) ?_
          refine lv_iload_n hx hb dX2_begin_20 rfl (lv_at hl 0 rfl) ?_
          refine r_iald hx hb h0 hw 4 rfl (i := i) (by omega) (by omega) dX2_begin_21 ?_
          refine lv_goto (tgt := 26) hx hb dX2_begin_22 (by decide) ?_
          refine r_te (y := kv cf i) (by first | exact kv_lt (by omega) | exact kv_ge (by omega)) ?_
          refine r_iast hx hb h0 hw 3 rfl (i := i) (by omega) (by omega) dX2_begin_26 (fun H locs hw => ?_)
          have hw : WD g A s [(h, .inr (2, [.ref sh, .ref ka, .ref ia])), (sh, .inr (4, [.ref ma, .ref wa, .ref sa, .int (nI n)])), (ma, .inl (g.2.1 0, 192, .inl (mf))), (ka, .inl (g.2.1 0, 64, .inl (upd (kbF kf cf i) i (kv cf i)))), (ca, .inl (g.2.1 0, 32, .inl (cf)))] [] H locs := hw
          refine lv_iinc (v := nI (i + 1)) (lv' := [(2, .int (nI (i + 1))), (0, .ref h), (1, .ref ca)]) hx hb dX2_begin_27 hl (k := 0) rfl (nI_add i 1) (by decide) rfl (fun ls hl => ?_)
          refine lv_goto (tgt := 2) hx hb dX2_begin_30 (by decide) ?_
          exact ih (i + 1) (by omega) (by omega) _ _ _ hw (lv_sub hl [0, 1, 2] rfl)
  exact lp2 (64 - 0 + 1) 0 (by omega) (by omega) _ _ _ hw (lv_sub hl [0, 1, 2] rfl)

set_option maxHeartbeats 4000000 in
set_option maxRecDepth 100000 in
theorem c_X2_finish (l : Launch) (g : GE) (h : Nat) (sh : Nat) (ka : Nat) (ia : Nat) (ma : Nat) (wa : Nat) (sa : Nat) (n : Nat) (mf : Nat → Int32) (wf : Nat → Int32) (sf : Nat → Int32) (kf : Nat → Int32) (xf : Nat → Int32) (ca : Nat) (cf : Nat → Int32) (hn : n ≤ 183) (sz : Nat) : MV l yX2_finish wsX2_finish { frames := 3, cells := 0, slots := 0, locals := 76 } g [.ref h, .ref ca] [(h, .inr (2, [.ref sh, .ref ka, .ref ia])), (sh, .inr (4, [.ref ma, .ref wa, .ref sa, .int (nI n)])), (ma, .inl (g.2.1 0, 192, .inl (mf))), (wa, .inl (g.2.1 0, 64, .inl (wf))), (sa, .inl (g.2.1 0, 8, .inl (sf))), (ka, .inl (g.2.1 0, 64, .inl (kf))), (ia, .inl (g.2.1 0, 32, .inl (xf))), (ca, .inl (g.2.1 0, 32, .inl (cf)))] sz (fun (u : (Nat → Int32) × (Nat → Int32) × (Nat → Int32) × (Nat → Int32)) => True) (fun (u : (Nat → Int32) × (Nat → Int32) × (Nat → Int32) × (Nat → Int32)) => [(h, .inr (2, [.ref sh, .ref ka, .ref ia])), (sh, .inr (4, [.ref ma, .ref wa, .ref sa, .int (nI (pE 96))])), (ma, .inl (g.2.1 0, 192, .inl (u.1))), (wa, .inl (g.2.1 0, 64, .inl (u.2.1))), (sa, .inl (g.2.1 0, 8, .inl (u.2.2.1))), (ka, .inl (g.2.1 0, 64, .inl (kf))), (ia, .inl (g.2.1 0, 32, .inl (u.2.2.2))), (ca, .inl (g.2.1 0, 32, .inl (hmF kf mf n)))]) 0 0 := by
  refine enterV (by decide) rfl (Nat.le_of_ble_eq_true rfl) ?_
  intro p e s m below meth c A ls ar Q hE h0 hret hw hl
  obtain ⟨hx, hb, hr, hml, hown, hts, hlocks, hname⟩ := hE
  have hown : s.vm.findClass RX2 = some m.cls := hown
  have hw : WD g A s [(h, .inr (2, [.ref sh, .ref ka, .ref ia])), (sh, .inr (4, [.ref ma, .ref wa, .ref sa, .int (nI n)])), (ma, .inl (g.2.1 0, 192, .inl (mf))), (wa, .inl (g.2.1 0, 64, .inl (wf))), (sa, .inl (g.2.1 0, 8, .inl (sf))), (ka, .inl (g.2.1 0, 64, .inl (kf))), (ia, .inl (g.2.1 0, 32, .inl (xf))), (ca, .inl (g.2.1 0, 32, .inl (cf)))] [] s.heap [] := hw
  have hinX2 : ∀ w ∈ u_ws RX2 TX2 3, w ∈ wsX2_finish := by decide +kernel
  have k10 := hts (.fieldLink RX2 10 "RecordWire$Hmac" "hash" "LRecordWire$Sha256;") (by decide +kernel)
  have k20 := hts (.fieldLink RX2 20 "RecordWire$Hmac" "innerHash" "[I") (by decide +kernel)
  have hl : lv_has ls 2 [(0, .ref h), (1, .ref ca)] := hl
  refine lv_aload_n hx hb dX2_finish_0 rfl (lv_at hl 0 rfl) ?_
  refine r_get (ci := 2) (v := .ref sh) (C := RX2) (T := TX2) (N := 3) hx hb hts hinX2 hown h0 hw 0 rfl rfl 0 (by decide) k10 rfl dX2_finish_1 ?_
  refine lv_aload_n hx hb dX2_finish_4 rfl (lv_at hl 0 rfl) ?_
  refine r_get (ci := 2) (v := .ref ia) (C := RX2) (T := TX2) (N := 3) hx hb hts hinX2 hown h0 hw 0 rfl rfl 2 (by decide) k20 rfl dX2_finish_5 ?_
  refine r_callv (wr := [(h, .inr (2, [.ref sh, .ref ka, .ref ia])), (ka, .inl (g.2.1 0, 64, .inl (kf))), (ca, .inl (g.2.1 0, 32, .inl (cf)))]) [1, 2, 3, 4, 6] [0, 5, 7] h0 hw rfl rfl (by decide) (by decide) (va_runV (As := [.ref ia]) (rest := []) ⟨hx, hb, hml, hown, hts⟩ (c_X4_finish l g sh ma wa sa n mf wf sf ia xf (by omega) _) (cwV 1 hts gX2_finish_X4_finish rfl rfl rfl (by decide +kernel) ⟨Nat.le_of_ble_eq_true rfl, Nat.le_of_ble_eq_true rfl⟩) (preV_of [1, 2, 3, 4, 6] [.ref ia] h0 hw rfl (by decide) 1 4 rfl rfl) rfl rfl hl.1 rfl (lv_room (Nat.le_of_ble_eq_true rfl)) dX2_finish_8 ⟨Nat.le_of_ble_eq_true rfl, Nat.le_of_ble_eq_true rfl⟩) (fun u2 H locs hp3 hw => ?_)
  obtain ⟨m2_4, w2_5, s2_6⟩ := u2
  have hw : WD g A s [(h, .inr (2, [.ref sh, .ref ka, .ref ia])), (ka, .inl (g.2.1 0, 64, .inl (kf))), (ca, .inl (g.2.1 0, 32, .inl (cf))), (sh, .inr (4, [.ref ma, .ref wa, .ref sa, .int (nI (pE n))])), (ma, .inl (g.2.1 0, 192, .inl (m2_4))), (wa, .inl (g.2.1 0, 64, .inl (w2_5))), (sa, .inl (g.2.1 0, 8, .inl (s2_6))), (ia, .inl (g.2.1 0, 32, .inl (dig mf n)))] [] H locs := hw
  refine lv_aload_n hx hb dX2_finish_11 rfl (lv_at hl 0 rfl) ?_
  refine lv_bipush (v := nI 92) hx hb dX2_finish_12 (by decide +kernel) ?_
  refine r_callv (wr := [(ca, .inl (g.2.1 0, 32, .inl (cf))), (wa, .inl (g.2.1 0, 64, .inl (w2_5))), (sa, .inl (g.2.1 0, 8, .inl (s2_6))), (ia, .inl (g.2.1 0, 32, .inl (dig mf n)))]) [0, 3, 4, 1] [2, 5, 6, 7] h0 hw rfl rfl (by decide) (by decide) (va_runV (As := [.int (nI 92)]) (rest := []) ⟨hx, hb, hml, hown, hts⟩ (c_X2_beginWithPad l g h sh ka ia ma wa sa (pE n) m2_4 kf (nI 92)  _) (cwV 1 hts gX2_finish_X2_beginWithPad rfl rfl rfl (by decide +kernel) ⟨Nat.le_of_ble_eq_true rfl, Nat.le_of_ble_eq_true rfl⟩) (preV_of [0, 3, 4, 1] [.int (nI 92)] h0 hw rfl (by decide) 0 2 rfl rfl) rfl rfl hl.1 rfl (lv_room (Nat.le_of_ble_eq_true rfl)) dX2_finish_14 ⟨Nat.le_of_ble_eq_true rfl, Nat.le_of_ble_eq_true rfl⟩) (fun u8 H locs hp9 hw => ?_)
  have hw : WD g A s [(ca, .inl (g.2.1 0, 32, .inl (cf))), (wa, .inl (g.2.1 0, 64, .inl (w2_5))), (sa, .inl (g.2.1 0, 8, .inl (s2_6))), (ia, .inl (g.2.1 0, 32, .inl (dig mf n))), (h, .inr (2, [.ref sh, .ref ka, .ref ia])), (sh, .inr (4, [.ref ma, .ref wa, .ref sa, .int (nI 64)])), (ma, .inl (g.2.1 0, 192, .inl (bpF m2_4 kf (nI 92) 64))), (ka, .inl (g.2.1 0, 64, .inl (kf)))] [] H locs := hw
  refine lv_aload_n hx hb dX2_finish_17 rfl (lv_at hl 0 rfl) ?_
  refine lv_aload_n hx hb dX2_finish_18 rfl (lv_at hl 0 rfl) ?_
  refine r_get (ci := 2) (v := .ref ia) (C := RX2) (T := TX2) (N := 3) hx hb hts hinX2 hown h0 hw 4 rfl rfl 2 (by decide) k20 rfl dX2_finish_19 ?_
  refine r_callv (wr := [(ca, .inl (g.2.1 0, 32, .inl (cf))), (wa, .inl (g.2.1 0, 64, .inl (w2_5))), (sa, .inl (g.2.1 0, 8, .inl (s2_6))), (ka, .inl (g.2.1 0, 64, .inl (kf)))]) [4, 5, 6, 3] [0, 1, 2, 7] h0 hw rfl rfl (by decide) (by decide) (va_runV (As := [.ref ia]) (rest := []) ⟨hx, hb, hml, hown, hts⟩ (c_X2_appendAll l g h sh ka ia ma wa sa 64 (bpF m2_4 kf (nI 92) 64) ia 32 (dig mf n) (by omega) _) (cwV 1 hts gX2_finish_X2_appendAll rfl rfl rfl (by decide +kernel) ⟨Nat.le_of_ble_eq_true rfl, Nat.le_of_ble_eq_true rfl⟩) (preV_of [4, 5, 6, 3] [.ref ia] h0 hw rfl (by decide) 4 2 rfl rfl) rfl rfl hl.1 rfl (lv_room (Nat.le_of_ble_eq_true rfl)) dX2_finish_22 ⟨Nat.le_of_ble_eq_true rfl, Nat.le_of_ble_eq_true rfl⟩) (fun u11 H locs hp12 hw => ?_)
  have hw : WD g A s [(ca, .inl (g.2.1 0, 32, .inl (cf))), (wa, .inl (g.2.1 0, 64, .inl (w2_5))), (sa, .inl (g.2.1 0, 8, .inl (s2_6))), (ka, .inl (g.2.1 0, 64, .inl (kf))), (h, .inr (2, [.ref sh, .ref ka, .ref ia])), (sh, .inr (4, [.ref ma, .ref wa, .ref sa, .int (nI 96)])), (ma, .inl (g.2.1 0, 192, .inl (apA (bpF m2_4 kf (nI 92) 64) 64 (dig mf n) 32))), (ia, .inl (g.2.1 0, 32, .inl (dig mf n)))] [] H locs := hw
  refine lv_aload_n hx hb dX2_finish_25 rfl (lv_at hl 0 rfl) ?_
  refine r_get (ci := 2) (v := .ref sh) (C := RX2) (T := TX2) (N := 3) hx hb hts hinX2 hown h0 hw 4 rfl rfl 0 (by decide) k10 rfl dX2_finish_26 ?_
  refine lv_aload_n hx hb dX2_finish_29 rfl (lv_at hl 1 rfl) ?_
  refine r_callv (wr := [(ka, .inl (g.2.1 0, 64, .inl (kf))), (h, .inr (2, [.ref sh, .ref ka, .ref ia])), (ia, .inl (g.2.1 0, 32, .inl (dig mf n)))]) [5, 6, 1, 2, 0] [3, 4, 7] h0 hw rfl rfl (by decide) (by decide) (va_runV (As := [.ref ca]) (rest := []) ⟨hx, hb, hml, hown, hts⟩ (c_X4_finish l g sh ma wa sa 96 (apA (bpF m2_4 kf (nI 92) 64) 64 (dig mf n) 32) w2_5 s2_6 ca cf (by omega) _) (cwV 1 hts gX2_finish_X4_finish rfl rfl rfl (by decide +kernel) ⟨Nat.le_of_ble_eq_true rfl, Nat.le_of_ble_eq_true rfl⟩) (preV_of [5, 6, 1, 2, 0] [.ref ca] h0 hw rfl (by decide) 5 4 rfl rfl) rfl rfl hl.1 rfl (lv_room (Nat.le_of_ble_eq_true rfl)) dX2_finish_30 ⟨Nat.le_of_ble_eq_true rfl, Nat.le_of_ble_eq_true rfl⟩) (fun u14 H locs hp15 hw => ?_)
  obtain ⟨m2_16, w2_17, s2_18⟩ := u14
  have hw : WD g A s [(ka, .inl (g.2.1 0, 64, .inl (kf))), (h, .inr (2, [.ref sh, .ref ka, .ref ia])), (ia, .inl (g.2.1 0, 32, .inl (dig mf n))), (sh, .inr (4, [.ref ma, .ref wa, .ref sa, .int (nI (pE 96))])), (ma, .inl (g.2.1 0, 192, .inl (m2_16))), (wa, .inl (g.2.1 0, 64, .inl (w2_17))), (sa, .inl (g.2.1 0, 8, .inl (s2_18))), (ca, .inl (g.2.1 0, 32, .inl (dig (apA (bpF m2_4 kf (nI 92) 64) 64 (dig mf n) 32) 96)))] [] H locs := hw
  have hw := hw.cong 7 rfl (f' := hmF kf mf n) (hmF_of _ kf mf n)
  have hw : WD g A s [(ka, .inl (g.2.1 0, 64, .inl (kf))), (h, .inr (2, [.ref sh, .ref ka, .ref ia])), (ia, .inl (g.2.1 0, 32, .inl (dig mf n))), (sh, .inr (4, [.ref ma, .ref wa, .ref sa, .int (nI (pE 96))])), (ma, .inl (g.2.1 0, 192, .inl (m2_16))), (wa, .inl (g.2.1 0, 64, .inl (w2_17))), (sa, .inl (g.2.1 0, 8, .inl (s2_18))), (ca, .inl (g.2.1 0, 32, .inl (hmF kf mf n)))] [] _ _ := hw
  exact hret (hw.perm (X' := [(h, .inr (2, [.ref sh, .ref ka, .ref ia])), (sh, .inr (4, [.ref ma, .ref wa, .ref sa, .int (nI (pE 96))])), (ma, .inl (g.2.1 0, 192, .inl (m2_16))), (wa, .inl (g.2.1 0, 64, .inl (w2_17))), (sa, .inl (g.2.1 0, 8, .inl (s2_18))), (ka, .inl (g.2.1 0, 64, .inl (kf))), (ia, .inl (g.2.1 0, 32, .inl (dig mf n))), (ca, .inl (g.2.1 0, 32, .inl (hmF kf mf n)))]) [1, 3, 4, 5, 6, 0, 2, 7] (by decide) rfl) (m2_16, w2_17, s2_18, dig mf n) (trivial) (rfl) (by omega) (by omega) dX2_finish_33
