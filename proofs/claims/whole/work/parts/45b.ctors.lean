set_option maxHeartbeats 4000000 in
set_option maxRecDepth 100000 in
theorem c_X0_init (l : Launch) (g : GE) (h : Nat) (sz : Nat) : MV l yX0_init wsX0_init { frames := 1, cells := 1, slots := 127, locals := 20 } g [.ref h] [(h, .inr (0, [.null, .int (nI 0)]))] sz (fun (b : Nat) => True) (fun (b : Nat) => [(h, .inr (0, [.ref b, .int (nI 0)])), (b, .inl (g.2.1 0, 127, .inl (fun _ => 0)))]) 1 127 := by
  refine enterV (by decide) rfl (Nat.le_of_ble_eq_true rfl) ?_
  intro p e s m below meth c A ls ar Q hE h0 hret hw hl
  obtain ⟨hx, hb, hr, hml, hown, hts, hlocks, hname⟩ := hE
  have hown : s.vm.findClass RX0 = some m.cls := hown
  have hw : WD g A s [(h, .inr (0, [.null, .int (nI 0)]))] [] s.heap [] := hw
  have hinX0 : ∀ w ∈ u_ws RX0 TX0 2, w ∈ wsX0_init := by decide +kernel
  have k9 := hts (.fieldLink RX0 9 "RecordWire$ByteRow" "bytes" "[I") (by decide +kernel)
  have hl : lv_has ls 1 [(0, .ref h)] := hl
  refine lv_aload_n hx hb dX0_init_0 rfl (lv_at hl 0 rfl) ?_
  refine W.objInit hx hb hown (hts (.methodLink RX0 3 objectInit) (by decide +kernel)) (hts (.instanceMethod objectInit) (by decide +kernel)) (hts (.code objectInit ⟨#[0xb1]⟩ 1 none) (by decide +kernel)) rfl (by rw [hml]; exact hl.1) rfl dX0_init_1 (Nat.le_of_ble_eq_true rfl) (Nat.le_of_ble_eq_true rfl) ?_
  refine W.eq (g2 := F0 m 4 ls []) rfl ?_
  refine lv_aload_n hx hb dX0_init_4 rfl (lv_at hl 0 rfl) ?_
  refine lv_bipush (v := nI 127) hx hb dX0_init_5 (by decide +kernel) ?_
  refine r_newI hx hb (hts (.arrayClass .int) (by decide +kernel)) h0 hw (N := 127) (by decide) (Nat.le_of_ble_eq_true rfl) (Nat.le_of_ble_eq_true rfl) dX0_init_7 (fun q1 H hw => ?_)
  have hw : WD g A s [(h, .inr (0, [.null, .int (nI 0)])), (q1, .inl (g.2.1 0, 127, .inl (fun _ => 0)))] [] H [] := hw
  refine r_putF (ci := 0) (v := .ref q1) (C := RX0) (T := TX0) (N := 2) hx hb hts hinX0 tyX0 tyX0_ok nmX0 hown h0 hw 0 rfl rfl 0 (by decide) k9 rfl hname rfl rfl rfl (Nat.le_of_ble_eq_true rfl) dX0_init_9 (fun H locs hw => ?_)
  have hw : WD g A s [(h, .inr (0, [.ref q1, .int (nI 0)])), (q1, .inl (g.2.1 0, 127, .inl (fun _ => 0)))] [] H locs := hw
  exact hret hw (q1) (trivial) (rfl) (by omega) (by omega) dX0_init_12

set_option maxHeartbeats 4000000 in
set_option maxRecDepth 100000 in
theorem c_X4_init (l : Launch) (g : GE) (h : Nat) (sz : Nat) : MV l yX4_init wsX4_init { frames := 1, cells := 3, slots := 264, locals := 20 } g [.ref h] [(h, .inr (4, [.null, .null, .null, .int (nI 0)]))] sz (fun (u : Nat × Nat × Nat) => True) (fun (u : Nat × Nat × Nat) => [(h, .inr (4, [.ref u.1, .ref u.2.1, .ref u.2.2, .int (nI 0)])), (u.1, .inl (g.2.1 0, 192, .inl (fun _ => 0))), (u.2.1, .inl (g.2.1 0, 64, .inl (fun _ => 0))), (u.2.2, .inl (g.2.1 0, 8, .inl (fun _ => 0)))]) 3 264 := by
  refine enterV (by decide) rfl (Nat.le_of_ble_eq_true rfl) ?_
  intro p e s m below meth c A ls ar Q hE h0 hret hw hl
  obtain ⟨hx, hb, hr, hml, hown, hts, hlocks, hname⟩ := hE
  have hown : s.vm.findClass RX4 = some m.cls := hown
  have hw : WD g A s [(h, .inr (4, [.null, .null, .null, .int (nI 0)]))] [] s.heap [] := hw
  have hinX4 : ∀ w ∈ u_ws RX4 TX4 4, w ∈ wsX4_init := by decide +kernel
  have k9 := hts (.fieldLink RX4 9 "RecordWire$Sha256" "message" "[I") (by decide +kernel)
  have k13 := hts (.fieldLink RX4 13 "RecordWire$Sha256" "schedule" "[I") (by decide +kernel)
  have k16 := hts (.fieldLink RX4 16 "RecordWire$Sha256" "state" "[I") (by decide +kernel)
  have hl : lv_has ls 1 [(0, .ref h)] := hl
  refine lv_aload_n hx hb dX4_init_0 rfl (lv_at hl 0 rfl) ?_
  refine W.objInit hx hb hown (hts (.methodLink RX4 3 objectInit) (by decide +kernel)) (hts (.instanceMethod objectInit) (by decide +kernel)) (hts (.code objectInit ⟨#[0xb1]⟩ 1 none) (by decide +kernel)) rfl (by rw [hml]; exact hl.1) rfl dX4_init_1 (Nat.le_of_ble_eq_true rfl) (Nat.le_of_ble_eq_true rfl) ?_
  refine W.eq (g2 := F0 m 4 ls []) rfl ?_
  refine lv_aload_n hx hb dX4_init_4 rfl (lv_at hl 0 rfl) ?_
  refine lv_sipush (v := nI 192) hx hb dX4_init_5 (by decide +kernel) ?_
  refine r_newI hx hb (hts (.arrayClass .int) (by decide +kernel)) h0 hw (N := 192) (by decide) (Nat.le_of_ble_eq_true rfl) (Nat.le_of_ble_eq_true rfl) dX4_init_8 (fun q1 H hw => ?_)
  have hw : WD g A s [(h, .inr (4, [.null, .null, .null, .int (nI 0)])), (q1, .inl (g.2.1 0, 192, .inl (fun _ => 0)))] [] H [] := hw
  refine r_putF (ci := 4) (v := .ref q1) (C := RX4) (T := TX4) (N := 4) hx hb hts hinX4 tyX4 tyX4_ok nmX4 hown h0 hw 0 rfl rfl 0 (by decide) k9 rfl hname rfl rfl rfl (Nat.le_of_ble_eq_true rfl) dX4_init_10 (fun H locs hw => ?_)
  have hw : WD g A s [(h, .inr (4, [.ref q1, .null, .null, .int (nI 0)])), (q1, .inl (g.2.1 0, 192, .inl (fun _ => 0)))] [] H locs := hw
  refine lv_aload_n hx hb dX4_init_13 rfl (lv_at hl 0 rfl) ?_
  refine lv_bipush (v := nI 64) hx hb dX4_init_14 (by decide +kernel) ?_
  refine r_newI hx hb (hts (.arrayClass .int) (by decide +kernel)) h0 hw (N := 64) (by decide) (Nat.le_of_ble_eq_true rfl) (Nat.le_of_ble_eq_true rfl) dX4_init_16 (fun q2 H hw => ?_)
  have hw : WD g A s [(h, .inr (4, [.ref q1, .null, .null, .int (nI 0)])), (q1, .inl (g.2.1 0, 192, .inl (fun _ => 0))), (q2, .inl (g.2.1 0, 64, .inl (fun _ => 0)))] [] H locs := hw
  refine r_putF (ci := 4) (v := .ref q2) (C := RX4) (T := TX4) (N := 4) hx hb hts hinX4 tyX4 tyX4_ok nmX4 hown h0 hw 0 rfl rfl 1 (by decide) k13 rfl hname rfl rfl rfl (Nat.le_of_ble_eq_true rfl) dX4_init_18 (fun H locs hw => ?_)
  have hw : WD g A s [(h, .inr (4, [.ref q1, .ref q2, .null, .int (nI 0)])), (q1, .inl (g.2.1 0, 192, .inl (fun _ => 0))), (q2, .inl (g.2.1 0, 64, .inl (fun _ => 0)))] [] H locs := hw
  refine lv_aload_n hx hb dX4_init_21 rfl (lv_at hl 0 rfl) ?_
  refine lv_bipush (v := nI 8) hx hb dX4_init_22 (by decide +kernel) ?_
  refine r_newI hx hb (hts (.arrayClass .int) (by decide +kernel)) h0 hw (N := 8) (by decide) (Nat.le_of_ble_eq_true rfl) (Nat.le_of_ble_eq_true rfl) dX4_init_24 (fun q3 H hw => ?_)
  have hw : WD g A s [(h, .inr (4, [.ref q1, .ref q2, .null, .int (nI 0)])), (q1, .inl (g.2.1 0, 192, .inl (fun _ => 0))), (q2, .inl (g.2.1 0, 64, .inl (fun _ => 0))), (q3, .inl (g.2.1 0, 8, .inl (fun _ => 0)))] [] H locs := hw
  refine r_putF (ci := 4) (v := .ref q3) (C := RX4) (T := TX4) (N := 4) hx hb hts hinX4 tyX4 tyX4_ok nmX4 hown h0 hw 0 rfl rfl 2 (by decide) k16 rfl hname rfl rfl rfl (Nat.le_of_ble_eq_true rfl) dX4_init_26 (fun H locs hw => ?_)
  have hw : WD g A s [(h, .inr (4, [.ref q1, .ref q2, .ref q3, .int (nI 0)])), (q1, .inl (g.2.1 0, 192, .inl (fun _ => 0))), (q2, .inl (g.2.1 0, 64, .inl (fun _ => 0))), (q3, .inl (g.2.1 0, 8, .inl (fun _ => 0)))] [] H locs := hw
  exact hret hw (q1, q2, q3) (trivial) (rfl) (by omega) (by omega) dX4_init_29

set_option maxHeartbeats 4000000 in
set_option maxRecDepth 100000 in
theorem c_X5_init (l : Launch) (g : GE) (h : Nat) (sz : Nat) : MV l yX5_init wsX5_init { frames := 1, cells := 0, slots := 0, locals := 20 } g [.ref h] [(h, .inr (5, [.long (0), .long (0)]))] sz (fun (_ : Unit) => True) (fun (_ : Unit) => [(h, .inr (5, [.long (0), .long (0)]))]) 0 0 := by
  refine enterV (by decide) rfl (Nat.le_of_ble_eq_true rfl) ?_
  intro p e s m below meth c A ls ar Q hE h0 hret hw hl
  obtain ⟨hx, hb, hr, hml, hown, hts, hlocks, hname⟩ := hE
  have hown : s.vm.findClass RX5 = some m.cls := hown
  have hw : WD g A s [(h, .inr (5, [.long (0), .long (0)]))] [] s.heap [] := hw
  have hl : lv_has ls 1 [(0, .ref h)] := hl
  refine lv_aload_n hx hb dX5_init_0 rfl (lv_at hl 0 rfl) ?_
  refine W.objInit hx hb hown (hts (.methodLink RX5 1 objectInit) (by decide +kernel)) (hts (.instanceMethod objectInit) (by decide +kernel)) (hts (.code objectInit ⟨#[0xb1]⟩ 1 none) (by decide +kernel)) rfl (by rw [hml]; exact hl.1) rfl dX5_init_1 (Nat.le_of_ble_eq_true rfl) (Nat.le_of_ble_eq_true rfl) ?_
  refine W.eq (g2 := F0 m 4 ls []) rfl ?_
  exact hret hw () (trivial) (rfl) (by omega) (by omega) dX5_init_4

set_option maxHeartbeats 4000000 in
set_option maxRecDepth 100000 in
theorem c_X3_init (l : Launch) (g : GE) (h : Nat) (sz : Nat) : MV l yX3_init wsX3_init { frames := 1, cells := 2, slots := 32, locals := 20 } g [.ref h] [(h, .inr (3, [.null, .null, .int (nI 0)]))] sz (fun (u : Nat × Nat) => True) (fun (u : Nat × Nat) => [(h, .inr (3, [.ref u.1, .ref u.2, .int (nI 0)])), (u.1, .inl (g.2.1 0, 16, .inl (fun _ => 0))), (u.2, .inl (g.2.1 0, 16, .inl (fun _ => 0)))]) 2 32 := by
  refine enterV (by decide) rfl (Nat.le_of_ble_eq_true rfl) ?_
  intro p e s m below meth c A ls ar Q hE h0 hret hw hl
  obtain ⟨hx, hb, hr, hml, hown, hts, hlocks, hname⟩ := hE
  have hown : s.vm.findClass RX3 = some m.cls := hown
  have hw : WD g A s [(h, .inr (3, [.null, .null, .int (nI 0)]))] [] s.heap [] := hw
  have hinX3 : ∀ w ∈ u_ws RX3 TX3 3, w ∈ wsX3_init := by decide +kernel
  have k11 := hts (.fieldLink RX3 11 "RecordWire$Salsa20" "input" "[I") (by decide +kernel)
  have k15 := hts (.fieldLink RX3 15 "RecordWire$Salsa20" "block" "[I") (by decide +kernel)
  have hl : lv_has ls 1 [(0, .ref h)] := hl
  refine lv_aload_n hx hb dX3_init_0 rfl (lv_at hl 0 rfl) ?_
  refine W.objInit hx hb hown (hts (.methodLink RX3 3 objectInit) (by decide +kernel)) (hts (.instanceMethod objectInit) (by decide +kernel)) (hts (.code objectInit ⟨#[0xb1]⟩ 1 none) (by decide +kernel)) rfl (by rw [hml]; exact hl.1) rfl dX3_init_1 (Nat.le_of_ble_eq_true rfl) (Nat.le_of_ble_eq_true rfl) ?_
  refine W.eq (g2 := F0 m 4 ls []) rfl ?_
  refine lv_aload_n hx hb dX3_init_4 rfl (lv_at hl 0 rfl) ?_
  refine lv_bipush (v := nI 16) hx hb dX3_init_5 (by decide +kernel) ?_
  refine r_newI hx hb (hts (.arrayClass .int) (by decide +kernel)) h0 hw (N := 16) (by decide) (Nat.le_of_ble_eq_true rfl) (Nat.le_of_ble_eq_true rfl) dX3_init_7 (fun q1 H hw => ?_)
  have hw : WD g A s [(h, .inr (3, [.null, .null, .int (nI 0)])), (q1, .inl (g.2.1 0, 16, .inl (fun _ => 0)))] [] H [] := hw
  refine r_putF (ci := 3) (v := .ref q1) (C := RX3) (T := TX3) (N := 3) hx hb hts hinX3 tyX3 tyX3_ok nmX3 hown h0 hw 0 rfl rfl 0 (by decide) k11 rfl hname rfl rfl rfl (Nat.le_of_ble_eq_true rfl) dX3_init_9 (fun H locs hw => ?_)
  have hw : WD g A s [(h, .inr (3, [.ref q1, .null, .int (nI 0)])), (q1, .inl (g.2.1 0, 16, .inl (fun _ => 0)))] [] H locs := hw
  refine lv_aload_n hx hb dX3_init_12 rfl (lv_at hl 0 rfl) ?_
  refine lv_bipush (v := nI 16) hx hb dX3_init_13 (by decide +kernel) ?_
  refine r_newI hx hb (hts (.arrayClass .int) (by decide +kernel)) h0 hw (N := 16) (by decide) (Nat.le_of_ble_eq_true rfl) (Nat.le_of_ble_eq_true rfl) dX3_init_15 (fun q2 H hw => ?_)
  have hw : WD g A s [(h, .inr (3, [.ref q1, .null, .int (nI 0)])), (q1, .inl (g.2.1 0, 16, .inl (fun _ => 0))), (q2, .inl (g.2.1 0, 16, .inl (fun _ => 0)))] [] H locs := hw
  refine r_putF (ci := 3) (v := .ref q2) (C := RX3) (T := TX3) (N := 3) hx hb hts hinX3 tyX3 tyX3_ok nmX3 hown h0 hw 0 rfl rfl 1 (by decide) k15 rfl hname rfl rfl rfl (Nat.le_of_ble_eq_true rfl) dX3_init_17 (fun H locs hw => ?_)
  have hw : WD g A s [(h, .inr (3, [.ref q1, .ref q2, .int (nI 0)])), (q1, .inl (g.2.1 0, 16, .inl (fun _ => 0))), (q2, .inl (g.2.1 0, 16, .inl (fun _ => 0)))] [] H locs := hw
  exact hret hw (q1, q2) (trivial) (rfl) (by omega) (by omega) dX3_init_20

set_option maxHeartbeats 4000000 in
set_option maxRecDepth 100000 in
theorem c_X2_init (l : Launch) (g : GE) (h : Nat) (sz : Nat) : MVn l yX2_init wsX2_init { frames := 2, cells := 6, slots := 364, locals := 40 } g [.ref h] [(h, .inr (2, [.null, .null, .null]))] sz (fun (u : Nat × Nat × Nat × Nat × Nat × Nat) => True) (fun (u : Nat × Nat × Nat × Nat × Nat × Nat) => [(h, .inr (2, [.ref u.1, .ref u.2.1, .ref u.2.2.1])), (u.1, .inr (4, [.ref u.2.2.2.1, .ref u.2.2.2.2.1, .ref u.2.2.2.2.2, .int (nI 0)])), (u.2.2.2.1, .inl (g.2.1 0, 192, .inl (fun _ => 0))), (u.2.2.2.2.1, .inl (g.2.1 0, 64, .inl (fun _ => 0))), (u.2.2.2.2.2, .inl (g.2.1 0, 8, .inl (fun _ => 0))), (u.2.1, .inl (g.2.1 0, 64, .inl (fun _ => 0))), (u.2.2.1, .inl (g.2.1 0, 32, .inl (fun _ => 0)))]) 6 364 := by
  refine enterVn (by decide) rfl (Nat.le_of_ble_eq_true rfl) ?_
  intro p e s m below meth c A ls ar Q hE h0 hret hw hl hNL
  obtain ⟨hx, hb, hr, hml, hown, hts, hlocks, hname⟩ := hE
  have hown : s.vm.findClass RX2 = some m.cls := hown
  have hw : WD g A s [(h, .inr (2, [.null, .null, .null]))] [] s.heap [] := hw
  have hinX2 : ∀ w ∈ u_ws RX2 TX2 3, w ∈ wsX2_init := by decide +kernel
  have hinX4 : ∀ w ∈ u_ws RX4 TX4 4, w ∈ wsX2_init := by decide +kernel
  have k10 := hts (.fieldLink RX2 10 "RecordWire$Hmac" "hash" "LRecordWire$Sha256;") (by decide +kernel)
  have k16 := hts (.fieldLink RX2 16 "RecordWire$Hmac" "keyBlock" "[I") (by decide +kernel)
  have k20 := hts (.fieldLink RX2 20 "RecordWire$Hmac" "innerHash" "[I") (by decide +kernel)
  have hl : lv_has ls 1 [(0, .ref h)] := hl
  refine lv_aload_n hx hb dX2_init_0 rfl (lv_at hl 0 rfl) ?_
  refine W.objInit hx hb hown (hts (.methodLink RX2 1 objectInit) (by decide +kernel)) (hts (.instanceMethod objectInit) (by decide +kernel)) (hts (.code objectInit ⟨#[0xb1]⟩ 1 none) (by decide +kernel)) rfl (by rw [hml]; exact hl.1) rfl dX2_init_1 (Nat.le_of_ble_eq_true rfl) (Nat.le_of_ble_eq_true rfl) ?_
  refine W.eq (g2 := F0 m 4 ls []) rfl ?_
  refine lv_aload_n hx hb dX2_init_4 rfl (lv_at hl 0 rfl) ?_
  refine r_new (ci := 4) (fs := [.null, .null, .null, .int (nI 0)]) (C := RX4) (T := TX4) (N := 4) hx hb hts hinX4 tyX4 tyX4_ok hown (hts (.classLink RX2 7 RX4) (by decide +kernel)) (hts (.instantiable RX4 4) (by decide +kernel)) (hts (.initialized RX4) (by decide +kernel)) h0 hw rfl (fun j hj => by rcases (show j = 0 ∨ j = 1 ∨ j = 2 ∨ j = 3 by omega) with rfl | rfl | rfl | rfl <;> first | rfl | (show Value.int 0 = Value.int (nI 0); rw [nI_0])) (Nat.le_of_ble_eq_true rfl) (Nat.le_of_ble_eq_true rfl) dX2_init_5 (fun q1 H hw => ?_)
  have hw : WD g A s [(h, .inr (2, [.null, .null, .null])), (q1, .inr (4, [.null, .null, .null, .int (nI 0)]))] [] H [] := hw
  refine lv_dup hx hb dX2_init_8 rfl ?_
  refine r_callv (wr := [(h, .inr (2, [.null, .null, .null]))]) [1] [0] h0 hw rfl rfl (by decide) (by decide) (va_runIN (As := []) (rest := [.ref q1, .ref h]) ⟨hx, hb, hml, hown, hts⟩ (c_X4_init l g q1  _) (⟨va_cnB 0 hts gX2_init_X4_init_n9 rfl rfl rfl hNL.1.2.2.2.1 (hts (.initialized RX4) (by decide +kernel)) (by decide +kernel) ⟨Nat.le_of_ble_eq_true rfl, Nat.le_of_ble_eq_true rfl⟩, rfl, hts (.instanceMethod yX4_init) (by decide +kernel)⟩) (preS_of [1] [.ref q1] h0 hw rfl (by decide)) rfl rfl hl.1 rfl (lv_room (Nat.le_of_ble_eq_true rfl)) dX2_init_9 ⟨Nat.le_of_ble_eq_true rfl, Nat.le_of_ble_eq_true rfl⟩) (fun u3 H locs hp4 hw => ?_)
  obtain ⟨ma_5, wa_6, sa_7⟩ := u3
  have hw : WD g A s [(h, .inr (2, [.null, .null, .null])), (q1, .inr (4, [.ref ma_5, .ref wa_6, .ref sa_7, .int (nI 0)])), (ma_5, .inl (g.2.1 0, 192, .inl (fun _ => 0))), (wa_6, .inl (g.2.1 0, 64, .inl (fun _ => 0))), (sa_7, .inl (g.2.1 0, 8, .inl (fun _ => 0)))] [] H locs := hw
  refine r_putF (ci := 2) (v := .ref q1) (C := RX2) (T := TX2) (N := 3) hx hb hts hinX2 tyX2 tyX2_ok nmX2 hown h0 hw 0 rfl rfl 0 (by decide) k10 rfl hname rfl rfl rfl (Nat.le_of_ble_eq_true rfl) dX2_init_12 (fun H locs hw => ?_)
  have hw : WD g A s [(h, .inr (2, [.ref q1, .null, .null])), (q1, .inr (4, [.ref ma_5, .ref wa_6, .ref sa_7, .int (nI 0)])), (ma_5, .inl (g.2.1 0, 192, .inl (fun _ => 0))), (wa_6, .inl (g.2.1 0, 64, .inl (fun _ => 0))), (sa_7, .inl (g.2.1 0, 8, .inl (fun _ => 0)))] [] H locs := hw
  refine lv_aload_n hx hb dX2_init_15 rfl (lv_at hl 0 rfl) ?_
  refine lv_bipush (v := nI 64) hx hb dX2_init_16 (by decide +kernel) ?_
  refine r_newI hx hb (hts (.arrayClass .int) (by decide +kernel)) h0 hw (N := 64) (by decide) (Nat.le_of_ble_eq_true rfl) (Nat.le_of_ble_eq_true rfl) dX2_init_18 (fun q8 H hw => ?_)
  have hw : WD g A s [(h, .inr (2, [.ref q1, .null, .null])), (q1, .inr (4, [.ref ma_5, .ref wa_6, .ref sa_7, .int (nI 0)])), (ma_5, .inl (g.2.1 0, 192, .inl (fun _ => 0))), (wa_6, .inl (g.2.1 0, 64, .inl (fun _ => 0))), (sa_7, .inl (g.2.1 0, 8, .inl (fun _ => 0))), (q8, .inl (g.2.1 0, 64, .inl (fun _ => 0)))] [] H locs := hw
  refine r_putF (ci := 2) (v := .ref q8) (C := RX2) (T := TX2) (N := 3) hx hb hts hinX2 tyX2 tyX2_ok nmX2 hown h0 hw 0 rfl rfl 1 (by decide) k16 rfl hname rfl rfl rfl (Nat.le_of_ble_eq_true rfl) dX2_init_20 (fun H locs hw => ?_)
  have hw : WD g A s [(h, .inr (2, [.ref q1, .ref q8, .null])), (q1, .inr (4, [.ref ma_5, .ref wa_6, .ref sa_7, .int (nI 0)])), (ma_5, .inl (g.2.1 0, 192, .inl (fun _ => 0))), (wa_6, .inl (g.2.1 0, 64, .inl (fun _ => 0))), (sa_7, .inl (g.2.1 0, 8, .inl (fun _ => 0))), (q8, .inl (g.2.1 0, 64, .inl (fun _ => 0)))] [] H locs := hw
  refine lv_aload_n hx hb dX2_init_23 rfl (lv_at hl 0 rfl) ?_
  refine lv_bipush (v := nI 32) hx hb dX2_init_24 (by decide +kernel) ?_
  refine r_newI hx hb (hts (.arrayClass .int) (by decide +kernel)) h0 hw (N := 32) (by decide) (Nat.le_of_ble_eq_true rfl) (Nat.le_of_ble_eq_true rfl) dX2_init_26 (fun q9 H hw => ?_)
  have hw : WD g A s [(h, .inr (2, [.ref q1, .ref q8, .null])), (q1, .inr (4, [.ref ma_5, .ref wa_6, .ref sa_7, .int (nI 0)])), (ma_5, .inl (g.2.1 0, 192, .inl (fun _ => 0))), (wa_6, .inl (g.2.1 0, 64, .inl (fun _ => 0))), (sa_7, .inl (g.2.1 0, 8, .inl (fun _ => 0))), (q8, .inl (g.2.1 0, 64, .inl (fun _ => 0))), (q9, .inl (g.2.1 0, 32, .inl (fun _ => 0)))] [] H locs := hw
  refine r_putF (ci := 2) (v := .ref q9) (C := RX2) (T := TX2) (N := 3) hx hb hts hinX2 tyX2 tyX2_ok nmX2 hown h0 hw 0 rfl rfl 2 (by decide) k20 rfl hname rfl rfl rfl (Nat.le_of_ble_eq_true rfl) dX2_init_28 (fun H locs hw => ?_)
  have hw : WD g A s [(h, .inr (2, [.ref q1, .ref q8, .ref q9])), (q1, .inr (4, [.ref ma_5, .ref wa_6, .ref sa_7, .int (nI 0)])), (ma_5, .inl (g.2.1 0, 192, .inl (fun _ => 0))), (wa_6, .inl (g.2.1 0, 64, .inl (fun _ => 0))), (sa_7, .inl (g.2.1 0, 8, .inl (fun _ => 0))), (q8, .inl (g.2.1 0, 64, .inl (fun _ => 0))), (q9, .inl (g.2.1 0, 32, .inl (fun _ => 0)))] [] H locs := hw
  exact hret hw (q1, q8, q9, ma_5, wa_6, sa_7) (trivial) (rfl) (by omega) (by omega) dX2_init_31

set_option maxHeartbeats 4000000 in
set_option maxRecDepth 100000 in
theorem c_X1_init (l : Launch) (g : GE) (h : Nat) (ix : Nat) (sz : Nat) : MVn l yX1_init wsX1_init { frames := 3, cells := 14, slots := 500, locals := 60 } g [.ref h, .int (nI ix)] [(h, .inr (1, [.int (nI 0), .null, .null, .null, .null, .null, .null, .int (nI 0), .long (0)]))] sz (fun (u : Nat × Nat × Nat × Nat × Nat × Nat × Nat × Nat × Nat × Nat × Nat × Nat × Nat × Nat) => True) (fun (u : Nat × Nat × Nat × Nat × Nat × Nat × Nat × Nat × Nat × Nat × Nat × Nat × Nat × Nat) => [(h, .inr (1, [.int (nI ix), .ref u.1, .ref u.2.1, .ref u.2.2.1, .ref u.2.2.2.1, .ref u.2.2.2.2.1, .ref u.2.2.2.2.2.1, .int (nI 0), .long (0)])), (u.2.2.1, .inl (g.2.1 0, 32, .inl (fun _ => 0))), (u.2.2.2.1, .inl (g.2.1 0, 32, .inl (fun _ => 0))), (u.2.2.2.2.1, .inl (g.2.1 0, 32, .inl (fun _ => 0))), (u.2.2.2.2.2.1, .inr (5, [.long (0), .long (0)])), (u.1, .inr (2, [.ref u.2.2.2.2.2.2.1, .ref u.2.2.2.2.2.2.2.1, .ref u.2.2.2.2.2.2.2.2.1])), (u.2.2.2.2.2.2.1, .inr (4, [.ref u.2.2.2.2.2.2.2.2.2.1, .ref u.2.2.2.2.2.2.2.2.2.2.1, .ref u.2.2.2.2.2.2.2.2.2.2.2.1, .int (nI 0)])), (u.2.2.2.2.2.2.2.2.2.1, .inl (g.2.1 0, 192, .inl (fun _ => 0))), (u.2.2.2.2.2.2.2.2.2.2.1, .inl (g.2.1 0, 64, .inl (fun _ => 0))), (u.2.2.2.2.2.2.2.2.2.2.2.1, .inl (g.2.1 0, 8, .inl (fun _ => 0))), (u.2.2.2.2.2.2.2.1, .inl (g.2.1 0, 64, .inl (fun _ => 0))), (u.2.2.2.2.2.2.2.2.1, .inl (g.2.1 0, 32, .inl (fun _ => 0))), (u.2.1, .inr (3, [.ref u.2.2.2.2.2.2.2.2.2.2.2.2.1, .ref u.2.2.2.2.2.2.2.2.2.2.2.2.2, .int (nI 0)])), (u.2.2.2.2.2.2.2.2.2.2.2.2.1, .inl (g.2.1 0, 16, .inl (fun _ => 0))), (u.2.2.2.2.2.2.2.2.2.2.2.2.2, .inl (g.2.1 0, 16, .inl (fun _ => 0)))]) 14 500 := by
  refine enterVn (by decide) rfl (Nat.le_of_ble_eq_true rfl) ?_
  intro p e s m below meth c A ls ar Q hE h0 hret hw hl hNL
  obtain ⟨hx, hb, hr, hml, hown, hts, hlocks, hname⟩ := hE
  have hown : s.vm.findClass RX1 = some m.cls := hown
  have hw : WD g A s [(h, .inr (1, [.int (nI 0), .null, .null, .null, .null, .null, .null, .int (nI 0), .long (0)]))] [] s.heap [] := hw
  have hinX1 : ∀ w ∈ u_ws RX1 TX1 9, w ∈ wsX1_init := by decide +kernel
  have hinX2 : ∀ w ∈ u_ws RX2 TX2 3, w ∈ wsX1_init := by decide +kernel
  have hinX3 : ∀ w ∈ u_ws RX3 TX3 3, w ∈ wsX1_init := by decide +kernel
  have hinX5 : ∀ w ∈ u_ws RX5 TX5 2, w ∈ wsX1_init := by decide +kernel
  have k12 := hts (.fieldLink RX1 12 "RecordWire$Direction" "hmac" "LRecordWire$Hmac;") (by decide +kernel)
  have k21 := hts (.fieldLink RX1 21 "RecordWire$Direction" "salsa" "LRecordWire$Salsa20;") (by decide +kernel)
  have k25 := hts (.fieldLink RX1 25 "RecordWire$Direction" "sealKey" "[I") (by decide +kernel)
  have k29 := hts (.fieldLink RX1 29 "RecordWire$Direction" "tagKey" "[I") (by decide +kernel)
  have k34 := hts (.fieldLink RX1 34 "RecordWire$Direction" "tag" "[I") (by decide +kernel)
  have k40 := hts (.fieldLink RX1 40 "RecordWire$Direction" "window" "LRecordWire$Window;") (by decide +kernel)
  have k44 := hts (.fieldLink RX1 44 "RecordWire$Direction" "index" "I") (by decide +kernel)
  have hl : lv_has ls 2 [(0, .ref h), (1, .int (nI ix))] := hl
  refine lv_aload_n hx hb dX1_init_0 rfl (lv_at hl 0 rfl) ?_
  refine W.objInit hx hb hown (hts (.methodLink RX1 3 objectInit) (by decide +kernel)) (hts (.instanceMethod objectInit) (by decide +kernel)) (hts (.code objectInit ⟨#[0xb1]⟩ 1 none) (by decide +kernel)) rfl (by rw [hml]; exact hl.1) rfl dX1_init_1 (Nat.le_of_ble_eq_true rfl) (Nat.le_of_ble_eq_true rfl) ?_
  refine W.eq (g2 := F0 m 4 ls []) rfl ?_
  refine lv_aload_n hx hb dX1_init_4 rfl (lv_at hl 0 rfl) ?_
  refine r_new (ci := 2) (fs := [.null, .null, .null]) (C := RX2) (T := TX2) (N := 3) hx hb hts hinX2 tyX2 tyX2_ok hown (hts (.classLink RX1 9 RX2) (by decide +kernel)) (hts (.instantiable RX2 3) (by decide +kernel)) (hts (.initialized RX2) (by decide +kernel)) h0 hw rfl (fun j hj => by rcases (show j = 0 ∨ j = 1 ∨ j = 2 by omega) with rfl | rfl | rfl <;> first | rfl | (show Value.int 0 = Value.int (nI 0); rw [nI_0])) (Nat.le_of_ble_eq_true rfl) (Nat.le_of_ble_eq_true rfl) dX1_init_5 (fun q1 H hw => ?_)
  have hw : WD g A s [(h, .inr (1, [.int (nI 0), .null, .null, .null, .null, .null, .null, .int (nI 0), .long (0)])), (q1, .inr (2, [.null, .null, .null]))] [] H [] := hw
  refine lv_dup hx hb dX1_init_8 rfl ?_
  refine r_callv (wr := [(h, .inr (1, [.int (nI 0), .null, .null, .null, .null, .null, .null, .int (nI 0), .long (0)]))]) [1] [0] h0 hw rfl rfl (by decide) (by decide) (va_runIN (As := []) (rest := [.ref q1, .ref h]) ⟨hx, hb, hml, hown, hts⟩ (c_X2_init l g q1  _) (⟨va_cnB 0 hts gX1_init_X2_init_n11 rfl rfl rfl hNL.1.1 (hts (.initialized RX2) (by decide +kernel)) (by decide +kernel) ⟨Nat.le_of_ble_eq_true rfl, Nat.le_of_ble_eq_true rfl⟩, rfl, hts (.instanceMethod yX2_init) (by decide +kernel)⟩) (preS_ofn [1] [.ref q1] hNL h0 hw rfl (by decide)) rfl rfl hl.1 rfl (lv_room (Nat.le_of_ble_eq_true rfl)) dX1_init_9 ⟨Nat.le_of_ble_eq_true rfl, Nat.le_of_ble_eq_true rfl⟩) (fun u3 H locs hp4 hw => ?_)
  obtain ⟨sh_5, ka_6, ia_7, ma_8, wa_9, sa_10⟩ := u3
  have hw : WD g A s [(h, .inr (1, [.int (nI 0), .null, .null, .null, .null, .null, .null, .int (nI 0), .long (0)])), (q1, .inr (2, [.ref sh_5, .ref ka_6, .ref ia_7])), (sh_5, .inr (4, [.ref ma_8, .ref wa_9, .ref sa_10, .int (nI 0)])), (ma_8, .inl (g.2.1 0, 192, .inl (fun _ => 0))), (wa_9, .inl (g.2.1 0, 64, .inl (fun _ => 0))), (sa_10, .inl (g.2.1 0, 8, .inl (fun _ => 0))), (ka_6, .inl (g.2.1 0, 64, .inl (fun _ => 0))), (ia_7, .inl (g.2.1 0, 32, .inl (fun _ => 0)))] [] H locs := hw
  refine r_putF (ci := 1) (v := .ref q1) (C := RX1) (T := TX1) (N := 9) hx hb hts hinX1 tyX1 tyX1_ok nmX1 hown h0 hw 0 rfl rfl 1 (by decide) k12 rfl hname rfl rfl rfl (Nat.le_of_ble_eq_true rfl) dX1_init_12 (fun H locs hw => ?_)
  have hw : WD g A s [(h, .inr (1, [.int (nI 0), .ref q1, .null, .null, .null, .null, .null, .int (nI 0), .long (0)])), (q1, .inr (2, [.ref sh_5, .ref ka_6, .ref ia_7])), (sh_5, .inr (4, [.ref ma_8, .ref wa_9, .ref sa_10, .int (nI 0)])), (ma_8, .inl (g.2.1 0, 192, .inl (fun _ => 0))), (wa_9, .inl (g.2.1 0, 64, .inl (fun _ => 0))), (sa_10, .inl (g.2.1 0, 8, .inl (fun _ => 0))), (ka_6, .inl (g.2.1 0, 64, .inl (fun _ => 0))), (ia_7, .inl (g.2.1 0, 32, .inl (fun _ => 0)))] [] H locs := hw
  refine lv_aload_n hx hb dX1_init_15 rfl (lv_at hl 0 rfl) ?_
  refine r_new (ci := 3) (fs := [.null, .null, .int (nI 0)]) (C := RX3) (T := TX3) (N := 3) hx hb hts hinX3 tyX3 tyX3_ok hown (hts (.classLink RX1 18 RX3) (by decide +kernel)) (hts (.instantiable RX3 3) (by decide +kernel)) (hts (.initialized RX3) (by decide +kernel)) h0 hw rfl (fun j hj => by rcases (show j = 0 ∨ j = 1 ∨ j = 2 by omega) with rfl | rfl | rfl <;> first | rfl | (show Value.int 0 = Value.int (nI 0); rw [nI_0])) (Nat.le_of_ble_eq_true rfl) (Nat.le_of_ble_eq_true rfl) dX1_init_16 (fun q11 H hw => ?_)
  have hw : WD g A s [(h, .inr (1, [.int (nI 0), .ref q1, .null, .null, .null, .null, .null, .int (nI 0), .long (0)])), (q1, .inr (2, [.ref sh_5, .ref ka_6, .ref ia_7])), (sh_5, .inr (4, [.ref ma_8, .ref wa_9, .ref sa_10, .int (nI 0)])), (ma_8, .inl (g.2.1 0, 192, .inl (fun _ => 0))), (wa_9, .inl (g.2.1 0, 64, .inl (fun _ => 0))), (sa_10, .inl (g.2.1 0, 8, .inl (fun _ => 0))), (ka_6, .inl (g.2.1 0, 64, .inl (fun _ => 0))), (ia_7, .inl (g.2.1 0, 32, .inl (fun _ => 0))), (q11, .inr (3, [.null, .null, .int (nI 0)]))] [] H locs := hw
  refine lv_dup hx hb dX1_init_19 rfl ?_
  refine r_callv (wr := [(h, .inr (1, [.int (nI 0), .ref q1, .null, .null, .null, .null, .null, .int (nI 0), .long (0)])), (q1, .inr (2, [.ref sh_5, .ref ka_6, .ref ia_7])), (sh_5, .inr (4, [.ref ma_8, .ref wa_9, .ref sa_10, .int (nI 0)])), (ma_8, .inl (g.2.1 0, 192, .inl (fun _ => 0))), (wa_9, .inl (g.2.1 0, 64, .inl (fun _ => 0))), (sa_10, .inl (g.2.1 0, 8, .inl (fun _ => 0))), (ka_6, .inl (g.2.1 0, 64, .inl (fun _ => 0))), (ia_7, .inl (g.2.1 0, 32, .inl (fun _ => 0)))]) [8] [0, 1, 2, 3, 4, 5, 6, 7] h0 hw rfl rfl (by decide) (by decide) (va_runIN (As := []) (rest := [.ref q11, .ref h]) ⟨hx, hb, hml, hown, hts⟩ (c_X3_init l g q11  _) (⟨va_cnB 0 hts gX1_init_X3_init_n20 rfl rfl rfl hNL.1.2.1 (hts (.initialized RX3) (by decide +kernel)) (by decide +kernel) ⟨Nat.le_of_ble_eq_true rfl, Nat.le_of_ble_eq_true rfl⟩, rfl, hts (.instanceMethod yX3_init) (by decide +kernel)⟩) (preS_of [8] [.ref q11] h0 hw rfl (by decide)) rfl rfl hl.1 rfl (lv_room (Nat.le_of_ble_eq_true rfl)) dX1_init_20 ⟨Nat.le_of_ble_eq_true rfl, Nat.le_of_ble_eq_true rfl⟩) (fun u13 H locs hp14 hw => ?_)
  obtain ⟨ia_15, ba_16⟩ := u13
  have hw : WD g A s [(h, .inr (1, [.int (nI 0), .ref q1, .null, .null, .null, .null, .null, .int (nI 0), .long (0)])), (q1, .inr (2, [.ref sh_5, .ref ka_6, .ref ia_7])), (sh_5, .inr (4, [.ref ma_8, .ref wa_9, .ref sa_10, .int (nI 0)])), (ma_8, .inl (g.2.1 0, 192, .inl (fun _ => 0))), (wa_9, .inl (g.2.1 0, 64, .inl (fun _ => 0))), (sa_10, .inl (g.2.1 0, 8, .inl (fun _ => 0))), (ka_6, .inl (g.2.1 0, 64, .inl (fun _ => 0))), (ia_7, .inl (g.2.1 0, 32, .inl (fun _ => 0))), (q11, .inr (3, [.ref ia_15, .ref ba_16, .int (nI 0)])), (ia_15, .inl (g.2.1 0, 16, .inl (fun _ => 0))), (ba_16, .inl (g.2.1 0, 16, .inl (fun _ => 0)))] [] H locs := hw
  refine r_putF (ci := 1) (v := .ref q11) (C := RX1) (T := TX1) (N := 9) hx hb hts hinX1 tyX1 tyX1_ok nmX1 hown h0 hw 0 rfl rfl 2 (by decide) k21 rfl hname rfl rfl rfl (Nat.le_of_ble_eq_true rfl) dX1_init_23 (fun H locs hw => ?_)
  have hw : WD g A s [(h, .inr (1, [.int (nI 0), .ref q1, .ref q11, .null, .null, .null, .null, .int (nI 0), .long (0)])), (q1, .inr (2, [.ref sh_5, .ref ka_6, .ref ia_7])), (sh_5, .inr (4, [.ref ma_8, .ref wa_9, .ref sa_10, .int (nI 0)])), (ma_8, .inl (g.2.1 0, 192, .inl (fun _ => 0))), (wa_9, .inl (g.2.1 0, 64, .inl (fun _ => 0))), (sa_10, .inl (g.2.1 0, 8, .inl (fun _ => 0))), (ka_6, .inl (g.2.1 0, 64, .inl (fun _ => 0))), (ia_7, .inl (g.2.1 0, 32, .inl (fun _ => 0))), (q11, .inr (3, [.ref ia_15, .ref ba_16, .int (nI 0)])), (ia_15, .inl (g.2.1 0, 16, .inl (fun _ => 0))), (ba_16, .inl (g.2.1 0, 16, .inl (fun _ => 0)))] [] H locs := hw
  refine lv_aload_n hx hb dX1_init_26 rfl (lv_at hl 0 rfl) ?_
  refine lv_bipush (v := nI 32) hx hb dX1_init_27 (by decide +kernel) ?_
  refine r_newI hx hb (hts (.arrayClass .int) (by decide +kernel)) h0 hw (N := 32) (by decide) (Nat.le_of_ble_eq_true rfl) (Nat.le_of_ble_eq_true rfl) dX1_init_29 (fun q17 H hw => ?_)
  have hw : WD g A s [(h, .inr (1, [.int (nI 0), .ref q1, .ref q11, .null, .null, .null, .null, .int (nI 0), .long (0)])), (q1, .inr (2, [.ref sh_5, .ref ka_6, .ref ia_7])), (sh_5, .inr (4, [.ref ma_8, .ref wa_9, .ref sa_10, .int (nI 0)])), (ma_8, .inl (g.2.1 0, 192, .inl (fun _ => 0))), (wa_9, .inl (g.2.1 0, 64, .inl (fun _ => 0))), (sa_10, .inl (g.2.1 0, 8, .inl (fun _ => 0))), (ka_6, .inl (g.2.1 0, 64, .inl (fun _ => 0))), (ia_7, .inl (g.2.1 0, 32, .inl (fun _ => 0))), (q11, .inr (3, [.ref ia_15, .ref ba_16, .int (nI 0)])), (ia_15, .inl (g.2.1 0, 16, .inl (fun _ => 0))), (ba_16, .inl (g.2.1 0, 16, .inl (fun _ => 0))), (q17, .inl (g.2.1 0, 32, .inl (fun _ => 0)))] [] H locs := hw
  refine r_putF (ci := 1) (v := .ref q17) (C := RX1) (T := TX1) (N := 9) hx hb hts hinX1 tyX1 tyX1_ok nmX1 hown h0 hw 0 rfl rfl 3 (by decide) k25 rfl hname rfl rfl rfl (Nat.le_of_ble_eq_true rfl) dX1_init_31 (fun H locs hw => ?_)
  have hw : WD g A s [(h, .inr (1, [.int (nI 0), .ref q1, .ref q11, .ref q17, .null, .null, .null, .int (nI 0), .long (0)])), (q1, .inr (2, [.ref sh_5, .ref ka_6, .ref ia_7])), (sh_5, .inr (4, [.ref ma_8, .ref wa_9, .ref sa_10, .int (nI 0)])), (ma_8, .inl (g.2.1 0, 192, .inl (fun _ => 0))), (wa_9, .inl (g.2.1 0, 64, .inl (fun _ => 0))), (sa_10, .inl (g.2.1 0, 8, .inl (fun _ => 0))), (ka_6, .inl (g.2.1 0, 64, .inl (fun _ => 0))), (ia_7, .inl (g.2.1 0, 32, .inl (fun _ => 0))), (q11, .inr (3, [.ref ia_15, .ref ba_16, .int (nI 0)])), (ia_15, .inl (g.2.1 0, 16, .inl (fun _ => 0))), (ba_16, .inl (g.2.1 0, 16, .inl (fun _ => 0))), (q17, .inl (g.2.1 0, 32, .inl (fun _ => 0)))] [] H locs := hw
  refine lv_aload_n hx hb dX1_init_34 rfl (lv_at hl 0 rfl) ?_
  refine lv_bipush (v := nI 32) hx hb dX1_init_35 (by decide +kernel) ?_
  refine r_newI hx hb (hts (.arrayClass .int) (by decide +kernel)) h0 hw (N := 32) (by decide) (Nat.le_of_ble_eq_true rfl) (Nat.le_of_ble_eq_true rfl) dX1_init_37 (fun q18 H hw => ?_)
  have hw : WD g A s [(h, .inr (1, [.int (nI 0), .ref q1, .ref q11, .ref q17, .null, .null, .null, .int (nI 0), .long (0)])), (q1, .inr (2, [.ref sh_5, .ref ka_6, .ref ia_7])), (sh_5, .inr (4, [.ref ma_8, .ref wa_9, .ref sa_10, .int (nI 0)])), (ma_8, .inl (g.2.1 0, 192, .inl (fun _ => 0))), (wa_9, .inl (g.2.1 0, 64, .inl (fun _ => 0))), (sa_10, .inl (g.2.1 0, 8, .inl (fun _ => 0))), (ka_6, .inl (g.2.1 0, 64, .inl (fun _ => 0))), (ia_7, .inl (g.2.1 0, 32, .inl (fun _ => 0))), (q11, .inr (3, [.ref ia_15, .ref ba_16, .int (nI 0)])), (ia_15, .inl (g.2.1 0, 16, .inl (fun _ => 0))), (ba_16, .inl (g.2.1 0, 16, .inl (fun _ => 0))), (q17, .inl (g.2.1 0, 32, .inl (fun _ => 0))), (q18, .inl (g.2.1 0, 32, .inl (fun _ => 0)))] [] H locs := hw
  refine r_putF (ci := 1) (v := .ref q18) (C := RX1) (T := TX1) (N := 9) hx hb hts hinX1 tyX1 tyX1_ok nmX1 hown h0 hw 0 rfl rfl 4 (by decide) k29 rfl hname rfl rfl rfl (Nat.le_of_ble_eq_true rfl) dX1_init_39 (fun H locs hw => ?_)
  have hw : WD g A s [(h, .inr (1, [.int (nI 0), .ref q1, .ref q11, .ref q17, .ref q18, .null, .null, .int (nI 0), .long (0)])), (q1, .inr (2, [.ref sh_5, .ref ka_6, .ref ia_7])), (sh_5, .inr (4, [.ref ma_8, .ref wa_9, .ref sa_10, .int (nI 0)])), (ma_8, .inl (g.2.1 0, 192, .inl (fun _ => 0))), (wa_9, .inl (g.2.1 0, 64, .inl (fun _ => 0))), (sa_10, .inl (g.2.1 0, 8, .inl (fun _ => 0))), (ka_6, .inl (g.2.1 0, 64, .inl (fun _ => 0))), (ia_7, .inl (g.2.1 0, 32, .inl (fun _ => 0))), (q11, .inr (3, [.ref ia_15, .ref ba_16, .int (nI 0)])), (ia_15, .inl (g.2.1 0, 16, .inl (fun _ => 0))), (ba_16, .inl (g.2.1 0, 16, .inl (fun _ => 0))), (q17, .inl (g.2.1 0, 32, .inl (fun _ => 0))), (q18, .inl (g.2.1 0, 32, .inl (fun _ => 0)))] [] H locs := hw
  refine lv_aload_n hx hb dX1_init_42 rfl (lv_at hl 0 rfl) ?_
  refine lv_bipush (v := nI 32) hx hb dX1_init_43 (by decide +kernel) ?_
  refine r_newI hx hb (hts (.arrayClass .int) (by decide +kernel)) h0 hw (N := 32) (by decide) (Nat.le_of_ble_eq_true rfl) (Nat.le_of_ble_eq_true rfl) dX1_init_45 (fun q19 H hw => ?_)
  have hw : WD g A s [(h, .inr (1, [.int (nI 0), .ref q1, .ref q11, .ref q17, .ref q18, .null, .null, .int (nI 0), .long (0)])), (q1, .inr (2, [.ref sh_5, .ref ka_6, .ref ia_7])), (sh_5, .inr (4, [.ref ma_8, .ref wa_9, .ref sa_10, .int (nI 0)])), (ma_8, .inl (g.2.1 0, 192, .inl (fun _ => 0))), (wa_9, .inl (g.2.1 0, 64, .inl (fun _ => 0))), (sa_10, .inl (g.2.1 0, 8, .inl (fun _ => 0))), (ka_6, .inl (g.2.1 0, 64, .inl (fun _ => 0))), (ia_7, .inl (g.2.1 0, 32, .inl (fun _ => 0))), (q11, .inr (3, [.ref ia_15, .ref ba_16, .int (nI 0)])), (ia_15, .inl (g.2.1 0, 16, .inl (fun _ => 0))), (ba_16, .inl (g.2.1 0, 16, .inl (fun _ => 0))), (q17, .inl (g.2.1 0, 32, .inl (fun _ => 0))), (q18, .inl (g.2.1 0, 32, .inl (fun _ => 0))), (q19, .inl (g.2.1 0, 32, .inl (fun _ => 0)))] [] H locs := hw
  refine r_putF (ci := 1) (v := .ref q19) (C := RX1) (T := TX1) (N := 9) hx hb hts hinX1 tyX1 tyX1_ok nmX1 hown h0 hw 0 rfl rfl 5 (by decide) k34 rfl hname rfl rfl rfl (Nat.le_of_ble_eq_true rfl) dX1_init_47 (fun H locs hw => ?_)
  have hw : WD g A s [(h, .inr (1, [.int (nI 0), .ref q1, .ref q11, .ref q17, .ref q18, .ref q19, .null, .int (nI 0), .long (0)])), (q1, .inr (2, [.ref sh_5, .ref ka_6, .ref ia_7])), (sh_5, .inr (4, [.ref ma_8, .ref wa_9, .ref sa_10, .int (nI 0)])), (ma_8, .inl (g.2.1 0, 192, .inl (fun _ => 0))), (wa_9, .inl (g.2.1 0, 64, .inl (fun _ => 0))), (sa_10, .inl (g.2.1 0, 8, .inl (fun _ => 0))), (ka_6, .inl (g.2.1 0, 64, .inl (fun _ => 0))), (ia_7, .inl (g.2.1 0, 32, .inl (fun _ => 0))), (q11, .inr (3, [.ref ia_15, .ref ba_16, .int (nI 0)])), (ia_15, .inl (g.2.1 0, 16, .inl (fun _ => 0))), (ba_16, .inl (g.2.1 0, 16, .inl (fun _ => 0))), (q17, .inl (g.2.1 0, 32, .inl (fun _ => 0))), (q18, .inl (g.2.1 0, 32, .inl (fun _ => 0))), (q19, .inl (g.2.1 0, 32, .inl (fun _ => 0)))] [] H locs := hw
  refine lv_aload_n hx hb dX1_init_50 rfl (lv_at hl 0 rfl) ?_
  refine r_new (ci := 5) (fs := [.long (0), .long (0)]) (C := RX5) (T := TX5) (N := 2) hx hb hts hinX5 tyX5 tyX5_ok hown (hts (.classLink RX1 37 RX5) (by decide +kernel)) (hts (.instantiable RX5 2) (by decide +kernel)) (hts (.initialized RX5) (by decide +kernel)) h0 hw rfl (fun j hj => by rcases (show j = 0 ∨ j = 1 by omega) with rfl | rfl <;> first | rfl | (show Value.int 0 = Value.int (nI 0); rw [nI_0])) (Nat.le_of_ble_eq_true rfl) (Nat.le_of_ble_eq_true rfl) dX1_init_51 (fun q20 H hw => ?_)
  have hw : WD g A s [(h, .inr (1, [.int (nI 0), .ref q1, .ref q11, .ref q17, .ref q18, .ref q19, .null, .int (nI 0), .long (0)])), (q1, .inr (2, [.ref sh_5, .ref ka_6, .ref ia_7])), (sh_5, .inr (4, [.ref ma_8, .ref wa_9, .ref sa_10, .int (nI 0)])), (ma_8, .inl (g.2.1 0, 192, .inl (fun _ => 0))), (wa_9, .inl (g.2.1 0, 64, .inl (fun _ => 0))), (sa_10, .inl (g.2.1 0, 8, .inl (fun _ => 0))), (ka_6, .inl (g.2.1 0, 64, .inl (fun _ => 0))), (ia_7, .inl (g.2.1 0, 32, .inl (fun _ => 0))), (q11, .inr (3, [.ref ia_15, .ref ba_16, .int (nI 0)])), (ia_15, .inl (g.2.1 0, 16, .inl (fun _ => 0))), (ba_16, .inl (g.2.1 0, 16, .inl (fun _ => 0))), (q17, .inl (g.2.1 0, 32, .inl (fun _ => 0))), (q18, .inl (g.2.1 0, 32, .inl (fun _ => 0))), (q19, .inl (g.2.1 0, 32, .inl (fun _ => 0))), (q20, .inr (5, [.long (0), .long (0)]))] [] H locs := hw
  refine lv_dup hx hb dX1_init_54 rfl ?_
  refine r_callv (wr := [(h, .inr (1, [.int (nI 0), .ref q1, .ref q11, .ref q17, .ref q18, .ref q19, .null, .int (nI 0), .long (0)])), (q1, .inr (2, [.ref sh_5, .ref ka_6, .ref ia_7])), (sh_5, .inr (4, [.ref ma_8, .ref wa_9, .ref sa_10, .int (nI 0)])), (ma_8, .inl (g.2.1 0, 192, .inl (fun _ => 0))), (wa_9, .inl (g.2.1 0, 64, .inl (fun _ => 0))), (sa_10, .inl (g.2.1 0, 8, .inl (fun _ => 0))), (ka_6, .inl (g.2.1 0, 64, .inl (fun _ => 0))), (ia_7, .inl (g.2.1 0, 32, .inl (fun _ => 0))), (q11, .inr (3, [.ref ia_15, .ref ba_16, .int (nI 0)])), (ia_15, .inl (g.2.1 0, 16, .inl (fun _ => 0))), (ba_16, .inl (g.2.1 0, 16, .inl (fun _ => 0))), (q17, .inl (g.2.1 0, 32, .inl (fun _ => 0))), (q18, .inl (g.2.1 0, 32, .inl (fun _ => 0))), (q19, .inl (g.2.1 0, 32, .inl (fun _ => 0)))]) [14] [0, 1, 2, 3, 4, 5, 6, 7, 8, 9, 10, 11, 12, 13] h0 hw rfl rfl (by decide) (by decide) (va_runIN (As := []) (rest := [.ref q20, .ref h]) ⟨hx, hb, hml, hown, hts⟩ (c_X5_init l g q20  _) (⟨va_cnB 0 hts gX1_init_X5_init_n39 rfl rfl rfl hNL.1.2.2.1 (hts (.initialized RX5) (by decide +kernel)) (by decide +kernel) ⟨Nat.le_of_ble_eq_true rfl, Nat.le_of_ble_eq_true rfl⟩, rfl, hts (.instanceMethod yX5_init) (by decide +kernel)⟩) (preS_of [14] [.ref q20] h0 hw rfl (by decide)) rfl rfl hl.1 rfl (lv_room (Nat.le_of_ble_eq_true rfl)) dX1_init_55 ⟨Nat.le_of_ble_eq_true rfl, Nat.le_of_ble_eq_true rfl⟩) (fun u22 H locs hp23 hw => ?_)
  have hw : WD g A s [(h, .inr (1, [.int (nI 0), .ref q1, .ref q11, .ref q17, .ref q18, .ref q19, .null, .int (nI 0), .long (0)])), (q1, .inr (2, [.ref sh_5, .ref ka_6, .ref ia_7])), (sh_5, .inr (4, [.ref ma_8, .ref wa_9, .ref sa_10, .int (nI 0)])), (ma_8, .inl (g.2.1 0, 192, .inl (fun _ => 0))), (wa_9, .inl (g.2.1 0, 64, .inl (fun _ => 0))), (sa_10, .inl (g.2.1 0, 8, .inl (fun _ => 0))), (ka_6, .inl (g.2.1 0, 64, .inl (fun _ => 0))), (ia_7, .inl (g.2.1 0, 32, .inl (fun _ => 0))), (q11, .inr (3, [.ref ia_15, .ref ba_16, .int (nI 0)])), (ia_15, .inl (g.2.1 0, 16, .inl (fun _ => 0))), (ba_16, .inl (g.2.1 0, 16, .inl (fun _ => 0))), (q17, .inl (g.2.1 0, 32, .inl (fun _ => 0))), (q18, .inl (g.2.1 0, 32, .inl (fun _ => 0))), (q19, .inl (g.2.1 0, 32, .inl (fun _ => 0))), (q20, .inr (5, [.long (0), .long (0)]))] [] H locs := hw
  refine r_putF (ci := 1) (v := .ref q20) (C := RX1) (T := TX1) (N := 9) hx hb hts hinX1 tyX1 tyX1_ok nmX1 hown h0 hw 0 rfl rfl 6 (by decide) k40 rfl hname rfl rfl rfl (Nat.le_of_ble_eq_true rfl) dX1_init_58 (fun H locs hw => ?_)
  have hw : WD g A s [(h, .inr (1, [.int (nI 0), .ref q1, .ref q11, .ref q17, .ref q18, .ref q19, .ref q20, .int (nI 0), .long (0)])), (q1, .inr (2, [.ref sh_5, .ref ka_6, .ref ia_7])), (sh_5, .inr (4, [.ref ma_8, .ref wa_9, .ref sa_10, .int (nI 0)])), (ma_8, .inl (g.2.1 0, 192, .inl (fun _ => 0))), (wa_9, .inl (g.2.1 0, 64, .inl (fun _ => 0))), (sa_10, .inl (g.2.1 0, 8, .inl (fun _ => 0))), (ka_6, .inl (g.2.1 0, 64, .inl (fun _ => 0))), (ia_7, .inl (g.2.1 0, 32, .inl (fun _ => 0))), (q11, .inr (3, [.ref ia_15, .ref ba_16, .int (nI 0)])), (ia_15, .inl (g.2.1 0, 16, .inl (fun _ => 0))), (ba_16, .inl (g.2.1 0, 16, .inl (fun _ => 0))), (q17, .inl (g.2.1 0, 32, .inl (fun _ => 0))), (q18, .inl (g.2.1 0, 32, .inl (fun _ => 0))), (q19, .inl (g.2.1 0, 32, .inl (fun _ => 0))), (q20, .inr (5, [.long (0), .long (0)]))] [] H locs := hw
  refine lv_aload_n hx hb dX1_init_61 rfl (lv_at hl 0 rfl) ?_
  refine lv_iload_n hx hb dX1_init_62 rfl (lv_at hl 1 rfl) ?_
  refine r_putF (ci := 1) (v := .int (nI ix)) (C := RX1) (T := TX1) (N := 9) hx hb hts hinX1 tyX1 tyX1_ok nmX1 hown h0 hw 0 rfl rfl 0 (by decide) k44 rfl hname rfl rfl rfl (Nat.le_of_ble_eq_true rfl) dX1_init_63 (fun H locs hw => ?_)
  have hw : WD g A s [(h, .inr (1, [.int (nI ix), .ref q1, .ref q11, .ref q17, .ref q18, .ref q19, .ref q20, .int (nI 0), .long (0)])), (q1, .inr (2, [.ref sh_5, .ref ka_6, .ref ia_7])), (sh_5, .inr (4, [.ref ma_8, .ref wa_9, .ref sa_10, .int (nI 0)])), (ma_8, .inl (g.2.1 0, 192, .inl (fun _ => 0))), (wa_9, .inl (g.2.1 0, 64, .inl (fun _ => 0))), (sa_10, .inl (g.2.1 0, 8, .inl (fun _ => 0))), (ka_6, .inl (g.2.1 0, 64, .inl (fun _ => 0))), (ia_7, .inl (g.2.1 0, 32, .inl (fun _ => 0))), (q11, .inr (3, [.ref ia_15, .ref ba_16, .int (nI 0)])), (ia_15, .inl (g.2.1 0, 16, .inl (fun _ => 0))), (ba_16, .inl (g.2.1 0, 16, .inl (fun _ => 0))), (q17, .inl (g.2.1 0, 32, .inl (fun _ => 0))), (q18, .inl (g.2.1 0, 32, .inl (fun _ => 0))), (q19, .inl (g.2.1 0, 32, .inl (fun _ => 0))), (q20, .inr (5, [.long (0), .long (0)]))] [] H locs := hw
  exact hret (hw.perm (X' := [(h, .inr (1, [.int (nI ix), .ref q1, .ref q11, .ref q17, .ref q18, .ref q19, .ref q20, .int (nI 0), .long (0)])), (q17, .inl (g.2.1 0, 32, .inl (fun _ => 0))), (q18, .inl (g.2.1 0, 32, .inl (fun _ => 0))), (q19, .inl (g.2.1 0, 32, .inl (fun _ => 0))), (q20, .inr (5, [.long (0), .long (0)])), (q1, .inr (2, [.ref sh_5, .ref ka_6, .ref ia_7])), (sh_5, .inr (4, [.ref ma_8, .ref wa_9, .ref sa_10, .int (nI 0)])), (ma_8, .inl (g.2.1 0, 192, .inl (fun _ => 0))), (wa_9, .inl (g.2.1 0, 64, .inl (fun _ => 0))), (sa_10, .inl (g.2.1 0, 8, .inl (fun _ => 0))), (ka_6, .inl (g.2.1 0, 64, .inl (fun _ => 0))), (ia_7, .inl (g.2.1 0, 32, .inl (fun _ => 0))), (q11, .inr (3, [.ref ia_15, .ref ba_16, .int (nI 0)])), (ia_15, .inl (g.2.1 0, 16, .inl (fun _ => 0))), (ba_16, .inl (g.2.1 0, 16, .inl (fun _ => 0)))]) [0, 11, 12, 13, 14, 1, 2, 3, 4, 5, 6, 7, 8, 9, 10] (by decide) rfl) (q1, q11, q17, q18, q19, q20, sh_5, ka_6, ia_7, ma_8, wa_9, sa_10, ia_15, ba_16) (trivial) (rfl) (by omega) (by omega) dX1_init_66
