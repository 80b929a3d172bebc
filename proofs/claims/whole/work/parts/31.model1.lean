set_option maxHeartbeats 4000000 in
set_option maxRecDepth 100000 in
theorem c_X7_turned (l : Launch) (g : GE) (x : Int32) (y : Int32) (sz : Nat) : MI l yX7_turned wsX7_turned { frames := 0, cells := 0, slots := 0, locals := 0 } g [.int (x), .int (y)] [] sz (fun (r : Int32) (_ : Unit) => r = rotr x y) (fun (_ : Unit) => []) 0 0 := by
  refine enterI (by decide) rfl (Nat.le_of_ble_eq_true rfl) ?_
  intro p e s m below meth c A ls ar Q hE h0 hret hw hl
  obtain ⟨hx, hb, hr, hml, hown, hts, hlocks, hname⟩ := hE
  have hown : s.vm.findClass RX7 = some m.cls := hown
  have hw : WD g A s [] [] s.heap [] := hw
  have hl : lv_has ls 2 [(0, .int (x)), (1, .int (y))] := hl
  refine lv_iload_n hx hb dX7_turned_0 rfl (lv_at hl 0 rfl) ?_
  refine lv_iload_n hx hb dX7_turned_1 rfl (lv_at hl 1 rfl) ?_
  refine lv_iushr (v := jushr x y) hx hb dX7_turned_2 rfl ?_
  refine lv_iload_n hx hb dX7_turned_3 rfl (lv_at hl 0 rfl) ?_
  refine lv_bipush (v := nI 32) hx hb dX7_turned_4 (by decide +kernel) ?_
  refine lv_iload_n hx hb dX7_turned_6 rfl (lv_at hl 1 rfl) ?_
  refine lv_isub hx hb dX7_turned_7 ?_
  refine lv_ishl hx hb dX7_turned_8 ?_
  refine r_te (y := jshl x ((nI 32) - y)) rfl ?_
  refine lv_ior hx hb dX7_turned_9 ?_
  exact hret hw () (rfl) (rfl) (by omega) (by omega) dX7_turned_10

set_option maxHeartbeats 4000000 in
set_option maxRecDepth 100000 in
theorem c_X7_left (l : Launch) (g : GE) (x : Int32) (y : Int32) (sz : Nat) : MI l yX7_left wsX7_left { frames := 0, cells := 0, slots := 0, locals := 0 } g [.int (x), .int (y)] [] sz (fun (r : Int32) (_ : Unit) => r = rotl x y) (fun (_ : Unit) => []) 0 0 := by
  refine enterI (by decide) rfl (Nat.le_of_ble_eq_true rfl) ?_
  intro p e s m below meth c A ls ar Q hE h0 hret hw hl
  obtain ⟨hx, hb, hr, hml, hown, hts, hlocks, hname⟩ := hE
  have hown : s.vm.findClass RX7 = some m.cls := hown
  have hw : WD g A s [] [] s.heap [] := hw
  have hl : lv_has ls 2 [(0, .int (x)), (1, .int (y))] := hl
  refine lv_iload_n hx hb dX7_left_0 rfl (lv_at hl 0 rfl) ?_
  refine lv_iload_n hx hb dX7_left_1 rfl (lv_at hl 1 rfl) ?_
  refine lv_ishl hx hb dX7_left_2 ?_
  refine r_te (y := jshl x y) rfl ?_
  refine lv_iload_n hx hb dX7_left_3 rfl (lv_at hl 0 rfl) ?_
  refine lv_bipush (v := nI 32) hx hb dX7_left_4 (by decide +kernel) ?_
  refine lv_iload_n hx hb dX7_left_6 rfl (lv_at hl 1 rfl) ?_
  refine lv_isub hx hb dX7_left_7 ?_
  refine lv_iushr (v := jushr x ((nI 32) - y)) hx hb dX7_left_8 rfl ?_
  refine lv_ior hx hb dX7_left_9 ?_
  exact hret hw () (rfl) (rfl) (by omega) (by omega) dX7_left_10

set_option maxHeartbeats 4000000 in
set_option maxRecDepth 100000 in
theorem c_X7_block (l : Launch) (g : GE) (md : Nat → Nat) (op : Nat) (on : Nat) (inn : Nat) (rf : Nat → Int32) (wf : Nat → Int32) (sf : Nat → Int32) (fr : Nat) (hf : fr + 64 ≤ 400) (sz : Nat) : MV l yX7_block wsX7_block { frames := 1, cells := 0, slots := 0, locals := 21 } g [.ref (md 25), .int (nI fr)] [(md 25, .inr (7, [.ref (md 0), .int (nI op), .ref (md 2), .ref (md 3), .ref (md 4), .ref (md 5), .ref (md 6), .ref (md 7), .ref (md 8), .ref (md 9), .ref (md 10), .ref (md 11), .int (nI on), .ref (md 13), .int (nI inn), .ref (md 15), .ref (md 16), .ref (md 17), .ref (md 18), .ref (md 19), .ref (md 20), .ref (md 21), .ref (md 22), .ref (md 23), .ref (md 24)])), (md 17, .inl (g.2.1 0, 400, .inl (rf))), (md 16, .inl (g.2.1 0, 64, .inl (wf))), (md 15, .inl (g.2.1 0, 8, .inl (sf))), (md 22, .inl (g.2.1 0, 64, .inl (kRW)))] sz (fun (_ : Unit) => True) (fun (_ : Unit) => [(md 25, .inr (7, [.ref (md 0), .int (nI op), .ref (md 2), .ref (md 3), .ref (md 4), .ref (md 5), .ref (md 6), .ref (md 7), .ref (md 8), .ref (md 9), .ref (md 10), .ref (md 11), .int (nI on), .ref (md 13), .int (nI inn), .ref (md 15), .ref (md 16), .ref (md 17), .ref (md 18), .ref (md 19), .ref (md 20), .ref (md 21), .ref (md 22), .ref (md 23), .ref (md 24)])), (md 17, .inl (g.2.1 0, 400, .inl (rf))), (md 16, .inl (g.2.1 0, 64, .inl (shW rf fr wf))), (md 15, .inl (g.2.1 0, 8, .inl (stAdd sf (shI (tup sf) (shW rf fr wf) 64)))), (md 22, .inl (g.2.1 0, 64, .inl (kRW)))]) 0 0 := by
  refine enterV (by decide) rfl (Nat.le_of_ble_eq_true rfl) ?_
  intro p e s m below meth c A ls ar Q hE h0 hret hw hl
  obtain ⟨hx, hb, hr, hml, hown, hts, hlocks, hname⟩ := hE
  have hown : s.vm.findClass RX7 = some m.cls := hown
  have hw : WD g A s [(md 25, .inr (7, [.ref (md 0), .int (nI op), .ref (md 2), .ref (md 3), .ref (md 4), .ref (md 5), .ref (md 6), .ref (md 7), .ref (md 8), .ref (md 9), .ref (md 10), .ref (md 11), .int (nI on), .ref (md 13), .int (nI inn), .ref (md 15), .ref (md 16), .ref (md 17), .ref (md 18), .ref (md 19), .ref (md 20), .ref (md 21), .ref (md 22), .ref (md 23), .ref (md 24)])), (md 17, .inl (g.2.1 0, 400, .inl (rf))), (md 16, .inl (g.2.1 0, 64, .inl (wf))), (md 15, .inl (g.2.1 0, 8, .inl (sf))), (md 22, .inl (g.2.1 0, 64, .inl (kRW)))] [] s.heap [] := hw
  have hinX7 : ∀ w ∈ u_ws RX7 TX7 25, w ∈ wsX7_block := by decide +kernel
  have k48 := hts (.fieldLink RX7 48 "RecordWireModel" "state" "[I") (by decide +kernel)
  have k51 := hts (.fieldLink RX7 51 "RecordWireModel" "schedule" "[I") (by decide +kernel)
  have k54 := hts (.fieldLink RX7 54 "RecordWireModel" "row" "[I") (by decide +kernel)
  have k133 := hts (.fieldLink RX7 133 "RecordWireModel" "rounds" "[I") (by decide +kernel)
  have hl : lv_has ls 13 [(0, .ref (md 25)), (1, .int (nI fr))] := hl
  refine lv_iconst (v := nI 0) hx hb dX7_block_0 (by decide +kernel) ?_
  refine lv_istore_n (lv' := [(2, .int (nI 0)), (0, .ref (md 25)), (1, .int (nI fr))]) hx hb dX7_block_1 rfl hl (by decide) rfl (fun ls hl => ?_)
  have lp2 : ∀ (fu : Nat) (t : Nat), 16 - t < fu → (t ≤ 16) → ∀ (H : Heap) (locs : List Loc) (ls : Array Slot), WD g A s [(md 25, .inr (7, [.ref (md 0), .int (nI op), .ref (md 2), .ref (md 3), .ref (md 4), .ref (md 5), .ref (md 6), .ref (md 7), .ref (md 8), .ref (md 9), .ref (md 10), .ref (md 11), .int (nI on), .ref (md 13), .int (nI inn), .ref (md 15), .ref (md 16), .ref (md 17), .ref (md 18), .ref (md 19), .ref (md 20), .ref (md 21), .ref (md 22), .ref (md 23), .ref (md 24)])), (md 17, .inl (g.2.1 0, 400, .inl (rf))), (md 16, .inl (g.2.1 0, 64, .inl (shF rf fr wf t))), (md 15, .inl (g.2.1 0, 8, .inl (sf))), (md 22, .inl (g.2.1 0, 64, .inl (kRW)))] [] H locs → lv_has ls 13 [(2, .int (nI t)), (0, .ref (md 25)), (1, .int (nI fr))] → W p l e { frames := 1, cells := 0, slots := 0, locals := 21 } s m ar below meth c H locs 0 0 Q (F0 m 2 ls []) := by
    intro fu
    induction fu with
    | zero => intro t hmz; exact absurd hmz (Nat.not_lt_zero _)
    | succ fu ih =>
      intro t hms ht H locs ls hw hl
      refine lv_iload_n hx hb dX7_block_2 rfl (lv_at hl 0 rfl) ?_
      refine lv_bipush (v := nI 16) hx hb dX7_block_3 (by decide +kernel) ?_
      refine lv_icmp_ge (tgt := 68) hx hb dX7_block_5 (by decide) (fun c1 => ?_) (fun c1 => ?_)
      · skip
        have c1 : 16 ≤ t := (nI_leI (by omega) (by omega)).mp c1
        have hq : t = 16 := by omega
        have hwS2 := hw; have hlS3 := hl
        subst t
        have hw := hwS2; have hl := hlS3
        refine lv_bipush (v := nI 16) hx hb dX7_block_68 (by decide +kernel) ?_
        refine lv_istore_n (lv' := [(2, .int (nI 16)), (0, .ref (md 25)), (1, .int (nI fr))]) hx hb dX7_block_70 rfl hl (by decide) rfl (fun ls hl => ?_)
        have lp71 : ∀ (fu : Nat) (t : Nat), 48 - t < fu → (t ≤ 48) → ∀ (H : Heap) (locs : List Loc) (ls : Array Slot), WD g A s [(md 25, .inr (7, [.ref (md 0), .int (nI op), .ref (md 2), .ref (md 3), .ref (md 4), .ref (md 5), .ref (md 6), .ref (md 7), .ref (md 8), .ref (md 9), .ref (md 10), .ref (md 11), .int (nI on), .ref (md 13), .int (nI inn), .ref (md 15), .ref (md 16), .ref (md 17), .ref (md 18), .ref (md 19), .ref (md 20), .ref (md 21), .ref (md 22), .ref (md 23), .ref (md 24)])), (md 17, .inl (g.2.1 0, 400, .inl (rf))), (md 16, .inl (g.2.1 0, 64, .inl (shG (shF rf fr wf 16) t))), (md 15, .inl (g.2.1 0, 8, .inl (sf))), (md 22, .inl (g.2.1 0, 64, .inl (kRW)))] [] H locs → lv_has ls 13 [(2, .int (nI (16 + t))), (0, .ref (md 25))] → W p l e { frames := 1, cells := 0, slots := 0, locals := 21 } s m ar below meth c H locs 0 0 Q (F0 m 71 ls []) := by
          intro fu
          induction fu with
          | zero => intro t hmz; exact absurd hmz (Nat.not_lt_zero _)
          | succ fu ih =>
            intro t hms ht H locs ls hw hl
            refine lv_iload_n hx hb dX7_block_71 rfl (lv_at hl 0 rfl) ?_
            refine lv_bipush (v := nI 64) hx hb dX7_block_72 (by decide +kernel) ?_
            refine lv_icmp_ge (tgt := 176) hx hb dX7_block_74 (by decide) (fun c4 => ?_) (fun c4 => ?_)
            · skip
              have c4 : 64 ≤ (16 + t) := (nI_leI (by omega) (by omega)).mp c4
              have hq : t = 48 := by omega
              have hwS5 := hw; have hlS6 := hl
              subst t
              have hw := hwS5; have hl := hlS6
              have hw : WD g A s [(md 25, .inr (7, [.ref (md 0), .int (nI op), .ref (md 2), .ref (md 3), .ref (md 4), .ref (md 5), .ref (md 6), .ref (md 7), .ref (md 8), .ref (md 9), .ref (md 10), .ref (md 11), .int (nI on), .ref (md 13), .int (nI inn), .ref (md 15), .ref (md 16), .ref (md 17), .ref (md 18), .ref (md 19), .ref (md 20), .ref (md 21), .ref (md 22), .ref (md 23), .ref (md 24)])), (md 17, .inl (g.2.1 0, 400, .inl (rf))), (md 16, .inl (g.2.1 0, 64, .inl (shW rf fr wf))), (md 15, .inl (g.2.1 0, 8, .inl (sf))), (md 22, .inl (g.2.1 0, 64, .inl (kRW)))] [] H locs := hw
              refine lv_aload_n hx hb dX7_block_176 rfl (lv_at hl 1 rfl) ?_
              refine r_get (ci := 7) (v := .ref (md 15)) (C := RX7) (T := TX7) (N := 25) hx hb hts hinX7 hown h0 hw 0 rfl rfl 15 (by decide) k48 rfl dX7_block_177 ?_
              refine lv_iconst (v := nI 0) hx hb dX7_block_180 (by decide +kernel) ?_
              refine r_iald hx hb h0 hw 3 rfl (i := 0) (by omega) (by omega) dX7_block_181 ?_
              refine lv_istore_n (lv' := [(2, .int (sf 0)), (0, .ref (md 25))]) hx hb dX7_block_182 rfl hl (by decide) rfl (fun ls hl => ?_)
              refine lv_aload_n hx hb dX7_block_183 rfl (lv_at hl 1 rfl) ?_
              refine r_get (ci := 7) (v := .ref (md 15)) (C := RX7) (T := TX7) (N := 25) hx hb hts hinX7 hown h0 hw 0 rfl rfl 15 (by decide) k48 rfl dX7_block_184 ?_
              refine lv_iconst (v := nI 1) hx hb dX7_block_187 (by decide +kernel) ?_
              refine r_iald hx hb h0 hw 3 rfl (i := 1) (by omega) (by omega) dX7_block_188 ?_
              refine lv_istore_n (lv' := [(3, .int (sf 1)), (2, .int (sf 0)), (0, .ref (md 25))]) hx hb dX7_block_189 rfl hl (by decide) rfl (fun ls hl => ?_)
              refine lv_aload_n hx hb dX7_block_190 rfl (lv_at hl 2 rfl) ?_
              refine r_get (ci := 7) (v := .ref (md 15)) (C := RX7) (T := TX7) (N := 25) hx hb hts hinX7 hown h0 hw 0 rfl rfl 15 (by decide) k48 rfl dX7_block_191 ?_
              refine lv_iconst (v := nI 2) hx hb dX7_block_194 (by decide +kernel) ?_
              refine r_iald hx hb h0 hw 3 rfl (i := 2) (by omega) (by omega) dX7_block_195 ?_
              refine lv_istore (lv' := [(4, .int (sf 2)), (3, .int (sf 1)), (2, .int (sf 0)), (0, .ref (md 25))]) hx hb dX7_block_196 hl (by decide) rfl (fun ls hl => ?_)
              refine lv_aload_n hx hb dX7_block_198 rfl (lv_at hl 3 rfl) ?_
              refine r_get (ci := 7) (v := .ref (md 15)) (C := RX7) (T := TX7) (N := 25) hx hb hts hinX7 hown h0 hw 0 rfl rfl 15 (by decide) k48 rfl dX7_block_199 ?_
              refine lv_iconst (v := nI 3) hx hb dX7_block_202 (by decide +kernel) ?_
              refine r_iald hx hb h0 hw 3 rfl (i := 3) (by omega) (by omega) dX7_block_203 ?_
              refine lv_istore (lv' := [(5, .int (sf 3)), (4, .int (sf 2)), (3, .int (sf 1)), (2, .int (sf 0)), (0, .ref (md 25))]) hx hb dX7_block_204 hl (by decide) rfl (fun ls hl => ?_)
              refine lv_aload_n hx hb dX7_block_206 rfl (lv_at hl 4 rfl) ?_
              refine r_get (ci := 7) (v := .ref (md 15)) (C := RX7) (T := TX7) (N := 25) hx hb hts hinX7 hown h0 hw 0 rfl rfl 15 (by decide) k48 rfl dX7_block_207 ?_
              refine lv_iconst (v := nI 4) hx hb dX7_block_210 (by decide +kernel) ?_
              refine r_iald hx hb h0 hw 3 rfl (i := 4) (by omega) (by omega) dX7_block_211 ?_
              refine lv_istore (lv' := [(6, .int (sf 4)), (5, .int (sf 3)), (4, .int (sf 2)), (3, .int (sf 1)), (2, .int (sf 0)), (0, .ref (md 25))]) hx hb dX7_block_212 hl (by decide) rfl (fun ls hl => ?_)
              refine lv_aload_n hx hb dX7_block_214 rfl (lv_at hl 5 rfl) ?_
              refine r_get (ci := 7) (v := .ref (md 15)) (C := RX7) (T := TX7) (N := 25) hx hb hts hinX7 hown h0 hw 0 rfl rfl 15 (by decide) k48 rfl dX7_block_215 ?_
              refine lv_iconst (v := nI 5) hx hb dX7_block_218 (by decide +kernel) ?_
              refine r_iald hx hb h0 hw 3 rfl (i := 5) (by omega) (by omega) dX7_block_219 ?_
              refine lv_istore (lv' := [(7, .int (sf 5)), (6, .int (sf 4)), (5, .int (sf 3)), (4, .int (sf 2)), (3, .int (sf 1)), (2, .int (sf 0)), (0, .ref (md 25))]) hx hb dX7_block_220 hl (by decide) rfl (fun ls hl => ?_)
              refine lv_aload_n hx hb dX7_block_222 rfl (lv_at hl 6 rfl) ?_
              refine r_get (ci := 7) (v := .ref (md 15)) (C := RX7) (T := TX7) (N := 25) hx hb hts hinX7 hown h0 hw 0 rfl rfl 15 (by decide) k48 rfl dX7_block_223 ?_
              refine lv_bipush (v := nI 6) hx hb dX7_block_226 (by decide +kernel) ?_
              refine r_iald hx hb h0 hw 3 rfl (i := 6) (by omega) (by omega) dX7_block_228 ?_
              refine lv_istore (lv' := [(8, .int (sf 6)), (7, .int (sf 5)), (6, .int (sf 4)), (5, .int (sf 3)), (4, .int (sf 2)), (3, .int (sf 1)), (2, .int (sf 0)), (0, .ref (md 25))]) hx hb dX7_block_229 hl (by decide) rfl (fun ls hl => ?_)
              refine lv_aload_n hx hb dX7_block_231 rfl (lv_at hl 7 rfl) ?_
              refine r_get (ci := 7) (v := .ref (md 15)) (C := RX7) (T := TX7) (N := 25) hx hb hts hinX7 hown h0 hw 0 rfl rfl 15 (by decide) k48 rfl dX7_block_232 ?_
              refine lv_bipush (v := nI 7) hx hb dX7_block_235 (by decide +kernel) ?_
              refine r_iald hx hb h0 hw 3 rfl (i := 7) (by omega) (by omega) dX7_block_237 ?_
              refine lv_istore (lv' := [(9, .int (sf 7)), (8, .int (sf 6)), (7, .int (sf 5)), (6, .int (sf 4)), (5, .int (sf 3)), (4, .int (sf 2)), (3, .int (sf 1)), (2, .int (sf 0)), (0, .ref (md 25))]) hx hb dX7_block_238 hl (by decide) rfl (fun ls hl => ?_)
              refine lv_iconst (v := nI 0) hx hb dX7_block_240 (by decide +kernel) ?_
              refine lv_istore (lv' := [(10, .int (nI 0)), (9, .int (sf 7)), (8, .int (sf 6)), (7, .int (sf 5)), (6, .int (sf 4)), (5, .int (sf 3)), (4, .int (sf 2)), (3, .int (sf 1)), (2, .int (sf 0)), (0, .ref (md 25))]) hx hb dX7_block_241 hl (by decide) rfl (fun ls hl => ?_)
              have lp243 : ∀ (fu : Nat) (t : Nat) (va : Int32) (vb : Int32) (vc : Int32) (vd : Int32) (ve : Int32) (vf : Int32) (vg : Int32) (vh : Int32), 64 - t < fu → (t ≤ 64) → (shI (tup sf) (shW rf fr wf) t = (va, vb, vc, vd, ve, vf, vg, vh)) → ∀ (H : Heap) (locs : List Loc) (ls : Array Slot), WD g A s [(md 25, .inr (7, [.ref (md 0), .int (nI op), .ref (md 2), .ref (md 3), .ref (md 4), .ref (md 5), .ref (md 6), .ref (md 7), .ref (md 8), .ref (md 9), .ref (md 10), .ref (md 11), .int (nI on), .ref (md 13), .int (nI inn), .ref (md 15), .ref (md 16), .ref (md 17), .ref (md 18), .ref (md 19), .ref (md 20), .ref (md 21), .ref (md 22), .ref (md 23), .ref (md 24)])), (md 17, .inl (g.2.1 0, 400, .inl (rf))), (md 16, .inl (g.2.1 0, 64, .inl (shW rf fr wf))), (md 15, .inl (g.2.1 0, 8, .inl (sf))), (md 22, .inl (g.2.1 0, 64, .inl (kRW)))] [] H locs → lv_has ls 13 [(10, .int (nI t)), (0, .ref (md 25)), (2, .int (va)), (3, .int (vb)), (4, .int (vc)), (5, .int (vd)), (6, .int (ve)), (7, .int (vf)), (8, .int (vg)), (9, .int (vh))] → W p l e { frames := 1, cells := 0, slots := 0, locals := 21 } s m ar below meth c H locs 0 0 Q (F0 m 243 ls []) := by
                intro fu
                induction fu with
                | zero => intro t va vb vc vd ve vf vg vh hmz; exact absurd hmz (Nat.not_lt_zero _)
                | succ fu ih =>
                  intro t va vb vc vd ve vf vg vh hms ht hI H locs ls hw hl
                  refine lv_iload hx hb dX7_block_243 (lv_at hl 0 rfl) ?_
                  refine lv_bipush (v := nI 64) hx hb dX7_block_245 (by decide +kernel) ?_
                  refine lv_icmp_ge (tgt := 383) hx hb dX7_block_247 (by decide) (fun c7 => ?_) (fun c7 => ?_)
                  · skip
                    have c7 : 64 ≤ t := (nI_leI (by omega) (by omega)).mp c7
                    have hq : t = 64 := by omega
                    have hwS8 := hw; have hlS9 := hl
                    subst t
                    have hw := hwS8; have hl := hlS9
                    refine lv_aload_n hx hb dX7_block_383 rfl (lv_at hl 1 rfl) ?_
                    refine r_get (ci := 7) (v := .ref (md 15)) (C := RX7) (T := TX7) (N := 25) hx hb hts hinX7 hown h0 hw 0 rfl rfl 15 (by decide) k48 rfl dX7_block_384 ?_
                    refine lv_iconst (v := nI 0) hx hb dX7_block_387 (by decide +kernel) ?_
                    refine lv_dup2_11 hx hb dX7_block_388 rfl rfl ?_
                    refine r_iald hx hb h0 hw 3 rfl (i := 0) (by omega) (by omega) dX7_block_389 ?_
                    refine lv_iload_n hx hb dX7_block_390 rfl (lv_at hl 2 rfl) ?_
                    refine lv_iadd hx hb dX7_block_391 ?_
                    refine r_iast hx hb h0 hw 3 rfl (i := 0) (by omega) (by omega) dX7_block_392 (fun H locs hw => ?_)
                    have hw : WD g A s [(md 25, .inr (7, [.ref (md 0), .int (nI op), .ref (md 2), .ref (md 3), .ref (md 4), .ref (md 5), .ref (md 6), .ref (md 7), .ref (md 8), .ref (md 9), .ref (md 10), .ref (md 11), .int (nI on), .ref (md 13), .int (nI inn), .ref (md 15), .ref (md 16), .ref (md 17), .ref (md 18), .ref (md 19), .ref (md 20), .ref (md 21), .ref (md 22), .ref (md 23), .ref (md 24)])), (md 17, .inl (g.2.1 0, 400, .inl (rf))), (md 16, .inl (g.2.1 0, 64, .inl (shW rf fr wf))), (md 15, .inl (g.2.1 0, 8, .inl (upd sf 0 ((sf 0) + va)))), (md 22, .inl (g.2.1 0, 64, .inl (kRW)))] [] H locs := hw
                    refine lv_aload_n hx hb dX7_block_393 rfl (lv_at hl 1 rfl) ?_
                    refine r_get (ci := 7) (v := .ref (md 15)) (C := RX7) (T := TX7) (N := 25) hx hb hts hinX7 hown h0 hw 0 rfl rfl 15 (by decide) k48 rfl dX7_block_394 ?_
                    refine lv_iconst (v := nI 1) hx hb dX7_block_397 (by decide +kernel) ?_
                    refine lv_dup2_11 hx hb dX7_block_398 rfl rfl ?_
                    refine r_iald hx hb h0 hw 3 rfl (i := 1) (by omega) (by omega) dX7_block_399 ?_
                    refine r_te (y := sf 1) rfl ?_
                    refine lv_iload_n hx hb dX7_block_400 rfl (lv_at hl 3 rfl) ?_
                    refine lv_iadd hx hb dX7_block_401 ?_
                    refine r_iast hx hb h0 hw 3 rfl (i := 1) (by omega) (by omega) dX7_block_402 (fun H locs hw => ?_)
                    have hw : WD g A s [(md 25, .inr (7, [.ref (md 0), .int (nI op), .ref (md 2), .ref (md 3), .ref (md 4), .ref (md 5), .ref (md 6), .ref (md 7), .ref (md 8), .ref (md 9), .ref (md 10), .ref (md 11), .int (nI on), .ref (md 13), .int (nI inn), .ref (md 15), .ref (md 16), .ref (md 17), .ref (md 18), .ref (md 19), .ref (md 20), .ref (md 21), .ref (md 22), .ref (md 23), .ref (md 24)])), (md 17, .inl (g.2.1 0, 400, .inl (rf))), (md 16, .inl (g.2.1 0, 64, .inl (shW rf fr wf))), (md 15, .inl (g.2.1 0, 8, .inl (upd (upd sf 0 ((sf 0) + va)) 1 ((sf 1) + vb)))), (md 22, .inl (g.2.1 0, 64, .inl (kRW)))] [] H locs := hw
                    refine lv_aload_n hx hb dX7_block_403 rfl (lv_at hl 1 rfl) ?_
                    refine r_get (ci := 7) (v := .ref (md 15)) (C := RX7) (T := TX7) (N := 25) hx hb hts hinX7 hown h0 hw 0 rfl rfl 15 (by decide) k48 rfl dX7_block_404 ?_
                    refine lv_iconst (v := nI 2) hx hb dX7_block_407 (by decide +kernel) ?_
                    refine lv_dup2_11 hx hb dX7_block_408 rfl rfl ?_
                    refine r_iald hx hb h0 hw 3 rfl (i := 2) (by omega) (by omega) dX7_block_409 ?_
                    refine r_te (y := sf 2) rfl ?_
                    refine lv_iload hx hb dX7_block_410 (lv_at hl 4 rfl) ?_
                    refine lv_iadd hx hb dX7_block_412 ?_
                    refine r_iast hx hb h0 hw 3 rfl (i := 2) (by omega) (by omega) dX7_block_413 (fun H locs hw => ?_)
                    have hw : WD g A s [(md 25, .inr (7, [.ref (md 0), .int (nI op), .ref (md 2), .ref (md 3), .ref (md 4), .ref (md 5), .ref (md 6), .ref (md 7), .ref (md 8), .ref (md 9), .ref (md 10), .ref (md 11), .int (nI on), .ref (md 13), .int (nI inn), .ref (md 15), .ref (md 16), .ref (md 17), .ref (md 18), .ref (md 19), .ref (md 20), .ref (md 21), .ref (md 22), .ref (md 23), .ref (md 24)])), (md 17, .inl (g.2.1 0, 400, .inl (rf))), (md 16, .inl (g.2.1 0, 64, .inl (shW rf fr wf))), (md 15, .inl (g.2.1 0, 8, .inl (upd (upd (upd sf 0 ((sf 0) + va)) 1 ((sf 1) + vb)) 2 ((sf 2) + vc)))), (md 22, .inl (g.2.1 0, 64, .inl (kRW)))] [] H locs := hw
                    refine lv_aload_n hx hb dX7_block_414 rfl (lv_at hl 1 rfl) ?_
                    refine r_get (ci := 7) (v := .ref (md 15)) (C := RX7) (T := TX7) (N := 25) hx hb hts hinX7 hown h0 hw 0 rfl rfl 15 (by decide) k48 rfl dX7_block_415 ?_
                    refine lv_iconst (v := nI 3) hx hb dX7_block_418 (by decide +kernel) ?_
                    refine lv_dup2_11 hx hb dX7_block_419 rfl rfl ?_
                    refine r_iald hx hb h0 hw 3 rfl (i := 3) (by omega) (by omega) dX7_block_420 ?_
                    refine r_te (y := sf 3) rfl ?_
                    refine lv_iload hx hb dX7_block_421 (lv_at hl 5 rfl) ?_
                    refine lv_iadd hx hb dX7_block_423 ?_
                    refine r_iast hx hb h0 hw 3 rfl (i := 3) (by omega) (by omega) dX7_block_424 (fun H locs hw => ?_)
                    have hw : WD g A s [(md 25, .inr (7, [.ref (md 0), .int (nI op), .ref (md 2), .ref (md 3), .ref (md 4), .ref (md 5), .ref (md 6), .ref (md 7), .ref (md 8), .ref (md 9), .ref (md 10), .ref (md 11), .int (nI on), .ref (md 13), .int (nI inn), .ref (md 15), .ref (md 16), .ref (md 17), .ref (md 18), .ref (md 19), .ref (md 20), .ref (md 21), .ref (md 22), .ref (md 23), .ref (md 24)])), (md 17, .inl (g.2.1 0, 400, .inl (rf))), (md 16, .inl (g.2.1 0, 64, .inl (shW rf fr wf))), (md 15, .inl (g.2.1 0, 8, .inl (upd (upd (upd (upd sf 0 ((sf 0) + va)) 1 ((sf 1) + vb)) 2 ((sf 2) + vc)) 3 ((sf 3) + vd)))), (md 22, .inl (g.2.1 0, 64, .inl (kRW)))] [] H locs := hw
                    refine lv_aload_n hx hb dX7_block_425 rfl (lv_at hl 1 rfl) ?_
                    refine r_get (ci := 7) (v := .ref (md 15)) (C := RX7) (T := TX7) (N := 25) hx hb hts hinX7 hown h0 hw 0 rfl rfl 15 (by decide) k48 rfl dX7_block_426 ?_
                    refine lv_iconst (v := nI 4) hx hb dX7_block_429 (by decide +kernel) ?_
                    refine lv_dup2_11 hx hb dX7_block_430 rfl rfl ?_
                    refine r_iald hx hb h0 hw 3 rfl (i := 4) (by omega) (by omega) dX7_block_431 ?_
                    refine r_te (y := sf 4) rfl ?_
                    refine lv_iload hx hb dX7_block_432 (lv_at hl 6 rfl) ?_
                    refine lv_iadd hx hb dX7_block_434 ?_
                    refine r_iast hx hb h0 hw 3 rfl (i := 4) (by omega) (by omega) dX7_block_435 (fun H locs hw => ?_)
                    have hw : WD g A s [(md 25, .inr (7, [.ref (md 0), .int (nI op), .ref (md 2), .ref (md 3), .ref (md 4), .ref (md 5), .ref (md 6), .ref (md 7), .ref (md 8), .ref (md 9), .ref (md 10), .ref (md 11), .int (nI on), .ref (md 13), .int (nI inn), .ref (md 15), .ref (md 16), .ref (md 17), .ref (md 18), .ref (md 19), .ref (md 20), .ref (md 21), .ref (md 22), .ref (md 23), .ref (md 24)])), (md 17, .inl (g.2.1 0, 400, .inl (rf))), (md 16, .inl (g.2.1 0, 64, .inl (shW rf fr wf))), (md 15, .inl (g.2.1 0, 8, .inl (upd (upd (upd (upd (upd sf 0 ((sf 0) + va)) 1 ((sf 1) + vb)) 2 ((sf 2) + vc)) 3 ((sf 3) + vd)) 4 ((sf 4) + ve)))), (md 22, .inl (g.2.1 0, 64, .inl (kRW)))] [] H locs := hw
                    refine lv_aload_n hx hb dX7_block_436 rfl (lv_at hl 1 rfl) ?_
                    refine r_get (ci := 7) (v := .ref (md 15)) (C := RX7) (T := TX7) (N := 25) hx hb hts hinX7 hown h0 hw 0 rfl rfl 15 (by decide) k48 rfl dX7_block_437 ?_
                    refine lv_iconst (v := nI 5) hx hb dX7_block_440 (by decide +kernel) ?_
                    refine lv_dup2_11 hx hb dX7_block_441 rfl rfl ?_
                    refine r_iald hx hb h0 hw 3 rfl (i := 5) (by omega) (by omega) dX7_block_442 ?_
                    refine r_te (y := sf 5) rfl ?_
                    refine lv_iload hx hb dX7_block_443 (lv_at hl 7 rfl) ?_
                    refine lv_iadd hx hb dX7_block_445 ?_
                    refine r_iast hx hb h0 hw 3 rfl (i := 5) (by omega) (by omega) dX7_block_446 (fun H locs hw => ?_)
                    have hw : WD g A s [(md 25, .inr (7, [.ref (md 0), .int (nI op), .ref (md 2), .ref (md 3), .ref (md 4), .ref (md 5), .ref (md 6), .ref (md 7), .ref (md 8), .ref (md 9), .ref (md 10), .ref (md 11), .int (nI on), .ref (md 13), .int (nI inn), .ref (md 15), .ref (md 16), .ref (md 17), .ref (md 18), .ref (md 19), .ref (md 20), .ref (md 21), .ref (md 22), .ref (md 23), .ref (md 24)])), (md 17, .inl (g.2.1 0, 400, .inl (rf))), (md 16, .inl (g.2.1 0, 64, .inl (shW rf fr wf))), (md 15, .inl (g.2.1 0, 8, .inl (upd (upd (upd (upd (upd (upd sf 0 ((sf 0) + va)) 1 ((sf 1) + vb)) 2 ((sf 2) + vc)) 3 ((sf 3) + vd)) 4 ((sf 4) + ve)) 5 ((sf 5) + vf)))), (md 22, .inl (g.2.1 0, 64, .inl (kRW)))] [] H locs := hw
                    refine lv_aload_n hx hb dX7_block_447 rfl (lv_at hl 1 rfl) ?_
                    refine r_get (ci := 7) (v := .ref (md 15)) (C := RX7) (T := TX7) (N := 25) hx hb hts hinX7 hown h0 hw 0 rfl rfl 15 (by decide) k48 rfl dX7_block_448 ?_
                    refine lv_bipush (v := nI 6) hx hb dX7_block_451 (by decide +kernel) ?_
                    refine lv_dup2_11 hx hb dX7_block_453 rfl rfl ?_
                    refine r_iald hx hb h0 hw 3 rfl (i := 6) (by omega) (by omega) dX7_block_454 ?_
                    refine r_te (y := sf 6) rfl ?_
                    refine lv_iload hx hb dX7_block_455 (lv_at hl 8 rfl) ?_
                    refine lv_iadd hx hb dX7_block_457 ?_
                    refine r_iast hx hb h0 hw 3 rfl (i := 6) (by omega) (by omega) dX7_block_458 (fun H locs hw => ?_)
                    have hw : WD g A s [(md 25, .inr (7, [.ref (md 0), .int (nI op), .ref (md 2), .ref (md 3), .ref (md 4), .ref (md 5), .ref (md 6), .ref (md 7), .ref (md 8), .ref (md 9), .ref (md 10), .ref (md 11), .int (nI on), .ref (md 13), .int (nI inn), .ref (md 15), .ref (md 16), .ref (md 17), .ref (md 18), .ref (md 19), .ref (md 20), .ref (md 21), .ref (md 22), .ref (md 23), .ref (md 24)])), (md 17, .inl (g.2.1 0, 400, .inl (rf))), (md 16, .inl (g.2.1 0, 64, .inl (shW rf fr wf))), (md 15, .inl (g.2.1 0, 8, .inl (upd (upd (upd (upd (upd (upd (upd sf 0 ((sf 0) + va)) 1 ((sf 1) + vb)) 2 ((sf 2) + vc)) 3 ((sf 3) + vd)) 4 ((sf 4) + ve)) 5 ((sf 5) + vf)) 6 ((sf 6) + vg)))), (md 22, .inl (g.2.1 0, 64, .inl (kRW)))] [] H locs := hw
                    refine lv_aload_n hx hb dX7_block_459 rfl (lv_at hl 1 rfl) ?_
                    refine r_get (ci := 7) (v := .ref (md 15)) (C := RX7) (T := TX7) (N := 25) hx hb hts hinX7 hown h0 hw 0 rfl rfl 15 (by decide) k48 rfl dX7_block_460 ?_
                    refine lv_bipush (v := nI 7) hx hb dX7_block_463 (by decide +kernel) ?_
                    refine lv_dup2_11 hx hb dX7_block_465 rfl rfl ?_
                    refine r_iald hx hb h0 hw 3 rfl (i := 7) (by omega) (by omega) dX7_block_466 ?_
                    refine r_te (y := sf 7) rfl ?_
                    refine lv_iload hx hb dX7_block_467 (lv_at hl 9 rfl) ?_
                    refine lv_iadd hx hb dX7_block_469 ?_
                    refine r_iast hx hb h0 hw 3 rfl (i := 7) (by omega) (by omega) dX7_block_470 (fun H locs hw => ?_)
                    have hw : WD g A s [(md 25, .inr (7, [.ref (md 0), .int (nI op), .ref (md 2), .ref (md 3), .ref (md 4), .ref (md 5), .ref (md 6), .ref (md 7), .ref (md 8), .ref (md 9), .ref (md 10), .ref (md 11), .int (nI on), .ref (md 13), .int (nI inn), .ref (md 15), .ref (md 16), .ref (md 17), .ref (md 18), .ref (md 19), .ref (md 20), .ref (md 21), .ref (md 22), .ref (md 23), .ref (md 24)])), (md 17, .inl (g.2.1 0, 400, .inl (rf))), (md 16, .inl (g.2.1 0, 64, .inl (shW rf fr wf))), (md 15, .inl (g.2.1 0, 8, .inl (upd (upd (upd (upd (upd (upd (upd (upd sf 0 ((sf 0) + va)) 1 ((sf 1) + vb)) 2 ((sf 2) + vc)) 3 ((sf 3) + vd)) 4 ((sf 4) + ve)) 5 ((sf 5) + vf)) 6 ((sf 6) + vg)) 7 ((sf 7) + vh)))), (md 22, .inl (g.2.1 0, 64, .inl (kRW)))] [] H locs := hw
                    exact hret hw () (trivial) (by rw [hI]; rfl) (by omega) (by omega) dX7_block_471
                  · skip
                    have c7 : ¬ 64 ≤ t := fun q => c7 (((nI_leI (by omega) (by omega)).mpr q))
                    refine lv_iload hx hb dX7_block_250 (lv_at hl 9 rfl) ?_
                    refine lv_iload hx hb dX7_block_252 (lv_at hl 6 rfl) ?_
                    refine lv_bipush (v := nI 6) hx hb dX7_block_254 (by decide +kernel) ?_
                    refine r_calli (wr := [(md 25, .inr (7, [.ref (md 0), .int (nI op), .ref (md 2), .ref (md 3), .ref (md 4), .ref (md 5), .ref (md 6), .ref (md 7), .ref (md 8), .ref (md 9), .ref (md 10), .ref (md 11), .int (nI on), .ref (md 13), .int (nI inn), .ref (md 15), .ref (md 16), .ref (md 17), .ref (md 18), .ref (md 19), .ref (md 20), .ref (md 21), .ref (md 22), .ref (md 23), .ref (md 24)])), (md 17, .inl (g.2.1 0, 400, .inl (rf))), (md 16, .inl (g.2.1 0, 64, .inl (shW rf fr wf))), (md 15, .inl (g.2.1 0, 8, .inl (sf))), (md 22, .inl (g.2.1 0, 64, .inl (kRW)))]) [] [0, 1, 2, 3, 4] h0 hw rfl rfl (by decide) (by decide) (va_runS (As := [.int (ve), .int (nI 6)]) (rest := [.int (vh)]) ⟨hx, hb, hml, hown, hts⟩ (c_X7_turned l g ve (nI 6)  _) (va_cwS 2 hts gX7_block_X7_turned rfl rfl rfl (by decide +kernel) ⟨Nat.le_of_ble_eq_true rfl, Nat.le_of_ble_eq_true rfl⟩) (preS_of [] [.int (ve), .int (nI 6)] h0 hw rfl (by decide)) rfl rfl hl.1 rfl (lv_room (Nat.le_of_ble_eq_true rfl)) dX7_block_256 ⟨Nat.le_of_ble_eq_true rfl, Nat.le_of_ble_eq_true rfl⟩) (fun r10 u11 H locs hp12 hw => ?_)
                    have hw : WD g A s [(md 25, .inr (7, [.ref (md 0), .int (nI op), .ref (md 2), .ref (md 3), .ref (md 4), .ref (md 5), .ref (md 6), .ref (md 7), .ref (md 8), .ref (md 9), .ref (md 10), .ref (md 11), .int (nI on), .ref (md 13), .int (nI inn), .ref (md 15), .ref (md 16), .ref (md 17), .ref (md 18), .ref (md 19), .ref (md 20), .ref (md 21), .ref (md 22), .ref (md 23), .ref (md 24)])), (md 17, .inl (g.2.1 0, 400, .inl (rf))), (md 16, .inl (g.2.1 0, 64, .inl (shW rf fr wf))), (md 15, .inl (g.2.1 0, 8, .inl (sf))), (md 22, .inl (g.2.1 0, 64, .inl (kRW)))] [] H locs := hw
                    subst hp12
                    refine lv_iload hx hb dX7_block_259 (lv_at hl 6 rfl) ?_
                    refine lv_bipush (v := nI 11) hx hb dX7_block_261 (by decide +kernel) ?_
                    refine r_calli (wr := [(md 25, .inr (7, [.ref (md 0), .int (nI op), .ref (md 2), .ref (md 3), .ref (md 4), .ref (md 5), .ref (md 6), .ref (md 7), .ref (md 8), .ref (md 9), .ref (md 10), .ref (md 11), .int (nI on), .ref (md 13), .int (nI inn), .ref (md 15), .ref (md 16), .ref (md 17), .ref (md 18), .ref (md 19), .ref (md 20), .ref (md 21), .ref (md 22), .ref (md 23), .ref (md 24)])), (md 17, .inl (g.2.1 0, 400, .inl (rf))), (md 16, .inl (g.2.1 0, 64, .inl (shW rf fr wf))), (md 15, .inl (g.2.1 0, 8, .inl (sf))), (md 22, .inl (g.2.1 0, 64, .inl (kRW)))]) [] [0, 1, 2, 3, 4] h0 hw rfl rfl (by decide) (by decide) (va_runS (As := [.int (ve), .int (nI 11)]) (rest := [.int (rotr ve (nI 6)), .int (vh)]) ⟨hx, hb, hml, hown, hts⟩ (c_X7_turned l g ve (nI 11)  _) (va_cwS 2 hts gX7_block_X7_turned rfl rfl rfl (by decide +kernel) ⟨Nat.le_of_ble_eq_true rfl, Nat.le_of_ble_eq_true rfl⟩) (preS_of [] [.int (ve), .int (nI 11)] h0 hw rfl (by decide)) rfl rfl hl.1 rfl (lv_room (Nat.le_of_ble_eq_true rfl)) dX7_block_263 ⟨Nat.le_of_ble_eq_true rfl, Nat.le_of_ble_eq_true rfl⟩) (fun r13 u14 H locs hp15 hw => ?_)
                    have hw : WD g A s [(md 25, .inr (7, [.ref (md 0), .int (nI op), .ref (md 2), .ref (md 3), .ref (md 4), .ref (md 5), .ref (md 6), .ref (md 7), .ref (md 8), .ref (md 9), .ref (md 10), .ref (md 11), .int (nI on), .ref (md 13), .int (nI inn), .ref (md 15), .ref (md 16), .ref (md 17), .ref (md 18), .ref (md 19), .ref (md 20), .ref (md 21), .ref (md 22), .ref (md 23), .ref (md 24)])), (md 17, .inl (g.2.1 0, 400, .inl (rf))), (md 16, .inl (g.2.1 0, 64, .inl (shW rf fr wf))), (md 15, .inl (g.2.1 0, 8, .inl (sf))), (md 22, .inl (g.2.1 0, 64, .inl (kRW)))] [] H locs := hw
                    subst hp15
                    refine lv_ixor hx hb dX7_block_266 ?_
                    refine lv_iload hx hb dX7_block_267 (lv_at hl 6 rfl) ?_
                    refine lv_bipush (v := nI 25) hx hb dX7_block_269 (by decide +kernel) ?_
                    refine r_calli (wr := [(md 25, .inr (7, [.ref (md 0), .int (nI op), .ref (md 2), .ref (md 3), .ref (md 4), .ref (md 5), .ref (md 6), .ref (md 7), .ref (md 8), .ref (md 9), .ref (md 10), .ref (md 11), .int (nI on), .ref (md 13), .int (nI inn), .ref (md 15), .ref (md 16), .ref (md 17), .ref (md 18), .ref (md 19), .ref (md 20), .ref (md 21), .ref (md 22), .ref (md 23), .ref (md 24)])), (md 17, .inl (g.2.1 0, 400, .inl (rf))), (md 16, .inl (g.2.1 0, 64, .inl (shW rf fr wf))), (md 15, .inl (g.2.1 0, 8, .inl (sf))), (md 22, .inl (g.2.1 0, 64, .inl (kRW)))]) [] [0, 1, 2, 3, 4] h0 hw rfl rfl (by decide) (by decide) (va_runS (As := [.int (ve), .int (nI 25)]) (rest := [.int ((rotr ve (nI 6)) ^^^ (rotr ve (nI 11))), .int (vh)]) ⟨hx, hb, hml, hown, hts⟩ (c_X7_turned l g ve (nI 25)  _) (va_cwS 2 hts gX7_block_X7_turned rfl rfl rfl (by decide +kernel) ⟨Nat.le_of_ble_eq_true rfl, Nat.le_of_ble_eq_true rfl⟩) (preS_of [] [.int (ve), .int (nI 25)] h0 hw rfl (by decide)) rfl rfl hl.1 rfl (lv_room (Nat.le_of_ble_eq_true rfl)) dX7_block_271 ⟨Nat.le_of_ble_eq_true rfl, Nat.le_of_ble_eq_true rfl⟩) (fun r16 u17 H locs hp18 hw => ?_)
                    have hw : WD g A s [(md 25, .inr (7, [.ref (md 0), .int (nI op), .ref (md 2), .ref (md 3), .ref (md 4), .ref (md 5), .ref (md 6), .ref (md 7), .ref (md 8), .ref (md 9), .ref (md 10), .ref (md 11), .int (nI on), .ref (md 13), .int (nI inn), .ref (md 15), .ref (md 16), .ref (md 17), .ref (md 18), .ref (md 19), .ref (md 20), .ref (md 21), .ref (md 22), .ref (md 23), .ref (md 24)])), (md 17, .inl (g.2.1 0, 400, .inl (rf))), (md 16, .inl (g.2.1 0, 64, .inl (shW rf fr wf))), (md 15, .inl (g.2.1 0, 8, .inl (sf))), (md 22, .inl (g.2.1 0, 64, .inl (kRW)))] [] H locs := hw
                    subst hp18
                    refine lv_ixor hx hb dX7_block_274 ?_
                    refine lv_iadd hx hb dX7_block_275 ?_
                    refine lv_iload hx hb dX7_block_276 (lv_at hl 6 rfl) ?_
                    refine lv_iload hx hb dX7_block_278 (lv_at hl 7 rfl) ?_
                    refine lv_iand hx hb dX7_block_280 ?_
                    refine lv_iload hx hb dX7_block_281 (lv_at hl 6 rfl) ?_
                    refine lv_iconst (v := -1) hx hb dX7_block_283 (by decide +kernel) ?_
                    refine lv_ixor hx hb dX7_block_284 ?_
                    refine lv_iload hx hb dX7_block_285 (lv_at hl 8 rfl) ?_
                    refine lv_iand hx hb dX7_block_287 ?_
                    refine lv_ixor hx hb dX7_block_288 ?_
                    refine lv_iadd hx hb dX7_block_289 ?_
                    refine lv_aload_n hx hb dX7_block_290 rfl (lv_at hl 1 rfl) ?_
                    refine r_get (ci := 7) (v := .ref (md 22)) (C := RX7) (T := TX7) (N := 25) hx hb hts hinX7 hown h0 hw 0 rfl rfl 22 (by decide) k133 rfl dX7_block_291 ?_
                    refine lv_iload hx hb dX7_block_294 (lv_at hl 0 rfl) ?_
                    refine r_iald hx hb h0 hw 4 rfl (i := t) (by omega) (by omega) dX7_block_296 ?_
                    refine lv_iadd hx hb dX7_block_297 ?_
                    refine lv_aload_n hx hb dX7_block_298 rfl (lv_at hl 1 rfl) ?_
                    refine r_get (ci := 7) (v := .ref (md 16)) (C := RX7) (T := TX7) (N := 25) hx hb hts hinX7 hown h0 hw 0 rfl rfl 16 (by decide) k51 rfl dX7_block_299 ?_
                    refine lv_iload hx hb dX7_block_302 (lv_at hl 0 rfl) ?_
                    refine r_iald hx hb h0 hw 2 rfl (i := t) (by omega) (by omega) dX7_block_304 ?_
                    refine lv_iadd hx hb dX7_block_305 ?_
                    refine lv_topi (fun z19 ez19 => ?_)
                    refine lv_istore (lv' := [(11, .int (z19)), (10, .int (nI t)), (0, .ref (md 25)), (2, .int (va)), (3, .int (vb)), (4, .int (vc)), (5, .int (vd)), (6, .int (ve)), (7, .int (vf)), (8, .int (vg)), (9, .int (vh))]) hx hb dX7_block_306 hl (by decide) rfl (fun ls hl => ?_)
                    refine lv_iload_n hx hb dX7_block_308 rfl (lv_at hl 3 rfl) ?_
                    refine lv_iconst (v := nI 2) hx hb dX7_block_309 (by decide +kernel) ?_
                    refine r_calli (wr := [(md 25, .inr (7, [.ref (md 0), .int (nI op), .ref (md 2), .ref (md 3), .ref (md 4), .ref (md 5), .ref (md 6), .ref (md 7), .ref (md 8), .ref (md 9), .ref (md 10), .ref (md 11), .int (nI on), .ref (md 13), .int (nI inn), .ref (md 15), .ref (md 16), .ref (md 17), .ref (md 18), .ref (md 19), .ref (md 20), .ref (md 21), .ref (md 22), .ref (md 23), .ref (md 24)])), (md 17, .inl (g.2.1 0, 400, .inl (rf))), (md 16, .inl (g.2.1 0, 64, .inl (shW rf fr wf))), (md 15, .inl (g.2.1 0, 8, .inl (sf))), (md 22, .inl (g.2.1 0, 64, .inl (kRW)))]) [] [0, 1, 2, 3, 4] h0 hw rfl rfl (by decide) (by decide) (va_runS (As := [.int (va), .int (nI 2)]) (rest := []) ⟨hx, hb, hml, hown, hts⟩ (c_X7_turned l g va (nI 2)  _) (va_cwS 2 hts gX7_block_X7_turned rfl rfl rfl (by decide +kernel) ⟨Nat.le_of_ble_eq_true rfl, Nat.le_of_ble_eq_true rfl⟩) (preS_of [] [.int (va), .int (nI 2)] h0 hw rfl (by decide)) rfl rfl hl.1 rfl (lv_room (Nat.le_of_ble_eq_true rfl)) dX7_block_310 ⟨Nat.le_of_ble_eq_true rfl, Nat.le_of_ble_eq_true rfl⟩) (fun r20 u21 H locs hp22 hw => ?_)
                    have hw : WD g A s [(md 25, .inr (7, [.ref (md 0), .int (nI op), .ref (md 2), .ref (md 3), .ref (md 4), .ref (md 5), .ref (md 6), .ref (md 7), .ref (md 8), .ref (md 9), .ref (md 10), .ref (md 11), .int (nI on), .ref (md 13), .int (nI inn), .ref (md 15), .ref (md 16), .ref (md 17), .ref (md 18), .ref (md 19), .ref (md 20), .ref (md 21), .ref (md 22), .ref (md 23), .ref (md 24)])), (md 17, .inl (g.2.1 0, 400, .inl (rf))), (md 16, .inl (g.2.1 0, 64, .inl (shW rf fr wf))), (md 15, .inl (g.2.1 0, 8, .inl (sf))), (md 22, .inl (g.2.1 0, 64, .inl (kRW)))] [] H locs := hw
                    subst hp22
                    refine lv_iload_n hx hb dX7_block_313 rfl (lv_at hl 3 rfl) ?_
                    refine lv_bipush (v := nI 13) hx hb dX7_block_314 (by decide +kernel) ?_
                    refine r_calli (wr := [(md 25, .inr (7, [.ref (md 0), .int (nI op), .ref (md 2), .ref (md 3), .ref (md 4), .ref (md 5), .ref (md 6), .ref (md 7), .ref (md 8), .ref (md 9), .ref (md 10), .ref (md 11), .int (nI on), .ref (md 13), .int (nI inn), .ref (md 15), .ref (md 16), .ref (md 17), .ref (md 18), .ref (md 19), .ref (md 20), .ref (md 21), .ref (md 22), .ref (md 23), .ref (md 24)])), (md 17, .inl (g.2.1 0, 400, .inl (rf))), (md 16, .inl (g.2.1 0, 64, .inl (shW rf fr wf))), (md 15, .inl (g.2.1 0, 8, .inl (sf))), (md 22, .inl (g.2.1 0, 64, .inl (kRW)))]) [] [0, 1, 2, 3, 4] h0 hw rfl rfl (by decide) (by decide) (va_runS (As := [.int (va), .int (nI 13)]) (rest := [.int (rotr va (nI 2))]) ⟨hx, hb, hml, hown, hts⟩ (c_X7_turned l g va (nI 13)  _) (va_cwS 2 hts gX7_block_X7_turned rfl rfl rfl (by decide +kernel) ⟨Nat.le_of_ble_eq_true rfl, Nat.le_of_ble_eq_true rfl⟩) (preS_of [] [.int (va), .int (nI 13)] h0 hw rfl (by decide)) rfl rfl hl.1 rfl (lv_room (Nat.le_of_ble_eq_true rfl)) dX7_block_316 ⟨Nat.le_of_ble_eq_true rfl, Nat.le_of_ble_eq_true rfl⟩) (fun r23 u24 H locs hp25 hw => ?_)
                    have hw : WD g A s [(md 25, .inr (7, [.ref (md 0), .int (nI op), .ref (md 2), .ref (md 3), .ref (md 4), .ref (md 5), .ref (md 6), .ref (md 7), .ref (md 8), .ref (md 9), .ref (md 10), .ref (md 11), .int (nI on), .ref (md 13), .int (nI inn), .ref (md 15), .ref (md 16), .ref (md 17), .ref (md 18), .ref (md 19), .ref (md 20), .ref (md 21), .ref (md 22), .ref (md 23), .ref (md 24)])), (md 17, .inl (g.2.1 0, 400, .inl (rf))), (md 16, .inl (g.2.1 0, 64, .inl (shW rf fr wf))), (md 15, .inl (g.2.1 0, 8, .inl (sf))), (md 22, .inl (g.2.1 0, 64, .inl (kRW)))] [] H locs := hw
                    subst hp25
                    refine lv_ixor hx hb dX7_block_319 ?_
                    refine lv_iload_n hx hb dX7_block_320 rfl (lv_at hl 3 rfl) ?_
                    refine lv_bipush (v := nI 22) hx hb dX7_block_321 (by decide +kernel) ?_
                    refine r_calli (wr := [(md 25, .inr (7, [.ref (md 0), .int (nI op), .ref (md 2), .ref (md 3), .ref (md 4), .ref (md 5), .ref (md 6), .ref (md 7), .ref (md 8), .ref (md 9), .ref (md 10), .ref (md 11), .int (nI on), .ref (md 13), .int (nI inn), .ref (md 15), .ref (md 16), .ref (md 17), .ref (md 18), .ref (md 19), .ref (md 20), .ref (md 21), .ref (md 22), .ref (md 23), .ref (md 24)])), (md 17, .inl (g.2.1 0, 400, .inl (rf))), (md 16, .inl (g.2.1 0, 64, .inl (shW rf fr wf))), (md 15, .inl (g.2.1 0, 8, .inl (sf))), (md 22, .inl (g.2.1 0, 64, .inl (kRW)))]) [] [0, 1, 2, 3, 4] h0 hw rfl rfl (by decide) (by decide) (va_runS (As := [.int (va), .int (nI 22)]) (rest := [.int ((rotr va (nI 2)) ^^^ (rotr va (nI 13)))]) ⟨hx, hb, hml, hown, hts⟩ (c_X7_turned l g va (nI 22)  _) (va_cwS 2 hts gX7_block_X7_turned rfl rfl rfl (by decide +kernel) ⟨Nat.le_of_ble_eq_true rfl, Nat.le_of_ble_eq_true rfl⟩) (preS_of [] [.int (va), .int (nI 22)] h0 hw rfl (by decide)) rfl rfl hl.1 rfl (lv_room (Nat.le_of_ble_eq_true rfl)) dX7_block_323 ⟨Nat.le_of_ble_eq_true rfl, Nat.le_of_ble_eq_true rfl⟩) (fun r26 u27 H locs hp28 hw => ?_)
                    have hw : WD g A s [(md 25, .inr (7, [.ref (md 0), .int (nI op), .ref (md 2), .ref (md 3), .ref (md 4), .ref (md 5), .ref (md 6), .ref (md 7), .ref (md 8), .ref (md 9), .ref (md 10), .ref (md 11), .int (nI on), .ref (md 13), .int (nI inn), .ref (md 15), .ref (md 16), .ref (md 17), .ref (md 18), .ref (md 19), .ref (md 20), .ref (md 21), .ref (md 22), .ref (md 23), .ref (md 24)])), (md 17, .inl (g.2.1 0, 400, .inl (rf))), (md 16, .inl (g.2.1 0, 64, .inl (shW rf fr wf))), (md 15, .inl (g.2.1 0, 8, .inl (sf))), (md 22, .inl (g.2.1 0, 64, .inl (kRW)))] [] H locs := hw
                    subst hp28
                    refine lv_ixor hx hb dX7_block_326 ?_
                    refine lv_iload_n hx hb dX7_block_327 rfl (lv_at hl 3 rfl) ?_
                    refine lv_iload_n hx hb dX7_block_328 rfl (lv_at hl 4 rfl) ?_
                    refine lv_iand hx hb dX7_block_329 ?_
                    refine lv_iload_n hx hb dX7_block_330 rfl (lv_at hl 3 rfl) ?_
                    refine lv_iload hx hb dX7_block_331 (lv_at hl 5 rfl) ?_
                    refine lv_iand hx hb dX7_block_333 ?_
                    refine lv_ixor hx hb dX7_block_334 ?_
                    refine lv_iload_n hx hb dX7_block_335 rfl (lv_at hl 4 rfl) ?_
                    refine lv_iload hx hb dX7_block_336 (lv_at hl 5 rfl) ?_
                    refine lv_iand hx hb dX7_block_338 ?_
                    refine lv_ixor hx hb dX7_block_339 ?_
                    refine lv_iadd hx hb dX7_block_340 ?_
                    refine lv_topi (fun z29 ez29 => ?_)
                    refine lv_istore (lv' := [(12, .int (z29)), (11, .int (z19)), (10, .int (nI t)), (0, .ref (md 25)), (2, .int (va)), (3, .int (vb)), (4, .int (vc)), (5, .int (vd)), (6, .int (ve)), (7, .int (vf)), (8, .int (vg)), (9, .int (vh))]) hx hb dX7_block_341 hl (by decide) rfl (fun ls hl => ?_)
                    refine lv_iload hx hb dX7_block_343 (lv_at hl 10 rfl) ?_
                    refine lv_istore (lv' := [(9, .int (vg)), (12, .int (z29)), (11, .int (z19)), (10, .int (nI t)), (0, .ref (md 25)), (2, .int (va)), (3, .int (vb)), (4, .int (vc)), (5, .int (vd)), (6, .int (ve)), (7, .int (vf)), (8, .int (vg))]) hx hb dX7_block_345 hl (by decide) rfl (fun ls hl => ?_)
                    refine lv_iload hx hb dX7_block_347 (lv_at hl 10 rfl) ?_
                    refine lv_istore (lv' := [(8, .int (vf)), (9, .int (vg)), (12, .int (z29)), (11, .int (z19)), (10, .int (nI t)), (0, .ref (md 25)), (2, .int (va)), (3, .int (vb)), (4, .int (vc)), (5, .int (vd)), (6, .int (ve)), (7, .int (vf))]) hx hb dX7_block_349 hl (by decide) rfl (fun ls hl => ?_)
                    refine lv_iload hx hb dX7_block_351 (lv_at hl 10 rfl) ?_
                    refine lv_istore (lv' := [(7, .int (ve)), (8, .int (vf)), (9, .int (vg)), (12, .int (z29)), (11, .int (z19)), (10, .int (nI t)), (0, .ref (md 25)), (2, .int (va)), (3, .int (vb)), (4, .int (vc)), (5, .int (vd)), (6, .int (ve))]) hx hb dX7_block_353 hl (by decide) rfl (fun ls hl => ?_)
                    refine lv_iload hx hb dX7_block_355 (lv_at hl 10 rfl) ?_
                    refine lv_iload hx hb dX7_block_357 (lv_at hl 4 rfl) ?_
                    refine lv_iadd hx hb dX7_block_359 ?_
                    refine lv_istore (lv' := [(6, .int (vd + z19)), (7, .int (ve)), (8, .int (vf)), (9, .int (vg)), (12, .int (z29)), (11, .int (z19)), (10, .int (nI t)), (0, .ref (md 25)), (2, .int (va)), (3, .int (vb)), (4, .int (vc)), (5, .int (vd))]) hx hb dX7_block_360 hl (by decide) rfl (fun ls hl => ?_)
                    refine lv_iload hx hb dX7_block_362 (lv_at hl 10 rfl) ?_
                    refine lv_istore (lv' := [(5, .int (vc)), (6, .int (vd + z19)), (7, .int (ve)), (8, .int (vf)), (9, .int (vg)), (12, .int (z29)), (11, .int (z19)), (10, .int (nI t)), (0, .ref (md 25)), (2, .int (va)), (3, .int (vb)), (4, .int (vc))]) hx hb dX7_block_364 hl (by decide) rfl (fun ls hl => ?_)
                    refine lv_iload_n hx hb dX7_block_366 rfl (lv_at hl 10 rfl) ?_
                    refine lv_istore (lv' := [(4, .int (vb)), (5, .int (vc)), (6, .int (vd + z19)), (7, .int (ve)), (8, .int (vf)), (9, .int (vg)), (12, .int (z29)), (11, .int (z19)), (10, .int (nI t)), (0, .ref (md 25)), (2, .int (va)), (3, .int (vb))]) hx hb dX7_block_367 hl (by decide) rfl (fun ls hl => ?_)
                    refine lv_iload_n hx hb dX7_block_369 rfl (lv_at hl 10 rfl) ?_
                    refine lv_istore_n (lv' := [(3, .int (va)), (4, .int (vb)), (5, .int (vc)), (6, .int (vd + z19)), (7, .int (ve)), (8, .int (vf)), (9, .int (vg)), (12, .int (z29)), (11, .int (z19)), (10, .int (nI t)), (0, .ref (md 25)), (2, .int (va))]) hx hb dX7_block_370 rfl hl (by decide) rfl (fun ls hl => ?_)
                    refine lv_iload hx hb dX7_block_371 (lv_at hl 8 rfl) ?_
                    refine lv_iload hx hb dX7_block_373 (lv_at hl 7 rfl) ?_
                    refine lv_iadd hx hb dX7_block_375 ?_
                    refine lv_istore_n (lv' := [(2, .int (z19 + z29)), (3, .int (va)), (4, .int (vb)), (5, .int (vc)), (6, .int (vd + z19)), (7, .int (ve)), (8, .int (vf)), (9, .int (vg)), (12, .int (z29)), (11, .int (z19)), (10, .int (nI t)), (0, .ref (md 25))]) hx hb dX7_block_376 rfl hl (by decide) rfl (fun ls hl => ?_)
                    refine lv_iinc (v := nI (t + 1)) (lv' := [(10, .int (nI (t + 1))), (2, .int (z19 + z29)), (3, .int (va)), (4, .int (vb)), (5, .int (vc)), (6, .int (vd + z19)), (7, .int (ve)), (8, .int (vf)), (9, .int (vg)), (12, .int (z29)), (11, .int (z19)), (0, .ref (md 25))]) hx hb dX7_block_377 hl (k := 10) rfl (nI_add t 1) (by decide) rfl (fun ls hl => ?_)
                    refine lv_goto (tgt := 243) hx hb dX7_block_380 (by decide) ?_
                    subst ez29
                    subst ez19
                    exact ih (t + 1) (((((vh + (((rotr ve (nI 6)) ^^^ (rotr ve (nI 11))) ^^^ (rotr ve (nI 25)))) + ((ve &&& vf) ^^^ ((ve ^^^ (-1)) &&& vg))) + (kRW t)) + ((shW rf fr wf) t)) + ((((rotr va (nI 2)) ^^^ (rotr va (nI 13))) ^^^ (rotr va (nI 22))) + (((va &&& vb) ^^^ (va &&& vc)) ^^^ (vb &&& vc)))) va vb vc (vd + ((((vh + (((rotr ve (nI 6)) ^^^ (rotr ve (nI 11))) ^^^ (rotr ve (nI 25)))) + ((ve &&& vf) ^^^ ((ve ^^^ (-1)) &&& vg))) + (kRW t)) + ((shW rf fr wf) t))) ve vf vg (by omega) (by omega) (by show shR (shI (tup sf) (shW rf fr wf) t) (kRW t) (shW rf fr wf t) = _; rw [hI]; rfl) _ _ _ hw (lv_sub hl [0, 11, 1, 2, 3, 4, 5, 6, 7, 8] rfl)
              exact lp243 (64 - 0 + 1) 0 (sf 0) (sf 1) (sf 2) (sf 3) (sf 4) (sf 5) (sf 6) (sf 7) (by omega) (by omega) (rfl) _ _ _ hw (lv_sub hl [0, 9, 8, 7, 6, 5, 4, 3, 2, 1] rfl)
            · skip
              have c4 : ¬ 64 ≤ (16 + t) := fun q => c4 (((nI_leI (by omega) (by omega)).mpr q))
              refine lv_aload_n hx hb dX7_block_77 rfl (lv_at hl 1 rfl) ?_
              refine r_get (ci := 7) (v := .ref (md 16)) (C := RX7) (T := TX7) (N := 25) hx hb hts hinX7 hown h0 hw 0 rfl rfl 16 (by decide) k51 rfl dX7_block_78 ?_
              refine lv_iload_n hx hb dX7_block_81 rfl (lv_at hl 0 rfl) ?_
              refine lv_bipush (v := nI 15) hx hb dX7_block_82 (by decide +kernel) ?_
              refine lv_isub hx hb dX7_block_84 ?_
              refine r_te (y := nI (16 + t - 15)) (pk_sub (by omega)) ?_
              refine r_iald hx hb h0 hw 2 rfl (i := 16 + t - 15) (by omega) (by omega) dX7_block_85 ?_
              refine lv_istore_n (lv' := [(3, .int ((shG (shF rf fr wf 16) t) (16 + t - 15))), (2, .int (nI (16 + t))), (0, .ref (md 25))]) hx hb dX7_block_86 rfl hl (by decide) rfl (fun ls hl => ?_)
              refine lv_aload_n hx hb dX7_block_87 rfl (lv_at hl 2 rfl) ?_
              refine r_get (ci := 7) (v := .ref (md 16)) (C := RX7) (T := TX7) (N := 25) hx hb hts hinX7 hown h0 hw 0 rfl rfl 16 (by decide) k51 rfl dX7_block_88 ?_
              refine lv_iload_n hx hb dX7_block_91 rfl (lv_at hl 1 rfl) ?_
              refine lv_iconst (v := nI 2) hx hb dX7_block_92 (by decide +kernel) ?_
              refine lv_isub hx hb dX7_block_93 ?_
              refine r_te (y := nI (16 + t - 2)) (pk_sub (by omega)) ?_
              refine r_iald hx hb h0 hw 2 rfl (i := 16 + t - 2) (by omega) (by omega) dX7_block_94 ?_
              refine lv_istore (lv' := [(4, .int ((shG (shF rf fr wf 16) t) (16 + t - 2))), (3, .int ((shG (shF rf fr wf 16) t) (16 + t - 15))), (2, .int (nI (16 + t))), (0, .ref (md 25))]) hx hb dX7_block_95 hl (by decide) rfl (fun ls hl => ?_)
              refine lv_iload_n hx hb dX7_block_97 rfl (lv_at hl 1 rfl) ?_
              refine lv_bipush (v := nI 7) hx hb dX7_block_98 (by decide +kernel) ?_
              refine r_calli (wr := [(md 25, .inr (7, [.ref (md 0), .int (nI op), .ref (md 2), .ref (md 3), .ref (md 4), .ref (md 5), .ref (md 6), .ref (md 7), .ref (md 8), .ref (md 9), .ref (md 10), .ref (md 11), .int (nI on), .ref (md 13), .int (nI inn), .ref (md 15), .ref (md 16), .ref (md 17), .ref (md 18), .ref (md 19), .ref (md 20), .ref (md 21), .ref (md 22), .ref (md 23), .ref (md 24)])), (md 17, .inl (g.2.1 0, 400, .inl (rf))), (md 16, .inl (g.2.1 0, 64, .inl (shG (shF rf fr wf 16) t))), (md 15, .inl (g.2.1 0, 8, .inl (sf))), (md 22, .inl (g.2.1 0, 64, .inl (kRW)))]) [] [0, 1, 2, 3, 4] h0 hw rfl rfl (by decide) (by decide) (va_runS (As := [.int ((shG (shF rf fr wf 16) t) (16 + t - 15)), .int (nI 7)]) (rest := []) ⟨hx, hb, hml, hown, hts⟩ (c_X7_turned l g ((shG (shF rf fr wf 16) t) (16 + t - 15)) (nI 7)  _) (va_cwS 2 hts gX7_block_X7_turned rfl rfl rfl (by decide +kernel) ⟨Nat.le_of_ble_eq_true rfl, Nat.le_of_ble_eq_true rfl⟩) (preS_of [] [.int ((shG (shF rf fr wf 16) t) (16 + t - 15)), .int (nI 7)] h0 hw rfl (by decide)) rfl rfl hl.1 rfl (lv_room (Nat.le_of_ble_eq_true rfl)) dX7_block_100 ⟨Nat.le_of_ble_eq_true rfl, Nat.le_of_ble_eq_true rfl⟩) (fun r30 u31 H locs hp32 hw => ?_)
              have hw : WD g A s [(md 25, .inr (7, [.ref (md 0), .int (nI op), .ref (md 2), .ref (md 3), .ref (md 4), .ref (md 5), .ref (md 6), .ref (md 7), .ref (md 8), .ref (md 9), .ref (md 10), .ref (md 11), .int (nI on), .ref (md 13), .int (nI inn), .ref (md 15), .ref (md 16), .ref (md 17), .ref (md 18), .ref (md 19), .ref (md 20), .ref (md 21), .ref (md 22), .ref (md 23), .ref (md 24)])), (md 17, .inl (g.2.1 0, 400, .inl (rf))), (md 16, .inl (g.2.1 0, 64, .inl (shG (shF rf fr wf 16) t))), (md 15, .inl (g.2.1 0, 8, .inl (sf))), (md 22, .inl (g.2.1 0, 64, .inl (kRW)))] [] H locs := hw
              subst hp32
              refine lv_iload_n hx hb dX7_block_103 rfl (lv_at hl 1 rfl) ?_
              refine lv_bipush (v := nI 18) hx hb dX7_block_104 (by decide +kernel) ?_
              refine r_calli (wr := [(md 25, .inr (7, [.ref (md 0), .int (nI op), .ref (md 2), .ref (md 3), .ref (md 4), .ref (md 5), .ref (md 6), .ref (md 7), .ref (md 8), .ref (md 9), .ref (md 10), .ref (md 11), .int (nI on), .ref (md 13), .int (nI inn), .ref (md 15), .ref (md 16), .ref (md 17), .ref (md 18), .ref (md 19), .ref (md 20), .ref (md 21), .ref (md 22), .ref (md 23), .ref (md 24)])), (md 17, .inl (g.2.1 0, 400, .inl (rf))), (md 16, .inl (g.2.1 0, 64, .inl (shG (shF rf fr wf 16) t))), (md 15, .inl (g.2.1 0, 8, .inl (sf))), (md 22, .inl (g.2.1 0, 64, .inl (kRW)))]) [] [0, 1, 2, 3, 4] h0 hw rfl rfl (by decide) (by decide) (va_runS (As := [.int ((shG (shF rf fr wf 16) t) (16 + t - 15)), .int (nI 18)]) (rest := [.int (rotr ((shG (shF rf fr wf 16) t) (16 + t - 15)) (nI 7))]) ⟨hx, hb, hml, hown, hts⟩ (c_X7_turned l g ((shG (shF rf fr wf 16) t) (16 + t - 15)) (nI 18)  _) (va_cwS 2 hts gX7_block_X7_turned rfl rfl rfl (by decide +kernel) ⟨Nat.le_of_ble_eq_true rfl, Nat.le_of_ble_eq_true rfl⟩) (preS_of [] [.int ((shG (shF rf fr wf 16) t) (16 + t - 15)), .int (nI 18)] h0 hw rfl (by decide)) rfl rfl hl.1 rfl (lv_room (Nat.le_of_ble_eq_true rfl)) dX7_block_106 ⟨Nat.le_of_ble_eq_true rfl, Nat.le_of_ble_eq_true rfl⟩) (fun r33 u34 H locs hp35 hw => ?_)
              have hw : WD g A s [(md 25, .inr (7, [.ref (md 0), .int (nI op), .ref (md 2), .ref (md 3), .ref (md 4), .ref (md 5), .ref (md 6), .ref (md 7), .ref (md 8), .ref (md 9), .ref (md 10), .ref (md 11), .int (nI on), .ref (md 13), .int (nI inn), .ref (md 15), .ref (md 16), .ref (md 17), .ref (md 18), .ref (md 19), .ref (md 20), .ref (md 21), .ref (md 22), .ref (md 23), .ref (md 24)])), (md 17, .inl (g.2.1 0, 400, .inl (rf))), (md 16, .inl (g.2.1 0, 64, .inl (shG (shF rf fr wf 16) t))), (md 15, .inl (g.2.1 0, 8, .inl (sf))), (md 22, .inl (g.2.1 0, 64, .inl (kRW)))] [] H locs := hw
              subst hp35
              refine lv_ixor hx hb dX7_block_109 ?_
              refine lv_iload_n hx hb dX7_block_110 rfl (lv_at hl 1 rfl) ?_
              refine lv_iconst (v := nI 3) hx hb dX7_block_111 (by decide +kernel) ?_
              refine lv_iushr (v := jushr ((shG (shF rf fr wf 16) t) (16 + t - 15)) (nI 3)) hx hb dX7_block_112 rfl ?_
              refine lv_ixor hx hb dX7_block_113 ?_
              refine lv_topi (fun z36 ez36 => ?_)
              refine lv_istore (lv' := [(5, .int (z36)), (4, .int ((shG (shF rf fr wf 16) t) (16 + t - 2))), (3, .int ((shG (shF rf fr wf 16) t) (16 + t - 15))), (2, .int (nI (16 + t))), (0, .ref (md 25))]) hx hb dX7_block_114 hl (by decide) rfl (fun ls hl => ?_)
              refine lv_iload hx hb dX7_block_116 (lv_at hl 1 rfl) ?_
              refine lv_bipush (v := nI 17) hx hb dX7_block_118 (by decide +kernel) ?_
              refine r_calli (wr := [(md 25, .inr (7, [.ref (md 0), .int (nI op), .ref (md 2), .ref (md 3), .ref (md 4), .ref (md 5), .ref (md 6), .ref (md 7), .ref (md 8), .ref (md 9), .ref (md 10), .ref (md 11), .int (nI on), .ref (md 13), .int (nI inn), .ref (md 15), .ref (md 16), .ref (md 17), .ref (md 18), .ref (md 19), .ref (md 20), .ref (md 21), .ref (md 22), .ref (md 23), .ref (md 24)])), (md 17, .inl (g.2.1 0, 400, .inl (rf))), (md 16, .inl (g.2.1 0, 64, .inl (shG (shF rf fr wf 16) t))), (md 15, .inl (g.2.1 0, 8, .inl (sf))), (md 22, .inl (g.2.1 0, 64, .inl (kRW)))]) [] [0, 1, 2, 3, 4] h0 hw rfl rfl (by decide) (by decide) (va_runS (As := [.int ((shG (shF rf fr wf 16) t) (16 + t - 2)), .int (nI 17)]) (rest := []) ⟨hx, hb, hml, hown, hts⟩ (c_X7_turned l g ((shG (shF rf fr wf 16) t) (16 + t - 2)) (nI 17)  _) (va_cwS 2 hts gX7_block_X7_turned rfl rfl rfl (by decide +kernel) ⟨Nat.le_of_ble_eq_true rfl, Nat.le_of_ble_eq_true rfl⟩) (preS_of [] [.int ((shG (shF rf fr wf 16) t) (16 + t - 2)), .int (nI 17)] h0 hw rfl (by decide)) rfl rfl hl.1 rfl (lv_room (Nat.le_of_ble_eq_true rfl)) dX7_block_120 ⟨Nat.le_of_ble_eq_true rfl, Nat.le_of_ble_eq_true rfl⟩) (fun r37 u38 H locs hp39 hw => ?_)
              have hw : WD g A s [(md 25, .inr (7, [.ref (md 0), .int (nI op), .ref (md 2), .ref (md 3), .ref (md 4), .ref (md 5), .ref (md 6), .ref (md 7), .ref (md 8), .ref (md 9), .ref (md 10), .ref (md 11), .int (nI on), .ref (md 13), .int (nI inn), .ref (md 15), .ref (md 16), .ref (md 17), .ref (md 18), .ref (md 19), .ref (md 20), .ref (md 21), .ref (md 22), .ref (md 23), .ref (md 24)])), (md 17, .inl (g.2.1 0, 400, .inl (rf))), (md 16, .inl (g.2.1 0, 64, .inl (shG (shF rf fr wf 16) t))), (md 15, .inl (g.2.1 0, 8, .inl (sf))), (md 22, .inl (g.2.1 0, 64, .inl (kRW)))] [] H locs := hw
              subst hp39
              refine lv_iload hx hb dX7_block_123 (lv_at hl 1 rfl) ?_
              refine lv_bipush (v := nI 19) hx hb dX7_block_125 (by decide +kernel) ?_
              refine r_calli (wr := [(md 25, .inr (7, [.ref (md 0), .int (nI op), .ref (md 2), .ref (md 3), .ref (md 4), .ref (md 5), .ref (md 6), .ref (md 7), .ref (md 8), .ref (md 9), .ref (md 10), .ref (md 11), .int (nI on), .ref (md 13), .int (nI inn), .ref (md 15), .ref (md 16), .ref (md 17), .ref (md 18), .ref (md 19), .ref (md 20), .ref (md 21), .ref (md 22), .ref (md 23), .ref (md 24)])), (md 17, .inl (g.2.1 0, 400, .inl (rf))), (md 16, .inl (g.2.1 0, 64, .inl (shG (shF rf fr wf 16) t))), (md 15, .inl (g.2.1 0, 8, .inl (sf))), (md 22, .inl (g.2.1 0, 64, .inl (kRW)))]) [] [0, 1, 2, 3, 4] h0 hw rfl rfl (by decide) (by decide) (va_runS (As := [.int ((shG (shF rf fr wf 16) t) (16 + t - 2)), .int (nI 19)]) (rest := [.int (rotr ((shG (shF rf fr wf 16) t) (16 + t - 2)) (nI 17))]) ⟨hx, hb, hml, hown, hts⟩ (c_X7_turned l g ((shG (shF rf fr wf 16) t) (16 + t - 2)) (nI 19)  _) (va_cwS 2 hts gX7_block_X7_turned rfl rfl rfl (by decide +kernel) ⟨Nat.le_of_ble_eq_true rfl, Nat.le_of_ble_eq_true rfl⟩) (preS_of [] [.int ((shG (shF rf fr wf 16) t) (16 + t - 2)), .int (nI 19)] h0 hw rfl (by decide)) rfl rfl hl.1 rfl (lv_room (Nat.le_of_ble_eq_true rfl)) dX7_block_127 ⟨Nat.le_of_ble_eq_true rfl, Nat.le_of_ble_eq_true rfl⟩) (fun r40 u41 H locs hp42 hw => ?_)
              have hw : WD g A s [(md 25, .inr (7, [.ref (md 0), .int (nI op), .ref (md 2), .ref (md 3), .ref (md 4), .ref (md 5), .ref (md 6), .ref (md 7), .ref (md 8), .ref (md 9), .ref (md 10), .ref (md 11), .int (nI on), .ref (md 13), .int (nI inn), .ref (md 15), .ref (md 16), .ref (md 17), .ref (md 18), .ref (md 19), .ref (md 20), .ref (md 21), .ref (md 22), .ref (md 23), .ref (md 24)])), (md 17, .inl (g.2.1 0, 400, .inl (rf))), (md 16, .inl (g.2.1 0, 64, .inl (shG (shF rf fr wf 16) t))), (md 15, .inl (g.2.1 0, 8, .inl (sf))), (md 22, .inl (g.2.1 0, 64, .inl (kRW)))] [] H locs := hw
              subst hp42
              refine lv_ixor hx hb dX7_block_130 ?_
              refine lv_iload hx hb dX7_block_131 (lv_at hl 1 rfl) ?_
              refine lv_bipush (v := nI 10) hx hb dX7_block_133 (by decide +kernel) ?_
              refine lv_iushr (v := jushr ((shG (shF rf fr wf 16) t) (16 + t - 2)) (nI 10)) hx hb dX7_block_135 rfl ?_
              refine lv_ixor hx hb dX7_block_136 ?_
              refine lv_topi (fun z43 ez43 => ?_)
              refine lv_istore (lv' := [(6, .int (z43)), (5, .int (z36)), (4, .int ((shG (shF rf fr wf 16) t) (16 + t - 2))), (3, .int ((shG (shF rf fr wf 16) t) (16 + t - 15))), (2, .int (nI (16 + t))), (0, .ref (md 25))]) hx hb dX7_block_137 hl (by decide) rfl (fun ls hl => ?_)
              refine lv_aload_n hx hb dX7_block_139 rfl (lv_at hl 5 rfl) ?_
              refine r_get (ci := 7) (v := .ref (md 16)) (C := RX7) (T := TX7) (N := 25) hx hb hts hinX7 hown h0 hw 0 rfl rfl 16 (by decide) k51 rfl dX7_block_140 ?_
              refine lv_iload_n hx hb dX7_block_143 rfl (lv_at hl 4 rfl) ?_
              refine lv_aload_n hx hb dX7_block_144 rfl (lv_at hl 5 rfl) ?_
              refine r_get (ci := 7) (v := .ref (md 16)) (C := RX7) (T := TX7) (N := 25) hx hb hts hinX7 hown h0 hw 0 rfl rfl 16 (by decide) k51 rfl dX7_block_145 ?_
              refine lv_iload_n hx hb dX7_block_148 rfl (lv_at hl 4 rfl) ?_
              refine lv_bipush (v := nI 16) hx hb dX7_block_149 (by decide +kernel) ?_
              refine lv_isub hx hb dX7_block_151 ?_
              refine r_te (y := nI (16 + t - 16)) (pk_sub (by omega)) ?_
              refine r_iald hx hb h0 hw 2 rfl (i := 16 + t - 16) (by omega) (by omega) dX7_block_152 ?_
              refine lv_iload hx hb dX7_block_153 (lv_at hl 1 rfl) ?_
              refine lv_iadd hx hb dX7_block_155 ?_
              refine lv_aload_n hx hb dX7_block_156 rfl (lv_at hl 5 rfl) ?_
              refine r_get (ci := 7) (v := .ref (md 16)) (C := RX7) (T := TX7) (N := 25) hx hb hts hinX7 hown h0 hw 0 rfl rfl 16 (by decide) k51 rfl dX7_block_157 ?_
              refine lv_iload_n hx hb dX7_block_160 rfl (lv_at hl 4 rfl) ?_
              refine lv_bipush (v := nI 7) hx hb dX7_block_161 (by decide +kernel) ?_
              refine lv_isub hx hb dX7_block_163 ?_
              refine r_te (y := nI (16 + t - 7)) (pk_sub (by omega)) ?_
              refine r_iald hx hb h0 hw 2 rfl (i := 16 + t - 7) (by omega) (by omega) dX7_block_164 ?_
              refine lv_iadd hx hb dX7_block_165 ?_
              refine lv_iload hx hb dX7_block_166 (lv_at hl 0 rfl) ?_
              refine lv_iadd hx hb dX7_block_168 ?_
              subst ez43
              subst ez36
              refine r_te (y := shNew (shG (shF rf fr wf 16) t) (16 + t)) (shNew_alt _ _) ?_
              refine r_iast hx hb h0 hw 2 rfl (i := 16 + t) (by omega) (by omega) dX7_block_169 (fun H locs hw => ?_)
              have hw : WD g A s [(md 25, .inr (7, [.ref (md 0), .int (nI op), .ref (md 2), .ref (md 3), .ref (md 4), .ref (md 5), .ref (md 6), .ref (md 7), .ref (md 8), .ref (md 9), .ref (md 10), .ref (md 11), .int (nI on), .ref (md 13), .int (nI inn), .ref (md 15), .ref (md 16), .ref (md 17), .ref (md 18), .ref (md 19), .ref (md 20), .ref (md 21), .ref (md 22), .ref (md 23), .ref (md 24)])), (md 17, .inl (g.2.1 0, 400, .inl (rf))), (md 16, .inl (g.2.1 0, 64, .inl (upd (shG (shF rf fr wf 16) t) (16 + t) (shNew (shG (shF rf fr wf 16) t) (16 + t))))), (md 15, .inl (g.2.1 0, 8, .inl (sf))), (md 22, .inl (g.2.1 0, 64, .inl (kRW)))] [] H locs := hw
              refine lv_iinc (v := nI (16 + t + 1)) (lv' := [(2, .int (nI (16 + t + 1))), (6, .int (((rotr ((shG (shF rf fr wf 16) t) (16 + t - 2)) (nI 17)) ^^^ (rotr ((shG (shF rf fr wf 16) t) (16 + t - 2)) (nI 19))) ^^^ (jushr ((shG (shF rf fr wf 16) t) (16 + t - 2)) (nI 10)))), (5, .int (((rotr ((shG (shF rf fr wf 16) t) (16 + t - 15)) (nI 7)) ^^^ (rotr ((shG (shF rf fr wf 16) t) (16 + t - 15)) (nI 18))) ^^^ (jushr ((shG (shF rf fr wf 16) t) (16 + t - 15)) (nI 3)))), (4, .int ((shG (shF rf fr wf 16) t) (16 + t - 2))), (3, .int ((shG (shF rf fr wf 16) t) (16 + t - 15))), (0, .ref (md 25))]) hx hb dX7_block_170 hl (k := 4) rfl (nI_add (16 + t) 1) (by decide) rfl (fun ls hl => ?_)
              refine lv_goto (tgt := 71) hx hb dX7_block_173 (by decide) ?_
              exact ih (t + 1) (by omega) (by omega) _ _ _ hw (lv_sub hl [0, 5] rfl)
        exact lp71 (48 - 0 + 1) 0 (by omega) (by omega) _ _ _ hw (lv_sub hl [0, 1] rfl)
      · skip
        have c1 : ¬ 16 ≤ t := fun q => c1 (((nI_leI (by omega) (by omega)).mpr q))
        refine lv_iload_n hx hb dX7_block_8 rfl (lv_at hl 2 rfl) ?_
        refine lv_iconst (v := nI 4) hx hb dX7_block_9 (by decide +kernel) ?_
        refine lv_iload_n hx hb dX7_block_10 rfl (lv_at hl 0 rfl) ?_
        refine lv_imul hx hb dX7_block_11 ?_
        refine r_te (y := nI (4 * t)) (pk_mul 4 t) ?_
        refine lv_iadd hx hb dX7_block_12 ?_
        refine r_te (y := nI (fr + (4 * t))) (nI_add fr (4 * t)) ?_
        refine lv_istore_n (lv' := [(3, .int (nI (fr + (4 * t)))), (2, .int (nI t)), (0, .ref (md 25)), (1, .int (nI fr))]) hx hb dX7_block_13 rfl hl (by decide) rfl (fun ls hl => ?_)
        refine lv_aload_n hx hb dX7_block_14 rfl (lv_at hl 2 rfl) ?_
        refine r_get (ci := 7) (v := .ref (md 16)) (C := RX7) (T := TX7) (N := 25) hx hb hts hinX7 hown h0 hw 0 rfl rfl 16 (by decide) k51 rfl dX7_block_15 ?_
        refine lv_iload_n hx hb dX7_block_18 rfl (lv_at hl 1 rfl) ?_
        refine lv_aload_n hx hb dX7_block_19 rfl (lv_at hl 2 rfl) ?_
        refine r_get (ci := 7) (v := .ref (md 17)) (C := RX7) (T := TX7) (N := 25) hx hb hts hinX7 hown h0 hw 0 rfl rfl 17 (by decide) k54 rfl dX7_block_20 ?_
        refine lv_iload_n hx hb dX7_block_23 rfl (lv_at hl 0 rfl) ?_
        refine r_iald hx hb h0 hw 1 rfl (i := fr + (4 * t)) (by omega) (by omega) dX7_block_24 ?_
        refine lv_bipush (v := nI 24) hx hb dX7_block_25 (by decide +kernel) ?_
        refine lv_ishl hx hb dX7_block_27 ?_
        refine r_te (y := jshl (rf (fr + (4 * t))) (nI 24)) rfl ?_
        refine lv_aload_n hx hb dX7_block_28 rfl (lv_at hl 2 rfl) ?_
        refine r_get (ci := 7) (v := .ref (md 17)) (C := RX7) (T := TX7) (N := 25) hx hb hts hinX7 hown h0 hw 0 rfl rfl 17 (by decide) k54 rfl dX7_block_29 ?_
        refine lv_iload_n hx hb dX7_block_32 rfl (lv_at hl 0 rfl) ?_
        refine lv_iconst (v := nI 1) hx hb dX7_block_33 (by decide +kernel) ?_
        refine lv_iadd hx hb dX7_block_34 ?_
        refine r_te (y := nI (fr + (4 * t) + 1)) (nI_add (fr + (4 * t)) 1) ?_
        refine r_iald hx hb h0 hw 1 rfl (i := fr + (4 * t) + 1) (by omega) (by omega) dX7_block_35 ?_
        refine lv_bipush (v := nI 16) hx hb dX7_block_36 (by decide +kernel) ?_
        refine lv_ishl hx hb dX7_block_38 ?_
        refine r_te (y := jshl (rf (fr + (4 * t) + 1)) (nI 16)) rfl ?_
        refine lv_ior hx hb dX7_block_39 ?_
        refine lv_aload_n hx hb dX7_block_40 rfl (lv_at hl 2 rfl) ?_
        refine r_get (ci := 7) (v := .ref (md 17)) (C := RX7) (T := TX7) (N := 25) hx hb hts hinX7 hown h0 hw 0 rfl rfl 17 (by decide) k54 rfl dX7_block_41 ?_
        refine lv_iload_n hx hb dX7_block_44 rfl (lv_at hl 0 rfl) ?_
        refine lv_iconst (v := nI 2) hx hb dX7_block_45 (by decide +kernel) ?_
        refine lv_iadd hx hb dX7_block_46 ?_
        refine r_te (y := nI (fr + (4 * t) + 2)) (nI_add (fr + (4 * t)) 2) ?_
        refine r_iald hx hb h0 hw 1 rfl (i := fr + (4 * t) + 2) (by omega) (by omega) dX7_block_47 ?_
        refine lv_bipush (v := nI 8) hx hb dX7_block_48 (by decide +kernel) ?_
        refine lv_ishl hx hb dX7_block_50 ?_
        refine r_te (y := jshl (rf (fr + (4 * t) + 2)) (nI 8)) rfl ?_
        refine lv_ior hx hb dX7_block_51 ?_
        refine lv_aload_n hx hb dX7_block_52 rfl (lv_at hl 2 rfl) ?_
        refine r_get (ci := 7) (v := .ref (md 17)) (C := RX7) (T := TX7) (N := 25) hx hb hts hinX7 hown h0 hw 0 rfl rfl 17 (by decide) k54 rfl dX7_block_53 ?_
        refine lv_iload_n hx hb dX7_block_56 rfl (lv_at hl 0 rfl) ?_
        refine lv_iconst (v := nI 3) hx hb dX7_block_57 (by decide +kernel) ?_
        refine lv_iadd hx hb dX7_block_58 ?_
        refine r_te (y := nI (fr + (4 * t) + 3)) (nI_add (fr + (4 * t)) 3) ?_
        refine r_iald hx hb h0 hw 1 rfl (i := fr + (4 * t) + 3) (by omega) (by omega) dX7_block_59 ?_
        refine lv_ior hx hb dX7_block_60 ?_
        refine r_iast hx hb h0 hw 2 rfl (i := t) (by omega) (by omega) dX7_block_61 (fun H locs hw => ?_)
        have hw : WD g A s [(md 25, .inr (7, [.ref (md 0), .int (nI op), .ref (md 2), .ref (md 3), .ref (md 4), .ref (md 5), .ref (md 6), .ref (md 7), .ref (md 8), .ref (md 9), .ref (md 10), .ref (md 11), .int (nI on), .ref (md 13), .int (nI inn), .ref (md 15), .ref (md 16), .ref (md 17), .ref (md 18), .ref (md 19), .ref (md 20), .ref (md 21), .ref (md 22), .ref (md 23), .ref (md 24)])), (md 17, .inl (g.2.1 0, 400, .inl (rf))), (md 16, .inl (g.2.1 0, 64, .inl (upd (shF rf fr wf t) t ((((jshl (rf (fr + (4 * t))) (nI 24)) ||| (jshl (rf (fr + (4 * t) + 1)) (nI 16))) ||| (jshl (rf (fr + (4 * t) + 2)) (nI 8))) ||| (rf (fr + (4 * t) + 3)))))), (md 15, .inl (g.2.1 0, 8, .inl (sf))), (md 22, .inl (g.2.1 0, 64, .inl (kRW)))] [] H locs := hw
        refine lv_iinc (v := nI (t + 1)) (lv' := [(2, .int (nI (t + 1))), (3, .int (nI (fr + (4 * t)))), (0, .ref (md 25)), (1, .int (nI fr))]) hx hb dX7_block_62 hl (k := 1) rfl (nI_add t 1) (by decide) rfl (fun ls hl => ?_)
        refine lv_goto (tgt := 2) hx hb dX7_block_65 (by decide) ?_
        exact ih (t + 1) (by omega) (by omega) _ _ _ hw (lv_sub hl [0, 2, 3] rfl)
  exact lp2 (16 - 0 + 1) 0 (by omega) (by omega) _ _ _ hw (lv_sub hl [0, 1, 2] rfl)

set_option maxHeartbeats 4000000 in
set_option maxRecDepth 100000 in
theorem c_X7_digestRow (l : Launch) (g : GE) (md : Nat → Nat) (op : Nat) (on : Nat) (inn : Nat) (rf : Nat → Int32) (wf : Nat → Int32) (sf : Nat → Int32) (dg : Nat → Int32) (n : Nat) (hn : n ≤ 183) (sz : Nat) : MV l yX7_digestRow wsX7_digestRow { frames := 2, cells := 0, slots := 0, locals := 53 } g [.ref (md 25), .int (nI n)] [(md 25, .inr (7, [.ref (md 0), .int (nI op), .ref (md 2), .ref (md 3), .ref (md 4), .ref (md 5), .ref (md 6), .ref (md 7), .ref (md 8), .ref (md 9), .ref (md 10), .ref (md 11), .int (nI on), .ref (md 13), .int (nI inn), .ref (md 15), .ref (md 16), .ref (md 17), .ref (md 18), .ref (md 19), .ref (md 20), .ref (md 21), .ref (md 22), .ref (md 23), .ref (md 24)])), (md 17, .inl (g.2.1 0, 400, .inl (rf))), (md 16, .inl (g.2.1 0, 64, .inl (wf))), (md 15, .inl (g.2.1 0, 8, .inl (sf))), (md 22, .inl (g.2.1 0, 64, .inl (kRW))), (md 18, .inl (g.2.1 0, 32, .inl (dg)))] sz (fun (u : (Nat → Int32) × (Nat → Int32) × (Nat → Int32)) => True) (fun (u : (Nat → Int32) × (Nat → Int32) × (Nat → Int32)) => [(md 25, .inr (7, [.ref (md 0), .int (nI op), .ref (md 2), .ref (md 3), .ref (md 4), .ref (md 5), .ref (md 6), .ref (md 7), .ref (md 8), .ref (md 9), .ref (md 10), .ref (md 11), .int (nI on), .ref (md 13), .int (nI inn), .ref (md 15), .ref (md 16), .ref (md 17), .ref (md 18), .ref (md 19), .ref (md 20), .ref (md 21), .ref (md 22), .ref (md 23), .ref (md 24)])), (md 17, .inl (g.2.1 0, 400, .inl (u.1))), (md 16, .inl (g.2.1 0, 64, .inl (u.2.1))), (md 15, .inl (g.2.1 0, 8, .inl (u.2.2))), (md 22, .inl (g.2.1 0, 64, .inl (kRW))), (md 18, .inl (g.2.1 0, 32, .inl (dig rf n)))]) 0 0 := by
  refine enterV (by decide) rfl (Nat.le_of_ble_eq_true rfl) ?_
  intro p e s m below meth c A ls ar Q hE h0 hret hw hl
  obtain ⟨hx, hb, hr, hml, hown, hts, hlocks, hname⟩ := hE
  have hown : s.vm.findClass RX7 = some m.cls := hown
  have hw : WD g A s [(md 25, .inr (7, [.ref (md 0), .int (nI op), .ref (md 2), .ref (md 3), .ref (md 4), .ref (md 5), .ref (md 6), .ref (md 7), .ref (md 8), .ref (md 9), .ref (md 10), .ref (md 11), .int (nI on), .ref (md 13), .int (nI inn), .ref (md 15), .ref (md 16), .ref (md 17), .ref (md 18), .ref (md 19), .ref (md 20), .ref (md 21), .ref (md 22), .ref (md 23), .ref (md 24)])), (md 17, .inl (g.2.1 0, 400, .inl (rf))), (md 16, .inl (g.2.1 0, 64, .inl (wf))), (md 15, .inl (g.2.1 0, 8, .inl (sf))), (md 22, .inl (g.2.1 0, 64, .inl (kRW))), (md 18, .inl (g.2.1 0, 32, .inl (dg)))] [] s.heap [] := hw
  have hinX7 : ∀ w ∈ u_ws RX7 TX7 25, w ∈ wsX7_digestRow := by decide +kernel
  have k48 := hts (.fieldLink RX7 48 "RecordWireModel" "state" "[I") (by decide +kernel)
  have k54 := hts (.fieldLink RX7 54 "RecordWireModel" "row" "[I") (by decide +kernel)
  have k57 := hts (.fieldLink RX7 57 "RecordWireModel" "digest" "[I") (by decide +kernel)
  have k160 := hts (.constant RX7 160 (1779033703)) (by decide +kernel)
  have k161 := hts (.constant RX7 161 (-1150833019)) (by decide +kernel)
  have k162 := hts (.constant RX7 162 (1013904242)) (by decide +kernel)
  have k163 := hts (.constant RX7 163 (-1521486534)) (by decide +kernel)
  have k164 := hts (.constant RX7 164 (1359893119)) (by decide +kernel)
  have k165 := hts (.constant RX7 165 (-1694144372)) (by decide +kernel)
  have k166 := hts (.constant RX7 166 (528734635)) (by decide +kernel)
  have k167 := hts (.constant RX7 167 (1541459225)) (by decide +kernel)
  have hE : pE n = (n + 8) / 64 * 64 + 64 := rfl
  have hl : lv_has ls 5 [(0, .ref (md 25)), (1, .int (nI n))] := hl
  refine lv_aload_n hx hb dX7_digestRow_0 rfl (lv_at hl 0 rfl) ?_
  refine r_get (ci := 7) (v := .ref (md 15)) (C := RX7) (T := TX7) (N := 25) hx hb hts hinX7 hown h0 hw 0 rfl rfl 15 (by decide) k48 rfl dX7_digestRow_1 ?_
  refine lv_iconst (v := nI 0) hx hb dX7_digestRow_4 (by decide +kernel) ?_
  refine lv_ldc hx hb hown k160 dX7_digestRow_5 ?_
  refine r_iast hx hb h0 hw 3 rfl (i := 0) (by omega) (by omega) dX7_digestRow_7 (fun H locs hw => ?_)
  have hw : WD g A s [(md 25, .inr (7, [.ref (md 0), .int (nI op), .ref (md 2), .ref (md 3), .ref (md 4), .ref (md 5), .ref (md 6), .ref (md 7), .ref (md 8), .ref (md 9), .ref (md 10), .ref (md 11), .int (nI on), .ref (md 13), .int (nI inn), .ref (md 15), .ref (md 16), .ref (md 17), .ref (md 18), .ref (md 19), .ref (md 20), .ref (md 21), .ref (md 22), .ref (md 23), .ref (md 24)])), (md 17, .inl (g.2.1 0, 400, .inl (rf))), (md 16, .inl (g.2.1 0, 64, .inl (wf))), (md 15, .inl (g.2.1 0, 8, .inl (upd sf 0 1779033703))), (md 22, .inl (g.2.1 0, 64, .inl (kRW))), (md 18, .inl (g.2.1 0, 32, .inl (dg)))] [] H locs := hw
  refine lv_aload_n hx hb dX7_digestRow_8 rfl (lv_at hl 0 rfl) ?_
  refine r_get (ci := 7) (v := .ref (md 15)) (C := RX7) (T := TX7) (N := 25) hx hb hts hinX7 hown h0 hw 0 rfl rfl 15 (by decide) k48 rfl dX7_digestRow_9 ?_
  refine lv_iconst (v := nI 1) hx hb dX7_digestRow_12 (by decide +kernel) ?_
  refine lv_ldc hx hb hown k161 dX7_digestRow_13 ?_
  refine r_iast hx hb h0 hw 3 rfl (i := 1) (by omega) (by omega) dX7_digestRow_15 (fun H locs hw => ?_)
  have hw : WD g A s [(md 25, .inr (7, [.ref (md 0), .int (nI op), .ref (md 2), .ref (md 3), .ref (md 4), .ref (md 5), .ref (md 6), .ref (md 7), .ref (md 8), .ref (md 9), .ref (md 10), .ref (md 11), .int (nI on), .ref (md 13), .int (nI inn), .ref (md 15), .ref (md 16), .ref (md 17), .ref (md 18), .ref (md 19), .ref (md 20), .ref (md 21), .ref (md 22), .ref (md 23), .ref (md 24)])), (md 17, .inl (g.2.1 0, 400, .inl (rf))), (md 16, .inl (g.2.1 0, 64, .inl (wf))), (md 15, .inl (g.2.1 0, 8, .inl (upd (upd sf 0 1779033703) 1 (-1150833019)))), (md 22, .inl (g.2.1 0, 64, .inl (kRW))), (md 18, .inl (g.2.1 0, 32, .inl (dg)))] [] H locs := hw
  refine lv_aload_n hx hb dX7_digestRow_16 rfl (lv_at hl 0 rfl) ?_
  refine r_get (ci := 7) (v := .ref (md 15)) (C := RX7) (T := TX7) (N := 25) hx hb hts hinX7 hown h0 hw 0 rfl rfl 15 (by decide) k48 rfl dX7_digestRow_17 ?_
  refine lv_iconst (v := nI 2) hx hb dX7_digestRow_20 (by decide +kernel) ?_
  refine lv_ldc hx hb hown k162 dX7_digestRow_21 ?_
  refine r_iast hx hb h0 hw 3 rfl (i := 2) (by omega) (by omega) dX7_digestRow_23 (fun H locs hw => ?_)
  have hw : WD g A s [(md 25, .inr (7, [.ref (md 0), .int (nI op), .ref (md 2), .ref (md 3), .ref (md 4), .ref (md 5), .ref (md 6), .ref (md 7), .ref (md 8), .ref (md 9), .ref (md 10), .ref (md 11), .int (nI on), .ref (md 13), .int (nI inn), .ref (md 15), .ref (md 16), .ref (md 17), .ref (md 18), .ref (md 19), .ref (md 20), .ref (md 21), .ref (md 22), .ref (md 23), .ref (md 24)])), (md 17, .inl (g.2.1 0, 400, .inl (rf))), (md 16, .inl (g.2.1 0, 64, .inl (wf))), (md 15, .inl (g.2.1 0, 8, .inl (upd (upd (upd sf 0 1779033703) 1 (-1150833019)) 2 1013904242))), (md 22, .inl (g.2.1 0, 64, .inl (kRW))), (md 18, .inl (g.2.1 0, 32, .inl (dg)))] [] H locs := hw
  refine lv_aload_n hx hb dX7_digestRow_24 rfl (lv_at hl 0 rfl) ?_
  refine r_get (ci := 7) (v := .ref (md 15)) (C := RX7) (T := TX7) (N := 25) hx hb hts hinX7 hown h0 hw 0 rfl rfl 15 (by decide) k48 rfl dX7_digestRow_25 ?_
  refine lv_iconst (v := nI 3) hx hb dX7_digestRow_28 (by decide +kernel) ?_
  refine lv_ldc hx hb hown k163 dX7_digestRow_29 ?_
  refine r_iast hx hb h0 hw 3 rfl (i := 3) (by omega) (by omega) dX7_digestRow_31 (fun H locs hw => ?_)
  have hw : WD g A s [(md 25, .inr (7, [.ref (md 0), .int (nI op), .ref (md 2), .ref (md 3), .ref (md 4), .ref (md 5), .ref (md 6), .ref (md 7), .ref (md 8), .ref (md 9), .ref (md 10), .ref (md 11), .int (nI on), .ref (md 13), .int (nI inn), .ref (md 15), .ref (md 16), .ref (md 17), .ref (md 18), .ref (md 19), .ref (md 20), .ref (md 21), .ref (md 22), .ref (md 23), .ref (md 24)])), (md 17, .inl (g.2.1 0, 400, .inl (rf))), (md 16, .inl (g.2.1 0, 64, .inl (wf))), (md 15, .inl (g.2.1 0, 8, .inl (upd (upd (upd (upd sf 0 1779033703) 1 (-1150833019)) 2 1013904242) 3 (-1521486534)))), (md 22, .inl (g.2.1 0, 64, .inl (kRW))), (md 18, .inl (g.2.1 0, 32, .inl (dg)))] [] H locs := hw
  refine lv_aload_n hx hb dX7_digestRow_32 rfl (lv_at hl 0 rfl) ?_
  refine r_get (ci := 7) (v := .ref (md 15)) (C := RX7) (T := TX7) (N := 25) hx hb hts hinX7 hown h0 hw 0 rfl rfl 15 (by decide) k48 rfl dX7_digestRow_33 ?_
  refine lv_iconst (v := nI 4) hx hb dX7_digestRow_36 (by decide +kernel) ?_
  refine lv_ldc hx hb hown k164 dX7_digestRow_37 ?_
  refine r_iast hx hb h0 hw 3 rfl (i := 4) (by omega) (by omega) dX7_digestRow_39 (fun H locs hw => ?_)
  have hw : WD g A s [(md 25, .inr (7, [.ref (md 0), .int (nI op), .ref (md 2), .ref (md 3), .ref (md 4), .ref (md 5), .ref (md 6), .ref (md 7), .ref (md 8), .ref (md 9), .ref (md 10), .ref (md 11), .int (nI on), .ref (md 13), .int (nI inn), .ref (md 15), .ref (md 16), .ref (md 17), .ref (md 18), .ref (md 19), .ref (md 20), .ref (md 21), .ref (md 22), .ref (md 23), .ref (md 24)])), (md 17, .inl (g.2.1 0, 400, .inl (rf))), (md 16, .inl (g.2.1 0, 64, .inl (wf))), (md 15, .inl (g.2.1 0, 8, .inl (upd (upd (upd (upd (upd sf 0 1779033703) 1 (-1150833019)) 2 1013904242) 3 (-1521486534)) 4 1359893119))), (md 22, .inl (g.2.1 0, 64, .inl (kRW))), (md 18, .inl (g.2.1 0, 32, .inl (dg)))] [] H locs := hw
  refine lv_aload_n hx hb dX7_digestRow_40 rfl (lv_at hl 0 rfl) ?_
  refine r_get (ci := 7) (v := .ref (md 15)) (C := RX7) (T := TX7) (N := 25) hx hb hts hinX7 hown h0 hw 0 rfl rfl 15 (by decide) k48 rfl dX7_digestRow_41 ?_
  refine lv_iconst (v := nI 5) hx hb dX7_digestRow_44 (by decide +kernel) ?_
  refine lv_ldc hx hb hown k165 dX7_digestRow_45 ?_
  refine r_iast hx hb h0 hw 3 rfl (i := 5) (by omega) (by omega) dX7_digestRow_47 (fun H locs hw => ?_)
  have hw : WD g A s [(md 25, .inr (7, [.ref (md 0), .int (nI op), .ref (md 2), .ref (md 3), .ref (md 4), .ref (md 5), .ref (md 6), .ref (md 7), .ref (md 8), .ref (md 9), .ref (md 10), .ref (md 11), .int (nI on), .ref (md 13), .int (nI inn), .ref (md 15), .ref (md 16), .ref (md 17), .ref (md 18), .ref (md 19), .ref (md 20), .ref (md 21), .ref (md 22), .ref (md 23), .ref (md 24)])), (md 17, .inl (g.2.1 0, 400, .inl (rf))), (md 16, .inl (g.2.1 0, 64, .inl (wf))), (md 15, .inl (g.2.1 0, 8, .inl (upd (upd (upd (upd (upd (upd sf 0 1779033703) 1 (-1150833019)) 2 1013904242) 3 (-1521486534)) 4 1359893119) 5 (-1694144372)))), (md 22, .inl (g.2.1 0, 64, .inl (kRW))), (md 18, .inl (g.2.1 0, 32, .inl (dg)))] [] H locs := hw
  refine lv_aload_n hx hb dX7_digestRow_48 rfl (lv_at hl 0 rfl) ?_
  refine r_get (ci := 7) (v := .ref (md 15)) (C := RX7) (T := TX7) (N := 25) hx hb hts hinX7 hown h0 hw 0 rfl rfl 15 (by decide) k48 rfl dX7_digestRow_49 ?_
  refine lv_bipush (v := nI 6) hx hb dX7_digestRow_52 (by decide +kernel) ?_
  refine lv_ldc hx hb hown k166 dX7_digestRow_54 ?_
  refine r_iast hx hb h0 hw 3 rfl (i := 6) (by omega) (by omega) dX7_digestRow_56 (fun H locs hw => ?_)
  have hw : WD g A s [(md 25, .inr (7, [.ref (md 0), .int (nI op), .ref (md 2), .ref (md 3), .ref (md 4), .ref (md 5), .ref (md 6), .ref (md 7), .ref (md 8), .ref (md 9), .ref (md 10), .ref (md 11), .int (nI on), .ref (md 13), .int (nI inn), .ref (md 15), .ref (md 16), .ref (md 17), .ref (md 18), .ref (md 19), .ref (md 20), .ref (md 21), .ref (md 22), .ref (md 23), .ref (md 24)])), (md 17, .inl (g.2.1 0, 400, .inl (rf))), (md 16, .inl (g.2.1 0, 64, .inl (wf))), (md 15, .inl (g.2.1 0, 8, .inl (upd (upd (upd (upd (upd (upd (upd sf 0 1779033703) 1 (-1150833019)) 2 1013904242) 3 (-1521486534)) 4 1359893119) 5 (-1694144372)) 6 528734635))), (md 22, .inl (g.2.1 0, 64, .inl (kRW))), (md 18, .inl (g.2.1 0, 32, .inl (dg)))] [] H locs := hw
  refine lv_aload_n hx hb dX7_digestRow_57 rfl (lv_at hl 0 rfl) ?_
  refine r_get (ci := 7) (v := .ref (md 15)) (C := RX7) (T := TX7) (N := 25) hx hb hts hinX7 hown h0 hw 0 rfl rfl 15 (by decide) k48 rfl dX7_digestRow_58 ?_
  refine lv_bipush (v := nI 7) hx hb dX7_digestRow_61 (by decide +kernel) ?_
  refine lv_ldc hx hb hown k167 dX7_digestRow_63 ?_
  refine r_iast hx hb h0 hw 3 rfl (i := 7) (by omega) (by omega) dX7_digestRow_65 (fun H locs hw => ?_)
  have hw : WD g A s [(md 25, .inr (7, [.ref (md 0), .int (nI op), .ref (md 2), .ref (md 3), .ref (md 4), .ref (md 5), .ref (md 6), .ref (md 7), .ref (md 8), .ref (md 9), .ref (md 10), .ref (md 11), .int (nI on), .ref (md 13), .int (nI inn), .ref (md 15), .ref (md 16), .ref (md 17), .ref (md 18), .ref (md 19), .ref (md 20), .ref (md 21), .ref (md 22), .ref (md 23), .ref (md 24)])), (md 17, .inl (g.2.1 0, 400, .inl (rf))), (md 16, .inl (g.2.1 0, 64, .inl (wf))), (md 15, .inl (g.2.1 0, 8, .inl (upd (upd (upd (upd (upd (upd (upd (upd sf 0 1779033703) 1 (-1150833019)) 2 1013904242) 3 (-1521486534)) 4 1359893119) 5 (-1694144372)) 6 528734635) 7 1541459225))), (md 22, .inl (g.2.1 0, 64, .inl (kRW))), (md 18, .inl (g.2.1 0, 32, .inl (dg)))] [] H locs := hw
  have hw : WD g A s [(md 25, .inr (7, [.ref (md 0), .int (nI op), .ref (md 2), .ref (md 3), .ref (md 4), .ref (md 5), .ref (md 6), .ref (md 7), .ref (md 8), .ref (md 9), .ref (md 10), .ref (md 11), .int (nI on), .ref (md 13), .int (nI inn), .ref (md 15), .ref (md 16), .ref (md 17), .ref (md 18), .ref (md 19), .ref (md 20), .ref (md 21), .ref (md 22), .ref (md 23), .ref (md 24)])), (md 17, .inl (g.2.1 0, 400, .inl (rf))), (md 16, .inl (g.2.1 0, 64, .inl (wf))), (md 15, .inl (g.2.1 0, 8, .inl (iv8 sf))), (md 22, .inl (g.2.1 0, 64, .inl (kRW))), (md 18, .inl (g.2.1 0, 32, .inl (dg)))] [] H locs := hw
  refine lv_iload_n hx hb dX7_digestRow_66 rfl (lv_at hl 1 rfl) ?_
  refine lv_bipush (v := nI 8) hx hb dX7_digestRow_67 (by decide +kernel) ?_
  refine lv_iadd hx hb dX7_digestRow_69 ?_
  refine r_te (y := nI (n + 8)) (nI_add n 8) ?_
  refine lv_bipush (v := nI 64) hx hb dX7_digestRow_70 (by decide +kernel) ?_
  refine lv_idiv hx hb dX7_digestRow_72 (by decide +kernel) ?_
  refine r_te (y := nI ((n + 8) / 64)) (pk_div (by omega) (by decide) (by decide)) ?_
  refine lv_bipush (v := nI 64) hx hb dX7_digestRow_73 (by decide +kernel) ?_
  refine lv_imul hx hb dX7_digestRow_75 ?_
  refine r_te (y := nI (((n + 8) / 64) * 64)) (pk_mul ((n + 8) / 64) 64) ?_
  refine lv_bipush (v := nI 64) hx hb dX7_digestRow_76 (by decide +kernel) ?_
  refine lv_iadd hx hb dX7_digestRow_78 ?_
  refine r_te (y := nI (((n + 8) / 64) * 64 + 64)) (nI_add (((n + 8) / 64) * 64) 64) ?_
  refine r_te (y := nI (pE n)) rfl ?_
  refine lv_istore_n (lv' := [(2, .int (nI (pE n))), (0, .ref (md 25)), (1, .int (nI n))]) hx hb dX7_digestRow_79 rfl hl (by decide) rfl (fun ls hl => ?_)
  refine lv_iload_n hx hb dX7_digestRow_80 rfl (lv_at hl 2 rfl) ?_
  refine lv_istore_n (lv' := [(3, .int (nI n)), (2, .int (nI (pE n))), (0, .ref (md 25)), (1, .int (nI n))]) hx hb dX7_digestRow_81 rfl hl (by decide) rfl (fun ls hl => ?_)
  have lp82 : ∀ (fu : Nat) (j : Nat), pE n - n - j < fu → (j ≤ pE n - n) → ∀ (H : Heap) (locs : List Loc) (ls : Array Slot), WD g A s [(md 25, .inr (7, [.ref (md 0), .int (nI op), .ref (md 2), .ref (md 3), .ref (md 4), .ref (md 5), .ref (md 6), .ref (md 7), .ref (md 8), .ref (md 9), .ref (md 10), .ref (md 11), .int (nI on), .ref (md 13), .int (nI inn), .ref (md 15), .ref (md 16), .ref (md 17), .ref (md 18), .ref (md 19), .ref (md 20), .ref (md 21), .ref (md 22), .ref (md 23), .ref (md 24)])), (md 17, .inl (g.2.1 0, 400, .inl (pw rf n j))), (md 16, .inl (g.2.1 0, 64, .inl (wf))), (md 15, .inl (g.2.1 0, 8, .inl (iv8 sf))), (md 22, .inl (g.2.1 0, 64, .inl (kRW))), (md 18, .inl (g.2.1 0, 32, .inl (dg)))] [] H locs → lv_has ls 5 [(3, .int (nI (n + j))), (0, .ref (md 25)), (1, .int (nI n)), (2, .int (nI (pE n)))] → W p l e { frames := 2, cells := 0, slots := 0, locals := 53 } s m ar below meth c H locs 0 0 Q (F0 m 82 ls []) := by
    intro fu
    induction fu with
    | zero => intro j hmz; exact absurd hmz (Nat.not_lt_zero _)
    | succ fu ih =>
      intro j hms hj H locs ls hw hl
      refine lv_iload_n hx hb dX7_digestRow_82 rfl (lv_at hl 0 rfl) ?_
      refine lv_iload_n hx hb dX7_digestRow_83 rfl (lv_at hl 3 rfl) ?_
      refine lv_icmp_ge (tgt := 111) hx hb dX7_digestRow_84 (by decide) (fun c1 => ?_) (fun c1 => ?_)
      · skip
        have c1 : (pE n) ≤ (n + j) := (nI_leI (by omega) (by omega)).mp c1
        have hq : j = pE n - n := by omega
        have hwS2 := hw; have hlS3 := hl
        subst j
        have hw := hwS2; have hl := hlS3
        refine lv_bipush (v := nI 8) hx hb dX7_digestRow_111 (by decide +kernel) ?_
        refine lv_iload_n hx hb dX7_digestRow_113 rfl (lv_at hl 2 rfl) ?_
        refine lv_imul hx hb dX7_digestRow_114 ?_
        refine r_te (y := nI (8 * n)) (pk_mul 8 n) ?_
        refine lv_istore_n (lv' := [(3, .int (nI (8 * n))), (0, .ref (md 25)), (1, .int (nI n)), (2, .int (nI (pE n)))]) hx hb dX7_digestRow_115 rfl hl (by decide) rfl (fun ls hl => ?_)
        refine lv_aload_n hx hb dX7_digestRow_116 rfl (lv_at hl 1 rfl) ?_
        refine r_get (ci := 7) (v := .ref (md 17)) (C := RX7) (T := TX7) (N := 25) hx hb hts hinX7 hown h0 hw 0 rfl rfl 17 (by decide) k54 rfl dX7_digestRow_117 ?_
        refine lv_iload_n hx hb dX7_digestRow_120 rfl (lv_at hl 3 rfl) ?_
        refine lv_iconst (v := nI 4) hx hb dX7_digestRow_121 (by decide +kernel) ?_
        refine lv_isub hx hb dX7_digestRow_122 ?_
        refine r_te (y := nI (pE n - 4)) (pk_sub (by omega)) ?_
        refine lv_iload_n hx hb dX7_digestRow_123 rfl (lv_at hl 0 rfl) ?_
        refine lv_bipush (v := nI 24) hx hb dX7_digestRow_124 (by decide +kernel) ?_
        refine lv_iushr (v := jushr (nI (8 * n)) (nI 24)) hx hb dX7_digestRow_126 rfl ?_
        refine r_iast hx hb h0 hw 1 rfl (i := pE n - 4) (by omega) (by omega) dX7_digestRow_127 (fun H locs hw => ?_)
        have hw : WD g A s [(md 25, .inr (7, [.ref (md 0), .int (nI op), .ref (md 2), .ref (md 3), .ref (md 4), .ref (md 5), .ref (md 6), .ref (md 7), .ref (md 8), .ref (md 9), .ref (md 10), .ref (md 11), .int (nI on), .ref (md 13), .int (nI inn), .ref (md 15), .ref (md 16), .ref (md 17), .ref (md 18), .ref (md 19), .ref (md 20), .ref (md 21), .ref (md 22), .ref (md 23), .ref (md 24)])), (md 17, .inl (g.2.1 0, 400, .inl (upd (pw rf n (pE n - n)) (pE n - 4) (jushr (nI (8 * n)) (nI 24))))), (md 16, .inl (g.2.1 0, 64, .inl (wf))), (md 15, .inl (g.2.1 0, 8, .inl (iv8 sf))), (md 22, .inl (g.2.1 0, 64, .inl (kRW))), (md 18, .inl (g.2.1 0, 32, .inl (dg)))] [] H locs := hw
        refine lv_aload_n hx hb dX7_digestRow_128 rfl (lv_at hl 1 rfl) ?_
        refine r_get (ci := 7) (v := .ref (md 17)) (C := RX7) (T := TX7) (N := 25) hx hb hts hinX7 hown h0 hw 0 rfl rfl 17 (by decide) k54 rfl dX7_digestRow_129 ?_
        refine lv_iload_n hx hb dX7_digestRow_132 rfl (lv_at hl 3 rfl) ?_
        refine lv_iconst (v := nI 3) hx hb dX7_digestRow_133 (by decide +kernel) ?_
        refine lv_isub hx hb dX7_digestRow_134 ?_
        refine r_te (y := nI (pE n - 3)) (pk_sub (by omega)) ?_
        refine lv_iload_n hx hb dX7_digestRow_135 rfl (lv_at hl 0 rfl) ?_
        refine lv_bipush (v := nI 16) hx hb dX7_digestRow_136 (by decide +kernel) ?_
        refine lv_iushr (v := jushr (nI (8 * n)) (nI 16)) hx hb dX7_digestRow_138 rfl ?_
        refine lv_sipush (v := nI 255) hx hb dX7_digestRow_139 (by decide +kernel) ?_
        refine lv_iand hx hb dX7_digestRow_142 ?_
        refine r_iast hx hb h0 hw 1 rfl (i := pE n - 3) (by omega) (by omega) dX7_digestRow_143 (fun H locs hw => ?_)
        have hw : WD g A s [(md 25, .inr (7, [.ref (md 0), .int (nI op), .ref (md 2), .ref (md 3), .ref (md 4), .ref (md 5), .ref (md 6), .ref (md 7), .ref (md 8), .ref (md 9), .ref (md 10), .ref (md 11), .int (nI on), .ref (md 13), .int (nI inn), .ref (md 15), .ref (md 16), .ref (md 17), .ref (md 18), .ref (md 19), .ref (md 20), .ref (md 21), .ref (md 22), .ref (md 23), .ref (md 24)])), (md 17, .inl (g.2.1 0, 400, .inl (upd (upd (pw rf n (pE n - n)) (pE n - 4) (jushr (nI (8 * n)) (nI 24))) (pE n - 3) ((jushr (nI (8 * n)) (nI 16)) &&& (nI 255))))), (md 16, .inl (g.2.1 0, 64, .inl (wf))), (md 15, .inl (g.2.1 0, 8, .inl (iv8 sf))), (md 22, .inl (g.2.1 0, 64, .inl (kRW))), (md 18, .inl (g.2.1 0, 32, .inl (dg)))] [] H locs := hw
        refine lv_aload_n hx hb dX7_digestRow_144 rfl (lv_at hl 1 rfl) ?_
        refine r_get (ci := 7) (v := .ref (md 17)) (C := RX7) (T := TX7) (N := 25) hx hb hts hinX7 hown h0 hw 0 rfl rfl 17 (by decide) k54 rfl dX7_digestRow_145 ?_
        refine lv_iload_n hx hb dX7_digestRow_148 rfl (lv_at hl 3 rfl) ?_
        refine lv_iconst (v := nI 2) hx hb dX7_digestRow_149 (by decide +kernel) ?_
        refine lv_isub hx hb dX7_digestRow_150 ?_
        refine r_te (y := nI (pE n - 2)) (pk_sub (by omega)) ?_
        refine lv_iload_n hx hb dX7_digestRow_151 rfl (lv_at hl 0 rfl) ?_
        refine lv_bipush (v := nI 8) hx hb dX7_digestRow_152 (by decide +kernel) ?_
        refine lv_iushr (v := jushr (nI (8 * n)) (nI 8)) hx hb dX7_digestRow_154 rfl ?_
        refine lv_sipush (v := nI 255) hx hb dX7_digestRow_155 (by decide +kernel) ?_
        refine lv_iand hx hb dX7_digestRow_158 ?_
        refine r_iast hx hb h0 hw 1 rfl (i := pE n - 2) (by omega) (by omega) dX7_digestRow_159 (fun H locs hw => ?_)
        have hw : WD g A s [(md 25, .inr (7, [.ref (md 0), .int (nI op), .ref (md 2), .ref (md 3), .ref (md 4), .ref (md 5), .ref (md 6), .ref (md 7), .ref (md 8), .ref (md 9), .ref (md 10), .ref (md 11), .int (nI on), .ref (md 13), .int (nI inn), .ref (md 15), .ref (md 16), .ref (md 17), .ref (md 18), .ref (md 19), .ref (md 20), .ref (md 21), .ref (md 22), .ref (md 23), .ref (md 24)])), (md 17, .inl (g.2.1 0, 400, .inl (upd (upd (upd (pw rf n (pE n - n)) (pE n - 4) (jushr (nI (8 * n)) (nI 24))) (pE n - 3) ((jushr (nI (8 * n)) (nI 16)) &&& (nI 255))) (pE n - 2) ((jushr (nI (8 * n)) (nI 8)) &&& (nI 255))))), (md 16, .inl (g.2.1 0, 64, .inl (wf))), (md 15, .inl (g.2.1 0, 8, .inl (iv8 sf))), (md 22, .inl (g.2.1 0, 64, .inl (kRW))), (md 18, .inl (g.2.1 0, 32, .inl (dg)))] [] H locs := hw
        refine lv_aload_n hx hb dX7_digestRow_160 rfl (lv_at hl 1 rfl) ?_
        refine r_get (ci := 7) (v := .ref (md 17)) (C := RX7) (T := TX7) (N := 25) hx hb hts hinX7 hown h0 hw 0 rfl rfl 17 (by decide) k54 rfl dX7_digestRow_161 ?_
        refine lv_iload_n hx hb dX7_digestRow_164 rfl (lv_at hl 3 rfl) ?_
        refine lv_iconst (v := nI 1) hx hb dX7_digestRow_165 (by decide +kernel) ?_
        refine lv_isub hx hb dX7_digestRow_166 ?_
        refine r_te (y := nI (pE n - 1)) (pk_sub (by omega)) ?_
        refine lv_iload_n hx hb dX7_digestRow_167 rfl (lv_at hl 0 rfl) ?_
        refine lv_sipush (v := nI 255) hx hb dX7_digestRow_168 (by decide +kernel) ?_
        refine lv_iand hx hb dX7_digestRow_171 ?_
        refine r_iast hx hb h0 hw 1 rfl (i := pE n - 1) (by omega) (by omega) dX7_digestRow_172 (fun H locs hw => ?_)
        have hw : WD g A s [(md 25, .inr (7, [.ref (md 0), .int (nI op), .ref (md 2), .ref (md 3), .ref (md 4), .ref (md 5), .ref (md 6), .ref (md 7), .ref (md 8), .ref (md 9), .ref (md 10), .ref (md 11), .int (nI on), .ref (md 13), .int (nI inn), .ref (md 15), .ref (md 16), .ref (md 17), .ref (md 18), .ref (md 19), .ref (md 20), .ref (md 21), .ref (md 22), .ref (md 23), .ref (md 24)])), (md 17, .inl (g.2.1 0, 400, .inl (upd (upd (upd (upd (pw rf n (pE n - n)) (pE n - 4) (jushr (nI (8 * n)) (nI 24))) (pE n - 3) ((jushr (nI (8 * n)) (nI 16)) &&& (nI 255))) (pE n - 2) ((jushr (nI (8 * n)) (nI 8)) &&& (nI 255))) (pE n - 1) ((nI (8 * n)) &&& (nI 255))))), (md 16, .inl (g.2.1 0, 64, .inl (wf))), (md 15, .inl (g.2.1 0, 8, .inl (iv8 sf))), (md 22, .inl (g.2.1 0, 64, .inl (kRW))), (md 18, .inl (g.2.1 0, 32, .inl (dg)))] [] H locs := hw
        have hw : WD g A s [(md 25, .inr (7, [.ref (md 0), .int (nI op), .ref (md 2), .ref (md 3), .ref (md 4), .ref (md 5), .ref (md 6), .ref (md 7), .ref (md 8), .ref (md 9), .ref (md 10), .ref (md 11), .int (nI on), .ref (md 13), .int (nI inn), .ref (md 15), .ref (md 16), .ref (md 17), .ref (md 18), .ref (md 19), .ref (md 20), .ref (md 21), .ref (md 22), .ref (md 23), .ref (md 24)])), (md 17, .inl (g.2.1 0, 400, .inl (rowP rf n))), (md 16, .inl (g.2.1 0, 64, .inl (wf))), (md 15, .inl (g.2.1 0, 8, .inl (iv8 sf))), (md 22, .inl (g.2.1 0, 64, .inl (kRW))), (md 18, .inl (g.2.1 0, 32, .inl (dg)))] [] H locs := hw
        refine lv_iconst (v := nI 0) hx hb dX7_digestRow_173 (by decide +kernel) ?_
        refine lv_istore (lv' := [(4, .int (nI 0)), (3, .int (nI (8 * n))), (0, .ref (md 25)), (1, .int (nI n)), (2, .int (nI (pE n)))]) hx hb dX7_digestRow_174 hl (by decide) rfl (fun ls hl => ?_)
        have lp176 : ∀ (fu : Nat) (k : Nat), pE n - 64 * k < fu → (64 * k ≤ pE n) → ∀ (H : Heap) (locs : List Loc) (ls : Array Slot), WD g A s [(md 25, .inr (7, [.ref (md 0), .int (nI op), .ref (md 2), .ref (md 3), .ref (md 4), .ref (md 5), .ref (md 6), .ref (md 7), .ref (md 8), .ref (md 9), .ref (md 10), .ref (md 11), .int (nI on), .ref (md 13), .int (nI inn), .ref (md 15), .ref (md 16), .ref (md 17), .ref (md 18), .ref (md 19), .ref (md 20), .ref (md 21), .ref (md 22), .ref (md 23), .ref (md 24)])), (md 17, .inl (g.2.1 0, 400, .inl (rowP rf n))), (md 16, .inl (g.2.1 0, 64, .inl ((shB (rowP rf n) (iv8 sf) wf k).2))), (md 15, .inl (g.2.1 0, 8, .inl ((shB (rowP rf n) (iv8 sf) wf k).1))), (md 22, .inl (g.2.1 0, 64, .inl (kRW))), (md 18, .inl (g.2.1 0, 32, .inl (dg)))] [] H locs → lv_has ls 5 [(4, .int (nI (64 * k))), (0, .ref (md 25)), (2, .int (nI (pE n)))] → W p l e { frames := 2, cells := 0, slots := 0, locals := 53 } s m ar below meth c H locs 0 0 Q (F0 m 176 ls []) := by
          intro fu
          induction fu with
          | zero => intro k hmz; exact absurd hmz (Nat.not_lt_zero _)
          | succ fu ih =>
            intro k hms hk H locs ls hw hl
            refine lv_iload hx hb dX7_digestRow_176 (lv_at hl 0 rfl) ?_
            refine lv_iload_n hx hb dX7_digestRow_178 rfl (lv_at hl 2 rfl) ?_
            refine lv_icmp_ge (tgt := 198) hx hb dX7_digestRow_179 (by decide) (fun c4 => ?_) (fun c4 => ?_)
            · skip
              have c4 : (pE n) ≤ (64 * k) := (nI_leI (by omega) (by omega)).mp c4
              have hq : k = pE n / 64 := by omega
              have hwS5 := hw; have hlS6 := hl
              subst k
              have hw := hwS5; have hl := hlS6
              refine lv_iconst (v := nI 0) hx hb dX7_digestRow_198 (by decide +kernel) ?_
              refine lv_istore (lv' := [(4, .int (nI 0)), (0, .ref (md 25)), (2, .int (nI (pE n)))]) hx hb dX7_digestRow_199 hl (by decide) rfl (fun ls hl => ?_)
              have lp201 : ∀ (fu : Nat) (i : Nat), 32 - i < fu → (i ≤ 32) → ∀ (H : Heap) (locs : List Loc) (ls : Array Slot), WD g A s [(md 25, .inr (7, [.ref (md 0), .int (nI op), .ref (md 2), .ref (md 3), .ref (md 4), .ref (md 5), .ref (md 6), .ref (md 7), .ref (md 8), .ref (md 9), .ref (md 10), .ref (md 11), .int (nI on), .ref (md 13), .int (nI inn), .ref (md 15), .ref (md 16), .ref (md 17), .ref (md 18), .ref (md 19), .ref (md 20), .ref (md 21), .ref (md 22), .ref (md 23), .ref (md 24)])), (md 17, .inl (g.2.1 0, 400, .inl (rowP rf n))), (md 16, .inl (g.2.1 0, 64, .inl ((shB (rowP rf n) (iv8 sf) wf (pE n / 64)).2))), (md 15, .inl (g.2.1 0, 8, .inl ((shB (rowP rf n) (iv8 sf) wf (pE n / 64)).1))), (md 22, .inl (g.2.1 0, 64, .inl (kRW))), (md 18, .inl (g.2.1 0, 32, .inl (shO (shB (rowP rf n) (iv8 sf) wf (pE n / 64)).1 dg i)))] [] H locs → lv_has ls 5 [(4, .int (nI i)), (0, .ref (md 25))] → W p l e { frames := 2, cells := 0, slots := 0, locals := 53 } s m ar below meth c H locs 0 0 Q (F0 m 201 ls []) := by
                intro fu
                induction fu with
                | zero => intro i hmz; exact absurd hmz (Nat.not_lt_zero _)
                | succ fu ih =>
                  intro i hms hi H locs ls hw hl
                  refine lv_iload hx hb dX7_digestRow_201 (lv_at hl 0 rfl) ?_
                  refine lv_bipush (v := nI 32) hx hb dX7_digestRow_203 (by decide +kernel) ?_
                  refine lv_icmp_ge (tgt := 245) hx hb dX7_digestRow_205 (by decide) (fun c7 => ?_) (fun c7 => ?_)
                  · skip
                    have c7 : 32 ≤ i := (nI_leI (by omega) (by omega)).mp c7
                    have hq : i = 32 := by omega
                    have hwS8 := hw; have hlS9 := hl
                    subst i
                    have hw := hwS8; have hl := hlS9
                    have hw := hw.cong 5 rfl (f' := dig rf n) (mdig_of rf sf wf dg hn)
                    have hw : WD g A s [(md 25, .inr (7, [.ref (md 0), .int (nI op), .ref (md 2), .ref (md 3), .ref (md 4), .ref (md 5), .ref (md 6), .ref (md 7), .ref (md 8), .ref (md 9), .ref (md 10), .ref (md 11), .int (nI on), .ref (md 13), .int (nI inn), .ref (md 15), .ref (md 16), .ref (md 17), .ref (md 18), .ref (md 19), .ref (md 20), .ref (md 21), .ref (md 22), .ref (md 23), .ref (md 24)])), (md 17, .inl (g.2.1 0, 400, .inl (rowP rf n))), (md 16, .inl (g.2.1 0, 64, .inl ((shB (rowP rf n) (iv8 sf) wf (pE n / 64)).2))), (md 15, .inl (g.2.1 0, 8, .inl ((shB (rowP rf n) (iv8 sf) wf (pE n / 64)).1))), (md 22, .inl (g.2.1 0, 64, .inl (kRW))), (md 18, .inl (g.2.1 0, 32, .inl (dig rf n)))] [] _ _ := hw
                    exact hret hw (rowP rf n, (shB (rowP rf n) (iv8 sf) wf (pE n / 64)).2, (shB (rowP rf n) (iv8 sf) wf (pE n / 64)).1) (trivial) (rfl) (by omega) (by omega) dX7_digestRow_245
                  · skip
                    have c7 : ¬ 32 ≤ i := fun q => c7 (((nI_leI (by omega) (by omega)).mpr q))
                    refine lv_aload_n hx hb dX7_digestRow_208 rfl (lv_at hl 1 rfl) ?_
                    refine r_get (ci := 7) (v := .ref (md 18)) (C := RX7) (T := TX7) (N := 25) hx hb hts hinX7 hown h0 hw 0 rfl rfl 18 (by decide) k57 rfl dX7_digestRow_209 ?_
                    refine lv_iload hx hb dX7_digestRow_212 (lv_at hl 0 rfl) ?_
                    refine lv_aload_n hx hb dX7_digestRow_214 rfl (lv_at hl 1 rfl) ?_
                    refine r_get (ci := 7) (v := .ref (md 15)) (C := RX7) (T := TX7) (N := 25) hx hb hts hinX7 hown h0 hw 0 rfl rfl 15 (by decide) k48 rfl dX7_digestRow_215 ?_
                    refine lv_iload hx hb dX7_digestRow_218 (lv_at hl 0 rfl) ?_
                    refine lv_iconst (v := nI 4) hx hb dX7_digestRow_220 (by decide +kernel) ?_
                    refine lv_idiv hx hb dX7_digestRow_221 (by decide +kernel) ?_
                    refine r_te (y := nI (i / 4)) (pk_div (by omega) (by decide) (by decide)) ?_
                    refine r_iald hx hb h0 hw 3 rfl (i := i / 4) (by omega) (by omega) dX7_digestRow_222 ?_
                    refine lv_bipush (v := nI 24) hx hb dX7_digestRow_223 (by decide +kernel) ?_
                    refine lv_bipush (v := nI 8) hx hb dX7_digestRow_225 (by decide +kernel) ?_
                    refine lv_iload hx hb dX7_digestRow_227 (lv_at hl 0 rfl) ?_
                    refine lv_iconst (v := nI 4) hx hb dX7_digestRow_229 (by decide +kernel) ?_
                    refine lv_irem hx hb dX7_digestRow_230 (by decide +kernel) ?_
                    refine r_te (y := nI (i % 4)) (pk_rem (by omega) (by decide) (by decide)) ?_
                    refine lv_imul hx hb dX7_digestRow_231 ?_
                    refine r_te (y := nI (8 * (i % 4))) (pk_mul 8 (i % 4)) ?_
                    refine lv_isub hx hb dX7_digestRow_232 ?_
                    refine r_te (y := nI (24 - (8 * (i % 4)))) (pk_sub (by omega)) ?_
                    refine lv_iushr (v := jushr (((shB (rowP rf n) (iv8 sf) wf (pE n / 64)).1) (i / 4)) (nI (24 - (8 * (i % 4))))) hx hb dX7_digestRow_233 rfl ?_
                    refine lv_sipush (v := nI 255) hx hb dX7_digestRow_234 (by decide +kernel) ?_
                    refine lv_iand hx hb dX7_digestRow_237 ?_
                    refine r_iast hx hb h0 hw 5 rfl (i := i) (by omega) (by omega) dX7_digestRow_238 (fun H locs hw => ?_)
                    have hw : WD g A s [(md 25, .inr (7, [.ref (md 0), .int (nI op), .ref (md 2), .ref (md 3), .ref (md 4), .ref (md 5), .ref (md 6), .ref (md 7), .ref (md 8), .ref (md 9), .ref (md 10), .ref (md 11), .int (nI on), .ref (md 13), .int (nI inn), .ref (md 15), .ref (md 16), .ref (md 17), .ref (md 18), .ref (md 19), .ref (md 20), .ref (md 21), .ref (md 22), .ref (md 23), .ref (md 24)])), (md 17, .inl (g.2.1 0, 400, .inl (rowP rf n))), (md 16, .inl (g.2.1 0, 64, .inl ((shB (rowP rf n) (iv8 sf) wf (pE n / 64)).2))), (md 15, .inl (g.2.1 0, 8, .inl ((shB (rowP rf n) (iv8 sf) wf (pE n / 64)).1))), (md 22, .inl (g.2.1 0, 64, .inl (kRW))), (md 18, .inl (g.2.1 0, 32, .inl (upd (shO (shB (rowP rf n) (iv8 sf) wf (pE n / 64)).1 dg i) i ((jushr (((shB (rowP rf n) (iv8 sf) wf (pE n / 64)).1) (i / 4)) (nI (24 - (8 * (i % 4))))) &&& (nI 255)))))] [] H locs := hw
                    refine lv_iinc (v := nI (i + 1)) (lv' := [(4, .int (nI (i + 1))), (0, .ref (md 25))]) hx hb dX7_digestRow_239 hl (k := 0) rfl (nI_add i 1) (by decide) rfl (fun ls hl => ?_)
                    refine lv_goto (tgt := 201) hx hb dX7_digestRow_242 (by decide) ?_
                    exact ih (i + 1) (by omega) (by omega) _ _ _ hw (lv_sub hl [0, 1] rfl)
              exact lp201 (32 - 0 + 1) 0 (by omega) (by omega) _ _ _ hw (lv_sub hl [0, 1] rfl)
            · skip
              have c4 : ¬ (pE n) ≤ (64 * k) := fun q => c4 (((nI_leI (by omega) (by omega)).mpr q))
              refine lv_aload_n hx hb dX7_digestRow_182 rfl (lv_at hl 1 rfl) ?_
              refine lv_iload hx hb dX7_digestRow_183 (lv_at hl 0 rfl) ?_
              refine r_callv (wr := [(md 18, .inl (g.2.1 0, 32, .inl (dg)))]) [0, 1, 2, 3, 4] [5] h0 hw rfl rfl (by decide) (by decide) (va_runV (As := [.int (nI (64 * k))]) (rest := []) ⟨hx, hb, hml, hown, hts⟩ (c_X7_block l g md op on inn (rowP rf n) ((shB (rowP rf n) (iv8 sf) wf k).2) ((shB (rowP rf n) (iv8 sf) wf k).1) (64 * k) (by omega) _) (cwV 1 hts gX7_digestRow_X7_block rfl rfl rfl (by decide +kernel) ⟨Nat.le_of_ble_eq_true rfl, Nat.le_of_ble_eq_true rfl⟩) (preV_of [0, 1, 2, 3, 4] [.int (nI (64 * k))] h0 hw rfl (by decide) 0 7 rfl rfl) rfl rfl hl.1 rfl (lv_room (Nat.le_of_ble_eq_true rfl)) dX7_digestRow_185 ⟨Nat.le_of_ble_eq_true rfl, Nat.le_of_ble_eq_true rfl⟩) (fun u11 H locs hp12 hw => ?_)
              have hw : WD g A s [(md 18, .inl (g.2.1 0, 32, .inl (dg))), (md 25, .inr (7, [.ref (md 0), .int (nI op), .ref (md 2), .ref (md 3), .ref (md 4), .ref (md 5), .ref (md 6), .ref (md 7), .ref (md 8), .ref (md 9), .ref (md 10), .ref (md 11), .int (nI on), .ref (md 13), .int (nI inn), .ref (md 15), .ref (md 16), .ref (md 17), .ref (md 18), .ref (md 19), .ref (md 20), .ref (md 21), .ref (md 22), .ref (md 23), .ref (md 24)])), (md 17, .inl (g.2.1 0, 400, .inl (rowP rf n))), (md 16, .inl (g.2.1 0, 64, .inl (shW (rowP rf n) (64 * k) ((shB (rowP rf n) (iv8 sf) wf k).2)))), (md 15, .inl (g.2.1 0, 8, .inl (stAdd ((shB (rowP rf n) (iv8 sf) wf k).1) (shI (tup ((shB (rowP rf n) (iv8 sf) wf k).1)) (shW (rowP rf n) (64 * k) ((shB (rowP rf n) (iv8 sf) wf k).2)) 64)))), (md 22, .inl (g.2.1 0, 64, .inl (kRW)))] [] H locs := hw
              refine lv_iload hx hb dX7_digestRow_188 (lv_at hl 0 rfl) ?_
              refine lv_bipush (v := nI 64) hx hb dX7_digestRow_190 (by decide +kernel) ?_
              refine lv_iadd hx hb dX7_digestRow_192 ?_
              refine r_te (y := nI (64 * k + 64)) (nI_add (64 * k) 64) ?_
              refine lv_istore (lv' := [(4, .int (nI (64 * k + 64))), (0, .ref (md 25)), (2, .int (nI (pE n)))]) hx hb dX7_digestRow_193 hl (by decide) rfl (fun ls hl => ?_)
              refine lv_goto (tgt := 176) hx hb dX7_digestRow_195 (by decide) ?_
              exact ih (k + 1) (by omega) (by omega) _ _ _ (hw.perm [1, 2, 3, 4, 5, 0] (by decide) rfl) (lv_sub hl [0, 1, 2] rfl)
        exact lp176 (pE n - 64 * 0 + 1) 0 (by omega) (by omega) _ _ _ hw (lv_sub hl [0, 2, 4] rfl)
      · skip
        have c1 : ¬ (pE n) ≤ (n + j) := fun q => c1 (((nI_leI (by omega) (by omega)).mpr q))
        refine lv_aload_n hx hb dX7_digestRow_87 rfl (lv_at hl 1 rfl) ?_
        refine r_get (ci := 7) (v := .ref (md 17)) (C := RX7) (T := TX7) (N := 25) hx hb hts hinX7 hown h0 hw 0 rfl rfl 17 (by decide) k54 rfl dX7_digestRow_88 ?_
        refine lv_iload_n hx hb dX7_digestRow_91 rfl (lv_at hl 0 rfl) ?_
        refine lv_iload_n hx hb dX7_digestRow_92 rfl (lv_at hl 0 rfl) ?_
        refine lv_iload_n hx hb dX7_digestRow_93 rfl (lv_at hl 2 rfl) ?_
        refine lv_icmp_ne (tgt := 103) hx hb dX7_digestRow_94 (by decide) (fun c13 => ?_) (fun c13 => ?_)
        · skip
          have c13 : ¬ (n + j) = n := fun q => c13 (((nI_eq (by omega) (by omega)).mpr q))
          refine lv_iconst (v := nI 0) hx hb dX7_digestRow_103 (by decide +kernel) ?_
          refine r_te (y := pv j) (by first | exact pv_0 (by omega) | exact pv_n (by omega)) ?_
          refine r_iast hx hb h0 hw 1 rfl (i := n + j) (by omega) (by omega) dX7_digestRow_104 (fun H locs hw => ?_)
          have hw : WD g A s [(md 25, .inr (7, [.ref (md 0), .int (nI op), .ref (md 2), .ref (md 3), .ref (md 4), .ref (md 5), .ref (md 6), .ref (md 7), .ref (md 8), .ref (md 9), .ref (md 10), .ref (md 11), .int (nI on), .ref (md 13), .int (nI inn), .ref (md 15), .ref (md 16), .ref (md 17), .ref (md 18), .ref (md 19), .ref (md 20), .ref (md 21), .ref (md 22), .ref (md 23), .ref (md 24)])), (md 17, .inl (g.2.1 0, 400, .inl (upd (pw rf n j) (n + j) (pv j)))), (md 16, .inl (g.2.1 0, 64, .inl (wf))), (md 15, .inl (g.2.1 0, 8, .inl (iv8 sf))), (md 22, .inl (g.2.1 0, 64, .inl (kRW))), (md 18, .inl (g.2.1 0, 32, .inl (dg)))] [] H locs := hw
          refine lv_iinc (v := nI (n + j + 1)) (lv' := [(3, .int (nI (n + j + 1))), (0, .ref (md 25)), (1, .int (nI n)), (2, .int (nI (pE n)))]) hx hb dX7_digestRow_105 hl (k := 0) rfl (nI_add (n + j) 1) (by decide) rfl (fun ls hl => ?_)
          refine lv_goto (tgt := 82) hx hb dX7_digestRow_108 (by decide) ?_
          exact ih (j + 1) (by omega) (by omega) _ _ _ hw (lv_sub hl [0, 1, 2, 3] rfl)
        · skip
          have c13 : (n + j) = n := (nI_eq (by omega) (by omega)).mp c13
          refine lv_sipush (v := nI 128) hx hb dX7_digestRow_97 (by decide +kernel) ?_
          refine lv_goto (tgt := 104) hx hb dX7_digestRow_100 (by decide) ?_
          refine r_te (y := pv j) (by first | exact pv_0 (by omega) | exact pv_n (by omega)) ?_
          refine r_iast hx hb h0 hw 1 rfl (i := n + j) (by omega) (by omega) dX7_digestRow_104 (fun H locs hw => ?_)
          have hw : WD g A s [(md 25, .inr (7, [.ref (md 0), .int (nI op), .ref (md 2), .ref (md 3), .ref (md 4), .ref (md 5), .ref (md 6), .ref (md 7), .ref (md 8), .ref (md 9), .ref (md 10), .ref (md 11), .int (nI on), .ref (md 13), .int (nI inn), .ref (md 15), .ref (md 16), .ref (md 17), .ref (md 18), .ref (md 19), .ref (md 20), .ref (md 21), .ref (md 22), .ref (md 23), .ref (md 24)])), (md 17, .inl (g.2.1 0, 400, .inl (upd (pw rf n j) (n + j) (pv j)))), (md 16, .inl (g.2.1 0, 64, .inl (wf))), (md 15, .inl (g.2.1 0, 8, .inl (iv8 sf))), (md 22, .inl (g.2.1 0, 64, .inl (kRW))), (md 18, .inl (g.2.1 0, 32, .inl (dg)))] [] H locs := hw
          refine lv_iinc (v := nI (n + j + 1)) (lv' := [(3, .int (nI (n + j + 1))), (0, .ref (md 25)), (1, .int (nI n)), (2, .int (nI (pE n)))]) hx hb dX7_digestRow_105 hl (k := 0) rfl (nI_add (n + j) 1) (by decide) rfl (fun ls hl => ?_)
          refine lv_goto (tgt := 82) hx hb dX7_digestRow_108 (by decide) ?_
          exact ih (j + 1) (by omega) (by omega) _ _ _ hw (lv_sub hl [0, 1, 2, 3] rfl)
  exact lp82 (pE n - n - 0 + 1) 0 (by omega) (by omega) _ _ _ hw (lv_sub hl [0, 2, 3, 1] rfl)

set_option maxHeartbeats 4000000 in
set_option maxRecDepth 100000 in
theorem c_X7_hmac (l : Launch) (g : GE) (md : Nat → Nat) (op : Nat) (on : Nat) (inn : Nat) (rf : Nat → Int32) (wf : Nat → Int32) (sf : Nat → Int32) (dg : Nat → Int32) (kf : Nat → Int32) (mf : Nat → Int32) (n : Nat) (hn : n ≤ 119) (sz : Nat) : MV l yX7_hmac wsX7_hmac { frames := 3, cells := 0, slots := 0, locals := 77 } g [.ref (md 25), .int (nI n)] [(md 25, .inr (7, [.ref (md 0), .int (nI op), .ref (md 2), .ref (md 3), .ref (md 4), .ref (md 5), .ref (md 6), .ref (md 7), .ref (md 8), .ref (md 9), .ref (md 10), .ref (md 11), .int (nI on), .ref (md 13), .int (nI inn), .ref (md 15), .ref (md 16), .ref (md 17), .ref (md 18), .ref (md 19), .ref (md 20), .ref (md 21), .ref (md 22), .ref (md 23), .ref (md 24)])), (md 17, .inl (g.2.1 0, 400, .inl (rf))), (md 16, .inl (g.2.1 0, 64, .inl (wf))), (md 15, .inl (g.2.1 0, 8, .inl (sf))), (md 22, .inl (g.2.1 0, 64, .inl (kRW))), (md 18, .inl (g.2.1 0, 32, .inl (dg))), (md 19, .inl (g.2.1 0, 32, .inl (kf))), (md 21, .inl (g.2.1 0, 160, .inl (mf)))] sz (fun (u : (Nat → Int32) × (Nat → Int32) × (Nat → Int32)) => True) (fun (u : (Nat → Int32) × (Nat → Int32) × (Nat → Int32)) => [(md 25, .inr (7, [.ref (md 0), .int (nI op), .ref (md 2), .ref (md 3), .ref (md 4), .ref (md 5), .ref (md 6), .ref (md 7), .ref (md 8), .ref (md 9), .ref (md 10), .ref (md 11), .int (nI on), .ref (md 13), .int (nI inn), .ref (md 15), .ref (md 16), .ref (md 17), .ref (md 18), .ref (md 19), .ref (md 20), .ref (md 21), .ref (md 22), .ref (md 23), .ref (md 24)])), (md 17, .inl (g.2.1 0, 400, .inl (u.1))), (md 16, .inl (g.2.1 0, 64, .inl (u.2.1))), (md 15, .inl (g.2.1 0, 8, .inl (u.2.2))), (md 22, .inl (g.2.1 0, 64, .inl (kRW))), (md 18, .inl (g.2.1 0, 32, .inl (hmv kf mf n))), (md 19, .inl (g.2.1 0, 32, .inl (kf))), (md 21, .inl (g.2.1 0, 160, .inl (mf)))]) 0 0 := by
  refine enterV (by decide) rfl (Nat.le_of_ble_eq_true rfl) ?_
  intro p e s m below meth c A ls ar Q hE h0 hret hw hl
  obtain ⟨hx, hb, hr, hml, hown, hts, hlocks, hname⟩ := hE
  have hown : s.vm.findClass RX7 = some m.cls := hown
  have hw : WD g A s [(md 25, .inr (7, [.ref (md 0), .int (nI op), .ref (md 2), .ref (md 3), .ref (md 4), .ref (md 5), .ref (md 6), .ref (md 7), .ref (md 8), .ref (md 9), .ref (md 10), .ref (md 11), .int (nI on), .ref (md 13), .int (nI inn), .ref (md 15), .ref (md 16), .ref (md 17), .ref (md 18), .ref (md 19), .ref (md 20), .ref (md 21), .ref (md 22), .ref (md 23), .ref (md 24)])), (md 17, .inl (g.2.1 0, 400, .inl (rf))), (md 16, .inl (g.2.1 0, 64, .inl (wf))), (md 15, .inl (g.2.1 0, 8, .inl (sf))), (md 22, .inl (g.2.1 0, 64, .inl (kRW))), (md 18, .inl (g.2.1 0, 32, .inl (dg))), (md 19, .inl (g.2.1 0, 32, .inl (kf))), (md 21, .inl (g.2.1 0, 160, .inl (mf)))] [] s.heap [] := hw
  have hinX7 : ∀ w ∈ u_ws RX7 TX7 25, w ∈ wsX7_hmac := by decide +kernel
  have k54 := hts (.fieldLink RX7 54 "RecordWireModel" "row" "[I") (by decide +kernel)
  have k57 := hts (.fieldLink RX7 57 "RecordWireModel" "digest" "[I") (by decide +kernel)
  have k60 := hts (.fieldLink RX7 60 "RecordWireModel" "key" "[I") (by decide +kernel)
  have k66 := hts (.fieldLink RX7 66 "RecordWireModel" "message" "[I") (by decide +kernel)
  have hl : lv_has ls 3 [(0, .ref (md 25)), (1, .int (nI n))] := hl
  refine lv_iconst (v := nI 0) hx hb dX7_hmac_0 (by decide +kernel) ?_
  refine lv_istore_n (lv' := [(2, .int (nI 0)), (0, .ref (md 25)), (1, .int (nI n))]) hx hb dX7_hmac_1 rfl hl (by decide) rfl (fun ls hl => ?_)
  have lp2 : ∀ (fu : Nat) (i : Nat), 64 - i < fu → (i ≤ 64) → ∀ (H : Heap) (locs : List Loc) (ls : Array Slot), WD g A s [(md 25, .inr (7, [.ref (md 0), .int (nI op), .ref (md 2), .ref (md 3), .ref (md 4), .ref (md 5), .ref (md 6), .ref (md 7), .ref (md 8), .ref (md 9), .ref (md 10), .ref (md 11), .int (nI on), .ref (md 13), .int (nI inn), .ref (md 15), .ref (md 16), .ref (md 17), .ref (md 18), .ref (md 19), .ref (md 20), .ref (md 21), .ref (md 22), .ref (md 23), .ref (md 24)])), (md 17, .inl (g.2.1 0, 400, .inl (bpF rf (kv kf) (nI 54) i))), (md 16, .inl (g.2.1 0, 64, .inl (wf))), (md 15, .inl (g.2.1 0, 8, .inl (sf))), (md 22, .inl (g.2.1 0, 64, .inl (kRW))), (md 18, .inl (g.2.1 0, 32, .inl (dg))), (md 19, .inl (g.2.1 0, 32, .inl (kf))), (md 21, .inl (g.2.1 0, 160, .inl (mf)))] [] H locs → lv_has ls 3 [(2, .int (nI i)), (0, .ref (md 25)), (1, .int (nI n))] → W p l e { frames := 3, cells := 0, slots := 0, locals := 77 } s m ar below meth c H locs 0 0 Q (F0 m 2 ls []) := by
    intro fu
    induction fu with
    | zero => intro i hmz; exact absurd hmz (Nat.not_lt_zero _)
    | succ fu ih =>
      intro i hms hi H locs ls hw hl
      refine lv_iload_n hx hb dX7_hmac_2 rfl (lv_at hl 0 rfl) ?_
      refine lv_bipush (v := nI 64) hx hb dX7_hmac_3 (by decide +kernel) ?_
      refine lv_icmp_ge (tgt := 39) hx hb dX7_hmac_5 (by decide) (fun c1 => ?_) (fun c1 => ?_)
      · skip
        have c1 : 64 ≤ i := (nI_leI (by omega) (by omega)).mp c1
        have hq : i = 64 := by omega
        have hwS2 := hw; have hlS3 := hl
        subst i
        have hw := hwS2; have hl := hlS3
        refine lv_iconst (v := nI 0) hx hb dX7_hmac_39 (by decide +kernel) ?_
        refine lv_istore_n (lv' := [(2, .int (nI 0)), (0, .ref (md 25)), (1, .int (nI n))]) hx hb dX7_hmac_40 rfl hl (by decide) rfl (fun ls hl => ?_)
        have lp41 : ∀ (fu : Nat) (i : Nat), n - i < fu → (i ≤ n) → ∀ (H : Heap) (locs : List Loc) (ls : Array Slot), WD g A s [(md 25, .inr (7, [.ref (md 0), .int (nI op), .ref (md 2), .ref (md 3), .ref (md 4), .ref (md 5), .ref (md 6), .ref (md 7), .ref (md 8), .ref (md 9), .ref (md 10), .ref (md 11), .int (nI on), .ref (md 13), .int (nI inn), .ref (md 15), .ref (md 16), .ref (md 17), .ref (md 18), .ref (md 19), .ref (md 20), .ref (md 21), .ref (md 22), .ref (md 23), .ref (md 24)])), (md 17, .inl (g.2.1 0, 400, .inl (apA (bpF rf (kv kf) (nI 54) 64) 64 mf i))), (md 16, .inl (g.2.1 0, 64, .inl (wf))), (md 15, .inl (g.2.1 0, 8, .inl (sf))), (md 22, .inl (g.2.1 0, 64, .inl (kRW))), (md 18, .inl (g.2.1 0, 32, .inl (dg))), (md 19, .inl (g.2.1 0, 32, .inl (kf))), (md 21, .inl (g.2.1 0, 160, .inl (mf)))] [] H locs → lv_has ls 3 [(2, .int (nI i)), (0, .ref (md 25)), (1, .int (nI n))] → W p l e { frames := 3, cells := 0, slots := 0, locals := 77 } s m ar below meth c H locs 0 0 Q (F0 m 41 ls []) := by
          intro fu
          induction fu with
          | zero => intro i hmz; exact absurd hmz (Nat.not_lt_zero _)
          | succ fu ih =>
            intro i hms hi H locs ls hw hl
            refine lv_iload_n hx hb dX7_hmac_41 rfl (lv_at hl 0 rfl) ?_
            refine lv_iload_n hx hb dX7_hmac_42 rfl (lv_at hl 2 rfl) ?_
            refine lv_icmp_ge (tgt := 67) hx hb dX7_hmac_43 (by decide) (fun c4 => ?_) (fun c4 => ?_)
            · skip
              have c4 : n ≤ i := (nI_leI (by omega) (by omega)).mp c4
              have hq : i = n := by omega
              have hwS5 := hw; have hlS6 := hl
              subst i
              have hw := hwS5; have hl := hlS6
              refine lv_aload_n hx hb dX7_hmac_67 rfl (lv_at hl 1 rfl) ?_
              refine lv_bipush (v := nI 64) hx hb dX7_hmac_68 (by decide +kernel) ?_
              refine lv_iload_n hx hb dX7_hmac_70 rfl (lv_at hl 2 rfl) ?_
              refine lv_iadd hx hb dX7_hmac_71 ?_
              refine r_te (y := nI (64 + n)) (nI_add 64 n) ?_
              refine r_callv (wr := [(md 19, .inl (g.2.1 0, 32, .inl (kf))), (md 21, .inl (g.2.1 0, 160, .inl (mf)))]) [0, 1, 2, 3, 4, 5] [6, 7] h0 hw rfl rfl (by decide) (by decide) (va_runV (As := [.int (nI (64 + n))]) (rest := []) ⟨hx, hb, hml, hown, hts⟩ (c_X7_digestRow l g md op on inn (apA (bpF rf (kv kf) (nI 54) 64) 64 mf n) wf sf dg (64 + n) (by omega) _) (cwV 1 hts gX7_hmac_X7_digestRow rfl rfl rfl (by decide +kernel) ⟨Nat.le_of_ble_eq_true rfl, Nat.le_of_ble_eq_true rfl⟩) (preV_of [0, 1, 2, 3, 4, 5] [.int (nI (64 + n))] h0 hw rfl (by decide) 0 7 rfl rfl) rfl rfl hl.1 rfl (lv_room (Nat.le_of_ble_eq_true rfl)) dX7_hmac_72 ⟨Nat.le_of_ble_eq_true rfl, Nat.le_of_ble_eq_true rfl⟩) (fun u8 H locs hp9 hw => ?_)
              obtain ⟨r2_10, w2_11, s2_12⟩ := u8
              have hw : WD g A s [(md 19, .inl (g.2.1 0, 32, .inl (kf))), (md 21, .inl (g.2.1 0, 160, .inl (mf))), (md 25, .inr (7, [.ref (md 0), .int (nI op), .ref (md 2), .ref (md 3), .ref (md 4), .ref (md 5), .ref (md 6), .ref (md 7), .ref (md 8), .ref (md 9), .ref (md 10), .ref (md 11), .int (nI on), .ref (md 13), .int (nI inn), .ref (md 15), .ref (md 16), .ref (md 17), .ref (md 18), .ref (md 19), .ref (md 20), .ref (md 21), .ref (md 22), .ref (md 23), .ref (md 24)])), (md 17, .inl (g.2.1 0, 400, .inl (r2_10))), (md 16, .inl (g.2.1 0, 64, .inl (w2_11))), (md 15, .inl (g.2.1 0, 8, .inl (s2_12))), (md 22, .inl (g.2.1 0, 64, .inl (kRW))), (md 18, .inl (g.2.1 0, 32, .inl (dig (apA (bpF rf (kv kf) (nI 54) 64) 64 mf n) (64 + n))))] [] H locs := hw
              refine lv_iconst (v := nI 0) hx hb dX7_hmac_75 (by decide +kernel) ?_
              refine lv_istore_n (lv' := [(2, .int (nI 0)), (0, .ref (md 25)), (1, .int (nI n))]) hx hb dX7_hmac_76 rfl hl (by decide) rfl (fun ls hl => ?_)
              have lp77 : ∀ (fu : Nat) (i : Nat), 64 - i < fu → (i ≤ 64) → ∀ (H : Heap) (locs : List Loc) (ls : Array Slot), WD g A s [(md 19, .inl (g.2.1 0, 32, .inl (kf))), (md 21, .inl (g.2.1 0, 160, .inl (mf))), (md 25, .inr (7, [.ref (md 0), .int (nI op), .ref (md 2), .ref (md 3), .ref (md 4), .ref (md 5), .ref (md 6), .ref (md 7), .ref (md 8), .ref (md 9), .ref (md 10), .ref (md 11), .int (nI on), .ref (md 13), .int (nI inn), .ref (md 15), .ref (md 16), .ref (md 17), .ref (md 18), .ref (md 19), .ref (md 20), .ref (md 21), .ref (md 22), .ref (md 23), .ref (md 24)])), (md 17, .inl (g.2.1 0, 400, .inl (bpF r2_10 (kv kf) (nI 92) i))), (md 16, .inl (g.2.1 0, 64, .inl (w2_11))), (md 15, .inl (g.2.1 0, 8, .inl (s2_12))), (md 22, .inl (g.2.1 0, 64, .inl (kRW))), (md 18, .inl (g.2.1 0, 32, .inl (dig (apA (bpF rf (kv kf) (nI 54) 64) 64 mf n) (64 + n))))] [] H locs → lv_has ls 3 [(2, .int (nI i)), (0, .ref (md 25))] → W p l e { frames := 3, cells := 0, slots := 0, locals := 77 } s m ar below meth c H locs 0 0 Q (F0 m 77 ls []) := by
                intro fu
                induction fu with
                | zero => intro i hmz; exact absurd hmz (Nat.not_lt_zero _)
                | succ fu ih =>
                  intro i hms hi H locs ls hw hl
                  refine lv_iload_n hx hb dX7_hmac_77 rfl (lv_at hl 0 rfl) ?_
                  refine lv_bipush (v := nI 64) hx hb dX7_hmac_78 (by decide +kernel) ?_
                  refine lv_icmp_ge (tgt := 114) hx hb dX7_hmac_80 (by decide) (fun c13 => ?_) (fun c13 => ?_)
                  · skip
                    have c13 : 64 ≤ i := (nI_leI (by omega) (by omega)).mp c13
                    have hq : i = 64 := by omega
                    have hwS14 := hw; have hlS15 := hl
                    subst i
                    have hw := hwS14; have hl := hlS15
                    refine lv_iconst (v := nI 0) hx hb dX7_hmac_114 (by decide +kernel) ?_
                    refine lv_istore_n (lv' := [(2, .int (nI 0)), (0, .ref (md 25))]) hx hb dX7_hmac_115 rfl hl (by decide) rfl (fun ls hl => ?_)
                    have lp116 : ∀ (fu : Nat) (i : Nat), 32 - i < fu → (i ≤ 32) → ∀ (H : Heap) (locs : List Loc) (ls : Array Slot), WD g A s [(md 19, .inl (g.2.1 0, 32, .inl (kf))), (md 21, .inl (g.2.1 0, 160, .inl (mf))), (md 25, .inr (7, [.ref (md 0), .int (nI op), .ref (md 2), .ref (md 3), .ref (md 4), .ref (md 5), .ref (md 6), .ref (md 7), .ref (md 8), .ref (md 9), .ref (md 10), .ref (md 11), .int (nI on), .ref (md 13), .int (nI inn), .ref (md 15), .ref (md 16), .ref (md 17), .ref (md 18), .ref (md 19), .ref (md 20), .ref (md 21), .ref (md 22), .ref (md 23), .ref (md 24)])), (md 17, .inl (g.2.1 0, 400, .inl (apA (bpF r2_10 (kv kf) (nI 92) 64) 64 (dig (apA (bpF rf (kv kf) (nI 54) 64) 64 mf n) (64 + n)) i))), (md 16, .inl (g.2.1 0, 64, .inl (w2_11))), (md 15, .inl (g.2.1 0, 8, .inl (s2_12))), (md 22, .inl (g.2.1 0, 64, .inl (kRW))), (md 18, .inl (g.2.1 0, 32, .inl (dig (apA (bpF rf (kv kf) (nI 54) 64) 64 mf n) (64 + n))))] [] H locs → lv_has ls 3 [(2, .int (nI i)), (0, .ref (md 25))] → W p l e { frames := 3, cells := 0, slots := 0, locals := 77 } s m ar below meth c H locs 0 0 Q (F0 m 116 ls []) := by
                      intro fu
                      induction fu with
                      | zero => intro i hmz; exact absurd hmz (Nat.not_lt_zero _)
                      | succ fu ih =>
                        intro i hms hi H locs ls hw hl
                        refine lv_iload_n hx hb dX7_hmac_116 rfl (lv_at hl 0 rfl) ?_
                        refine lv_bipush (v := nI 32) hx hb dX7_hmac_117 (by decide +kernel) ?_
                        refine lv_icmp_ge (tgt := 143) hx hb dX7_hmac_119 (by decide) (fun c16 => ?_) (fun c16 => ?_)
                        · skip
                          have c16 : 32 ≤ i := (nI_leI (by omega) (by omega)).mp c16
                          have hq : i = 32 := by omega
                          have hwS17 := hw; have hlS18 := hl
                          subst i
                          have hw := hwS17; have hl := hlS18
                          refine lv_aload_n hx hb dX7_hmac_143 rfl (lv_at hl 1 rfl) ?_
                          refine lv_bipush (v := nI 96) hx hb dX7_hmac_144 (by decide +kernel) ?_
                          refine r_callv (wr := [(md 19, .inl (g.2.1 0, 32, .inl (kf))), (md 21, .inl (g.2.1 0, 160, .inl (mf)))]) [2, 3, 4, 5, 6, 7] [0, 1] h0 hw rfl rfl (by decide) (by decide) (va_runV (As := [.int (nI 96)]) (rest := []) ⟨hx, hb, hml, hown, hts⟩ (c_X7_digestRow l g md op on inn (apA (bpF r2_10 (kv kf) (nI 92) 64) 64 (dig (apA (bpF rf (kv kf) (nI 54) 64) 64 mf n) (64 + n)) 32) w2_11 s2_12 (dig (apA (bpF rf (kv kf) (nI 54) 64) 64 mf n) (64 + n)) 96 (by omega) _) (cwV 1 hts gX7_hmac_X7_digestRow rfl rfl rfl (by decide +kernel) ⟨Nat.le_of_ble_eq_true rfl, Nat.le_of_ble_eq_true rfl⟩) (preV_of [2, 3, 4, 5, 6, 7] [.int (nI 96)] h0 hw rfl (by decide) 2 7 rfl rfl) rfl rfl hl.1 rfl (lv_room (Nat.le_of_ble_eq_true rfl)) dX7_hmac_146 ⟨Nat.le_of_ble_eq_true rfl, Nat.le_of_ble_eq_true rfl⟩) (fun u20 H locs hp21 hw => ?_)
                          obtain ⟨r2_22, w2_23, s2_24⟩ := u20
                          have hw : WD g A s [(md 19, .inl (g.2.1 0, 32, .inl (kf))), (md 21, .inl (g.2.1 0, 160, .inl (mf))), (md 25, .inr (7, [.ref (md 0), .int (nI op), .ref (md 2), .ref (md 3), .ref (md 4), .ref (md 5), .ref (md 6), .ref (md 7), .ref (md 8), .ref (md 9), .ref (md 10), .ref (md 11), .int (nI on), .ref (md 13), .int (nI inn), .ref (md 15), .ref (md 16), .ref (md 17), .ref (md 18), .ref (md 19), .ref (md 20), .ref (md 21), .ref (md 22), .ref (md 23), .ref (md 24)])), (md 17, .inl (g.2.1 0, 400, .inl (r2_22))), (md 16, .inl (g.2.1 0, 64, .inl (w2_23))), (md 15, .inl (g.2.1 0, 8, .inl (s2_24))), (md 22, .inl (g.2.1 0, 64, .inl (kRW))), (md 18, .inl (g.2.1 0, 32, .inl (dig (apA (bpF r2_10 (kv kf) (nI 92) 64) 64 (dig (apA (bpF rf (kv kf) (nI 54) 64) 64 mf n) (64 + n)) 32) 96)))] [] H locs := hw
                          have hw := hw.cong 7 rfl (f' := hmv kf mf n) (mhm_of rf r2_10 kf mf n)
                          have hw : WD g A s [(md 19, .inl (g.2.1 0, 32, .inl (kf))), (md 21, .inl (g.2.1 0, 160, .inl (mf))), (md 25, .inr (7, [.ref (md 0), .int (nI op), .ref (md 2), .ref (md 3), .ref (md 4), .ref (md 5), .ref (md 6), .ref (md 7), .ref (md 8), .ref (md 9), .ref (md 10), .ref (md 11), .int (nI on), .ref (md 13), .int (nI inn), .ref (md 15), .ref (md 16), .ref (md 17), .ref (md 18), .ref (md 19), .ref (md 20), .ref (md 21), .ref (md 22), .ref (md 23), .ref (md 24)])), (md 17, .inl (g.2.1 0, 400, .inl (r2_22))), (md 16, .inl (g.2.1 0, 64, .inl (w2_23))), (md 15, .inl (g.2.1 0, 8, .inl (s2_24))), (md 22, .inl (g.2.1 0, 64, .inl (kRW))), (md 18, .inl (g.2.1 0, 32, .inl (hmv kf mf n)))] [] _ _ := hw
                          exact hret (hw.perm (X' := [(md 25, .inr (7, [.ref (md 0), .int (nI op), .ref (md 2), .ref (md 3), .ref (md 4), .ref (md 5), .ref (md 6), .ref (md 7), .ref (md 8), .ref (md 9), .ref (md 10), .ref (md 11), .int (nI on), .ref (md 13), .int (nI inn), .ref (md 15), .ref (md 16), .ref (md 17), .ref (md 18), .ref (md 19), .ref (md 20), .ref (md 21), .ref (md 22), .ref (md 23), .ref (md 24)])), (md 17, .inl (g.2.1 0, 400, .inl (r2_22))), (md 16, .inl (g.2.1 0, 64, .inl (w2_23))), (md 15, .inl (g.2.1 0, 8, .inl (s2_24))), (md 22, .inl (g.2.1 0, 64, .inl (kRW))), (md 18, .inl (g.2.1 0, 32, .inl (hmv kf mf n))), (md 19, .inl (g.2.1 0, 32, .inl (kf))), (md 21, .inl (g.2.1 0, 160, .inl (mf)))]) [2, 3, 4, 5, 6, 7, 0, 1] (by decide) rfl) (r2_22, w2_23, s2_24) (trivial) (rfl) (by omega) (by omega) dX7_hmac_149
                        · skip
                          have c16 : ¬ 32 ≤ i := fun q => c16 (((nI_leI (by omega) (by omega)).mpr q))
                          refine lv_aload_n hx hb dX7_hmac_122 rfl (lv_at hl 1 rfl) ?_
                          refine r_get (ci := 7) (v := .ref (md 17)) (C := RX7) (T := TX7) (N := 25) hx hb hts hinX7 hown h0 hw 2 rfl rfl 17 (by decide) k54 rfl dX7_hmac_123 ?_
                          refine lv_bipush (v := nI 64) hx hb dX7_hmac_126 (by decide +kernel) ?_
                          refine lv_iload_n hx hb dX7_hmac_128 rfl (lv_at hl 0 rfl) ?_
                          refine lv_iadd hx hb dX7_hmac_129 ?_
                          refine r_te (y := nI (64 + i)) (nI_add 64 i) ?_
                          refine lv_aload_n hx hb dX7_hmac_130 rfl (lv_at hl 1 rfl) ?_
                          refine r_get (ci := 7) (v := .ref (md 18)) (C := RX7) (T := TX7) (N := 25) hx hb hts hinX7 hown h0 hw 2 rfl rfl 18 (by decide) k57 rfl dX7_hmac_131 ?_
                          refine lv_iload_n hx hb dX7_hmac_134 rfl (lv_at hl 0 rfl) ?_
                          refine r_iald hx hb h0 hw 7 rfl (i := i) (by omega) (by omega) dX7_hmac_135 ?_
                          refine r_iast hx hb h0 hw 3 rfl (i := 64 + i) (by omega) (by omega) dX7_hmac_136 (fun H locs hw => ?_)
                          have hw : WD g A s [(md 19, .inl (g.2.1 0, 32, .inl (kf))), (md 21, .inl (g.2.1 0, 160, .inl (mf))), (md 25, .inr (7, [.ref (md 0), .int (nI op), .ref (md 2), .ref (md 3), .ref (md 4), .ref (md 5), .ref (md 6), .ref (md 7), .ref (md 8), .ref (md 9), .ref (md 10), .ref (md 11), .int (nI on), .ref (md 13), .int (nI inn), .ref (md 15), .ref (md 16), .ref (md 17), .ref (md 18), .ref (md 19), .ref (md 20), .ref (md 21), .ref (md 22), .ref (md 23), .ref (md 24)])), (md 17, .inl (g.2.1 0, 400, .inl (upd (apA (bpF r2_10 (kv kf) (nI 92) 64) 64 (dig (apA (bpF rf (kv kf) (nI 54) 64) 64 mf n) (64 + n)) i) (64 + i) ((dig (apA (bpF rf (kv kf) (nI 54) 64) 64 mf n) (64 + n)) i)))), (md 16, .inl (g.2.1 0, 64, .inl (w2_11))), (md 15, .inl (g.2.1 0, 8, .inl (s2_12))), (md 22, .inl (g.2.1 0, 64, .inl (kRW))), (md 18, .inl (g.2.1 0, 32, .inl (dig (apA (bpF rf (kv kf) (nI 54) 64) 64 mf n) (64 + n))))] [] H locs := hw
                          refine lv_iinc (v := nI (i + 1)) (lv' := [(2, .int (nI (i + 1))), (0, .ref (md 25))]) hx hb dX7_hmac_137 hl (k := 0) rfl (nI_add i 1) (by decide) rfl (fun ls hl => ?_)
                          refine lv_goto (tgt := 116) hx hb dX7_hmac_140 (by decide) ?_
                          exact ih (i + 1) (by omega) (by omega) _ _ _ hw (lv_sub hl [0, 1] rfl)
                    exact lp116 (32 - 0 + 1) 0 (by omega) (by omega) _ _ _ hw (lv_sub hl [0, 1] rfl)
                  · skip
                    have c13 : ¬ 64 ≤ i := fun q => c13 (((nI_leI (by omega) (by omega)).mpr q))
                    refine lv_aload_n hx hb dX7_hmac_83 rfl (lv_at hl 1 rfl) ?_
                    refine r_get (ci := 7) (v := .ref (md 17)) (C := RX7) (T := TX7) (N := 25) hx hb hts hinX7 hown h0 hw 2 rfl rfl 17 (by decide) k54 rfl dX7_hmac_84 ?_
                    refine lv_iload_n hx hb dX7_hmac_87 rfl (lv_at hl 0 rfl) ?_
                    refine lv_iload_n hx hb dX7_hmac_88 rfl (lv_at hl 0 rfl) ?_
                    refine lv_bipush (v := nI 32) hx hb dX7_hmac_89 (by decide +kernel) ?_
                    refine lv_icmp_ge (tgt := 103) hx hb dX7_hmac_91 (by decide) (fun c25 => ?_) (fun c25 => ?_)
                    · skip
                      have c25 : 32 ≤ i := (nI_leI (by omega) (by omega)).mp c25
                      refine lv_iconst (v := nI 0) hx hb dX7_hmac_103 (by decide +kernel) ?_
                      refine r_te (y := kv kf i) (by first | exact kv_lt (by omega) | exact kv_ge (by omega)) ?_
                      refine lv_bipush (v := nI 92) hx hb dX7_hmac_104 (by decide +kernel) ?_
                      refine lv_ixor hx hb dX7_hmac_106 ?_
                      refine r_iast hx hb h0 hw 3 rfl (i := i) (by omega) (by omega) dX7_hmac_107 (fun H locs hw => ?_)
                      have hw : WD g A s [(md 19, .inl (g.2.1 0, 32, .inl (kf))), (md 21, .inl (g.2.1 0, 160, .inl (mf))), (md 25, .inr (7, [.ref (md 0), .int (nI op), .ref (md 2), .ref (md 3), .ref (md 4), .ref (md 5), .ref (md 6), .ref (md 7), .ref (md 8), .ref (md 9), .ref (md 10), .ref (md 11), .int (nI on), .ref (md 13), .int (nI inn), .ref (md 15), .ref (md 16), .ref (md 17), .ref (md 18), .ref (md 19), .ref (md 20), .ref (md 21), .ref (md 22), .ref (md 23), .ref (md 24)])), (md 17, .inl (g.2.1 0, 400, .inl (upd (bpF r2_10 (kv kf) (nI 92) i) i ((kv kf i) ^^^ (nI 92))))), (md 16, .inl (g.2.1 0, 64, .inl (w2_11))), (md 15, .inl (g.2.1 0, 8, .inl (s2_12))), (md 22, .inl (g.2.1 0, 64, .inl (kRW))), (md 18, .inl (g.2.1 0, 32, .inl (dig (apA (bpF rf (kv kf) (nI 54) 64) 64 mf n) (64 + n))))] [] H locs := hw
                      refine lv_iinc (v := nI (i + 1)) (lv' := [(2, .int (nI (i + 1))), (0, .ref (md 25))]) hx hb dX7_hmac_108 hl (k := 0) rfl (nI_add i 1) (by decide) rfl (fun ls hl => ?_)
                      refine lv_goto (tgt := 77) hx hb dX7_hmac_111 (by decide) ?_
                      exact ih (i + 1) (by omega) (by omega) _ _ _ hw (lv_sub hl [0, 1] rfl)
                    · skip
                      have c25 : ¬ 32 ≤ i := fun q => c25 (((nI_leI (by omega) (by omega)).mpr q))
                      refine lv_aload_n hx hb dX7_hmac_94 rfl (lv_at hl 1 rfl) ?_
                      refine r_get (ci := 7) (v := .ref (md 19)) (C := RX7) (T := TX7) (N := 25) hx hb hts hinX7 hown h0 hw 2 rfl rfl 19 (by decide) k60 rfl dX7_hmac_95 ?_
                      refine lv_iload_n hx hb dX7_hmac_98 rfl (lv_at hl 0 rfl) ?_
                      refine r_iald hx hb h0 hw 0 rfl (i := i) (by omega) (by omega) dX7_hmac_99 ?_
                      refine lv_goto (tgt := 104) hx hb dX7_hmac_100 (by decide) ?_
                      refine r_te (y := kv kf i) (by first | exact kv_lt (by omega) | exact kv_ge (by omega)) ?_
                      refine lv_bipush (v := nI 92) hx hb dX7_hmac_104 (by decide +kernel) ?_
                      refine lv_ixor hx hb dX7_hmac_106 ?_
                      refine r_iast hx hb h0 hw 3 rfl (i := i) (by omega) (by omega) dX7_hmac_107 (fun H locs hw => ?_)
                      have hw : WD g A s [(md 19, .inl (g.2.1 0, 32, .inl (kf))), (md 21, .inl (g.2.1 0, 160, .inl (mf))), (md 25, .inr (7, [.ref (md 0), .int (nI op), .ref (md 2), .ref (md 3), .ref (md 4), .ref (md 5), .ref (md 6), .ref (md 7), .ref (md 8), .ref (md 9), .ref (md 10), .ref (md 11), .int (nI on), .ref (md 13), .int (nI inn), .ref (md 15), .ref (md 16), .ref (md 17), .ref (md 18), .ref (md 19), .ref (md 20), .ref (md 21), .ref (md 22), .ref (md 23), .ref (md 24)])), (md 17, .inl (g.2.1 0, 400, .inl (upd (bpF r2_10 (kv kf) (nI 92) i) i ((kv kf i) ^^^ (nI 92))))), (md 16, .inl (g.2.1 0, 64, .inl (w2_11))), (md 15, .inl (g.2.1 0, 8, .inl (s2_12))), (md 22, .inl (g.2.1 0, 64, .inl (kRW))), (md 18, .inl (g.2.1 0, 32, .inl (dig (apA (bpF rf (kv kf) (nI 54) 64) 64 mf n) (64 + n))))] [] H locs := hw
                      refine lv_iinc (v := nI (i + 1)) (lv' := [(2, .int (nI (i + 1))), (0, .ref (md 25))]) hx hb dX7_hmac_108 hl (k := 0) rfl (nI_add i 1) (by decide) rfl (fun ls hl => ?_)
                      refine lv_goto (tgt := 77) hx hb dX7_hmac_111 (by decide) ?_
                      exact ih (i + 1) (by omega) (by omega) _ _ _ hw (lv_sub hl [0, 1] rfl)
              exact lp77 (64 - 0 + 1) 0 (by omega) (by omega) _ _ _ hw (lv_sub hl [0, 1] rfl)
            · skip
              have c4 : ¬ n ≤ i := fun q => c4 (((nI_leI (by omega) (by omega)).mpr q))
              refine lv_aload_n hx hb dX7_hmac_46 rfl (lv_at hl 1 rfl) ?_
              refine r_get (ci := 7) (v := .ref (md 17)) (C := RX7) (T := TX7) (N := 25) hx hb hts hinX7 hown h0 hw 0 rfl rfl 17 (by decide) k54 rfl dX7_hmac_47 ?_
              refine lv_bipush (v := nI 64) hx hb dX7_hmac_50 (by decide +kernel) ?_
              refine lv_iload_n hx hb dX7_hmac_52 rfl (lv_at hl 0 rfl) ?_
              refine lv_iadd hx hb dX7_hmac_53 ?_
              refine r_te (y := nI (64 + i)) (nI_add 64 i) ?_
              refine lv_aload_n hx hb dX7_hmac_54 rfl (lv_at hl 1 rfl) ?_
              refine r_get (ci := 7) (v := .ref (md 21)) (C := RX7) (T := TX7) (N := 25) hx hb hts hinX7 hown h0 hw 0 rfl rfl 21 (by decide) k66 rfl dX7_hmac_55 ?_
              refine lv_iload_n hx hb dX7_hmac_58 rfl (lv_at hl 0 rfl) ?_
              refine r_iald hx hb h0 hw 7 rfl (i := i) (by omega) (by omega) dX7_hmac_59 ?_
              refine r_iast hx hb h0 hw 1 rfl (i := 64 + i) (by omega) (by omega) dX7_hmac_60 (fun H locs hw => ?_)
              have hw : WD g A s [(md 25, .inr (7, [.ref (md 0), .int (nI op), .ref (md 2), .ref (md 3), .ref (md 4), .ref (md 5), .ref (md 6), .ref (md 7), .ref (md 8), .ref (md 9), .ref (md 10), .ref (md 11), .int (nI on), .ref (md 13), .int (nI inn), .ref (md 15), .ref (md 16), .ref (md 17), .ref (md 18), .ref (md 19), .ref (md 20), .ref (md 21), .ref (md 22), .ref (md 23), .ref (md 24)])), (md 17, .inl (g.2.1 0, 400, .inl (upd (apA (bpF rf (kv kf) (nI 54) 64) 64 mf i) (64 + i) (mf i)))), (md 16, .inl (g.2.1 0, 64, .inl (wf))), (md 15, .inl (g.2.1 0, 8, .inl (sf))), (md 22, .inl (g.2.1 0, 64, .inl (kRW))), (md 18, .inl (g.2.1 0, 32, .inl (dg))), (md 19, .inl (g.2.1 0, 32, .inl (kf))), (md 21, .inl (g.2.1 0, 160, .inl (mf)))] [] H locs := hw
              refine lv_iinc (v := nI (i + 1)) (lv' := [(2, .int (nI (i + 1))), (0, .ref (md 25)), (1, .int (nI n))]) hx hb dX7_hmac_61 hl (k := 0) rfl (nI_add i 1) (by decide) rfl (fun ls hl => ?_)
              refine lv_goto (tgt := 41) hx hb dX7_hmac_64 (by decide) ?_
              exact ih (i + 1) (by omega) (by omega) _ _ _ hw (lv_sub hl [0, 1, 2] rfl)
        exact lp41 (n - 0 + 1) 0 (by omega) (by omega) _ _ _ hw (lv_sub hl [0, 1, 2] rfl)
      · skip
        have c1 : ¬ 64 ≤ i := fun q => c1 (((nI_leI (by omega) (by omega)).mpr q))
        refine lv_aload_n hx hb dX7_hmac_8 rfl (lv_at hl 1 rfl) ?_
        refine r_get (ci := 7) (v := .ref (md 17)) (C := RX7) (T := TX7) (N := 25) hx hb hts hinX7 hown h0 hw 0 rfl rfl 17 (by decide) k54 rfl dX7_hmac_9 ?_
        refine lv_iload_n hx hb dX7_hmac_12 rfl (lv_at hl 0 rfl) ?_
        refine lv_iload_n hx hb dX7_hmac_13 rfl (lv_at hl 0 rfl) ?_
        refine lv_bipush (v := nI 32) hx hb dX7_hmac_14 (by decide +kernel) ?_
        refine lv_icmp_ge (tgt := 28) hx hb dX7_hmac_16 (by decide) (fun c26 => ?_) (fun c26 => ?_)
        · skip
          have c26 : 32 ≤ i := (nI_leI (by omega) (by omega)).mp c26
          refine lv_iconst (v := nI 0) hx hb dX7_hmac_28 (by decide +kernel) ?_
          refine r_te (y := kv kf i) (by first | exact kv_lt (by omega) | exact kv_ge (by omega)) ?_
          refine lv_bipush (v := nI 54) hx hb dX7_hmac_29 (by decide +kernel) ?_
          refine lv_ixor hx hb dX7_hmac_31 ?_
          refine r_iast hx hb h0 hw 1 rfl (i := i) (by omega) (by omega) dX7_hmac_32 (fun H locs hw => ?_)
          have hw : WD g A s [(md 25, .inr (7, [.ref (md 0), .int (nI op), .ref (md 2), .ref (md 3), .ref (md 4), .ref (md 5), .ref (md 6), .ref (md 7), .ref (md 8), .ref (md 9), .ref (md 10), .ref (md 11), .int (nI on), .ref (md 13), .int (nI inn), .ref (md 15), .ref (md 16), .ref (md 17), .ref (md 18), .ref (md 19), .ref (md 20), .ref (md 21), .ref (md 22), .ref (md 23), .ref (md 24)])), (md 17, .inl (g.2.1 0, 400, .inl (upd (bpF rf (kv kf) (nI 54) i) i ((kv kf i) ^^^ (nI 54))))), (md 16, .inl (g.2.1 0, 64, .inl (wf))), (md 15, .inl (g.2.1 0, 8, .inl (sf))), (md 22, .inl (g.2.1 0, 64, .inl (kRW))), (md 18, .inl (g.2.1 0, 32, .inl (dg))), (md 19, .inl (g.2.1 0, 32, .inl (kf))), (md 21, .inl (g.2.1 0, 160, .inl (mf)))] [] H locs := hw
          refine lv_iinc (v := nI (i + 1)) (lv' := [(2, .int (nI (i + 1))), (0, .ref (md 25)), (1, .int (nI n))]) hx hb dX7_hmac_33 hl (k := 0) rfl (nI_add i 1) (by decide) rfl (fun ls hl => ?_)
          refine lv_goto (tgt := 2) hx hb dX7_hmac_36 (by decide) ?_
          exact ih (i + 1) (by omega) (by omega) _ _ _ hw (lv_sub hl [0, 1, 2] rfl)
        · skip
          have c26 : ¬ 32 ≤ i := fun q => c26 (((nI_leI (by omega) (by omega)).mpr q))
          refine lv_aload_n hx hb dX7_hmac_19 rfl (lv_at hl 1 rfl) ?_
          refine r_get (ci := 7) (v := .ref (md 19)) (C := RX7) (T := TX7) (N := 25) hx hb hts hinX7 hown h0 hw 0 rfl rfl 19 (by decide) k60 rfl dX7_hmac_20 ?_
          refine lv_iload_n hx hb dX7_hmac_23 rfl (lv_at hl 0 rfl) ?_
          refine r_iald hx hb h0 hw 6 rfl (i := i) (by omega) (by omega) dX7_hmac_24 ?_
          refine lv_goto (tgt := 29) hx hb dX7_hmac_25 (by decide) ?_
          refine r_te (y := kv kf i) (by first | exact kv_lt (by omega) | exact kv_ge (by omega)) ?_
          refine lv_bipush (v := nI 54) hx hb dX7_hmac_29 (by decide +kernel) ?_
          refine lv_ixor hx hb dX7_hmac_31 ?_
          refine r_iast hx hb h0 hw 1 rfl (i := i) (by omega) (by omega) dX7_hmac_32 (fun H locs hw => ?_)
          have hw : WD g A s [(md 25, .inr (7, [.ref (md 0), .int (nI op), .ref (md 2), .ref (md 3), .ref (md 4), .ref (md 5), .ref (md 6), .ref (md 7), .ref (md 8), .ref (md 9), .ref (md 10), .ref (md 11), .int (nI on), .ref (md 13), .int (nI inn), .ref (md 15), .ref (md 16), .ref (md 17), .ref (md 18), .ref (md 19), .ref (md 20), .ref (md 21), .ref (md 22), .ref (md 23), .ref (md 24)])), (md 17, .inl (g.2.1 0, 400, .inl (upd (bpF rf (kv kf) (nI 54) i) i ((kv kf i) ^^^ (nI 54))))), (md 16, .inl (g.2.1 0, 64, .inl (wf))), (md 15, .inl (g.2.1 0, 8, .inl (sf))), (md 22, .inl (g.2.1 0, 64, .inl (kRW))), (md 18, .inl (g.2.1 0, 32, .inl (dg))), (md 19, .inl (g.2.1 0, 32, .inl (kf))), (md 21, .inl (g.2.1 0, 160, .inl (mf)))] [] H locs := hw
          refine lv_iinc (v := nI (i + 1)) (lv' := [(2, .int (nI (i + 1))), (0, .ref (md 25)), (1, .int (nI n))]) hx hb dX7_hmac_33 hl (k := 0) rfl (nI_add i 1) (by decide) rfl (fun ls hl => ?_)
          refine lv_goto (tgt := 2) hx hb dX7_hmac_36 (by decide) ?_
          exact ih (i + 1) (by omega) (by omega) _ _ _ hw (lv_sub hl [0, 1, 2] rfl)
  exact lp2 (64 - 0 + 1) 0 (by omega) (by omega) _ _ _ hw (lv_sub hl [0, 1, 2] rfl)
