set_option maxHeartbeats 4000000 in
set_option maxRecDepth 100000 in
theorem c_X7_init_ (l : Launch) (g : GE) (md : Nat → Nat) (op : Nat) (on : Nat) (inn : Nat) (pf : Nat → Int32) (z : Nat → Nat) (sz : Nat) : MV l yX7_init_ wsX7_init_ { frames := 0, cells := 0, slots := 0, locals := 0 } g [.ref (md 25)] [(md 25, .inr (7, [.ref (md 0), .int (nI op), .ref (md 2), .ref (md 3), .ref (md 4), .ref (md 5), .ref (md 6), .ref (md 7), .ref (md 8), .ref (md 9), .ref (md 10), .ref (md 11), .int (nI on), .ref (md 13), .int (nI inn), .ref (md 15), .ref (md 16), .ref (md 17), .ref (md 18), .ref (md 19), .ref (md 20), .ref (md 21), .ref (md 22), .ref (md 23), .ref (md 24)])), (md 0, .inl (g.2.1 0, 32, .inl (pf))), (md 10, .inl (g.2.1 0, 8, .inl (szF z)))] sz (fun (_ : Unit) => True) (fun (_ : Unit) => [(md 25, .inr (7, [.ref (md 0), .int (nI 0), .ref (md 2), .ref (md 3), .ref (md 4), .ref (md 5), .ref (md 6), .ref (md 7), .ref (md 8), .ref (md 9), .ref (md 10), .ref (md 11), .int (nI 0), .ref (md 13), .int (nI 0), .ref (md 15), .ref (md 16), .ref (md 17), .ref (md 18), .ref (md 19), .ref (md 20), .ref (md 21), .ref (md 22), .ref (md 23), .ref (md 24)])), (md 0, .inl (g.2.1 0, 32, .inl (zro))), (md 10, .inl (g.2.1 0, 8, .inl (szF (zc z 8))))]) 0 0 := by
  refine enterV (by decide) rfl (Nat.le_of_ble_eq_true rfl) ?_
  intro p e s m below meth c A ls ar Q hE h0 hret hw hl
  obtain ⟨hx, hb, hr, hml, hown, hts, hlocks, hname⟩ := hE
  have hown : s.vm.findClass RX7 = some m.cls := hown
  have hw : WD g A s [(md 25, .inr (7, [.ref (md 0), .int (nI op), .ref (md 2), .ref (md 3), .ref (md 4), .ref (md 5), .ref (md 6), .ref (md 7), .ref (md 8), .ref (md 9), .ref (md 10), .ref (md 11), .int (nI on), .ref (md 13), .int (nI inn), .ref (md 15), .ref (md 16), .ref (md 17), .ref (md 18), .ref (md 19), .ref (md 20), .ref (md 21), .ref (md 22), .ref (md 23), .ref (md 24)])), (md 0, .inl (g.2.1 0, 32, .inl (pf))), (md 10, .inl (g.2.1 0, 8, .inl (szF z)))] [] s.heap [] := hw
  have hinX7 : ∀ w ∈ u_ws RX7 TX7 25, w ∈ wsX7_init_ := by decide +kernel
  have k7 := hts (.fieldLink RX7 7 "RecordWireModel" "psk" "[I") (by decide +kernel)
  have k39 := hts (.fieldLink RX7 39 "RecordWireModel" "sizes" "[I") (by decide +kernel)
  have k145 := hts (.fieldLink RX7 145 "RecordWireModel" "isOpen" "Z") (by decide +kernel)
  have k149 := hts (.fieldLink RX7 149 "RecordWireModel" "outSize" "I") (by decide +kernel)
  have k153 := hts (.fieldLink RX7 153 "RecordWireModel" "inSize" "I") (by decide +kernel)
  have hl : lv_has ls 2 [(0, .ref (md 25))] := hl
  refine lv_iconst (v := nI 0) hx hb dX7_init__0 (by decide +kernel) ?_
  refine lv_istore_n (lv' := [(1, .int (nI 0)), (0, .ref (md 25))]) hx hb dX7_init__1 rfl hl (by decide) rfl (fun ls hl => ?_)
  have lp2 : ∀ (fu : Nat) (i : Nat), 32 - i < fu → (i ≤ 32) → ∀ (H : Heap) (locs : List Loc) (ls : Array Slot), WD g A s [(md 25, .inr (7, [.ref (md 0), .int (nI op), .ref (md 2), .ref (md 3), .ref (md 4), .ref (md 5), .ref (md 6), .ref (md 7), .ref (md 8), .ref (md 9), .ref (md 10), .ref (md 11), .int (nI on), .ref (md 13), .int (nI inn), .ref (md 15), .ref (md 16), .ref (md 17), .ref (md 18), .ref (md 19), .ref (md 20), .ref (md 21), .ref (md 22), .ref (md 23), .ref (md 24)])), (md 0, .inl (g.2.1 0, 32, .inl (pzF pf i))), (md 10, .inl (g.2.1 0, 8, .inl (szF z)))] [] H locs → lv_has ls 2 [(1, .int (nI i)), (0, .ref (md 25))] → W p l e { frames := 0, cells := 0, slots := 0, locals := 0 } s m ar below meth c H locs 0 0 Q (F0 m 2 ls []) := by
    intro fu
    induction fu with
    | zero => intro i hmz; exact absurd hmz (Nat.not_lt_zero _)
    | succ fu ih =>
      intro i hms hi H locs ls hw hl
      refine lv_iload_n hx hb dX7_init__2 rfl (lv_at hl 0 rfl) ?_
      refine lv_bipush (v := nI 32) hx hb dX7_init__3 (by decide +kernel) ?_
      refine lv_icmp_ge (tgt := 21) hx hb dX7_init__5 (by decide) (fun c1 => ?_) (fun c1 => ?_)
      · skip
        have c1 : 32 ≤ i := (nI_leI (by omega) (by omega)).mp c1
        have hq : i = 32 := by omega
        have hwS2 := hw; have hlS3 := hl
        subst i
        have hw := hwS2; have hl := hlS3
        have hw := hw.cong 1 rfl (f' := zro) (pzF_at pf 32)
        have hw : WD g A s [(md 25, .inr (7, [.ref (md 0), .int (nI op), .ref (md 2), .ref (md 3), .ref (md 4), .ref (md 5), .ref (md 6), .ref (md 7), .ref (md 8), .ref (md 9), .ref (md 10), .ref (md 11), .int (nI on), .ref (md 13), .int (nI inn), .ref (md 15), .ref (md 16), .ref (md 17), .ref (md 18), .ref (md 19), .ref (md 20), .ref (md 21), .ref (md 22), .ref (md 23), .ref (md 24)])), (md 0, .inl (g.2.1 0, 32, .inl (zro))), (md 10, .inl (g.2.1 0, 8, .inl (szF z)))] [] _ _ := hw
        refine lv_aload_n hx hb dX7_init__21 rfl (lv_at hl 1 rfl) ?_
        refine lv_iconst (v := nI 0) hx hb dX7_init__22 (by decide +kernel) ?_
        refine r_put (ci := 7) (v := .int (nI 0)) (C := RX7) (T := TX7) (N := 25) hx hb hts hinX7 tyX7 tyX7_ok nmX7 hown h0 hw 0 rfl rfl 1 (by decide) k145 rfl rfl rfl (Nat.le_of_ble_eq_true rfl) dX7_init__23 (fun H locs hw => ?_)
        have hw : WD g A s [(md 25, .inr (7, [.ref (md 0), .int (nI 0), .ref (md 2), .ref (md 3), .ref (md 4), .ref (md 5), .ref (md 6), .ref (md 7), .ref (md 8), .ref (md 9), .ref (md 10), .ref (md 11), .int (nI on), .ref (md 13), .int (nI inn), .ref (md 15), .ref (md 16), .ref (md 17), .ref (md 18), .ref (md 19), .ref (md 20), .ref (md 21), .ref (md 22), .ref (md 23), .ref (md 24)])), (md 0, .inl (g.2.1 0, 32, .inl (zro))), (md 10, .inl (g.2.1 0, 8, .inl (szF z)))] [] H locs := hw
        refine lv_iconst (v := nI 0) hx hb dX7_init__26 (by decide +kernel) ?_
        refine lv_istore_n (lv' := [(1, .int (nI 0)), (0, .ref (md 25))]) hx hb dX7_init__27 rfl hl (by decide) rfl (fun ls hl => ?_)
        have lp28 : ∀ (fu : Nat) (i : Nat), 8 - i < fu → (i ≤ 8) → ∀ (H : Heap) (locs : List Loc) (ls : Array Slot), WD g A s [(md 25, .inr (7, [.ref (md 0), .int (nI 0), .ref (md 2), .ref (md 3), .ref (md 4), .ref (md 5), .ref (md 6), .ref (md 7), .ref (md 8), .ref (md 9), .ref (md 10), .ref (md 11), .int (nI on), .ref (md 13), .int (nI inn), .ref (md 15), .ref (md 16), .ref (md 17), .ref (md 18), .ref (md 19), .ref (md 20), .ref (md 21), .ref (md 22), .ref (md 23), .ref (md 24)])), (md 0, .inl (g.2.1 0, 32, .inl (zro))), (md 10, .inl (g.2.1 0, 8, .inl (pzF (szF z) i)))] [] H locs → lv_has ls 2 [(1, .int (nI i)), (0, .ref (md 25))] → W p l e { frames := 0, cells := 0, slots := 0, locals := 0 } s m ar below meth c H locs 0 0 Q (F0 m 28 ls []) := by
          intro fu
          induction fu with
          | zero => intro i hmz; exact absurd hmz (Nat.not_lt_zero _)
          | succ fu ih =>
            intro i hms hi H locs ls hw hl
            refine lv_iload_n hx hb dX7_init__28 rfl (lv_at hl 0 rfl) ?_
            refine lv_bipush (v := nI 8) hx hb dX7_init__29 (by decide +kernel) ?_
            refine lv_icmp_ge (tgt := 47) hx hb dX7_init__31 (by decide) (fun c4 => ?_) (fun c4 => ?_)
            · skip
              have c4 : 8 ≤ i := (nI_leI (by omega) (by omega)).mp c4
              have hq : i = 8 := by omega
              have hwS5 := hw; have hlS6 := hl
              subst i
              have hw := hwS5; have hl := hlS6
              have hw : WD g A s [(md 25, .inr (7, [.ref (md 0), .int (nI 0), .ref (md 2), .ref (md 3), .ref (md 4), .ref (md 5), .ref (md 6), .ref (md 7), .ref (md 8), .ref (md 9), .ref (md 10), .ref (md 11), .int (nI on), .ref (md 13), .int (nI inn), .ref (md 15), .ref (md 16), .ref (md 17), .ref (md 18), .ref (md 19), .ref (md 20), .ref (md 21), .ref (md 22), .ref (md 23), .ref (md 24)])), (md 0, .inl (g.2.1 0, 32, .inl (zro))), (md 10, .inl (g.2.1 0, 8, .inl (szF (zc z 8))))] [] H locs := by rw [← pzF_sz]; exact hw
              refine lv_aload_n hx hb dX7_init__47 rfl (lv_at hl 1 rfl) ?_
              refine lv_iconst (v := nI 0) hx hb dX7_init__48 (by decide +kernel) ?_
              refine r_put (ci := 7) (v := .int (nI 0)) (C := RX7) (T := TX7) (N := 25) hx hb hts hinX7 tyX7 tyX7_ok nmX7 hown h0 hw 0 rfl rfl 12 (by decide) k149 rfl rfl rfl (Nat.le_of_ble_eq_true rfl) dX7_init__49 (fun H locs hw => ?_)
              have hw : WD g A s [(md 25, .inr (7, [.ref (md 0), .int (nI 0), .ref (md 2), .ref (md 3), .ref (md 4), .ref (md 5), .ref (md 6), .ref (md 7), .ref (md 8), .ref (md 9), .ref (md 10), .ref (md 11), .int (nI 0), .ref (md 13), .int (nI inn), .ref (md 15), .ref (md 16), .ref (md 17), .ref (md 18), .ref (md 19), .ref (md 20), .ref (md 21), .ref (md 22), .ref (md 23), .ref (md 24)])), (md 0, .inl (g.2.1 0, 32, .inl (zro))), (md 10, .inl (g.2.1 0, 8, .inl (szF (zc z 8))))] [] H locs := hw
              refine lv_aload_n hx hb dX7_init__52 rfl (lv_at hl 1 rfl) ?_
              refine lv_iconst (v := nI 0) hx hb dX7_init__53 (by decide +kernel) ?_
              refine r_put (ci := 7) (v := .int (nI 0)) (C := RX7) (T := TX7) (N := 25) hx hb hts hinX7 tyX7 tyX7_ok nmX7 hown h0 hw 0 rfl rfl 14 (by decide) k153 rfl rfl rfl (Nat.le_of_ble_eq_true rfl) dX7_init__54 (fun H locs hw => ?_)
              have hw : WD g A s [(md 25, .inr (7, [.ref (md 0), .int (nI 0), .ref (md 2), .ref (md 3), .ref (md 4), .ref (md 5), .ref (md 6), .ref (md 7), .ref (md 8), .ref (md 9), .ref (md 10), .ref (md 11), .int (nI 0), .ref (md 13), .int (nI 0), .ref (md 15), .ref (md 16), .ref (md 17), .ref (md 18), .ref (md 19), .ref (md 20), .ref (md 21), .ref (md 22), .ref (md 23), .ref (md 24)])), (md 0, .inl (g.2.1 0, 32, .inl (zro))), (md 10, .inl (g.2.1 0, 8, .inl (szF (zc z 8))))] [] H locs := hw
              exact hret hw () (trivial) (rfl) (by omega) (by omega) dX7_init__57
            · skip
              have c4 : ¬ 8 ≤ i := fun q => c4 (((nI_leI (by omega) (by omega)).mpr q))
              refine lv_aload_n hx hb dX7_init__34 rfl (lv_at hl 1 rfl) ?_
              refine r_get (ci := 7) (v := .ref (md 10)) (C := RX7) (T := TX7) (N := 25) hx hb hts hinX7 hown h0 hw 0 rfl rfl 10 (by decide) k39 rfl dX7_init__35 ?_
              refine lv_iload_n hx hb dX7_init__38 rfl (lv_at hl 0 rfl) ?_
              refine lv_iconst (v := nI 0) hx hb dX7_init__39 (by decide +kernel) ?_
              refine r_iast hx hb h0 hw 2 rfl (i := i) (by omega) (by omega) dX7_init__40 (fun H locs hw => ?_)
              have hw : WD g A s [(md 25, .inr (7, [.ref (md 0), .int (nI 0), .ref (md 2), .ref (md 3), .ref (md 4), .ref (md 5), .ref (md 6), .ref (md 7), .ref (md 8), .ref (md 9), .ref (md 10), .ref (md 11), .int (nI on), .ref (md 13), .int (nI inn), .ref (md 15), .ref (md 16), .ref (md 17), .ref (md 18), .ref (md 19), .ref (md 20), .ref (md 21), .ref (md 22), .ref (md 23), .ref (md 24)])), (md 0, .inl (g.2.1 0, 32, .inl (zro))), (md 10, .inl (g.2.1 0, 8, .inl (upd (pzF (szF z) i) i (nI 0))))] [] H locs := hw
              refine lv_iinc (v := nI (i + 1)) (lv' := [(1, .int (nI (i + 1))), (0, .ref (md 25))]) hx hb dX7_init__41 hl (k := 0) rfl (nI_add i 1) (by decide) rfl (fun ls hl => ?_)
              refine lv_goto (tgt := 28) hx hb dX7_init__44 (by decide) ?_
              exact ih (i + 1) (by omega) (by omega) _ _ _ hw (lv_sub hl [0, 1] rfl)
        exact lp28 (8 - 0 + 1) 0 (by omega) (by omega) _ _ _ hw (lv_sub hl [0, 1] rfl)
      · skip
        have c1 : ¬ 32 ≤ i := fun q => c1 (((nI_leI (by omega) (by omega)).mpr q))
        refine lv_aload_n hx hb dX7_init__8 rfl (lv_at hl 1 rfl) ?_
        refine r_get (ci := 7) (v := .ref (md 0)) (C := RX7) (T := TX7) (N := 25) hx hb hts hinX7 hown h0 hw 0 rfl rfl 0 (by decide) k7 rfl dX7_init__9 ?_
        refine lv_iload_n hx hb dX7_init__12 rfl (lv_at hl 0 rfl) ?_
        refine lv_iconst (v := nI 0) hx hb dX7_init__13 (by decide +kernel) ?_
        refine r_iast hx hb h0 hw 1 rfl (i := i) (by omega) (by omega) dX7_init__14 (fun H locs hw => ?_)
        have hw : WD g A s [(md 25, .inr (7, [.ref (md 0), .int (nI op), .ref (md 2), .ref (md 3), .ref (md 4), .ref (md 5), .ref (md 6), .ref (md 7), .ref (md 8), .ref (md 9), .ref (md 10), .ref (md 11), .int (nI on), .ref (md 13), .int (nI inn), .ref (md 15), .ref (md 16), .ref (md 17), .ref (md 18), .ref (md 19), .ref (md 20), .ref (md 21), .ref (md 22), .ref (md 23), .ref (md 24)])), (md 0, .inl (g.2.1 0, 32, .inl (upd (pzF pf i) i (nI 0)))), (md 10, .inl (g.2.1 0, 8, .inl (szF z)))] [] H locs := hw
        refine lv_iinc (v := nI (i + 1)) (lv' := [(1, .int (nI (i + 1))), (0, .ref (md 25))]) hx hb dX7_init__15 hl (k := 0) rfl (nI_add i 1) (by decide) rfl (fun ls hl => ?_)
        refine lv_goto (tgt := 2) hx hb dX7_init__18 (by decide) ?_
        exact ih (i + 1) (by omega) (by omega) _ _ _ hw (lv_sub hl [0, 1] rfl)
  exact lp2 (32 - 0 + 1) 0 (by omega) (by omega) _ _ _ hw (lv_sub hl [0, 1] rfl)

set_option maxHeartbeats 4000000 in
set_option maxRecDepth 100000 in
theorem c_X7_setPsk (l : Launch) (g : GE) (md : Nat → Nat) (op : Nat) (on : Nat) (inn : Nat) (pf : Nat → Int32) (i : Nat) (v : Int32) (hop : op = 0) (hi : i < 32) (hv : inR v 256) (sz : Nat) : MI l yX7_setPsk wsX7_setPsk { frames := 0, cells := 0, slots := 0, locals := 0 } g [.ref (md 25), .int (nI i), .int (v)] [(md 25, .inr (7, [.ref (md 0), .int (nI op), .ref (md 2), .ref (md 3), .ref (md 4), .ref (md 5), .ref (md 6), .ref (md 7), .ref (md 8), .ref (md 9), .ref (md 10), .ref (md 11), .int (nI on), .ref (md 13), .int (nI inn), .ref (md 15), .ref (md 16), .ref (md 17), .ref (md 18), .ref (md 19), .ref (md 20), .ref (md 21), .ref (md 22), .ref (md 23), .ref (md 24)])), (md 0, .inl (g.2.1 0, 32, .inl (pf)))] sz (fun (r : Int32) (_ : Unit) => r = nI 1) (fun (_ : Unit) => [(md 25, .inr (7, [.ref (md 0), .int (nI op), .ref (md 2), .ref (md 3), .ref (md 4), .ref (md 5), .ref (md 6), .ref (md 7), .ref (md 8), .ref (md 9), .ref (md 10), .ref (md 11), .int (nI on), .ref (md 13), .int (nI inn), .ref (md 15), .ref (md 16), .ref (md 17), .ref (md 18), .ref (md 19), .ref (md 20), .ref (md 21), .ref (md 22), .ref (md 23), .ref (md 24)])), (md 0, .inl (g.2.1 0, 32, .inl (upd pf i v)))]) 0 0 := by
  refine enterZ (by decide) rfl (Nat.le_of_ble_eq_true rfl) ?_
  intro p e s m below meth c A ls ar Q hE h0 hret hw hl
  obtain ⟨hx, hb, hr, hml, hown, hts, hlocks, hname⟩ := hE
  have hown : s.vm.findClass RX7 = some m.cls := hown
  have hw : WD g A s [(md 25, .inr (7, [.ref (md 0), .int (nI op), .ref (md 2), .ref (md 3), .ref (md 4), .ref (md 5), .ref (md 6), .ref (md 7), .ref (md 8), .ref (md 9), .ref (md 10), .ref (md 11), .int (nI on), .ref (md 13), .int (nI inn), .ref (md 15), .ref (md 16), .ref (md 17), .ref (md 18), .ref (md 19), .ref (md 20), .ref (md 21), .ref (md 22), .ref (md 23), .ref (md 24)])), (md 0, .inl (g.2.1 0, 32, .inl (pf)))] [] s.heap [] := hw
  have hinX7 : ∀ w ∈ u_ws RX7 TX7 25, w ∈ wsX7_setPsk := by decide +kernel
  have k7 := hts (.fieldLink RX7 7 "RecordWireModel" "psk" "[I") (by decide +kernel)
  have k145 := hts (.fieldLink RX7 145 "RecordWireModel" "isOpen" "Z") (by decide +kernel)
  have hl : lv_has ls 4 [(0, .ref (md 25)), (1, .int (nI i)), (2, .int (v))] := hl
  refine lv_iload_n hx hb dX7_setPsk_0 rfl (lv_at hl 1 rfl) ?_
  refine lv_if_lt (tgt := 32) hx hb dX7_setPsk_1 (by decide) (fun c1 => ?_) (fun c1 => ?_)
  · skip
    rw [← nI_0] at c1
    have c1 : i < 0 := (nI_ltI (by omega) (by omega)).mp c1
    exfalso; omega
  · skip
    rw [← nI_0] at c1
    have c1 : ¬ i < 0 := fun q => c1 (((nI_ltI (by omega) (by omega)).mpr q))
    refine lv_iload_n hx hb dX7_setPsk_4 rfl (lv_at hl 1 rfl) ?_
    refine lv_bipush (v := nI 32) hx hb dX7_setPsk_5 (by decide +kernel) ?_
    refine lv_icmp_ge (tgt := 32) hx hb dX7_setPsk_7 (by decide) (fun c2 => ?_) (fun c2 => ?_)
    · skip
      have c2 : 32 ≤ i := (nI_leI (by omega) (by omega)).mp c2
      exfalso; omega
    · skip
      have c2 : ¬ 32 ≤ i := fun q => c2 (((nI_leI (by omega) (by omega)).mpr q))
      refine lv_iload_n hx hb dX7_setPsk_10 rfl (lv_at hl 2 rfl) ?_
      refine lv_if_lt (tgt := 32) hx hb dX7_setPsk_11 (by decide) (fun c3 => ?_) (fun c3 => ?_)
      · skip
        exact absurd c3 (Int32.not_lt.mpr hv.1)
      · skip
        refine lv_iload_n hx hb dX7_setPsk_14 rfl (lv_at hl 2 rfl) ?_
        refine lv_sipush (v := nI 256) hx hb dX7_setPsk_15 (by decide +kernel) ?_
        refine lv_icmp_ge (tgt := 32) hx hb dX7_setPsk_18 (by decide) (fun c4 => ?_) (fun c4 => ?_)
        · skip
          exact absurd c4 (Int32.not_le.mpr hv.2)
        · skip
          refine lv_aload_n hx hb dX7_setPsk_21 rfl (lv_at hl 0 rfl) ?_
          refine r_get (ci := 7) (v := .int (nI op)) (C := RX7) (T := TX7) (N := 25) hx hb hts hinX7 hown h0 hw 0 rfl rfl 1 (by decide) k145 rfl dX7_setPsk_22 ?_
          refine lv_if_ne (tgt := 32) hx hb dX7_setPsk_25 (by decide) (fun c5 => ?_) (fun c5 => ?_)
          · skip
            rw [← nI_0] at c5
            have c5 : ¬ op = 0 := fun q => c5 (((nI_eq (by omega) (by omega)).mpr q))
            exfalso; omega
          · skip
            rw [← nI_0] at c5
            have c5 : op = 0 := (nI_eq (by omega) (by omega)).mp c5
            refine lv_iconst (v := nI 1) hx hb dX7_setPsk_28 (by decide +kernel) ?_
            refine lv_goto (tgt := 33) hx hb dX7_setPsk_29 (by decide) ?_
            refine lv_istore_n (lv' := [(3, .int (nI 1)), (0, .ref (md 25)), (1, .int (nI i)), (2, .int (v))]) hx hb dX7_setPsk_33 rfl hl (by decide) rfl (fun ls hl => ?_)
            refine lv_iload_n hx hb dX7_setPsk_34 rfl (lv_at hl 0 rfl) ?_
            refine lv_if_eq (tgt := 45) hx hb dX7_setPsk_35 (by decide) (fun c6 => ?_) (fun c6 => ?_)
            · skip
              rw [← nI_0] at c6
              have c6 : 1 = 0 := (nI_eq (by omega) (by omega)).mp c6
              exfalso; omega
            · skip
              rw [← nI_0] at c6
              have c6 : ¬ 1 = 0 := fun q => c6 (((nI_eq (by omega) (by omega)).mpr q))
              refine lv_aload_n hx hb dX7_setPsk_38 rfl (lv_at hl 1 rfl) ?_
              refine r_get (ci := 7) (v := .ref (md 0)) (C := RX7) (T := TX7) (N := 25) hx hb hts hinX7 hown h0 hw 0 rfl rfl 0 (by decide) k7 rfl dX7_setPsk_39 ?_
              refine lv_iload_n hx hb dX7_setPsk_42 rfl (lv_at hl 2 rfl) ?_
              refine lv_iload_n hx hb dX7_setPsk_43 rfl (lv_at hl 3 rfl) ?_
              refine r_iast hx hb h0 hw 1 rfl (i := i) (by omega) (by omega) dX7_setPsk_44 (fun H locs hw => ?_)
              have hw : WD g A s [(md 25, .inr (7, [.ref (md 0), .int (nI op), .ref (md 2), .ref (md 3), .ref (md 4), .ref (md 5), .ref (md 6), .ref (md 7), .ref (md 8), .ref (md 9), .ref (md 10), .ref (md 11), .int (nI on), .ref (md 13), .int (nI inn), .ref (md 15), .ref (md 16), .ref (md 17), .ref (md 18), .ref (md 19), .ref (md 20), .ref (md 21), .ref (md 22), .ref (md 23), .ref (md 24)])), (md 0, .inl (g.2.1 0, 32, .inl (upd pf i v)))] [] H locs := hw
              refine lv_iload_n hx hb dX7_setPsk_45 rfl (lv_at hl 0 rfl) ?_
              exact hret (rfl) hw () (rfl) (rfl) (by omega) (by omega) dX7_setPsk_46

set_option maxHeartbeats 4000000 in
set_option maxRecDepth 100000 in
theorem c_X7_setPsk_bad (l : Launch) (g : GE) (md : Nat → Nat) (op : Nat) (on : Nat) (inn : Nat) (pf : Nat → Int32) (i : Int32) (v : Int32) (hop : op < 2) (hbad : ¬ (op = 0 ∧ inR i 32 ∧ inR v 256)) (sz : Nat) : MI l yX7_setPsk wsX7_setPsk { frames := 0, cells := 0, slots := 0, locals := 0 } g [.ref (md 25), .int (i), .int (v)] [(md 25, .inr (7, [.ref (md 0), .int (nI op), .ref (md 2), .ref (md 3), .ref (md 4), .ref (md 5), .ref (md 6), .ref (md 7), .ref (md 8), .ref (md 9), .ref (md 10), .ref (md 11), .int (nI on), .ref (md 13), .int (nI inn), .ref (md 15), .ref (md 16), .ref (md 17), .ref (md 18), .ref (md 19), .ref (md 20), .ref (md 21), .ref (md 22), .ref (md 23), .ref (md 24)])), (md 0, .inl (g.2.1 0, 32, .inl (pf)))] sz (fun (r : Int32) (_ : Unit) => r = nI 0) (fun (_ : Unit) => [(md 25, .inr (7, [.ref (md 0), .int (nI op), .ref (md 2), .ref (md 3), .ref (md 4), .ref (md 5), .ref (md 6), .ref (md 7), .ref (md 8), .ref (md 9), .ref (md 10), .ref (md 11), .int (nI on), .ref (md 13), .int (nI inn), .ref (md 15), .ref (md 16), .ref (md 17), .ref (md 18), .ref (md 19), .ref (md 20), .ref (md 21), .ref (md 22), .ref (md 23), .ref (md 24)])), (md 0, .inl (g.2.1 0, 32, .inl (pf)))]) 0 0 := by
  refine enterZ (by decide) rfl (Nat.le_of_ble_eq_true rfl) ?_
  intro p e s m below meth c A ls ar Q hE h0 hret hw hl
  obtain ⟨hx, hb, hr, hml, hown, hts, hlocks, hname⟩ := hE
  have hown : s.vm.findClass RX7 = some m.cls := hown
  have hw : WD g A s [(md 25, .inr (7, [.ref (md 0), .int (nI op), .ref (md 2), .ref (md 3), .ref (md 4), .ref (md 5), .ref (md 6), .ref (md 7), .ref (md 8), .ref (md 9), .ref (md 10), .ref (md 11), .int (nI on), .ref (md 13), .int (nI inn), .ref (md 15), .ref (md 16), .ref (md 17), .ref (md 18), .ref (md 19), .ref (md 20), .ref (md 21), .ref (md 22), .ref (md 23), .ref (md 24)])), (md 0, .inl (g.2.1 0, 32, .inl (pf)))] [] s.heap [] := hw
  have hinX7 : ∀ w ∈ u_ws RX7 TX7 25, w ∈ wsX7_setPsk := by decide +kernel
  have k7 := hts (.fieldLink RX7 7 "RecordWireModel" "psk" "[I") (by decide +kernel)
  have k145 := hts (.fieldLink RX7 145 "RecordWireModel" "isOpen" "Z") (by decide +kernel)
  have hl : lv_has ls 4 [(0, .ref (md 25)), (1, .int (i)), (2, .int (v))] := hl
  refine lv_iload_n hx hb dX7_setPsk_0 rfl (lv_at hl 1 rfl) ?_
  refine lv_if_lt (tgt := 32) hx hb dX7_setPsk_1 (by decide) (fun c1 => ?_) (fun c1 => ?_)
  · skip
    have q1 := c1
    refine lv_iconst (v := nI 0) hx hb dX7_setPsk_32 (by decide +kernel) ?_
    refine lv_istore_n (lv' := [(3, .int (nI 0)), (0, .ref (md 25)), (1, .int (i)), (2, .int (v))]) hx hb dX7_setPsk_33 rfl hl (by decide) rfl (fun ls hl => ?_)
    refine lv_iload_n hx hb dX7_setPsk_34 rfl (lv_at hl 0 rfl) ?_
    refine lv_if_eq (tgt := 45) hx hb dX7_setPsk_35 (by decide) (fun c2 => ?_) (fun c2 => ?_)
    · skip
      rw [← nI_0] at c2
      have c2 : 0 = 0 := (nI_eq (by omega) (by omega)).mp c2
      refine lv_iload_n hx hb dX7_setPsk_45 rfl (lv_at hl 0 rfl) ?_
      exact hret (rfl) hw () (rfl) (rfl) (by omega) (by omega) dX7_setPsk_46
    · skip
      rw [← nI_0] at c2
      have c2 : ¬ 0 = 0 := fun q => c2 (((nI_eq (by omega) (by omega)).mpr q))
      exfalso; omega
  · skip
    have q1 := c1
    refine lv_iload_n hx hb dX7_setPsk_4 rfl (lv_at hl 1 rfl) ?_
    refine lv_bipush (v := nI 32) hx hb dX7_setPsk_5 (by decide +kernel) ?_
    refine lv_icmp_ge (tgt := 32) hx hb dX7_setPsk_7 (by decide) (fun c3 => ?_) (fun c3 => ?_)
    · skip
      have q2 := c3
      refine lv_iconst (v := nI 0) hx hb dX7_setPsk_32 (by decide +kernel) ?_
      refine lv_istore_n (lv' := [(3, .int (nI 0)), (0, .ref (md 25)), (1, .int (i)), (2, .int (v))]) hx hb dX7_setPsk_33 rfl hl (by decide) rfl (fun ls hl => ?_)
      refine lv_iload_n hx hb dX7_setPsk_34 rfl (lv_at hl 0 rfl) ?_
      refine lv_if_eq (tgt := 45) hx hb dX7_setPsk_35 (by decide) (fun c4 => ?_) (fun c4 => ?_)
      · skip
        rw [← nI_0] at c4
        have c4 : 0 = 0 := (nI_eq (by omega) (by omega)).mp c4
        refine lv_iload_n hx hb dX7_setPsk_45 rfl (lv_at hl 0 rfl) ?_
        exact hret (rfl) hw () (rfl) (rfl) (by omega) (by omega) dX7_setPsk_46
      · skip
        rw [← nI_0] at c4
        have c4 : ¬ 0 = 0 := fun q => c4 (((nI_eq (by omega) (by omega)).mpr q))
        exfalso; omega
    · skip
      have q2 := c3
      refine lv_iload_n hx hb dX7_setPsk_10 rfl (lv_at hl 2 rfl) ?_
      refine lv_if_lt (tgt := 32) hx hb dX7_setPsk_11 (by decide) (fun c5 => ?_) (fun c5 => ?_)
      · skip
        have q3 := c5
        refine lv_iconst (v := nI 0) hx hb dX7_setPsk_32 (by decide +kernel) ?_
        refine lv_istore_n (lv' := [(3, .int (nI 0)), (0, .ref (md 25)), (1, .int (i)), (2, .int (v))]) hx hb dX7_setPsk_33 rfl hl (by decide) rfl (fun ls hl => ?_)
        refine lv_iload_n hx hb dX7_setPsk_34 rfl (lv_at hl 0 rfl) ?_
        refine lv_if_eq (tgt := 45) hx hb dX7_setPsk_35 (by decide) (fun c6 => ?_) (fun c6 => ?_)
        · skip
          rw [← nI_0] at c6
          have c6 : 0 = 0 := (nI_eq (by omega) (by omega)).mp c6
          refine lv_iload_n hx hb dX7_setPsk_45 rfl (lv_at hl 0 rfl) ?_
          exact hret (rfl) hw () (rfl) (rfl) (by omega) (by omega) dX7_setPsk_46
        · skip
          rw [← nI_0] at c6
          have c6 : ¬ 0 = 0 := fun q => c6 (((nI_eq (by omega) (by omega)).mpr q))
          exfalso; omega
      · skip
        have q3 := c5
        refine lv_iload_n hx hb dX7_setPsk_14 rfl (lv_at hl 2 rfl) ?_
        refine lv_sipush (v := nI 256) hx hb dX7_setPsk_15 (by decide +kernel) ?_
        refine lv_icmp_ge (tgt := 32) hx hb dX7_setPsk_18 (by decide) (fun c7 => ?_) (fun c7 => ?_)
        · skip
          have q4 := c7
          refine lv_iconst (v := nI 0) hx hb dX7_setPsk_32 (by decide +kernel) ?_
          refine lv_istore_n (lv' := [(3, .int (nI 0)), (0, .ref (md 25)), (1, .int (i)), (2, .int (v))]) hx hb dX7_setPsk_33 rfl hl (by decide) rfl (fun ls hl => ?_)
          refine lv_iload_n hx hb dX7_setPsk_34 rfl (lv_at hl 0 rfl) ?_
          refine lv_if_eq (tgt := 45) hx hb dX7_setPsk_35 (by decide) (fun c8 => ?_) (fun c8 => ?_)
          · skip
            rw [← nI_0] at c8
            have c8 : 0 = 0 := (nI_eq (by omega) (by omega)).mp c8
            refine lv_iload_n hx hb dX7_setPsk_45 rfl (lv_at hl 0 rfl) ?_
            exact hret (rfl) hw () (rfl) (rfl) (by omega) (by omega) dX7_setPsk_46
          · skip
            rw [← nI_0] at c8
            have c8 : ¬ 0 = 0 := fun q => c8 (((nI_eq (by omega) (by omega)).mpr q))
            exfalso; omega
        · skip
          have q4 := c7
          refine lv_aload_n hx hb dX7_setPsk_21 rfl (lv_at hl 0 rfl) ?_
          refine r_get (ci := 7) (v := .int (nI op)) (C := RX7) (T := TX7) (N := 25) hx hb hts hinX7 hown h0 hw 0 rfl rfl 1 (by decide) k145 rfl dX7_setPsk_22 ?_
          refine lv_if_ne (tgt := 32) hx hb dX7_setPsk_25 (by decide) (fun c9 => ?_) (fun c9 => ?_)
          · skip
            rw [← nI_0] at c9
            have c9 : ¬ op = 0 := fun q => c9 (((nI_eq (by omega) (by omega)).mpr q))
            refine lv_iconst (v := nI 0) hx hb dX7_setPsk_32 (by decide +kernel) ?_
            refine lv_istore_n (lv' := [(3, .int (nI 0)), (0, .ref (md 25)), (1, .int (i)), (2, .int (v))]) hx hb dX7_setPsk_33 rfl hl (by decide) rfl (fun ls hl => ?_)
            refine lv_iload_n hx hb dX7_setPsk_34 rfl (lv_at hl 0 rfl) ?_
            refine lv_if_eq (tgt := 45) hx hb dX7_setPsk_35 (by decide) (fun c10 => ?_) (fun c10 => ?_)
            · skip
              rw [← nI_0] at c10
              have c10 : 0 = 0 := (nI_eq (by omega) (by omega)).mp c10
              refine lv_iload_n hx hb dX7_setPsk_45 rfl (lv_at hl 0 rfl) ?_
              exact hret (rfl) hw () (rfl) (rfl) (by omega) (by omega) dX7_setPsk_46
            · skip
              rw [← nI_0] at c10
              have c10 : ¬ 0 = 0 := fun q => c10 (((nI_eq (by omega) (by omega)).mpr q))
              exfalso; omega
          · skip
            rw [← nI_0] at c9
            have c9 : op = 0 := (nI_eq (by omega) (by omega)).mp c9
            exact absurd ⟨c9, ⟨Int32.not_lt.mp q1, Int32.not_le.mp q2⟩, Int32.not_lt.mp q3, Int32.not_le.mp q4⟩ hbad

set_option maxHeartbeats 4000000 in
set_option maxRecDepth 100000 in
theorem c_X7_put (l : Launch) (g : GE) (md : Nat → Nat) (op : Nat) (on : Nat) (inn : Nat) (obf : Nat → Int32) (v : Int32) (hv : inR v 256) (hn : on < 96) (sz : Nat) : MI l yX7_put wsX7_put { frames := 0, cells := 0, slots := 0, locals := 0 } g [.ref (md 25), .int (v)] [(md 25, .inr (7, [.ref (md 0), .int (nI op), .ref (md 2), .ref (md 3), .ref (md 4), .ref (md 5), .ref (md 6), .ref (md 7), .ref (md 8), .ref (md 9), .ref (md 10), .ref (md 11), .int (nI on), .ref (md 13), .int (nI inn), .ref (md 15), .ref (md 16), .ref (md 17), .ref (md 18), .ref (md 19), .ref (md 20), .ref (md 21), .ref (md 22), .ref (md 23), .ref (md 24)])), (md 11, .inl (g.2.1 0, 96, .inl (obf)))] sz (fun (r : Int32) (_ : Unit) => r = nI 1) (fun (_ : Unit) => [(md 25, .inr (7, [.ref (md 0), .int (nI op), .ref (md 2), .ref (md 3), .ref (md 4), .ref (md 5), .ref (md 6), .ref (md 7), .ref (md 8), .ref (md 9), .ref (md 10), .ref (md 11), .int (nI (on + 1)), .ref (md 13), .int (nI inn), .ref (md 15), .ref (md 16), .ref (md 17), .ref (md 18), .ref (md 19), .ref (md 20), .ref (md 21), .ref (md 22), .ref (md 23), .ref (md 24)])), (md 11, .inl (g.2.1 0, 96, .inl (upd obf on v)))]) 0 0 := by
  refine enterZ (by decide) rfl (Nat.le_of_ble_eq_true rfl) ?_
  intro p e s m below meth c A ls ar Q hE h0 hret hw hl
  obtain ⟨hx, hb, hr, hml, hown, hts, hlocks, hname⟩ := hE
  have hown : s.vm.findClass RX7 = some m.cls := hown
  have hw : WD g A s [(md 25, .inr (7, [.ref (md 0), .int (nI op), .ref (md 2), .ref (md 3), .ref (md 4), .ref (md 5), .ref (md 6), .ref (md 7), .ref (md 8), .ref (md 9), .ref (md 10), .ref (md 11), .int (nI on), .ref (md 13), .int (nI inn), .ref (md 15), .ref (md 16), .ref (md 17), .ref (md 18), .ref (md 19), .ref (md 20), .ref (md 21), .ref (md 22), .ref (md 23), .ref (md 24)])), (md 11, .inl (g.2.1 0, 96, .inl (obf)))] [] s.heap [] := hw
  have hinX7 : ∀ w ∈ u_ws RX7 TX7 25, w ∈ wsX7_put := by decide +kernel
  have k42 := hts (.fieldLink RX7 42 "RecordWireModel" "outbox" "[I") (by decide +kernel)
  have k149 := hts (.fieldLink RX7 149 "RecordWireModel" "outSize" "I") (by decide +kernel)
  have hl : lv_has ls 3 [(0, .ref (md 25)), (1, .int (v))] := hl
  refine lv_iload_n hx hb dX7_put_0 rfl (lv_at hl 1 rfl) ?_
  refine lv_if_lt (tgt := 24) hx hb dX7_put_1 (by decide) (fun c1 => ?_) (fun c1 => ?_)
  · skip
    exact absurd c1 (Int32.not_lt.mpr hv.1)
  · skip
    refine lv_iload_n hx hb dX7_put_4 rfl (lv_at hl 1 rfl) ?_
    refine lv_sipush (v := nI 256) hx hb dX7_put_5 (by decide +kernel) ?_
    refine lv_icmp_ge (tgt := 24) hx hb dX7_put_8 (by decide) (fun c2 => ?_) (fun c2 => ?_)
    · skip
      exact absurd c2 (Int32.not_le.mpr hv.2)
    · skip
      refine lv_aload_n hx hb dX7_put_11 rfl (lv_at hl 0 rfl) ?_
      refine r_get (ci := 7) (v := .int (nI on)) (C := RX7) (T := TX7) (N := 25) hx hb hts hinX7 hown h0 hw 0 rfl rfl 12 (by decide) k149 rfl dX7_put_12 ?_
      refine lv_bipush (v := nI 96) hx hb dX7_put_15 (by decide +kernel) ?_
      refine lv_icmp_ge (tgt := 24) hx hb dX7_put_17 (by decide) (fun c3 => ?_) (fun c3 => ?_)
      · skip
        have c3 : 96 ≤ on := (nI_leI (by omega) (by omega)).mp c3
        exfalso; omega
      · skip
        have c3 : ¬ 96 ≤ on := fun q => c3 (((nI_leI (by omega) (by omega)).mpr q))
        refine lv_iconst (v := nI 1) hx hb dX7_put_20 (by decide +kernel) ?_
        refine lv_goto (tgt := 25) hx hb dX7_put_21 (by decide) ?_
        refine lv_istore_n (lv' := [(2, .int (nI 1)), (0, .ref (md 25)), (1, .int (v))]) hx hb dX7_put_25 rfl hl (by decide) rfl (fun ls hl => ?_)
        refine lv_iload_n hx hb dX7_put_26 rfl (lv_at hl 0 rfl) ?_
        refine lv_if_eq (tgt := 50) hx hb dX7_put_27 (by decide) (fun c4 => ?_) (fun c4 => ?_)
        · skip
          rw [← nI_0] at c4
          have c4 : 1 = 0 := (nI_eq (by omega) (by omega)).mp c4
          exfalso; omega
        · skip
          rw [← nI_0] at c4
          have c4 : ¬ 1 = 0 := fun q => c4 (((nI_eq (by omega) (by omega)).mpr q))
          refine lv_aload_n hx hb dX7_put_30 rfl (lv_at hl 1 rfl) ?_
          refine r_get (ci := 7) (v := .ref (md 11)) (C := RX7) (T := TX7) (N := 25) hx hb hts hinX7 hown h0 hw 0 rfl rfl 11 (by decide) k42 rfl dX7_put_31 ?_
          refine lv_aload_n hx hb dX7_put_34 rfl (lv_at hl 1 rfl) ?_
          refine r_get (ci := 7) (v := .int (nI on)) (C := RX7) (T := TX7) (N := 25) hx hb hts hinX7 hown h0 hw 0 rfl rfl 12 (by decide) k149 rfl dX7_put_35 ?_
          refine lv_iload_n hx hb dX7_put_38 rfl (lv_at hl 2 rfl) ?_
          refine r_iast hx hb h0 hw 1 rfl (i := on) (by omega) (by omega) dX7_put_39 (fun H locs hw => ?_)
          have hw : WD g A s [(md 25, .inr (7, [.ref (md 0), .int (nI op), .ref (md 2), .ref (md 3), .ref (md 4), .ref (md 5), .ref (md 6), .ref (md 7), .ref (md 8), .ref (md 9), .ref (md 10), .ref (md 11), .int (nI on), .ref (md 13), .int (nI inn), .ref (md 15), .ref (md 16), .ref (md 17), .ref (md 18), .ref (md 19), .ref (md 20), .ref (md 21), .ref (md 22), .ref (md 23), .ref (md 24)])), (md 11, .inl (g.2.1 0, 96, .inl (upd obf on v)))] [] H locs := hw
          refine lv_aload_n hx hb dX7_put_40 rfl (lv_at hl 1 rfl) ?_
          refine lv_dup hx hb dX7_put_41 rfl ?_
          refine r_get (ci := 7) (v := .int (nI on)) (C := RX7) (T := TX7) (N := 25) hx hb hts hinX7 hown h0 hw 0 rfl rfl 12 (by decide) k149 rfl dX7_put_42 ?_
          refine lv_iconst (v := nI 1) hx hb dX7_put_45 (by decide +kernel) ?_
          refine lv_iadd hx hb dX7_put_46 ?_
          refine r_te (y := nI (on + 1)) (nI_add on 1) ?_
          refine r_put (ci := 7) (v := .int (nI (on + 1))) (C := RX7) (T := TX7) (N := 25) hx hb hts hinX7 tyX7 tyX7_ok nmX7 hown h0 hw 0 rfl rfl 12 (by decide) k149 rfl rfl rfl (Nat.le_of_ble_eq_true rfl) dX7_put_47 (fun H locs hw => ?_)
          have hw : WD g A s [(md 25, .inr (7, [.ref (md 0), .int (nI op), .ref (md 2), .ref (md 3), .ref (md 4), .ref (md 5), .ref (md 6), .ref (md 7), .ref (md 8), .ref (md 9), .ref (md 10), .ref (md 11), .int (nI (on + 1)), .ref (md 13), .int (nI inn), .ref (md 15), .ref (md 16), .ref (md 17), .ref (md 18), .ref (md 19), .ref (md 20), .ref (md 21), .ref (md 22), .ref (md 23), .ref (md 24)])), (md 11, .inl (g.2.1 0, 96, .inl (upd obf on v)))] [] H locs := hw
          refine lv_iload_n hx hb dX7_put_50 rfl (lv_at hl 0 rfl) ?_
          exact hret (rfl) hw () (rfl) (rfl) (by omega) (by omega) dX7_put_51

set_option maxHeartbeats 4000000 in
set_option maxRecDepth 100000 in
theorem c_X7_put_bad (l : Launch) (g : GE) (md : Nat → Nat) (op : Nat) (on : Nat) (inn : Nat) (obf : Nat → Int32) (v : Int32) (hn : on ≤ 96) (hbad : ¬ (inR v 256 ∧ on < 96)) (sz : Nat) : MI l yX7_put wsX7_put { frames := 0, cells := 0, slots := 0, locals := 0 } g [.ref (md 25), .int (v)] [(md 25, .inr (7, [.ref (md 0), .int (nI op), .ref (md 2), .ref (md 3), .ref (md 4), .ref (md 5), .ref (md 6), .ref (md 7), .ref (md 8), .ref (md 9), .ref (md 10), .ref (md 11), .int (nI on), .ref (md 13), .int (nI inn), .ref (md 15), .ref (md 16), .ref (md 17), .ref (md 18), .ref (md 19), .ref (md 20), .ref (md 21), .ref (md 22), .ref (md 23), .ref (md 24)])), (md 11, .inl (g.2.1 0, 96, .inl (obf)))] sz (fun (r : Int32) (_ : Unit) => r = nI 0) (fun (_ : Unit) => [(md 25, .inr (7, [.ref (md 0), .int (nI op), .ref (md 2), .ref (md 3), .ref (md 4), .ref (md 5), .ref (md 6), .ref (md 7), .ref (md 8), .ref (md 9), .ref (md 10), .ref (md 11), .int (nI on), .ref (md 13), .int (nI inn), .ref (md 15), .ref (md 16), .ref (md 17), .ref (md 18), .ref (md 19), .ref (md 20), .ref (md 21), .ref (md 22), .ref (md 23), .ref (md 24)])), (md 11, .inl (g.2.1 0, 96, .inl (obf)))]) 0 0 := by
  refine enterZ (by decide) rfl (Nat.le_of_ble_eq_true rfl) ?_
  intro p e s m below meth c A ls ar Q hE h0 hret hw hl
  obtain ⟨hx, hb, hr, hml, hown, hts, hlocks, hname⟩ := hE
  have hown : s.vm.findClass RX7 = some m.cls := hown
  have hw : WD g A s [(md 25, .inr (7, [.ref (md 0), .int (nI op), .ref (md 2), .ref (md 3), .ref (md 4), .ref (md 5), .ref (md 6), .ref (md 7), .ref (md 8), .ref (md 9), .ref (md 10), .ref (md 11), .int (nI on), .ref (md 13), .int (nI inn), .ref (md 15), .ref (md 16), .ref (md 17), .ref (md 18), .ref (md 19), .ref (md 20), .ref (md 21), .ref (md 22), .ref (md 23), .ref (md 24)])), (md 11, .inl (g.2.1 0, 96, .inl (obf)))] [] s.heap [] := hw
  have hinX7 : ∀ w ∈ u_ws RX7 TX7 25, w ∈ wsX7_put := by decide +kernel
  have k42 := hts (.fieldLink RX7 42 "RecordWireModel" "outbox" "[I") (by decide +kernel)
  have k149 := hts (.fieldLink RX7 149 "RecordWireModel" "outSize" "I") (by decide +kernel)
  have hl : lv_has ls 3 [(0, .ref (md 25)), (1, .int (v))] := hl
  refine lv_iload_n hx hb dX7_put_0 rfl (lv_at hl 1 rfl) ?_
  refine lv_if_lt (tgt := 24) hx hb dX7_put_1 (by decide) (fun c1 => ?_) (fun c1 => ?_)
  · skip
    have q1 := c1
    refine lv_iconst (v := nI 0) hx hb dX7_put_24 (by decide +kernel) ?_
    refine lv_istore_n (lv' := [(2, .int (nI 0)), (0, .ref (md 25)), (1, .int (v))]) hx hb dX7_put_25 rfl hl (by decide) rfl (fun ls hl => ?_)
    refine lv_iload_n hx hb dX7_put_26 rfl (lv_at hl 0 rfl) ?_
    refine lv_if_eq (tgt := 50) hx hb dX7_put_27 (by decide) (fun c2 => ?_) (fun c2 => ?_)
    · skip
      rw [← nI_0] at c2
      have c2 : 0 = 0 := (nI_eq (by omega) (by omega)).mp c2
      refine lv_iload_n hx hb dX7_put_50 rfl (lv_at hl 0 rfl) ?_
      exact hret (rfl) hw () (rfl) (rfl) (by omega) (by omega) dX7_put_51
    · skip
      rw [← nI_0] at c2
      have c2 : ¬ 0 = 0 := fun q => c2 (((nI_eq (by omega) (by omega)).mpr q))
      exfalso; omega
  · skip
    have q1 := c1
    refine lv_iload_n hx hb dX7_put_4 rfl (lv_at hl 1 rfl) ?_
    refine lv_sipush (v := nI 256) hx hb dX7_put_5 (by decide +kernel) ?_
    refine lv_icmp_ge (tgt := 24) hx hb dX7_put_8 (by decide) (fun c3 => ?_) (fun c3 => ?_)
    · skip
      have q2 := c3
      refine lv_iconst (v := nI 0) hx hb dX7_put_24 (by decide +kernel) ?_
      refine lv_istore_n (lv' := [(2, .int (nI 0)), (0, .ref (md 25)), (1, .int (v))]) hx hb dX7_put_25 rfl hl (by decide) rfl (fun ls hl => ?_)
      refine lv_iload_n hx hb dX7_put_26 rfl (lv_at hl 0 rfl) ?_
      refine lv_if_eq (tgt := 50) hx hb dX7_put_27 (by decide) (fun c4 => ?_) (fun c4 => ?_)
      · skip
        rw [← nI_0] at c4
        have c4 : 0 = 0 := (nI_eq (by omega) (by omega)).mp c4
        refine lv_iload_n hx hb dX7_put_50 rfl (lv_at hl 0 rfl) ?_
        exact hret (rfl) hw () (rfl) (rfl) (by omega) (by omega) dX7_put_51
      · skip
        rw [← nI_0] at c4
        have c4 : ¬ 0 = 0 := fun q => c4 (((nI_eq (by omega) (by omega)).mpr q))
        exfalso; omega
    · skip
      have q2 := c3
      refine lv_aload_n hx hb dX7_put_11 rfl (lv_at hl 0 rfl) ?_
      refine r_get (ci := 7) (v := .int (nI on)) (C := RX7) (T := TX7) (N := 25) hx hb hts hinX7 hown h0 hw 0 rfl rfl 12 (by decide) k149 rfl dX7_put_12 ?_
      refine lv_bipush (v := nI 96) hx hb dX7_put_15 (by decide +kernel) ?_
      refine lv_icmp_ge (tgt := 24) hx hb dX7_put_17 (by decide) (fun c5 => ?_) (fun c5 => ?_)
      · skip
        have c5 : 96 ≤ on := (nI_leI (by omega) (by omega)).mp c5
        refine lv_iconst (v := nI 0) hx hb dX7_put_24 (by decide +kernel) ?_
        refine lv_istore_n (lv' := [(2, .int (nI 0)), (0, .ref (md 25)), (1, .int (v))]) hx hb dX7_put_25 rfl hl (by decide) rfl (fun ls hl => ?_)
        refine lv_iload_n hx hb dX7_put_26 rfl (lv_at hl 0 rfl) ?_
        refine lv_if_eq (tgt := 50) hx hb dX7_put_27 (by decide) (fun c6 => ?_) (fun c6 => ?_)
        · skip
          rw [← nI_0] at c6
          have c6 : 0 = 0 := (nI_eq (by omega) (by omega)).mp c6
          refine lv_iload_n hx hb dX7_put_50 rfl (lv_at hl 0 rfl) ?_
          exact hret (rfl) hw () (rfl) (rfl) (by omega) (by omega) dX7_put_51
        · skip
          rw [← nI_0] at c6
          have c6 : ¬ 0 = 0 := fun q => c6 (((nI_eq (by omega) (by omega)).mpr q))
          exfalso; omega
      · skip
        have c5 : ¬ 96 ≤ on := fun q => c5 (((nI_leI (by omega) (by omega)).mpr q))
        exact absurd ⟨⟨Int32.not_lt.mp q1, Int32.not_le.mp q2⟩, by omega⟩ hbad

set_option maxHeartbeats 4000000 in
set_option maxRecDepth 100000 in
theorem c_X7_gotLen (l : Launch) (g : GE) (md : Nat → Nat) (op : Nat) (on : Nat) (inn : Nat) (sz : Nat) : MI l yX7_gotLen wsX7_gotLen { frames := 0, cells := 0, slots := 0, locals := 0 } g [.ref (md 25)] [(md 25, .inr (7, [.ref (md 0), .int (nI op), .ref (md 2), .ref (md 3), .ref (md 4), .ref (md 5), .ref (md 6), .ref (md 7), .ref (md 8), .ref (md 9), .ref (md 10), .ref (md 11), .int (nI on), .ref (md 13), .int (nI inn), .ref (md 15), .ref (md 16), .ref (md 17), .ref (md 18), .ref (md 19), .ref (md 20), .ref (md 21), .ref (md 22), .ref (md 23), .ref (md 24)]))] sz (fun (r : Int32) (_ : Unit) => r = nI inn) (fun (_ : Unit) => [(md 25, .inr (7, [.ref (md 0), .int (nI op), .ref (md 2), .ref (md 3), .ref (md 4), .ref (md 5), .ref (md 6), .ref (md 7), .ref (md 8), .ref (md 9), .ref (md 10), .ref (md 11), .int (nI on), .ref (md 13), .int (nI inn), .ref (md 15), .ref (md 16), .ref (md 17), .ref (md 18), .ref (md 19), .ref (md 20), .ref (md 21), .ref (md 22), .ref (md 23), .ref (md 24)]))]) 0 0 := by
  refine enterI (by decide) rfl (Nat.le_of_ble_eq_true rfl) ?_
  intro p e s m below meth c A ls ar Q hE h0 hret hw hl
  obtain ⟨hx, hb, hr, hml, hown, hts, hlocks, hname⟩ := hE
  have hown : s.vm.findClass RX7 = some m.cls := hown
  have hw : WD g A s [(md 25, .inr (7, [.ref (md 0), .int (nI op), .ref (md 2), .ref (md 3), .ref (md 4), .ref (md 5), .ref (md 6), .ref (md 7), .ref (md 8), .ref (md 9), .ref (md 10), .ref (md 11), .int (nI on), .ref (md 13), .int (nI inn), .ref (md 15), .ref (md 16), .ref (md 17), .ref (md 18), .ref (md 19), .ref (md 20), .ref (md 21), .ref (md 22), .ref (md 23), .ref (md 24)]))] [] s.heap [] := hw
  have hinX7 : ∀ w ∈ u_ws RX7 TX7 25, w ∈ wsX7_gotLen := by decide +kernel
  have k153 := hts (.fieldLink RX7 153 "RecordWireModel" "inSize" "I") (by decide +kernel)
  have hl : lv_has ls 1 [(0, .ref (md 25))] := hl
  refine lv_aload_n hx hb dX7_gotLen_0 rfl (lv_at hl 0 rfl) ?_
  refine r_get (ci := 7) (v := .int (nI inn)) (C := RX7) (T := TX7) (N := 25) hx hb hts hinX7 hown h0 hw 0 rfl rfl 14 (by decide) k153 rfl dX7_gotLen_1 ?_
  exact hret hw () (rfl) (rfl) (by omega) (by omega) dX7_gotLen_4

set_option maxHeartbeats 4000000 in
set_option maxRecDepth 100000 in
theorem c_X7_got (l : Launch) (g : GE) (md : Nat → Nat) (op : Nat) (on : Nat) (inn : Nat) (ibf : Nat → Int32) (i : Nat) (hi : i < inn) (hn : inn ≤ 96) (sz : Nat) : MI l yX7_got wsX7_got { frames := 0, cells := 0, slots := 0, locals := 0 } g [.ref (md 25), .int (nI i)] [(md 25, .inr (7, [.ref (md 0), .int (nI op), .ref (md 2), .ref (md 3), .ref (md 4), .ref (md 5), .ref (md 6), .ref (md 7), .ref (md 8), .ref (md 9), .ref (md 10), .ref (md 11), .int (nI on), .ref (md 13), .int (nI inn), .ref (md 15), .ref (md 16), .ref (md 17), .ref (md 18), .ref (md 19), .ref (md 20), .ref (md 21), .ref (md 22), .ref (md 23), .ref (md 24)])), (md 13, .inl (g.2.1 0, 96, .inl (ibf)))] sz (fun (r : Int32) (_ : Unit) => r = ibf i) (fun (_ : Unit) => [(md 25, .inr (7, [.ref (md 0), .int (nI op), .ref (md 2), .ref (md 3), .ref (md 4), .ref (md 5), .ref (md 6), .ref (md 7), .ref (md 8), .ref (md 9), .ref (md 10), .ref (md 11), .int (nI on), .ref (md 13), .int (nI inn), .ref (md 15), .ref (md 16), .ref (md 17), .ref (md 18), .ref (md 19), .ref (md 20), .ref (md 21), .ref (md 22), .ref (md 23), .ref (md 24)])), (md 13, .inl (g.2.1 0, 96, .inl (ibf)))]) 0 0 := by
  refine enterI (by decide) rfl (Nat.le_of_ble_eq_true rfl) ?_
  intro p e s m below meth c A ls ar Q hE h0 hret hw hl
  obtain ⟨hx, hb, hr, hml, hown, hts, hlocks, hname⟩ := hE
  have hown : s.vm.findClass RX7 = some m.cls := hown
  have hw : WD g A s [(md 25, .inr (7, [.ref (md 0), .int (nI op), .ref (md 2), .ref (md 3), .ref (md 4), .ref (md 5), .ref (md 6), .ref (md 7), .ref (md 8), .ref (md 9), .ref (md 10), .ref (md 11), .int (nI on), .ref (md 13), .int (nI inn), .ref (md 15), .ref (md 16), .ref (md 17), .ref (md 18), .ref (md 19), .ref (md 20), .ref (md 21), .ref (md 22), .ref (md 23), .ref (md 24)])), (md 13, .inl (g.2.1 0, 96, .inl (ibf)))] [] s.heap [] := hw
  have hinX7 : ∀ w ∈ u_ws RX7 TX7 25, w ∈ wsX7_got := by decide +kernel
  have k45 := hts (.fieldLink RX7 45 "RecordWireModel" "inbox" "[I") (by decide +kernel)
  have k153 := hts (.fieldLink RX7 153 "RecordWireModel" "inSize" "I") (by decide +kernel)
  have hl : lv_has ls 2 [(0, .ref (md 25)), (1, .int (nI i))] := hl
  refine lv_iload_n hx hb dX7_got_0 rfl (lv_at hl 1 rfl) ?_
  refine lv_if_lt (tgt := 21) hx hb dX7_got_1 (by decide) (fun c1 => ?_) (fun c1 => ?_)
  · skip
    rw [← nI_0] at c1
    have c1 : i < 0 := (nI_ltI (by omega) (by omega)).mp c1
    exfalso; omega
  · skip
    rw [← nI_0] at c1
    have c1 : ¬ i < 0 := fun q => c1 (((nI_ltI (by omega) (by omega)).mpr q))
    refine lv_iload_n hx hb dX7_got_4 rfl (lv_at hl 1 rfl) ?_
    refine lv_aload_n hx hb dX7_got_5 rfl (lv_at hl 0 rfl) ?_
    refine r_get (ci := 7) (v := .int (nI inn)) (C := RX7) (T := TX7) (N := 25) hx hb hts hinX7 hown h0 hw 0 rfl rfl 14 (by decide) k153 rfl dX7_got_6 ?_
    refine lv_icmp_ge (tgt := 21) hx hb dX7_got_9 (by decide) (fun c2 => ?_) (fun c2 => ?_)
    · skip
      have c2 : inn ≤ i := (nI_leI (by omega) (by omega)).mp c2
      exfalso; omega
    · skip
      have c2 : ¬ inn ≤ i := fun q => c2 (((nI_leI (by omega) (by omega)).mpr q))
      refine lv_aload_n hx hb dX7_got_12 rfl (lv_at hl 0 rfl) ?_
      refine r_get (ci := 7) (v := .ref (md 13)) (C := RX7) (T := TX7) (N := 25) hx hb hts hinX7 hown h0 hw 0 rfl rfl 13 (by decide) k45 rfl dX7_got_13 ?_
      refine lv_iload_n hx hb dX7_got_16 rfl (lv_at hl 1 rfl) ?_
      refine r_iald hx hb h0 hw 1 rfl (i := i) (by omega) (by omega) dX7_got_17 ?_
      refine lv_goto (tgt := 22) hx hb dX7_got_18 (by decide) ?_
      exact hret hw () (rfl) (rfl) (by omega) (by omega) dX7_got_22

set_option maxHeartbeats 4000000 in
set_option maxRecDepth 100000 in
theorem c_X7_got_out (l : Launch) (g : GE) (md : Nat → Nat) (op : Nat) (on : Nat) (inn : Nat) (ibf : Nat → Int32) (i : Int32) (hi : i < 0 ∨ nI inn ≤ i) (sz : Nat) : MI l yX7_got wsX7_got { frames := 0, cells := 0, slots := 0, locals := 0 } g [.ref (md 25), .int (i)] [(md 25, .inr (7, [.ref (md 0), .int (nI op), .ref (md 2), .ref (md 3), .ref (md 4), .ref (md 5), .ref (md 6), .ref (md 7), .ref (md 8), .ref (md 9), .ref (md 10), .ref (md 11), .int (nI on), .ref (md 13), .int (nI inn), .ref (md 15), .ref (md 16), .ref (md 17), .ref (md 18), .ref (md 19), .ref (md 20), .ref (md 21), .ref (md 22), .ref (md 23), .ref (md 24)])), (md 13, .inl (g.2.1 0, 96, .inl (ibf)))] sz (fun (r : Int32) (_ : Unit) => r = -1) (fun (_ : Unit) => [(md 25, .inr (7, [.ref (md 0), .int (nI op), .ref (md 2), .ref (md 3), .ref (md 4), .ref (md 5), .ref (md 6), .ref (md 7), .ref (md 8), .ref (md 9), .ref (md 10), .ref (md 11), .int (nI on), .ref (md 13), .int (nI inn), .ref (md 15), .ref (md 16), .ref (md 17), .ref (md 18), .ref (md 19), .ref (md 20), .ref (md 21), .ref (md 22), .ref (md 23), .ref (md 24)])), (md 13, .inl (g.2.1 0, 96, .inl (ibf)))]) 0 0 := by
  refine enterI (by decide) rfl (Nat.le_of_ble_eq_true rfl) ?_
  intro p e s m below meth c A ls ar Q hE h0 hret hw hl
  obtain ⟨hx, hb, hr, hml, hown, hts, hlocks, hname⟩ := hE
  have hown : s.vm.findClass RX7 = some m.cls := hown
  have hw : WD g A s [(md 25, .inr (7, [.ref (md 0), .int (nI op), .ref (md 2), .ref (md 3), .ref (md 4), .ref (md 5), .ref (md 6), .ref (md 7), .ref (md 8), .ref (md 9), .ref (md 10), .ref (md 11), .int (nI on), .ref (md 13), .int (nI inn), .ref (md 15), .ref (md 16), .ref (md 17), .ref (md 18), .ref (md 19), .ref (md 20), .ref (md 21), .ref (md 22), .ref (md 23), .ref (md 24)])), (md 13, .inl (g.2.1 0, 96, .inl (ibf)))] [] s.heap [] := hw
  have hinX7 : ∀ w ∈ u_ws RX7 TX7 25, w ∈ wsX7_got := by decide +kernel
  have k45 := hts (.fieldLink RX7 45 "RecordWireModel" "inbox" "[I") (by decide +kernel)
  have k153 := hts (.fieldLink RX7 153 "RecordWireModel" "inSize" "I") (by decide +kernel)
  have hl : lv_has ls 2 [(0, .ref (md 25)), (1, .int (i))] := hl
  refine lv_iload_n hx hb dX7_got_0 rfl (lv_at hl 1 rfl) ?_
  refine lv_if_lt (tgt := 21) hx hb dX7_got_1 (by decide) (fun c1 => ?_) (fun c1 => ?_)
  · skip
    refine lv_iconst (v := -1) hx hb dX7_got_21 (by decide +kernel) ?_
    exact hret hw () (rfl) (rfl) (by omega) (by omega) dX7_got_22
  · skip
    refine lv_iload_n hx hb dX7_got_4 rfl (lv_at hl 1 rfl) ?_
    refine lv_aload_n hx hb dX7_got_5 rfl (lv_at hl 0 rfl) ?_
    refine r_get (ci := 7) (v := .int (nI inn)) (C := RX7) (T := TX7) (N := 25) hx hb hts hinX7 hown h0 hw 0 rfl rfl 14 (by decide) k153 rfl dX7_got_6 ?_
    refine lv_icmp_ge (tgt := 21) hx hb dX7_got_9 (by decide) (fun c2 => ?_) (fun c2 => ?_)
    · skip
      refine lv_iconst (v := -1) hx hb dX7_got_21 (by decide +kernel) ?_
      exact hret hw () (rfl) (rfl) (by omega) (by omega) dX7_got_22
    · skip
      exact absurd (hi.resolve_left c1) c2

set_option maxHeartbeats 4000000 in
set_option maxRecDepth 100000 in
theorem c_X7_isSlot (l : Launch) (g : GE) (md : Nat → Nat) (op : Nat) (on : Nat) (inn : Nat) (z : Nat → Nat) (k : Nat) (hk : k < 8) (hz : z k ≤ 127) (sz : Nat) : MI l yX7_isSlot wsX7_isSlot { frames := 0, cells := 0, slots := 0, locals := 0 } g [.ref (md 25), .int (nI k)] [(md 25, .inr (7, [.ref (md 0), .int (nI op), .ref (md 2), .ref (md 3), .ref (md 4), .ref (md 5), .ref (md 6), .ref (md 7), .ref (md 8), .ref (md 9), .ref (md 10), .ref (md 11), .int (nI on), .ref (md 13), .int (nI inn), .ref (md 15), .ref (md 16), .ref (md 17), .ref (md 18), .ref (md 19), .ref (md 20), .ref (md 21), .ref (md 22), .ref (md 23), .ref (md 24)])), (md 10, .inl (g.2.1 0, 8, .inl (szF z)))] sz (fun (r : Int32) (_ : Unit) => r = bI (decide (¬ z k = 0))) (fun (_ : Unit) => [(md 25, .inr (7, [.ref (md 0), .int (nI op), .ref (md 2), .ref (md 3), .ref (md 4), .ref (md 5), .ref (md 6), .ref (md 7), .ref (md 8), .ref (md 9), .ref (md 10), .ref (md 11), .int (nI on), .ref (md 13), .int (nI inn), .ref (md 15), .ref (md 16), .ref (md 17), .ref (md 18), .ref (md 19), .ref (md 20), .ref (md 21), .ref (md 22), .ref (md 23), .ref (md 24)])), (md 10, .inl (g.2.1 0, 8, .inl (szF z)))]) 0 0 := by
  refine enterZ (by decide) rfl (Nat.le_of_ble_eq_true rfl) ?_
  intro p e s m below meth c A ls ar Q hE h0 hret hw hl
  obtain ⟨hx, hb, hr, hml, hown, hts, hlocks, hname⟩ := hE
  have hown : s.vm.findClass RX7 = some m.cls := hown
  have hw : WD g A s [(md 25, .inr (7, [.ref (md 0), .int (nI op), .ref (md 2), .ref (md 3), .ref (md 4), .ref (md 5), .ref (md 6), .ref (md 7), .ref (md 8), .ref (md 9), .ref (md 10), .ref (md 11), .int (nI on), .ref (md 13), .int (nI inn), .ref (md 15), .ref (md 16), .ref (md 17), .ref (md 18), .ref (md 19), .ref (md 20), .ref (md 21), .ref (md 22), .ref (md 23), .ref (md 24)])), (md 10, .inl (g.2.1 0, 8, .inl (szF z)))] [] s.heap [] := hw
  have hinX7 : ∀ w ∈ u_ws RX7 TX7 25, w ∈ wsX7_isSlot := by decide +kernel
  have k39 := hts (.fieldLink RX7 39 "RecordWireModel" "sizes" "[I") (by decide +kernel)
  have hl : lv_has ls 2 [(0, .ref (md 25)), (1, .int (nI k))] := hl
  refine lv_iload_n hx hb dX7_isSlot_0 rfl (lv_at hl 1 rfl) ?_
  refine lv_if_lt (tgt := 23) hx hb dX7_isSlot_1 (by decide) (fun c1 => ?_) (fun c1 => ?_)
  · skip
    rw [← nI_0] at c1
    have c1 : k < 0 := (nI_ltI (by omega) (by omega)).mp c1
    exfalso; omega
  · skip
    rw [← nI_0] at c1
    have c1 : ¬ k < 0 := fun q => c1 (((nI_ltI (by omega) (by omega)).mpr q))
    refine lv_iload_n hx hb dX7_isSlot_4 rfl (lv_at hl 1 rfl) ?_
    refine lv_bipush (v := nI 8) hx hb dX7_isSlot_5 (by decide +kernel) ?_
    refine lv_icmp_ge (tgt := 23) hx hb dX7_isSlot_7 (by decide) (fun c2 => ?_) (fun c2 => ?_)
    · skip
      have c2 : 8 ≤ k := (nI_leI (by omega) (by omega)).mp c2
      exfalso; omega
    · skip
      have c2 : ¬ 8 ≤ k := fun q => c2 (((nI_leI (by omega) (by omega)).mpr q))
      refine lv_aload_n hx hb dX7_isSlot_10 rfl (lv_at hl 0 rfl) ?_
      refine r_get (ci := 7) (v := .ref (md 10)) (C := RX7) (T := TX7) (N := 25) hx hb hts hinX7 hown h0 hw 0 rfl rfl 10 (by decide) k39 rfl dX7_isSlot_11 ?_
      refine lv_iload_n hx hb dX7_isSlot_14 rfl (lv_at hl 1 rfl) ?_
      refine r_iald hx hb h0 hw 1 rfl (i := k) (by omega) (by omega) dX7_isSlot_15 ?_
      refine r_te (y := nI (z k)) rfl ?_
      refine lv_if_le (tgt := 23) hx hb dX7_isSlot_16 (by decide) (fun c3 => ?_) (fun c3 => ?_)
      · skip
        rw [← nI_0] at c3
        have c3 : (z k) ≤ 0 := (nI_leI (by omega) (by omega)).mp c3
        refine lv_iconst (v := nI 0) hx hb dX7_isSlot_23 (by decide +kernel) ?_
        exact hret (rfl) hw () (by first | exact bI_T (by omega) | exact bI_F (by omega)) (rfl) (by omega) (by omega) dX7_isSlot_24
      · skip
        rw [← nI_0] at c3
        have c3 : ¬ (z k) ≤ 0 := fun q => c3 (((nI_leI (by omega) (by omega)).mpr q))
        refine lv_iconst (v := nI 1) hx hb dX7_isSlot_19 (by decide +kernel) ?_
        refine lv_goto (tgt := 24) hx hb dX7_isSlot_20 (by decide) ?_
        exact hret (rfl) hw () (by first | exact bI_T (by omega) | exact bI_F (by omega)) (rfl) (by omega) (by omega) dX7_isSlot_24

set_option maxHeartbeats 4000000 in
set_option maxRecDepth 100000 in
theorem c_X7_isSlot_bad (l : Launch) (g : GE) (md : Nat → Nat) (op : Nat) (on : Nat) (inn : Nat) (k : Int32) (hk : ¬ inR k 8) (sz : Nat) : MI l yX7_isSlot wsX7_isSlot { frames := 0, cells := 0, slots := 0, locals := 0 } g [.ref (md 25), .int (k)] [(md 25, .inr (7, [.ref (md 0), .int (nI op), .ref (md 2), .ref (md 3), .ref (md 4), .ref (md 5), .ref (md 6), .ref (md 7), .ref (md 8), .ref (md 9), .ref (md 10), .ref (md 11), .int (nI on), .ref (md 13), .int (nI inn), .ref (md 15), .ref (md 16), .ref (md 17), .ref (md 18), .ref (md 19), .ref (md 20), .ref (md 21), .ref (md 22), .ref (md 23), .ref (md 24)]))] sz (fun (r : Int32) (_ : Unit) => r = nI 0) (fun (_ : Unit) => [(md 25, .inr (7, [.ref (md 0), .int (nI op), .ref (md 2), .ref (md 3), .ref (md 4), .ref (md 5), .ref (md 6), .ref (md 7), .ref (md 8), .ref (md 9), .ref (md 10), .ref (md 11), .int (nI on), .ref (md 13), .int (nI inn), .ref (md 15), .ref (md 16), .ref (md 17), .ref (md 18), .ref (md 19), .ref (md 20), .ref (md 21), .ref (md 22), .ref (md 23), .ref (md 24)]))]) 0 0 := by
  refine enterZ (by decide) rfl (Nat.le_of_ble_eq_true rfl) ?_
  intro p e s m below meth c A ls ar Q hE h0 hret hw hl
  obtain ⟨hx, hb, hr, hml, hown, hts, hlocks, hname⟩ := hE
  have hown : s.vm.findClass RX7 = some m.cls := hown
  have hw : WD g A s [(md 25, .inr (7, [.ref (md 0), .int (nI op), .ref (md 2), .ref (md 3), .ref (md 4), .ref (md 5), .ref (md 6), .ref (md 7), .ref (md 8), .ref (md 9), .ref (md 10), .ref (md 11), .int (nI on), .ref (md 13), .int (nI inn), .ref (md 15), .ref (md 16), .ref (md 17), .ref (md 18), .ref (md 19), .ref (md 20), .ref (md 21), .ref (md 22), .ref (md 23), .ref (md 24)]))] [] s.heap [] := hw
  have hinX7 : ∀ w ∈ u_ws RX7 TX7 25, w ∈ wsX7_isSlot := by decide +kernel
  have k39 := hts (.fieldLink RX7 39 "RecordWireModel" "sizes" "[I") (by decide +kernel)
  have hl : lv_has ls 2 [(0, .ref (md 25)), (1, .int (k))] := hl
  refine lv_iload_n hx hb dX7_isSlot_0 rfl (lv_at hl 1 rfl) ?_
  refine lv_if_lt (tgt := 23) hx hb dX7_isSlot_1 (by decide) (fun c1 => ?_) (fun c1 => ?_)
  · skip
    have q1 := c1
    refine lv_iconst (v := nI 0) hx hb dX7_isSlot_23 (by decide +kernel) ?_
    exact hret (rfl) hw () (rfl) (rfl) (by omega) (by omega) dX7_isSlot_24
  · skip
    have q1 := c1
    refine lv_iload_n hx hb dX7_isSlot_4 rfl (lv_at hl 1 rfl) ?_
    refine lv_bipush (v := nI 8) hx hb dX7_isSlot_5 (by decide +kernel) ?_
    refine lv_icmp_ge (tgt := 23) hx hb dX7_isSlot_7 (by decide) (fun c2 => ?_) (fun c2 => ?_)
    · skip
      refine lv_iconst (v := nI 0) hx hb dX7_isSlot_23 (by decide +kernel) ?_
      exact hret (rfl) hw () (rfl) (rfl) (by omega) (by omega) dX7_isSlot_24
    · skip
      exact absurd ⟨Int32.not_lt.mp q1, Int32.not_le.mp c2⟩ hk

set_option maxHeartbeats 4000000 in
set_option maxRecDepth 100000 in
theorem c_X7_drop (l : Launch) (g : GE) (md : Nat → Nat) (op : Nat) (on : Nat) (inn : Nat) (z : Nat → Nat) (k : Nat) (hk : k < 8) (hz0 : ¬ z k = 0) (hz : z k ≤ 127) (sz : Nat) : MI l yX7_drop wsX7_drop { frames := 1, cells := 0, slots := 0, locals := 21 } g [.ref (md 25), .int (nI k)] [(md 25, .inr (7, [.ref (md 0), .int (nI op), .ref (md 2), .ref (md 3), .ref (md 4), .ref (md 5), .ref (md 6), .ref (md 7), .ref (md 8), .ref (md 9), .ref (md 10), .ref (md 11), .int (nI on), .ref (md 13), .int (nI inn), .ref (md 15), .ref (md 16), .ref (md 17), .ref (md 18), .ref (md 19), .ref (md 20), .ref (md 21), .ref (md 22), .ref (md 23), .ref (md 24)])), (md 10, .inl (g.2.1 0, 8, .inl (szF z)))] sz (fun (r : Int32) (_ : Unit) => r = nI 1) (fun (_ : Unit) => [(md 25, .inr (7, [.ref (md 0), .int (nI op), .ref (md 2), .ref (md 3), .ref (md 4), .ref (md 5), .ref (md 6), .ref (md 7), .ref (md 8), .ref (md 9), .ref (md 10), .ref (md 11), .int (nI on), .ref (md 13), .int (nI inn), .ref (md 15), .ref (md 16), .ref (md 17), .ref (md 18), .ref (md 19), .ref (md 20), .ref (md 21), .ref (md 22), .ref (md 23), .ref (md 24)])), (md 10, .inl (g.2.1 0, 8, .inl (szF (va_up z k 0))))]) 0 0 := by
  refine enterZ (by decide) rfl (Nat.le_of_ble_eq_true rfl) ?_
  intro p e s m below meth c A ls ar Q hE h0 hret hw hl
  obtain ⟨hx, hb, hr, hml, hown, hts, hlocks, hname⟩ := hE
  have hown : s.vm.findClass RX7 = some m.cls := hown
  have hw : WD g A s [(md 25, .inr (7, [.ref (md 0), .int (nI op), .ref (md 2), .ref (md 3), .ref (md 4), .ref (md 5), .ref (md 6), .ref (md 7), .ref (md 8), .ref (md 9), .ref (md 10), .ref (md 11), .int (nI on), .ref (md 13), .int (nI inn), .ref (md 15), .ref (md 16), .ref (md 17), .ref (md 18), .ref (md 19), .ref (md 20), .ref (md 21), .ref (md 22), .ref (md 23), .ref (md 24)])), (md 10, .inl (g.2.1 0, 8, .inl (szF z)))] [] s.heap [] := hw
  have hinX7 : ∀ w ∈ u_ws RX7 TX7 25, w ∈ wsX7_drop := by decide +kernel
  have k39 := hts (.fieldLink RX7 39 "RecordWireModel" "sizes" "[I") (by decide +kernel)
  have hl : lv_has ls 3 [(0, .ref (md 25)), (1, .int (nI k))] := hl
  refine lv_aload_n hx hb dX7_drop_0 rfl (lv_at hl 0 rfl) ?_
  refine lv_iload_n hx hb dX7_drop_1 rfl (lv_at hl 1 rfl) ?_
  refine r_calli (wr := []) [0, 1] [] h0 hw rfl rfl (by decide) (by decide) (va_runV (As := [.int (nI k)]) (rest := []) ⟨hx, hb, hml, hown, hts⟩ (c_X7_isSlot l g md op on inn z k (by omega) (by omega) _) (cwV 1 hts gX7_drop_X7_isSlot rfl rfl rfl (by decide +kernel) ⟨Nat.le_of_ble_eq_true rfl, Nat.le_of_ble_eq_true rfl⟩) (preV_of [0, 1] [.int (nI k)] h0 hw rfl (by decide) 0 7 rfl rfl) rfl rfl hl.1 rfl (lv_room (Nat.le_of_ble_eq_true rfl)) dX7_drop_2 ⟨Nat.le_of_ble_eq_true rfl, Nat.le_of_ble_eq_true rfl⟩) (fun r1 u2 H locs hp3 hw => ?_)
  have hw : WD g A s [(md 25, .inr (7, [.ref (md 0), .int (nI op), .ref (md 2), .ref (md 3), .ref (md 4), .ref (md 5), .ref (md 6), .ref (md 7), .ref (md 8), .ref (md 9), .ref (md 10), .ref (md 11), .int (nI on), .ref (md 13), .int (nI inn), .ref (md 15), .ref (md 16), .ref (md 17), .ref (md 18), .ref (md 19), .ref (md 20), .ref (md 21), .ref (md 22), .ref (md 23), .ref (md 24)])), (md 10, .inl (g.2.1 0, 8, .inl (szF z)))] [] H locs := hw
  subst hp3
  refine lv_istore_n (lv' := [(2, .int (bI (decide (¬ z k = 0)))), (0, .ref (md 25)), (1, .int (nI k))]) hx hb dX7_drop_5 rfl hl (by decide) rfl (fun ls hl => ?_)
  refine lv_iload_n hx hb dX7_drop_6 rfl (lv_at hl 0 rfl) ?_
  refine lv_if_eq (tgt := 17) hx hb dX7_drop_7 (by decide) (fun c4 => ?_) (fun c4 => ?_)
  · skip
    have c4 : ¬ (¬ z k = 0) := bI_f c4
    exact absurd hz0 c4
  · skip
    have c4 : ¬ z k = 0 := bI_t c4
    refine lv_aload_n hx hb dX7_drop_10 rfl (lv_at hl 1 rfl) ?_
    refine r_get (ci := 7) (v := .ref (md 10)) (C := RX7) (T := TX7) (N := 25) hx hb hts hinX7 hown h0 hw 0 rfl rfl 10 (by decide) k39 rfl dX7_drop_11 ?_
    refine lv_iload_n hx hb dX7_drop_14 rfl (lv_at hl 2 rfl) ?_
    refine lv_iconst (v := nI 0) hx hb dX7_drop_15 (by decide +kernel) ?_
    refine r_iast hx hb h0 hw 1 rfl (i := k) (by omega) (by omega) dX7_drop_16 (fun H locs hw => ?_)
    have hw : WD g A s [(md 25, .inr (7, [.ref (md 0), .int (nI op), .ref (md 2), .ref (md 3), .ref (md 4), .ref (md 5), .ref (md 6), .ref (md 7), .ref (md 8), .ref (md 9), .ref (md 10), .ref (md 11), .int (nI on), .ref (md 13), .int (nI inn), .ref (md 15), .ref (md 16), .ref (md 17), .ref (md 18), .ref (md 19), .ref (md 20), .ref (md 21), .ref (md 22), .ref (md 23), .ref (md 24)])), (md 10, .inl (g.2.1 0, 8, .inl (upd (szF z) k (nI 0))))] [] H locs := hw
    refine lv_iload_n hx hb dX7_drop_17 rfl (lv_at hl 0 rfl) ?_
    have hw : WD g A s [(md 25, .inr (7, [.ref (md 0), .int (nI op), .ref (md 2), .ref (md 3), .ref (md 4), .ref (md 5), .ref (md 6), .ref (md 7), .ref (md 8), .ref (md 9), .ref (md 10), .ref (md 11), .int (nI on), .ref (md 13), .int (nI inn), .ref (md 15), .ref (md 16), .ref (md 17), .ref (md 18), .ref (md 19), .ref (md 20), .ref (md 21), .ref (md 22), .ref (md 23), .ref (md 24)])), (md 10, .inl (g.2.1 0, 8, .inl (szF (va_up z k 0))))] [] H locs := by rw [← szF_up]; exact hw
    exact hret (by rw [← bI_T hz0]; rfl) hw () ((bI_T hz0).symm) (rfl) (by omega) (by omega) dX7_drop_18

set_option maxHeartbeats 4000000 in
set_option maxRecDepth 100000 in
theorem c_X7_drop_empty (l : Launch) (g : GE) (md : Nat → Nat) (op : Nat) (on : Nat) (inn : Nat) (z : Nat → Nat) (k : Nat) (hk : k < 8) (hz0 : z k = 0) (sz : Nat) : MI l yX7_drop wsX7_drop { frames := 1, cells := 0, slots := 0, locals := 21 } g [.ref (md 25), .int (nI k)] [(md 25, .inr (7, [.ref (md 0), .int (nI op), .ref (md 2), .ref (md 3), .ref (md 4), .ref (md 5), .ref (md 6), .ref (md 7), .ref (md 8), .ref (md 9), .ref (md 10), .ref (md 11), .int (nI on), .ref (md 13), .int (nI inn), .ref (md 15), .ref (md 16), .ref (md 17), .ref (md 18), .ref (md 19), .ref (md 20), .ref (md 21), .ref (md 22), .ref (md 23), .ref (md 24)])), (md 10, .inl (g.2.1 0, 8, .inl (szF z)))] sz (fun (r : Int32) (_ : Unit) => r = nI 0) (fun (_ : Unit) => [(md 25, .inr (7, [.ref (md 0), .int (nI op), .ref (md 2), .ref (md 3), .ref (md 4), .ref (md 5), .ref (md 6), .ref (md 7), .ref (md 8), .ref (md 9), .ref (md 10), .ref (md 11), .int (nI on), .ref (md 13), .int (nI inn), .ref (md 15), .ref (md 16), .ref (md 17), .ref (md 18), .ref (md 19), .ref (md 20), .ref (md 21), .ref (md 22), .ref (md 23), .ref (md 24)])), (md 10, .inl (g.2.1 0, 8, .inl (szF z)))]) 0 0 := by
  refine enterZ (by decide) rfl (Nat.le_of_ble_eq_true rfl) ?_
  intro p e s m below meth c A ls ar Q hE h0 hret hw hl
  obtain ⟨hx, hb, hr, hml, hown, hts, hlocks, hname⟩ := hE
  have hown : s.vm.findClass RX7 = some m.cls := hown
  have hw : WD g A s [(md 25, .inr (7, [.ref (md 0), .int (nI op), .ref (md 2), .ref (md 3), .ref (md 4), .ref (md 5), .ref (md 6), .ref (md 7), .ref (md 8), .ref (md 9), .ref (md 10), .ref (md 11), .int (nI on), .ref (md 13), .int (nI inn), .ref (md 15), .ref (md 16), .ref (md 17), .ref (md 18), .ref (md 19), .ref (md 20), .ref (md 21), .ref (md 22), .ref (md 23), .ref (md 24)])), (md 10, .inl (g.2.1 0, 8, .inl (szF z)))] [] s.heap [] := hw
  have hinX7 : ∀ w ∈ u_ws RX7 TX7 25, w ∈ wsX7_drop := by decide +kernel
  have k39 := hts (.fieldLink RX7 39 "RecordWireModel" "sizes" "[I") (by decide +kernel)
  have hl : lv_has ls 3 [(0, .ref (md 25)), (1, .int (nI k))] := hl
  refine lv_aload_n hx hb dX7_drop_0 rfl (lv_at hl 0 rfl) ?_
  refine lv_iload_n hx hb dX7_drop_1 rfl (lv_at hl 1 rfl) ?_
  refine r_calli (wr := []) [0, 1] [] h0 hw rfl rfl (by decide) (by decide) (va_runV (As := [.int (nI k)]) (rest := []) ⟨hx, hb, hml, hown, hts⟩ (c_X7_isSlot l g md op on inn z k (by omega) (by omega) _) (cwV 1 hts gX7_drop_X7_isSlot rfl rfl rfl (by decide +kernel) ⟨Nat.le_of_ble_eq_true rfl, Nat.le_of_ble_eq_true rfl⟩) (preV_of [0, 1] [.int (nI k)] h0 hw rfl (by decide) 0 7 rfl rfl) rfl rfl hl.1 rfl (lv_room (Nat.le_of_ble_eq_true rfl)) dX7_drop_2 ⟨Nat.le_of_ble_eq_true rfl, Nat.le_of_ble_eq_true rfl⟩) (fun r1 u2 H locs hp3 hw => ?_)
  have hw : WD g A s [(md 25, .inr (7, [.ref (md 0), .int (nI op), .ref (md 2), .ref (md 3), .ref (md 4), .ref (md 5), .ref (md 6), .ref (md 7), .ref (md 8), .ref (md 9), .ref (md 10), .ref (md 11), .int (nI on), .ref (md 13), .int (nI inn), .ref (md 15), .ref (md 16), .ref (md 17), .ref (md 18), .ref (md 19), .ref (md 20), .ref (md 21), .ref (md 22), .ref (md 23), .ref (md 24)])), (md 10, .inl (g.2.1 0, 8, .inl (szF z)))] [] H locs := hw
  subst hp3
  refine lv_istore_n (lv' := [(2, .int (bI (decide (¬ z k = 0)))), (0, .ref (md 25)), (1, .int (nI k))]) hx hb dX7_drop_5 rfl hl (by decide) rfl (fun ls hl => ?_)
  refine lv_iload_n hx hb dX7_drop_6 rfl (lv_at hl 0 rfl) ?_
  refine lv_if_eq (tgt := 17) hx hb dX7_drop_7 (by decide) (fun c4 => ?_) (fun c4 => ?_)
  · skip
    have c4 : ¬ (¬ z k = 0) := bI_f c4
    refine lv_iload_n hx hb dX7_drop_17 rfl (lv_at hl 0 rfl) ?_
    exact hret (by rw [← bI_F (fun q => q hz0)]; rfl) hw () ((bI_F (fun q => q hz0)).symm) (rfl) (by omega) (by omega) dX7_drop_18
  · skip
    have c4 : ¬ z k = 0 := bI_t c4
    exact absurd hz0 c4

set_option maxHeartbeats 4000000 in
set_option maxRecDepth 100000 in
theorem c_X7_drop_bad (l : Launch) (g : GE) (md : Nat → Nat) (op : Nat) (on : Nat) (inn : Nat) (k : Int32) (hk : ¬ inR k 8) (sz : Nat) : MI l yX7_drop wsX7_drop { frames := 1, cells := 0, slots := 0, locals := 21 } g [.ref (md 25), .int (k)] [(md 25, .inr (7, [.ref (md 0), .int (nI op), .ref (md 2), .ref (md 3), .ref (md 4), .ref (md 5), .ref (md 6), .ref (md 7), .ref (md 8), .ref (md 9), .ref (md 10), .ref (md 11), .int (nI on), .ref (md 13), .int (nI inn), .ref (md 15), .ref (md 16), .ref (md 17), .ref (md 18), .ref (md 19), .ref (md 20), .ref (md 21), .ref (md 22), .ref (md 23), .ref (md 24)]))] sz (fun (r : Int32) (_ : Unit) => r = nI 0) (fun (_ : Unit) => [(md 25, .inr (7, [.ref (md 0), .int (nI op), .ref (md 2), .ref (md 3), .ref (md 4), .ref (md 5), .ref (md 6), .ref (md 7), .ref (md 8), .ref (md 9), .ref (md 10), .ref (md 11), .int (nI on), .ref (md 13), .int (nI inn), .ref (md 15), .ref (md 16), .ref (md 17), .ref (md 18), .ref (md 19), .ref (md 20), .ref (md 21), .ref (md 22), .ref (md 23), .ref (md 24)]))]) 0 0 := by
  refine enterZ (by decide) rfl (Nat.le_of_ble_eq_true rfl) ?_
  intro p e s m below meth c A ls ar Q hE h0 hret hw hl
  obtain ⟨hx, hb, hr, hml, hown, hts, hlocks, hname⟩ := hE
  have hown : s.vm.findClass RX7 = some m.cls := hown
  have hw : WD g A s [(md 25, .inr (7, [.ref (md 0), .int (nI op), .ref (md 2), .ref (md 3), .ref (md 4), .ref (md 5), .ref (md 6), .ref (md 7), .ref (md 8), .ref (md 9), .ref (md 10), .ref (md 11), .int (nI on), .ref (md 13), .int (nI inn), .ref (md 15), .ref (md 16), .ref (md 17), .ref (md 18), .ref (md 19), .ref (md 20), .ref (md 21), .ref (md 22), .ref (md 23), .ref (md 24)]))] [] s.heap [] := hw
  have hinX7 : ∀ w ∈ u_ws RX7 TX7 25, w ∈ wsX7_drop := by decide +kernel
  have k39 := hts (.fieldLink RX7 39 "RecordWireModel" "sizes" "[I") (by decide +kernel)
  have hl : lv_has ls 3 [(0, .ref (md 25)), (1, .int (k))] := hl
  refine lv_aload_n hx hb dX7_drop_0 rfl (lv_at hl 0 rfl) ?_
  refine lv_iload_n hx hb dX7_drop_1 rfl (lv_at hl 1 rfl) ?_
  refine r_calli (wr := []) [0] [] h0 hw rfl rfl (by decide) (by decide) (va_runV (As := [.int (k)]) (rest := []) ⟨hx, hb, hml, hown, hts⟩ (c_X7_isSlot_bad l g md op on inn k (hk) _) (cwV 1 hts gX7_drop_X7_isSlot rfl rfl rfl (by decide +kernel) ⟨Nat.le_of_ble_eq_true rfl, Nat.le_of_ble_eq_true rfl⟩) (preV_of [0] [.int (k)] h0 hw rfl (by decide) 0 7 rfl rfl) rfl rfl hl.1 rfl (lv_room (Nat.le_of_ble_eq_true rfl)) dX7_drop_2 ⟨Nat.le_of_ble_eq_true rfl, Nat.le_of_ble_eq_true rfl⟩) (fun r1 u2 H locs hp3 hw => ?_)
  have hw : WD g A s [(md 25, .inr (7, [.ref (md 0), .int (nI op), .ref (md 2), .ref (md 3), .ref (md 4), .ref (md 5), .ref (md 6), .ref (md 7), .ref (md 8), .ref (md 9), .ref (md 10), .ref (md 11), .int (nI on), .ref (md 13), .int (nI inn), .ref (md 15), .ref (md 16), .ref (md 17), .ref (md 18), .ref (md 19), .ref (md 20), .ref (md 21), .ref (md 22), .ref (md 23), .ref (md 24)]))] [] H locs := hw
  subst hp3
  refine lv_istore_n (lv' := [(2, .int (nI 0)), (0, .ref (md 25)), (1, .int (k))]) hx hb dX7_drop_5 rfl hl (by decide) rfl (fun ls hl => ?_)
  refine lv_iload_n hx hb dX7_drop_6 rfl (lv_at hl 0 rfl) ?_
  refine lv_if_eq (tgt := 17) hx hb dX7_drop_7 (by decide) (fun c4 => ?_) (fun c4 => ?_)
  · skip
    rw [← nI_0] at c4
    have c4 : 0 = 0 := (nI_eq (by omega) (by omega)).mp c4
    refine lv_iload_n hx hb dX7_drop_17 rfl (lv_at hl 0 rfl) ?_
    exact hret (rfl) hw () (rfl) (rfl) (by omega) (by omega) dX7_drop_18
  · skip
    rw [← nI_0] at c4
    have c4 : ¬ 0 = 0 := fun q => c4 (((nI_eq (by omega) (by omega)).mpr q))
    exfalso; omega

set_option maxHeartbeats 4000000 in
set_option maxRecDepth 100000 in
theorem c_X7_wireAt (l : Launch) (g : GE) (md : Nat → Nat) (op : Nat) (on : Nat) (inn : Nat) (z : Nat → Nat) (wr : Nat → Int32) (k : Nat) (i : Nat) (hk : k < 8) (hi : i < z k) (hz : z k ≤ 127) (sz : Nat) : MI l yX7_wireAt wsX7_wireAt { frames := 1, cells := 0, slots := 0, locals := 21 } g [.ref (md 25), .int (nI k), .int (nI i)] [(md 25, .inr (7, [.ref (md 0), .int (nI op), .ref (md 2), .ref (md 3), .ref (md 4), .ref (md 5), .ref (md 6), .ref (md 7), .ref (md 8), .ref (md 9), .ref (md 10), .ref (md 11), .int (nI on), .ref (md 13), .int (nI inn), .ref (md 15), .ref (md 16), .ref (md 17), .ref (md 18), .ref (md 19), .ref (md 20), .ref (md 21), .ref (md 22), .ref (md 23), .ref (md 24)])), (md 10, .inl (g.2.1 0, 8, .inl (szF z))), (md 9, .inl (g.2.1 0, 1024, .inl (wr)))] sz (fun (r : Int32) (_ : Unit) => r = wr (128 * k + i)) (fun (_ : Unit) => [(md 25, .inr (7, [.ref (md 0), .int (nI op), .ref (md 2), .ref (md 3), .ref (md 4), .ref (md 5), .ref (md 6), .ref (md 7), .ref (md 8), .ref (md 9), .ref (md 10), .ref (md 11), .int (nI on), .ref (md 13), .int (nI inn), .ref (md 15), .ref (md 16), .ref (md 17), .ref (md 18), .ref (md 19), .ref (md 20), .ref (md 21), .ref (md 22), .ref (md 23), .ref (md 24)])), (md 10, .inl (g.2.1 0, 8, .inl (szF z))), (md 9, .inl (g.2.1 0, 1024, .inl (wr)))]) 0 0 := by
  refine enterI (by decide) rfl (Nat.le_of_ble_eq_true rfl) ?_
  intro p e s m below meth c A ls ar Q hE h0 hret hw hl
  obtain ⟨hx, hb, hr, hml, hown, hts, hlocks, hname⟩ := hE
  have hown : s.vm.findClass RX7 = some m.cls := hown
  have hw : WD g A s [(md 25, .inr (7, [.ref (md 0), .int (nI op), .ref (md 2), .ref (md 3), .ref (md 4), .ref (md 5), .ref (md 6), .ref (md 7), .ref (md 8), .ref (md 9), .ref (md 10), .ref (md 11), .int (nI on), .ref (md 13), .int (nI inn), .ref (md 15), .ref (md 16), .ref (md 17), .ref (md 18), .ref (md 19), .ref (md 20), .ref (md 21), .ref (md 22), .ref (md 23), .ref (md 24)])), (md 10, .inl (g.2.1 0, 8, .inl (szF z))), (md 9, .inl (g.2.1 0, 1024, .inl (wr)))] [] s.heap [] := hw
  have hinX7 : ∀ w ∈ u_ws RX7 TX7 25, w ∈ wsX7_wireAt := by decide +kernel
  have k36 := hts (.fieldLink RX7 36 "RecordWireModel" "wire" "[I") (by decide +kernel)
  have k39 := hts (.fieldLink RX7 39 "RecordWireModel" "sizes" "[I") (by decide +kernel)
  have hl : lv_has ls 3 [(0, .ref (md 25)), (1, .int (nI k)), (2, .int (nI i))] := hl
  refine lv_aload_n hx hb dX7_wireAt_0 rfl (lv_at hl 0 rfl) ?_
  refine lv_iload_n hx hb dX7_wireAt_1 rfl (lv_at hl 1 rfl) ?_
  refine r_calli (wr := [(md 9, .inl (g.2.1 0, 1024, .inl (wr)))]) [0, 1] [2] h0 hw rfl rfl (by decide) (by decide) (va_runV (As := [.int (nI k)]) (rest := []) ⟨hx, hb, hml, hown, hts⟩ (c_X7_isSlot l g md op on inn z k (by omega) (by omega) _) (cwV 1 hts gX7_wireAt_X7_isSlot rfl rfl rfl (by decide +kernel) ⟨Nat.le_of_ble_eq_true rfl, Nat.le_of_ble_eq_true rfl⟩) (preV_of [0, 1] [.int (nI k)] h0 hw rfl (by decide) 0 7 rfl rfl) rfl rfl hl.1 rfl (lv_room (Nat.le_of_ble_eq_true rfl)) dX7_wireAt_2 ⟨Nat.le_of_ble_eq_true rfl, Nat.le_of_ble_eq_true rfl⟩) (fun r1 u2 H locs hp3 hw => ?_)
  have hw : WD g A s [(md 9, .inl (g.2.1 0, 1024, .inl (wr))), (md 25, .inr (7, [.ref (md 0), .int (nI op), .ref (md 2), .ref (md 3), .ref (md 4), .ref (md 5), .ref (md 6), .ref (md 7), .ref (md 8), .ref (md 9), .ref (md 10), .ref (md 11), .int (nI on), .ref (md 13), .int (nI inn), .ref (md 15), .ref (md 16), .ref (md 17), .ref (md 18), .ref (md 19), .ref (md 20), .ref (md 21), .ref (md 22), .ref (md 23), .ref (md 24)])), (md 10, .inl (g.2.1 0, 8, .inl (szF z)))] [] H locs := hw
  subst hp3
  refine lv_if_eq (tgt := 37) hx hb dX7_wireAt_5 (by decide) (fun c4 => ?_) (fun c4 => ?_)
  · skip
    have c4 : ¬ (¬ z k = 0) := bI_f c4
    exact absurd (by omega) c4
  · skip
    have c4 : ¬ z k = 0 := bI_t c4
    refine lv_iload_n hx hb dX7_wireAt_8 rfl (lv_at hl 2 rfl) ?_
    refine lv_if_lt (tgt := 37) hx hb dX7_wireAt_9 (by decide) (fun c5 => ?_) (fun c5 => ?_)
    · skip
      rw [← nI_0] at c5
      have c5 : i < 0 := (nI_ltI (by omega) (by omega)).mp c5
      exfalso; omega
    · skip
      rw [← nI_0] at c5
      have c5 : ¬ i < 0 := fun q => c5 (((nI_ltI (by omega) (by omega)).mpr q))
      refine lv_iload_n hx hb dX7_wireAt_12 rfl (lv_at hl 2 rfl) ?_
      refine lv_aload_n hx hb dX7_wireAt_13 rfl (lv_at hl 0 rfl) ?_
      refine r_get (ci := 7) (v := .ref (md 10)) (C := RX7) (T := TX7) (N := 25) hx hb hts hinX7 hown h0 hw 1 rfl rfl 10 (by decide) k39 rfl dX7_wireAt_14 ?_
      refine lv_iload_n hx hb dX7_wireAt_17 rfl (lv_at hl 1 rfl) ?_
      refine r_iald hx hb h0 hw 2 rfl (i := k) (by omega) (by omega) dX7_wireAt_18 ?_
      refine r_te (y := nI (z k)) rfl ?_
      refine lv_icmp_ge (tgt := 37) hx hb dX7_wireAt_19 (by decide) (fun c6 => ?_) (fun c6 => ?_)
      · skip
        have c6 : (z k) ≤ i := (nI_leI (by omega) (by omega)).mp c6
        exfalso; omega
      · skip
        have c6 : ¬ (z k) ≤ i := fun q => c6 (((nI_leI (by omega) (by omega)).mpr q))
        refine lv_aload_n hx hb dX7_wireAt_22 rfl (lv_at hl 0 rfl) ?_
        refine r_get (ci := 7) (v := .ref (md 9)) (C := RX7) (T := TX7) (N := 25) hx hb hts hinX7 hown h0 hw 1 rfl rfl 9 (by decide) k36 rfl dX7_wireAt_23 ?_
        refine lv_sipush (v := nI 128) hx hb dX7_wireAt_26 (by decide +kernel) ?_
        refine lv_iload_n hx hb dX7_wireAt_29 rfl (lv_at hl 1 rfl) ?_
        refine lv_imul hx hb dX7_wireAt_30 ?_
        refine r_te (y := nI (128 * k)) (pk_mul 128 k) ?_
        refine lv_iload_n hx hb dX7_wireAt_31 rfl (lv_at hl 2 rfl) ?_
        refine lv_iadd hx hb dX7_wireAt_32 ?_
        refine r_te (y := nI (128 * k + i)) (nI_add (128 * k) i) ?_
        refine r_iald hx hb h0 hw 0 rfl (i := 128 * k + i) (by omega) (by omega) dX7_wireAt_33 ?_
        refine lv_goto (tgt := 38) hx hb dX7_wireAt_34 (by decide) ?_
        exact hret (hw.perm (X' := [(md 25, .inr (7, [.ref (md 0), .int (nI op), .ref (md 2), .ref (md 3), .ref (md 4), .ref (md 5), .ref (md 6), .ref (md 7), .ref (md 8), .ref (md 9), .ref (md 10), .ref (md 11), .int (nI on), .ref (md 13), .int (nI inn), .ref (md 15), .ref (md 16), .ref (md 17), .ref (md 18), .ref (md 19), .ref (md 20), .ref (md 21), .ref (md 22), .ref (md 23), .ref (md 24)])), (md 10, .inl (g.2.1 0, 8, .inl (szF z))), (md 9, .inl (g.2.1 0, 1024, .inl (wr)))]) [1, 2, 0] (by decide) rfl) () (rfl) (rfl) (by omega) (by omega) dX7_wireAt_38

set_option maxHeartbeats 4000000 in
set_option maxRecDepth 100000 in
theorem c_X7_wireAt_out (l : Launch) (g : GE) (md : Nat → Nat) (op : Nat) (on : Nat) (inn : Nat) (z : Nat → Nat) (wr : Nat → Int32) (k : Nat) (i : Int32) (hk : k < 8) (hi : i < 0 ∨ nI (z k) ≤ i) (hz : z k ≤ 127) (sz : Nat) : MI l yX7_wireAt wsX7_wireAt { frames := 1, cells := 0, slots := 0, locals := 21 } g [.ref (md 25), .int (nI k), .int (i)] [(md 25, .inr (7, [.ref (md 0), .int (nI op), .ref (md 2), .ref (md 3), .ref (md 4), .ref (md 5), .ref (md 6), .ref (md 7), .ref (md 8), .ref (md 9), .ref (md 10), .ref (md 11), .int (nI on), .ref (md 13), .int (nI inn), .ref (md 15), .ref (md 16), .ref (md 17), .ref (md 18), .ref (md 19), .ref (md 20), .ref (md 21), .ref (md 22), .ref (md 23), .ref (md 24)])), (md 10, .inl (g.2.1 0, 8, .inl (szF z))), (md 9, .inl (g.2.1 0, 1024, .inl (wr)))] sz (fun (r : Int32) (_ : Unit) => r = -1) (fun (_ : Unit) => [(md 25, .inr (7, [.ref (md 0), .int (nI op), .ref (md 2), .ref (md 3), .ref (md 4), .ref (md 5), .ref (md 6), .ref (md 7), .ref (md 8), .ref (md 9), .ref (md 10), .ref (md 11), .int (nI on), .ref (md 13), .int (nI inn), .ref (md 15), .ref (md 16), .ref (md 17), .ref (md 18), .ref (md 19), .ref (md 20), .ref (md 21), .ref (md 22), .ref (md 23), .ref (md 24)])), (md 10, .inl (g.2.1 0, 8, .inl (szF z))), (md 9, .inl (g.2.1 0, 1024, .inl (wr)))]) 0 0 := by
  refine enterI (by decide) rfl (Nat.le_of_ble_eq_true rfl) ?_
  intro p e s m below meth c A ls ar Q hE h0 hret hw hl
  obtain ⟨hx, hb, hr, hml, hown, hts, hlocks, hname⟩ := hE
  have hown : s.vm.findClass RX7 = some m.cls := hown
  have hw : WD g A s [(md 25, .inr (7, [.ref (md 0), .int (nI op), .ref (md 2), .ref (md 3), .ref (md 4), .ref (md 5), .ref (md 6), .ref (md 7), .ref (md 8), .ref (md 9), .ref (md 10), .ref (md 11), .int (nI on), .ref (md 13), .int (nI inn), .ref (md 15), .ref (md 16), .ref (md 17), .ref (md 18), .ref (md 19), .ref (md 20), .ref (md 21), .ref (md 22), .ref (md 23), .ref (md 24)])), (md 10, .inl (g.2.1 0, 8, .inl (szF z))), (md 9, .inl (g.2.1 0, 1024, .inl (wr)))] [] s.heap [] := hw
  have hinX7 : ∀ w ∈ u_ws RX7 TX7 25, w ∈ wsX7_wireAt := by decide +kernel
  have k36 := hts (.fieldLink RX7 36 "RecordWireModel" "wire" "[I") (by decide +kernel)
  have k39 := hts (.fieldLink RX7 39 "RecordWireModel" "sizes" "[I") (by decide +kernel)
  have hl : lv_has ls 3 [(0, .ref (md 25)), (1, .int (nI k)), (2, .int (i))] := hl
  refine lv_aload_n hx hb dX7_wireAt_0 rfl (lv_at hl 0 rfl) ?_
  refine lv_iload_n hx hb dX7_wireAt_1 rfl (lv_at hl 1 rfl) ?_
  refine r_calli (wr := [(md 9, .inl (g.2.1 0, 1024, .inl (wr)))]) [0, 1] [2] h0 hw rfl rfl (by decide) (by decide) (va_runV (As := [.int (nI k)]) (rest := []) ⟨hx, hb, hml, hown, hts⟩ (c_X7_isSlot l g md op on inn z k (by omega) (by omega) _) (cwV 1 hts gX7_wireAt_X7_isSlot rfl rfl rfl (by decide +kernel) ⟨Nat.le_of_ble_eq_true rfl, Nat.le_of_ble_eq_true rfl⟩) (preV_of [0, 1] [.int (nI k)] h0 hw rfl (by decide) 0 7 rfl rfl) rfl rfl hl.1 rfl (lv_room (Nat.le_of_ble_eq_true rfl)) dX7_wireAt_2 ⟨Nat.le_of_ble_eq_true rfl, Nat.le_of_ble_eq_true rfl⟩) (fun r1 u2 H locs hp3 hw => ?_)
  have hw : WD g A s [(md 9, .inl (g.2.1 0, 1024, .inl (wr))), (md 25, .inr (7, [.ref (md 0), .int (nI op), .ref (md 2), .ref (md 3), .ref (md 4), .ref (md 5), .ref (md 6), .ref (md 7), .ref (md 8), .ref (md 9), .ref (md 10), .ref (md 11), .int (nI on), .ref (md 13), .int (nI inn), .ref (md 15), .ref (md 16), .ref (md 17), .ref (md 18), .ref (md 19), .ref (md 20), .ref (md 21), .ref (md 22), .ref (md 23), .ref (md 24)])), (md 10, .inl (g.2.1 0, 8, .inl (szF z)))] [] H locs := hw
  subst hp3
  refine lv_if_eq (tgt := 37) hx hb dX7_wireAt_5 (by decide) (fun c4 => ?_) (fun c4 => ?_)
  · skip
    have c4 : ¬ (¬ z k = 0) := bI_f c4
    refine lv_iconst (v := -1) hx hb dX7_wireAt_37 (by decide +kernel) ?_
    exact hret (hw.perm (X' := [(md 25, .inr (7, [.ref (md 0), .int (nI op), .ref (md 2), .ref (md 3), .ref (md 4), .ref (md 5), .ref (md 6), .ref (md 7), .ref (md 8), .ref (md 9), .ref (md 10), .ref (md 11), .int (nI on), .ref (md 13), .int (nI inn), .ref (md 15), .ref (md 16), .ref (md 17), .ref (md 18), .ref (md 19), .ref (md 20), .ref (md 21), .ref (md 22), .ref (md 23), .ref (md 24)])), (md 10, .inl (g.2.1 0, 8, .inl (szF z))), (md 9, .inl (g.2.1 0, 1024, .inl (wr)))]) [1, 2, 0] (by decide) rfl) () (rfl) (rfl) (by omega) (by omega) dX7_wireAt_38
  · skip
    have c4 : ¬ z k = 0 := bI_t c4
    refine lv_iload_n hx hb dX7_wireAt_8 rfl (lv_at hl 2 rfl) ?_
    refine lv_if_lt (tgt := 37) hx hb dX7_wireAt_9 (by decide) (fun c5 => ?_) (fun c5 => ?_)
    · skip
      have q1 := c5
      refine lv_iconst (v := -1) hx hb dX7_wireAt_37 (by decide +kernel) ?_
      exact hret (hw.perm (X' := [(md 25, .inr (7, [.ref (md 0), .int (nI op), .ref (md 2), .ref (md 3), .ref (md 4), .ref (md 5), .ref (md 6), .ref (md 7), .ref (md 8), .ref (md 9), .ref (md 10), .ref (md 11), .int (nI on), .ref (md 13), .int (nI inn), .ref (md 15), .ref (md 16), .ref (md 17), .ref (md 18), .ref (md 19), .ref (md 20), .ref (md 21), .ref (md 22), .ref (md 23), .ref (md 24)])), (md 10, .inl (g.2.1 0, 8, .inl (szF z))), (md 9, .inl (g.2.1 0, 1024, .inl (wr)))]) [1, 2, 0] (by decide) rfl) () (rfl) (rfl) (by omega) (by omega) dX7_wireAt_38
    · skip
      have q1 := c5
      refine lv_iload_n hx hb dX7_wireAt_12 rfl (lv_at hl 2 rfl) ?_
      refine lv_aload_n hx hb dX7_wireAt_13 rfl (lv_at hl 0 rfl) ?_
      refine r_get (ci := 7) (v := .ref (md 10)) (C := RX7) (T := TX7) (N := 25) hx hb hts hinX7 hown h0 hw 1 rfl rfl 10 (by decide) k39 rfl dX7_wireAt_14 ?_
      refine lv_iload_n hx hb dX7_wireAt_17 rfl (lv_at hl 1 rfl) ?_
      refine r_iald hx hb h0 hw 2 rfl (i := k) (by omega) (by omega) dX7_wireAt_18 ?_
      refine r_te (y := nI (z k)) rfl ?_
      refine lv_icmp_ge (tgt := 37) hx hb dX7_wireAt_19 (by decide) (fun c6 => ?_) (fun c6 => ?_)
      · skip
        refine lv_iconst (v := -1) hx hb dX7_wireAt_37 (by decide +kernel) ?_
        exact hret (hw.perm (X' := [(md 25, .inr (7, [.ref (md 0), .int (nI op), .ref (md 2), .ref (md 3), .ref (md 4), .ref (md 5), .ref (md 6), .ref (md 7), .ref (md 8), .ref (md 9), .ref (md 10), .ref (md 11), .int (nI on), .ref (md 13), .int (nI inn), .ref (md 15), .ref (md 16), .ref (md 17), .ref (md 18), .ref (md 19), .ref (md 20), .ref (md 21), .ref (md 22), .ref (md 23), .ref (md 24)])), (md 10, .inl (g.2.1 0, 8, .inl (szF z))), (md 9, .inl (g.2.1 0, 1024, .inl (wr)))]) [1, 2, 0] (by decide) rfl) () (rfl) (rfl) (by omega) (by omega) dX7_wireAt_38
      · skip
        exact absurd (hi.resolve_left q1) c6

set_option maxHeartbeats 4000000 in
set_option maxRecDepth 100000 in
theorem c_X7_wireAt_bad (l : Launch) (g : GE) (md : Nat → Nat) (op : Nat) (on : Nat) (inn : Nat) (k : Int32) (i : Int32) (hk : ¬ inR k 8) (sz : Nat) : MI l yX7_wireAt wsX7_wireAt { frames := 1, cells := 0, slots := 0, locals := 21 } g [.ref (md 25), .int (k), .int (i)] [(md 25, .inr (7, [.ref (md 0), .int (nI op), .ref (md 2), .ref (md 3), .ref (md 4), .ref (md 5), .ref (md 6), .ref (md 7), .ref (md 8), .ref (md 9), .ref (md 10), .ref (md 11), .int (nI on), .ref (md 13), .int (nI inn), .ref (md 15), .ref (md 16), .ref (md 17), .ref (md 18), .ref (md 19), .ref (md 20), .ref (md 21), .ref (md 22), .ref (md 23), .ref (md 24)]))] sz (fun (r : Int32) (_ : Unit) => r = -1) (fun (_ : Unit) => [(md 25, .inr (7, [.ref (md 0), .int (nI op), .ref (md 2), .ref (md 3), .ref (md 4), .ref (md 5), .ref (md 6), .ref (md 7), .ref (md 8), .ref (md 9), .ref (md 10), .ref (md 11), .int (nI on), .ref (md 13), .int (nI inn), .ref (md 15), .ref (md 16), .ref (md 17), .ref (md 18), .ref (md 19), .ref (md 20), .ref (md 21), .ref (md 22), .ref (md 23), .ref (md 24)]))]) 0 0 := by
  refine enterI (by decide) rfl (Nat.le_of_ble_eq_true rfl) ?_
  intro p e s m below meth c A ls ar Q hE h0 hret hw hl
  obtain ⟨hx, hb, hr, hml, hown, hts, hlocks, hname⟩ := hE
  have hown : s.vm.findClass RX7 = some m.cls := hown
  have hw : WD g A s [(md 25, .inr (7, [.ref (md 0), .int (nI op), .ref (md 2), .ref (md 3), .ref (md 4), .ref (md 5), .ref (md 6), .ref (md 7), .ref (md 8), .ref (md 9), .ref (md 10), .ref (md 11), .int (nI on), .ref (md 13), .int (nI inn), .ref (md 15), .ref (md 16), .ref (md 17), .ref (md 18), .ref (md 19), .ref (md 20), .ref (md 21), .ref (md 22), .ref (md 23), .ref (md 24)]))] [] s.heap [] := hw
  have hinX7 : ∀ w ∈ u_ws RX7 TX7 25, w ∈ wsX7_wireAt := by decide +kernel
  have k36 := hts (.fieldLink RX7 36 "RecordWireModel" "wire" "[I") (by decide +kernel)
  have k39 := hts (.fieldLink RX7 39 "RecordWireModel" "sizes" "[I") (by decide +kernel)
  have hl : lv_has ls 3 [(0, .ref (md 25)), (1, .int (k)), (2, .int (i))] := hl
  refine lv_aload_n hx hb dX7_wireAt_0 rfl (lv_at hl 0 rfl) ?_
  refine lv_iload_n hx hb dX7_wireAt_1 rfl (lv_at hl 1 rfl) ?_
  refine r_calli (wr := []) [0] [] h0 hw rfl rfl (by decide) (by decide) (va_runV (As := [.int (k)]) (rest := []) ⟨hx, hb, hml, hown, hts⟩ (c_X7_isSlot_bad l g md op on inn k (hk) _) (cwV 1 hts gX7_wireAt_X7_isSlot rfl rfl rfl (by decide +kernel) ⟨Nat.le_of_ble_eq_true rfl, Nat.le_of_ble_eq_true rfl⟩) (preV_of [0] [.int (k)] h0 hw rfl (by decide) 0 7 rfl rfl) rfl rfl hl.1 rfl (lv_room (Nat.le_of_ble_eq_true rfl)) dX7_wireAt_2 ⟨Nat.le_of_ble_eq_true rfl, Nat.le_of_ble_eq_true rfl⟩) (fun r1 u2 H locs hp3 hw => ?_)
  have hw : WD g A s [(md 25, .inr (7, [.ref (md 0), .int (nI op), .ref (md 2), .ref (md 3), .ref (md 4), .ref (md 5), .ref (md 6), .ref (md 7), .ref (md 8), .ref (md 9), .ref (md 10), .ref (md 11), .int (nI on), .ref (md 13), .int (nI inn), .ref (md 15), .ref (md 16), .ref (md 17), .ref (md 18), .ref (md 19), .ref (md 20), .ref (md 21), .ref (md 22), .ref (md 23), .ref (md 24)]))] [] H locs := hw
  subst hp3
  refine lv_if_eq (tgt := 37) hx hb dX7_wireAt_5 (by decide) (fun c4 => ?_) (fun c4 => ?_)
  · skip
    rw [← nI_0] at c4
    have c4 : 0 = 0 := (nI_eq (by omega) (by omega)).mp c4
    refine lv_iconst (v := -1) hx hb dX7_wireAt_37 (by decide +kernel) ?_
    exact hret hw () (rfl) (rfl) (by omega) (by omega) dX7_wireAt_38
  · skip
    rw [← nI_0] at c4
    have c4 : ¬ 0 = 0 := fun q => c4 (((nI_eq (by omega) (by omega)).mpr q))
    exfalso; omega

set_option maxHeartbeats 4000000 in
set_option maxRecDepth 100000 in
theorem c_X7_corrupt (l : Launch) (g : GE) (md : Nat → Nat) (op : Nat) (on : Nat) (inn : Nat) (z : Nat → Nat) (wr : Nat → Int32) (k : Nat) (i : Nat) (v : Int32) (hk : k < 8) (hi : i < z k) (hz : z k ≤ 127) (hv : inR v 256) (sz : Nat) : MI l yX7_corrupt wsX7_corrupt { frames := 1, cells := 0, slots := 0, locals := 21 } g [.ref (md 25), .int (nI k), .int (nI i), .int (v)] [(md 25, .inr (7, [.ref (md 0), .int (nI op), .ref (md 2), .ref (md 3), .ref (md 4), .ref (md 5), .ref (md 6), .ref (md 7), .ref (md 8), .ref (md 9), .ref (md 10), .ref (md 11), .int (nI on), .ref (md 13), .int (nI inn), .ref (md 15), .ref (md 16), .ref (md 17), .ref (md 18), .ref (md 19), .ref (md 20), .ref (md 21), .ref (md 22), .ref (md 23), .ref (md 24)])), (md 10, .inl (g.2.1 0, 8, .inl (szF z))), (md 9, .inl (g.2.1 0, 1024, .inl (wr)))] sz (fun (r : Int32) (_ : Unit) => r = nI 1) (fun (_ : Unit) => [(md 25, .inr (7, [.ref (md 0), .int (nI op), .ref (md 2), .ref (md 3), .ref (md 4), .ref (md 5), .ref (md 6), .ref (md 7), .ref (md 8), .ref (md 9), .ref (md 10), .ref (md 11), .int (nI on), .ref (md 13), .int (nI inn), .ref (md 15), .ref (md 16), .ref (md 17), .ref (md 18), .ref (md 19), .ref (md 20), .ref (md 21), .ref (md 22), .ref (md 23), .ref (md 24)])), (md 10, .inl (g.2.1 0, 8, .inl (szF z))), (md 9, .inl (g.2.1 0, 1024, .inl (upd wr (128 * k + i) v)))]) 0 0 := by
  refine enterZ (by decide) rfl (Nat.le_of_ble_eq_true rfl) ?_
  intro p e s m below meth c A ls ar Q hE h0 hret hw hl
  obtain ⟨hx, hb, hr, hml, hown, hts, hlocks, hname⟩ := hE
  have hown : s.vm.findClass RX7 = some m.cls := hown
  have hw : WD g A s [(md 25, .inr (7, [.ref (md 0), .int (nI op), .ref (md 2), .ref (md 3), .ref (md 4), .ref (md 5), .ref (md 6), .ref (md 7), .ref (md 8), .ref (md 9), .ref (md 10), .ref (md 11), .int (nI on), .ref (md 13), .int (nI inn), .ref (md 15), .ref (md 16), .ref (md 17), .ref (md 18), .ref (md 19), .ref (md 20), .ref (md 21), .ref (md 22), .ref (md 23), .ref (md 24)])), (md 10, .inl (g.2.1 0, 8, .inl (szF z))), (md 9, .inl (g.2.1 0, 1024, .inl (wr)))] [] s.heap [] := hw
  have hinX7 : ∀ w ∈ u_ws RX7 TX7 25, w ∈ wsX7_corrupt := by decide +kernel
  have k36 := hts (.fieldLink RX7 36 "RecordWireModel" "wire" "[I") (by decide +kernel)
  have k39 := hts (.fieldLink RX7 39 "RecordWireModel" "sizes" "[I") (by decide +kernel)
  have hl : lv_has ls 5 [(0, .ref (md 25)), (1, .int (nI k)), (2, .int (nI i)), (3, .int (v))] := hl
  refine lv_aload_n hx hb dX7_corrupt_0 rfl (lv_at hl 0 rfl) ?_
  refine lv_iload_n hx hb dX7_corrupt_1 rfl (lv_at hl 1 rfl) ?_
  refine r_calli (wr := [(md 9, .inl (g.2.1 0, 1024, .inl (wr)))]) [0, 1] [2] h0 hw rfl rfl (by decide) (by decide) (va_runV (As := [.int (nI k)]) (rest := []) ⟨hx, hb, hml, hown, hts⟩ (c_X7_isSlot l g md op on inn z k (by omega) (by omega) _) (cwV 1 hts gX7_corrupt_X7_isSlot rfl rfl rfl (by decide +kernel) ⟨Nat.le_of_ble_eq_true rfl, Nat.le_of_ble_eq_true rfl⟩) (preV_of [0, 1] [.int (nI k)] h0 hw rfl (by decide) 0 7 rfl rfl) rfl rfl hl.1 rfl (lv_room (Nat.le_of_ble_eq_true rfl)) dX7_corrupt_2 ⟨Nat.le_of_ble_eq_true rfl, Nat.le_of_ble_eq_true rfl⟩) (fun r1 u2 H locs hp3 hw => ?_)
  have hw : WD g A s [(md 9, .inl (g.2.1 0, 1024, .inl (wr))), (md 25, .inr (7, [.ref (md 0), .int (nI op), .ref (md 2), .ref (md 3), .ref (md 4), .ref (md 5), .ref (md 6), .ref (md 7), .ref (md 8), .ref (md 9), .ref (md 10), .ref (md 11), .int (nI on), .ref (md 13), .int (nI inn), .ref (md 15), .ref (md 16), .ref (md 17), .ref (md 18), .ref (md 19), .ref (md 20), .ref (md 21), .ref (md 22), .ref (md 23), .ref (md 24)])), (md 10, .inl (g.2.1 0, 8, .inl (szF z)))] [] H locs := hw
  subst hp3
  refine lv_if_eq (tgt := 37) hx hb dX7_corrupt_5 (by decide) (fun c4 => ?_) (fun c4 => ?_)
  · skip
    have c4 : ¬ (¬ z k = 0) := bI_f c4
    exact absurd (by omega) c4
  · skip
    have c4 : ¬ z k = 0 := bI_t c4
    refine lv_iload_n hx hb dX7_corrupt_8 rfl (lv_at hl 2 rfl) ?_
    refine lv_if_lt (tgt := 37) hx hb dX7_corrupt_9 (by decide) (fun c5 => ?_) (fun c5 => ?_)
    · skip
      rw [← nI_0] at c5
      have c5 : i < 0 := (nI_ltI (by omega) (by omega)).mp c5
      exfalso; omega
    · skip
      rw [← nI_0] at c5
      have c5 : ¬ i < 0 := fun q => c5 (((nI_ltI (by omega) (by omega)).mpr q))
      refine lv_iload_n hx hb dX7_corrupt_12 rfl (lv_at hl 2 rfl) ?_
      refine lv_aload_n hx hb dX7_corrupt_13 rfl (lv_at hl 0 rfl) ?_
      refine r_get (ci := 7) (v := .ref (md 10)) (C := RX7) (T := TX7) (N := 25) hx hb hts hinX7 hown h0 hw 1 rfl rfl 10 (by decide) k39 rfl dX7_corrupt_14 ?_
      refine lv_iload_n hx hb dX7_corrupt_17 rfl (lv_at hl 1 rfl) ?_
      refine r_iald hx hb h0 hw 2 rfl (i := k) (by omega) (by omega) dX7_corrupt_18 ?_
      refine r_te (y := nI (z k)) rfl ?_
      refine lv_icmp_ge (tgt := 37) hx hb dX7_corrupt_19 (by decide) (fun c6 => ?_) (fun c6 => ?_)
      · skip
        have c6 : (z k) ≤ i := (nI_leI (by omega) (by omega)).mp c6
        exfalso; omega
      · skip
        have c6 : ¬ (z k) ≤ i := fun q => c6 (((nI_leI (by omega) (by omega)).mpr q))
        refine lv_iload_n hx hb dX7_corrupt_22 rfl (lv_at hl 3 rfl) ?_
        refine lv_if_lt (tgt := 37) hx hb dX7_corrupt_23 (by decide) (fun c7 => ?_) (fun c7 => ?_)
        · skip
          exact absurd c7 (Int32.not_lt.mpr hv.1)
        · skip
          refine lv_iload_n hx hb dX7_corrupt_26 rfl (lv_at hl 3 rfl) ?_
          refine lv_sipush (v := nI 256) hx hb dX7_corrupt_27 (by decide +kernel) ?_
          refine lv_icmp_ge (tgt := 37) hx hb dX7_corrupt_30 (by decide) (fun c8 => ?_) (fun c8 => ?_)
          · skip
            exact absurd c8 (Int32.not_le.mpr hv.2)
          · skip
            refine lv_iconst (v := nI 1) hx hb dX7_corrupt_33 (by decide +kernel) ?_
            refine lv_goto (tgt := 38) hx hb dX7_corrupt_34 (by decide) ?_
            refine lv_istore (lv' := [(4, .int (nI 1)), (0, .ref (md 25)), (1, .int (nI k)), (2, .int (nI i)), (3, .int (v))]) hx hb dX7_corrupt_38 hl (by decide) rfl (fun ls hl => ?_)
            refine lv_iload hx hb dX7_corrupt_40 (lv_at hl 0 rfl) ?_
            refine lv_if_eq (tgt := 58) hx hb dX7_corrupt_42 (by decide) (fun c9 => ?_) (fun c9 => ?_)
            · skip
              rw [← nI_0] at c9
              have c9 : 1 = 0 := (nI_eq (by omega) (by omega)).mp c9
              exfalso; omega
            · skip
              rw [← nI_0] at c9
              have c9 : ¬ 1 = 0 := fun q => c9 (((nI_eq (by omega) (by omega)).mpr q))
              refine lv_aload_n hx hb dX7_corrupt_45 rfl (lv_at hl 1 rfl) ?_
              refine r_get (ci := 7) (v := .ref (md 9)) (C := RX7) (T := TX7) (N := 25) hx hb hts hinX7 hown h0 hw 1 rfl rfl 9 (by decide) k36 rfl dX7_corrupt_46 ?_
              refine lv_sipush (v := nI 128) hx hb dX7_corrupt_49 (by decide +kernel) ?_
              refine lv_iload_n hx hb dX7_corrupt_52 rfl (lv_at hl 2 rfl) ?_
              refine lv_imul hx hb dX7_corrupt_53 ?_
              refine r_te (y := nI (128 * k)) (pk_mul 128 k) ?_
              refine lv_iload_n hx hb dX7_corrupt_54 rfl (lv_at hl 3 rfl) ?_
              refine lv_iadd hx hb dX7_corrupt_55 ?_
              refine r_te (y := nI (128 * k + i)) (nI_add (128 * k) i) ?_
              refine lv_iload_n hx hb dX7_corrupt_56 rfl (lv_at hl 4 rfl) ?_
              refine r_iast hx hb h0 hw 0 rfl (i := 128 * k + i) (by omega) (by omega) dX7_corrupt_57 (fun H locs hw => ?_)
              have hw : WD g A s [(md 9, .inl (g.2.1 0, 1024, .inl (upd wr (128 * k + i) v))), (md 25, .inr (7, [.ref (md 0), .int (nI op), .ref (md 2), .ref (md 3), .ref (md 4), .ref (md 5), .ref (md 6), .ref (md 7), .ref (md 8), .ref (md 9), .ref (md 10), .ref (md 11), .int (nI on), .ref (md 13), .int (nI inn), .ref (md 15), .ref (md 16), .ref (md 17), .ref (md 18), .ref (md 19), .ref (md 20), .ref (md 21), .ref (md 22), .ref (md 23), .ref (md 24)])), (md 10, .inl (g.2.1 0, 8, .inl (szF z)))] [] H locs := hw
              refine lv_iload hx hb dX7_corrupt_58 (lv_at hl 0 rfl) ?_
              exact hret (rfl) (hw.perm (X' := [(md 25, .inr (7, [.ref (md 0), .int (nI op), .ref (md 2), .ref (md 3), .ref (md 4), .ref (md 5), .ref (md 6), .ref (md 7), .ref (md 8), .ref (md 9), .ref (md 10), .ref (md 11), .int (nI on), .ref (md 13), .int (nI inn), .ref (md 15), .ref (md 16), .ref (md 17), .ref (md 18), .ref (md 19), .ref (md 20), .ref (md 21), .ref (md 22), .ref (md 23), .ref (md 24)])), (md 10, .inl (g.2.1 0, 8, .inl (szF z))), (md 9, .inl (g.2.1 0, 1024, .inl (upd wr (128 * k + i) v)))]) [1, 2, 0] (by decide) rfl) () (rfl) (rfl) (by omega) (by omega) dX7_corrupt_60

set_option maxHeartbeats 4000000 in
set_option maxRecDepth 100000 in
theorem c_X7_corrupt_out (l : Launch) (g : GE) (md : Nat → Nat) (op : Nat) (on : Nat) (inn : Nat) (z : Nat → Nat) (wr : Nat → Int32) (k : Nat) (i : Int32) (v : Int32) (hk : k < 8) (hz : z k ≤ 127) (hi : ¬ (inR i (z k) ∧ inR v 256)) (sz : Nat) : MI l yX7_corrupt wsX7_corrupt { frames := 1, cells := 0, slots := 0, locals := 21 } g [.ref (md 25), .int (nI k), .int (i), .int (v)] [(md 25, .inr (7, [.ref (md 0), .int (nI op), .ref (md 2), .ref (md 3), .ref (md 4), .ref (md 5), .ref (md 6), .ref (md 7), .ref (md 8), .ref (md 9), .ref (md 10), .ref (md 11), .int (nI on), .ref (md 13), .int (nI inn), .ref (md 15), .ref (md 16), .ref (md 17), .ref (md 18), .ref (md 19), .ref (md 20), .ref (md 21), .ref (md 22), .ref (md 23), .ref (md 24)])), (md 10, .inl (g.2.1 0, 8, .inl (szF z))), (md 9, .inl (g.2.1 0, 1024, .inl (wr)))] sz (fun (r : Int32) (_ : Unit) => r = nI 0) (fun (_ : Unit) => [(md 25, .inr (7, [.ref (md 0), .int (nI op), .ref (md 2), .ref (md 3), .ref (md 4), .ref (md 5), .ref (md 6), .ref (md 7), .ref (md 8), .ref (md 9), .ref (md 10), .ref (md 11), .int (nI on), .ref (md 13), .int (nI inn), .ref (md 15), .ref (md 16), .ref (md 17), .ref (md 18), .ref (md 19), .ref (md 20), .ref (md 21), .ref (md 22), .ref (md 23), .ref (md 24)])), (md 10, .inl (g.2.1 0, 8, .inl (szF z))), (md 9, .inl (g.2.1 0, 1024, .inl (wr)))]) 0 0 := by
  refine enterZ (by decide) rfl (Nat.le_of_ble_eq_true rfl) ?_
  intro p e s m below meth c A ls ar Q hE h0 hret hw hl
  obtain ⟨hx, hb, hr, hml, hown, hts, hlocks, hname⟩ := hE
  have hown : s.vm.findClass RX7 = some m.cls := hown
  have hw : WD g A s [(md 25, .inr (7, [.ref (md 0), .int (nI op), .ref (md 2), .ref (md 3), .ref (md 4), .ref (md 5), .ref (md 6), .ref (md 7), .ref (md 8), .ref (md 9), .ref (md 10), .ref (md 11), .int (nI on), .ref (md 13), .int (nI inn), .ref (md 15), .ref (md 16), .ref (md 17), .ref (md 18), .ref (md 19), .ref (md 20), .ref (md 21), .ref (md 22), .ref (md 23), .ref (md 24)])), (md 10, .inl (g.2.1 0, 8, .inl (szF z))), (md 9, .inl (g.2.1 0, 1024, .inl (wr)))] [] s.heap [] := hw
  have hinX7 : ∀ w ∈ u_ws RX7 TX7 25, w ∈ wsX7_corrupt := by decide +kernel
  have k36 := hts (.fieldLink RX7 36 "RecordWireModel" "wire" "[I") (by decide +kernel)
  have k39 := hts (.fieldLink RX7 39 "RecordWireModel" "sizes" "[I") (by decide +kernel)
  have hl : lv_has ls 5 [(0, .ref (md 25)), (1, .int (nI k)), (2, .int (i)), (3, .int (v))] := hl
  refine lv_aload_n hx hb dX7_corrupt_0 rfl (lv_at hl 0 rfl) ?_
  refine lv_iload_n hx hb dX7_corrupt_1 rfl (lv_at hl 1 rfl) ?_
  refine r_calli (wr := [(md 9, .inl (g.2.1 0, 1024, .inl (wr)))]) [0, 1] [2] h0 hw rfl rfl (by decide) (by decide) (va_runV (As := [.int (nI k)]) (rest := []) ⟨hx, hb, hml, hown, hts⟩ (c_X7_isSlot l g md op on inn z k (by omega) (by omega) _) (cwV 1 hts gX7_corrupt_X7_isSlot rfl rfl rfl (by decide +kernel) ⟨Nat.le_of_ble_eq_true rfl, Nat.le_of_ble_eq_true rfl⟩) (preV_of [0, 1] [.int (nI k)] h0 hw rfl (by decide) 0 7 rfl rfl) rfl rfl hl.1 rfl (lv_room (Nat.le_of_ble_eq_true rfl)) dX7_corrupt_2 ⟨Nat.le_of_ble_eq_true rfl, Nat.le_of_ble_eq_true rfl⟩) (fun r1 u2 H locs hp3 hw => ?_)
  have hw : WD g A s [(md 9, .inl (g.2.1 0, 1024, .inl (wr))), (md 25, .inr (7, [.ref (md 0), .int (nI op), .ref (md 2), .ref (md 3), .ref (md 4), .ref (md 5), .ref (md 6), .ref (md 7), .ref (md 8), .ref (md 9), .ref (md 10), .ref (md 11), .int (nI on), .ref (md 13), .int (nI inn), .ref (md 15), .ref (md 16), .ref (md 17), .ref (md 18), .ref (md 19), .ref (md 20), .ref (md 21), .ref (md 22), .ref (md 23), .ref (md 24)])), (md 10, .inl (g.2.1 0, 8, .inl (szF z)))] [] H locs := hw
  subst hp3
  refine lv_if_eq (tgt := 37) hx hb dX7_corrupt_5 (by decide) (fun c4 => ?_) (fun c4 => ?_)
  · skip
    have c4 : ¬ (¬ z k = 0) := bI_f c4
    refine lv_iconst (v := nI 0) hx hb dX7_corrupt_37 (by decide +kernel) ?_
    refine lv_istore (lv' := [(4, .int (nI 0)), (0, .ref (md 25)), (1, .int (nI k)), (2, .int (i)), (3, .int (v))]) hx hb dX7_corrupt_38 hl (by decide) rfl (fun ls hl => ?_)
    refine lv_iload hx hb dX7_corrupt_40 (lv_at hl 0 rfl) ?_
    refine lv_if_eq (tgt := 58) hx hb dX7_corrupt_42 (by decide) (fun c5 => ?_) (fun c5 => ?_)
    · skip
      rw [← nI_0] at c5
      have c5 : 0 = 0 := (nI_eq (by omega) (by omega)).mp c5
      refine lv_iload hx hb dX7_corrupt_58 (lv_at hl 0 rfl) ?_
      exact hret (rfl) (hw.perm (X' := [(md 25, .inr (7, [.ref (md 0), .int (nI op), .ref (md 2), .ref (md 3), .ref (md 4), .ref (md 5), .ref (md 6), .ref (md 7), .ref (md 8), .ref (md 9), .ref (md 10), .ref (md 11), .int (nI on), .ref (md 13), .int (nI inn), .ref (md 15), .ref (md 16), .ref (md 17), .ref (md 18), .ref (md 19), .ref (md 20), .ref (md 21), .ref (md 22), .ref (md 23), .ref (md 24)])), (md 10, .inl (g.2.1 0, 8, .inl (szF z))), (md 9, .inl (g.2.1 0, 1024, .inl (wr)))]) [1, 2, 0] (by decide) rfl) () (rfl) (rfl) (by omega) (by omega) dX7_corrupt_60
    · skip
      rw [← nI_0] at c5
      have c5 : ¬ 0 = 0 := fun q => c5 (((nI_eq (by omega) (by omega)).mpr q))
      exfalso; omega
  · skip
    have c4 : ¬ z k = 0 := bI_t c4
    refine lv_iload_n hx hb dX7_corrupt_8 rfl (lv_at hl 2 rfl) ?_
    refine lv_if_lt (tgt := 37) hx hb dX7_corrupt_9 (by decide) (fun c6 => ?_) (fun c6 => ?_)
    · skip
      have q1 := c6
      refine lv_iconst (v := nI 0) hx hb dX7_corrupt_37 (by decide +kernel) ?_
      refine lv_istore (lv' := [(4, .int (nI 0)), (0, .ref (md 25)), (1, .int (nI k)), (2, .int (i)), (3, .int (v))]) hx hb dX7_corrupt_38 hl (by decide) rfl (fun ls hl => ?_)
      refine lv_iload hx hb dX7_corrupt_40 (lv_at hl 0 rfl) ?_
      refine lv_if_eq (tgt := 58) hx hb dX7_corrupt_42 (by decide) (fun c7 => ?_) (fun c7 => ?_)
      · skip
        rw [← nI_0] at c7
        have c7 : 0 = 0 := (nI_eq (by omega) (by omega)).mp c7
        refine lv_iload hx hb dX7_corrupt_58 (lv_at hl 0 rfl) ?_
        exact hret (rfl) (hw.perm (X' := [(md 25, .inr (7, [.ref (md 0), .int (nI op), .ref (md 2), .ref (md 3), .ref (md 4), .ref (md 5), .ref (md 6), .ref (md 7), .ref (md 8), .ref (md 9), .ref (md 10), .ref (md 11), .int (nI on), .ref (md 13), .int (nI inn), .ref (md 15), .ref (md 16), .ref (md 17), .ref (md 18), .ref (md 19), .ref (md 20), .ref (md 21), .ref (md 22), .ref (md 23), .ref (md 24)])), (md 10, .inl (g.2.1 0, 8, .inl (szF z))), (md 9, .inl (g.2.1 0, 1024, .inl (wr)))]) [1, 2, 0] (by decide) rfl) () (rfl) (rfl) (by omega) (by omega) dX7_corrupt_60
      · skip
        rw [← nI_0] at c7
        have c7 : ¬ 0 = 0 := fun q => c7 (((nI_eq (by omega) (by omega)).mpr q))
        exfalso; omega
    · skip
      have q1 := c6
      refine lv_iload_n hx hb dX7_corrupt_12 rfl (lv_at hl 2 rfl) ?_
      refine lv_aload_n hx hb dX7_corrupt_13 rfl (lv_at hl 0 rfl) ?_
      refine r_get (ci := 7) (v := .ref (md 10)) (C := RX7) (T := TX7) (N := 25) hx hb hts hinX7 hown h0 hw 1 rfl rfl 10 (by decide) k39 rfl dX7_corrupt_14 ?_
      refine lv_iload_n hx hb dX7_corrupt_17 rfl (lv_at hl 1 rfl) ?_
      refine r_iald hx hb h0 hw 2 rfl (i := k) (by omega) (by omega) dX7_corrupt_18 ?_
      refine r_te (y := nI (z k)) rfl ?_
      refine lv_icmp_ge (tgt := 37) hx hb dX7_corrupt_19 (by decide) (fun c8 => ?_) (fun c8 => ?_)
      · skip
        have q2 := c8
        refine lv_iconst (v := nI 0) hx hb dX7_corrupt_37 (by decide +kernel) ?_
        refine lv_istore (lv' := [(4, .int (nI 0)), (0, .ref (md 25)), (1, .int (nI k)), (2, .int (i)), (3, .int (v))]) hx hb dX7_corrupt_38 hl (by decide) rfl (fun ls hl => ?_)
        refine lv_iload hx hb dX7_corrupt_40 (lv_at hl 0 rfl) ?_
        refine lv_if_eq (tgt := 58) hx hb dX7_corrupt_42 (by decide) (fun c9 => ?_) (fun c9 => ?_)
        · skip
          rw [← nI_0] at c9
          have c9 : 0 = 0 := (nI_eq (by omega) (by omega)).mp c9
          refine lv_iload hx hb dX7_corrupt_58 (lv_at hl 0 rfl) ?_
          exact hret (rfl) (hw.perm (X' := [(md 25, .inr (7, [.ref (md 0), .int (nI op), .ref (md 2), .ref (md 3), .ref (md 4), .ref (md 5), .ref (md 6), .ref (md 7), .ref (md 8), .ref (md 9), .ref (md 10), .ref (md 11), .int (nI on), .ref (md 13), .int (nI inn), .ref (md 15), .ref (md 16), .ref (md 17), .ref (md 18), .ref (md 19), .ref (md 20), .ref (md 21), .ref (md 22), .ref (md 23), .ref (md 24)])), (md 10, .inl (g.2.1 0, 8, .inl (szF z))), (md 9, .inl (g.2.1 0, 1024, .inl (wr)))]) [1, 2, 0] (by decide) rfl) () (rfl) (rfl) (by omega) (by omega) dX7_corrupt_60
        · skip
          rw [← nI_0] at c9
          have c9 : ¬ 0 = 0 := fun q => c9 (((nI_eq (by omega) (by omega)).mpr q))
          exfalso; omega
      · skip
        have q2 := c8
        refine lv_iload_n hx hb dX7_corrupt_22 rfl (lv_at hl 3 rfl) ?_
        refine lv_if_lt (tgt := 37) hx hb dX7_corrupt_23 (by decide) (fun c10 => ?_) (fun c10 => ?_)
        · skip
          have q3 := c10
          refine lv_iconst (v := nI 0) hx hb dX7_corrupt_37 (by decide +kernel) ?_
          refine lv_istore (lv' := [(4, .int (nI 0)), (0, .ref (md 25)), (1, .int (nI k)), (2, .int (i)), (3, .int (v))]) hx hb dX7_corrupt_38 hl (by decide) rfl (fun ls hl => ?_)
          refine lv_iload hx hb dX7_corrupt_40 (lv_at hl 0 rfl) ?_
          refine lv_if_eq (tgt := 58) hx hb dX7_corrupt_42 (by decide) (fun c11 => ?_) (fun c11 => ?_)
          · skip
            rw [← nI_0] at c11
            have c11 : 0 = 0 := (nI_eq (by omega) (by omega)).mp c11
            refine lv_iload hx hb dX7_corrupt_58 (lv_at hl 0 rfl) ?_
            exact hret (rfl) (hw.perm (X' := [(md 25, .inr (7, [.ref (md 0), .int (nI op), .ref (md 2), .ref (md 3), .ref (md 4), .ref (md 5), .ref (md 6), .ref (md 7), .ref (md 8), .ref (md 9), .ref (md 10), .ref (md 11), .int (nI on), .ref (md 13), .int (nI inn), .ref (md 15), .ref (md 16), .ref (md 17), .ref (md 18), .ref (md 19), .ref (md 20), .ref (md 21), .ref (md 22), .ref (md 23), .ref (md 24)])), (md 10, .inl (g.2.1 0, 8, .inl (szF z))), (md 9, .inl (g.2.1 0, 1024, .inl (wr)))]) [1, 2, 0] (by decide) rfl) () (rfl) (rfl) (by omega) (by omega) dX7_corrupt_60
          · skip
            rw [← nI_0] at c11
            have c11 : ¬ 0 = 0 := fun q => c11 (((nI_eq (by omega) (by omega)).mpr q))
            exfalso; omega
        · skip
          have q3 := c10
          refine lv_iload_n hx hb dX7_corrupt_26 rfl (lv_at hl 3 rfl) ?_
          refine lv_sipush (v := nI 256) hx hb dX7_corrupt_27 (by decide +kernel) ?_
          refine lv_icmp_ge (tgt := 37) hx hb dX7_corrupt_30 (by decide) (fun c12 => ?_) (fun c12 => ?_)
          · skip
            refine lv_iconst (v := nI 0) hx hb dX7_corrupt_37 (by decide +kernel) ?_
            refine lv_istore (lv' := [(4, .int (nI 0)), (0, .ref (md 25)), (1, .int (nI k)), (2, .int (i)), (3, .int (v))]) hx hb dX7_corrupt_38 hl (by decide) rfl (fun ls hl => ?_)
            refine lv_iload hx hb dX7_corrupt_40 (lv_at hl 0 rfl) ?_
            refine lv_if_eq (tgt := 58) hx hb dX7_corrupt_42 (by decide) (fun c13 => ?_) (fun c13 => ?_)
            · skip
              rw [← nI_0] at c13
              have c13 : 0 = 0 := (nI_eq (by omega) (by omega)).mp c13
              refine lv_iload hx hb dX7_corrupt_58 (lv_at hl 0 rfl) ?_
              exact hret (rfl) (hw.perm (X' := [(md 25, .inr (7, [.ref (md 0), .int (nI op), .ref (md 2), .ref (md 3), .ref (md 4), .ref (md 5), .ref (md 6), .ref (md 7), .ref (md 8), .ref (md 9), .ref (md 10), .ref (md 11), .int (nI on), .ref (md 13), .int (nI inn), .ref (md 15), .ref (md 16), .ref (md 17), .ref (md 18), .ref (md 19), .ref (md 20), .ref (md 21), .ref (md 22), .ref (md 23), .ref (md 24)])), (md 10, .inl (g.2.1 0, 8, .inl (szF z))), (md 9, .inl (g.2.1 0, 1024, .inl (wr)))]) [1, 2, 0] (by decide) rfl) () (rfl) (rfl) (by omega) (by omega) dX7_corrupt_60
            · skip
              rw [← nI_0] at c13
              have c13 : ¬ 0 = 0 := fun q => c13 (((nI_eq (by omega) (by omega)).mpr q))
              exfalso; omega
          · skip
            exact absurd ⟨⟨Int32.not_lt.mp q1, Int32.not_le.mp q2⟩, Int32.not_lt.mp q3, Int32.not_le.mp c12⟩ hi

set_option maxHeartbeats 4000000 in
set_option maxRecDepth 100000 in
theorem c_X7_corrupt_bad (l : Launch) (g : GE) (md : Nat → Nat) (op : Nat) (on : Nat) (inn : Nat) (k : Int32) (i : Int32) (v : Int32) (hk : ¬ inR k 8) (sz : Nat) : MI l yX7_corrupt wsX7_corrupt { frames := 1, cells := 0, slots := 0, locals := 21 } g [.ref (md 25), .int (k), .int (i), .int (v)] [(md 25, .inr (7, [.ref (md 0), .int (nI op), .ref (md 2), .ref (md 3), .ref (md 4), .ref (md 5), .ref (md 6), .ref (md 7), .ref (md 8), .ref (md 9), .ref (md 10), .ref (md 11), .int (nI on), .ref (md 13), .int (nI inn), .ref (md 15), .ref (md 16), .ref (md 17), .ref (md 18), .ref (md 19), .ref (md 20), .ref (md 21), .ref (md 22), .ref (md 23), .ref (md 24)]))] sz (fun (r : Int32) (_ : Unit) => r = nI 0) (fun (_ : Unit) => [(md 25, .inr (7, [.ref (md 0), .int (nI op), .ref (md 2), .ref (md 3), .ref (md 4), .ref (md 5), .ref (md 6), .ref (md 7), .ref (md 8), .ref (md 9), .ref (md 10), .ref (md 11), .int (nI on), .ref (md 13), .int (nI inn), .ref (md 15), .ref (md 16), .ref (md 17), .ref (md 18), .ref (md 19), .ref (md 20), .ref (md 21), .ref (md 22), .ref (md 23), .ref (md 24)]))]) 0 0 := by
  refine enterZ (by decide) rfl (Nat.le_of_ble_eq_true rfl) ?_
  intro p e s m below meth c A ls ar Q hE h0 hret hw hl
  obtain ⟨hx, hb, hr, hml, hown, hts, hlocks, hname⟩ := hE
  have hown : s.vm.findClass RX7 = some m.cls := hown
  have hw : WD g A s [(md 25, .inr (7, [.ref (md 0), .int (nI op), .ref (md 2), .ref (md 3), .ref (md 4), .ref (md 5), .ref (md 6), .ref (md 7), .ref (md 8), .ref (md 9), .ref (md 10), .ref (md 11), .int (nI on), .ref (md 13), .int (nI inn), .ref (md 15), .ref (md 16), .ref (md 17), .ref (md 18), .ref (md 19), .ref (md 20), .ref (md 21), .ref (md 22), .ref (md 23), .ref (md 24)]))] [] s.heap [] := hw
  have hinX7 : ∀ w ∈ u_ws RX7 TX7 25, w ∈ wsX7_corrupt := by decide +kernel
  have k36 := hts (.fieldLink RX7 36 "RecordWireModel" "wire" "[I") (by decide +kernel)
  have k39 := hts (.fieldLink RX7 39 "RecordWireModel" "sizes" "[I") (by decide +kernel)
  have hl : lv_has ls 5 [(0, .ref (md 25)), (1, .int (k)), (2, .int (i)), (3, .int (v))] := hl
  refine lv_aload_n hx hb dX7_corrupt_0 rfl (lv_at hl 0 rfl) ?_
  refine lv_iload_n hx hb dX7_corrupt_1 rfl (lv_at hl 1 rfl) ?_
  refine r_calli (wr := []) [0] [] h0 hw rfl rfl (by decide) (by decide) (va_runV (As := [.int (k)]) (rest := []) ⟨hx, hb, hml, hown, hts⟩ (c_X7_isSlot_bad l g md op on inn k (hk) _) (cwV 1 hts gX7_corrupt_X7_isSlot rfl rfl rfl (by decide +kernel) ⟨Nat.le_of_ble_eq_true rfl, Nat.le_of_ble_eq_true rfl⟩) (preV_of [0] [.int (k)] h0 hw rfl (by decide) 0 7 rfl rfl) rfl rfl hl.1 rfl (lv_room (Nat.le_of_ble_eq_true rfl)) dX7_corrupt_2 ⟨Nat.le_of_ble_eq_true rfl, Nat.le_of_ble_eq_true rfl⟩) (fun r1 u2 H locs hp3 hw => ?_)
  have hw : WD g A s [(md 25, .inr (7, [.ref (md 0), .int (nI op), .ref (md 2), .ref (md 3), .ref (md 4), .ref (md 5), .ref (md 6), .ref (md 7), .ref (md 8), .ref (md 9), .ref (md 10), .ref (md 11), .int (nI on), .ref (md 13), .int (nI inn), .ref (md 15), .ref (md 16), .ref (md 17), .ref (md 18), .ref (md 19), .ref (md 20), .ref (md 21), .ref (md 22), .ref (md 23), .ref (md 24)]))] [] H locs := hw
  subst hp3
  refine lv_if_eq (tgt := 37) hx hb dX7_corrupt_5 (by decide) (fun c4 => ?_) (fun c4 => ?_)
  · skip
    rw [← nI_0] at c4
    have c4 : 0 = 0 := (nI_eq (by omega) (by omega)).mp c4
    refine lv_iconst (v := nI 0) hx hb dX7_corrupt_37 (by decide +kernel) ?_
    refine lv_istore (lv' := [(4, .int (nI 0)), (0, .ref (md 25)), (1, .int (k)), (2, .int (i)), (3, .int (v))]) hx hb dX7_corrupt_38 hl (by decide) rfl (fun ls hl => ?_)
    refine lv_iload hx hb dX7_corrupt_40 (lv_at hl 0 rfl) ?_
    refine lv_if_eq (tgt := 58) hx hb dX7_corrupt_42 (by decide) (fun c5 => ?_) (fun c5 => ?_)
    · skip
      rw [← nI_0] at c5
      have c5 : 0 = 0 := (nI_eq (by omega) (by omega)).mp c5
      refine lv_iload hx hb dX7_corrupt_58 (lv_at hl 0 rfl) ?_
      exact hret (rfl) hw () (rfl) (rfl) (by omega) (by omega) dX7_corrupt_60
    · skip
      rw [← nI_0] at c5
      have c5 : ¬ 0 = 0 := fun q => c5 (((nI_eq (by omega) (by omega)).mpr q))
      exfalso; omega
  · skip
    rw [← nI_0] at c4
    have c4 : ¬ 0 = 0 := fun q => c4 (((nI_eq (by omega) (by omega)).mpr q))
    exfalso; omega

set_option maxHeartbeats 4000000 in
set_option maxRecDepth 100000 in
theorem c_X7_isBelow (l : Launch) (g : GE) (a : Int64) (b : Int64) (sz : Nat) : MI l yX7_isBelow wsX7_isBelow { frames := 0, cells := 0, slots := 0, locals := 0 } g [.long (a), .long (b)] [] sz (fun (r : Int32) (_ : Unit) => r = bI (decide (lowU a b))) (fun (_ : Unit) => []) 0 0 := by
  refine enterZ (by decide) rfl (Nat.le_of_ble_eq_true rfl) ?_
  intro p e s m below meth c A ls ar Q hE h0 hret hw hl
  obtain ⟨hx, hb, hr, hml, hown, hts, hlocks, hname⟩ := hE
  have hown : s.vm.findClass RX7 = some m.cls := hown
  have hw : WD g A s [] [] s.heap [] := hw
  have k213 := hts (.constantLong RX7 213 (-9223372036854775808)) (by decide +kernel)
  have hl : lv_has ls 4 [(0, .long (a)), (2, .long (b))] := hl
  refine lv_lload_n hx hb dX7_isBelow_0 rfl (lv_at hl 0 rfl) ?_
  refine lv_ldc2 hx hb hown k213 dX7_isBelow_1 ?_
  refine lv_lxor hx hb dX7_isBelow_4 ?_
  refine lv_lload_n hx hb dX7_isBelow_5 rfl (lv_at hl 1 rfl) ?_
  refine lv_ldc2 hx hb hown k213 dX7_isBelow_6 ?_
  refine lv_lxor hx hb dX7_isBelow_9 ?_
  refine W.lcmp hx hb dX7_isBelow_10 ?_
  refine lv_if_ge (tgt := 18) hx hb dX7_isBelow_11 (by decide) (fun c1 => ?_) (fun c1 => ?_)
  · skip
    have c1 : (b ^^^ (-9223372036854775808)) ≤ (a ^^^ (-9223372036854775808)) := (lg_cmp_ge _ _).mp c1
    have c1n : ¬ (a ^^^ (-9223372036854775808)) < (b ^^^ (-9223372036854775808)) := Int64.not_lt.mpr c1
    refine lv_iconst (v := nI 0) hx hb dX7_isBelow_18 (by decide +kernel) ?_
    exact hret (rfl) hw () (by first | exact bI_T c1 | exact bI_F c1n) (rfl) (by omega) (by omega) dX7_isBelow_19
  · skip
    have c1n : ¬ (b ^^^ (-9223372036854775808)) ≤ (a ^^^ (-9223372036854775808)) := fun q => c1 ((lg_cmp_ge _ _).mpr q)
    have c1 : (a ^^^ (-9223372036854775808)) < (b ^^^ (-9223372036854775808)) := Int64.not_le.mp c1n
    refine lv_iconst (v := nI 1) hx hb dX7_isBelow_14 (by decide +kernel) ?_
    refine lv_goto (tgt := 19) hx hb dX7_isBelow_15 (by decide) ?_
    exact hret (rfl) hw () (by first | exact bI_T c1 | exact bI_F c1n) (rfl) (by omega) (by omega) dX7_isBelow_19
