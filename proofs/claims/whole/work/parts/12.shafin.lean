set_option maxHeartbeats 4000000 in
set_option maxRecDepth 100000 in
theorem c_X4_finish (l : Launch) (g : GE) (h : Nat) (ma : Nat) (wa : Nat) (sa : Nat) (n : Nat) (mf : Nat → Int32) (wf : Nat → Int32) (sf : Nat → Int32) (oa : Nat) (of : Nat → Int32) (hn : n ≤ 183) (sz : Nat) : MV l yX4_finish wsX4_finish { frames := 2, cells := 0, slots := 0, locals := 54 } g [.ref h, .ref oa] [(h, .inr (4, [.ref ma, .ref wa, .ref sa, .int (nI n)])), (ma, .inl (g.2.1 0, 192, .inl (mf))), (wa, .inl (g.2.1 0, 64, .inl (wf))), (sa, .inl (g.2.1 0, 8, .inl (sf))), (oa, .inl (g.2.1 0, 32, .inl (of)))] sz (fun (u : (Nat → Int32) × (Nat → Int32) × (Nat → Int32)) => True) (fun (u : (Nat → Int32) × (Nat → Int32) × (Nat → Int32)) => [(h, .inr (4, [.ref ma, .ref wa, .ref sa, .int (nI (pE n))])), (ma, .inl (g.2.1 0, 192, .inl (u.1))), (wa, .inl (g.2.1 0, 64, .inl (u.2.1))), (sa, .inl (g.2.1 0, 8, .inl (u.2.2))), (oa, .inl (g.2.1 0, 32, .inl (dig mf n)))]) 0 0 := by
  refine enterV (by decide) rfl (Nat.le_of_ble_eq_true rfl) ?_
  intro p e s m below meth c A ls ar Q hE h0 hret hw hl
  obtain ⟨hx, hb, hr, hml, hown, hts, hlocks, hname⟩ := hE
  have hown : s.vm.findClass RX4 = some m.cls := hown
  have hw : WD g A s [(h, .inr (4, [.ref ma, .ref wa, .ref sa, .int (nI n)])), (ma, .inl (g.2.1 0, 192, .inl (mf))), (wa, .inl (g.2.1 0, 64, .inl (wf))), (sa, .inl (g.2.1 0, 8, .inl (sf))), (oa, .inl (g.2.1 0, 32, .inl (of)))] [] s.heap [] := hw
  have hinX4 : ∀ w ∈ u_ws RX4 TX4 4, w ∈ wsX4_finish := by decide +kernel
  have k16 := hts (.fieldLink RX4 16 "RecordWire$Sha256" "state" "[I") (by decide +kernel)
  have k19 := hts (.fieldLink RX4 19 "RecordWire$Sha256" "length" "I") (by decide +kernel)
  have k26 := hts (.fieldLink RX4 26 "RecordWire$Sha256" "FIRST_STATE" "[I") (by decide +kernel)
  have hE : pE n = (n + 8) / 64 * 64 + 64 := rfl
  have hl : lv_has ls 3 [(0, .ref h), (1, .ref oa)] := hl
  refine lv_aload_n hx hb dX4_finish_0 rfl (lv_at hl 0 rfl) ?_
  refine r_callv (wr := [(wa, .inl (g.2.1 0, 64, .inl (wf))), (sa, .inl (g.2.1 0, 8, .inl (sf))), (oa, .inl (g.2.1 0, 32, .inl (of)))]) [0, 1] [2, 3, 4] h0 hw rfl rfl (by decide) (by decide) (va_runV (As := []) (rest := []) ⟨hx, hb, hml, hown, hts⟩ (c_X4_pad l g h ma wa sa n mf (by omega) _) (cwV 0 hts gX4_finish_X4_pad rfl rfl rfl (by decide +kernel) ⟨Nat.le_of_ble_eq_true rfl, Nat.le_of_ble_eq_true rfl⟩) (preV_of [0, 1] [] h0 hw rfl (by decide) 0 4 rfl rfl) rfl rfl hl.1 rfl (lv_room (Nat.le_of_ble_eq_true rfl)) dX4_finish_1 ⟨Nat.le_of_ble_eq_true rfl, Nat.le_of_ble_eq_true rfl⟩) (fun u2 H locs hp3 hw => ?_)
  have hw : WD g A s [(wa, .inl (g.2.1 0, 64, .inl (wf))), (sa, .inl (g.2.1 0, 8, .inl (sf))), (oa, .inl (g.2.1 0, 32, .inl (of))), (h, .inr (4, [.ref ma, .ref wa, .ref sa, .int (nI (pE n))])), (ma, .inl (g.2.1 0, 192, .inl (shP mf n)))] [] H locs := hw
  refine lv_iconst (v := nI 0) hx hb dX4_finish_4 (by decide +kernel) ?_
  refine lv_istore_n (lv' := [(2, .int (nI 0)), (0, .ref h), (1, .ref oa)]) hx hb dX4_finish_5 rfl hl (by decide) rfl (fun ls hl => ?_)
  have lp6 : ∀ (fu : Nat) (i : Nat), 8 - i < fu → (i ≤ 8) → ∀ (H : Heap) (locs : List Loc) (ls : Array Slot), WD g A s [(wa, .inl (g.2.1 0, 64, .inl (wf))), (sa, .inl (g.2.1 0, 8, .inl (ivF sf i))), (oa, .inl (g.2.1 0, 32, .inl (of))), (h, .inr (4, [.ref ma, .ref wa, .ref sa, .int (nI (pE n))])), (ma, .inl (g.2.1 0, 192, .inl (shP mf n)))] [] H locs → lv_has ls 3 [(2, .int (nI i)), (0, .ref h), (1, .ref oa)] → W p l e { frames := 2, cells := 0, slots := 0, locals := 54 } s m ar below meth c H locs 0 0 Q (F0 m 6 ls []) := by
    intro fu
    induction fu with
    | zero => intro i hmz; exact absurd hmz (Nat.not_lt_zero _)
    | succ fu ih =>
      intro i hms hi H locs ls hw hl
      refine lv_iload_n hx hb dX4_finish_6 rfl (lv_at hl 0 rfl) ?_
      refine lv_bipush (v := nI 8) hx hb dX4_finish_7 (by decide +kernel) ?_
      refine lv_icmp_ge (tgt := 29) hx hb dX4_finish_9 (by decide) (fun c4 => ?_) (fun c4 => ?_)
      · skip
        have c4 : 8 ≤ i := (nI_leI (by omega) (by omega)).mp c4
        have hq : i = 8 := by omega
        subst i
        refine lv_iconst (v := nI 0) hx hb dX4_finish_29 (by decide +kernel) ?_
        refine lv_istore_n (lv' := [(2, .int (nI 0)), (0, .ref h), (1, .ref oa)]) hx hb dX4_finish_30 rfl hl (by decide) rfl (fun ls hl => ?_)
        have lp31 : ∀ (fu : Nat) (k : Nat), pE n - 64 * k < fu → (64 * k ≤ pE n) → ∀ (H : Heap) (locs : List Loc) (ls : Array Slot), WD g A s [(wa, .inl (g.2.1 0, 64, .inl ((shB (shP mf n) (ivF sf 8) wf k).2))), (sa, .inl (g.2.1 0, 8, .inl ((shB (shP mf n) (ivF sf 8) wf k).1))), (oa, .inl (g.2.1 0, 32, .inl (of))), (h, .inr (4, [.ref ma, .ref wa, .ref sa, .int (nI (pE n))])), (ma, .inl (g.2.1 0, 192, .inl (shP mf n)))] [] H locs → lv_has ls 3 [(2, .int (nI (64 * k))), (0, .ref h), (1, .ref oa)] → W p l e { frames := 2, cells := 0, slots := 0, locals := 54 } s m ar below meth c H locs 0 0 Q (F0 m 31 ls []) := by
          intro fu
          induction fu with
          | zero => intro k hmz; exact absurd hmz (Nat.not_lt_zero _)
          | succ fu ih =>
            intro k hms hk H locs ls hw hl
            refine lv_iload_n hx hb dX4_finish_31 rfl (lv_at hl 0 rfl) ?_
            refine lv_bipush (v := nI 64) hx hb dX4_finish_32 (by decide +kernel) ?_
            refine lv_iadd hx hb dX4_finish_34 ?_
            refine r_te (y := nI (64 * k + 64)) (nI_add (64 * k) 64) ?_
            refine lv_aload_n hx hb dX4_finish_35 rfl (lv_at hl 1 rfl) ?_
            refine r_get (ci := 4) (v := .int (nI (pE n))) (C := RX4) (T := TX4) (N := 4) hx hb hts hinX4 hown h0 hw 3 rfl rfl 3 (by decide) k19 rfl dX4_finish_36 ?_
            refine lv_icmp_gt (tgt := 57) hx hb dX4_finish_39 (by decide) (fun c5 => ?_) (fun c5 => ?_)
            · skip
              have c5 : (pE n) < (64 * k + 64) := (nI_ltI (by omega) (by omega)).mp c5
              have hq : k = pE n / 64 := by omega
              subst k
              refine lv_iconst (v := nI 0) hx hb dX4_finish_57 (by decide +kernel) ?_
              refine lv_istore_n (lv' := [(2, .int (nI 0)), (0, .ref h), (1, .ref oa)]) hx hb dX4_finish_58 rfl hl (by decide) rfl (fun ls hl => ?_)
              have lp59 : ∀ (fu : Nat) (i : Nat), 32 - i < fu → (i ≤ 32) → ∀ (H : Heap) (locs : List Loc) (ls : Array Slot), WD g A s [(wa, .inl (g.2.1 0, 64, .inl ((shB (shP mf n) (ivF sf 8) wf (pE n / 64)).2))), (sa, .inl (g.2.1 0, 8, .inl ((shB (shP mf n) (ivF sf 8) wf (pE n / 64)).1))), (oa, .inl (g.2.1 0, 32, .inl (shO (shB (shP mf n) (ivF sf 8) wf (pE n / 64)).1 of i))), (h, .inr (4, [.ref ma, .ref wa, .ref sa, .int (nI (pE n))])), (ma, .inl (g.2.1 0, 192, .inl (shP mf n)))] [] H locs → lv_has ls 3 [(2, .int (nI i)), (0, .ref h), (1, .ref oa)] → W p l e { frames := 2, cells := 0, slots := 0, locals := 54 } s m ar below meth c H locs 0 0 Q (F0 m 59 ls []) := by
                intro fu
                induction fu with
                | zero => intro i hmz; exact absurd hmz (Nat.not_lt_zero _)
                | succ fu ih =>
                  intro i hms hi H locs ls hw hl
                  refine lv_iload_n hx hb dX4_finish_59 rfl (lv_at hl 0 rfl) ?_
                  refine lv_bipush (v := nI 32) hx hb dX4_finish_60 (by decide +kernel) ?_
                  refine lv_icmp_ge (tgt := 102) hx hb dX4_finish_62 (by decide) (fun c6 => ?_) (fun c6 => ?_)
                  · skip
                    have c6 : 32 ≤ i := (nI_leI (by omega) (by omega)).mp c6
                    have hq : i = 32 := by omega
                    subst i
                    have hw := hw.cong 2 rfl (f' := dig mf n) (dig_of mf sf wf of n)
                    have hw : WD g A s [(wa, .inl (g.2.1 0, 64, .inl ((shB (shP mf n) (ivF sf 8) wf (pE n / 64)).2))), (sa, .inl (g.2.1 0, 8, .inl ((shB (shP mf n) (ivF sf 8) wf (pE n / 64)).1))), (oa, .inl (g.2.1 0, 32, .inl (dig mf n))), (h, .inr (4, [.ref ma, .ref wa, .ref sa, .int (nI (pE n))])), (ma, .inl (g.2.1 0, 192, .inl (shP mf n)))] [] _ _ := hw
                    exact hret (hw.perm (X' := [(h, .inr (4, [.ref ma, .ref wa, .ref sa, .int (nI (pE n))])), (ma, .inl (g.2.1 0, 192, .inl (shP mf n))), (wa, .inl (g.2.1 0, 64, .inl ((shB (shP mf n) (ivF sf 8) wf (pE n / 64)).2))), (sa, .inl (g.2.1 0, 8, .inl ((shB (shP mf n) (ivF sf 8) wf (pE n / 64)).1))), (oa, .inl (g.2.1 0, 32, .inl (dig mf n)))]) [3, 4, 0, 1, 2] (by decide) rfl) (shP mf n, (shB (shP mf n) (ivF sf 8) wf (pE n / 64)).2, (shB (shP mf n) (ivF sf 8) wf (pE n / 64)).1) (trivial) (rfl) (by omega) (by omega) dX4_finish_102
                  · skip
                    have c6 : ¬ 32 ≤ i := fun q => c6 (((nI_leI (by omega) (by omega)).mpr q))
                    refine lv_iload_n hx hb dX4_finish_65 rfl (lv_at hl 0 rfl) ?_
                    refine lv_aload_n hx hb dX4_finish_66 rfl (lv_at hl 2 rfl) ?_
                    refine r_alen hx hb h0 hw 2 rfl dX4_finish_67 ?_
                    refine lv_icmp_ge (tgt := 102) hx hb dX4_finish_68 (by decide) (fun c7 => ?_) (fun c7 => ?_)
                    · skip
                      have c7 : 32 ≤ i := (nI_leI (by omega) (by omega)).mp c7
                      exfalso; omega
                    · skip
                      have c7 : ¬ 32 ≤ i := fun q => c7 (((nI_leI (by omega) (by omega)).mpr q))
                      refine lv_aload_n hx hb dX4_finish_71 rfl (lv_at hl 2 rfl) ?_
                      refine lv_iload_n hx hb dX4_finish_72 rfl (lv_at hl 0 rfl) ?_
                      refine lv_aload_n hx hb dX4_finish_73 rfl (lv_at hl 1 rfl) ?_
                      refine r_get (ci := 4) (v := .ref sa) (C := RX4) (T := TX4) (N := 4) hx hb hts hinX4 hown h0 hw 3 rfl rfl 2 (by decide) k16 rfl dX4_finish_74 ?_
                      refine lv_iload_n hx hb dX4_finish_77 rfl (lv_at hl 0 rfl) ?_
                      refine lv_iconst (v := nI 2) hx hb dX4_finish_78 (by decide +kernel) ?_
                      refine lv_ishr hx hb dX4_finish_79 ?_
                      refine r_te (y := nI (i / 4)) (pk_shrN (by omega) _ 2 (by decide +kernel)) ?_
                      refine r_iald hx hb h0 hw 1 rfl (i := i / 4) (by omega) (by omega) dX4_finish_80 ?_
                      refine lv_bipush (v := nI 24) hx hb dX4_finish_81 (by decide +kernel) ?_
                      refine lv_bipush (v := nI 8) hx hb dX4_finish_83 (by decide +kernel) ?_
                      refine lv_iload_n hx hb dX4_finish_85 rfl (lv_at hl 0 rfl) ?_
                      refine lv_iconst (v := nI 3) hx hb dX4_finish_86 (by decide +kernel) ?_
                      refine lv_iand hx hb dX4_finish_87 ?_
                      refine r_te (y := nI (i % 4)) (pk_andN (by omega) 2 (by decide +kernel)) ?_
                      refine lv_imul hx hb dX4_finish_88 ?_
                      refine r_te (y := nI (8 * (i % 4))) (pk_mul 8 (i % 4)) ?_
                      refine lv_isub hx hb dX4_finish_89 ?_
                      refine r_te (y := nI (24 - (8 * (i % 4)))) (pk_sub (by omega)) ?_
                      refine lv_iushr (v := jushr (((shB (shP mf n) (ivF sf 8) wf (pE n / 64)).1) (i / 4)) (nI (24 - (8 * (i % 4))))) hx hb dX4_finish_90 rfl ?_
                      refine lv_sipush (v := nI 255) hx hb dX4_finish_91 (by decide +kernel) ?_
                      refine lv_iand hx hb dX4_finish_94 ?_
                      refine r_iast hx hb h0 hw 2 rfl (i := i) (by omega) (by omega) dX4_finish_95 (fun H locs hw => ?_)
                      have hw : WD g A s [(wa, .inl (g.2.1 0, 64, .inl ((shB (shP mf n) (ivF sf 8) wf (pE n / 64)).2))), (sa, .inl (g.2.1 0, 8, .inl ((shB (shP mf n) (ivF sf 8) wf (pE n / 64)).1))), (oa, .inl (g.2.1 0, 32, .inl (upd (shO (shB (shP mf n) (ivF sf 8) wf (pE n / 64)).1 of i) i ((jushr (((shB (shP mf n) (ivF sf 8) wf (pE n / 64)).1) (i / 4)) (nI (24 - (8 * (i % 4))))) &&& (nI 255))))), (h, .inr (4, [.ref ma, .ref wa, .ref sa, .int (nI (pE n))])), (ma, .inl (g.2.1 0, 192, .inl (shP mf n)))] [] H locs := hw
                      refine lv_iinc (v := nI (i + 1)) (lv' := [(2, .int (nI (i + 1))), (0, .ref h), (1, .ref oa)]) hx hb dX4_finish_96 hl (k := 0) rfl (nI_add i 1) (by decide) rfl (fun ls hl => ?_)
                      refine lv_goto (tgt := 59) hx hb dX4_finish_99 (by decide) ?_
                      exact ih (i + 1) (by omega) (by omega) _ _ _ hw (lv_sub hl [0, 1, 2] rfl)
              exact lp59 (32 - 0 + 1) 0 (by omega) (by omega) _ _ _ hw (lv_sub hl [0, 1, 2] rfl)
            · skip
              have c5 : ¬ (pE n) < (64 * k + 64) := fun q => c5 (((nI_ltI (by omega) (by omega)).mpr q))
              refine lv_aload_n hx hb dX4_finish_42 rfl (lv_at hl 1 rfl) ?_
              refine lv_iload_n hx hb dX4_finish_43 rfl (lv_at hl 0 rfl) ?_
              refine r_callv (wr := [(sa, .inl (g.2.1 0, 8, .inl ((shB (shP mf n) (ivF sf 8) wf k).1))), (oa, .inl (g.2.1 0, 32, .inl (of)))]) [3, 4, 0] [1, 2] h0 hw rfl rfl (by decide) (by decide) (va_runV (As := [.int (nI (64 * k))]) (rest := []) ⟨hx, hb, hml, hown, hts⟩ (c_X4_fillSchedule l g h ma wa sa (pE n) (shP mf n) ((shB (shP mf n) (ivF sf 8) wf k).2) (64 * k) (by omega) _) (cwV 1 hts gX4_finish_X4_fillSchedule rfl rfl rfl (by decide +kernel) ⟨Nat.le_of_ble_eq_true rfl, Nat.le_of_ble_eq_true rfl⟩) (preV_of [3, 4, 0] [.int (nI (64 * k))] h0 hw rfl (by decide) 3 4 rfl rfl) rfl rfl hl.1 rfl (lv_room (Nat.le_of_ble_eq_true rfl)) dX4_finish_44 ⟨Nat.le_of_ble_eq_true rfl, Nat.le_of_ble_eq_true rfl⟩) (fun u9 H locs hp10 hw => ?_)
              have hw : WD g A s [(sa, .inl (g.2.1 0, 8, .inl ((shB (shP mf n) (ivF sf 8) wf k).1))), (oa, .inl (g.2.1 0, 32, .inl (of))), (h, .inr (4, [.ref ma, .ref wa, .ref sa, .int (nI (pE n))])), (ma, .inl (g.2.1 0, 192, .inl (shP mf n))), (wa, .inl (g.2.1 0, 64, .inl (shW (shP mf n) (64 * k) ((shB (shP mf n) (ivF sf 8) wf k).2))))] [] H locs := hw
              refine lv_aload_n hx hb dX4_finish_47 rfl (lv_at hl 1 rfl) ?_
              refine r_callv (wr := [(oa, .inl (g.2.1 0, 32, .inl (of))), (ma, .inl (g.2.1 0, 192, .inl (shP mf n)))]) [2, 4, 0] [1, 3] h0 hw rfl rfl (by decide) (by decide) (va_runV (As := []) (rest := []) ⟨hx, hb, hml, hown, hts⟩ (c_X4_mixState l g h ma wa sa (pE n) (shW (shP mf n) (64 * k) ((shB (shP mf n) (ivF sf 8) wf k).2)) ((shB (shP mf n) (ivF sf 8) wf k).1)  _) (cwV 0 hts gX4_finish_X4_mixState rfl rfl rfl (by decide +kernel) ⟨Nat.le_of_ble_eq_true rfl, Nat.le_of_ble_eq_true rfl⟩) (preV_of [2, 4, 0] [] h0 hw rfl (by decide) 2 4 rfl rfl) rfl rfl hl.1 rfl (lv_room (Nat.le_of_ble_eq_true rfl)) dX4_finish_48 ⟨Nat.le_of_ble_eq_true rfl, Nat.le_of_ble_eq_true rfl⟩) (fun u12 H locs hp13 hw => ?_)
              have hw : WD g A s [(oa, .inl (g.2.1 0, 32, .inl (of))), (ma, .inl (g.2.1 0, 192, .inl (shP mf n))), (h, .inr (4, [.ref ma, .ref wa, .ref sa, .int (nI (pE n))])), (wa, .inl (g.2.1 0, 64, .inl (shW (shP mf n) (64 * k) ((shB (shP mf n) (ivF sf 8) wf k).2)))), (sa, .inl (g.2.1 0, 8, .inl (stAdd ((shB (shP mf n) (ivF sf 8) wf k).1) (shI (tup ((shB (shP mf n) (ivF sf 8) wf k).1)) (shW (shP mf n) (64 * k) ((shB (shP mf n) (ivF sf 8) wf k).2)) 64))))] [] H locs := hw
              refine lv_iinc (v := nI (64 * k + 64)) (lv' := [(2, .int (nI (64 * k + 64))), (0, .ref h), (1, .ref oa)]) hx hb dX4_finish_51 hl (k := 0) rfl (nI_add (64 * k) 64) (by decide) rfl (fun ls hl => ?_)
              refine lv_goto (tgt := 31) hx hb dX4_finish_54 (by decide) ?_
              exact ih (k + 1) (by omega) (by omega) _ _ _ (hw.perm [3, 4, 0, 2, 1] (by decide) rfl) (lv_sub hl [0, 1, 2] rfl)
        exact lp31 (pE n - 64 * 0 + 1) 0 (by omega) (by omega) _ _ _ hw (lv_sub hl [0, 1, 2] rfl)
      · skip
        have c4 : ¬ 8 ≤ i := fun q => c4 (((nI_leI (by omega) (by omega)).mpr q))
        refine lv_aload_n hx hb dX4_finish_12 rfl (lv_at hl 1 rfl) ?_
        refine r_get (ci := 4) (v := .ref sa) (C := RX4) (T := TX4) (N := 4) hx hb hts hinX4 hown h0 hw 3 rfl rfl 2 (by decide) k16 rfl dX4_finish_13 ?_
        refine lv_iload_n hx hb dX4_finish_16 rfl (lv_at hl 0 rfl) ?_
        refine r_gets hx hb h0.2.1.1 hw hown k26 dX4_finish_17 ?_
        refine lv_iload_n hx hb dX4_finish_20 rfl (lv_at hl 0 rfl) ?_
        refine r_tab hx hb h0.2.1.1 hw (by omega) (by decide) dX4_finish_21 ?_
        refine r_iast hx hb h0 hw 1 rfl (i := i) (by omega) (by omega) dX4_finish_22 (fun H locs hw => ?_)
        have hw : WD g A s [(wa, .inl (g.2.1 0, 64, .inl (wf))), (sa, .inl (g.2.1 0, 8, .inl (upd (ivF sf i) i (kIV i)))), (oa, .inl (g.2.1 0, 32, .inl (of))), (h, .inr (4, [.ref ma, .ref wa, .ref sa, .int (nI (pE n))])), (ma, .inl (g.2.1 0, 192, .inl (shP mf n)))] [] H locs := hw
        refine lv_iinc (v := nI (i + 1)) (lv' := [(2, .int (nI (i + 1))), (0, .ref h), (1, .ref oa)]) hx hb dX4_finish_23 hl (k := 0) rfl (nI_add i 1) (by decide) rfl (fun ls hl => ?_)
        refine lv_goto (tgt := 6) hx hb dX4_finish_26 (by decide) ?_
        exact ih (i + 1) (by omega) (by omega) _ _ _ hw (lv_sub hl [0, 1, 2] rfl)
  exact lp6 (8 - 0 + 1) 0 (by omega) (by omega) _ _ _ hw (lv_sub hl [0, 1, 2] rfl)
