/-! steps of the relation -/
theorem REL_up {n op on inn : Nat} {obf : Nat → Int32} {ep : Nat → Nat} {nx : Nat → Int64} {ef tf : Nat → Nat → Int32} {gt sn : Nat → Int64} {z : Nat → Nat} {f : Nat → Nat → Int32} {se te : Nat → Int32} {epn : Nat → Nat} {nxf : Nat → Int64} {smf : Nat → Int32} {gtf : Nat → Int64} {snf wr : Nat → Int32} (h : REL n op on inn obf ep nx ef tf gt sn z f se te epn nxf smf gtf snf wr) : REL (n + 1) op on inn obf ep nx ef tf gt sn z f se te epn nxf smf gtf snf wr :=
  ⟨h.1, h.2.1, ⟨Nat.le_succ_of_le h.2.2.1.1, Nat.le_succ_of_le h.2.2.1.2⟩, h.2.2.2⟩
theorem out_of {x : Int32} {n : Nat} (h : ¬ inR x n) : x < 0 ∨ nI n ≤ x := by
  by_cases q : 0 ≤ x
  · exact Or.inr (Int32.not_lt.mp (fun q2 => h ⟨q, q2⟩))
  · exact Or.inl (Int32.not_le.mp q)
theorem out_6 {x : Int32} (h : ¬ inR x 6) : x.toInt < 0 ∨ 5 < x.toInt := by
  rcases out_of h with q | q
  · rw [Int32.lt_iff_toInt_lt] at q
    exact Or.inl q
  · rw [Int32.le_iff_toInt_le, nI_toInt (by decide)] at q
    exact Or.inr (by omega)
theorem first_empty (z : Nat → Nat) : (∃ k, k < 8 ∧ z k = 0 ∧ ∀ j, j < k → ¬ z j = 0) ∨ ∀ j, j < 8 → ¬ z j = 0 := by
  have h : ∀ N, (∃ k, k < N ∧ z k = 0 ∧ ∀ j, j < k → ¬ z j = 0) ∨ ∀ j, j < N → ¬ z j = 0 := by
    intro N
    induction N with
    | zero => exact Or.inr (fun j hj => absurd hj (Nat.not_lt_zero j))
    | succ N ih =>
      rcases ih with ⟨k, h1, h2, h3⟩ | ih
      · exact Or.inl ⟨k, Nat.lt_succ_of_lt h1, h2, h3⟩
      · by_cases q : z N = 0
        · exact Or.inl ⟨N, Nat.lt_succ_self N, q, ih⟩
        · refine Or.inr (fun j hj => ?_)
          by_cases q2 : j = N
          · rw [q2]; exact q
          · exact ih j (by omega)
  exact h 8
theorem sm_0 {sm : Int32} {sn : Int64} (h : sm = bI (decide (¬ sn = 0))) (h0 : sn = 0) : sm = 0 := by
  rw [h, ← bI_F (fun q => q h0), nI_0]
theorem sm_1 {sm : Int32} {sn : Int64} (h : sm = bI (decide (¬ sn = 0))) (h0 : ¬ sn = 0) : ¬ sm = 0 := by
  rw [h, ← bI_T h0]
  decide +kernel
theorem not_seen0 {gt sn n : Int64} (h : sn = 0) : ¬ wSeen gt sn n := fun q => by
  obtain ⟨k, hk, e⟩ := fit_num q.2.1
  have := (seen_iff (sn := sn) e hk).mp q.2.2
  rw [h, tb_0] at this
  cases this
section RDL
variable {d ep epn : Nat} {nx nxf : Int64} {ef tf se te : Nat → Int32} {sm : Int32} {gt gtf sn n : Int64} {snf snf' : Nat → Int32} {qq bb : Nat}
theorem RD_far (h : RD d ep epn nx nxf ef tf se te sm gt gtf sn snf) (e : ∀ k, k < 64 → snf' (64 * d + k) = snf (64 * d + k)) : RD d ep epn nx nxf ef tf se te sm gt gtf sn snf' :=
  ⟨h.1, h.2.1, h.2.2.1, h.2.2.2.1, h.2.2.2.2.1, fun q => ⟨(h.2.2.2.2.2 q).1, WR_far (h.2.2.2.2.2 q).2 e⟩⟩
theorem RD_a (h : RD d ep epn nx nxf ef tf se te sm gt gtf sn snf) (hs : ¬ sn = 0) (hl : ¬ lowU gt n) (hq : gt - n = lN qq) (h64 : qq < 64) (hf : fit64 (gt - n)) : RD d ep epn nx nxf ef tf se te sm (wMark gt sn n).1 gtf (wMark gt sn n).2 (upd snf (64 * d + qq) (nI 1)) := by
  obtain ⟨h1, h2, h3, h4, h5, h6⟩ := h
  obtain ⟨hg, hW⟩ := h6 hs
  obtain ⟨w1, w2⟩ := WR_a hW h64
  rw [wMark_a hs hl hf, hq, lN_i]
  exact ⟨h1, h2, h3, h4, h5.trans ((bI_T hs).symm.trans (bI_T w2)), fun _ => ⟨hg, w1⟩⟩
theorem RD_b (h : RD d ep epn nx nxf ef tf se te sm gt gtf sn snf) (hm : wMark gt sn n = (n, 1)) : RD d ep epn nx nxf ef tf se te (nI 1) (wMark gt sn n).1 n (wMark gt sn n).2 (upd (shM snf (64 * d) 64 0) (64 * d + 0) (nI 1)) := by
  obtain ⟨h1, h2, h3, h4, h5, h6⟩ := h
  rw [hm]
  exact ⟨h1, h2, h3, h4, bI_T (show ¬ (1 : Int64) = 0 by decide +kernel), fun _ => ⟨rfl, WR_b _ _⟩⟩
theorem RD_c (h : RD d ep epn nx nxf ef tf se te sm gt gtf sn snf) (hs : ¬ sn = 0) (hl : lowU gt n) (hq : n - gt = lN bb) (h64 : bb < 64) (hf : fit64 (n - gt)) : RD d ep epn nx nxf ef tf se te (nI 1) (wMark gt sn n).1 n (wMark gt sn n).2 (upd (shM snf (64 * d) bb 0) (64 * d + 0) (nI 1)) := by
  obtain ⟨h1, h2, h3, h4, h5, h6⟩ := h
  obtain ⟨hg, hW⟩ := h6 hs
  obtain ⟨w1, w2⟩ := WR_c hW h64
  rw [wMark_c hs hl hf, hq, lN_i]
  exact ⟨h1, h2, h3, h4, bI_T w2, fun _ => ⟨rfl, w1⟩⟩
end RDL
theorem upd_ne {f : Nat → Int32} {i j : Nat} {v : Int32} (h : j ≠ i) : upd f i v j = f j := by
  simp only [upd, h, if_false]
theorem upd_sh_ne {snf : Nat → Int32} {a b i j : Nat} {v : Int32} (h : j < a ∨ a + 64 ≤ j) (h2 : j ≠ i) : upd (shM snf a b 0) i v j = snf j := by
  rw [upd_ne h2, shM_far _ _ _ h]
theorem shf_in {f x : Nat → Int32} (a n : Nat) : EqB n (shf (laid f a x n) a) x := fun j hj => laid_in f a x n j hj
theorem shf_out {f x y : Nat → Int32} {a b n m : Nat} (h : EqB m (shf f b) y) (hd : b + m ≤ a ∨ a + n ≤ b) : EqB m (shf (laid f a x n) b) y := fun j hj => (laid_out f a x n (b + j) (by omega)).trans (h j hj)
