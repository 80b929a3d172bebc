/-! the window's numbers on both sides; a record's judgement -/
theorem nx63_lo {n : Nat} (h : n < 2 ^ 63) : n ^^^ 2 ^ 63 = 2 ^ 63 + n := by
  apply Nat.eq_of_testBit_eq
  intro j
  rw [Nat.testBit_xor]
  rcases Nat.lt_trichotomy j 63 with q | q | q
  · rw [Nat.testBit_two_pow_of_ne (by omega), Nat.testBit_two_pow_add_gt q]
    simp
  · subst q
    rw [Nat.testBit_two_pow_self, Nat.testBit_two_pow_add_eq, Nat.testBit_lt_two_pow h]
    simp
  · have h2 : (2 : Nat) ^ 64 ≤ 2 ^ j := Nat.pow_le_pow_right (by decide) (by omega)
    rw [Nat.testBit_lt_two_pow (Nat.lt_of_lt_of_le (by omega) h2), Nat.testBit_two_pow_of_ne (by omega), Nat.testBit_lt_two_pow (Nat.lt_of_lt_of_le (by omega) h2)]
    simp
theorem nx63_hi {n : Nat} (h1 : 2 ^ 63 ≤ n) (h2 : n < 2 ^ 64) : n ^^^ 2 ^ 63 = n - 2 ^ 63 := by
  obtain ⟨m, rfl⟩ : ∃ m, n = 2 ^ 63 + m := ⟨n - 2 ^ 63, by omega⟩
  rw [← nx63_lo (by omega), Nat.xor_assoc, Nat.xor_self, Nat.xor_zero, nx63_lo (by omega)]
  omega
theorem lN_int {n : Nat} (h : n < 2 ^ 64) : (lN n).toInt = if n < 2 ^ 63 then (n : Int) else (n : Int) - 2 ^ 64 := by
  show (lN n).toBitVec.toInt = _
  rw [BitVec.toInt_eq_toNat_cond, wb_tn h]
  by_cases q : n < 2 ^ 63
  · rw [if_pos (by omega), if_pos q]
  · rw [if_neg (by omega), if_neg q]
    first | omega | norm_cast | simp
theorem lN_xint {n : Nat} (h : n < 2 ^ 64) : (lN n ^^^ (-9223372036854775808)).toInt = (n : Int) - 2 ^ 63 := by
  have e : lN n ^^^ (-9223372036854775808) = lN (n ^^^ 2 ^ 63) := by
    apply wb_inj
    rw [Int64.toBitVec_xor, wb_tb, wb_tb]
    apply BitVec.eq_of_toNat_eq
    rw [BitVec.toNat_xor, BitVec.toNat_ofNat, BitVec.toNat_ofNat, Nat.mod_eq_of_lt h, Nat.mod_eq_of_lt (Nat.xor_lt_two_pow h (by decide))]
    rfl
  rw [e]
  by_cases q : n < 2 ^ 63
  · rw [nx63_lo q, lN_int (by omega), if_neg (by omega)]
    omega
  · rw [nx63_hi (by omega) h, lN_int (by omega), if_pos (by omega)]
    omega
theorem low_iff {n : Nat} (h : n < 2 ^ 64) : lowU (lN n) 64 ↔ n < 64 := by
  show (lN n ^^^ (-9223372036854775808)) < (lN 64 ^^^ (-9223372036854775808)) ↔ _
  rw [Int64.lt_iff_toInt_lt, lN_xint h, lN_xint (by decide)]
  omega
theorem fit_iff {n : Nat} (h : n < 2 ^ 64) : fit64 (lN n) ↔ n < 64 := by
  show (lN 0 ≤ lN n ∧ lN n < lN 64) ↔ _
  rw [Int64.lt_iff_toInt_lt, Int64.le_iff_toInt_le, lN_int h, lN_int (by decide), lN_int (n := 64) (by decide)]
  by_cases q : n < 2 ^ 63
  · rw [if_pos q, if_pos (by decide), if_pos (by decide)]
    omega
  · rw [if_neg q, if_pos (by decide), if_pos (by decide)]
    omega
theorem fit_low (x : Int64) : lowU x 64 ↔ fit64 x := by
  obtain ⟨n, hn, rfl⟩ := wb_of x
  exact (low_iff hn).trans (fit_iff hn).symm
theorem fit_num {x : Int64} (h : fit64 x) : ∃ q, q < 64 ∧ x = lN q := by
  obtain ⟨n, hn, rfl⟩ := wb_of x
  exact ⟨n, (fit_iff hn).mp h, rfl⟩
theorem lN_ne {n : Nat} (h : n < 2 ^ 64) (h0 : n ≠ 0) : ¬ lN n = 0 := fun q => by
  have := congrArg (fun x : Int64 => x.toBitVec.toNat) q
  simp only [wb_tn h] at this
  exact h0 this
/-- bit k -/
def tb (sn : Int64) (k : Nat) : Bool := sn.toBitVec.toNat.testBit k
theorem tb_l {n : Nat} (h : n < 2 ^ 64) (k : Nat) : tb (lN n) k = n.testBit k := by
  unfold tb
  rw [wb_tn h]
theorem bI_dec (b : Bool) : bI (decide (¬ bI b = 0)) = bI b := by cases b <;> decide +kernel
theorem bI_nz {b : Bool} (h : ¬ bI b = 0) : b = true := by
  cases b
  · exact absurd (show bI false = 0 from by decide +kernel) h
  · rfl
theorem bI_z {b : Bool} (h : bI b = 0) : b = false := by
  cases b
  · rfl
  · exact absurd h (by decide +kernel)
/-- the reference's 64 places from a on are the bits -/
def WR (a : Nat) (sn : Int64) (snf : Nat → Int32) : Prop := ∀ k, k < 64 → snf (a + k) = bI (tb sn k)
theorem seen_iff {sn x : Int64} {qq : Nat} (hq : x = lN qq) (h64 : qq < 64) : (jlushr sn x.toInt32 &&& 1 = 1) ↔ tb sn qq = true := by
  obtain ⟨n, hn, rfl⟩ := wb_of sn
  rw [hq, lN_i]
  show (((lN n).toUInt64 >>> ((nI qq).toInt64.toUInt64 &&& Int64.toUInt64 63)).toInt64 &&& 1 = 1) ↔ _
  rw [wb_bit hn h64, tb_l hn, Nat.testBit_eq_decide_div_mod_eq]
  rcases Nat.mod_two_eq_zero_or_one (n / 2 ^ qq) with h | h
  · rw [h]
    exact ⟨fun q => absurd q (by decide +kernel), fun q => by simp at q⟩
  · rw [h]
    exact ⟨fun _ => by simp, fun _ => rfl⟩
theorem tb_0 (k : Nat) : tb 0 k = false := by
  show (0 : Nat).testBit k = false
  exact Nat.zero_testBit k
theorem WR_a {a qq : Nat} {sn : Int64} {snf : Nat → Int32} (h : WR a sn snf) (h64 : qq < 64) : WR a (sn ||| jlshl 1 (nI qq)) (upd snf (a + qq) (nI 1)) ∧ ¬ (sn ||| jlshl 1 (nI qq)) = 0 := by
  obtain ⟨n, hn, rfl⟩ := wb_of sn
  have e : lN n ||| jlshl 1 (nI qq) = lN (n ||| 2 ^ qq) := by
    show lN n ||| (lN 1 <<< ((nI qq).toInt64 &&& 63)) = _
    rw [wb_shl 1 h64, Nat.one_mul, wb_or hn (wb_lt2 h64)]
  have hb : n ||| 2 ^ qq < 2 ^ 64 := Nat.or_lt_two_pow hn (wb_lt2 h64)
  refine ⟨fun k hk => ?_, ?_⟩
  · rw [e, tb_l hb, Nat.testBit_or]
    by_cases q : k = qq
    · subst q
      rw [Nat.testBit_two_pow_self, Bool.or_true]
      simp [upd, bI]
    · have q2 : a + k ≠ a + qq := by omega
      rw [Nat.testBit_two_pow_of_ne (fun z => q z.symm), Bool.or_false]
      simp only [upd, q2, if_false]
      rw [h k hk, tb_l hn]
  · rw [e]
    refine lN_ne hb (fun z => ?_)
    have := congrArg (fun x : Nat => x.testBit qq) z
    simp only [Nat.testBit_or, Nat.testBit_two_pow_self, Bool.or_true, Nat.zero_testBit] at this
    cases this
theorem shM_at (f : Nat → Int32) (a b : Nat) {k : Nat} (hk : k < 64) : shM f a b 0 (a + k) = if b ≤ k then bI (decide (¬ f (a + (k - b)) = 0)) else nI 0 := by
  unfold shM
  rw [if_pos (by omega)]
  by_cases q : b ≤ k
  · rw [if_pos (by omega), if_pos q, show a + k - b = a + (k - b) by omega]
  · rw [if_neg (by omega), if_neg q]
theorem shM_far (f : Nat → Int32) (a b : Nat) {j : Nat} (h : j < a ∨ a + 64 ≤ j) : shM f a b 0 j = f j := by
  unfold shM
  rw [if_neg (by omega)]
theorem tb_1 (k : Nat) : tb 1 k = decide (k = 0) := by
  show (2 ^ 0 : Nat).testBit k = _
  rw [Nat.testBit_two_pow]
  exact decide_eq_decide.mpr ⟨fun h => h.symm, fun h => h.symm⟩
theorem WR_b (a : Nat) (snf : Nat → Int32) : WR a 1 (upd (shM snf a 64 0) (a + 0) (nI 1)) := fun k hk => by
  rw [tb_1]
  by_cases q : k = 0
  · subst q; simp [upd, bI]
  · have q2 : a + k ≠ a + 0 := by omega
    simp only [upd, q2, if_false]
    rw [shM_at _ _ _ hk, if_neg (by omega)]
    simp [bI, q]
theorem WR_c {a bb : Nat} {sn : Int64} {snf : Nat → Int32} (h : WR a sn snf) (h64 : bb < 64) : WR a (jlshl sn (nI bb) ||| 1) (upd (shM snf a bb 0) (a + 0) (nI 1)) ∧ ¬ (jlshl sn (nI bb) ||| 1) = 0 := by
  obtain ⟨n, hn, rfl⟩ := wb_of sn
  have e : jlshl (lN n) (nI bb) ||| 1 = lN (n * 2 ^ bb % 2 ^ 64 ||| 1) := by
    show (lN n <<< ((nI bb).toInt64 &&& 63)) ||| lN 1 = _
    rw [wb_shl n h64, wb_mod, wb_or (Nat.mod_lt _ (by decide)) (by decide)]
  have hb : n * 2 ^ bb % 2 ^ 64 ||| 1 < 2 ^ 64 := Nat.or_lt_two_pow (Nat.mod_lt _ (by decide)) (by decide)
  have h1 : ∀ k, (1 : Nat).testBit k = decide (k = 0) := fun k => tb_1 k
  refine ⟨fun k hk => ?_, ?_⟩
  · rw [e, tb_l hb, Nat.testBit_or, h1, Nat.testBit_mod_two_pow, Nat.testBit_mul_two_pow]
    by_cases q : k = 0
    · subst q; simp [upd, bI]
    · have q2 : a + k ≠ a + 0 := by omega
      simp only [upd, q2, if_false]
      rw [shM_at _ _ _ hk]
      by_cases q3 : bb ≤ k
      · rw [if_pos q3, h (k - bb) (by omega), bI_dec, tb_l hn]
        simp [hk, q3, q]
      · rw [if_neg q3]
        simp [q3, q, bI]
  · rw [e]
    refine lN_ne hb (fun z => ?_)
    have := congrArg (fun x : Nat => x.testBit 0) z
    simp only [Nat.testBit_or, h1, Nat.zero_testBit] at this
    simp at this
theorem WR_far {a : Nat} {sn : Int64} {snf snf' : Nat → Int32} (h : WR a sn snf) (e : ∀ k, k < 64 → snf' (a + k) = snf (a + k)) : WR a sn snf' := fun k hk => by rw [e k hk, h k hk]
theorem cnt_rel {a n : Nat} {snf : Nat → Int32} (hn : n < 2 ^ 64) (h : WR a (lN n) snf) : ∀ k, k ≤ 64 → cntB snf a k = cnt n k
  | 0, _ => rfl
  | k + 1, hk => by
    show (if snf (a + k) = 0 then cntB snf a k else cntB snf a k + 1) = cnt n k + bt n k
    rw [cnt_rel hn h k (by omega), h k (by omega), tb_l hn, Nat.testBit_eq_decide_div_mod_eq]
    unfold bt
    rcases Nat.mod_two_eq_zero_or_one (n / 2 ^ k) with q | q
    · rw [q, if_pos (by decide +kernel), Nat.add_zero]
    · rw [q, if_neg (by decide +kernel)]
theorem bitC_rel {a : Nat} {sn : Int64} {snf : Nat → Int32} (h : WR a sn snf) : bitC sn = nI (cntB snf a 64) := by
  obtain ⟨n, hn, rfl⟩ := wb_of sn
  rw [bitC_eq hn, cnt_rel hn h 64 (Nat.le_refl _)]
theorem bitC_0 : bitC 0 = nI 0 := by decide +kernel
/-- a number of k bytes -/
theorem nAt_num (f : Nat → Int32) (fr : Nat) : ∀ k, k ≤ 8 → ∃ n, n < 2 ^ (8 * k) ∧ nAt f fr k = lN n
  | 0, _ => ⟨0, by decide, rfl⟩
  | k + 1, hk => by
    obtain ⟨n, hn, e⟩ := nAt_num f fr k (by omega)
    obtain ⟨c, hc, ec⟩ : ∃ c, c < 256 ∧ f (fr + k) &&& nI 255 = nI c := by
      obtain ⟨x, hx, ex⟩ := wb_of32 (f (fr + k))
      exact ⟨x % 2 ^ 8, Nat.mod_lt _ (by decide), by rw [ex]; exact pk_andN hx 8 (by decide +kernel)⟩
    have hp : n * 2 ^ 8 < 2 ^ (8 * (k + 1)) := by
      rw [show 8 * (k + 1) = 8 * k + 8 by omega, Nat.pow_add]
      exact Nat.mul_lt_mul_of_pos_right hn (by decide)
    have hp2 : c < 2 ^ (8 * (k + 1)) := Nat.lt_of_lt_of_le hc (by
      have : (2 : Nat) ^ 8 ≤ 2 ^ (8 * (k + 1)) := Nat.pow_le_pow_right (by decide) (by omega)
      omega)
    have hle : (2 : Nat) ^ (8 * (k + 1)) ≤ 2 ^ 64 := Nat.pow_le_pow_right (by decide) (by omega)
    refine ⟨n * 2 ^ 8 ||| c, Nat.or_lt_two_pow hp hp2, ?_⟩
    show jlshl (nAt f fr k) (nI 8) ||| (f (fr + k) &&& nI 255).toInt64 = _
    rw [e, ec, nI_l (by omega)]
    show (lN n <<< ((nI 8).toInt64 &&& 63)) ||| lN c = _
    rw [wb_shl n (by decide), wb_or (Nat.lt_of_lt_of_le hp hle) (Nat.lt_of_lt_of_le hp2 hle)]
theorem ep_iff {rf : Nat → Int32} {ep : Nat} (he : ep < 2 ^ 31) : (nAt rf 1 4).toInt32 = nI ep ↔ nAt rf 1 4 = (nI ep).toInt64 := by
  obtain ⟨n, hn, e⟩ := nAt_num rf 1 4 (by decide)
  have hn : n < 2 ^ 32 := hn
  rw [e, lN_i, nI_l he]
  constructor
  · intro q
    have := congrArg (fun x : Int32 => x.toBitVec.toNat) q
    have : (BitVec.ofNat 32 n).toNat = (BitVec.ofNat 32 ep).toNat := this
    rw [BitVec.toNat_ofNat, BitVec.toNat_ofNat, Nat.mod_eq_of_lt hn, Nat.mod_eq_of_lt (by omega)] at this
    rw [this]
  · intro q
    have := congrArg (fun x : Int64 => x.toBitVec.toNat) q
    simp only [wb_tn (show n < 2 ^ 64 by omega), wb_tn (show ep < 2 ^ 64 by omega)] at this
    rw [this]
theorem shp_ln {rf : Nat → Int32} {rn d : Nat} (h : shpOK rf rn d) (h1 : 31 ≤ rn) : (nAt rf 13 2).toInt32 = nI (rn - 31) := by
  have h3 := h.2.2
  generalize (nAt rf 13 2).toInt32 = x at h3
  have e : x + nI 31 = nI rn := by
    rw [← h3, show nI 31 = nI 15 + nI 16 from rfl]
    ac_rfl
  rw [← pk_sub h1, ← e, Int32.add_sub_cancel]
section JU
variable {rf tk : Nat → Int32} {rn d ep : Nat} {gt sn : Int64}
theorem jud_2 (h : ¬ shpOK rf rn d) : jud rf rn d ep tk gt sn = 2 := by unfold jud; rw [if_pos h]
theorem jud_3 (h : shpOK rf rn d) (h3 : ¬ (nAt rf 1 4).toInt32 = nI ep) : jud rf rn d ep tk gt sn = 3 := by unfold jud; rw [if_neg (fun q => q h), if_pos h3]
theorem jud_4 (h : shpOK rf rn d) (h3 : (nAt rf 1 4).toInt32 = nI ep) (h4 : ¬ tagOK rf (hmv tk rf (rn - 16)) (rn - 16)) : jud rf rn d ep tk gt sn = 4 := by unfold jud; rw [if_neg (fun q => q h), if_neg (fun q => q h3), if_pos h4]
theorem jud_5 (h : shpOK rf rn d) (h3 : (nAt rf 1 4).toInt32 = nI ep) (h4 : tagOK rf (hmv tk rf (rn - 16)) (rn - 16)) (h5 : wOld gt sn (nAt rf 5 8)) : jud rf rn d ep tk gt sn = 5 := by unfold jud; rw [if_neg (fun q => q h), if_neg (fun q => q h3), if_neg (fun q => q h4), if_pos h5]
theorem jud_6 (h : shpOK rf rn d) (h3 : (nAt rf 1 4).toInt32 = nI ep) (h4 : tagOK rf (hmv tk rf (rn - 16)) (rn - 16)) (h5 : ¬ wOld gt sn (nAt rf 5 8)) (h6 : wSeen gt sn (nAt rf 5 8)) : jud rf rn d ep tk gt sn = 6 := by unfold jud; rw [if_neg (fun q => q h), if_neg (fun q => q h3), if_neg (fun q => q h4), if_neg h5, if_pos h6]
theorem jud_0 (h : shpOK rf rn d) (h3 : (nAt rf 1 4).toInt32 = nI ep) (h4 : tagOK rf (hmv tk rf (rn - 16)) (rn - 16)) (h5 : ¬ wOld gt sn (nAt rf 5 8)) (h6 : ¬ wSeen gt sn (nAt rf 5 8)) : jud rf rn d ep tk gt sn = 0 := by unfold jud; rw [if_neg (fun q => q h), if_neg (fun q => q h3), if_neg (fun q => q h4), if_neg h5, if_neg h6]
theorem wMark_0 {n : Int64} (h : sn = 0) : wMark gt sn n = (n, 1) := by unfold wMark; rw [if_pos h]
theorem wMark_b {n : Int64} (h : ¬ sn = 0) (h1 : lowU gt n) (h2 : ¬ fit64 (n - gt)) : wMark gt sn n = (n, 1) := by unfold wMark; rw [if_neg h, if_pos h1, if_neg h2]
theorem wMark_c {n : Int64} (h : ¬ sn = 0) (h1 : lowU gt n) (h2 : fit64 (n - gt)) : wMark gt sn n = (n, jlshl sn (n - gt).toInt32 ||| 1) := by unfold wMark; rw [if_neg h, if_pos h1, if_pos h2]
theorem wMark_a {n : Int64} (h : ¬ sn = 0) (h1 : ¬ lowU gt n) (h2 : fit64 (gt - n)) : wMark gt sn n = (gt, sn ||| jlshl 1 (gt - n).toInt32) := by unfold wMark; rw [if_neg h, if_neg h1, if_pos h2]
end JU
