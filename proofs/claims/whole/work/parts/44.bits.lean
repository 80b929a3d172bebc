/-! bits of longs by numbers (kit/laws/BITS.to-paste, family wb), and Long.bitCount -/
theorem wb_tb (n : Nat) : (lN n).toBitVec = BitVec.ofNat 64 n := rfl
theorem wb_inj {a b : Int64} (h : a.toBitVec = b.toBitVec) : a = b := Int64.toBitVec_inj.mp h
theorem wb_tn {n : Nat} (h : n < 2 ^ 64) : (lN n).toBitVec.toNat = n := by rw [wb_tb, BitVec.toNat_ofNat, Nat.mod_eq_of_lt h]
theorem wb_of (x : Int64) : ∃ n, n < 2 ^ 64 ∧ x = lN n := ⟨x.toBitVec.toNat, x.toBitVec.isLt, wb_inj (by rw [wb_tb]; simp)⟩
theorem wb_of32 (x : Int32) : ∃ n, n < 2 ^ 32 ∧ x = nI n := ⟨x.toBitVec.toNat, x.toBitVec.isLt, Int32.toBitVec_inj.mp (by show _ = BitVec.ofNat 32 _; simp)⟩
theorem wb_c : ∀ k, k < 64 → ((nI k).toInt64 &&& 63) = lN k := by decide +kernel
theorem wb_cu : ∀ k, k < 64 → ((nI k).toInt64.toUInt64 &&& Int64.toUInt64 63) = UInt64.ofNat k := by decide +kernel
theorem wb_sm : ∀ k, k < 64 → (BitVec.ofNat 64 k).smod 64 = BitVec.ofNat 64 k := by decide +kernel
theorem wb_pw {a b : Nat} (h : a ≤ b) : 2 ^ b = 2 ^ a * 2 ^ (b - a) := by rw [← Nat.pow_add]; congr 1; omega
theorem wb_lt2 {a b : Nat} (h : a < b) : 2 ^ a < 2 ^ b := Nat.pow_lt_pow_right (by decide) h
theorem wb_mod (n : Nat) : lN n = lN (n % 2 ^ 64) := wb_inj (by rw [wb_tb, wb_tb]; apply BitVec.eq_of_toNat_eq; rw [BitVec.toNat_ofNat, BitVec.toNat_ofNat, Nat.mod_mod])
theorem wb_shr {n k : Nat} (hn : n < 2 ^ 64) (hk : k < 64) : ((lN n).toUInt64 >>> ((nI k).toInt64.toUInt64 &&& Int64.toUInt64 63)).toInt64 = lN (n / 2 ^ k) := by
  rw [wb_cu k hk]
  apply wb_inj
  apply BitVec.eq_of_toNat_eq
  show ((lN n).toUInt64 >>> UInt64.ofNat k).toNat = (BitVec.ofNat 64 _).toNat
  have h1 : (UInt64.ofNat k).toNat = k := by
    show (BitVec.ofNat 64 k).toNat = k
    rw [BitVec.toNat_ofNat, Nat.mod_eq_of_lt (by omega)]
  have h2 : (lN n).toUInt64.toNat = n := wb_tn hn
  rw [UInt64.toNat_shiftRight, h1, h2, Nat.mod_eq_of_lt hk, Nat.shiftRight_eq_div_pow, BitVec.toNat_ofNat, Nat.mod_eq_of_lt (Nat.lt_of_le_of_lt (Nat.div_le_self _ _) hn)]
theorem wb_shl (n : Nat) {k : Nat} (hk : k < 64) : lN n <<< ((nI k).toInt64 &&& 63) = lN (n * 2 ^ k) := by
  rw [wb_c k hk]
  apply wb_inj
  rw [Int64.toBitVec_shiftLeft, wb_tb, wb_tb, wb_tb, wb_sm k hk]
  apply BitVec.eq_of_toNat_eq
  rw [BitVec.shiftLeft_eq', BitVec.toNat_shiftLeft, BitVec.toNat_ofNat, BitVec.toNat_ofNat, BitVec.toNat_ofNat, Nat.mod_eq_of_lt (show k < 2 ^ 64 by omega), Nat.shiftLeft_eq, Nat.mul_mod, Nat.mod_mod, ← Nat.mul_mod]
theorem wb_and {a b : Nat} (ha : a < 2 ^ 64) (hb : b < 2 ^ 64) : lN a &&& lN b = lN (a &&& b) := by
  apply wb_inj
  rw [Int64.toBitVec_and, wb_tb, wb_tb, wb_tb]
  apply BitVec.eq_of_toNat_eq
  rw [BitVec.toNat_and, BitVec.toNat_ofNat, BitVec.toNat_ofNat, BitVec.toNat_ofNat, Nat.mod_eq_of_lt ha, Nat.mod_eq_of_lt hb, Nat.mod_eq_of_lt (Nat.and_lt_two_pow _ hb)]
theorem wb_or {a b : Nat} (ha : a < 2 ^ 64) (hb : b < 2 ^ 64) : lN a ||| lN b = lN (a ||| b) := by
  apply wb_inj
  rw [Int64.toBitVec_or, wb_tb, wb_tb, wb_tb]
  apply BitVec.eq_of_toNat_eq
  rw [BitVec.toNat_or, BitVec.toNat_ofNat, BitVec.toNat_ofNat, BitVec.toNat_ofNat, Nat.mod_eq_of_lt ha, Nat.mod_eq_of_lt hb, Nat.mod_eq_of_lt (Nat.or_lt_two_pow ha hb)]
theorem wb_mask {n k : Nat} (hn : n < 2 ^ 64) (hk : k < 64) : lN n &&& lN (2 ^ k - 1) = lN (n % 2 ^ k) := by
  rw [wb_and hn (by have := wb_lt2 hk; omega), Nat.and_two_pow_sub_one_eq_mod]
theorem wb_a1 {n : Nat} (hn : n < 2 ^ 64) : lN n &&& 1 = lN (n % 2) := wb_mask (k := 1) hn (by decide)
theorem wb_bit {n k : Nat} (hn : n < 2 ^ 64) (hk : k < 64) : ((lN n).toUInt64 >>> ((nI k).toInt64.toUInt64 &&& Int64.toUInt64 63)).toInt64 &&& 1 = lN (n / 2 ^ k % 2) := by
  rw [wb_shr hn hk, wb_a1 (Nat.lt_of_le_of_lt (Nat.div_le_self _ _) hn)]
/-- a number by its digits of w bits -/
def num (w : Nat) (d : Nat → Nat) : Nat → Nat
  | 0 => 0
  | m + 1 => num w d m + d m * 2 ^ (w * m)
theorem num_lt (w : Nat) (d : Nat → Nat) : ∀ m, (∀ j, j < m → d j < 2 ^ w) → num w d m < 2 ^ (w * m)
  | 0, _ => by simp [num]
  | m + 1, h => by
    have h1 := num_lt w d m (fun j hj => h j (by omega))
    have h2 := h m (by omega)
    show num w d m + d m * 2 ^ (w * m) < 2 ^ (w * (m + 1))
    rw [Nat.mul_succ, Nat.pow_add, Nat.mul_comm (2 ^ (w * m))]
    calc num w d m + d m * 2 ^ (w * m) < 2 ^ (w * m) + d m * 2 ^ (w * m) := by omega
      _ = (d m + 1) * 2 ^ (w * m) := by rw [Nat.add_mul, Nat.one_mul, Nat.add_comm]
      _ ≤ 2 ^ w * 2 ^ (w * m) := Nat.mul_le_mul_right _ h2
theorem num_add (w : Nat) (d e : Nat → Nat) : ∀ m, num w d m + num w e m = num w (fun j => d j + e j) m
  | 0 => rfl
  | m + 1 => by
    show (num w d m + d m * 2 ^ (w * m)) + (num w e m + e m * 2 ^ (w * m)) = num w (fun j => d j + e j) m + (d m + e m) * 2 ^ (w * m)
    rw [← num_add w d e m, Nat.add_mul]
    omega
theorem num_cong (w : Nat) {d e : Nat → Nat} : ∀ m, (∀ j, j < m → d j = e j) → num w d m = num w e m
  | 0, _ => rfl
  | m + 1, h => by
    show num w d m + d m * 2 ^ (w * m) = num w e m + e m * 2 ^ (w * m)
    rw [num_cong w m (fun j hj => h j (by omega)), h m (by omega)]
theorem num_bit {w : Nat} (hw : 0 < w) (d : Nat → Nat) : ∀ m, (∀ j, j < m → d j < 2 ^ w) → ∀ i, (num w d m).testBit i = (decide (i < w * m) && (d (i / w)).testBit (i % w))
  | 0, _, i => by simp [num]
  | m + 1, h, i => by
    have h1 := num_lt w d m (fun j hj => h j (by omega))
    have ih := num_bit hw d m (fun j hj => h j (by omega)) i
    show (num w d m + d m * 2 ^ (w * m)).testBit i = _
    rw [Nat.add_comm, Nat.mul_comm (d m), Nat.testBit_two_pow_mul_add _ h1]
    have hmm : w * (m + 1) = w * m + w := Nat.mul_succ w m
    by_cases hi : i < w * m
    · rw [if_pos hi, ih]
      simp [hi, show i < w * (m + 1) by omega]
    · rw [if_neg hi]
      by_cases h2 : i < w * (m + 1)
      · have e1 : i / w = m := by
          apply Nat.div_eq_of_lt_le
          · rw [Nat.mul_comm]; omega
          · rw [Nat.mul_comm]; omega
        have e2 : i % w = i - w * m := by
          have := Nat.div_add_mod i w
          rw [e1] at this
          omega
        simp [h2, e1, e2]
      · have h3 := h m (by omega)
        have : (d m).testBit (i - w * m) = false := Nat.testBit_lt_two_pow (Nat.lt_of_lt_of_le h3 (Nat.pow_le_pow_right (by omega) (by omega)))
        simp [h2, this]
/-- every second digit -/
theorem sel1 (d : Nat → Nat) (m : Nat) (h : ∀ j, j < 2 * m → d j < 2 ^ 1) : num 1 d (2 * m) &&& num 2 (fun _ => 1) m = num 2 (fun j => d (2 * j)) m := by
  apply Nat.eq_of_testBit_eq
  intro i
  rw [Nat.testBit_and, num_bit (by omega) d _ h, num_bit (by omega) _ m (fun j hj => by decide), num_bit (by omega) _ m (fun j hj => Nat.lt_of_lt_of_le (h (2 * j) (by omega)) (by decide))]
  by_cases hi : i < 2 * m
  · simp only [show i < 1 * (2 * m) by omega, hi, decide_true, Bool.true_and, Nat.div_one, Nat.mod_one]
    rcases (show i % 2 = 0 ∨ i % 2 = 1 by omega) with e | e
    · rw [e, show 2 * (i / 2) = i by omega]; simp
    · rw [e]
      have h1 := h (2 * (i / 2)) (by omega)
      rw [Nat.testBit_lt_two_pow h1]
      simp
  · simp [hi, show ¬ i < 1 * (2 * m) by omega]
theorem sel2 (d : Nat → Nat) (m : Nat) (h : ∀ j, j < 2 * m → d j < 2 ^ 2) : num 2 d (2 * m) &&& num 4 (fun _ => 3) m = num 4 (fun j => d (2 * j)) m := by
  apply Nat.eq_of_testBit_eq
  intro i
  rw [Nat.testBit_and, num_bit (by omega) d _ h, num_bit (by omega) _ m (fun j hj => by decide), num_bit (by omega) _ m (fun j hj => Nat.lt_of_lt_of_le (h (2 * j) (by omega)) (by decide))]
  by_cases hi : i < 4 * m
  · simp only [show i < 2 * (2 * m) by omega, hi, decide_true, Bool.true_and]
    rcases (show i % 4 = 0 ∨ i % 4 = 1 ∨ i % 4 = 2 ∨ i % 4 = 3 by omega) with e | e | e | e
    · rw [e, show i % 2 = 0 by omega, show i / 2 = 2 * (i / 4) by omega]; simp
    · rw [e, show i % 2 = 1 by omega, show i / 2 = 2 * (i / 4) by omega]; simp [show (3 : Nat).testBit 1 = true from rfl]
    · have h1 := h (2 * (i / 4)) (by omega)
      rw [e, Nat.testBit_lt_two_pow h1]
      simp [show (3 : Nat).testBit 2 = false from rfl]
    · have h1 := h (2 * (i / 4)) (by omega)
      rw [e, Nat.testBit_lt_two_pow (Nat.lt_of_lt_of_le h1 (by decide))]
      simp [show (3 : Nat).testBit 3 = false from rfl]
  · simp [hi, show ¬ i < 2 * (2 * m) by omega]
theorem sel4 (d : Nat → Nat) (m : Nat) (h : ∀ j, j < 2 * m → d j < 2 ^ 4) : num 4 d (2 * m) &&& num 8 (fun _ => 15) m = num 8 (fun j => d (2 * j)) m := by
  apply Nat.eq_of_testBit_eq
  intro i
  rw [Nat.testBit_and, num_bit (by omega) d _ h, num_bit (by omega) _ m (fun j hj => by decide), num_bit (by omega) _ m (fun j hj => Nat.lt_of_lt_of_le (h (2 * j) (by omega)) (by decide))]
  by_cases hi : i < 8 * m
  · simp only [show i < 4 * (2 * m) by omega, hi, decide_true, Bool.true_and]
    by_cases h4 : i % 8 < 4
    · rw [show i % 4 = i % 8 by omega, show i / 4 = 2 * (i / 8) by omega]
      have : (15 : Nat).testBit (i % 8) = true := by
        rcases (show i % 8 = 0 ∨ i % 8 = 1 ∨ i % 8 = 2 ∨ i % 8 = 3 by omega) with e | e | e | e <;> rw [e] <;> rfl
      simp [this]
    · have h1 := h (2 * (i / 8)) (by omega)
      rw [Nat.testBit_lt_two_pow (Nat.lt_of_lt_of_le h1 (Nat.pow_le_pow_right (by decide) (Nat.not_lt.mp h4)))]
      have : (15 : Nat).testBit (i % 8) = false := by
        rcases (show i % 8 = 4 ∨ i % 8 = 5 ∨ i % 8 = 6 ∨ i % 8 = 7 by omega) with e | e | e | e <;> rw [e] <;> rfl
      simp [this]
  · simp [hi, show ¬ i < 4 * (2 * m) by omega]
/-- digits moved down -/
theorem num_div {w : Nat} (hw : 0 < w) (d : Nat → Nat) (m s : Nat) (h : ∀ j, j < m + s → d j < 2 ^ w) : num w d (m + s) / 2 ^ (w * s) = num w (fun j => d (j + s)) m := by
  rw [← Nat.shiftRight_eq_div_pow]
  apply Nat.eq_of_testBit_eq
  intro i
  rw [Nat.testBit_shiftRight, num_bit hw d _ h, num_bit hw _ m (fun j hj => h (j + s) (by omega))]
  have e0 : w * (m + s) = w * m + w * s := Nat.mul_add w m s
  have e1 : (w * s + i) / w = i / w + s := by rw [Nat.add_comm, Nat.add_mul_div_left _ _ hw]
  have e2 : (w * s + i) % w = i % w := by rw [Nat.add_comm, Nat.add_mul_mod_self_left]
  rw [e1, e2]
  by_cases hi : i < w * m
  · simp [hi, show w * s + i < w * (m + s) by omega]
  · simp [hi, show ¬ w * s + i < w * (m + s) by omega]
