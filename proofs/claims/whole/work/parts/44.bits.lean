/-! bits of longs by numbers (kit/laws/BITS.to-paste, family wb), and Long.bitCount -/
theorem wb_tb (n : Nat) : (lN n).toBitVec = BitVec.ofNat 64 n := rfl
theorem wb_inj {a b : Int64} (h : a.toBitVec = b.toBitVec) : a = b := Int64.toBitVec_inj.mp h
theorem wb_tn {n : Nat} (h : n < 2 ^ 64) : (lN n).toBitVec.toNat = n := by rw [wb_tb, BitVec.toNat_ofNat, Nat.mod_eq_of_lt h]
theorem wb_of (x : Int64) : ∃ n, n < 2 ^ 64 ∧ x = lN n := ⟨x.toBitVec.toNat, x.toBitVec.isLt, wb_inj (by rw [wb_tb]; simp)⟩
theorem wb_of32 (x : Int32) : ∃ n, n < 2 ^ 32 ∧ x = nI n := ⟨x.toBitVec.toNat, x.toBitVec.isLt, Int32.toBitVec_inj.mp (by show _ = BitVec.ofNat 32 _; simp)⟩
theorem wb_c : ∀ k, k < 64 → ((nI k).toInt64 &&& 63) = lN k := by decide +kernel
theorem wb_cu : ∀ k, k < 64 → ((nI k).toInt64.toUInt64 &&& Int64.toUInt64 63) = UInt64.ofNat k := by decide +kernel
theorem wb_sm : ∀ k, k < 64 → (BitVec.ofNat 64 k).smod 64 = BitVec.ofNat 64 k := by decide +kernel
theorem wb_pw {a b : Nat} (h : a ≤ b) : 2 ^ b = 2 ^ a * 2 ^ (b - a) := by rw [← Nat.pow_add]; congr 1; omega
theorem wb_lt2 {a b : Nat} (h : a < b) : 2 ^ a < 2 ^ b := Nat.pow_lt_pow_right (by decide) h
theorem wb_mod (n : Nat) : lN n = lN (n % 2 ^ 64) := wb_inj (by rw [wb_tb, wb_tb]; apply BitVec.eq_of_toNat_eq; rw [BitVec.toNat_ofNat, BitVec.toNat_ofNat, Nat.mod_mod])
theorem wb_shr {n k : Nat} (hn : n < 2 ^ 64) (hk : k < 64) : ((lN n).toUInt64 >>> ((nI k).toInt64.toUInt64 &&& Int64.toUInt64 63)).toInt64 = lN (n / 2 ^ k) := by
  rw [wb_cu k hk]
  apply wb_inj
  apply BitVec.eq_of_toNat_eq
  show ((lN n).toUInt64 >>> UInt64.ofNat k).toNat = (BitVec.ofNat 64 _).toNat
  have h1 : (UInt64.ofNat k).toNat = k := by
    show (BitVec.ofNat 64 k).toNat = k
    rw [BitVec.toNat_ofNat, Nat.mod_eq_of_lt (by omega)]
  have h2 : (lN n).toUInt64.toNat = n := wb_tn hn
  rw [UInt64.toNat_shiftRight, h1, h2, Nat.mod_eq_of_lt hk, Nat.shiftRight_eq_div_pow, BitVec.toNat_ofNat, Nat.mod_eq_of_lt (Nat.lt_of_le_of_lt (Nat.div_le_self _ _) hn)]
theorem wb_shl (n : Nat) {k : Nat} (hk : k < 64) : lN n <<< ((nI k).toInt64 &&& 63) = lN (n * 2 ^ k) := by
  rw [wb_c k hk]
  apply wb_inj
  rw [Int64.toBitVec_shiftLeft, wb_tb, wb_tb, wb_tb, wb_sm k hk]
  apply BitVec.eq_of_toNat_eq
  rw [BitVec.shiftLeft_eq', BitVec.toNat_shiftLeft, BitVec.toNat_ofNat, BitVec.toNat_ofNat, BitVec.toNat_ofNat, Nat.mod_eq_of_lt (show k < 2 ^ 64 by omega), Nat.shiftLeft_eq, Nat.mul_mod, Nat.mod_mod, ← Nat.mul_mod]
theorem wb_and {a b : Nat} (ha : a < 2 ^ 64) (hb : b < 2 ^ 64) : lN a &&& lN b = lN (a &&& b) := by
  apply wb_inj
  rw [Int64.toBitVec_and, wb_tb, wb_tb, wb_tb]
  apply BitVec.eq_of_toNat_eq
  rw [BitVec.toNat_and, BitVec.toNat_ofNat, BitVec.toNat_ofNat, BitVec.toNat_ofNat, Nat.mod_eq_of_lt ha, Nat.mod_eq_of_lt hb, Nat.mod_eq_of_lt (Nat.and_lt_two_pow _ hb)]
theorem wb_or {a b : Nat} (ha : a < 2 ^ 64) (hb : b < 2 ^ 64) : lN a ||| lN b = lN (a ||| b) := by
  apply wb_inj
  rw [Int64.toBitVec_or, wb_tb, wb_tb, wb_tb]
  apply BitVec.eq_of_toNat_eq
  rw [BitVec.toNat_or, BitVec.toNat_ofNat, BitVec.toNat_ofNat, BitVec.toNat_ofNat, Nat.mod_eq_of_lt ha, Nat.mod_eq_of_lt hb, Nat.mod_eq_of_lt (Nat.or_lt_two_pow ha hb)]
theorem wb_mask {n k : Nat} (hn : n < 2 ^ 64) (hk : k < 64) : lN n &&& lN (2 ^ k - 1) = lN (n % 2 ^ k) := by
  rw [wb_and hn (by have := wb_lt2 hk; omega), Nat.and_two_pow_sub_one_eq_mod]
theorem wb_a1 {n : Nat} (hn : n < 2 ^ 64) : lN n &&& 1 = lN (n % 2) := wb_mask (k := 1) hn (by decide)
theorem wb_bit {n k : Nat} (hn : n < 2 ^ 64) (hk : k < 64) : ((lN n).toUInt64 >>> ((nI k).toInt64.toUInt64 &&& Int64.toUInt64 63)).toInt64 &&& 1 = lN (n / 2 ^ k % 2) := by
  rw [wb_shr hn hk, wb_a1 (Nat.lt_of_le_of_lt (Nat.div_le_self _ _) hn)]
/-- a number by its digits of w bits -/
def num (w : Nat) (d : Nat → Nat) : Nat → Nat
  | 0 => 0
  | m + 1 => num w d m + d m * 2 ^ (w * m)
theorem num_lt (w : Nat) (d : Nat → Nat) : ∀ m, (∀ j, j < m → d j < 2 ^ w) → num w d m < 2 ^ (w * m)
  | 0, _ => by simp [num]
  | m + 1, h => by
    have h1 := num_lt w d m (fun j hj => h j (by omega))
    have h2 := h m (by omega)
    show num w d m + d m * 2 ^ (w * m) < 2 ^ (w * (m + 1))
    rw [Nat.mul_succ, Nat.pow_add, Nat.mul_comm (2 ^ (w * m))]
    calc num w d m + d m * 2 ^ (w * m) < 2 ^ (w * m) + d m * 2 ^ (w * m) := by omega
      _ = (d m + 1) * 2 ^ (w * m) := by rw [Nat.add_mul, Nat.one_mul, Nat.add_comm]
      _ ≤ 2 ^ w * 2 ^ (w * m) := Nat.mul_le_mul_right _ h2
theorem num_add (w : Nat) (d e : Nat → Nat) : ∀ m, num w d m + num w e m = num w (fun j => d j + e j) m
  | 0 => rfl
  | m + 1 => by
    show (num w d m + d m * 2 ^ (w * m)) + (num w e m + e m * 2 ^ (w * m)) = num w (fun j => d j + e j) m + (d m + e m) * 2 ^ (w * m)
    rw [← num_add w d e m, Nat.add_mul]
    omega
theorem num_cong (w : Nat) {d e : Nat → Nat} : ∀ m, (∀ j, j < m → d j = e j) → num w d m = num w e m
  | 0, _ => rfl
  | m + 1, h => by
    show num w d m + d m * 2 ^ (w * m) = num w e m + e m * 2 ^ (w * m)
    rw [num_cong w m (fun j hj => h j (by omega)), h m (by omega)]
theorem num_bit {w : Nat} (hw : 0 < w) (d : Nat → Nat) : ∀ m, (∀ j, j < m → d j < 2 ^ w) → ∀ i, (num w d m).testBit i = (decide (i < w * m) && (d (i / w)).testBit (i % w))
  | 0, _, i => by simp [num]
  | m + 1, h, i => by
    have h1 := num_lt w d m (fun j hj => h j (by omega))
    have ih := num_bit hw d m (fun j hj => h j (by omega)) i
    show (num w d m + d m * 2 ^ (w * m)).testBit i = _
    rw [Nat.add_comm, Nat.mul_comm (d m), Nat.testBit_two_pow_mul_add _ h1]
    have hmm : w * (m + 1) = w * m + w := Nat.mul_succ w m
    by_cases hi : i < w * m
    · rw [if_pos hi, ih]
      simp [hi, show i < w * (m + 1) by omega]
    · rw [if_neg hi]
      by_cases h2 : i < w * (m + 1)
      · have e1 : i / w = m := by
          apply Nat.div_eq_of_lt_le
          · rw [Nat.mul_comm]; omega
          · rw [Nat.mul_comm]; omega
        have e2 : i % w = i - w * m := by
          have := Nat.div_add_mod i w
          rw [e1] at this
          omega
        simp [h2, e1, e2]
      · have h3 := h m (by omega)
        have : (d m).testBit (i - w * m) = false := Nat.testBit_lt_two_pow (Nat.lt_of_lt_of_le h3 (Nat.pow_le_pow_right (by omega) (by omega)))
        simp [h2, this]
/-- every second digit -/
theorem sel1 (d : Nat → Nat) (m : Nat) (h : ∀ j, j < 2 * m → d j < 2 ^ 1) : num 1 d (2 * m) &&& num 2 (fun _ => 1) m = num 2 (fun j => d (2 * j)) m := by
  apply Nat.eq_of_testBit_eq
  intro i
  rw [Nat.testBit_and, num_bit (by omega) d _ h, num_bit (by omega) _ m (fun j hj => by decide), num_bit (by omega) _ m (fun j hj => Nat.lt_of_lt_of_le (h (2 * j) (by omega)) (by decide))]
  by_cases hi : i < 2 * m
  · simp only [show i < 1 * (2 * m) by omega, hi, decide_true, Bool.true_and, Nat.div_one, Nat.mod_one]
    rcases (show i % 2 = 0 ∨ i % 2 = 1 by omega) with e | e
    · rw [e, show 2 * (i / 2) = i by omega]; simp
    · rw [e]
      have h1 := h (2 * (i / 2)) (by omega)
      rw [Nat.testBit_lt_two_pow h1]
      simp [show Nat.testBit 1 1 = false from rfl]
  · simp [hi, show ¬ i < 1 * (2 * m) by omega]
theorem sel2 (d : Nat → Nat) (m : Nat) (h : ∀ j, j < 2 * m → d j < 2 ^ 2) : num 2 d (2 * m) &&& num 4 (fun _ => 3) m = num 4 (fun j => d (2 * j)) m := by
  apply Nat.eq_of_testBit_eq
  intro i
  rw [Nat.testBit_and, num_bit (by omega) d _ h, num_bit (by omega) _ m (fun j hj => by decide), num_bit (by omega) _ m (fun j hj => Nat.lt_of_lt_of_le (h (2 * j) (by omega)) (by decide))]
  by_cases hi : i < 4 * m
  · simp only [show i < 2 * (2 * m) by omega, hi, decide_true, Bool.true_and]
    rcases (show i % 4 = 0 ∨ i % 4 = 1 ∨ i % 4 = 2 ∨ i % 4 = 3 by omega) with e | e | e | e
    · rw [e, show i % 2 = 0 by omega, show i / 2 = 2 * (i / 4) by omega]; simp
    · rw [e, show i % 2 = 1 by omega, show i / 2 = 2 * (i / 4) by omega]; simp [show (3 : Nat).testBit 1 = true from rfl]
    · have h1 := h (2 * (i / 4)) (by omega)
      rw [e, Nat.testBit_lt_two_pow h1]
      simp [show (3 : Nat).testBit 2 = false from rfl]
    · have h1 := h (2 * (i / 4)) (by omega)
      rw [e, Nat.testBit_lt_two_pow (Nat.lt_of_lt_of_le h1 (by decide))]
      simp [show (3 : Nat).testBit 3 = false from rfl]
  · simp [hi, show ¬ i < 2 * (2 * m) by omega]
theorem sel4 (d : Nat → Nat) (m : Nat) (h : ∀ j, j < 2 * m → d j < 2 ^ 4) : num 4 d (2 * m) &&& num 8 (fun _ => 15) m = num 8 (fun j => d (2 * j)) m := by
  apply Nat.eq_of_testBit_eq
  intro i
  rw [Nat.testBit_and, num_bit (by omega) d _ h, num_bit (by omega) _ m (fun j hj => by decide), num_bit (by omega) _ m (fun j hj => Nat.lt_of_lt_of_le (h (2 * j) (by omega)) (by decide))]
  by_cases hi : i < 8 * m
  · simp only [show i < 4 * (2 * m) by omega, hi, decide_true, Bool.true_and]
    by_cases h4 : i % 8 < 4
    · rw [show i % 4 = i % 8 by omega, show i / 4 = 2 * (i / 8) by omega]
      have : (15 : Nat).testBit (i % 8) = true := by
        rcases (show i % 8 = 0 ∨ i % 8 = 1 ∨ i % 8 = 2 ∨ i % 8 = 3 by omega) with e | e | e | e <;> rw [e] <;> rfl
      simp [this]
    · have h1 := h (2 * (i / 8)) (by omega)
      rw [Nat.testBit_lt_two_pow (Nat.lt_of_lt_of_le h1 (Nat.pow_le_pow_right (by decide) (Nat.not_lt.mp h4)))]
      have : (15 : Nat).testBit (i % 8) = false := by
        rcases (show i % 8 = 4 ∨ i % 8 = 5 ∨ i % 8 = 6 ∨ i % 8 = 7 by omega) with e | e | e | e <;> rw [e] <;> rfl
      simp [this]
  · simp [hi, show ¬ i < 4 * (2 * m) by omega]
/-- digits moved down -/
theorem num_div {w : Nat} (hw : 0 < w) (d : Nat → Nat) (m s : Nat) (h : ∀ j, j < m + s → d j < 2 ^ w) : num w d (m + s) / 2 ^ (w * s) = num w (fun j => d (j + s)) m := by
  rw [← Nat.shiftRight_eq_div_pow]
  apply Nat.eq_of_testBit_eq
  intro i
  rw [Nat.testBit_shiftRight, num_bit hw d _ h, num_bit hw _ m (fun j hj => h (j + s) (by omega))]
  have e0 : w * (m + s) = w * m + w * s := Nat.mul_add w m s
  have e1 : (w * s + i) / w = i / w + s := by rw [Nat.add_comm, Nat.add_mul_div_left _ _ hw]
  have e2 : (w * s + i) % w = i % w := by rw [Nat.add_comm, Nat.add_mul_mod_self_left]
  rw [e1, e2]
  by_cases hi : i < w * m
  · simp [hi, show w * s + i < w * (m + s) by omega]
  · simp [hi, show ¬ w * s + i < w * (m + s) by omega]
/-- digits of zero behind -/
theorem num_ext (w : Nat) (d : Nat → Nat) (m : Nat) : ∀ k, (∀ j, m ≤ j → j < m + k → d j = 0) → num w d (m + k) = num w d m
  | 0, _ => rfl
  | k + 1, h => by
    show num w d (m + k) + d (m + k) * 2 ^ (w * (m + k)) = _
    rw [num_ext w d m k (fun j h1 h2 => h j h1 (by omega)), h (m + k) (by omega) (by omega), Nat.zero_mul, Nat.add_zero]
/-- bit j of n -/
def bt (n j : Nat) : Nat := n / 2 ^ j % 2
theorem bt_lt (n j : Nat) : bt n j < 2 := Nat.mod_lt _ (by decide)
theorem bt_hi {n j : Nat} (h : n < 2 ^ 64) (hj : 64 ≤ j) : bt n j = 0 := by
  unfold bt
  rw [Nat.div_eq_of_lt (Nat.lt_of_lt_of_le h (Nat.pow_le_pow_right (by decide) hj))]
theorem num_bits (n : Nat) : ∀ m, num 1 (bt n) m = n % 2 ^ m
  | 0 => by simp [num, Nat.mod_one]
  | m + 1 => by
    show num 1 (bt n) m + bt n m * 2 ^ (1 * m) = _
    rw [num_bits n m, Nat.mod_pow_succ, Nat.one_mul, Nat.mul_comm (2 ^ m)]
    rfl
theorem num_two (d : Nat → Nat) : ∀ m, num 1 d (2 * m) = num 2 (fun j => d (2 * j) + 2 * d (2 * j + 1)) m
  | 0 => rfl
  | m + 1 => by
    show num 1 d (2 * m) + d (2 * m) * 2 ^ (1 * (2 * m)) + d (2 * m + 1) * 2 ^ (1 * (2 * m + 1)) = num 2 (fun j => d (2 * j) + 2 * d (2 * j + 1)) m + (d (2 * m) + 2 * d (2 * m + 1)) * 2 ^ (2 * m)
    rw [num_two d m, Nat.one_mul, Nat.one_mul, Nat.pow_succ, Nat.add_mul, Nat.mul_comm 2 (d (2 * m + 1)), Nat.mul_assoc (d (2 * m + 1)), Nat.mul_comm 2 (2 ^ (2 * m)), Nat.add_assoc]
def d1 (n j : Nat) : Nat := bt n (2 * j) + bt n (2 * j + 1)
def d2 (n j : Nat) : Nat := d1 n (2 * j) + d1 n (2 * j + 1)
def d3 (n j : Nat) : Nat := d2 n (2 * j) + d2 n (2 * j + 1)
theorem d1_le (n j : Nat) : d1 n j ≤ 2 := by
  have := bt_lt n (2 * j)
  have := bt_lt n (2 * j + 1)
  unfold d1; omega
theorem d2_le (n j : Nat) : d2 n j ≤ 4 := by
  have := d1_le n (2 * j)
  have := d1_le n (2 * j + 1)
  unfold d2; omega
theorem d3_le (n j : Nat) : d3 n j ≤ 8 := by
  have := d2_le n (2 * j)
  have := d2_le n (2 * j + 1)
  unfold d3; omega
theorem d1_hi {n j : Nat} (h : n < 2 ^ 64) (hj : 32 ≤ j) : d1 n j = 0 := by
  unfold d1; rw [bt_hi h (by omega), bt_hi h (by omega)]
theorem d2_hi {n j : Nat} (h : n < 2 ^ 64) (hj : 16 ≤ j) : d2 n j = 0 := by
  unfold d2; rw [d1_hi h (by omega), d1_hi h (by omega)]
theorem d3_hi {n j : Nat} (h : n < 2 ^ 64) (hj : 8 ≤ j) : d3 n j = 0 := by
  unfold d3; rw [d2_hi h (by omega), d2_hi h (by omega)]
theorem sw1 {n : Nat} (h : n < 2 ^ 64) : n / 2 ^ 1 &&& 6148914691236517205 = num 2 (fun j => bt n (2 * j + 1)) 32 ∧ n = num 2 (d1 n) 32 + num 2 (fun j => bt n (2 * j + 1)) 32 := by
  have e0 : n = num 1 (bt n) 64 := by rw [num_bits, Nat.mod_eq_of_lt h]
  constructor
  · have e1 : n / 2 ^ 1 = num 1 (fun j => bt n (j + 1)) 64 := by
      have := num_div (w := 1) (by decide) (bt n) 63 1 (fun j _ => bt_lt n j)
      rw [← e0] at this
      rw [show (2 : Nat) ^ 1 = 2 ^ (1 * 1) from rfl, this]
      exact (num_ext 1 (fun j => bt n (j + 1)) 63 1 (fun j h1 _ => bt_hi h (by omega))).symm
    rw [e1, show (6148914691236517205 : Nat) = num 2 (fun _ => 1) 32 by decide +kernel]
    exact sel1 (fun j => bt n (j + 1)) 32 (fun j _ => bt_lt n _)
  · rw [num_add]
    refine e0.trans ((num_two (bt n) 32).trans (num_cong 2 32 (fun j _ => ?_)))
    unfold d1
    omega
theorem sw2 {n : Nat} (h : n < 2 ^ 64) : (num 2 (d1 n) 32 &&& 3689348814741910323) + (num 2 (d1 n) 32 / 2 ^ 2 &&& 3689348814741910323) = num 4 (d2 n) 16 := by
  have hd : ∀ j, d1 n j < 2 ^ 2 := fun j => Nat.lt_of_le_of_lt (d1_le n j) (by decide)
  have e1 : num 2 (d1 n) 32 / 2 ^ 2 = num 2 (fun j => d1 n (j + 1)) 32 := by
    have := num_div (w := 2) (by decide) (d1 n) 31 1 (fun j _ => hd j)
    rw [show (2 : Nat) ^ 2 = 2 ^ (2 * 1) from rfl, this]
    exact (num_ext 2 (fun j => d1 n (j + 1)) 31 1 (fun j h1 _ => d1_hi h (by omega))).symm
  rw [e1, show (3689348814741910323 : Nat) = num 4 (fun _ => 3) 16 by decide +kernel]
  have a := sel2 (d1 n) 16 (fun j _ => hd j)
  have b := sel2 (fun j => d1 n (j + 1)) 16 (fun j _ => hd _)
  rw [show 2 * 16 = 32 from rfl] at a b
  rw [a, b, num_add]
  rfl
theorem sw3 {n : Nat} (h : n < 2 ^ 64) : num 4 (d2 n) 16 + num 4 (d2 n) 16 / 2 ^ 4 &&& 1085102592571150095 = num 8 (d3 n) 8 := by
  have hd : ∀ j, d2 n j < 2 ^ 4 := fun j => Nat.lt_of_le_of_lt (d2_le n j) (by decide)
  have e1 : num 4 (d2 n) 16 / 2 ^ 4 = num 4 (fun j => d2 n (j + 1)) 16 := by
    have := num_div (w := 4) (by decide) (d2 n) 15 1 (fun j _ => hd j)
    rw [show (2 : Nat) ^ 4 = 2 ^ (4 * 1) from rfl, this]
    exact (num_ext 4 (fun j => d2 n (j + 1)) 15 1 (fun j h1 _ => d2_hi h (by omega))).symm
  rw [e1, num_add, show (1085102592571150095 : Nat) = num 8 (fun _ => 15) 8 by decide +kernel]
  exact sel4 (fun j => d2 n j + d2 n (j + 1)) 8 (fun j _ => by
    have := d2_le n j
    have := d2_le n (j + 1)
    show d2 n j + d2 n (j + 1) < 16
    omega)
/-- digits of 8 bits moved down by k and added -/
theorem sw8 (d : Nat → Nat) (k : Nat) (hk : k ≤ 8) (hd : ∀ j, d j < 2 ^ 8) (hz : ∀ j, 8 ≤ j → d j = 0) : num 8 d 8 + num 8 d 8 / 2 ^ (8 * k) = num 8 (fun j => d j + d (j + k)) 8 := by
  have := num_div (w := 8) (by decide) d (8 - k) k (fun j _ => hd j)
  rw [show 8 - k + k = 8 by omega] at this
  rw [this, ← num_add]
  congr 1
  have e := num_ext 8 (fun j => d (j + k)) (8 - k) k (fun j h1 _ => hz (j + k) (by omega))
  rw [show 8 - k + k = 8 by omega] at e
  exact e.symm
theorem num8_mod (d : Nat → Nat) (h : d 0 < 128) : num 8 d 8 % 128 = d 0 := by
  simp only [num]
  omega
/-- how many bits -/
def cnt (n : Nat) : Nat → Nat
  | 0 => 0
  | k + 1 => cnt n k + bt n k
theorem cnt_64 (n : Nat) : cnt n 64 = ((d3 n 0 + d3 n 1) + (d3 n 2 + d3 n 3)) + ((d3 n 4 + d3 n 5) + (d3 n 6 + d3 n 7)) := by
  simp only [cnt, d3, d2, d1, Nat.reduceMul, Nat.reduceAdd]
  omega
theorem bitC_eq {n : Nat} (h : n < 2 ^ 64) : bitC (lN n) = nI (cnt n 64) := by
  obtain ⟨e1, e2⟩ := sw1 h
  have b1 : ∀ {w m : Nat} {d : Nat → Nat}, w * m = 64 → (∀ j, d j < 2 ^ w) → num w d m < 2 ^ 64 := fun {w m d} hm hd => by
    have := num_lt w d m (fun j _ => hd j)
    rwa [hm] at this
  have l1 : num 2 (d1 n) 32 < 2 ^ 64 := b1 (by decide) (fun j => Nat.lt_of_le_of_lt (d1_le n j) (by decide))
  have l2 : num 4 (d2 n) 16 < 2 ^ 64 := b1 (by decide) (fun j => Nat.lt_of_le_of_lt (d2_le n j) (by decide))
  have s1 : bc1 (lN n) = lN (num 2 (d1 n) 32) := by
    show lN n - (((lN n).toUInt64 >>> ((nI 1).toInt64.toUInt64 &&& Int64.toUInt64 63)).toInt64 &&& lN 6148914691236517205) = _
    rw [wb_shr h (by decide), wb_and (Nat.lt_of_le_of_lt (Nat.div_le_self _ _) h) (by decide), e1, lN_sub (by omega)]
    congr 1
    omega
  have s2 : bc2 (lN (num 2 (d1 n) 32)) = lN (num 4 (d2 n) 16) := by
    show (lN _ &&& lN 3689348814741910323) + (((lN _).toUInt64 >>> ((nI 2).toInt64.toUInt64 &&& Int64.toUInt64 63)).toInt64 &&& lN 3689348814741910323) = _
    rw [wb_shr l1 (by decide), wb_and l1 (by decide), wb_and (Nat.lt_of_le_of_lt (Nat.div_le_self _ _) l1) (by decide), lN_add, sw2 h]
  have l3 : num 4 (d2 n) 16 + num 4 (d2 n) 16 / 2 ^ 4 < 2 ^ 64 := by
    have hd : ∀ j, d2 n j < 2 ^ 4 := fun j => Nat.lt_of_le_of_lt (d2_le n j) (by decide)
    have e1 : num 4 (d2 n) 16 / 2 ^ 4 = num 4 (fun j => d2 n (j + 1)) 16 := by
      have := num_div (w := 4) (by decide) (d2 n) 15 1 (fun j _ => hd j)
      rw [show (2 : Nat) ^ 4 = 2 ^ (4 * 1) from rfl, this]
      exact (num_ext 4 (fun j => d2 n (j + 1)) 15 1 (fun j h1 _ => d2_hi h (by omega))).symm
    rw [e1, num_add]
    exact b1 (by decide) (fun j => by
      have := d2_le n j
      have := d2_le n (j + 1)
      show d2 n j + d2 n (j + 1) < 16
      omega)
  have s3 : bc3 (lN (num 4 (d2 n) 16)) = lN (num 8 (d3 n) 8) := by
    show (lN _ + ((lN _).toUInt64 >>> ((nI 4).toInt64.toUInt64 &&& Int64.toUInt64 63)).toInt64) &&& lN 1085102592571150095 = _
    rw [wb_shr l2 (by decide), lN_add, wb_and l3 (by decide), sw3 h]
  have s4 : ∀ (d : Nat → Nat) (k : Nat), k ≤ 4 → (∀ j, d j < 2 ^ 7) → (∀ j, 8 ≤ j → d j = 0) → bc4 (lN (num 8 d 8)) (8 * k) = lN (num 8 (fun j => d j + d (j + k)) 8) := fun d k hk hd hz => by
    show lN _ + ((lN _).toUInt64 >>> ((nI (8 * k)).toInt64.toUInt64 &&& Int64.toUInt64 63)).toInt64 = _
    rw [wb_shr (b1 (by decide) (fun j => Nat.lt_trans (hd j) (by decide))) (by omega), lN_add, sw8 d k (by omega) (fun j => Nat.lt_trans (hd j) (by decide)) hz]
  unfold bitC
  rw [s1, s2, s3]
  have c1 := s4 (d3 n) 1 (by decide) (fun j => Nat.lt_of_le_of_lt (d3_le n j) (by decide)) (fun j hj => d3_hi h hj)
  have c2 := s4 (fun j => d3 n j + d3 n (j + 1)) 2 (by decide) (fun j => by
    have := d3_le n j
    have := d3_le n (j + 1)
    show d3 n j + d3 n (j + 1) < 128
    omega) (fun j hj => by
    show d3 n j + d3 n (j + 1) = 0
    rw [d3_hi h hj, d3_hi h (by omega)])
  have c3 := s4 (fun j => (d3 n j + d3 n (j + 1)) + (d3 n (j + 2) + d3 n (j + 2 + 1))) 4 (by decide) (fun j => by
    have := d3_le n j
    have := d3_le n (j + 1)
    have := d3_le n (j + 2)
    have := d3_le n (j + 2 + 1)
    show (d3 n j + d3 n (j + 1)) + (d3 n (j + 2) + d3 n (j + 2 + 1)) < 128
    omega) (fun j hj => by
    show (d3 n j + d3 n (j + 1)) + (d3 n (j + 2) + d3 n (j + 2 + 1)) = 0
    rw [d3_hi h hj, d3_hi h (by omega), d3_hi h (by omega), d3_hi h (by omega)])
  rw [show (8 : Nat) = 8 * 1 from rfl, c1, show (16 : Nat) = 8 * 2 from rfl, c2, show (32 : Nat) = 8 * 4 from rfl, c3]
  rw [lN_i, pk_and _ 7 (by decide +kernel)]
  congr 1
  have ht : ∀ x : Nat, (nI x).toBitVec.toNat = x % 2 ^ 32 := fun x => rfl
  rw [ht, cnt_64]
  have q0 := d3_le n 0
  have q1 := d3_le n 1
  have q2 := d3_le n 2
  have q3 := d3_le n 3
  have q4 := d3_le n 4
  have q5 := d3_le n 5
  have q6 := d3_le n 6
  have q7 := d3_le n 7
  rw [show (2 : Nat) ^ 7 = 128 from rfl, Nat.mod_mod_of_dvd _ (by decide)]
  rw [num8_mod _ (by show ((d3 n 0 + d3 n (0 + 1)) + (d3 n (0 + 2) + d3 n (0 + 2 + 1))) + ((d3 n (0 + 4) + d3 n (0 + 4 + 1)) + (d3 n (0 + 4 + 2) + d3 n (0 + 4 + 2 + 1))) < 128; simp only [Nat.reduceAdd]; omega)]
