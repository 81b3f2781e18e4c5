/-! pure: counting bits, the lowest bit -/
theorem and_byte (a b : Nat) : a &&& b = 256 * (a / 256 &&& b / 256) + (a % 256 &&& b % 256) := by
  have h1 : (a &&& b) / 2 ^ 8 = a / 2 ^ 8 &&& b / 2 ^ 8 := Nat.and_div_two_pow
  have h2 : (a &&& b) % 2 ^ 8 = (a % 2 ^ 8) &&& (b % 2 ^ 8) := Nat.and_mod_two_pow
  have h3 := Nat.div_add_mod (a &&& b) 256
  rw [show (256 : Nat) = 2 ^ 8 from rfl, ← h1, ← h2]; exact (Nat.div_add_mod _ _).symm
/-- a mask of the same byte -/
def mB (b : Nat) : Nat → Nat
  | 0 => 0
  | k + 1 => 256 * mB b k + b
theorem mB_d {b : Nat} (hb : b < 256) (k : Nat) : mB b (k + 1) / 256 = mB b k := by rw [mB]; omega
theorem mB_m {b : Nat} (hb : b < 256) (k : Nat) : mB b (k + 1) % 256 = b := by rw [mB]; omega
def b1 (k n : Nat) : Nat := n - (n / 2 &&& mB 85 k)
def b2 (k n : Nat) : Nat := (b1 k n &&& mB 51 k) + (b1 k n / 4 &&& mB 51 k)
def b3 (k n : Nat) : Nat := (b2 k n + b2 k n / 16) &&& mB 15 k
set_option maxRecDepth 100000 in
theorem by1 : ∀ g, g < 2 → ∀ d, d < 256 → (128 * g + d / 2) &&& 85 = d / 2 &&& 85 := by decide +kernel
set_option maxRecDepth 100000 in
theorem by1le : ∀ d, d < 256 → d / 2 &&& 85 ≤ d := by decide +kernel
set_option maxRecDepth 100000 in
theorem by2 : ∀ g, g < 4 → ∀ d, d < 256 → (64 * g + d / 4) &&& 51 = d / 4 &&& 51 := by decide +kernel
set_option maxRecDepth 100000 in
theorem by3 : ∀ g, g < 5 → ∀ d, d < 69 → (16 * g + (d + d / 16)) &&& 15 = (d + d / 16) &&& 15 := by decide +kernel
set_option maxRecDepth 100000 in
theorem by2le : ∀ d, d < 256 → ((d - (d / 2 &&& 85)) &&& 51) + ((d - (d / 2 &&& 85)) / 4 &&& 51) < 69 ∧ (((d - (d / 2 &&& 85)) &&& 51) + ((d - (d / 2 &&& 85)) / 4 &&& 51)) % 16 < 5 := by decide +kernel
theorem half_le (k : Nat) : ∀ n, n < 256 ^ k → (n / 2 &&& mB 85 k) ≤ n := fun n _ => Nat.le_trans Nat.and_le_left (by omega)
theorem b1_s (k n : Nat) : b1 (k + 1) n = 256 * b1 k (n / 256) + (n % 256 - (n % 256 / 2 &&& 85)) := by
  unfold b1
  rw [and_byte (n / 2), mB_d (by decide), mB_m (by decide), show n / 2 / 256 = n / 256 / 2 by omega, show n / 2 % 256 = 128 * (n / 256 % 2) + n % 256 / 2 by omega, by1 _ (by omega) _ (by omega)]
  have h1 : (n / 256 / 2 &&& mB 85 k) ≤ n / 256 := Nat.le_trans Nat.and_le_left (by omega)
  have h2 := by1le (n % 256) (by omega)
  omega
theorem b1_le (k n : Nat) : b1 k n ≤ n := Nat.sub_le _ _
theorem b2_s (k n : Nat) : b2 (k + 1) n = 256 * b2 k (n / 256) + (((n % 256 - (n % 256 / 2 &&& 85)) &&& 51) + ((n % 256 - (n % 256 / 2 &&& 85)) / 4 &&& 51)) := by
  unfold b2
  rw [b1_s]
  generalize he : n % 256 - (n % 256 / 2 &&& 85) = q
  have hq : q < 256 := by omega
  generalize b1 k (n / 256) = u
  rw [and_byte (256 * u + q), and_byte ((256 * u + q) / 4), mB_d (by decide), mB_m (by decide), show (256 * u + q) / 256 = u by omega, show (256 * u + q) % 256 = q by omega, show (256 * u + q) / 4 / 256 = u / 4 by omega, show (256 * u + q) / 4 % 256 = 64 * (u % 4) + q / 4 by omega, by2 _ (by omega) _ hq]
  omega
theorem b2_m (k : Nat) : ∀ n, b2 k n % 16 < 5 := by
  induction k with
  | zero => intro n; simp [b2, mB]
  | succ k ih => intro n; rw [b2_s]; have := (by2le (n % 256) (by omega)).2; omega
set_option maxRecDepth 100000 in
theorem byte_ct : ∀ d, d < 256 → (((d - (d / 2 &&& 85)) &&& 51) + ((d - (d / 2 &&& 85)) / 4 &&& 51) + (((d - (d / 2 &&& 85)) &&& 51) + ((d - (d / 2 &&& 85)) / 4 &&& 51)) / 16) &&& 15 = ct d.testBit 8 := by decide +kernel
theorem b3_s (k n : Nat) : b3 (k + 1) n = 256 * b3 k (n / 256) + ct (n % 256).testBit 8 := by
  rw [← byte_ct (n % 256) (by omega)]
  unfold b3
  rw [b2_s]
  have h9 := by2le (n % 256) (by omega)
  generalize (((n % 256 - (n % 256 / 2 &&& 85)) &&& 51) + ((n % 256 - (n % 256 / 2 &&& 85)) / 4 &&& 51)) = q at *
  have hu := b2_m k (n / 256)
  generalize b2 k (n / 256) = u at *
  rw [and_byte (256 * u + q + (256 * u + q) / 16), mB_d (by decide), mB_m (by decide), show (256 * u + q + (256 * u + q) / 16) / 256 = u + u / 16 by omega, show (256 * u + q + (256 * u + q) / 16) % 256 = 16 * (u % 16) + (q + q / 16) by omega, by3 _ hu _ h9.1]
theorem ct_add (p : Nat → Bool) (a : Nat) : ∀ b, ct p (a + b) = ct p a + ct (fun i => p (a + i)) b
  | 0 => rfl
  | b + 1 => by rw [show a + (b + 1) = a + b + 1 from rfl, ct, ct, ct_add p a b]; split <;> omega
theorem ct_byte (n k : Nat) : ct n.testBit (8 + k) = ct (n % 256).testBit 8 + ct (n / 256).testBit k := by
  rw [ct_add]
  congr 1
  · refine ct_ext fun i hi => ?_
    rw [show (256 : Nat) = 2 ^ 8 from rfl, Nat.testBit_mod_two_pow]; simp [hi]
  · refine ct_ext fun i _ => ?_
    rw [show (256 : Nat) = 2 ^ 8 from rfl, Nat.testBit_div_two_pow, Nat.add_comm]
theorem ct8 (n : Nat) : ct n.testBit 8 ≤ 8 := ct_le _ 8
/-- what the four last steps of Integer.bitCount make of the bytes' counts -/
theorem pc32 {n : Nat} : ((b3 4 n + b3 4 n / 256) + (b3 4 n + b3 4 n / 256) / 65536) % 64 = ct n.testBit 32 := by
  have e : b3 4 n = 256 * (256 * (256 * ct (n / 256 / 256 / 256 % 256).testBit 8 + ct (n / 256 / 256 % 256).testBit 8) + ct (n / 256 % 256).testBit 8) + ct (n % 256).testBit 8 := by
    rw [b3_s, b3_s, b3_s, b3_s]; simp [b3, mB]
  have f : ct n.testBit 32 = ct (n % 256).testBit 8 + (ct (n / 256 % 256).testBit 8 + (ct (n / 256 / 256 % 256).testBit 8 + (ct (n / 256 / 256 / 256 % 256).testBit 8 + 0))) := by
    rw [show (32 : Nat) = 8 + (8 + (8 + (8 + 0))) from rfl, ct_byte, ct_byte, ct_byte, ct_byte]; rfl
  have h0 := ct8 (n % 256); have h1 := ct8 (n / 256 % 256); have h2 := ct8 (n / 256 / 256 % 256); have h3 := ct8 (n / 256 / 256 / 256 % 256)
  rw [e, f]
  generalize ct (n % 256).testBit 8 = c0 at *; generalize ct (n / 256 % 256).testBit 8 = c1 at *; generalize ct (n / 256 / 256 % 256).testBit 8 = c2 at *; generalize ct (n / 256 / 256 / 256 % 256).testBit 8 = c3 at *
  clear e f
  rw [show (256 * (256 * (256 * c3 + c2) + c1) + c0) / 256 = (256 * (256 * c3 + c2) + c1) by omega]
  rw [show (256 * (256 * (256 * c3 + c2) + c1) + c0 + (256 * (256 * c3 + c2) + c1)) / 65536 = 256 * c3 + (c2 + c3) by omega]
  omega
theorem pc64 {n : Nat} : (((b3 8 n + b3 8 n / 256) + (b3 8 n + b3 8 n / 256) / 65536) + ((b3 8 n + b3 8 n / 256) + (b3 8 n + b3 8 n / 256) / 65536) / 4294967296) % 128 = ct n.testBit 64 := by
  have e : b3 8 n = 256 * (256 * (256 * (256 * (256 * (256 * (256 * ct (n / 256 / 256 / 256 / 256 / 256 / 256 / 256 % 256).testBit 8 + ct (n / 256 / 256 / 256 / 256 / 256 / 256 % 256).testBit 8) + ct (n / 256 / 256 / 256 / 256 / 256 % 256).testBit 8) + ct (n / 256 / 256 / 256 / 256 % 256).testBit 8) + ct (n / 256 / 256 / 256 % 256).testBit 8) + ct (n / 256 / 256 % 256).testBit 8) + ct (n / 256 % 256).testBit 8) + ct (n % 256).testBit 8 := by
    rw [b3_s, b3_s, b3_s, b3_s, b3_s, b3_s, b3_s, b3_s]; simp [b3, mB]
  have f : ct n.testBit 64 = ct (n % 256).testBit 8 + (ct (n / 256 % 256).testBit 8 + (ct (n / 256 / 256 % 256).testBit 8 + (ct (n / 256 / 256 / 256 % 256).testBit 8 + (ct (n / 256 / 256 / 256 / 256 % 256).testBit 8 + (ct (n / 256 / 256 / 256 / 256 / 256 % 256).testBit 8 + (ct (n / 256 / 256 / 256 / 256 / 256 / 256 % 256).testBit 8 + (ct (n / 256 / 256 / 256 / 256 / 256 / 256 / 256 % 256).testBit 8 + 0))))))) := by
    rw [show (64 : Nat) = 8 + (8 + (8 + (8 + (8 + (8 + (8 + (8 + 0))))))) from rfl, ct_byte, ct_byte, ct_byte, ct_byte, ct_byte, ct_byte, ct_byte, ct_byte]; rfl
  have h0 := ct8 (n % 256); have h1 := ct8 (n / 256 % 256); have h2 := ct8 (n / 256 / 256 % 256); have h3 := ct8 (n / 256 / 256 / 256 % 256); have h4 := ct8 (n / 256 / 256 / 256 / 256 % 256); have h5 := ct8 (n / 256 / 256 / 256 / 256 / 256 % 256); have h6 := ct8 (n / 256 / 256 / 256 / 256 / 256 / 256 % 256); have h7 := ct8 (n / 256 / 256 / 256 / 256 / 256 / 256 / 256 % 256)
  rw [e, f]
  generalize ct (n % 256).testBit 8 = c0 at *; generalize ct (n / 256 % 256).testBit 8 = c1 at *; generalize ct (n / 256 / 256 % 256).testBit 8 = c2 at *; generalize ct (n / 256 / 256 / 256 % 256).testBit 8 = c3 at *
  generalize ct (n / 256 / 256 / 256 / 256 % 256).testBit 8 = c4 at *; generalize ct (n / 256 / 256 / 256 / 256 / 256 % 256).testBit 8 = c5 at *; generalize ct (n / 256 / 256 / 256 / 256 / 256 / 256 % 256).testBit 8 = c6 at *; generalize ct (n / 256 / 256 / 256 / 256 / 256 / 256 / 256 % 256).testBit 8 = c7 at *
  clear e f
  rw [show (256 * (256 * (256 * (256 * (256 * (256 * (256 * c7 + c6) + c5) + c4) + c3) + c2) + c1) + c0) / 256 = (256 * (256 * (256 * (256 * (256 * (256 * c7 + c6) + c5) + c4) + c3) + c2) + c1) by omega]
  rw [show 256 * (256 * (256 * (256 * (256 * (256 * (256 * c7 + c6) + c5) + c4) + c3) + c2) + c1) + c0 + (256 * (256 * (256 * (256 * (256 * (256 * c7 + c6) + c5) + c4) + c3) + c2) + c1) = (c0 + c1) + 256 * (c1 + c2) + 65536 * (c2 + c3) + 16777216 * (c3 + c4) + 4294967296 * (c4 + c5) + 1099511627776 * (c5 + c6) + 281474976710656 * (c6 + c7) + 72057594037927936 * (c7) by omega]
  rw [show ((c0 + c1) + 256 * (c1 + c2) + 65536 * (c2 + c3) + 16777216 * (c3 + c4) + 4294967296 * (c4 + c5) + 1099511627776 * (c5 + c6) + 281474976710656 * (c6 + c7) + 72057594037927936 * (c7)) / 65536 = (c2 + c3) + 256 * (c3 + c4) + 65536 * (c4 + c5) + 16777216 * (c5 + c6) + 4294967296 * (c6 + c7) + 1099511627776 * (c7) by omega]
  rw [show (c0 + c1) + 256 * (c1 + c2) + 65536 * (c2 + c3) + 16777216 * (c3 + c4) + 4294967296 * (c4 + c5) + 1099511627776 * (c5 + c6) + 281474976710656 * (c6 + c7) + 72057594037927936 * (c7) + ((c2 + c3) + 256 * (c3 + c4) + 65536 * (c4 + c5) + 16777216 * (c5 + c6) + 4294967296 * (c6 + c7) + 1099511627776 * (c7)) = (c0 + c1 + c2 + c3) + 256 * (c1 + c2 + c3 + c4) + 65536 * (c2 + c3 + c4 + c5) + 16777216 * (c3 + c4 + c5 + c6) + 4294967296 * (c4 + c5 + c6 + c7) + 1099511627776 * (c5 + c6 + c7) + 281474976710656 * (c6 + c7) + 72057594037927936 * (c7) by omega]
  rw [show ((c0 + c1 + c2 + c3) + 256 * (c1 + c2 + c3 + c4) + 65536 * (c2 + c3 + c4 + c5) + 16777216 * (c3 + c4 + c5 + c6) + 4294967296 * (c4 + c5 + c6 + c7) + 1099511627776 * (c5 + c6 + c7) + 281474976710656 * (c6 + c7) + 72057594037927936 * (c7)) / 4294967296 = (c4 + c5 + c6 + c7) + 256 * (c5 + c6 + c7) + 65536 * (c6 + c7) + 16777216 * (c7) by omega]
  omega
/-- bounds of the steps -/
theorem b3_lt : ∀ k n, b3 k n < 256 ^ k := by
  intro k
  induction k with
  | zero => intro n; simp [b3, mB]
  | succ k ih => intro n; rw [b3_s]; have := ih (n / 256); have := ct8 (n % 256); rw [Nat.pow_succ]; omega
theorem b2_lt : ∀ k n, b2 k n < 256 ^ k := by
  intro k
  induction k with
  | zero => intro n; simp [b2, mB]
  | succ k ih => intro n; rw [b2_s]; have := ih (n / 256); have := (by2le (n % 256) (by omega)).1; rw [Nat.pow_succ]; omega
/-- the lowest bit -/
theorem low_split {n t : Nat} (h : ∀ i, i < t → n.testBit i = false) (h1 : n.testBit t = true) : ∃ q, n = 2 ^ t * (2 * q + 1) := by
  have h2 : n % 2 ^ t = 0 := Nat.eq_of_testBit_eq fun i => by
    rw [Nat.testBit_mod_two_pow, Nat.zero_testBit]
    by_cases hi : i < t
    · rw [h i hi]; simp
    · simp [hi]
  have h3 : n / 2 ^ t % 2 = 1 := by
    have := h1; rw [Nat.testBit_eq_decide_div_mod_eq] at this; exact of_decide_eq_true this
  refine ⟨n / 2 ^ t / 2, ?_⟩
  have h4 := Nat.div_add_mod n (2 ^ t)
  have h5 := Nat.div_add_mod (n / 2 ^ t) 2
  rw [h3] at h5; rw [h2] at h4
  rw [h5]; omega
theorem low_pred {n t : Nat} (h : ∀ i, i < t → n.testBit i = false) (h1 : n.testBit t = true) (i : Nat) : (n - 1).testBit i = if i < t then true else if i = t then false else n.testBit i := by
  obtain ⟨q, rfl⟩ := low_split h h1
  have hp : 0 < 2 ^ t := Nat.two_pow_pos t
  have e : 2 ^ t * (2 * q + 1) - 1 = 2 ^ t * (2 * q) + (2 ^ t - 1) := by rw [Nat.mul_add]; omega
  rw [e, Nat.testBit_two_pow_mul_add _ (by omega)]
  by_cases hi : i < t
  · rw [if_pos hi, if_pos hi, Nat.testBit_two_pow_sub_one]; simp [hi]
  · rw [if_neg hi, if_neg hi]
    have hm : (2 ^ t * (2 * q + 1)).testBit i = (2 * q + 1).testBit (i - t) := by rw [Nat.testBit_two_pow_mul]; simp [show t ≤ i by omega]
    rw [hm]
    by_cases h9 : i = t
    · rw [if_pos h9, h9, Nat.sub_self]; simp
    · rw [if_neg h9]
      obtain ⟨j, hj⟩ : ∃ j, i - t = j + 1 := ⟨i - t - 1, by omega⟩
      rw [hj, Nat.testBit_succ, Nat.testBit_succ, show 2 * q / 2 = q by omega, show (2 * q + 1) / 2 = q by omega]
theorem low_nd {n t : Nat} (h : ∀ i, i < t → n.testBit i = false) (h1 : n.testBit t = true) : nd (n - 1) n = 2 ^ t - 1 := Nat.eq_of_testBit_eq fun i => by
  rw [nd_bit, low_pred h h1, Nat.testBit_two_pow_sub_one]
  by_cases hi : i < t
  · rw [if_pos hi, h i hi]; simp [hi]
  · rw [if_neg hi]
    by_cases h9 : i = t
    · rw [if_pos h9]; simp [hi]
    · rw [if_neg h9]; simp [hi]
theorem low_and {n t : Nat} (h : ∀ i, i < t → n.testBit i = false) (h1 : n.testBit t = true) (i : Nat) : (n &&& (n - 1)).testBit i = (n.testBit i && !decide (i = t)) := by
  rw [Nat.testBit_and, low_pred h h1]
  by_cases hi : i < t
  · rw [if_pos hi, h i hi]; rfl
  · rw [if_neg hi]
    by_cases h9 : i = t
    · rw [if_pos h9]; simp [h9]
    · rw [if_neg h9]; simp [h9]
theorem ft_low {n w : Nat} (h0 : n ≠ 0) (hn : n < 2 ^ w) : ft n.testBit w < w ∧ (∀ i, i < ft n.testBit w → n.testBit i = false) ∧ n.testBit (ft n.testBit w) = true := by
  have h1 : ft n.testBit w < w := by
    rcases Nat.lt_or_ge (ft n.testBit w) w with h | h
    · exact h
    · refine absurd (Nat.eq_of_testBit_eq fun i => ?_) h0
      rw [Nat.zero_testBit]
      by_cases hi : i < w
      · exact ft_no _ w i (by omega)
      · exact Nat.testBit_lt_two_pow (Nat.lt_of_lt_of_le hn (Nat.pow_le_pow_right (by decide) (by omega)))
  exact ⟨h1, ft_no _ w, ft_yes _ w h1⟩
/-- longs by numbers -/
def nL (n : Nat) : Int64 := Int64.ofNat n

theorem ushr_nI {n j : Nat} (hn : n < 2 ^ 32) (hj : j < 32) : ((nI n).toUInt32 >>> ((nI j).toUInt32 &&& Int32.toUInt32 31)).toInt32 = nI (n / 2 ^ j) := by
  have e : ∀ j, j < 32 → ((nI j).toUInt32 &&& Int32.toUInt32 31).toNat % 32 = j := by decide
  apply Int32.toBitVec_inj.mp
  apply BitVec.eq_of_toNat_eq
  show ((nI n).toUInt32 >>> ((nI j).toUInt32 &&& Int32.toUInt32 31)).toNat = (BitVec.ofNat 32 (n / 2 ^ j)).toNat
  rw [UInt32.toNat_shiftRight, e j hj, Nat.shiftRight_eq_div_pow, BitVec.toNat_ofNat]
  show (BitVec.ofNat 32 n).toNat / 2 ^ j = _
  rw [BitVec.toNat_ofNat, Nat.mod_eq_of_lt hn, Nat.mod_eq_of_lt (Nat.lt_of_le_of_lt (Nat.div_le_self _ _) hn)]
theorem ushr_nL {n j : Nat} (hn : n < 2 ^ 64) (hj : j < 64) : ((nL n).toUInt64 >>> ((nI j).toInt64.toUInt64 &&& Int64.toUInt64 63)).toInt64 = nL (n / 2 ^ j) := by
  have e : ∀ j, j < 64 → ((nI j).toInt64.toUInt64 &&& Int64.toUInt64 63).toNat % 64 = j := by decide
  apply Int64.toBitVec_inj.mp
  apply BitVec.eq_of_toNat_eq
  show ((nL n).toUInt64 >>> ((nI j).toInt64.toUInt64 &&& Int64.toUInt64 63)).toNat = (BitVec.ofNat 64 (n / 2 ^ j)).toNat
  rw [UInt64.toNat_shiftRight, e j hj, Nat.shiftRight_eq_div_pow, BitVec.toNat_ofNat]
  show (BitVec.ofNat 64 n).toNat / 2 ^ j = _
  rw [BitVec.toNat_ofNat, Nat.mod_eq_of_lt hn, Nat.mod_eq_of_lt (Nat.lt_of_le_of_lt (Nat.div_le_self _ _) hn)]
theorem nL_and (a b : Nat) : nL a &&& nL b = nL (a &&& b) := by
  apply Int64.toBitVec_inj.mp
  apply BitVec.eq_of_toNat_eq
  show ((BitVec.ofNat 64 a) &&& (BitVec.ofNat 64 b)).toNat = (BitVec.ofNat 64 (a &&& b)).toNat
  rw [BitVec.toNat_and, BitVec.toNat_ofNat, BitVec.toNat_ofNat, BitVec.toNat_ofNat, Nat.and_mod_two_pow]
theorem nL_or (a b : Nat) : nL a ||| nL b = nL (a ||| b) := by
  apply Int64.toBitVec_inj.mp
  apply BitVec.eq_of_toNat_eq
  show ((BitVec.ofNat 64 a) ||| (BitVec.ofNat 64 b)).toNat = (BitVec.ofNat 64 (a ||| b)).toNat
  rw [BitVec.toNat_or, BitVec.toNat_ofNat, BitVec.toNat_ofNat, BitVec.toNat_ofNat, Nat.or_mod_two_pow]
theorem nL_xor (a b : Nat) : nL a ^^^ nL b = nL (a ^^^ b) := by
  apply Int64.toBitVec_inj.mp
  apply BitVec.eq_of_toNat_eq
  show ((BitVec.ofNat 64 a) ^^^ (BitVec.ofNat 64 b)).toNat = (BitVec.ofNat 64 (a ^^^ b)).toNat
  rw [BitVec.toNat_xor, BitVec.toNat_ofNat, BitVec.toNat_ofNat, BitVec.toNat_ofNat, Nat.xor_mod_two_pow]
theorem nL_add (a b : Nat) : nL a + nL b = nL (a + b) := by
  apply Int64.toBitVec_inj.mp
  show (BitVec.ofNat 64 a) + (BitVec.ofNat 64 b) = BitVec.ofNat 64 (a + b)
  rw [BitVec.ofNat_add]
theorem nL_sub {a b : Nat} (h : b ≤ a) : nL a - nL b = nL (a - b) := by
  have e := nL_add (a - b) b
  rw [Nat.sub_add_cancel h] at e
  rw [← e]; exact Int64.add_sub_cancel _ _
theorem l2i_nL (n : Nat) : (nL n).toInt32 = nI n := by
  apply Int32.toBitVec_inj.mp
  apply BitVec.eq_of_toNat_eq
  show ((BitVec.ofNat 64 n).signExtend 32).toNat = (BitVec.ofNat 32 n).toNat
  rw [BitVec.toNat_ofNat]
  have h : ((BitVec.ofNat 64 n).signExtend 32) = (BitVec.ofNat 64 n).setWidth 32 := BitVec.signExtend_eq_setWidth_of_le _ (by decide)
  rw [h, BitVec.toNat_setWidth, BitVec.toNat_ofNat]; omega
theorem nI_mod (n : Nat) : nI (n % 2 ^ 32) = nI n := by
  apply Int32.toBitVec_inj.mp
  apply BitVec.eq_of_toNat_eq
  show (BitVec.ofNat 32 (n % 2 ^ 32)).toNat = (BitVec.ofNat 32 n).toNat
  rw [BitVec.toNat_ofNat, BitVec.toNat_ofNat]; omega
theorem nL_inj {a b : Nat} (ha : a < 2 ^ 64) (hb : b < 2 ^ 64) : nL a = nL b ↔ a = b := by
  constructor
  · intro h
    have h2 := congrArg (fun z => z.toBitVec.toNat) h
    change (BitVec.ofNat 64 a).toNat = (BitVec.ofNat 64 b).toNat at h2
    rw [BitVec.toNat_ofNat, BitVec.toNat_ofNat, Nat.mod_eq_of_lt ha, Nat.mod_eq_of_lt hb] at h2
    exact h2
  · intro h; rw [h]
