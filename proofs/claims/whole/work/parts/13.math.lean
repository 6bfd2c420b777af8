/-! numbers: quotients, remainders, roots -/
theorem b2_32 : (2 : Int) ^ 32 = 4294967296 := by decide
theorem b2_64 : (2 : Int) ^ 64 = 18446744073709551616 := by decide
theorem lN_T {n : Nat} (h : n < 2 ^ 63) : (lN n).toInt = (n : Int) := pk_lT h
theorem i64T (x : Int32) : x.toInt64.toInt = x.toInt := Int32.toInt_toInt64 x
theorem i32T {x : Int64} (h1 : -2147483648 ≤ x.toInt) (h2 : x.toInt < 2147483648) : x.toInt32.toInt = x.toInt := by
  rw [Int64.toInt_toInt32]
  exact fb_bmod h1 h2
theorem eqI {x y : Int32} (h : x.toInt = y.toInt) : x = y := Int32.toInt_inj.mp h
theorem eqL {x y : Int64} (h : x.toInt = y.toInt) : x = y := Int64.toInt_inj.mp h
theorem ltI {x y : Int32} : x < y ↔ x.toInt < y.toInt := Int32.lt_iff_toInt_lt
theorem leI {x y : Int32} : x ≤ y ↔ x.toInt ≤ y.toInt := Int32.le_iff_toInt_le
theorem ltL {x y : Int64} : x < y ↔ x.toInt < y.toInt := Int64.lt_iff_toInt_lt
theorem leL {x y : Int64} : x ≤ y ↔ x.toInt ≤ y.toInt := Int64.le_iff_toInt_le
theorem xorI_neg {x y : Int32} (hy : 0 ≤ y.toInt) : x ^^^ y < 0 ↔ x.toInt < 0 := by
  rw [ltI, Int32.toInt_zero, ← Int32.toInt_toBitVec, Int32.toBitVec_xor, ← Int32.toInt_toBitVec x]
  rw [← Int32.toInt_toBitVec y] at hy
  have h1 : y.toBitVec.msb = false := by rw [BitVec.msb_eq_toInt]; exact decide_eq_false (by omega)
  have e1 : ((x.toBitVec ^^^ y.toBitVec).toInt < 0) ↔ (x.toBitVec ^^^ y.toBitVec).msb = true := by rw [BitVec.msb_eq_toInt, decide_eq_true_eq]
  have e2 : (x.toBitVec.toInt < 0) ↔ x.toBitVec.msb = true := by rw [BitVec.msb_eq_toInt, decide_eq_true_eq]
  rw [e1, e2, BitVec.msb_xor, h1, Bool.xor_false]
theorem xorL_neg {x y : Int64} : x ^^^ y < 0 ↔ ¬ (x.toInt < 0 ↔ y.toInt < 0) := by
  rw [ltL, Int64.toInt_zero, ← Int64.toInt_toBitVec, Int64.toBitVec_xor, ← Int64.toInt_toBitVec x, ← Int64.toInt_toBitVec y]
  have e1 : ((x.toBitVec ^^^ y.toBitVec).toInt < 0) ↔ (x.toBitVec ^^^ y.toBitVec).msb = true := by rw [BitVec.msb_eq_toInt, decide_eq_true_eq]
  have e2 : (x.toBitVec.toInt < 0) ↔ x.toBitVec.msb = true := by rw [BitVec.msb_eq_toInt, decide_eq_true_eq]
  have e3 : (y.toBitVec.toInt < 0) ↔ y.toBitVec.msb = true := by rw [BitVec.msb_eq_toInt, decide_eq_true_eq]
  rw [e1, e2, e3, BitVec.msb_xor]
  cases x.toBitVec.msb <;> cases y.toBitVec.msb <;> simp
theorem tdiv_rng {a b lo hi : Int} (hb : 0 < b) (h1 : lo ≤ a) (h2 : a ≤ hi) (hl : lo ≤ 0) (hh : 0 ≤ hi) : lo ≤ a.tdiv b ∧ a.tdiv b ≤ hi := by
  have e := Int.tmod_add_mul_tdiv a b
  rcases Int.le_total 0 a with h | h
  · have g1 := Int.tdiv_nonneg h (Int.le_of_lt hb)
    have g2 : a.tdiv b ≤ a := Int.tdiv_le_self b h
    omega
  · have g0 : (-a).tdiv b = -(a.tdiv b) := Int.neg_tdiv a b
    have g1 := Int.tdiv_nonneg (a := -a) (b := b) (by omega) (Int.le_of_lt hb)
    have g2 : (-a).tdiv b ≤ -a := Int.tdiv_le_self b (by omega)
    omega
theorem ne1I {y : Int32} (h : 0 < y.toInt) : y ≠ -1 := by
  intro q
  rw [q] at h
  exact absurd h (by decide)
theorem ne1L {y : Int64} (h : 0 < y.toInt) : y ≠ -1 := by
  intro q
  rw [q] at h
  exact absurd h (by decide)
theorem divI {x y : Int32} (h : 0 < y.toInt) : (x / y).toInt = x.toInt.tdiv y.toInt := Int32.toInt_div_of_ne_right x y (ne1I h)
theorem divL {x y : Int64} (h : 0 < y.toInt) : (x / y).toInt = x.toInt.tdiv y.toInt := Int64.toInt_div_of_ne_right x y (ne1L h)
theorem remI {x y : Int32} (h : 0 < y.toInt) : (x - x / y * y).toInt = x.toInt.tmod y.toInt := by
  have r := fb_rng x
  have e := Int.tmod_add_mul_tdiv x.toInt y.toInt
  have m1 := Int.lt_tmod_of_pos x.toInt h
  have m2 := Int.tmod_lt_of_pos x.toInt h
  have ry := fb_rng y
  have hm : x.toInt.tdiv y.toInt * y.toInt = x.toInt - x.toInt.tmod y.toInt := by rw [Int.mul_comm]; omega
  have sg : (0 ≤ x.toInt → 0 ≤ x.toInt.tmod y.toInt) ∧ (x.toInt ≤ 0 → x.toInt.tmod y.toInt ≤ 0) := by
    refine ⟨fun h0 => by rw [Int.tmod_eq_emod_of_nonneg h0]; exact Int.emod_nonneg _ (by omega), fun h0 => ?_⟩
    have e2 : x.toInt.tmod y.toInt = -((-x.toInt).tmod y.toInt) := by rw [Int.neg_tmod, Int.neg_neg]
    rw [e2, Int.tmod_eq_emod_of_nonneg (by omega)]
    have := Int.emod_nonneg (-x.toInt) (by omega : y.toInt ≠ 0)
    omega
  have hb : (x / y * y).toInt = x.toInt - x.toInt.tmod y.toInt := by
    rw [fb_mulI (by rw [divI h, hm]; omega) (by rw [divI h, hm]; omega), divI h, hm]
  rw [fb_subI (by rw [hb]; omega) (by rw [hb]; omega), hb]
  omega
theorem remL {x y : Int64} (h : 0 < y.toInt) : (x - x / y * y).toInt = x.toInt.tmod y.toInt := by
  have r := fb_rngL x
  have e := Int.tmod_add_mul_tdiv x.toInt y.toInt
  have m1 := Int.lt_tmod_of_pos x.toInt h
  have m2 := Int.tmod_lt_of_pos x.toInt h
  have ry := fb_rngL y
  have hm : x.toInt.tdiv y.toInt * y.toInt = x.toInt - x.toInt.tmod y.toInt := by rw [Int.mul_comm]; omega
  have sg : (0 ≤ x.toInt → 0 ≤ x.toInt.tmod y.toInt) ∧ (x.toInt ≤ 0 → x.toInt.tmod y.toInt ≤ 0) := by
    refine ⟨fun h0 => by rw [Int.tmod_eq_emod_of_nonneg h0]; exact Int.emod_nonneg _ (by omega), fun h0 => ?_⟩
    have e2 : x.toInt.tmod y.toInt = -((-x.toInt).tmod y.toInt) := by rw [Int.neg_tmod, Int.neg_neg]
    rw [e2, Int.tmod_eq_emod_of_nonneg (by omega)]
    have := Int.emod_nonneg (-x.toInt) (by omega : y.toInt ≠ 0)
    omega
  have hb : (x / y * y).toInt = x.toInt - x.toInt.tmod y.toInt := by
    rw [fb_mulL (by rw [divL h, hm]; omega) (by rw [divL h, hm]; omega), divL h, hm]
  rw [fb_subL (by rw [hb]; omega) (by rw [hb]; omega), hb]
  omega
theorem tmod_np {a b : Int} (ha : a ≤ 0) (hb : 0 < b) : a.tmod b ≤ 0 := by
  have e2 : a.tmod b = -((-a).tmod b) := by rw [Int.neg_tmod, Int.neg_neg]
  rw [e2, Int.tmod_eq_emod_of_nonneg (by omega)]
  have := Int.emod_nonneg (-a) (by omega : b ≠ 0)
  omega
/-- floor of a remainder out of the machine's -/
theorem fm_neg {a b : Int} (hb : 0 < b) (ha : a < 0) (h0 : a.tmod b ≠ 0) : a % b = a.tmod b + b := by
  have e := @Int.emod_eq_tmod a b
  rw [if_neg (by
    rintro (h | h)
    · omega
    · exact h0 (by rw [Int.tmod_eq_emod, if_pos (Or.inr h), Int.emod_eq_zero_of_dvd h]; rfl))] at e
  omega
theorem fm_pos {a b : Int} (h : 0 ≤ a ∨ a.tmod b = 0) : a % b = a.tmod b := by
  rcases h with h | h
  · exact (Int.tmod_eq_emod_of_nonneg h).symm
  · rw [h]
    exact Int.emod_eq_zero_of_dvd (Int.dvd_of_tmod_eq_zero h)
/-- the JDK's floorDiv of two longs -/
def flD (x y : Int64) : Int64 := if x ^^^ y < 0 ∧ ¬ x / y * y = x then x / y - 1 else x / y
theorem flD_pos {x y : Int64} (h : 0 < y.toInt) : (flD x y).toInt = x.toInt / y.toInt := by
  have e := Int.tmod_add_mul_tdiv x.toInt y.toInt
  have r := fb_rngL x
  have hr := remL (x := x) h
  have hq := divL (x := x) h
  have hz : x / y * y = x ↔ x.toInt.tmod y.toInt = 0 := by
    rw [← hr]
    constructor
    · intro q; rw [q, Int64.sub_self]; rfl
    · intro q
      have q2 : x - x / y * y = 0 := eqL (by rw [q]; rfl)
      have q3 := congrArg (· + x / y * y) q2
      simpa using q3.symm
  have e2 := @Int.tdiv_eq_ediv x.toInt y.toInt
  have q1 := tdiv_rng h r.1 (Int.le_of_lt r.2) (by omega) (by omega)
  unfold flD
  by_cases hc : x ^^^ y < 0 ∧ ¬ x / y * y = x
  · rw [if_pos hc]
    have n1 : x.toInt < 0 := by
      have := xorL_neg.mp hc.1
      rcases Int.lt_or_le x.toInt 0 with q | q
      · exact q
      · exact absurd ⟨fun z => by omega, fun z => by omega⟩ this
    have n2 : ¬ y.toInt ∣ x.toInt := fun d => hc.2 (hz.mpr (by rw [Int.tmod_eq_emod, if_pos (Or.inr d), Int.emod_eq_zero_of_dvd d]; rfl))
    rw [if_neg (by rintro (q | q); omega; exact n2 q), Int.sign_eq_one_of_pos h] at e2
    have em := Int.emod_add_mul_ediv x.toInt y.toInt
    have hlo : -9223372036854775808 ≤ x.toInt / y.toInt := by
      have := Int.le_ediv_of_mul_le (a := -9223372036854775808) h (show (-9223372036854775808 : Int) * y.toInt ≤ x.toInt by omega)
      exact this
    rw [fb_subL (by rw [hq, Int64.toInt_one]; omega) (by rw [hq, Int64.toInt_one]; omega), hq, Int64.toInt_one]
    omega
  · rw [if_neg hc, hq, e2]
    by_cases n1 : x.toInt < 0
    · have hs : x ^^^ y < 0 := xorL_neg.mpr (fun q => by have := q.mp n1; omega)
      have hzz : x / y * y = x := Classical.byContradiction fun q => hc ⟨hs, q⟩
      rw [if_pos (Or.inr (Int.dvd_of_tmod_eq_zero (hz.mp hzz)))]
      omega
    · rw [if_pos (Or.inl (by omega))]
      omega
/-- whole roots -/
def isq : Nat → Nat
  | 0 => 0
  | n + 1 => if (isq n + 1) * (isq n + 1) ≤ n + 1 then isq n + 1 else isq n
theorem isq_spec : ∀ n, isq n * isq n ≤ n ∧ n < (isq n + 1) * (isq n + 1)
  | 0 => ⟨Nat.le_refl _, by decide⟩
  | n + 1 => by
    obtain ⟨h1, h2⟩ := isq_spec n
    rw [isq]
    split
    · rename_i h
      refine ⟨h, ?_⟩
      have : (isq n + 1 + 1) * (isq n + 1 + 1) = (isq n + 1) * (isq n + 1) + 2 * (isq n + 1) + 1 := by
        simp only [Nat.add_mul, Nat.mul_add, Nat.mul_one, Nat.one_mul]; omega
      omega
    · rename_i h
      exact ⟨by omega, by omega⟩
theorem isq_uniq {n k : Nat} (h1 : k * k ≤ n) (h2 : n < (k + 1) * (k + 1)) : isq n = k := by
  obtain ⟨g1, g2⟩ := isq_spec n
  rcases Nat.lt_trichotomy (isq n) k with q | q | q
  · have := Nat.mul_le_mul (show isq n + 1 ≤ k by omega) (show isq n + 1 ≤ k by omega)
    omega
  · exact q
  · have := Nat.mul_le_mul (show k + 1 ≤ isq n by omega) (show k + 1 ≤ isq n by omega)
    omega
theorem isq_lt {n k : Nat} (h : n < k * k) : isq n < k := by
  obtain ⟨g1, g2⟩ := isq_spec n
  rcases Nat.lt_or_ge (isq n) k with q | q
  · exact q
  · have := Nat.mul_le_mul q q
    omega
