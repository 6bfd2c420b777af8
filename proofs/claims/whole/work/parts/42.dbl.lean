/-! doubles: no NaN comes of whole numbers -/
def dBits (n E T s : Nat) : Prop := n = (s * 2048 + E) * 4503599627370496 + T ∧ s ≤ 1 ∧ E ≤ 2047 ∧ T < 4503599627370496 ∧ (E = 2047 → T = 0)
def dWk (d : FP.Core.Datum) : Prop := (∃ s, d = .inf s) ∨ ∃ s c q, d = .fin s c q ∧ c < 9007199254740992 ∧ -1074 ≤ q ∧ q ≤ 971
theorem d_enc {d : FP.Core.Datum} (h : dWk d) : ∃ E T s, dBits (FP.Core.encode FP.Core.b64 d) E T s ∧ ∀ b c q, d = .fin b c q → E < 2047 ∧ (c ≠ 0 → E ≠ 0 ∨ T ≠ 0) := by
  rcases h with ⟨s, rfl⟩ | ⟨s, c, q, rfl, h1, h2, h3⟩
  · refine ⟨2047, 0, s.toNat, ⟨by cases s <;> rfl, by cases s <;> decide, Nat.le_refl _, by decide, fun _ => rfl⟩, fun _ _ _ h => by cases h⟩
  · have hs : s.toNat ≤ 1 := by cases s <;> decide
    by_cases hc : c < 4503599627370496
    · refine ⟨0, c, s.toNat, ⟨?_, hs, by decide, hc, by intro h; cases h⟩, fun b c2 q2 h => ?_⟩
      · show (if c < FP.Core.Fmt.tails FP.Core.b64 then FP.Core.assemble FP.Core.b64 s 0 c else FP.Core.assemble FP.Core.b64 s ((q - FP.Core.Fmt.qmin FP.Core.b64).toNat + 1) (c - FP.Core.Fmt.tails FP.Core.b64)) = _
        rw [if_pos (show c < FP.Core.Fmt.tails FP.Core.b64 from hc)]
        rfl
      · cases h
        exact ⟨by decide, Or.inr⟩
    · refine ⟨(q + 1074).toNat + 1, c - 4503599627370496, s.toNat, ⟨?_, hs, by omega, by omega, fun h => by omega⟩, fun b c2 q2 h => ?_⟩
      · show (if c < FP.Core.Fmt.tails FP.Core.b64 then FP.Core.assemble FP.Core.b64 s 0 c else FP.Core.assemble FP.Core.b64 s ((q - FP.Core.Fmt.qmin FP.Core.b64).toNat + 1) (c - FP.Core.Fmt.tails FP.Core.b64)) = _
        rw [if_neg (show ¬ c < FP.Core.Fmt.tails FP.Core.b64 from hc), show FP.Core.Fmt.qmin FP.Core.b64 = -1074 from by decide, show q - (-1074) = q + 1074 from by omega]
        rfl
      · cases h
        exact ⟨by omega, fun _ => Or.inl (by omega)⟩
theorem d_dec {n E T s : Nat} (h : dBits n E T s) : (E = 2047 → ∃ b, FP.Core.decode FP.Core.b64 n = .inf b) ∧ (E < 2047 → ∃ b c q, FP.Core.decode FP.Core.b64 n = .fin b c q ∧ ((E ≠ 0 ∨ T ≠ 0) → c ≠ 0)) := by
  obtain ⟨h1, h2, h3, h4, h5⟩ := h
  have hE : FP.Core.fieldE FP.Core.b64 n = E := by
    show n / 4503599627370496 % 2048 = E
    omega
  have hT : FP.Core.fieldT FP.Core.b64 n = T := by
    show n % 4503599627370496 = T
    omega
  refine ⟨fun g => ?_, fun g => ?_⟩
  · unfold FP.Core.decode
    rw [hE, hT, if_pos (show E = FP.Core.Fmt.exps FP.Core.b64 - 1 from g), if_pos (h5 g)]
    exact ⟨_, rfl⟩
  · unfold FP.Core.decode
    rw [hE, hT, if_neg (show ¬ E = FP.Core.Fmt.exps FP.Core.b64 - 1 from (fun q => by have : E = 2047 := q; omega))]
    by_cases h0 : E = 0
    · rw [if_pos h0]
      exact ⟨_, _, _, rfl, fun q => by omega⟩
    · rw [if_neg h0]
      exact ⟨_, _, _, rfl, fun _ => by show 4503599627370496 + T ≠ 0; omega⟩
def dGood (r : UInt64) : Prop := ∃ E T s, dBits r.toNat E T s
def dFine (r : UInt64) : Prop := ∃ b c q, FP.Core.decode FP.Core.b64 r.toNat = .fin b c q
theorem d_of {d : FP.Core.Datum} (h : dWk d) : (UInt64.ofNat (FP.Core.encode FP.Core.b64 d)).toNat = FP.Core.encode FP.Core.b64 d := by
  obtain ⟨E, T, s, ⟨h1, h2, h3, h4, -⟩, -⟩ := d_enc h
  rw [UInt64.toNat_ofNat']
  exact Nat.mod_eq_of_lt (by rw [h1]; omega)
theorem d_good {d : FP.Core.Datum} (h : dWk d) : dGood (UInt64.ofNat (FP.Core.encode FP.Core.b64 d)) := by
  obtain ⟨E, T, s, g, -⟩ := d_enc h
  exact ⟨E, T, s, by rw [d_of h]; exact g⟩
theorem d_n64 {r : UInt64} (h : dGood r) : vf_n64 r := by
  obtain ⟨E, T, s, h1, h2, h3, h4, h5⟩ := h
  unfold vf_n64
  rw [UInt64.le_iff_toNat_le, UInt64.toNat_and]
  show r.toNat &&& 9223372036854775807 ≤ 9218868437227405312
  rw [show (9223372036854775807 : Nat) = 2 ^ 63 - 1 from rfl, Nat.and_two_pow_sub_one_eq_mod]
  omega
theorem d_cases {r : UInt64} (h : dGood r) : (∃ b, FP.Core.decode FP.Core.b64 r.toNat = .inf b) ∨ dFine r := by
  obtain ⟨E, T, s, g⟩ := h
  have e := d_dec g
  rcases Nat.lt_or_ge E 2047 with q | q
  · obtain ⟨b, c, p, h1, -⟩ := e.2 q
    exact Or.inr ⟨b, c, p, h1⟩
  · exact Or.inl (e.1 (by have := g.2.2.1; omega))
theorem d_self {r : UInt64} (h : dGood r) : FP.dcmp r r = some .eq := by
  show FP.Core.order (FP.Core.decode FP.Core.b64 r.toNat) (FP.Core.decode FP.Core.b64 r.toNat) = some .eq
  rcases d_cases h with ⟨b, e⟩ | ⟨b, c, q, e⟩
  · rw [e]
    cases b <;> decide
  · rw [e]
    show some (compare _ _) = some .eq
    simp [compare, compareOfLessAndEq]
theorem d_settle (s : Bool) (c : Nat) {q : Int} (h : -1074 ≤ q) : dWk (FP.Core.settle FP.Core.b64 s c q) := by
  unfold FP.Core.settle FP.Core.bound
  split
  · rename_i h1
    split
    · rename_i h2
      exact Or.inr ⟨_, _, _, rfl, h1, h, h2⟩
    · exact Or.inl ⟨_, rfl⟩
  · split
    · rename_i h2
      exact Or.inr ⟨_, _, _, rfl, by decide, by omega, h2⟩
    · exact Or.inl ⟨_, rfl⟩
theorem d_quant (num den : Nat) (e : Int) : -1074 ≤ FP.Core.quantum FP.Core.b64 num den e := Int.le_trans (by decide : (-1074 : Int) ≤ FP.Core.Fmt.qmin FP.Core.b64) (Int.le_max_left _ _)
theorem d_rr (s : Bool) (num den : Nat) (e : Int) : dWk (FP.Core.roundRatio FP.Core.b64 s num den e) := by
  unfold FP.Core.roundRatio
  split
  · exact Or.inr ⟨_, _, _, rfl, by decide, by decide, by decide⟩
  · exact d_settle _ _ (d_quant _ _ _)
theorem d_near (n : Nat) : FP.Core.nearest n 1 = n := by
  unfold FP.Core.nearest
  rw [if_pos (by omega), Nat.div_one]
theorem d_nat (s : Bool) {n : Nat} (hn : n < 9007199254740992) : ∃ c q, FP.Core.roundRatio FP.Core.b64 s n 1 0 = .fin s c q ∧ c < 9007199254740992 ∧ -1074 ≤ q ∧ q ≤ 971 ∧ (n ≠ 0 → c ≠ 0) := by
  unfold FP.Core.roundRatio
  by_cases h0 : n = 0
  · rw [if_pos h0]
    exact ⟨0, _, rfl, by decide, by decide, by decide, fun h => absurd h0 h⟩
  · rw [if_neg h0]
    have hQ1 := d_quant n 1 0
    have hlog : n.log2 < 53 := (Nat.log2_lt h0).mpr hn
    have hlead : FP.Core.leading n 1 ≤ 52 := by
      unfold FP.Core.leading
      dsimp only
      have h1 : (Nat.log2 1 : Int) = 0 := by decide
      split <;> omega
    have hQ2 : FP.Core.quantum FP.Core.b64 n 1 0 ≤ 0 := by
      unfold FP.Core.quantum
      refine Int.max_le.mpr ⟨by decide, ?_⟩
      show FP.Core.leading n 1 + 0 - (53 - 1) ≤ 0
      omega
    generalize FP.Core.quantum FP.Core.b64 n 1 0 = Q at hQ1 hQ2
    unfold FP.Core.roundAt
    have hd : FP.Core.unitsDen 1 0 Q = 1 := by
      unfold FP.Core.unitsDen
      rw [show (Q - 0).toNat = 0 by omega]
    rw [hd, d_near]
    have hm : FP.Core.unitsNum n 0 Q ≠ 0 := by
      unfold FP.Core.unitsNum
      have := Nat.mul_pos (Nat.pos_of_ne_zero h0) (Nat.pow_pos (n := (0 - Q).toNat) (show 0 < 2 by decide))
      omega
    generalize FP.Core.unitsNum n 0 Q = M at hm
    unfold FP.Core.settle FP.Core.bound
    by_cases h1 : M < 9007199254740992
    · rw [if_pos (show M < 2 ^ FP.Core.b64.p from h1), if_pos (show Q ≤ FP.Core.Fmt.qmax FP.Core.b64 from Int.le_trans hQ2 (by decide))]
      exact ⟨M, Q, rfl, h1, hQ1, by omega, fun _ => hm⟩
    · rw [if_neg (show ¬ M < 2 ^ FP.Core.b64.p from h1), if_pos (show Q + 1 ≤ FP.Core.Fmt.qmax FP.Core.b64 from Int.le_trans (show Q + 1 ≤ 1 by omega) (by decide))]
      exact ⟨_, _, rfl, by decide, by omega, by omega, fun _ => by decide⟩
theorem d_int {z : Int} (h : z.natAbs < 9007199254740992) : ∃ b c q, FP.Core.decode FP.Core.b64 (UInt64.ofNat (FP.Core.fromInt FP.Core.b64 z)).toNat = .fin b c q ∧ (z ≠ 0 → c ≠ 0) := by
  obtain ⟨c, q, e, h1, h2, h3, h4⟩ := d_nat (decide (z < 0)) h
  have hw : dWk (FP.Core.roundRatio FP.Core.b64 (decide (z < 0)) z.natAbs 1 0) := Or.inr ⟨_, c, q, e, h1, h2, h3⟩
  have e2 : FP.Core.fromInt FP.Core.b64 z = FP.Core.encode FP.Core.b64 (FP.Core.roundRatio FP.Core.b64 (decide (z < 0)) z.natAbs 1 0) := rfl
  rw [e2, d_of hw]
  obtain ⟨E, T, s, g1, g2⟩ := d_enc hw
  have g3 := g2 _ c q e
  obtain ⟨b', c', q', g4, g5⟩ := (d_dec g1).2 g3.1
  exact ⟨b', c', q', g4, fun hz => g5 (g3.2 (h4 (by omega)))⟩
theorem d_div {x y : UInt64} (hx : dFine x) (hy : ∃ b c q, FP.Core.decode FP.Core.b64 y.toNat = .fin b c q ∧ c ≠ 0) : dGood (FP.ddiv x y) := by
  obtain ⟨b, c, q, e⟩ := hx
  obtain ⟨b2, c2, q2, e2, h2⟩ := hy
  show dGood (UInt64.ofNat (FP.Core.encode FP.Core.b64 (FP.Core.quotient FP.Core.b64 (FP.Core.decode FP.Core.b64 x.toNat) (FP.Core.decode FP.Core.b64 y.toNat))))
  rw [e, e2]
  refine d_good ?_
  show dWk (if c2 = 0 then _ else FP.Core.roundRatio FP.Core.b64 (b != b2) c c2 (q - q2))
  rw [if_neg h2]
  exact d_rr _ _ _ _
theorem d_round {d : FP.Core.Datum} (h : d ≠ .nan) : dWk (FP.Core.round FP.Core.b64 d) := by
  cases d with
  | nan => exact absurd rfl h
  | inf s => exact Or.inl ⟨s, rfl⟩
  | fin s c q => exact d_rr _ _ _ _
theorem d_sub1 {x : UInt64} (hx : dGood x) : dGood (FP.dsub x FP.dconst1) := by
  show dGood (UInt64.ofNat (FP.Core.encode FP.Core.b64 (FP.Core.round FP.Core.b64 (FP.Core.exactSum (FP.Core.decode FP.Core.b64 x.toNat) (FP.Core.negate (FP.Core.decode FP.Core.b64 (FP.dconst1).toNat))))))
  rw [show FP.Core.decode FP.Core.b64 (FP.dconst1).toNat = .fin false 4503599627370496 (-52) from by decide +kernel]
  refine d_good (d_round ?_)
  rcases d_cases hx with ⟨b, e⟩ | ⟨b, c, q, e⟩
  · rw [e]
    exact fun h => by cases h
  · rw [e]
    exact fun h => by cases h
theorem d_mulM {x : UInt64} (hx : dGood x) : dGood (FP.dmul x 4696837146684686336) := by
  show dGood (UInt64.ofNat (FP.Core.encode FP.Core.b64 (FP.Core.round FP.Core.b64 (FP.Core.exactProduct (FP.Core.decode FP.Core.b64 x.toNat) (FP.Core.decode FP.Core.b64 (4696837146684686336 : UInt64).toNat)))))
  rw [show FP.Core.decode FP.Core.b64 (4696837146684686336 : UInt64).toNat = .fin false 8589934592000000 (-33) from by decide +kernel]
  refine d_good (d_round ?_)
  rcases d_cases hx with ⟨b, e⟩ | ⟨b, c, q, e⟩
  · rw [e]
    exact fun h => by cases h
  · rw [e]
    exact fun h => by cases h
theorem d_i2d (v : Int32) : dFine (FP.i2d v) := by
  obtain ⟨b, c, q, e, -⟩ := d_int (z := v.toInt) (by have := v.toInt_lt; have := v.le_toInt; omega)
  exact ⟨b, c, q, e⟩
theorem d_i2d0 {v : Int32} (h : v ≠ 0) : ∃ b c q, FP.Core.decode FP.Core.b64 (FP.i2d v).toNat = .fin b c q ∧ c ≠ 0 := by
  obtain ⟨b, c, q, e, g⟩ := d_int (z := v.toInt) (by have := v.toInt_lt; have := v.le_toInt; omega)
  exact ⟨b, c, q, e, g (fun q => h (eqI (q.trans Int32.toInt_zero.symm)))⟩
theorem d_l2d {v : Int64} (h : v.toInt.natAbs < 9007199254740992) : dFine (FP.l2d v) := by
  obtain ⟨b, c, q, e, -⟩ := d_int (z := v.toInt) h
  exact ⟨b, c, q, e⟩
theorem d_l2d0 {v : Int64} (h : v.toInt.natAbs < 9007199254740992) (h0 : v.toInt ≠ 0) : ∃ b c q, FP.Core.decode FP.Core.b64 (FP.l2d v).toNat = .fin b c q ∧ c ≠ 0 := by
  obtain ⟨b, c, q, e, g⟩ := d_int (z := v.toInt) h
  exact ⟨b, c, q, e, g h0⟩
theorem d_same {v : Int32} {w : Int64} (h : v.toInt = w.toInt) : FP.i2d v = FP.l2d w := by
  show UInt64.ofNat (FP.Core.fromInt FP.Core.b64 v.toInt) = UInt64.ofNat (FP.Core.fromInt FP.Core.b64 w.toInt)
  rw [h]
theorem divG {x y : Int64} (hx : -4611686018427387904 ≤ x.toInt ∧ x.toInt ≤ 4611686018427387904) : (x / y).toInt = x.toInt.tdiv y.toInt := by
  refine Int64.toInt_div_of_ne_left x y (fun h => ?_)
  rw [h] at hx
  exact absurd hx (by decide)
theorem tdiv_mag (a b : Int) : (a.tdiv b).natAbs ≤ a.natAbs := by
  rw [Int.natAbs_tdiv]
  exact Nat.div_le_self _ _
theorem tdm (a b : Int) : (a.tdiv b * b).natAbs ≤ a.natAbs := by
  rw [Int.natAbs_mul, Int.natAbs_tdiv]
  exact Nat.div_mul_le_self _ _
theorem fdv (a b : Int) (hb : b ≠ 0) : a.fdiv b = if b ∣ a ∨ (a < 0 ↔ b < 0) then a.tdiv b else a.tdiv b - 1 := by
  rw [Int.fdiv_eq_tdiv]
  by_cases h : b ∣ a
  · rw [if_pos h, if_pos (Or.inl h)]; omega
  · rw [if_neg h]
    have h0 : a ≠ 0 := fun q => h (q ▸ Int.dvd_zero b)
    by_cases h1 : 0 ≤ a
    · rw [if_pos h1]
      by_cases h2 : 0 ≤ b
      · rw [if_pos h2, if_pos (Or.inr (by omega))]; omega
      · rw [if_neg h2, if_neg (by rintro (q | q); exact h q; omega)]
    · rw [if_neg h1]
      by_cases h2 : 0 ≤ b
      · rw [if_pos h2, Int.sign_eq_one_of_pos (by omega), if_neg (by rintro (q | q); exact h q; omega)]
      · rw [if_neg h2, Int.sign_eq_neg_one_of_neg (by omega), if_pos (Or.inr (by omega))]; omega
theorem flD_gen {x y : Int64} (hx : -4611686018427387904 ≤ x.toInt ∧ x.toInt ≤ 4611686018427387904) (hy : y.toInt ≠ 0) : (flD x y).toInt = x.toInt.fdiv y.toInt := by
  have hq := divG (y := y) hx
  have m1 := tdiv_mag x.toInt y.toInt
  have m2 := tdm x.toInt y.toInt
  have hm : (x / y * y).toInt = x.toInt.tdiv y.toInt * y.toInt := by
    rw [fb_mulL (by rw [hq]; omega) (by rw [hq]; omega), hq]
  have hz : x / y * y = x ↔ y.toInt ∣ x.toInt := by
    constructor
    · intro q
      have := congrArg Int64.toInt q
      rw [hm] at this
      exact ⟨_, by rw [Int.mul_comm]; exact this.symm⟩
    · rintro ⟨k, hk⟩
      refine eqL ?_
      rw [hm, hk, Int.mul_tdiv_cancel_left _ hy, Int.mul_comm]
  have hxor : (x ^^^ y < 0) ↔ ¬ (x.toInt < 0 ↔ y.toInt < 0) := xorL_neg
  rw [fdv _ _ hy]
  unfold flD
  by_cases hc : x ^^^ y < 0 ∧ ¬ x / y * y = x
  · rw [if_pos hc, if_neg (by rintro (q | q); exact hc.2 (hz.mpr q); exact hxor.mp hc.1 q)]
    rw [fb_subL (by rw [hq]; have : (1 : Int64).toInt = 1 := by decide
                    omega) (by rw [hq]; have : (1 : Int64).toInt = 1 := by decide
                               omega), hq]
    rfl
  · rw [if_neg hc, if_pos, hq]
    rcases Classical.em (x / y * y = x) with q | q
    · exact Or.inl (hz.mp q)
    · exact Or.inr (Classical.byContradiction fun g => hc ⟨hxor.mpr g, q⟩)
