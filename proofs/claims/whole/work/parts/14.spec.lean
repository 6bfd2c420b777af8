/-! what is computed, in whole numbers, out of the class's own rows: fn the nodes', fr the records', fp the plans' -/
def nd (fn : Nat → Int32) (i c : Nat) : Int := (fn (i * 6 + c)).toInt
def rd (fr : Nat → Int32) (e c : Nat) : Int := (fr (e * 8 + c)).toInt
def dsq (fn : Nat → Int32) (i j : Nat) : Int := (nd fn i 0 - nd fn j 0) * (nd fn i 0 - nd fn j 0) + (nd fn i 1 - nd fn j 1) * (nd fn i 1 - nd fn j 1)
def dst (fn : Nat → Int32) (i j : Nat) : Nat := isq (dsq fn i j).toNat
def nOk (fn : Nat → Int32) (i : Nat) : Prop := (-1000 ≤ nd fn i 0 ∧ nd fn i 0 ≤ 1000) ∧ (-1000 ≤ nd fn i 1 ∧ nd fn i 1 ≤ 1000) ∧ (-100 ≤ nd fn i 2 ∧ nd fn i 2 ≤ 100) ∧ (0 ≤ nd fn i 3 ∧ nd fn i 3 ≤ 1048575) ∧ (0 ≤ nd fn i 4 ∧ nd fn i 4 ≤ 200) ∧ (-1000000 ≤ nd fn i 5 ∧ nd fn i 5 ≤ 1000000)
def ini (fr : Nat → Int32) (e : Nat) : Nat := (rd fr e 0).toNat
def rsp (fr : Nat → Int32) (e : Nat) : Nat := (rd fr e 1).toNat
def rOk (kn : Nat) (fr : Nat → Int32) (e : Nat) : Prop := (fr (e * 8 + 0) = nI (ini fr e) ∧ ini fr e < kn) ∧ (fr (e * 8 + 1) = nI (rsp fr e) ∧ rsp fr e < kn) ∧ ∀ c, 2 ≤ c → c < 8 → 0 ≤ rd fr e c ∧ rd fr e c < 1048576
def ctr (fn : Nat → Int32) (i : Nat) (T : Int) : Int := (T * (1000000 + nd fn i 2) / 1000000 + nd fn i 3) % 1048576
def elp (fr : Nat → Int32) (e a b : Nat) : Int := (rd fr e b - rd fr e a) % 1048576
def raw (fr : Nat → Int32) (e m : Nat) : Int :=
  if m = 0 then (elp fr e 2 5 - elp fr e 3 4) / 2
  else if m = 1 then (elp fr e 2 5 - elp fr e 3 4 + elp fr e 4 7 - elp fr e 5 6) / 4
  else if elp fr e 2 5 + elp fr e 4 7 + elp fr e 5 6 + elp fr e 3 4 = 0 then 0
  else (elp fr e 2 5 * elp fr e 4 7 - elp fr e 5 6 * elp fr e 3 4) / (elp fr e 2 5 + elp fr e 4 7 + elp fr e 5 6 + elp fr e 3 4)
def rng (fn fr : Nat → Int32) (e m : Nat) : Int := raw fr e m - nd fn (ini fr e) 5 - nd fn (rsp fr e) 5
def len (fn fr : Nat → Int32) (e : Nat) : Nat := dst fn (ini fr e) (rsp fr e)
def err (fn fr : Nat → Int32) (e m : Nat) : Int := rng fn fr e m - len fn fr e
def exs (fn fr : Nat → Int32) (e : Nat) : Int := raw fr e 2 - len fn fr e
theorem sq_le {x n : Int} (h1 : -n ≤ x) (h2 : x ≤ n) : 0 ≤ x * x ∧ x * x ≤ n * n := by
  rcases Int.le_total 0 x with h | h
  · exact ⟨Int.mul_nonneg h h, Int.mul_le_mul h2 h2 h (by omega)⟩
  · have e : x * x = (-x) * (-x) := by rw [Int.neg_mul_neg]
    rw [e]
    exact ⟨Int.mul_nonneg (by omega) (by omega), Int.mul_le_mul (by omega) (by omega) (by omega) (by omega)⟩
theorem dsq_rng {fn : Nat → Int32} {i j : Nat} (hi : nOk fn i) (hj : nOk fn j) : 0 ≤ dsq fn i j ∧ dsq fn i j ≤ 8000000 := by
  have a := sq_le (x := nd fn i 0 - nd fn j 0) (n := 2000) (by have := hi.1; have := hj.1; omega) (by have := hi.1; have := hj.1; omega)
  have b := sq_le (x := nd fn i 1 - nd fn j 1) (n := 2000) (by have := hi.2.1; have := hj.2.1; omega) (by have := hi.2.1; have := hj.2.1; omega)
  unfold dsq
  omega
theorem dst_lt {fn : Nat → Int32} {i j : Nat} (hi : nOk fn i) (hj : nOk fn j) : dst fn i j < 2829 := by
  have := dsq_rng hi hj
  exact isq_lt (by omega)
theorem elp_rng (fr : Nat → Int32) (e a b : Nat) : 0 ≤ elp fr e a b ∧ elp fr e a b < 1048576 := ⟨Int.emod_nonneg _ (by decide), Int.emod_lt_of_pos _ (by decide)⟩
theorem mul_rng {a b : Int} (ha : 0 ≤ a) (hb : 0 ≤ b) (h1 : a < 1048576) (h2 : b < 1048576) : 0 ≤ a * b ∧ a * b < 1099511627776 := by
  refine ⟨Int.mul_nonneg ha hb, ?_⟩
  have := Int.mul_le_mul (show a ≤ 1048575 by omega) (show b ≤ 1048575 by omega) hb (by decide)
  omega
/-- a quotient of ranges -/
theorem quo_rng {a b c d : Int} (ha : 0 ≤ a) (hb : 0 ≤ b) (hc : 0 ≤ c) (hd : 0 ≤ d) (h1 : a < 1048576) (h2 : b < 1048576) (h3 : c < 1048576) (h4 : d < 1048576) (h0 : ¬ a + b + c + d = 0) : -1048576 ≤ (a * b - c * d) / (a + b + c + d) ∧ (a * b - c * d) / (a + b + c + d) ≤ 1048576 := by
  have hp : 0 < a + b + c + d := by omega
  have e1 : a * b ≤ 1048576 * b := Int.mul_le_mul_of_nonneg_right (by omega) hb
  have e2 : c * d ≤ 1048576 * d := Int.mul_le_mul_of_nonneg_right (by omega) hd
  have e3 := Int.mul_nonneg ha hb
  have e4 := Int.mul_nonneg hc hd
  refine ⟨Int.le_ediv_of_mul_le hp (by omega), ?_⟩
  have := Int.ediv_lt_of_lt_mul (a := a * b - c * d) (b := 1048577) hp (by omega)
  omega
theorem raw_rng (fr : Nat → Int32) (e m : Nat) : -1048576 ≤ raw fr e m ∧ raw fr e m ≤ 1048576 := by
  have a := elp_rng fr e 2 5
  have b := elp_rng fr e 3 4
  have c := elp_rng fr e 4 7
  have d := elp_rng fr e 5 6
  unfold raw
  split
  · omega
  · split
    · omega
    · split
      · omega
      · rename_i h
        have q := quo_rng (a := elp fr e 2 5) (b := elp fr e 4 7) (c := elp fr e 5 6) (d := elp fr e 3 4) a.1 c.1 d.1 b.1 a.2 c.2 d.2 b.2 h
        exact q
theorem rng_rng {kn : Nat} {fn fr : Nat → Int32} {e : Nat} (m : Nat) (hn : ∀ i, i < kn → nOk fn i) (hr : rOk kn fr e) : -3048576 ≤ rng fn fr e m ∧ rng fn fr e m ≤ 3048576 := by
  have a := raw_rng fr e m
  have b := (hn _ hr.1.2).2.2.2.2.2
  have c := (hn _ hr.2.1.2).2.2.2.2.2
  unfold rng
  omega
theorem len_lt {kn : Nat} {fn fr : Nat → Int32} {e : Nat} (hn : ∀ i, i < kn → nOk fn i) (hr : rOk kn fr e) : len fn fr e < 2829 := dst_lt (hn _ hr.1.2) (hn _ hr.2.1.2)
/-- the latest record between two nodes, of the first n -/
def btw (fr : Nat → Int32) (a b e : Nat) : Prop := (ini fr e = a ∧ rsp fr e = b) ∨ (ini fr e = b ∧ rsp fr e = a)
def isLat (fr : Nat → Int32) (a b n e : Nat) : Prop := e < n ∧ btw fr a b e ∧ ∀ j, e < j → j < n → ¬ btw fr a b j
def noLat (fr : Nat → Int32) (a b n : Nat) : Prop := ∀ j, j < n → ¬ btw fr a b j
theorem btw_swap {fr : Nat → Int32} {a b e : Nat} : btw fr a b e ↔ btw fr b a e := ⟨Or.symm, Or.symm⟩
theorem lat_one {fr : Nat → Int32} {a b n e f : Nat} (h1 : isLat fr a b n e) (h2 : isLat fr a b n f) : e = f := by
  rcases Nat.lt_trichotomy e f with q | q | q
  · exact absurd h2.2.1 (h1.2.2 f q h2.1)
  · exact q
  · exact absurd h1.2.1 (h2.2.2 e q h1.1)
