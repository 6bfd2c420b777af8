/-! what a state keeps, and what a run of the plans does to it -/
def SI (x : SD) : Prop := x.2.1.1 ≤ 6 ∧ x.2.2.1.1 ≤ 40 ∧ x.2.2.2.1 ≤ 20 ∧ (0 ≤ x.1.toInt ∧ x.1.toInt ≤ 900000000 + 1000000 * (x.2.2.1.1 : Int)) ∧ (∀ i, i < x.2.1.1 → nOk x.2.1.2 i) ∧ (∀ e, e < x.2.2.1.1 → rOk x.2.1.1 x.2.2.1.2 e) ∧ (∀ k, k < x.2.2.2.1 → pOk x.2.1.1 x.2.2.2.2 k) ∧ ∀ k, k + 1 < x.2.2.2.1 → pn x.2.2.2.2 k 0 ≤ pn x.2.2.2.2 (k + 1) 0
def canStep (E : Nat) (x : SD) : Prop := 0 < x.2.2.2.1 ∧ pn x.2.2.2.2 0 0 ≤ E
def fst1 (x : SD) : Int := max x.1.toInt (pn x.2.2.2.2 0 0)
def wy1 (x : SD) : Int := way x.2.1.2 (pn x.2.2.2.2 0 1) (pn x.2.2.2.2 0 2)
def stepR (x y : SD) : Prop := y.2.1 = x.2.1 ∧ x.2.2.2.1 = y.2.2.2.1 + 1 ∧ (∀ q, q < y.2.2.2.1 * 5 → y.2.2.2.2 q = x.2.2.2.2 (q + 5)) ∧
  ((x.2.2.1.1 < 40 ∧ y.2.2.1.1 = x.2.2.1.1 + 1 ∧ y.1.toInt = fst1 x + wy1 x + pn x.2.2.2.2 0 3 + wy1 x + pn x.2.2.2.2 0 4 + wy1 x ∧ cSpec x.2.1.2 x.2.2.1.2 y.2.2.1.2 x.2.2.1.1 (pn x.2.2.2.2 0 1) (pn x.2.2.2.2 0 2) (pn x.2.2.2.2 0 3) (pn x.2.2.2.2 0 4) (fst1 x) (wy1 x)) ∨ (¬ x.2.2.1.1 < 40 ∧ y.2.2.1 = x.2.2.1 ∧ y.1 = x.1))
def runR (E : Nat) : Nat → SD → SD → Prop
  | 0, x, y => y = x
  | n + 1, x, y => ∃ z, canStep E x ∧ stepR x z ∧ runR E n z y
theorem runR_snoc {E : Nat} : ∀ {n : Nat} {x y z : SD}, runR E n x y → canStep E y → stepR y z → runR E (n + 1) x z
  | 0, x, y, z, h, hc, hs => by
    have h : y = x := h
    subst h
    exact ⟨z, hc, hs, rfl⟩
  | n + 1, x, y, z, h, hc, hs => by
    obtain ⟨w, h1, h2, h3⟩ := h
    exact ⟨w, h1, h2, runR_snoc h3 hc hs⟩
theorem rOk_congr {kn : Nat} {fr fr2 : Nat → Int32} {e : Nat} (h : ∀ c, c < 8 → fr2 (e * 8 + c) = fr (e * 8 + c)) (hr : rOk kn fr e) : rOk kn fr2 e := by
  have h1 : ∀ c, c < 8 → rd fr2 e c = rd fr e c := fun c hc => by unfold rd; rw [h c hc]
  have i1 : ini fr2 e = ini fr e := by unfold ini; rw [h1 0 (by decide)]
  have i2 : rsp fr2 e = rsp fr e := by unfold rsp; rw [h1 1 (by decide)]
  refine ⟨?_, ?_, fun c h2 h8 => ?_⟩
  · rw [i1, h 0 (by decide)]; exact hr.1
  · rw [i2, h 1 (by decide)]; exact hr.2.1
  · rw [h1 c h8]; exact hr.2.2 c h2 h8
theorem pOk_congr {kn : Nat} {fp fp2 : Nat → Int32} {k j : Nat} (h : ∀ c, c < 5 → fp2 (k * 5 + c) = fp (j * 5 + c)) (hp : pOk kn fp j) : pOk kn fp2 k ∧ ∀ c, c < 5 → pn fp2 k c = pn fp j c := by
  have h1 : ∀ c, c < 5 → pn fp2 k c = pn fp j c := fun c hc => by unfold pn; rw [h c hc]
  refine ⟨⟨fun c hc => by rw [h c hc, h1 c hc]; exact hp.1 c hc, ?_⟩, h1⟩
  rw [h1 0 (by decide), h1 1 (by decide), h1 2 (by decide), h1 3 (by decide), h1 4 (by decide)]
  exact hp.2
theorem ctr_rng (fn : Nat → Int32) (i : Nat) (T : Int) : 0 ≤ ctr fn i T ∧ ctr fn i T < 1048576 := ⟨Int.emod_nonneg _ (by decide), Int.emod_lt_of_pos _ (by decide)⟩
theorem cSpec_ok {kn : Nat} {fn fr fr2 : Nat → Int32} {kr i j r1 r2 : Nat} {T w : Int} (hk : kn ≤ 6) (hi : i < kn) (hj : j < kn) (h : cSpec fn fr fr2 kr i j r1 r2 T w) (hr : ∀ e, e < kr → rOk kn fr e) : ∀ e, e < kr + 1 → rOk kn fr2 e := by
  intro e he
  obtain ⟨h0, h1, h2, h3, h4, h5, h6, h7, h8⟩ := h
  rcases Nat.lt_or_ge e kr with g | g
  · exact rOk_congr (fun c hc => h0 _ (by omega)) (hr e g)
  · have : e = kr := by omega
    subst this
    have r0 : rd fr2 e 0 = (i : Int) := by unfold rd; rw [h1, nI_toInt (by omega)]
    have r1 : rd fr2 e 1 = (j : Int) := by unfold rd; rw [h2, nI_toInt (by omega)]
    have i1 : ini fr2 e = i := by unfold ini; rw [r0]; rfl
    have i2 : rsp fr2 e = j := by unfold rsp; rw [r1]; rfl
    refine ⟨⟨by rw [i1]; exact h1, by rw [i1]; exact hi⟩, ⟨by rw [i2]; exact h2, by rw [i2]; exact hj⟩, fun c c2 c8 => ?_⟩
    rcases (show c = 2 ∨ c = 3 ∨ c = 4 ∨ c = 5 ∨ c = 6 ∨ c = 7 by omega) with rfl | rfl | rfl | rfl | rfl | rfl
    · rw [h3]; exact ctr_rng _ _ _
    · rw [h4]; exact ctr_rng _ _ _
    · rw [h5]; exact ctr_rng _ _ _
    · rw [h6]; exact ctr_rng _ _ _
    · rw [h7]; exact ctr_rng _ _ _
    · rw [h8]; exact ctr_rng _ _ _
theorem stepR_SI {x y : SD} {E : Nat} (hx : SI x) (hc : canStep E x) (h : stepR x y) : SI y := by
  obtain ⟨t, ⟨kn, fn⟩, ⟨kr, fr⟩, ⟨kp, fp⟩⟩ := x
  obtain ⟨t2, ⟨kn2, fn2⟩, ⟨kr2, fr2⟩, ⟨kp2, fp2⟩⟩ := y
  obtain ⟨a1, a2, a3, a4, a5, a6, a7, a8⟩ := hx
  obtain ⟨b1, b2, b3, b4⟩ := h
  dsimp only at a1 a2 a3 a4 a5 a6 a7 a8 b1 b2 b3 b4
  cases b1
  subst b2
  have hp0 := a7 0 (by omega)
  have sh : ∀ k, k < kp2 → ∀ c, c < 5 → fp2 (k * 5 + c) = fp ((k + 1) * 5 + c) := fun k hk c hc5 => by
    rw [b3 _ (by omega)]
    congr 1
    omega
  have hw := way_rng (a5 _ hp0.2.2.1) (a5 _ hp0.2.2.2.1)
  have pp := hp0.2
  refine ⟨a1, ?_, ?_, ?_, a5, ?_, fun k hk => (pOk_congr (sh k hk) (a7 (k + 1) (by dsimp only at hk; omega))).1, fun k hk => ?_⟩
  · rcases b4 with ⟨q1, q2, -⟩ | ⟨-, q2, -⟩
    · dsimp only at q2 ⊢; omega
    · cases q2; exact a2
  · dsimp only; omega
  · rcases b4 with ⟨q1, q2, q3, -⟩ | ⟨-, q2, q3⟩
    · dsimp only [fst1, wy1] at q2 q3 ⊢
      subst q2
      omega
    · cases q2
      dsimp only at q3 ⊢
      subst q3
      exact a4
  · rcases b4 with ⟨q1, q2, -, q4⟩ | ⟨-, q2, -⟩
    · dsimp only at q2 q4 ⊢
      subst q2
      exact cSpec_ok a1 hp0.2.2.1 hp0.2.2.2.1 q4 a6
    · cases q2
      exact a6
  · dsimp only at hk ⊢
    have e1 := (pOk_congr (sh k (by omega)) (a7 (k + 1) (by omega))).2 0 (by decide)
    have e2 := (pOk_congr (sh (k + 1) hk) (a7 (k + 2) (by omega))).2 0 (by decide)
    rw [e1, e2]
    exact a8 (k + 1) (by omega)
