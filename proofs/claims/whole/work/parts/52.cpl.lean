/-! the coupling of the class's state and the reference's array -/
theorem ahd_irr (al : Nat → Int64) (k : Nat) : ¬ ahd al k k := by
  rintro (h | ⟨-, h⟩)
  · have := ltL.mp h
    omega
  · omega
theorem ahd_tr {al : Nat → Int64} {i j k : Nat} (h : ahd al i j) (g : ahd al j k) : ahd al i k := by
  unfold ahd at *
  rcases h with h | ⟨h1, h2⟩
  · rcases g with g | ⟨g1, g2⟩
    · exact Or.inl (ltL.mpr (by have := ltL.mp h; have := ltL.mp g; omega))
    · exact Or.inl (g1 ▸ h)
  · rcases g with g | ⟨g1, g2⟩
    · exact Or.inl (h1 ▸ g)
    · exact Or.inr ⟨h1.trans g1, by omega⟩
theorem ahd_tot (al : Nat → Int64) {j k : Nat} (h : j ≠ k) : ahd al j k ∨ ahd al k j := by
  unfold ahd
  rcases Int.lt_trichotomy (al (360 + 5 * j)).toInt (al (360 + 5 * k)).toInt with q | q | q
  · exact Or.inl (Or.inl (ltL.mpr q))
  · have e := eqL q
    rcases Nat.lt_or_gt_of_ne h with w | w
    · exact Or.inl (Or.inr ⟨e, w⟩)
    · exact Or.inr (Or.inr ⟨e.symm, w⟩)
  · exact Or.inr (Or.inl (ltL.mpr q))
theorem rnk_mono {al : Nat → Int64} {n j k : Nat} (hj : j < n) (h : ahd al j k) : rnk al n j < rnk al n k := by
  unfold rnk
  have a : fb_ct (ahb al j) n ≤ fb_ct (fun q => if q = j then false else ahb al k q) n := fb_ct_sub (fun q hq g => by
    have g1 : ahd al q j := Classical.byContradiction fun w => by rw [ahb_f w] at g; cases g
    have g2 : q ≠ j := fun w => ahd_irr al j (w ▸ g1)
    show (if q = j then false else ahb al k q) = true
    rw [if_neg g2]
    exact ahb_t (ahd_tr g1 h))
  have b := fb_ct_upd (ahb al k) false hj
  rw [ahb_t h, show (if (true = true) then 1 else 0 : Nat) = 1 from rfl, show (if (false = true) then 1 else 0 : Nat) = 0 from rfl] at b
  omega
theorem rnk_lt {al : Nat → Int64} {n k : Nat} (hk : k < n) : rnk al n k < n := by
  unfold rnk
  have b := fb_ct_upd (ahb al k) true hk
  have c := fb_ct_le (fun q => if q = k then true else ahb al k q) n
  rw [ahb_f (ahd_irr al k), show (if (true = true) then 1 else 0 : Nat) = 1 from rfl, show (if (false = true) then 1 else 0 : Nat) = 0 from rfl] at b
  omega
theorem rnk_inj {al : Nat → Int64} {n j k : Nat} (hj : j < n) (hk : k < n) (h : j ≠ k) : rnk al n j ≠ rnk al n k := by
  rcases ahd_tot al h with q | q
  · exact Nat.ne_of_lt (rnk_mono hj q)
  · exact Nat.ne_of_gt (rnk_mono hk q)
theorem rnk_onto {al : Nat → Int64} {n y : Nat} (hy : y < n) : ∃ i, i < n ∧ rnk al n i = y := fb_onto (fun i hi => rnk_lt hi) (fun i j h1 h2 => rnk_inj (by omega) h2 (by omega)) hy
/-- a row more, behind -/
theorem rnk_app {al u : Nat → Int64} {n k : Nat} (hk : k < n) (h : ∀ j, j < n → u (360 + 5 * j) = al (360 + 5 * j)) : rnk u (n + 1) k = rnk al n k + (if u (360 + 5 * n) < u (360 + 5 * k) then 1 else 0) := by
  unfold rnk
  rw [fb_ct_succ, fb_ct_cong (q := ahb al k) (fun j hj => by
    by_cases g : ahd al j k
    · rw [ahb_t g]
      exact ahb_t (by unfold ahd at *; rw [h j hj, h k hk]; exact g)
    · rw [ahb_f g]
      exact ahb_f (fun w => g (by unfold ahd at *; rw [h j hj, h k hk] at w; exact w)))]
  congr 1
  by_cases g : u (360 + 5 * n) < u (360 + 5 * k)
  · rw [if_pos g, ahb_t (Or.inl g)]; rfl
  · rw [if_neg g, ahb_f (by rintro (w | ⟨-, w⟩); exact g w; omega)]; rfl
def skp (r j : Nat) : Nat := if j < r then j else j + 1
theorem ct_del (p : Nat → Bool) {r : Nat} : ∀ {n : Nat}, r ≤ n → fb_ct p (n + 1) = fb_ct (fun j => p (skp r j)) n + (if p r then 1 else 0)
  | 0, h => by
    have : r = 0 := by omega
    subst this
    rw [fb_ct_succ]
    rfl
  | n + 1, h => by
    rcases Nat.lt_or_ge n r with q | q
    · have : r = n + 1 := by omega
      subst this
      rw [fb_ct_succ, fb_ct_cong (q := fun j => p (skp (n + 1) j)) (fun k hk => by rw [skp, if_pos hk])]
    · have ih := ct_del p (n := n) q
      rw [fb_ct_succ, ih, fb_ct_succ]
      have e : skp r n = n + 1 := by rw [skp, if_neg (by omega)]
      rw [e]
      omega
/-- a row less, the first to be carried out -/
theorem rnk_del {al u : Nat → Int64} {n r k : Nat} (hr : r ≤ n) (h0 : rnk al (n + 1) r = 0) (hk : k < n) (h : ∀ j, j < n → u (360 + 5 * j) = al (360 + 5 * skp r j)) : rnk al (n + 1) (skp r k) = rnk u n k + 1 := by
  have hs : skp r k < n + 1 ∧ skp r k ≠ r := by unfold skp; split <;> omega
  have hah : ahd al r (skp r k) := by
    rcases ahd_tot al (Ne.symm hs.2) with q | q
    · exact q
    · have := rnk_mono (n := n + 1) hs.1 q
      omega
  unfold rnk
  rw [ct_del _ hr, ahb_t hah, fb_ct_cong (q := ahb u k) (fun j hj => by
    have hlt : skp r j < skp r k ↔ j < k := by unfold skp; split <;> split <;> omega
    by_cases g : ahd u j k
    · rw [ahb_t g]
      exact ahb_t (by unfold ahd at *; rw [h j hj, h k hk] at g; rw [hlt]; exact g)
    · rw [ahb_f g]
      exact ahb_f (fun w => g (by unfold ahd at *; rw [h j hj, h k hk]; rw [hlt] at w; exact w)))]
  rfl
def PlnC (al : Nat → Int64) (kp : Nat) (fp : Nat → Int32) : Prop := ∀ k, k < kp → ∀ c, c < 5 → al (360 + 5 * k + c) = (fp (rnk al kp k * 5 + c)).toInt64
def Cp (al : Nat → Int64) (x : SD) : Prop := al 0 = x.1 ∧ al 1 = lN x.2.1.1 ∧ NodC al x.2.1.1 x.2.1.2 ∧ al 38 = lN x.2.2.1.1 ∧ RecC al x.2.2.1.1 x.2.2.1.2 ∧ al 359 = lN x.2.2.2.1 ∧ PlnC al x.2.2.2.1 x.2.2.2.2
theorem PlnC_congr {al u : Nat → Int64} {kp : Nat} {fp fp2 : Nat → Int32} (h : PlnC al kp fp) (h1 : ∀ q, 360 ≤ q → q < 360 + 5 * kp → u q = al q) (h2 : ∀ q, q < kp * 5 → fp2 q = fp q) : PlnC u kp fp2 := by
  intro k hk c hc
  have e : rnk u kp k = rnk al kp k := by
    unfold rnk
    exact fb_ct_cong (fun j hj => by
      by_cases g : ahd al j k
      · rw [ahb_t g]
        exact ahb_t (by unfold ahd at *; rw [h1 _ (by omega) (by omega), h1 _ (by omega) (by omega)]; exact g)
      · rw [ahb_f g]
        exact ahb_f (fun w => g (by unfold ahd at *; rw [h1 _ (by omega) (by omega), h1 _ (by omega) (by omega)] at w; exact w)))
  have := rnk_lt (al := al) hk
  rw [h1 _ (by omega) (by omega), e, h2 _ (by omega)]
  exact h k hk c hc
/-! the same state, as far as it is in use -/
def eqS (y x : SD) : Prop := y.1 = x.1 ∧ y.2.1.1 = x.2.1.1 ∧ (∀ q, q < x.2.1.1 * 6 → y.2.1.2 q = x.2.1.2 q) ∧ y.2.2.1.1 = x.2.2.1.1 ∧ (∀ q, q < x.2.2.1.1 * 8 → y.2.2.1.2 q = x.2.2.1.2 q) ∧ y.2.2.2.1 = x.2.2.2.1 ∧ ∀ q, q < x.2.2.2.1 * 5 → y.2.2.2.2 q = x.2.2.2.2 q
theorem cpy0 {f g : Nat → Int32} {n q : Nat} (hq : q < n) : va_cpy f g 0 0 n q = f q := by
  rw [pk_cpy_in (Nat.zero_le _) (by omega)]
  congr 1
  omega
theorem eqS_cp (x o : SD) : eqS (cpS x o) x := ⟨rfl, rfl, fun _ hq => cpy0 hq, rfl, fun _ hq => cpy0 hq, rfl, fun _ hq => cpy0 hq⟩
theorem nd_congr {fn fn2 : Nat → Int32} {i : Nat} (h : ∀ c, c < 6 → fn2 (i * 6 + c) = fn (i * 6 + c)) {c : Nat} (hc : c < 6) : nd fn2 i c = nd fn i c := by unfold nd; rw [h c hc]
theorem nOk_congr {fn fn2 : Nat → Int32} {i : Nat} (h : ∀ c, c < 6 → fn2 (i * 6 + c) = fn (i * 6 + c)) (hn : nOk fn i) : nOk fn2 i := by
  unfold nOk
  rw [nd_congr h (by decide : 0 < 6), nd_congr h (by decide : 1 < 6), nd_congr h (by decide : 2 < 6), nd_congr h (by decide : 3 < 6), nd_congr h (by decide : 4 < 6), nd_congr h (by decide : 5 < 6)]
  exact hn
theorem SI_congr {y x : SD} (hx : SI x) (h : eqS y x) : SI y := by
  obtain ⟨t, ⟨kn, fn⟩, ⟨kr, fr⟩, ⟨kp, fp⟩⟩ := x
  obtain ⟨t2, ⟨kn2, fn2⟩, ⟨kr2, fr2⟩, ⟨kp2, fp2⟩⟩ := y
  obtain ⟨e1, e2, e3, e4, e5, e6, e7⟩ := h
  dsimp only at e1 e2 e3 e4 e5 e6 e7
  subst e1; subst e2; subst e4; subst e6
  obtain ⟨a1, a2, a3, a4, a5, a6, a7, a8⟩ := hx
  dsimp only at a1 a2 a3 a4 a5 a6 a7 a8
  refine ⟨a1, a2, a3, a4, fun i hi => nOk_congr (fun c hc => e3 _ (by dsimp only at hi; omega)) (a5 i hi), fun e he => rOk_congr (fun c hc => e5 _ (by dsimp only at he; omega)) (a6 e he), fun k hk => (pOk_congr (fun c hc => e7 _ (by dsimp only at hk; omega)) (a7 k hk)).1, fun k hk => ?_⟩
  dsimp only at hk ⊢
  rw [(pOk_congr (fun c hc => e7 _ (by omega)) (a7 k (by omega))).2 0 (by decide), (pOk_congr (fun c hc => e7 _ (by omega)) (a7 (k + 1) (by omega))).2 0 (by decide)]
  exact a8 k hk
theorem Cp_congr {al u : Nat → Int64} {x y : SD} (hx : SI x) (h : Cp al x) (e : ∀ q, q < 460 → u q = al q) (ey : eqS y x) : Cp u y := by
  obtain ⟨t, ⟨kn, fn⟩, ⟨kr, fr⟩, ⟨kp, fp⟩⟩ := x
  obtain ⟨t2, ⟨kn2, fn2⟩, ⟨kr2, fr2⟩, ⟨kp2, fp2⟩⟩ := y
  obtain ⟨e1, e2, e3, e4, e5, e6, e7⟩ := ey
  dsimp only at e1 e2 e3 e4 e5 e6 e7
  subst e1; subst e2; subst e4; subst e6
  obtain ⟨a1, a2, a3, -⟩ := hx
  dsimp only at a1 a2 a3
  obtain ⟨c1, c2, c3, c4, c5, c6, c7⟩ := h
  dsimp only at c1 c2 c3 c4 c5 c6 c7
  refine ⟨(e 0 (by decide)).trans c1, (e 1 (by decide)).trans c2, fun q hq => ?_, (e 38 (by decide)).trans c4, fun q hq => ?_, (e 359 (by decide)).trans c6, ?_⟩
  · dsimp only at hq ⊢
    rw [e _ (by omega), c3 q hq, e3 q hq]
  · dsimp only at hq ⊢
    rw [e _ (by omega), c5 q hq, e5 q hq]
  · exact PlnC_congr (kp := kp2) c7 (fun q h1 h2 => e q (by omega)) (fun q hq => e7 q hq)
/-- a cell of a node -/
theorem node_cp {al : Nat → Int64} {t : Int64} {kn : Nat} {fn : Nat → Int32} {R P : Nat × (Nat → Int32)} (hC : Cp al (t, (kn, fn), R, P)) (h6 : kn ≤ 6) {i c : Nat} (hi : i < kn) (hc : c < 6) (x : Int32) : Cp (vp_updL al (2 + 6 * i + c) x.toInt64) (t, (kn, upd fn (i * 6 + c) x), R, P) := by
  obtain ⟨c1, c2, c3, c4, c5, c6, c7⟩ := hC
  dsimp only at c1 c2 c3 c4 c5 c6 c7
  have hq : ∀ q, q ≠ 2 + 6 * i + c → vp_updL al (2 + 6 * i + c) x.toInt64 q = al q := fun q h => ul_ne h
  refine ⟨(hq _ (by omega)).trans c1, (hq _ (by omega)).trans c2, fun q h => ?_, (hq _ (by omega)).trans c4, fun q h => ?_, (hq _ (by omega)).trans c6, ?_⟩
  · dsimp only at h ⊢
    by_cases g : q = i * 6 + c
    · subst g
      rw [show 2 + (i * 6 + c) = 2 + 6 * i + c by omega, ul_eq, pk_us]
    · rw [hq _ (by omega), pk_un g]
      exact c3 q h
  · dsimp only at h ⊢
    rw [hq _ (by omega)]
    exact c5 q h
  · exact PlnC_congr c7 (fun q h1 h2 => hq q (by omega)) (fun q _ => rfl)
theorem updL6 (f : Nat → Int64) (k : Nat) (x0 x1 x2 x3 x4 x5 : Int64) (F : Nat → Int64) (hF : F = vp_updL (vp_updL (vp_updL (vp_updL (vp_updL (vp_updL f (k + 0) x0) (k + 1) x1) (k + 2) x2) (k + 3) x3) (k + 4) x4) (k + 5) x5) :
    (∀ q, q < k → F q = f q) ∧ (∀ q, k + 6 ≤ q → F q = f q) ∧ F (k + 0) = x0 ∧ F (k + 1) = x1 ∧ F (k + 2) = x2 ∧ F (k + 3) = x3 ∧ F (k + 4) = x4 ∧ F (k + 5) = x5 := by
  subst hF
  refine ⟨fun q hq => ?_, fun q hq => ?_, ?_, ?_, ?_, ?_, ?_, ?_⟩
  · rw [ul_ne (by omega), ul_ne (by omega), ul_ne (by omega), ul_ne (by omega), ul_ne (by omega), ul_ne (by omega)]
  · rw [ul_ne (by omega), ul_ne (by omega), ul_ne (by omega), ul_ne (by omega), ul_ne (by omega), ul_ne (by omega)]
  · rw [ul_ne (by omega), ul_ne (by omega), ul_ne (by omega), ul_ne (by omega), ul_ne (by omega), ul_eq]
  · rw [ul_ne (by omega), ul_ne (by omega), ul_ne (by omega), ul_ne (by omega), ul_eq]
  · rw [ul_ne (by omega), ul_ne (by omega), ul_ne (by omega), ul_eq]
  · rw [ul_ne (by omega), ul_ne (by omega), ul_eq]
  · rw [ul_ne (by omega), ul_eq]
  · rw [ul_eq]
theorem updL5 (f : Nat → Int64) (k : Nat) (x0 x1 x2 x3 x4 : Int64) (F : Nat → Int64) (hF : F = vp_updL (vp_updL (vp_updL (vp_updL (vp_updL f k x0) (k + 1) x1) (k + 2) x2) (k + 3) x3) (k + 4) x4) :
    (∀ q, q < k → F q = f q) ∧ (∀ q, k + 5 ≤ q → F q = f q) ∧ F (k + 0) = x0 ∧ F (k + 1) = x1 ∧ F (k + 2) = x2 ∧ F (k + 3) = x3 ∧ F (k + 4) = x4 := by
  subst hF
  refine ⟨fun q hq => ?_, fun q hq => ?_, ?_, ?_, ?_, ?_, ?_⟩
  · rw [ul_ne (by omega), ul_ne (by omega), ul_ne (by omega), ul_ne (by omega), ul_ne (by omega)]
  · rw [ul_ne (by omega), ul_ne (by omega), ul_ne (by omega), ul_ne (by omega), ul_ne (by omega)]
  · rw [ul_ne (by omega), ul_ne (by omega), ul_ne (by omega), ul_ne (by omega), Nat.add_zero, ul_eq]
  · rw [ul_ne (by omega), ul_ne (by omega), ul_ne (by omega), ul_eq]
  · rw [ul_ne (by omega), ul_ne (by omega), ul_eq]
  · rw [ul_ne (by omega), ul_eq]
  · rw [ul_eq]
theorem six {P : Nat → Prop} (h0 : P 0) (h1 : P 1) (h2 : P 2) (h3 : P 3) (h4 : P 4) (h5 : P 5) : ∀ c, c < 6 → P c
  | 0, _ => h0
  | 1, _ => h1
  | 2, _ => h2
  | 3, _ => h3
  | 4, _ => h4
  | 5, _ => h5
  | n + 6, h => absurd h (by omega)
theorem five {P : Nat → Prop} (h0 : P 0) (h1 : P 1) (h2 : P 2) (h3 : P 3) (h4 : P 4) : ∀ c, c < 5 → P c
  | 0, _ => h0
  | 1, _ => h1
  | 2, _ => h2
  | 3, _ => h3
  | 4, _ => h4
  | n + 5, h => absurd h (by omega)
theorem add_cp {al F : Nat → Int64} {A B : SD} {x y d o e : Int32} (hC : Cp al A) (hS : SI A) (h6 : A.2.1.1 < 6) (hR : addR x y d o e A B)
    (hF : F = vp_updL (vp_updL (vp_updL (vp_updL (vp_updL (vp_updL (vp_updL al (2 + 6 * A.2.1.1 + 0) x.toInt64) (2 + 6 * A.2.1.1 + 1) y.toInt64) (2 + 6 * A.2.1.1 + 2) d.toInt64) (2 + 6 * A.2.1.1 + 3) o.toInt64) (2 + 6 * A.2.1.1 + 4) e.toInt64) (2 + 6 * A.2.1.1 + 5) (lN 0)) 1 (lN (A.2.1.1 + 1))) : Cp F B := by
  obtain ⟨t, ⟨kn, fn⟩, ⟨kr, fr⟩, ⟨kp, fp⟩⟩ := A
  obtain ⟨t2, ⟨kn2, fn2⟩, ⟨kr2, fr2⟩, ⟨kp2, fp2⟩⟩ := B
  obtain ⟨b1, b2, b3, b4, b5, b6, b7, b8, b9, b10⟩ := hR
  dsimp only at b1 b2 b3 b4 b5 b6 b7 b8 b9 b10 hF h6
  cases b10
  subst b1; subst b2
  obtain ⟨c1, c2, c3, c4, c5, c6, c7⟩ := hC
  dsimp only at c1 c2 c3 c4 c5 c6 c7
  have a2 := hS.2.1
  have a3 := hS.2.2.1
  dsimp only at a2 a3
  obtain ⟨z0, z1, g0, g1, g2, g3, g4, g5⟩ := updL6 al (2 + 6 * kn) _ _ _ _ _ _ _ rfl
  have hq : ∀ q, q ≠ 1 → F q = vp_updL (vp_updL (vp_updL (vp_updL (vp_updL (vp_updL al (2 + 6 * kn + 0) x.toInt64) (2 + 6 * kn + 1) y.toInt64) (2 + 6 * kn + 2) d.toInt64) (2 + 6 * kn + 3) o.toInt64) (2 + 6 * kn + 4) e.toInt64) (2 + 6 * kn + 5) (lN 0) q := fun q h => by rw [hF, ul_ne h]
  have hh : ∀ q, 38 ≤ q → F q = al q := fun q h => by rw [hq q (by omega), z1 q (by omega)]
  refine ⟨by rw [hq 0 (by decide), z0 0 (by omega)]; exact c1, by rw [hF, ul_eq], fun q h => ?_, (hh 38 (by decide)).trans c4, fun q h => (hh _ (by omega)).trans (c5 q h), (hh 359 (by decide)).trans c6, PlnC_congr c7 (fun q h1 _ => hh q (by omega)) (fun _ _ => rfl)⟩
  dsimp only at h ⊢
  rcases Nat.lt_or_ge q (kn * 6) with w | w
  · rw [hq _ (by omega), z0 _ (by omega), b3 q w]
    exact c3 q w
  · obtain ⟨c, rfl⟩ : ∃ c, q = kn * 6 + c := ⟨q - kn * 6, by omega⟩
    rw [show 2 + (kn * 6 + c) = 2 + 6 * kn + c by omega]
    exact six (P := fun c => F (2 + 6 * kn + c) = (fn2 (kn * 6 + c)).toInt64) (by rw [hq _ (by omega), g0, b4]) (by rw [hq _ (by omega), g1, b5]) (by rw [hq _ (by omega), g2, b6]) (by rw [hq _ (by omega), g3, b7]) (by rw [hq _ (by omega), g4, b8]) (by rw [hq _ (by omega), g5, b9]; rfl) c (by omega)
/-- an exchange that is carried out -/
theorem out_cp {al u : Nat → Int64} {A B : SD} {i j r1 r2 : Nat} {T : Int} (hC : Cp al A) (ho : outR al u A.2.1.2 A.2.2.1.2 A.2.2.1.1 i j r1 r2 T) (h6 : A.2.1.1 ≤ 6) (b1 : B.1.toInt = T + way A.2.1.2 i j + r1 + way A.2.1.2 i j + r2 + way A.2.1.2 i j) (b2 : B.2.1 = A.2.1) (b3 : B.2.2.1.1 = A.2.2.1.1 + 1) (b4 : B.2.2.2 = A.2.2.2) (hs : cSpec A.2.1.2 A.2.2.1.2 B.2.2.1.2 A.2.2.1.1 i j r1 r2 T (way A.2.1.2 i j)) : Cp u B := by
  obtain ⟨t, ⟨kn, fn⟩, ⟨kr, fr⟩, ⟨kp, fp⟩⟩ := A
  obtain ⟨t2, ⟨kn2, fn2⟩, ⟨kr2, fr2⟩, ⟨kp2, fp2⟩⟩ := B
  dsimp only at b1 b2 b3 b4 hs ho h6
  cases b2
  cases b4
  subst b3
  obtain ⟨c1, c2, c3, c4, c5, c6, c7⟩ := hC
  dsimp only at c1 c2 c3 c4 c5 c6 c7
  obtain ⟨o1, o2, o3, o4, o5⟩ := ho
  refine ⟨eqL (o4.trans b1.symm), (o1 1 (by decide) (by decide)).trans c2, fun q h => ?_, o2, o5 _ hs, (o3 359 (by decide)).trans c6, PlnC_congr c7 (fun q h1 _ => o3 q (by omega)) (fun _ _ => rfl)⟩
  dsimp only at h ⊢
  rw [o1 _ (by omega) (by omega)]
  exact c3 q h
/-- a plan more -/
theorem pln_add {al F : Nat → Int64} {kp z T : Nat} {fp fp2 : Nat → Int32} {x1 x2 x3 x4 : Int32} (h20 : kp < 20) (hT : T < 2 ^ 31) (hC : PlnC al kp fp) (hk : ∀ k, k < kp → fp (k * 5 + 0) = nI (pn fp k 0) ∧ pn fp k 0 ≤ 900000000) (hs : ∀ k, k + 1 < kp → pn fp k 0 ≤ pn fp (k + 1) 0)
    (hF : ∀ q, 360 ≤ q → q < 360 + 5 * kp → F q = al q) (g0 : F (360 + 5 * kp + 0) = (nI T).toInt64) (g1 : F (360 + 5 * kp + 1) = x1.toInt64) (g2 : F (360 + 5 * kp + 2) = x2.toInt64) (g3 : F (360 + 5 * kp + 3) = x3.toInt64) (g4 : F (360 + 5 * kp + 4) = x4.toInt64)
    (hz : z ≤ kp) (hz1 : ∀ k, k < z → pn fp k 0 ≤ T) (hz2 : z < kp → T < pn fp z 0) (f0 : ∀ q, q < z * 5 → fp2 q = fp q) (f1 : ∀ q, z * 5 ≤ q → q < kp * 5 → fp2 (q + 5) = fp q) (e0 : fp2 (z * 5 + 0) = nI T) (e1 : fp2 (z * 5 + 1) = x1) (e2 : fp2 (z * 5 + 2) = x2) (e3 : fp2 (z * 5 + 3) = x3) (e4 : fp2 (z * 5 + 4) = x4) : PlnC F (kp + 1) fp2 := by
  have hup : ∀ k, z ≤ k → k < kp → T < pn fp k 0 := by
    intro k h1
    induction k with
    | zero => intro h2; rw [show z = 0 by omega] at hz2; exact hz2 h2
    | succ k ih =>
      intro h2
      by_cases w : z = k + 1
      · subst w; exact hz2 h2
      · have := ih (by omega) (by omega)
        have := hs k h2
        omega
  have hold : ∀ k, k < kp → rnk F (kp + 1) k = if rnk al kp k < z then rnk al kp k else rnk al kp k + 1 := by
    intro k hk9
    rw [rnk_app (al := al) hk9 (fun j hj => hF _ (by omega) (by omega))]
    have hr := rnk_lt (al := al) hk9
    have ha : F (360 + 5 * k) = (nI (pn fp (rnk al kp k) 0)).toInt64 := by
      rw [hF _ (by omega) (by omega), show al (360 + 5 * k) = _ from hC k hk9 0 (by decide), (hk _ hr).1]
    have hb : F (360 + 5 * kp) = (nI T).toInt64 := g0
    have hlt : F (360 + 5 * kp) < F (360 + 5 * k) ↔ T < pn fp (rnk al kp k) 0 := by
      rw [ha, hb, ltL, i64T, i64T, nI_toInt hT, nI_toInt (by have := (hk _ hr).2; omega)]
      omega
    by_cases w : rnk al kp k < z
    · rw [if_pos w, if_neg (fun q => by have := hlt.mp q; have := hz1 _ w; omega), Nat.add_zero]
    · rw [if_neg w, if_pos (hlt.mpr (hup _ (by omega) hr))]
  have hnew : rnk F (kp + 1) kp = z := by
    have hy := rnk_lt (al := F) (Nat.lt_succ_self kp)
    have hne : ∀ k, k < kp → rnk F (kp + 1) k ≠ rnk F (kp + 1) kp := fun k hk9 => rnk_inj (by omega) (by omega) (by omega)
    rcases Nat.lt_trichotomy (rnk F (kp + 1) kp) z with w | w | w
    · obtain ⟨k, h1, h2⟩ := rnk_onto (al := al) (n := kp) (y := rnk F (kp + 1) kp) (by omega)
      exact absurd (by rw [hold k h1, h2, if_pos w]) (hne k h1)
    · exact w
    · have hy2 : rnk F (kp + 1) kp < kp + 1 := hy
      obtain ⟨k, h1, h2⟩ := rnk_onto (al := al) (n := kp) (y := rnk F (kp + 1) kp - 1) (by omega)
      exact absurd (by rw [hold k h1, h2, if_neg (by omega)]; omega) (hne k h1)
  intro k hk9 c hc
  rcases Nat.lt_or_ge k kp with w | w
  · rw [hF _ (by omega) (by omega), hC k w c hc, hold k w]
    have hr := rnk_lt (al := al) w
    by_cases q : rnk al kp k < z
    · rw [if_pos q, f0 _ (by omega)]
    · rw [if_neg q, show (rnk al kp k + 1) * 5 + c = rnk al kp k * 5 + c + 5 by omega, f1 _ (by omega) (by omega)]
  · have : k = kp := by omega
    subst this
    rw [hnew]
    exact five (P := fun c => F (360 + 5 * k + c) = (fp2 (z * 5 + c)).toInt64) (by rw [g0, e0]) (by rw [g1, e1]) (by rw [g2, e2]) (by rw [g3, e3]) (by rw [g4, e4]) c hc
theorem plan_cp {al F : Nat → Int64} {A B : SD} {T : Nat} {i j x y : Int32} (hC : Cp al A) (hS : SI A) (h20 : A.2.2.2.1 < 20) (hT : T ≤ 900000000) (hR : planR T i j x y A B)
    (hF : F = vp_updL (vp_updL (vp_updL (vp_updL (vp_updL (vp_updL al (360 + 5 * A.2.2.2.1) (nI T).toInt64) (360 + 5 * A.2.2.2.1 + 1) i.toInt64) (360 + 5 * A.2.2.2.1 + 2) j.toInt64) (360 + 5 * A.2.2.2.1 + 3) x.toInt64) (360 + 5 * A.2.2.2.1 + 4) y.toInt64) 359 (lN (A.2.2.2.1 + 1))) : Cp F B := by
  obtain ⟨t, ⟨kn, fn⟩, ⟨kr, fr⟩, ⟨kp, fp⟩⟩ := A
  obtain ⟨t2, ⟨kn2, fn2⟩, ⟨kr2, fr2⟩, ⟨kp2, fp2⟩⟩ := B
  obtain ⟨b1, b2, b3, b4, z, z1, z2, z3, z4, z5, z6, z7, z8, z9, z10⟩ := hR
  dsimp only at b1 b2 b3 b4 z1 z2 z3 z4 z5 z6 z7 z8 z9 z10 hF h20
  cases b2
  cases b3
  subst b1; subst b4
  obtain ⟨c1, c2, c3, c4, c5, c6, c7⟩ := hC
  dsimp only at c1 c2 c3 c4 c5 c6 c7
  obtain ⟨a1, a2, a3, a4, a5, a6, a7, a8⟩ := hS
  dsimp only at a1 a2 a3 a4 a5 a6 a7 a8
  obtain ⟨u0, u1, g0, g1, g2, g3, g4⟩ := updL5 al (360 + 5 * kp) _ _ _ _ _ _ rfl
  have hq : ∀ q, q ≠ 359 → F q = vp_updL (vp_updL (vp_updL (vp_updL (vp_updL al (360 + 5 * kp) (nI T).toInt64) (360 + 5 * kp + 1) i.toInt64) (360 + 5 * kp + 2) j.toInt64) (360 + 5 * kp + 3) x.toInt64) (360 + 5 * kp + 4) y.toInt64 q := fun q h => by rw [hF, ul_ne h]
  have hl : ∀ q, q < 359 → F q = al q := fun q h => by rw [hq q (by omega), u0 q (by omega)]
  refine ⟨(hl 0 (by decide)).trans c1, (hl 1 (by decide)).trans c2, fun q h => (hl _ (by dsimp only at h; omega)).trans (c3 q h), (hl 38 (by decide)).trans c4, fun q h => (hl _ (by dsimp only at h; omega)).trans (c5 q h), by rw [hF, ul_eq], ?_⟩
  refine pln_add (al := al) (fp := fp) (z := z) (T := T) (x1 := i) (x2 := j) (x3 := x) (x4 := y) h20 (by omega) c7 (fun k hk => ⟨(a7 k hk).1 0 (by decide), (a7 k hk).2.1⟩) a8 (fun q h1 h2 => by rw [hq q (by omega), u0 q (by omega)]) ?_ ?_ ?_ ?_ ?_ z1 z2 z3 z4 z5 z6 z7 z8 z9 z10
  · rw [hq _ (by omega), g0]
  · rw [hq _ (by omega), g1]
  · rw [hq _ (by omega), g2]
  · rw [hq _ (by omega), g3]
  · rw [hq _ (by omega), g4]
/-- the first plan taken away -/
theorem pln_rem {al u : Nat → Int64} {n r : Nat} {fp fp2 : Nat → Int32} (hn : n < 20) (hC : PlnC al (n + 1) fp) (hr : r ≤ n) (h0 : rnk al (n + 1) r = 0) (h1 : ∀ q, 360 ≤ q → q < 360 + 5 * r → u q = al q) (h2 : ∀ q, 360 + 5 * r ≤ q → q < 455 → u q = al (q + 5)) (hf : ∀ q, q < n * 5 → fp2 q = fp (q + 5)) : PlnC u n fp2 := by
  have hu : ∀ k, k < n → ∀ c, c < 5 → u (360 + 5 * k + c) = al (360 + 5 * skp r k + c) := fun k hk c hc => by
    unfold skp
    by_cases w : k < r
    · rw [if_pos w, h1 _ (by omega) (by omega)]
    · rw [if_neg w, h2 _ (by omega) (by omega)]
      congr 1
      omega
  intro k hk c hc
  have hd := rnk_del (al := al) (u := u) hr h0 hk (fun j hj => hu j hj 0 (by decide))
  have hl := rnk_lt (al := u) hk
  have hs : skp r k < n + 1 := by unfold skp; split <;> omega
  rw [hu k hk c hc, hC _ hs c hc, hd, hf _ (by omega)]
  congr 2
  omega
/-- a step of the run: what is carried out, and taken away -/
theorem step_cp {al w u : Nat → Int64} {x y : SD} {r : Nat} (hC : Cp al x) (hS : SI x) (hst : stepR x y) (hr : r < x.2.2.2.1) (h0 : rnk al x.2.2.2.1 r = 0)
    (hw : (x.2.2.1.1 < 40 ∧ outR al w x.2.1.2 x.2.2.1.2 x.2.2.1.1 (pn x.2.2.2.2 0 1) (pn x.2.2.2.2 0 2) (pn x.2.2.2.2 0 3) (pn x.2.2.2.2 0 4) (fst1 x)) ∨ (¬ x.2.2.1.1 < 40 ∧ w = al))
    (u1 : ∀ q, q < 359 → u q = w q) (u2 : ∀ q, 360 ≤ q → q < 360 + 5 * r → u q = w q) (u3 : ∀ q, 360 + 5 * r ≤ q → q < 455 → u q = w (q + 5)) (u4 : u 359 = lN (x.2.2.2.1 - 1)) : Cp u y := by
  obtain ⟨t, ⟨kn, fn⟩, ⟨kr, fr⟩, ⟨kp, fp⟩⟩ := x
  obtain ⟨t2, ⟨kn2, fn2⟩, ⟨kr2, fr2⟩, ⟨kp2, fp2⟩⟩ := y
  obtain ⟨b1, b2, b3, b4⟩ := hst
  dsimp only at b1 b2 b3 b4 hr h0 hw u4
  cases b1
  subst b2
  obtain ⟨c1, c2, c3, c4, c5, c6, c7⟩ := hC
  dsimp only at c1 c2 c3 c4 c5 c6 c7
  have a1 := hS.1
  have a2 := hS.2.1
  have a3 := hS.2.2.1
  dsimp only at a1 a2 a3
  have hP : ∀ q, 359 ≤ q → w q = al q := fun q hq => by
    rcases hw with ⟨-, g⟩ | ⟨-, g⟩
    · exact g.2.2.1 q hq
    · rw [g]
  have h359 : u 359 = lN kp2 := u4
  have hpl : PlnC u kp2 fp2 := pln_rem (al := al) (r := r) (by omega) c7 (by omega) h0 (fun q h1 h2 => (u2 q h1 h2).trans (hP q (by omega))) (fun q h1 h2 => (u3 q h1 h2).trans (hP _ (by omega))) (fun q hq => b3 q hq)
  rcases hw with ⟨hk, o1, o2, o3, o4, o5⟩ | ⟨hk, rfl⟩
  · rcases b4 with ⟨-, q2, q3, q4⟩ | ⟨q1, -⟩
    · dsimp only [fst1, wy1] at q2 q3 q4
      subst q2
      refine ⟨?_, (u1 1 (by decide)).trans ((o1 1 (by decide) (by decide)).trans c2), fun q h => ?_, (u1 38 (by decide)).trans o2, fun q h => ?_, h359, hpl⟩
      · exact eqL (((congrArg Int64.toInt (u1 0 (by decide))).trans o4).trans q3.symm)
      · dsimp only at h ⊢
        rw [u1 _ (by omega), o1 _ (by omega) (by omega)]
        exact c3 q h
      · dsimp only at h ⊢
        rw [u1 _ (by omega)]
        exact o5 _ q4 q h
    · exact absurd hk q1
  · rcases b4 with ⟨q1, -⟩ | ⟨-, q2, q3⟩
    · exact absurd q1 hk
    · cases q2
      cases q3
      refine ⟨(u1 0 (by decide)).trans c1, (u1 1 (by decide)).trans c2, fun q h => ?_, (u1 38 (by decide)).trans c4, fun q h => ?_, h359, hpl⟩
      · dsimp only at h ⊢
        rw [u1 _ (by omega)]
        exact c3 q h
      · dsimp only at h ⊢
        rw [u1 _ (by omega)]
        exact c5 q h
/-! the saved states -/
def HC (cnt : Nat) (sv : Nat → Int64) (Q : Nat → SD) : Prop := ∀ i, i < cnt → SI (Q i) ∧ Cp (fun j => sv (460 * (cnt - 1 - i) + j)) (Q i)
def psh (x : SD) (Q : Nat → SD) : Nat → SD
  | 0 => x
  | n + 1 => Q n
theorem save_HC {al sv sv2 : Nat → Int64} {cnt cnt2 : Nat} {x y : SD} {Q : Nat → SD} (hc : cnt ≤ 4) (h : HC cnt sv Q) (hs : savR al sv cnt sv2 cnt2) (hC : Cp al x) (hS : SI x) (ey : eqS y x) : HC cnt2 sv2 (psh y Q) := by
  obtain ⟨e, h1, h2⟩ := hs
  intro i hi
  cases i with
  | zero => exact ⟨SI_congr hS ey, Cp_congr hS hC (fun q hq => h1 q hq) ey⟩
  | succ i =>
    have hi2 : i < cnt := by omega
    obtain ⟨g1, g2⟩ := h i hi2
    refine ⟨g1, Cp_congr g1 g2 (fun q hq => ?_) ⟨rfl, rfl, fun _ _ => rfl, rfl, fun _ _ => rfl, rfl, fun _ _ => rfl⟩⟩
    show sv2 (460 * (cnt2 - 1 - (i + 1)) + q) = sv (460 * (cnt - 1 - i) + q)
    rw [h2 _ q (by omega) hq]
    congr 2
    split <;> omega
theorem undo_HC {sv : Nat → Int64} {cnt : Nat} {Q : Nat → SD} (h : HC (cnt + 1) sv Q) : HC cnt sv (fun i => Q (i + 1)) := by
  intro i hi
  obtain ⟨g1, g2⟩ := h (i + 1) (by omega)
  refine ⟨g1, ?_⟩
  rw [show cnt - 1 - i = cnt + 1 - 1 - (i + 1) by omega]
  exact g2
/-! what the state keeps -/
theorem cell_SI {t : Int64} {kn : Nat} {fn : Nat → Int32} {R P : Nat × (Nat → Int32)} {i c : Nat} {x : Int32} (hS : SI (t, (kn, fn), R, P)) (hc : c < 6) (hi : i < kn) (hx : (c = 0 ∨ c = 1) ∧ -1000 ≤ x.toInt ∧ x.toInt ≤ 1000 ∨ c = 5 ∧ -1000000 ≤ x.toInt ∧ x.toInt ≤ 1000000) : SI (t, (kn, upd fn (i * 6 + c) x), R, P) := by
  obtain ⟨a1, a2, a3, a4, a5, a6, a7, a8⟩ := hS
  refine ⟨a1, a2, a3, a4, fun j hj => ?_, a6, a7, a8⟩
  dsimp only at hj ⊢
  have hn := a5 j hj
  dsimp only at hn
  by_cases w : j = i
  · subst w
    have key : ∀ c2, c2 < 6 → nd (upd fn (j * 6 + c) x) j c2 = if c2 = c then x.toInt else nd fn j c2 := fun c2 h => by
      unfold nd
      by_cases g : c2 = c
      · subst g; rw [if_pos rfl, pk_us]
      · rw [if_neg g, pk_un (by omega)]
    unfold nOk at hn ⊢
    rw [key 0 (by decide), key 1 (by decide), key 2 (by decide), key 3 (by decide), key 4 (by decide), key 5 (by decide)]
    rcases hx with ⟨rfl | rfl, h1, h2⟩ | ⟨rfl, h1, h2⟩
    · rw [if_pos rfl, if_neg (by decide), if_neg (by decide), if_neg (by decide), if_neg (by decide), if_neg (by decide)]; omega
    · rw [if_pos rfl, if_neg (by decide), if_neg (by decide), if_neg (by decide), if_neg (by decide), if_neg (by decide)]; omega
    · rw [if_pos rfl, if_neg (by decide), if_neg (by decide), if_neg (by decide), if_neg (by decide), if_neg (by decide)]; omega
  · exact nOk_congr (fun c2 h => pk_un (by omega)) hn
theorem add_SI {A B : SD} {x y d o e : Int32} (hS : SI A) (h6 : A.2.1.1 < 6) (hR : addR x y d o e A B) (h1 : (-1000 ≤ x.toInt ∧ x.toInt ≤ 1000) ∧ (-1000 ≤ y.toInt ∧ y.toInt ≤ 1000) ∧ (-100 ≤ d.toInt ∧ d.toInt ≤ 100) ∧ (0 ≤ o.toInt ∧ o.toInt ≤ 1048575) ∧ (0 ≤ e.toInt ∧ e.toInt ≤ 200)) : SI B := by
  obtain ⟨t, ⟨kn, fn⟩, ⟨kr, fr⟩, ⟨kp, fp⟩⟩ := A
  obtain ⟨t2, ⟨kn2, fn2⟩, ⟨kr2, fr2⟩, ⟨kp2, fp2⟩⟩ := B
  obtain ⟨b1, b2, b3, b4, b5, b6, b7, b8, b9, b10⟩ := hR
  dsimp only at b1 b2 b3 b4 b5 b6 b7 b8 b9 b10 h6
  cases b10
  subst b1; subst b2
  obtain ⟨a1, a2, a3, a4, a5, a6, a7, a8⟩ := hS
  dsimp only at a1 a2 a3 a4 a5 a6 a7 a8
  refine ⟨by dsimp only; omega, a2, a3, a4, fun i hi => ?_, fun q hq => ?_, fun k hk => ?_, a8⟩
  · dsimp only at hi ⊢
    rcases Nat.lt_or_ge i kn with w | w
    · exact nOk_congr (fun c hc => b3 _ (by omega)) (a5 i w)
    · have : i = kn := by omega
      subst this
      unfold nOk nd
      rw [b4, b5, b6, b7, b8, b9]
      have : (nI 0).toInt = 0 := by decide
      omega
  · have h := a6 q hq
    exact ⟨⟨h.1.1, Nat.lt_succ_of_lt h.1.2⟩, ⟨h.2.1.1, Nat.lt_succ_of_lt h.2.1.2⟩, h.2.2⟩
  · have h := a7 k hk
    exact ⟨h.1, h.2.1, Nat.lt_succ_of_lt h.2.2.1, Nat.lt_succ_of_lt h.2.2.2.1, h.2.2.2.2⟩
theorem exch_SI {A B : SD} {i j r1 r2 : Nat} (hS : SI A) (hi : i < A.2.1.1) (hj : j < A.2.1.1) (g1 : r1 ≤ 400000) (g2 : r2 ≤ 400000) (h40 : A.2.2.1.1 < 40) (b1 : B.1.toInt = A.1.toInt + way A.2.1.2 i j + r1 + way A.2.1.2 i j + r2 + way A.2.1.2 i j) (b2 : B.2.1 = A.2.1) (b3 : B.2.2.1.1 = A.2.2.1.1 + 1) (b4 : B.2.2.2 = A.2.2.2) (hs : cSpec A.2.1.2 A.2.2.1.2 B.2.2.1.2 A.2.2.1.1 i j r1 r2 A.1.toInt (way A.2.1.2 i j)) : SI B := by
  obtain ⟨t, ⟨kn, fn⟩, ⟨kr, fr⟩, ⟨kp, fp⟩⟩ := A
  obtain ⟨t2, ⟨kn2, fn2⟩, ⟨kr2, fr2⟩, ⟨kp2, fp2⟩⟩ := B
  dsimp only at b1 b2 b3 b4 hs hi hj h40
  cases b2
  cases b4
  subst b3
  obtain ⟨a1, a2, a3, a4, a5, a6, a7, a8⟩ := hS
  dsimp only at a1 a2 a3 a4 a5 a6 a7 a8
  have hw := way_rng (a5 i hi) (a5 j hj)
  exact ⟨a1, by dsimp only; omega, a3, by dsimp only; omega, a5, cSpec_ok a1 hi hj hs a6, a7, a8⟩
theorem plan_SI {A B : SD} {T i j x y : Nat} (hS : SI A) (h20 : A.2.2.2.1 < 20) (hT : T ≤ 900000000) (hi : i < A.2.1.1) (hj : j < A.2.1.1) (hij : i ≠ j) (gx : x ≤ 400000) (gy : y ≤ 400000) (hR : planR T (nI i) (nI j) (nI x) (nI y) A B) : SI B := by
  obtain ⟨t, ⟨kn, fn⟩, ⟨kr, fr⟩, ⟨kp, fp⟩⟩ := A
  obtain ⟨t2, ⟨kn2, fn2⟩, ⟨kr2, fr2⟩, ⟨kp2, fp2⟩⟩ := B
  obtain ⟨b1, b2, b3, b4, z, z1, z2, z3, z4, z5, z6, z7, z8, z9, z10⟩ := hR
  dsimp only at b1 b2 b3 b4 z1 z2 z3 z4 z5 z6 z7 z8 z9 z10 h20 hi hj
  cases b2
  cases b3
  subst b1; subst b4
  obtain ⟨a1, a2, a3, a4, a5, a6, a7, a8⟩ := hS
  dsimp only at a1 a2 a3 a4 a5 a6 a7 a8
  have lo : ∀ k, k < z → ∀ c, c < 5 → fp2 (k * 5 + c) = fp (k * 5 + c) := fun k hk c hc => z4 _ (by omega)
  have hi9 : ∀ k, z ≤ k → k < kp → ∀ c, c < 5 → fp2 ((k + 1) * 5 + c) = fp (k * 5 + c) := fun k h1 h2 c hc => by
    rw [show (k + 1) * 5 + c = k * 5 + c + 5 by omega]
    exact z5 _ (by omega) (by omega)
  have p0 : pn fp2 z 0 = T := by unfold pn; rw [z6, nI_toInt (by omega)]; omega
  have p1 : pn fp2 z 1 = i := by unfold pn; rw [z7, nI_toInt (by omega)]; omega
  have p2 : pn fp2 z 2 = j := by unfold pn; rw [z8, nI_toInt (by omega)]; omega
  have p3 : pn fp2 z 3 = x := by unfold pn; rw [z9, nI_toInt (by omega)]; omega
  have p4 : pn fp2 z 4 = y := by unfold pn; rw [z10, nI_toInt (by omega)]; omega
  have tri : ∀ k, k < kp + 1 → (k < z ∧ k < kp) ∨ k = z ∨ ∃ q, k = q + 1 ∧ z ≤ q ∧ q < kp := fun k hk => by
    rcases Nat.lt_trichotomy k z with w | w | w
    · exact Or.inl ⟨w, by omega⟩
    · exact Or.inr (Or.inl w)
    · exact Or.inr (Or.inr ⟨k - 1, by omega, by omega, by omega⟩)
  have ok : ∀ k, k < kp + 1 → pOk kn fp2 k := fun k hk => by
    rcases tri k hk with ⟨w, w2⟩ | rfl | ⟨q, rfl, w1, w2⟩
    · exact (pOk_congr (lo k w) (a7 k w2)).1
    · refine ⟨five (P := fun c => fp2 (k * 5 + c) = nI (pn fp2 k c)) (by rw [z6, p0]) (by rw [z7, p1]) (by rw [z8, p2]) (by rw [z9, p3]) (by rw [z10, p4]), ?_⟩
      rw [p0, p1, p2, p3, p4]
      exact ⟨hT, hi, hj, hij, gx, gy⟩
    · exact (pOk_congr (hi9 q w1 w2) (a7 q w2)).1
  refine ⟨a1, a2, by dsimp only; omega, a4, a5, a6, ok, fun k hk => ?_⟩
  dsimp only at hk ⊢
  have v1 : ∀ k, k < z → k < kp → pn fp2 k 0 = pn fp k 0 := fun k w w2 => (pOk_congr (lo k w) (a7 k w2)).2 0 (by decide)
  have v2 : ∀ q, z ≤ q → q < kp → pn fp2 (q + 1) 0 = pn fp q 0 := fun q w1 w2 => (pOk_congr (hi9 q w1 w2) (a7 q w2)).2 0 (by decide)
  rcases Nat.lt_trichotomy (k + 1) z with w | w | w
  · rw [v1 k (by omega) (by omega), v1 (k + 1) w (by omega)]
    exact a8 k (by omega)
  · rw [v1 k (by omega) (by omega), w, p0]
    exact z2 k (by omega)
  · rcases Nat.lt_or_ge k z with w2 | w2
    · omega
    · rw [v2 k w2 (by omega)]
      rcases Nat.lt_or_ge z k with w3 | w3
      · obtain ⟨q, rfl⟩ : ∃ q, k = q + 1 := ⟨k - 1, by omega⟩
        rw [v2 q (by omega) (by omega)]
        exact a8 q (by omega)
      · have : k = z := by omega
        subst this
        rw [p0]
        have := z3 (by omega)
        omega
theorem time_SI {B u : SD} {E : Nat} (hS : SI B) (hE : E ≤ 900000000) (h2 : u.2 = B.2) (h1 : u.1.toInt = max B.1.toInt E) : SI u := by
  obtain ⟨t, x⟩ := B
  obtain ⟨t2, x2⟩ := u
  dsimp only at h1 h2
  subst h2
  obtain ⟨a1, a2, a3, a4, a5⟩ := hS
  dsimp only at a4
  exact ⟨a1, a2, a3, by dsimp only; omega, a5⟩
theorem sq_nn (x : Int) : 0 ≤ x * x := by
  rcases Int.le_total 0 x with h | h
  · exact Int.mul_nonneg h h
  · rw [← Int.neg_mul_neg]
    exact Int.mul_nonneg (by omega) (by omega)
/-- a calibration stays in its bounds -/
theorem quo2 {a b c d : Int} (ha : 0 ≤ a) (hb : 0 ≤ b) (hc : 0 ≤ c) (hd : 0 ≤ d) (h1 : a < 1048576) (h2 : b < 1048576) (h0 : 0 < a + b + c + d) : (a * b - c * d) / (a + b + c + d) ≤ 524288 := by
  have e1 : 4 * (a * b) ≤ (a + b) * (a + b) := by
    have := sq_nn (a - b)
    have e2 : (a - b) * (a - b) = (a + b) * (a + b) - 4 * (a * b) := by
      simp only [Int.sub_mul, Int.mul_sub, Int.add_mul, Int.mul_add, Int.mul_comm b a]
      omega
    omega
  have e3 : (a + b) * (a + b) ≤ 2097152 * (a + b) := Int.mul_le_mul_of_nonneg_right (by omega) (by omega)
  have e4 := Int.mul_nonneg hc hd
  have := Int.ediv_lt_of_lt_mul (a := a * b - c * d) (b := 524289) h0 (by omega)
  omega
theorem raw2_rng (fr : Nat → Int32) (e : Nat) : -524289 ≤ raw fr e 2 ∧ raw fr e 2 ≤ 524288 := by
  have a := elp_rng fr e 2 5
  have b := elp_rng fr e 3 4
  have c := elp_rng fr e 4 7
  have d := elp_rng fr e 5 6
  unfold raw
  rw [if_neg (by decide), if_neg (by decide)]
  split
  · omega
  · rename_i h
    refine ⟨?_, quo2 a.1 c.1 d.1 b.1 a.2 c.2 (by omega)⟩
    have q := quo2 (a := elp fr e 5 6) (b := elp fr e 3 4) (c := elp fr e 2 5) (d := elp fr e 4 7) d.1 b.1 a.1 c.1 d.2 b.2 (by omega)
    have hp : 0 < elp fr e 2 5 + elp fr e 4 7 + elp fr e 5 6 + elp fr e 3 4 := by omega
    rw [show elp fr e 5 6 + elp fr e 3 4 + elp fr e 2 5 + elp fr e 4 7 = elp fr e 2 5 + elp fr e 4 7 + elp fr e 5 6 + elp fr e 3 4 by omega] at q
    have h3 := Int.lt_mul_of_ediv_lt hp (show (elp fr e 5 6 * elp fr e 3 4 - elp fr e 2 5 * elp fr e 4 7) / (elp fr e 2 5 + elp fr e 4 7 + elp fr e 5 6 + elp fr e 3 4) < (524289 : Int) by omega)
    refine Int.le_ediv_of_mul_le hp ?_
    omega
theorem exs2_rng {kn : Nat} {fn fr : Nat → Int32} {e : Nat} (hn : ∀ i, i < kn → nOk fn i) (hr : rOk kn fr e) : -530000 ≤ exs fn fr e ∧ exs fn fr e ≤ 530000 := by
  have a := raw2_rng fr e
  have b := len_lt hn hr
  unfold exs
  omega
