/-! the reference's face: what is answered -/
theorem Gs.c {u : Int32} {P1 P2 P3 Q1 Q2 Q3 : Prop} (h : Gs u P1 P2 P3) (e1 : P1 ↔ Q1) (e2 : P1 → (P2 ↔ Q2)) (e3 : P1 → P2 → (P3 ↔ Q3)) : Gs u Q1 Q2 Q3 := by
  rcases h with ⟨a, b⟩ | ⟨a, b, c⟩ | ⟨a, b, c, d⟩ | ⟨a, b, c, d⟩
  · exact Or.inl ⟨a, fun g => b (e1.mpr g)⟩
  · exact Or.inr (Or.inl ⟨a, e1.mp b, fun g => c ((e2 b).mpr g)⟩)
  · exact Or.inr (Or.inr (Or.inl ⟨a, e1.mp b, (e2 b).mp c, fun g => d ((e3 b c).mpr g)⟩))
  · exact Or.inr (Or.inr (Or.inr ⟨a, e1.mp b, (e2 b).mp c, (e3 b c).mp d⟩))
theorem Gs.u0 : Gs (nI 0) True True True := Or.inr (Or.inr (Or.inr ⟨rfl, trivial, trivial, trivial⟩))
theorem latI_iff {kn kr : Nat} {fr : Nat → Int32} {p q x : Int32} (hk : kn ≤ 6) (h40 : kr ≤ 40) (hrs : ∀ e, e < kr → rOk kn fr e) (hp : 0 ≤ p.toInt ∧ p.toInt < kn) (hq : 0 ≤ q.toInt ∧ q.toInt < kn) (h : latI fr p q kr x) : (¬ x = -1) ↔ ¬ noLat fr (ix p) (ix q) kr := by
  obtain ⟨i, hi, rfl⟩ := ixOf (n := kn) hp (by omega)
  obtain ⟨j, hj, rfl⟩ := ixOf (n := kn) hq (by omega)
  rw [ix_nI (by omega), ix_nI (by omega)]
  rcases latI_nat hk (by omega) (by omega) hrs h with ⟨h1, h2⟩ | ⟨e, h1, h2⟩
  · exact ⟨fun g => absurd h1 g, fun g => absurd h2 g⟩
  · refine ⟨fun _ g => g e h2.1 h2.2.1, fun _ g => ?_⟩
    have g2 := congrArg Int32.toInt (h1.symm.trans g)
    have := h2.1
    rw [nI_toInt (by omega)] at g2
    have g3 : (-1 : Int32).toInt = -1 := by decide
    omega
theorem lat_ex {fr : Nat → Int32} {a b : Nat} : ∀ {n : Nat}, ¬ noLat fr a b n → ∃ e, isLat fr a b n e
  | 0, h => absurd (fun j hj => absurd hj (Nat.not_lt_zero j)) h
  | n + 1, h => by
    by_cases g : btw fr a b n
    · exact ⟨n, Nat.lt_succ_self n, g, fun j h1 h2 => by omega⟩
    · have h2 : ¬ noLat fr a b n := fun q => h (fun j hj => by
        rcases Nat.lt_or_ge j n with w | w
        · exact q j w
        · rw [show j = n by omega]; exact g)
      obtain ⟨e, h3, h4, h5⟩ := lat_ex h2
      refine ⟨e, by omega, h4, fun j h6 h7 => ?_⟩
      rcases Nat.lt_or_ge j n with w | w
      · exact h5 j h6 w
      · rw [show j = n by omega]; exact g
theorem lat_no {fr : Nat → Int32} {a b n e : Nat} (h : isLat fr a b n e) : ¬ noLat fr a b n := fun g => g e h.1 h.2.1
theorem dgRow_congr {g g2 : Nat → Int64} : ∀ {n : Nat} (h : Int64), (∀ c, c < n → g c = g2 c) → dgRow g n h = dgRow g2 n h
  | 0, _, _ => rfl
  | n + 1, h, e => by rw [dgRow, dgRow, dgRow_congr h (fun c hc => e c (by omega)), e n (Nat.lt_succ_self n)]
theorem asT {v : Int64} {z : Int} (h : v.toInt = z) : v = Int64.ofInt z := by rw [← h, Int64.ofInt_toInt]
set_option maxHeartbeats 4000000 in
set_option maxRecDepth 100000 in
theorem m_thrown (l : Launch) (K : EK) (b : Nat → Nat) (sm th : Int32) : Met l yX4_thrown (wq yX4_thrown cX4_thrown 1 (some .int)) (rmL 1 0 0) (va_Pc [.ref (b 0)] (PR K [(b 0, .inr (6, [.ref (b 1), .ref (b 2), .int sm, .int th]))])) (vp_Si (fun r => r = th)) 0 0 NF := by
  refine hdR (by decide +kernel) (Nat.le_of_ble_eq_true rfl) ?_
  intro pp ee s mm bl9 me9 cd hx hb hr hlocks hml hown hts hE hP ls hl
  have hown : s.vm.findClass RX4 = some mm.cls := hown
  have hP : va_P K.1 vwCl [(b 0, .inr (6, [.ref (b 1), .ref (b 2), .int sm, .int th]))] s.heap := hP
  have hl : lv_has ls 1 [(0, .ref (b 0))] := hl
  refine lv_aload_n hx hb dX4_thrown_0 rfl (lv_at hl 0 rfl) ?_
  refine va_get (D := K.1) (ci := 6) (v := .int th) (C := RX4) (T := TX4) (N := 4) hx hb hts inX4 hown hE.1 hP 0 rfl rfl 3 (by decide) (hts _ kf_X4_16) (fun _ h9 => h9) rfl dX4_thrown_1 ?_
  exact eI (v := th) hx hb hr hlocks (rfl) dX4_thrown_4
set_option maxHeartbeats 4000000 in
set_option maxRecDepth 100000 in
theorem m_areReplies (l : Launch) (K : EK) (p q x y : Int32) : Met l yX4_areReplies (wq yX4_areReplies cX4_areReplies 4 (some .boolean)) (rmL 2 0 0) (va_Pc [.int p, .int q, .int x, .int y] (PR K [])) (vp_Si (fun r => Bo r (p.toInt ≠ q.toInt ∧ (0 ≤ x.toInt ∧ x.toInt ≤ 400000) ∧ 0 ≤ y.toInt ∧ y.toInt ≤ 400000))) 0 0 NF := by
  refine hdR (by decide +kernel) (Nat.le_of_ble_eq_true rfl) ?_
  intro pp ee s mm bl9 me9 cd hx hb hr hlocks hml hown hts hE hP ls hl
  have hown : s.vm.findClass RX4 = some mm.cls := hown
  have hP : va_P K.1 vwCl [] s.heap := hP
  have hl : lv_has ls 4 [(0, .int p), (1, .int q), (2, .int x), (3, .int y)] := hl
  refine jn (P := fun jv => Bo jv (p.toInt ≠ q.toInt ∧ (0 ≤ x.toInt ∧ x.toInt ≤ 400000) ∧ 0 ≤ y.toInt ∧ y.toInt ≤ 400000)) 34 [] (fun j34 k34 => ?_) (fun hJ34 => ?_)
  · exact eZ (v := j34) hx hb hr hlocks (k34).b (k34) dX4_areReplies_34
  · refine lv_iload_n hx hb dX4_areReplies_0 rfl (lv_at hl 0 rfl) ?_
    refine lv_iload_n hx hb dX4_areReplies_1 rfl (lv_at hl 1 rfl) ?_
    refine lv_icmp_eq (tgt := 33) hx hb dX4_areReplies_2 (by decide) (fun c2 => ?_) (fun c2 => ?_)
    · refine lv_iconst (v := nI 0) hx hb dX4_areReplies_33 (by decide) ?_
      exact hJ34 (nI 0) (Or.inr ⟨rfl, fun g => by first | exact g.1 (by rw [c2]) | exact c14 g.2.1 | exact c26 g.2.2⟩)
    · refine lv_iload_n hx hb dX4_areReplies_5 rfl (lv_at hl 2 rfl) ?_
      refine lv_i2l hx hb dX4_areReplies_6 rfl ?_
      refine lv_topl (fun v6 e6 => ?_)
      refine lv_lconst (v := lN 0) hx hb dX4_areReplies_7 (by decide) ?_
      refine lv_ldc2 (v := lN 400000) hx hb hown (hts _ kw_X4_80) dX4_areReplies_8 ?_
      refine goI (rdS (As := [.long v6, .long (lN 0), .long (lN 400000)]) (rest := []) (m_in l K v6 (lN 0) (lN 400000)) ⟨hx, hb, hml, hown, hts⟩ (gS kl_X4_23 kt_X4_in kn_X4 kc_X4_in) (by show okN yX4_in 3; decide +kernel) ⟨⟨Nat.le_of_ble_eq_true rfl, Nat.le_of_ble_eq_true rfl⟩, rfl, rfl⟩ hE hP [] rfl hl.1 rfl (Nat.le_of_ble_eq_true rfl) dX4_areReplies_11 ⟨Nat.le_of_ble_eq_true rfl, Nat.le_of_ble_eq_true rfl⟩) (fun v11 e11 => ?_)
      have e11 : Bo v11 (0 ≤ x.toInt ∧ x.toInt ≤ 400000) := e11.c (by have h1 := i64T x; rw [← e6] at h1; have y0 : (lN 0 : Int64).toInt = 0 := (by decide); have y400000 : (lN 400000 : Int64).toInt = 400000 := (by decide); omega)
      refine lv_if_eq (tgt := 33) hx hb dX4_areReplies_14 (by decide) (fun c14 => ?_) (fun c14 => ?_)
      · have c14 := (e11).f c14
        refine lv_iconst (v := nI 0) hx hb dX4_areReplies_33 (by decide) ?_
        exact hJ34 (nI 0) (Or.inr ⟨rfl, fun g => by first | exact g.1 (by rw [c2]) | exact c14 g.2.1 | exact c26 g.2.2⟩)
      · have c14 := (e11).t c14
        refine lv_iload_n hx hb dX4_areReplies_17 rfl (lv_at hl 3 rfl) ?_
        refine lv_i2l hx hb dX4_areReplies_18 rfl ?_
        refine lv_topl (fun v18 e18 => ?_)
        refine lv_lconst (v := lN 0) hx hb dX4_areReplies_19 (by decide) ?_
        refine lv_ldc2 (v := lN 400000) hx hb hown (hts _ kw_X4_80) dX4_areReplies_20 ?_
        refine goI (rdS (As := [.long v18, .long (lN 0), .long (lN 400000)]) (rest := []) (m_in l K v18 (lN 0) (lN 400000)) ⟨hx, hb, hml, hown, hts⟩ (gS kl_X4_23 kt_X4_in kn_X4 kc_X4_in) (by show okN yX4_in 3; decide +kernel) ⟨⟨Nat.le_of_ble_eq_true rfl, Nat.le_of_ble_eq_true rfl⟩, rfl, rfl⟩ hE hP [] rfl hl.1 rfl (Nat.le_of_ble_eq_true rfl) dX4_areReplies_23 ⟨Nat.le_of_ble_eq_true rfl, Nat.le_of_ble_eq_true rfl⟩) (fun v23 e23 => ?_)
        have e23 : Bo v23 (0 ≤ y.toInt ∧ y.toInt ≤ 400000) := e23.c (by have h1 := i64T y; rw [← e18] at h1; have y0 : (lN 0 : Int64).toInt = 0 := (by decide); have y400000 : (lN 400000 : Int64).toInt = 400000 := (by decide); omega)
        refine lv_if_eq (tgt := 33) hx hb dX4_areReplies_26 (by decide) (fun c26 => ?_) (fun c26 => ?_)
        · have c26 := (e23).f c26
          refine lv_iconst (v := nI 0) hx hb dX4_areReplies_33 (by decide) ?_
          exact hJ34 (nI 0) (Or.inr ⟨rfl, fun g => by first | exact g.1 (by rw [c2]) | exact c14 g.2.1 | exact c26 g.2.2⟩)
        · have c26 := (e23).t c26
          refine lv_iconst (v := nI 1) hx hb dX4_areReplies_29 (by decide) ?_
          refine lv_goto (tgt := 34) hx hb dX4_areReplies_30 (by decide) ?_
          exact hJ34 (nI 1) (Or.inl ⟨rfl, neT c2, c14, c26⟩)
set_option maxHeartbeats 4000000 in
set_option maxRecDepth 100000 in
theorem n_assumed (l : Launch) (K : EK) (b : Nat → Nat) (sm th : Int32) (al : Nat → Int64) (t : Int64) (kn : Nat) (fn : Nat → Int32) (kr : Nat) (fr : Nat → Int32) (kp : Nat) (fp : Nat → Int32) (p0 : Int32) (hC : Cp al (t, (kn, fn), (kr, fr), (kp, fp))) (hSI : SI (t, (kn, fn), (kr, fr), (kp, fp))) (sz : Nat) : Met l yX4_assumed (wq yX4_assumed cX4_assumed 2 (some .int)) (rmL 7 0 0) (va_Pc [.ref (b 0), .int p0] (PW K sz [(b 0, .inr (6, [.ref (b 1), .ref (b 2), .int sm, .int th])), (b 1, .inl (K.2.2.1, 460, .inr (.inl (al))))])) (va_Qi (fun r (u : Int32) => Gs u (0 ≤ p0.toInt ∧ p0.toInt < kn) True True ∧ (u = 0 → (r = fn (ix p0 * 6 + 5)))) (Bw K sz [(b 0, .inr (6, [.ref (b 1), .ref (b 2), .int sm, .int th])), (b 1, .inl (K.2.2.1, 460, .inr (.inl (al))))] (fun (u : Int32) => [(b 0, .inr (6, [.ref (b 1), .ref (b 2), .int sm, .int u])), (b 1, .inl (K.2.2.1, 460, .inr (.inl (al))))])) (va_A [(b 0, .inr (6, [.ref (b 1), .ref (b 2), .int sm, .int th])), (b 1, .inl (K.2.2.1, 460, .inr (.inl (al))))] sz)) 0 0 (va_A [(b 0, .inr (6, [.ref (b 1), .ref (b 2), .int sm, .int th])), (b 1, .inl (K.2.2.1, 460, .inr (.inl (al))))] sz) := by
  refine hdW (by decide +kernel) (Nat.le_of_ble_eq_true rfl) ?_
  intro pp ee s mm bl9 me9 cd hx hb hr hlocks hml hown hin hts hE hP A hAe hsz hA hD hS ls hl
  have hown : s.vm.findClass RX4 = some mm.cls := hown
  have hP : va_P K.1 vwCl [(b 0, .inr (6, [.ref (b 1), .ref (b 2), .int sm, .int th])), (b 1, .inl (K.2.2.1, 460, .inr (.inl (al))))] s.heap := hP
  have hD : va_D A [(b 0, .inr (6, [.ref (b 1), .ref (b 2), .int sm, .int th])), (b 1, .inl (K.2.2.1, 460, .inr (.inl (al))))] := hD
  have hl : lv_has ls 2 [(0, .ref (b 0)), (1, .int p0)] := hl
  have s1 : kn ≤ 6 := hSI.1
  have s2 : kr ≤ 40 := hSI.2.1
  have s3 : kp ≤ 20 := hSI.2.2.1
  have s4 : 0 ≤ t.toInt ∧ t.toInt ≤ 900000000 + 1000000 * (kr : Int) := hSI.2.2.2.1
  have hn : ∀ i, i < kn → nOk fn i := hSI.2.2.2.2.1
  have hrs : ∀ e, e < kr → rOk kn fr e := hSI.2.2.2.2.2.1
  have hps : ∀ k, k < kp → pOk kn fp k := hSI.2.2.2.2.2.2.1
  have h6 := s1
  have h40 := s2
  have h20 := s3
  have h0 : al 0 = t := hC.1
  have h1 : al 1 = lN kn := hC.2.1
  have hN : NodC al kn fn := hC.2.2.1
  have h38 : al 38 = lN kr := hC.2.2.2.1
  have hR : RecC al kr fr := hC.2.2.2.2.1
  have h359 : al 359 = lN kp := hC.2.2.2.2.2.1
  have hPl : PlnC al kp fp := hC.2.2.2.2.2.2
  refine lv_aload_n hx hb dX4_assumed_0 rfl (lv_at hl 0 rfl) ?_
  refine lv_aload_n hx hb dX4_assumed_1 rfl (lv_at hl 0 rfl) ?_
  refine lv_iload_n hx hb dX4_assumed_2 rfl (lv_at hl 1 rfl) ?_
  refine goI (rdV (As := [.int p0]) (rest := [.ref (b 0)]) (m_isNode l K b sm th al kn h6 h1 p0) ⟨hx, hb, hml, hown, hts⟩ (gV kl_X4_64 ki_X4_isNode ks_X4_isNode kn_X4 kc_X4_isNode) (by show okN yX4_isNode 1; decide +kernel) ⟨⟨Nat.le_of_ble_eq_true rfl, Nat.le_of_ble_eq_true rfl⟩, rfl, rfl⟩ hE hP [0, 1] rfl ⟨0, 6, _, _, rfl, rfl, rfl⟩ hl.1 rfl (Nat.le_of_ble_eq_true rfl) dX4_assumed_3 ⟨Nat.le_of_ble_eq_true rfl, Nat.le_of_ble_eq_true rfl⟩) (fun v3 e3 => ?_)
  refine lv_iconst (v := nI 1) hx hb dX4_assumed_6 (by decide) ?_
  refine lv_iconst (v := nI 1) hx hb dX4_assumed_7 (by decide) ?_
  refine woI (wrV (As := [.int v3, .int (nI 1), .int (nI 1)]) (rest := []) (m_goes l K b sm th v3 (nI 1) (nI 1) (0 ≤ p0.toInt ∧ p0.toInt < kn) True True e3 Bo.one Bo.one _) ⟨hx, hb, hml, hown, hts⟩ (gV kl_X4_45 ki_X4_goes ks_X4_goes kn_X4 kc_X4_goes) (by show okN yX4_goes 3; decide +kernel) ⟨⟨Nat.le_of_ble_eq_true rfl, Nat.le_of_ble_eq_true rfl⟩, ⟨rfl, rfl⟩, Nat.le_of_ble_eq_true rfl, Nat.le_of_ble_eq_true rfl⟩ hE hP hD [0] (by decide) rfl ⟨0, 6, _, _, rfl, rfl, rfl⟩ hl.1 rfl (Nat.le_of_ble_eq_true rfl) dX4_assumed_8) hP hD hS hA [(b 1, .inl (K.2.2.1, 460, .inr (.inl (al))))] (fun u => [(b 0, .inr (6, [.ref (b 1), .ref (b 2), .int sm, .int u])), (b 1, .inl (K.2.2.1, 460, .inr (.inl (al))))]) [0] [1] [1, 0] ⟨rfl, rfl, by decide, by decide, by decide, fun _ => rfl⟩ (fun v8 u8 H locs e8 hP hD hS => ?_)
  have hP : va_P K.1 vwCl [(b 0, .inr (6, [.ref (b 1), .ref (b 2), .int sm, .int u8])), (b 1, .inl (K.2.2.1, 460, .inr (.inl (al))))] H := hP
  have hD : va_D A [(b 0, .inr (6, [.ref (b 1), .ref (b 2), .int sm, .int u8])), (b 1, .inl (K.2.2.1, 460, .inr (.inl (al))))] := hD
  obtain ⟨g8, e8⟩ := e8
  refine lv_if_eq (tgt := 24) hx hb dX4_assumed_11 (by decide) (fun c11 => ?_) (fun c11 => ?_)
  · have c11 := (e8).f c11
    refine lv_iconst (v := nI 0) hx hb dX4_assumed_24 (by decide) ?_
    exact fI (v := nI 0) (u8) hx hb hr hlocks hAe hP hD hS [0, 1] (by decide) rfl (⟨g8, fun g => absurd (g8.no g) c11⟩) dX4_assumed_25
  · have c11 := (e8).t c11
    obtain ⟨i, hi, rfl⟩ := ixOf (n := kn) c11.1 (by omega)
    refine lv_aload_n hx hb dX4_assumed_14 rfl (lv_at hl 0 rfl) ?_
    refine lv_iload_n hx hb dX4_assumed_15 rfl (lv_at hl 1 rfl) ?_
    refine lv_iconst (v := nI 5) hx hb dX4_assumed_16 (by decide) ?_
    refine goL (rdV (As := [.int (nI i), .int (nI 5)]) (rest := []) (m_of l K b sm u8 al kn fn h6 hN i 5 hi (by decide)) ⟨hx, hb, hml, hown, hts⟩ (gV kl_X4_56 ki_X4_of ks_X4_of kn_X4 kc_X4_of) (by show okN yX4_of 2; decide +kernel) ⟨⟨Nat.le_of_ble_eq_true rfl, Nat.le_of_ble_eq_true rfl⟩, rfl, rfl⟩ hE hP [0, 1] rfl ⟨0, 6, _, _, rfl, rfl, rfl⟩ hl.1 rfl (Nat.le_of_ble_eq_true rfl) dX4_assumed_17 ⟨Nat.le_of_ble_eq_true rfl, Nat.le_of_ble_eq_true rfl⟩) (fun v17 e17 => ?_)
    refine lv_l2i hx hb dX4_assumed_20 rfl ?_
    refine lv_topi (fun v20 e20 => ?_)
    refine lv_goto (tgt := 25) hx hb dX4_assumed_21 (by decide) ?_
    exact fI (v := v20) (u8) hx hb hr hlocks hAe hP hD hS [0, 1] (by decide) rfl (⟨g8, fun _ => by rw [e20, e17, l2iI, ix_nI (by omega)]⟩) dX4_assumed_25
set_option maxHeartbeats 4000000 in
set_option maxRecDepth 100000 in
theorem n_distance (l : Launch) (K : EK) (b : Nat → Nat) (sm th : Int32) (al : Nat → Int64) (t : Int64) (kn : Nat) (fn : Nat → Int32) (kr : Nat) (fr : Nat → Int32) (kp : Nat) (fp : Nat → Int32) (p0 p1 : Int32) (hC : Cp al (t, (kn, fn), (kr, fr), (kp, fp))) (hSI : SI (t, (kn, fn), (kr, fr), (kp, fp))) (sz : Nat) : Met l yX4_distance (wq yX4_distance cX4_distance 3 (some .int)) (rmL 7 0 0) (va_Pc [.ref (b 0), .int p0, .int p1] (PW K sz [(b 0, .inr (6, [.ref (b 1), .ref (b 2), .int sm, .int th])), (b 1, .inl (K.2.2.1, 460, .inr (.inl (al))))])) (va_Qi (fun r (u : Int32) => Gs u ((0 ≤ p0.toInt ∧ p0.toInt < kn) ∧ 0 ≤ p1.toInt ∧ p1.toInt < kn) True True ∧ (u = 0 → (r = nI (dst fn (ix p0) (ix p1))))) (Bw K sz [(b 0, .inr (6, [.ref (b 1), .ref (b 2), .int sm, .int th])), (b 1, .inl (K.2.2.1, 460, .inr (.inl (al))))] (fun (u : Int32) => [(b 0, .inr (6, [.ref (b 1), .ref (b 2), .int sm, .int u])), (b 1, .inl (K.2.2.1, 460, .inr (.inl (al))))])) (va_A [(b 0, .inr (6, [.ref (b 1), .ref (b 2), .int sm, .int th])), (b 1, .inl (K.2.2.1, 460, .inr (.inl (al))))] sz)) 0 0 (va_A [(b 0, .inr (6, [.ref (b 1), .ref (b 2), .int sm, .int th])), (b 1, .inl (K.2.2.1, 460, .inr (.inl (al))))] sz) := by
  refine hdW (by decide +kernel) (Nat.le_of_ble_eq_true rfl) ?_
  intro pp ee s mm bl9 me9 cd hx hb hr hlocks hml hown hin hts hE hP A hAe hsz hA hD hS ls hl
  have hown : s.vm.findClass RX4 = some mm.cls := hown
  have hP : va_P K.1 vwCl [(b 0, .inr (6, [.ref (b 1), .ref (b 2), .int sm, .int th])), (b 1, .inl (K.2.2.1, 460, .inr (.inl (al))))] s.heap := hP
  have hD : va_D A [(b 0, .inr (6, [.ref (b 1), .ref (b 2), .int sm, .int th])), (b 1, .inl (K.2.2.1, 460, .inr (.inl (al))))] := hD
  have hl : lv_has ls 3 [(0, .ref (b 0)), (1, .int p0), (2, .int p1)] := hl
  have s1 : kn ≤ 6 := hSI.1
  have s2 : kr ≤ 40 := hSI.2.1
  have s3 : kp ≤ 20 := hSI.2.2.1
  have s4 : 0 ≤ t.toInt ∧ t.toInt ≤ 900000000 + 1000000 * (kr : Int) := hSI.2.2.2.1
  have hn : ∀ i, i < kn → nOk fn i := hSI.2.2.2.2.1
  have hrs : ∀ e, e < kr → rOk kn fr e := hSI.2.2.2.2.2.1
  have hps : ∀ k, k < kp → pOk kn fp k := hSI.2.2.2.2.2.2.1
  have h6 := s1
  have h40 := s2
  have h20 := s3
  have h0 : al 0 = t := hC.1
  have h1 : al 1 = lN kn := hC.2.1
  have hN : NodC al kn fn := hC.2.2.1
  have h38 : al 38 = lN kr := hC.2.2.2.1
  have hR : RecC al kr fr := hC.2.2.2.2.1
  have h359 : al 359 = lN kp := hC.2.2.2.2.2.1
  have hPl : PlnC al kp fp := hC.2.2.2.2.2.2
  refine lv_aload_n hx hb dX4_distance_0 rfl (lv_at hl 0 rfl) ?_
  refine jn (P := fun jv => Bo jv ((0 ≤ p0.toInt ∧ p0.toInt < kn) ∧ 0 ≤ p1.toInt ∧ p1.toInt < kn)) 22 [.ref (b 0)] (fun j22 k22 => ?_) (fun hJ22 => ?_)
  · refine lv_iconst (v := nI 1) hx hb dX4_distance_22 (by decide) ?_
    refine lv_iconst (v := nI 1) hx hb dX4_distance_23 (by decide) ?_
    refine woI (wrV (As := [.int j22, .int (nI 1), .int (nI 1)]) (rest := []) (m_goes l K b sm th j22 (nI 1) (nI 1) ((0 ≤ p0.toInt ∧ p0.toInt < kn) ∧ 0 ≤ p1.toInt ∧ p1.toInt < kn) True True k22 Bo.one Bo.one _) ⟨hx, hb, hml, hown, hts⟩ (gV kl_X4_45 ki_X4_goes ks_X4_goes kn_X4 kc_X4_goes) (by show okN yX4_goes 3; decide +kernel) ⟨⟨Nat.le_of_ble_eq_true rfl, Nat.le_of_ble_eq_true rfl⟩, ⟨rfl, rfl⟩, Nat.le_of_ble_eq_true rfl, Nat.le_of_ble_eq_true rfl⟩ hE hP hD [0] (by decide) rfl ⟨0, 6, _, _, rfl, rfl, rfl⟩ hl.1 rfl (Nat.le_of_ble_eq_true rfl) dX4_distance_24) hP hD hS hA [(b 1, .inl (K.2.2.1, 460, .inr (.inl (al))))] (fun u => [(b 0, .inr (6, [.ref (b 1), .ref (b 2), .int sm, .int u])), (b 1, .inl (K.2.2.1, 460, .inr (.inl (al))))]) [0] [1] [1, 0] ⟨rfl, rfl, by decide, by decide, by decide, fun _ => rfl⟩ (fun v24 u24 H locs e24 hP hD hS => ?_)
    have hP : va_P K.1 vwCl [(b 0, .inr (6, [.ref (b 1), .ref (b 2), .int sm, .int u24])), (b 1, .inl (K.2.2.1, 460, .inr (.inl (al))))] H := hP
    have hD : va_D A [(b 0, .inr (6, [.ref (b 1), .ref (b 2), .int sm, .int u24])), (b 1, .inl (K.2.2.1, 460, .inr (.inl (al))))] := hD
    obtain ⟨g24, e24⟩ := e24
    refine lv_if_eq (tgt := 40) hx hb dX4_distance_27 (by decide) (fun c27 => ?_) (fun c27 => ?_)
    · have c27 := (e24).f c27
      refine lv_iconst (v := nI 0) hx hb dX4_distance_40 (by decide) ?_
      exact fI (v := nI 0) (u24) hx hb hr hlocks hAe hP hD hS [0, 1] (by decide) rfl (⟨g24, fun g => absurd (g24.no g) c27⟩) dX4_distance_41
    · have c27 := (e24).t c27
      obtain ⟨i, hi, rfl⟩ := ixOf (n := kn) c27.1.1 (by omega)
      obtain ⟨j, hj, rfl⟩ := ixOf (n := kn) c27.1.2 (by omega)
      refine lv_aload_n hx hb dX4_distance_30 rfl (lv_at hl 0 rfl) ?_
      refine lv_iload_n hx hb dX4_distance_31 rfl (lv_at hl 1 rfl) ?_
      refine lv_iload_n hx hb dX4_distance_32 rfl (lv_at hl 2 rfl) ?_
      refine goL (rdV (As := [.int (nI i), .int (nI j)]) (rest := []) (m_distanceOf l K b sm u24 al kn fn h6 hN i j hi hj (hn _ hi) (hn _ hj)) ⟨hx, hb, hml, hown, hts⟩ (gV kl_X4_67 ki_X4_distanceOf ks_X4_distanceOf kn_X4 kc_X4_distanceOf) (by show okN yX4_distanceOf 2; decide +kernel) ⟨⟨Nat.le_of_ble_eq_true rfl, Nat.le_of_ble_eq_true rfl⟩, rfl, rfl⟩ hE hP [0, 1] rfl ⟨0, 6, _, _, rfl, rfl, rfl⟩ hl.1 rfl (Nat.le_of_ble_eq_true rfl) dX4_distance_33 ⟨Nat.le_of_ble_eq_true rfl, Nat.le_of_ble_eq_true rfl⟩) (fun v33 e33 => ?_)
      refine lv_l2i hx hb dX4_distance_36 rfl ?_
      refine lv_topi (fun v36 e36 => ?_)
      refine lv_goto (tgt := 41) hx hb dX4_distance_37 (by decide) ?_
      exact fI (v := v36) (u24) hx hb hr hlocks hAe hP hD hS [0, 1] (by decide) rfl (⟨g24, fun _ => by rw [e36, e33, l2iN (by have := dst_lt (hn _ hi) (hn _ hj); omega), ix_nI (by omega), ix_nI (by omega)]⟩) dX4_distance_41
  · refine lv_aload_n hx hb dX4_distance_1 rfl (lv_at hl 0 rfl) ?_
    refine lv_iload_n hx hb dX4_distance_2 rfl (lv_at hl 1 rfl) ?_
    refine goI (rdV (As := [.int p0]) (rest := [.ref (b 0)]) (m_isNode l K b sm th al kn h6 h1 p0) ⟨hx, hb, hml, hown, hts⟩ (gV kl_X4_64 ki_X4_isNode ks_X4_isNode kn_X4 kc_X4_isNode) (by show okN yX4_isNode 1; decide +kernel) ⟨⟨Nat.le_of_ble_eq_true rfl, Nat.le_of_ble_eq_true rfl⟩, rfl, rfl⟩ hE hP [0, 1] rfl ⟨0, 6, _, _, rfl, rfl, rfl⟩ hl.1 rfl (Nat.le_of_ble_eq_true rfl) dX4_distance_3 ⟨Nat.le_of_ble_eq_true rfl, Nat.le_of_ble_eq_true rfl⟩) (fun v3 e3 => ?_)
    refine lv_if_eq (tgt := 21) hx hb dX4_distance_6 (by decide) (fun c6 => ?_) (fun c6 => ?_)
    · have c6 := (e3).f c6
      refine lv_iconst (v := nI 0) hx hb dX4_distance_21 (by decide) ?_
      exact hJ22 (nI 0) (Or.inr ⟨rfl, by omega⟩)
    · have c6 := (e3).t c6
      refine lv_aload_n hx hb dX4_distance_9 rfl (lv_at hl 0 rfl) ?_
      refine lv_iload_n hx hb dX4_distance_10 rfl (lv_at hl 2 rfl) ?_
      refine goI (rdV (As := [.int p1]) (rest := [.ref (b 0)]) (m_isNode l K b sm th al kn h6 h1 p1) ⟨hx, hb, hml, hown, hts⟩ (gV kl_X4_64 ki_X4_isNode ks_X4_isNode kn_X4 kc_X4_isNode) (by show okN yX4_isNode 1; decide +kernel) ⟨⟨Nat.le_of_ble_eq_true rfl, Nat.le_of_ble_eq_true rfl⟩, rfl, rfl⟩ hE hP [0, 1] rfl ⟨0, 6, _, _, rfl, rfl, rfl⟩ hl.1 rfl (Nat.le_of_ble_eq_true rfl) dX4_distance_11 ⟨Nat.le_of_ble_eq_true rfl, Nat.le_of_ble_eq_true rfl⟩) (fun v11 e11 => ?_)
      refine lv_if_eq (tgt := 21) hx hb dX4_distance_14 (by decide) (fun c14 => ?_) (fun c14 => ?_)
      · have c14 := (e11).f c14
        refine lv_iconst (v := nI 0) hx hb dX4_distance_21 (by decide) ?_
        exact hJ22 (nI 0) (Or.inr ⟨rfl, by omega⟩)
      · have c14 := (e11).t c14
        refine lv_iconst (v := nI 1) hx hb dX4_distance_17 (by decide) ?_
        refine lv_goto (tgt := 22) hx hb dX4_distance_18 (by decide) ?_
        exact hJ22 (nI 1) (Or.inl ⟨rfl, by omega⟩)
set_option maxHeartbeats 4000000 in
set_option maxRecDepth 100000 in
theorem n_counter (l : Launch) (K : EK) (b : Nat → Nat) (sm th : Int32) (al : Nat → Int64) (t : Int64) (kn : Nat) (fn : Nat → Int32) (kr : Nat) (fr : Nat → Int32) (kp : Nat) (fp : Nat → Int32) (p0 p1 : Int32) (hC : Cp al (t, (kn, fn), (kr, fr), (kp, fp))) (hSI : SI (t, (kn, fn), (kr, fr), (kp, fp))) (sz : Nat) : Met l yX4_counter (wq yX4_counter cX4_counter 3 (some .int)) (rmL 7 0 0) (va_Pc [.ref (b 0), .int p0, .int p1] (PW K sz [(b 0, .inr (6, [.ref (b 1), .ref (b 2), .int sm, .int th])), (b 1, .inl (K.2.2.1, 460, .inr (.inl (al))))])) (va_Qi (fun r (u : Int32) => Gs u (0 ≤ p0.toInt ∧ p0.toInt < kn) (0 ≤ p1.toInt ∧ p1.toInt ≤ 1000000000) True ∧ (u = 0 → (r.toInt = ctr fn (ix p0) p1.toInt))) (Bw K sz [(b 0, .inr (6, [.ref (b 1), .ref (b 2), .int sm, .int th])), (b 1, .inl (K.2.2.1, 460, .inr (.inl (al))))] (fun (u : Int32) => [(b 0, .inr (6, [.ref (b 1), .ref (b 2), .int sm, .int u])), (b 1, .inl (K.2.2.1, 460, .inr (.inl (al))))])) (va_A [(b 0, .inr (6, [.ref (b 1), .ref (b 2), .int sm, .int th])), (b 1, .inl (K.2.2.1, 460, .inr (.inl (al))))] sz)) 0 0 (va_A [(b 0, .inr (6, [.ref (b 1), .ref (b 2), .int sm, .int th])), (b 1, .inl (K.2.2.1, 460, .inr (.inl (al))))] sz) := by
  refine hdW (by decide +kernel) (Nat.le_of_ble_eq_true rfl) ?_
  intro pp ee s mm bl9 me9 cd hx hb hr hlocks hml hown hin hts hE hP A hAe hsz hA hD hS ls hl
  have hown : s.vm.findClass RX4 = some mm.cls := hown
  have hP : va_P K.1 vwCl [(b 0, .inr (6, [.ref (b 1), .ref (b 2), .int sm, .int th])), (b 1, .inl (K.2.2.1, 460, .inr (.inl (al))))] s.heap := hP
  have hD : va_D A [(b 0, .inr (6, [.ref (b 1), .ref (b 2), .int sm, .int th])), (b 1, .inl (K.2.2.1, 460, .inr (.inl (al))))] := hD
  have hl : lv_has ls 3 [(0, .ref (b 0)), (1, .int p0), (2, .int p1)] := hl
  have s1 : kn ≤ 6 := hSI.1
  have s2 : kr ≤ 40 := hSI.2.1
  have s3 : kp ≤ 20 := hSI.2.2.1
  have s4 : 0 ≤ t.toInt ∧ t.toInt ≤ 900000000 + 1000000 * (kr : Int) := hSI.2.2.2.1
  have hn : ∀ i, i < kn → nOk fn i := hSI.2.2.2.2.1
  have hrs : ∀ e, e < kr → rOk kn fr e := hSI.2.2.2.2.2.1
  have hps : ∀ k, k < kp → pOk kn fp k := hSI.2.2.2.2.2.2.1
  have h6 := s1
  have h40 := s2
  have h20 := s3
  have h0 : al 0 = t := hC.1
  have h1 : al 1 = lN kn := hC.2.1
  have hN : NodC al kn fn := hC.2.2.1
  have h38 : al 38 = lN kr := hC.2.2.2.1
  have hR : RecC al kr fr := hC.2.2.2.2.1
  have h359 : al 359 = lN kp := hC.2.2.2.2.2.1
  have hPl : PlnC al kp fp := hC.2.2.2.2.2.2
  refine lv_aload_n hx hb dX4_counter_0 rfl (lv_at hl 0 rfl) ?_
  refine lv_aload_n hx hb dX4_counter_1 rfl (lv_at hl 0 rfl) ?_
  refine lv_iload_n hx hb dX4_counter_2 rfl (lv_at hl 1 rfl) ?_
  refine goI (rdV (As := [.int p0]) (rest := [.ref (b 0)]) (m_isNode l K b sm th al kn h6 h1 p0) ⟨hx, hb, hml, hown, hts⟩ (gV kl_X4_64 ki_X4_isNode ks_X4_isNode kn_X4 kc_X4_isNode) (by show okN yX4_isNode 1; decide +kernel) ⟨⟨Nat.le_of_ble_eq_true rfl, Nat.le_of_ble_eq_true rfl⟩, rfl, rfl⟩ hE hP [0, 1] rfl ⟨0, 6, _, _, rfl, rfl, rfl⟩ hl.1 rfl (Nat.le_of_ble_eq_true rfl) dX4_counter_3 ⟨Nat.le_of_ble_eq_true rfl, Nat.le_of_ble_eq_true rfl⟩) (fun v3 e3 => ?_)
  refine lv_iload_n hx hb dX4_counter_6 rfl (lv_at hl 2 rfl) ?_
  refine lv_i2l hx hb dX4_counter_7 rfl ?_
  refine lv_topl (fun v7 e7 => ?_)
  refine lv_lconst (v := lN 0) hx hb dX4_counter_8 (by decide) ?_
  refine lv_ldc2 (v := lN 1000000000) hx hb hown (hts _ kw_X4_74) dX4_counter_9 ?_
  refine goI (rdS (As := [.long v7, .long (lN 0), .long (lN 1000000000)]) (rest := [.int v3, .ref (b 0)]) (m_in l K v7 (lN 0) (lN 1000000000)) ⟨hx, hb, hml, hown, hts⟩ (gS kl_X4_23 kt_X4_in kn_X4 kc_X4_in) (by show okN yX4_in 3; decide +kernel) ⟨⟨Nat.le_of_ble_eq_true rfl, Nat.le_of_ble_eq_true rfl⟩, rfl, rfl⟩ hE hP [] rfl hl.1 rfl (Nat.le_of_ble_eq_true rfl) dX4_counter_12 ⟨Nat.le_of_ble_eq_true rfl, Nat.le_of_ble_eq_true rfl⟩) (fun v12 e12 => ?_)
  have e12 : Bo v12 (0 ≤ p1.toInt ∧ p1.toInt ≤ 1000000000) := e12.c (by have h1 := i64T p1; rw [← e7] at h1; have y0 : (lN 0 : Int64).toInt = 0 := (by decide); have y1000000000 : (lN 1000000000 : Int64).toInt = 1000000000 := (by decide); omega)
  refine lv_iconst (v := nI 1) hx hb dX4_counter_15 (by decide) ?_
  refine woI (wrV (As := [.int v3, .int v12, .int (nI 1)]) (rest := []) (m_goes l K b sm th v3 v12 (nI 1) (0 ≤ p0.toInt ∧ p0.toInt < kn) (0 ≤ p1.toInt ∧ p1.toInt ≤ 1000000000) True e3 e12 Bo.one _) ⟨hx, hb, hml, hown, hts⟩ (gV kl_X4_45 ki_X4_goes ks_X4_goes kn_X4 kc_X4_goes) (by show okN yX4_goes 3; decide +kernel) ⟨⟨Nat.le_of_ble_eq_true rfl, Nat.le_of_ble_eq_true rfl⟩, ⟨rfl, rfl⟩, Nat.le_of_ble_eq_true rfl, Nat.le_of_ble_eq_true rfl⟩ hE hP hD [0] (by decide) rfl ⟨0, 6, _, _, rfl, rfl, rfl⟩ hl.1 rfl (Nat.le_of_ble_eq_true rfl) dX4_counter_16) hP hD hS hA [(b 1, .inl (K.2.2.1, 460, .inr (.inl (al))))] (fun u => [(b 0, .inr (6, [.ref (b 1), .ref (b 2), .int sm, .int u])), (b 1, .inl (K.2.2.1, 460, .inr (.inl (al))))]) [0] [1] [1, 0] ⟨rfl, rfl, by decide, by decide, by decide, fun _ => rfl⟩ (fun v16 u16 H locs e16 hP hD hS => ?_)
  have hP : va_P K.1 vwCl [(b 0, .inr (6, [.ref (b 1), .ref (b 2), .int sm, .int u16])), (b 1, .inl (K.2.2.1, 460, .inr (.inl (al))))] H := hP
  have hD : va_D A [(b 0, .inr (6, [.ref (b 1), .ref (b 2), .int sm, .int u16])), (b 1, .inl (K.2.2.1, 460, .inr (.inl (al))))] := hD
  obtain ⟨g16, e16⟩ := e16
  refine lv_if_eq (tgt := 33) hx hb dX4_counter_19 (by decide) (fun c19 => ?_) (fun c19 => ?_)
  · have c19 := (e16).f c19
    refine lv_iconst (v := nI 0) hx hb dX4_counter_33 (by decide) ?_
    exact fI (v := nI 0) (u16) hx hb hr hlocks hAe hP hD hS [0, 1] (by decide) rfl (⟨g16, fun g => absurd (g16.no g) c19⟩) dX4_counter_34
  · have c19 := (e16).t c19
    obtain ⟨i, hi, rfl⟩ := ixOf (n := kn) c19.1 (by omega)
    refine lv_aload_n hx hb dX4_counter_22 rfl (lv_at hl 0 rfl) ?_
    refine lv_iload_n hx hb dX4_counter_23 rfl (lv_at hl 1 rfl) ?_
    refine lv_iload_n hx hb dX4_counter_24 rfl (lv_at hl 2 rfl) ?_
    refine lv_i2l hx hb dX4_counter_25 rfl ?_
    refine lv_topl (fun v25 e25 => ?_)
    refine goL (rdV (As := [.int (nI i), .long v25]) (rest := []) (m_counterAt l K b sm u16 al kn fn h6 hN i v25 hi (hn _ hi) (by rw [e25, i64T]; omega)) ⟨hx, hb, hml, hown, hts⟩ (gV kl_X4_76 ki_X4_counterAt ks_X4_counterAt kn_X4 kc_X4_counterAt) (by show okN yX4_counterAt 2; decide +kernel) ⟨⟨Nat.le_of_ble_eq_true rfl, Nat.le_of_ble_eq_true rfl⟩, rfl, rfl⟩ hE hP [0, 1] rfl ⟨0, 6, _, _, rfl, rfl, rfl⟩ hl.1 rfl (Nat.le_of_ble_eq_true rfl) dX4_counter_26 ⟨Nat.le_of_ble_eq_true rfl, Nat.le_of_ble_eq_true rfl⟩) (fun v26 e26 => ?_)
    refine lv_l2i hx hb dX4_counter_29 rfl ?_
    refine lv_topi (fun v29 e29 => ?_)
    refine lv_goto (tgt := 34) hx hb dX4_counter_30 (by decide) ?_
    have k9 := ctr_rng fn i v25.toInt
    exact fI (v := v29) (u16) hx hb hr hlocks hAe hP hD hS [0, 1] (by decide) rfl (⟨g16, fun _ => by rw [e29, i32T (by rw [e26]; omega) (by rw [e26]; omega), e26, e25, i64T, ix_nI (by omega)]⟩) dX4_counter_34
set_option maxHeartbeats 4000000 in
set_option maxRecDepth 100000 in
theorem n_stamp (l : Launch) (K : EK) (b : Nat → Nat) (sm th : Int32) (al : Nat → Int64) (t : Int64) (kn : Nat) (fn : Nat → Int32) (kr : Nat) (fr : Nat → Int32) (kp : Nat) (fp : Nat → Int32) (p0 p1 : Int32) (hC : Cp al (t, (kn, fn), (kr, fr), (kp, fp))) (hSI : SI (t, (kn, fn), (kr, fr), (kp, fp))) (sz : Nat) : Met l yX4_stamp (wq yX4_stamp cX4_stamp 3 (some .int)) (rmL 7 0 0) (va_Pc [.ref (b 0), .int p0, .int p1] (PW K sz [(b 0, .inr (6, [.ref (b 1), .ref (b 2), .int sm, .int th])), (b 1, .inl (K.2.2.1, 460, .inr (.inl (al))))])) (va_Qi (fun r (u : Int32) => Gs u (0 ≤ p0.toInt ∧ p0.toInt < kr) (1 ≤ p1.toInt ∧ p1.toInt ≤ 6) True ∧ (u = 0 → (r = fr (ix p0 * 8 + (ix p1 + 1))))) (Bw K sz [(b 0, .inr (6, [.ref (b 1), .ref (b 2), .int sm, .int th])), (b 1, .inl (K.2.2.1, 460, .inr (.inl (al))))] (fun (u : Int32) => [(b 0, .inr (6, [.ref (b 1), .ref (b 2), .int sm, .int u])), (b 1, .inl (K.2.2.1, 460, .inr (.inl (al))))])) (va_A [(b 0, .inr (6, [.ref (b 1), .ref (b 2), .int sm, .int th])), (b 1, .inl (K.2.2.1, 460, .inr (.inl (al))))] sz)) 0 0 (va_A [(b 0, .inr (6, [.ref (b 1), .ref (b 2), .int sm, .int th])), (b 1, .inl (K.2.2.1, 460, .inr (.inl (al))))] sz) := by
  refine hdW (by decide +kernel) (Nat.le_of_ble_eq_true rfl) ?_
  intro pp ee s mm bl9 me9 cd hx hb hr hlocks hml hown hin hts hE hP A hAe hsz hA hD hS ls hl
  have hown : s.vm.findClass RX4 = some mm.cls := hown
  have hP : va_P K.1 vwCl [(b 0, .inr (6, [.ref (b 1), .ref (b 2), .int sm, .int th])), (b 1, .inl (K.2.2.1, 460, .inr (.inl (al))))] s.heap := hP
  have hD : va_D A [(b 0, .inr (6, [.ref (b 1), .ref (b 2), .int sm, .int th])), (b 1, .inl (K.2.2.1, 460, .inr (.inl (al))))] := hD
  have hl : lv_has ls 3 [(0, .ref (b 0)), (1, .int p0), (2, .int p1)] := hl
  have s1 : kn ≤ 6 := hSI.1
  have s2 : kr ≤ 40 := hSI.2.1
  have s3 : kp ≤ 20 := hSI.2.2.1
  have s4 : 0 ≤ t.toInt ∧ t.toInt ≤ 900000000 + 1000000 * (kr : Int) := hSI.2.2.2.1
  have hn : ∀ i, i < kn → nOk fn i := hSI.2.2.2.2.1
  have hrs : ∀ e, e < kr → rOk kn fr e := hSI.2.2.2.2.2.1
  have hps : ∀ k, k < kp → pOk kn fp k := hSI.2.2.2.2.2.2.1
  have h6 := s1
  have h40 := s2
  have h20 := s3
  have h0 : al 0 = t := hC.1
  have h1 : al 1 = lN kn := hC.2.1
  have hN : NodC al kn fn := hC.2.2.1
  have h38 : al 38 = lN kr := hC.2.2.2.1
  have hR : RecC al kr fr := hC.2.2.2.2.1
  have h359 : al 359 = lN kp := hC.2.2.2.2.2.1
  have hPl : PlnC al kp fp := hC.2.2.2.2.2.2
  refine lv_aload_n hx hb dX4_stamp_0 rfl (lv_at hl 0 rfl) ?_
  refine lv_aload_n hx hb dX4_stamp_1 rfl (lv_at hl 0 rfl) ?_
  refine lv_iload_n hx hb dX4_stamp_2 rfl (lv_at hl 1 rfl) ?_
  refine goI (rdV (As := [.int p0]) (rest := [.ref (b 0)]) (m_isExchange l K b sm th al kr h40 h38 p0) ⟨hx, hb, hml, hown, hts⟩ (gV kl_X4_104 ki_X4_isExchange ks_X4_isExchange kn_X4 kc_X4_isExchange) (by show okN yX4_isExchange 1; decide +kernel) ⟨⟨Nat.le_of_ble_eq_true rfl, Nat.le_of_ble_eq_true rfl⟩, rfl, rfl⟩ hE hP [0, 1] rfl ⟨0, 6, _, _, rfl, rfl, rfl⟩ hl.1 rfl (Nat.le_of_ble_eq_true rfl) dX4_stamp_3 ⟨Nat.le_of_ble_eq_true rfl, Nat.le_of_ble_eq_true rfl⟩) (fun v3 e3 => ?_)
  refine lv_iload_n hx hb dX4_stamp_6 rfl (lv_at hl 2 rfl) ?_
  refine lv_i2l hx hb dX4_stamp_7 rfl ?_
  refine lv_topl (fun v7 e7 => ?_)
  refine lv_lconst (v := lN 1) hx hb dX4_stamp_8 (by decide) ?_
  refine lv_ldc2 (v := lN 6) hx hb hown (hts _ kw_X4_43) dX4_stamp_9 ?_
  refine goI (rdS (As := [.long v7, .long (lN 1), .long (lN 6)]) (rest := [.int v3, .ref (b 0)]) (m_in l K v7 (lN 1) (lN 6)) ⟨hx, hb, hml, hown, hts⟩ (gS kl_X4_23 kt_X4_in kn_X4 kc_X4_in) (by show okN yX4_in 3; decide +kernel) ⟨⟨Nat.le_of_ble_eq_true rfl, Nat.le_of_ble_eq_true rfl⟩, rfl, rfl⟩ hE hP [] rfl hl.1 rfl (Nat.le_of_ble_eq_true rfl) dX4_stamp_12 ⟨Nat.le_of_ble_eq_true rfl, Nat.le_of_ble_eq_true rfl⟩) (fun v12 e12 => ?_)
  have e12 : Bo v12 (1 ≤ p1.toInt ∧ p1.toInt ≤ 6) := e12.c (by have h1 := i64T p1; rw [← e7] at h1; have y1 : (lN 1 : Int64).toInt = 1 := (by decide); have y6 : (lN 6 : Int64).toInt = 6 := (by decide); omega)
  refine lv_iconst (v := nI 1) hx hb dX4_stamp_15 (by decide) ?_
  refine woI (wrV (As := [.int v3, .int v12, .int (nI 1)]) (rest := []) (m_goes l K b sm th v3 v12 (nI 1) (0 ≤ p0.toInt ∧ p0.toInt < kr) (1 ≤ p1.toInt ∧ p1.toInt ≤ 6) True e3 e12 Bo.one _) ⟨hx, hb, hml, hown, hts⟩ (gV kl_X4_45 ki_X4_goes ks_X4_goes kn_X4 kc_X4_goes) (by show okN yX4_goes 3; decide +kernel) ⟨⟨Nat.le_of_ble_eq_true rfl, Nat.le_of_ble_eq_true rfl⟩, ⟨rfl, rfl⟩, Nat.le_of_ble_eq_true rfl, Nat.le_of_ble_eq_true rfl⟩ hE hP hD [0] (by decide) rfl ⟨0, 6, _, _, rfl, rfl, rfl⟩ hl.1 rfl (Nat.le_of_ble_eq_true rfl) dX4_stamp_16) hP hD hS hA [(b 1, .inl (K.2.2.1, 460, .inr (.inl (al))))] (fun u => [(b 0, .inr (6, [.ref (b 1), .ref (b 2), .int sm, .int u])), (b 1, .inl (K.2.2.1, 460, .inr (.inl (al))))]) [0] [1] [1, 0] ⟨rfl, rfl, by decide, by decide, by decide, fun _ => rfl⟩ (fun v16 u16 H locs e16 hP hD hS => ?_)
  have hP : va_P K.1 vwCl [(b 0, .inr (6, [.ref (b 1), .ref (b 2), .int sm, .int u16])), (b 1, .inl (K.2.2.1, 460, .inr (.inl (al))))] H := hP
  have hD : va_D A [(b 0, .inr (6, [.ref (b 1), .ref (b 2), .int sm, .int u16])), (b 1, .inl (K.2.2.1, 460, .inr (.inl (al))))] := hD
  obtain ⟨g16, e16⟩ := e16
  refine lv_if_eq (tgt := 34) hx hb dX4_stamp_19 (by decide) (fun c19 => ?_) (fun c19 => ?_)
  · have c19 := (e16).f c19
    refine lv_iconst (v := nI 0) hx hb dX4_stamp_34 (by decide) ?_
    exact fI (v := nI 0) (u16) hx hb hr hlocks hAe hP hD hS [0, 1] (by decide) rfl (⟨g16, fun g => absurd (g16.no g) c19⟩) dX4_stamp_35
  · have c19 := (e16).t c19
    obtain ⟨i, hi, rfl⟩ := ixOf (n := kr) c19.1 (by omega)
    obtain ⟨j, hj, rfl⟩ := ixLe (n := 6) (show 0 ≤ p1.toInt ∧ p1.toInt ≤ (6 : Nat) by omega) (by omega)
    refine lv_aload_n hx hb dX4_stamp_22 rfl (lv_at hl 0 rfl) ?_
    refine lv_iload_n hx hb dX4_stamp_23 rfl (lv_at hl 1 rfl) ?_
    refine lv_iconst (v := nI 1) hx hb dX4_stamp_24 (by decide) ?_
    refine lv_iload_n hx hb dX4_stamp_25 rfl (lv_at hl 2 rfl) ?_
    refine lv_iadd hx hb dX4_stamp_26 ?_
    rw [nI_add 1 j]
    refine goL (rdV (As := [.int (nI i), .int (nI (1 + j))]) (rest := []) (m_inExchange l K b sm u16 al kr fr h40 hR i (1 + j) hi (by omega)) ⟨hx, hb, hml, hown, hts⟩ (gV kl_X4_107 ki_X4_inExchange ks_X4_inExchange kn_X4 kc_X4_inExchange) (by show okN yX4_inExchange 2; decide +kernel) ⟨⟨Nat.le_of_ble_eq_true rfl, Nat.le_of_ble_eq_true rfl⟩, rfl, rfl⟩ hE hP [0, 1] rfl ⟨0, 6, _, _, rfl, rfl, rfl⟩ hl.1 rfl (Nat.le_of_ble_eq_true rfl) dX4_stamp_27 ⟨Nat.le_of_ble_eq_true rfl, Nat.le_of_ble_eq_true rfl⟩) (fun v27 e27 => ?_)
    refine lv_l2i hx hb dX4_stamp_30 rfl ?_
    refine lv_topi (fun v30 e30 => ?_)
    refine lv_goto (tgt := 35) hx hb dX4_stamp_31 (by decide) ?_
    exact fI (v := v30) (u16) hx hb hr hlocks hAe hP hD hS [0, 1] (by decide) rfl (⟨g16, fun _ => by rw [e30, e27, l2iI, ix_nI (by omega), ix_nI (by omega)]; congr 1; omega⟩) dX4_stamp_35
set_option maxHeartbeats 4000000 in
set_option maxRecDepth 100000 in
theorem n_party (l : Launch) (K : EK) (b : Nat → Nat) (sm th : Int32) (al : Nat → Int64) (t : Int64) (kn : Nat) (fn : Nat → Int32) (kr : Nat) (fr : Nat → Int32) (kp : Nat) (fp : Nat → Int32) (p0 p1 : Int32) (hC : Cp al (t, (kn, fn), (kr, fr), (kp, fp))) (hSI : SI (t, (kn, fn), (kr, fr), (kp, fp))) (sz : Nat) : Met l yX4_party (wq yX4_party cX4_party 3 (some .int)) (rmL 7 0 0) (va_Pc [.ref (b 0), .int p0, .int p1] (PW K sz [(b 0, .inr (6, [.ref (b 1), .ref (b 2), .int sm, .int th])), (b 1, .inl (K.2.2.1, 460, .inr (.inl (al))))])) (va_Qi (fun r (u : Int32) => Gs u (0 ≤ p0.toInt ∧ p0.toInt < kr) (0 ≤ p1.toInt ∧ p1.toInt ≤ 1) True ∧ (u = 0 → (r = fr (ix p0 * 8 + ix p1)))) (Bw K sz [(b 0, .inr (6, [.ref (b 1), .ref (b 2), .int sm, .int th])), (b 1, .inl (K.2.2.1, 460, .inr (.inl (al))))] (fun (u : Int32) => [(b 0, .inr (6, [.ref (b 1), .ref (b 2), .int sm, .int u])), (b 1, .inl (K.2.2.1, 460, .inr (.inl (al))))])) (va_A [(b 0, .inr (6, [.ref (b 1), .ref (b 2), .int sm, .int th])), (b 1, .inl (K.2.2.1, 460, .inr (.inl (al))))] sz)) 0 0 (va_A [(b 0, .inr (6, [.ref (b 1), .ref (b 2), .int sm, .int th])), (b 1, .inl (K.2.2.1, 460, .inr (.inl (al))))] sz) := by
  refine hdW (by decide +kernel) (Nat.le_of_ble_eq_true rfl) ?_
  intro pp ee s mm bl9 me9 cd hx hb hr hlocks hml hown hin hts hE hP A hAe hsz hA hD hS ls hl
  have hown : s.vm.findClass RX4 = some mm.cls := hown
  have hP : va_P K.1 vwCl [(b 0, .inr (6, [.ref (b 1), .ref (b 2), .int sm, .int th])), (b 1, .inl (K.2.2.1, 460, .inr (.inl (al))))] s.heap := hP
  have hD : va_D A [(b 0, .inr (6, [.ref (b 1), .ref (b 2), .int sm, .int th])), (b 1, .inl (K.2.2.1, 460, .inr (.inl (al))))] := hD
  have hl : lv_has ls 3 [(0, .ref (b 0)), (1, .int p0), (2, .int p1)] := hl
  have s1 : kn ≤ 6 := hSI.1
  have s2 : kr ≤ 40 := hSI.2.1
  have s3 : kp ≤ 20 := hSI.2.2.1
  have s4 : 0 ≤ t.toInt ∧ t.toInt ≤ 900000000 + 1000000 * (kr : Int) := hSI.2.2.2.1
  have hn : ∀ i, i < kn → nOk fn i := hSI.2.2.2.2.1
  have hrs : ∀ e, e < kr → rOk kn fr e := hSI.2.2.2.2.2.1
  have hps : ∀ k, k < kp → pOk kn fp k := hSI.2.2.2.2.2.2.1
  have h6 := s1
  have h40 := s2
  have h20 := s3
  have h0 : al 0 = t := hC.1
  have h1 : al 1 = lN kn := hC.2.1
  have hN : NodC al kn fn := hC.2.2.1
  have h38 : al 38 = lN kr := hC.2.2.2.1
  have hR : RecC al kr fr := hC.2.2.2.2.1
  have h359 : al 359 = lN kp := hC.2.2.2.2.2.1
  have hPl : PlnC al kp fp := hC.2.2.2.2.2.2
  refine lv_aload_n hx hb dX4_party_0 rfl (lv_at hl 0 rfl) ?_
  refine lv_aload_n hx hb dX4_party_1 rfl (lv_at hl 0 rfl) ?_
  refine lv_iload_n hx hb dX4_party_2 rfl (lv_at hl 1 rfl) ?_
  refine goI (rdV (As := [.int p0]) (rest := [.ref (b 0)]) (m_isExchange l K b sm th al kr h40 h38 p0) ⟨hx, hb, hml, hown, hts⟩ (gV kl_X4_104 ki_X4_isExchange ks_X4_isExchange kn_X4 kc_X4_isExchange) (by show okN yX4_isExchange 1; decide +kernel) ⟨⟨Nat.le_of_ble_eq_true rfl, Nat.le_of_ble_eq_true rfl⟩, rfl, rfl⟩ hE hP [0, 1] rfl ⟨0, 6, _, _, rfl, rfl, rfl⟩ hl.1 rfl (Nat.le_of_ble_eq_true rfl) dX4_party_3 ⟨Nat.le_of_ble_eq_true rfl, Nat.le_of_ble_eq_true rfl⟩) (fun v3 e3 => ?_)
  refine lv_iload_n hx hb dX4_party_6 rfl (lv_at hl 2 rfl) ?_
  refine lv_i2l hx hb dX4_party_7 rfl ?_
  refine lv_topl (fun v7 e7 => ?_)
  refine lv_lconst (v := lN 0) hx hb dX4_party_8 (by decide) ?_
  refine lv_lconst (v := lN 1) hx hb dX4_party_9 (by decide) ?_
  refine goI (rdS (As := [.long v7, .long (lN 0), .long (lN 1)]) (rest := [.int v3, .ref (b 0)]) (m_in l K v7 (lN 0) (lN 1)) ⟨hx, hb, hml, hown, hts⟩ (gS kl_X4_23 kt_X4_in kn_X4 kc_X4_in) (by show okN yX4_in 3; decide +kernel) ⟨⟨Nat.le_of_ble_eq_true rfl, Nat.le_of_ble_eq_true rfl⟩, rfl, rfl⟩ hE hP [] rfl hl.1 rfl (Nat.le_of_ble_eq_true rfl) dX4_party_10 ⟨Nat.le_of_ble_eq_true rfl, Nat.le_of_ble_eq_true rfl⟩) (fun v10 e10 => ?_)
  have e10 : Bo v10 (0 ≤ p1.toInt ∧ p1.toInt ≤ 1) := e10.c (by have h1 := i64T p1; rw [← e7] at h1; have y0 : (lN 0 : Int64).toInt = 0 := (by decide); have y1 : (lN 1 : Int64).toInt = 1 := (by decide); omega)
  refine lv_iconst (v := nI 1) hx hb dX4_party_13 (by decide) ?_
  refine woI (wrV (As := [.int v3, .int v10, .int (nI 1)]) (rest := []) (m_goes l K b sm th v3 v10 (nI 1) (0 ≤ p0.toInt ∧ p0.toInt < kr) (0 ≤ p1.toInt ∧ p1.toInt ≤ 1) True e3 e10 Bo.one _) ⟨hx, hb, hml, hown, hts⟩ (gV kl_X4_45 ki_X4_goes ks_X4_goes kn_X4 kc_X4_goes) (by show okN yX4_goes 3; decide +kernel) ⟨⟨Nat.le_of_ble_eq_true rfl, Nat.le_of_ble_eq_true rfl⟩, ⟨rfl, rfl⟩, Nat.le_of_ble_eq_true rfl, Nat.le_of_ble_eq_true rfl⟩ hE hP hD [0] (by decide) rfl ⟨0, 6, _, _, rfl, rfl, rfl⟩ hl.1 rfl (Nat.le_of_ble_eq_true rfl) dX4_party_14) hP hD hS hA [(b 1, .inl (K.2.2.1, 460, .inr (.inl (al))))] (fun u => [(b 0, .inr (6, [.ref (b 1), .ref (b 2), .int sm, .int u])), (b 1, .inl (K.2.2.1, 460, .inr (.inl (al))))]) [0] [1] [1, 0] ⟨rfl, rfl, by decide, by decide, by decide, fun _ => rfl⟩ (fun v14 u14 H locs e14 hP hD hS => ?_)
  have hP : va_P K.1 vwCl [(b 0, .inr (6, [.ref (b 1), .ref (b 2), .int sm, .int u14])), (b 1, .inl (K.2.2.1, 460, .inr (.inl (al))))] H := hP
  have hD : va_D A [(b 0, .inr (6, [.ref (b 1), .ref (b 2), .int sm, .int u14])), (b 1, .inl (K.2.2.1, 460, .inr (.inl (al))))] := hD
  obtain ⟨g14, e14⟩ := e14
  refine lv_if_eq (tgt := 30) hx hb dX4_party_17 (by decide) (fun c17 => ?_) (fun c17 => ?_)
  · have c17 := (e14).f c17
    refine lv_iconst (v := nI 0) hx hb dX4_party_30 (by decide) ?_
    exact fI (v := nI 0) (u14) hx hb hr hlocks hAe hP hD hS [0, 1] (by decide) rfl (⟨g14, fun g => absurd (g14.no g) c17⟩) dX4_party_31
  · have c17 := (e14).t c17
    obtain ⟨i, hi, rfl⟩ := ixOf (n := kr) c17.1 (by omega)
    obtain ⟨j, hj, rfl⟩ := ixLe (n := 1) (show 0 ≤ p1.toInt ∧ p1.toInt ≤ (1 : Nat) by omega) (by omega)
    refine lv_aload_n hx hb dX4_party_20 rfl (lv_at hl 0 rfl) ?_
    refine lv_iload_n hx hb dX4_party_21 rfl (lv_at hl 1 rfl) ?_
    refine lv_iload_n hx hb dX4_party_22 rfl (lv_at hl 2 rfl) ?_
    refine goL (rdV (As := [.int (nI i), .int (nI j)]) (rest := []) (m_inExchange l K b sm u14 al kr fr h40 hR i j hi (by omega)) ⟨hx, hb, hml, hown, hts⟩ (gV kl_X4_107 ki_X4_inExchange ks_X4_inExchange kn_X4 kc_X4_inExchange) (by show okN yX4_inExchange 2; decide +kernel) ⟨⟨Nat.le_of_ble_eq_true rfl, Nat.le_of_ble_eq_true rfl⟩, rfl, rfl⟩ hE hP [0, 1] rfl ⟨0, 6, _, _, rfl, rfl, rfl⟩ hl.1 rfl (Nat.le_of_ble_eq_true rfl) dX4_party_23 ⟨Nat.le_of_ble_eq_true rfl, Nat.le_of_ble_eq_true rfl⟩) (fun v23 e23 => ?_)
    refine lv_l2i hx hb dX4_party_26 rfl ?_
    refine lv_topi (fun v26 e26 => ?_)
    refine lv_goto (tgt := 31) hx hb dX4_party_27 (by decide) ?_
    exact fI (v := v26) (u14) hx hb hr hlocks hAe hP hD hS [0, 1] (by decide) rfl (⟨g14, fun _ => by rw [e26, e23, l2iI, ix_nI (by omega), ix_nI (by omega)]⟩) dX4_party_31
set_option maxHeartbeats 4000000 in
set_option maxRecDepth 100000 in
theorem n_range (l : Launch) (K : EK) (b : Nat → Nat) (sm th : Int32) (al : Nat → Int64) (t : Int64) (kn : Nat) (fn : Nat → Int32) (kr : Nat) (fr : Nat → Int32) (kp : Nat) (fp : Nat → Int32) (p0 p1 : Int32) (hC : Cp al (t, (kn, fn), (kr, fr), (kp, fp))) (hSI : SI (t, (kn, fn), (kr, fr), (kp, fp))) (sz : Nat) : Met l yX4_range (wq yX4_range cX4_range 3 (some .int)) (rmL 7 0 0) (va_Pc [.ref (b 0), .int p0, .int p1] (PW K sz [(b 0, .inr (6, [.ref (b 1), .ref (b 2), .int sm, .int th])), (b 1, .inl (K.2.2.1, 460, .inr (.inl (al))))])) (va_Qi (fun r (u : Int32) => Gs u (0 ≤ p0.toInt ∧ p0.toInt < kr) (0 ≤ p1.toInt ∧ p1.toInt ≤ 2) True ∧ (u = 0 → (r.toInt = rng fn fr (ix p0) (ix p1)))) (Bw K sz [(b 0, .inr (6, [.ref (b 1), .ref (b 2), .int sm, .int th])), (b 1, .inl (K.2.2.1, 460, .inr (.inl (al))))] (fun (u : Int32) => [(b 0, .inr (6, [.ref (b 1), .ref (b 2), .int sm, .int u])), (b 1, .inl (K.2.2.1, 460, .inr (.inl (al))))])) (va_A [(b 0, .inr (6, [.ref (b 1), .ref (b 2), .int sm, .int th])), (b 1, .inl (K.2.2.1, 460, .inr (.inl (al))))] sz)) 0 0 (va_A [(b 0, .inr (6, [.ref (b 1), .ref (b 2), .int sm, .int th])), (b 1, .inl (K.2.2.1, 460, .inr (.inl (al))))] sz) := by
  refine hdW (by decide +kernel) (Nat.le_of_ble_eq_true rfl) ?_
  intro pp ee s mm bl9 me9 cd hx hb hr hlocks hml hown hin hts hE hP A hAe hsz hA hD hS ls hl
  have hown : s.vm.findClass RX4 = some mm.cls := hown
  have hP : va_P K.1 vwCl [(b 0, .inr (6, [.ref (b 1), .ref (b 2), .int sm, .int th])), (b 1, .inl (K.2.2.1, 460, .inr (.inl (al))))] s.heap := hP
  have hD : va_D A [(b 0, .inr (6, [.ref (b 1), .ref (b 2), .int sm, .int th])), (b 1, .inl (K.2.2.1, 460, .inr (.inl (al))))] := hD
  have hl : lv_has ls 3 [(0, .ref (b 0)), (1, .int p0), (2, .int p1)] := hl
  have s1 : kn ≤ 6 := hSI.1
  have s2 : kr ≤ 40 := hSI.2.1
  have s3 : kp ≤ 20 := hSI.2.2.1
  have s4 : 0 ≤ t.toInt ∧ t.toInt ≤ 900000000 + 1000000 * (kr : Int) := hSI.2.2.2.1
  have hn : ∀ i, i < kn → nOk fn i := hSI.2.2.2.2.1
  have hrs : ∀ e, e < kr → rOk kn fr e := hSI.2.2.2.2.2.1
  have hps : ∀ k, k < kp → pOk kn fp k := hSI.2.2.2.2.2.2.1
  have h6 := s1
  have h40 := s2
  have h20 := s3
  have h0 : al 0 = t := hC.1
  have h1 : al 1 = lN kn := hC.2.1
  have hN : NodC al kn fn := hC.2.2.1
  have h38 : al 38 = lN kr := hC.2.2.2.1
  have hR : RecC al kr fr := hC.2.2.2.2.1
  have h359 : al 359 = lN kp := hC.2.2.2.2.2.1
  have hPl : PlnC al kp fp := hC.2.2.2.2.2.2
  refine lv_aload_n hx hb dX4_range_0 rfl (lv_at hl 0 rfl) ?_
  refine lv_aload_n hx hb dX4_range_1 rfl (lv_at hl 0 rfl) ?_
  refine lv_iload_n hx hb dX4_range_2 rfl (lv_at hl 1 rfl) ?_
  refine goI (rdV (As := [.int p0]) (rest := [.ref (b 0)]) (m_isExchange l K b sm th al kr h40 h38 p0) ⟨hx, hb, hml, hown, hts⟩ (gV kl_X4_104 ki_X4_isExchange ks_X4_isExchange kn_X4 kc_X4_isExchange) (by show okN yX4_isExchange 1; decide +kernel) ⟨⟨Nat.le_of_ble_eq_true rfl, Nat.le_of_ble_eq_true rfl⟩, rfl, rfl⟩ hE hP [0, 1] rfl ⟨0, 6, _, _, rfl, rfl, rfl⟩ hl.1 rfl (Nat.le_of_ble_eq_true rfl) dX4_range_3 ⟨Nat.le_of_ble_eq_true rfl, Nat.le_of_ble_eq_true rfl⟩) (fun v3 e3 => ?_)
  refine lv_iload_n hx hb dX4_range_6 rfl (lv_at hl 2 rfl) ?_
  refine goI (rdS (As := [.int p1]) (rest := [.int v3, .ref (b 0)]) (m_isMethod l K p1) ⟨hx, hb, hml, hown, hts⟩ (gS kl_X4_128 kt_X4_isMethod kn_X4 kc_X4_isMethod) (by show okN yX4_isMethod 1; decide +kernel) ⟨⟨Nat.le_of_ble_eq_true rfl, Nat.le_of_ble_eq_true rfl⟩, rfl, rfl⟩ hE hP [] rfl hl.1 rfl (Nat.le_of_ble_eq_true rfl) dX4_range_7 ⟨Nat.le_of_ble_eq_true rfl, Nat.le_of_ble_eq_true rfl⟩) (fun v7 e7 => ?_)
  refine lv_iconst (v := nI 1) hx hb dX4_range_10 (by decide) ?_
  refine woI (wrV (As := [.int v3, .int v7, .int (nI 1)]) (rest := []) (m_goes l K b sm th v3 v7 (nI 1) (0 ≤ p0.toInt ∧ p0.toInt < kr) (0 ≤ p1.toInt ∧ p1.toInt ≤ 2) True e3 e7 Bo.one _) ⟨hx, hb, hml, hown, hts⟩ (gV kl_X4_45 ki_X4_goes ks_X4_goes kn_X4 kc_X4_goes) (by show okN yX4_goes 3; decide +kernel) ⟨⟨Nat.le_of_ble_eq_true rfl, Nat.le_of_ble_eq_true rfl⟩, ⟨rfl, rfl⟩, Nat.le_of_ble_eq_true rfl, Nat.le_of_ble_eq_true rfl⟩ hE hP hD [0] (by decide) rfl ⟨0, 6, _, _, rfl, rfl, rfl⟩ hl.1 rfl (Nat.le_of_ble_eq_true rfl) dX4_range_11) hP hD hS hA [(b 1, .inl (K.2.2.1, 460, .inr (.inl (al))))] (fun u => [(b 0, .inr (6, [.ref (b 1), .ref (b 2), .int sm, .int u])), (b 1, .inl (K.2.2.1, 460, .inr (.inl (al))))]) [0] [1] [1, 0] ⟨rfl, rfl, by decide, by decide, by decide, fun _ => rfl⟩ (fun v11 u11 H locs e11 hP hD hS => ?_)
  have hP : va_P K.1 vwCl [(b 0, .inr (6, [.ref (b 1), .ref (b 2), .int sm, .int u11])), (b 1, .inl (K.2.2.1, 460, .inr (.inl (al))))] H := hP
  have hD : va_D A [(b 0, .inr (6, [.ref (b 1), .ref (b 2), .int sm, .int u11])), (b 1, .inl (K.2.2.1, 460, .inr (.inl (al))))] := hD
  obtain ⟨g11, e11⟩ := e11
  refine lv_if_eq (tgt := 27) hx hb dX4_range_14 (by decide) (fun c14 => ?_) (fun c14 => ?_)
  · have c14 := (e11).f c14
    refine lv_iconst (v := nI 0) hx hb dX4_range_27 (by decide) ?_
    exact fI (v := nI 0) (u11) hx hb hr hlocks hAe hP hD hS [0, 1] (by decide) rfl (⟨g11, fun g => absurd (g11.no g) c14⟩) dX4_range_28
  · have c14 := (e11).t c14
    obtain ⟨i, hi, rfl⟩ := ixOf (n := kr) c14.1 (by omega)
    obtain ⟨j, hj, rfl⟩ := ixLe (n := 2) (show 0 ≤ p1.toInt ∧ p1.toInt ≤ (2 : Nat) by omega) (by omega)
    refine lv_aload_n hx hb dX4_range_17 rfl (lv_at hl 0 rfl) ?_
    refine lv_iload_n hx hb dX4_range_18 rfl (lv_at hl 1 rfl) ?_
    refine lv_iload_n hx hb dX4_range_19 rfl (lv_at hl 2 rfl) ?_
    refine goL (rdV (As := [.int (nI i), .int (nI j)]) (rest := []) (m_rangeOf l K b sm u11 al kn fn h6 hN kr fr h40 hR hn i j hi (hrs _ hi) (by omega)) ⟨hx, hb, hml, hown, hts⟩ (gV kl_X4_131 ki_X4_rangeOf ks_X4_rangeOf kn_X4 kc_X4_rangeOf) (by show okN yX4_rangeOf 2; decide +kernel) ⟨⟨Nat.le_of_ble_eq_true rfl, Nat.le_of_ble_eq_true rfl⟩, rfl, rfl⟩ hE hP [0, 1] rfl ⟨0, 6, _, _, rfl, rfl, rfl⟩ hl.1 rfl (Nat.le_of_ble_eq_true rfl) dX4_range_20 ⟨Nat.le_of_ble_eq_true rfl, Nat.le_of_ble_eq_true rfl⟩) (fun v20 e20 => ?_)
    refine lv_l2i hx hb dX4_range_23 rfl ?_
    refine lv_topi (fun v23 e23 => ?_)
    refine lv_goto (tgt := 28) hx hb dX4_range_24 (by decide) ?_
    have k9 := rng_rng j hn (hrs _ hi)
    exact fI (v := v23) (u11) hx hb hr hlocks hAe hP hD hS [0, 1] (by decide) rfl (⟨g11, fun _ => by rw [e23, i32T (by rw [e20]; omega) (by rw [e20]; omega), e20, ix_nI (by omega), ix_nI (by omega)]⟩) dX4_range_28
set_option maxHeartbeats 4000000 in
set_option maxRecDepth 100000 in
theorem n_latestRange (l : Launch) (K : EK) (b : Nat → Nat) (sm th : Int32) (al : Nat → Int64) (t : Int64) (kn : Nat) (fn : Nat → Int32) (kr : Nat) (fr : Nat → Int32) (kp : Nat) (fp : Nat → Int32) (p0 p1 p2 : Int32) (hC : Cp al (t, (kn, fn), (kr, fr), (kp, fp))) (hSI : SI (t, (kn, fn), (kr, fr), (kp, fp))) (sz : Nat) : Met l yX4_latestRange (wq yX4_latestRange cX4_latestRange 4 (some .int)) (rmL 7 0 0) (va_Pc [.ref (b 0), .int p0, .int p1, .int p2] (PW K sz [(b 0, .inr (6, [.ref (b 1), .ref (b 2), .int sm, .int th])), (b 1, .inl (K.2.2.1, 460, .inr (.inl (al))))])) (va_Qi (fun r (u : Int32) => Gs u ((0 ≤ p0.toInt ∧ p0.toInt < kn) ∧ 0 ≤ p1.toInt ∧ p1.toInt < kn) (0 ≤ p2.toInt ∧ p2.toInt ≤ 2) (¬ noLat fr (ix p0) (ix p1) kr) ∧ (u = 0 → (∃ e, isLat fr (ix p0) (ix p1) kr e ∧ r.toInt = rng fn fr e (ix p2)))) (Bw K sz [(b 0, .inr (6, [.ref (b 1), .ref (b 2), .int sm, .int th])), (b 1, .inl (K.2.2.1, 460, .inr (.inl (al))))] (fun (u : Int32) => [(b 0, .inr (6, [.ref (b 1), .ref (b 2), .int sm, .int u])), (b 1, .inl (K.2.2.1, 460, .inr (.inl (al))))])) (va_A [(b 0, .inr (6, [.ref (b 1), .ref (b 2), .int sm, .int th])), (b 1, .inl (K.2.2.1, 460, .inr (.inl (al))))] sz)) 0 0 (va_A [(b 0, .inr (6, [.ref (b 1), .ref (b 2), .int sm, .int th])), (b 1, .inl (K.2.2.1, 460, .inr (.inl (al))))] sz) := by
  refine hdW (by decide +kernel) (Nat.le_of_ble_eq_true rfl) ?_
  intro pp ee s mm bl9 me9 cd hx hb hr hlocks hml hown hin hts hE hP A hAe hsz hA hD hS ls hl
  have hown : s.vm.findClass RX4 = some mm.cls := hown
  have hP : va_P K.1 vwCl [(b 0, .inr (6, [.ref (b 1), .ref (b 2), .int sm, .int th])), (b 1, .inl (K.2.2.1, 460, .inr (.inl (al))))] s.heap := hP
  have hD : va_D A [(b 0, .inr (6, [.ref (b 1), .ref (b 2), .int sm, .int th])), (b 1, .inl (K.2.2.1, 460, .inr (.inl (al))))] := hD
  have hl : lv_has ls 4 [(0, .ref (b 0)), (1, .int p0), (2, .int p1), (3, .int p2)] := hl
  have s1 : kn ≤ 6 := hSI.1
  have s2 : kr ≤ 40 := hSI.2.1
  have s3 : kp ≤ 20 := hSI.2.2.1
  have s4 : 0 ≤ t.toInt ∧ t.toInt ≤ 900000000 + 1000000 * (kr : Int) := hSI.2.2.2.1
  have hn : ∀ i, i < kn → nOk fn i := hSI.2.2.2.2.1
  have hrs : ∀ e, e < kr → rOk kn fr e := hSI.2.2.2.2.2.1
  have hps : ∀ k, k < kp → pOk kn fp k := hSI.2.2.2.2.2.2.1
  have h6 := s1
  have h40 := s2
  have h20 := s3
  have h0 : al 0 = t := hC.1
  have h1 : al 1 = lN kn := hC.2.1
  have hN : NodC al kn fn := hC.2.2.1
  have h38 : al 38 = lN kr := hC.2.2.2.1
  have hR : RecC al kr fr := hC.2.2.2.2.1
  have h359 : al 359 = lN kp := hC.2.2.2.2.2.1
  have hPl : PlnC al kp fp := hC.2.2.2.2.2.2
  refine lv_aload_n hx hb dX4_latestRange_0 rfl (lv_at hl 0 rfl) ?_
  refine jn (P := fun jv => Bo jv ((0 ≤ p0.toInt ∧ p0.toInt < kn) ∧ 0 ≤ p1.toInt ∧ p1.toInt < kn)) 22 [.ref (b 0)] (fun j22 k22 => ?_) (fun hJ22 => ?_)
  · refine lv_iload_n hx hb dX4_latestRange_22 rfl (lv_at hl 3 rfl) ?_
    refine goI (rdS (As := [.int p2]) (rest := [.int j22, .ref (b 0)]) (m_isMethod l K p2) ⟨hx, hb, hml, hown, hts⟩ (gS kl_X4_128 kt_X4_isMethod kn_X4 kc_X4_isMethod) (by show okN yX4_isMethod 1; decide +kernel) ⟨⟨Nat.le_of_ble_eq_true rfl, Nat.le_of_ble_eq_true rfl⟩, rfl, rfl⟩ hE hP [] rfl hl.1 rfl (Nat.le_of_ble_eq_true rfl) dX4_latestRange_23 ⟨Nat.le_of_ble_eq_true rfl, Nat.le_of_ble_eq_true rfl⟩) (fun v23 e23 => ?_)
    refine lv_aload_n hx hb dX4_latestRange_26 rfl (lv_at hl 0 rfl) ?_
    refine lv_iload_n hx hb dX4_latestRange_27 rfl (lv_at hl 1 rfl) ?_
    refine lv_iload_n hx hb dX4_latestRange_28 rfl (lv_at hl 2 rfl) ?_
    refine goI (rdV (As := [.int p0, .int p1]) (rest := [.int v23, .int j22, .ref (b 0)]) (m_latestOf l K b sm th al kr fr h40 hR kn h6 h38 hrs p0 p1) ⟨hx, hb, hml, hown, hts⟩ (gV kl_X4_134 ki_X4_latestOf ks_X4_latestOf kn_X4 kc_X4_latestOf) (by show okN yX4_latestOf 2; decide +kernel) ⟨⟨Nat.le_of_ble_eq_true rfl, Nat.le_of_ble_eq_true rfl⟩, rfl, rfl⟩ hE hP [0, 1] rfl ⟨0, 6, _, _, rfl, rfl, rfl⟩ hl.1 rfl (Nat.le_of_ble_eq_true rfl) dX4_latestRange_29 ⟨Nat.le_of_ble_eq_true rfl, Nat.le_of_ble_eq_true rfl⟩) (fun v29 e29 => ?_)
    refine jn (P := fun jv => Bo jv (¬ v29 = -1)) 41 [.int v23, .int j22, .ref (b 0)] (fun j41 k41 => ?_) (fun hJ41 => ?_)
    · refine woI (wrV (As := [.int j22, .int v23, .int j41]) (rest := []) (m_goes l K b sm th j22 v23 j41 ((0 ≤ p0.toInt ∧ p0.toInt < kn) ∧ 0 ≤ p1.toInt ∧ p1.toInt < kn) (0 ≤ p2.toInt ∧ p2.toInt ≤ 2) (¬ v29 = -1) k22 e23 k41 _) ⟨hx, hb, hml, hown, hts⟩ (gV kl_X4_45 ki_X4_goes ks_X4_goes kn_X4 kc_X4_goes) (by show okN yX4_goes 3; decide +kernel) ⟨⟨Nat.le_of_ble_eq_true rfl, Nat.le_of_ble_eq_true rfl⟩, ⟨rfl, rfl⟩, Nat.le_of_ble_eq_true rfl, Nat.le_of_ble_eq_true rfl⟩ hE hP hD [0] (by decide) rfl ⟨0, 6, _, _, rfl, rfl, rfl⟩ hl.1 rfl (Nat.le_of_ble_eq_true rfl) dX4_latestRange_41) hP hD hS hA [(b 1, .inl (K.2.2.1, 460, .inr (.inl (al))))] (fun u => [(b 0, .inr (6, [.ref (b 1), .ref (b 2), .int sm, .int u])), (b 1, .inl (K.2.2.1, 460, .inr (.inl (al))))]) [0] [1] [1, 0] ⟨rfl, rfl, by decide, by decide, by decide, fun _ => rfl⟩ (fun v41 u41 H locs e41 hP hD hS => ?_)
      have hP : va_P K.1 vwCl [(b 0, .inr (6, [.ref (b 1), .ref (b 2), .int sm, .int u41])), (b 1, .inl (K.2.2.1, 460, .inr (.inl (al))))] H := hP
      have hD : va_D A [(b 0, .inr (6, [.ref (b 1), .ref (b 2), .int sm, .int u41])), (b 1, .inl (K.2.2.1, 460, .inr (.inl (al))))] := hD
      obtain ⟨g41, e41⟩ := e41
      have G41 : Gs u41 ((0 ≤ p0.toInt ∧ p0.toInt < kn) ∧ 0 ≤ p1.toInt ∧ p1.toInt < kn) (0 ≤ p2.toInt ∧ p2.toInt ≤ 2) (¬ noLat fr (ix p0) (ix p1) kr) := g41.c Iff.rfl (fun _ => Iff.rfl) (fun w1 _ => latI_iff h6 h40 hrs w1.1 w1.2 e29)
      refine lv_if_eq (tgt := 62) hx hb dX4_latestRange_44 (by decide) (fun c44 => ?_) (fun c44 => ?_)
      · have c44 := (e41).f c44
        refine lv_iconst (v := nI 0) hx hb dX4_latestRange_62 (by decide) ?_
        exact fI (v := nI 0) (u41) hx hb hr hlocks hAe hP hD hS [0, 1] (by decide) rfl (⟨G41, fun g => absurd (g41.no g) c44⟩) dX4_latestRange_63
      · have c44 := (e41).t c44
        have w3 := (latI_iff h6 h40 hrs c44.1.1 c44.1.2 e29).mp c44.2.2
        obtain ⟨i, hi, rfl⟩ := ixOf (n := kn) c44.1.1 (by omega)
        obtain ⟨j, hj, rfl⟩ := ixOf (n := kn) c44.1.2 (by omega)
        obtain ⟨m9, hm9, rfl⟩ := ixLe (n := 2) (show 0 ≤ p2.toInt ∧ p2.toInt ≤ (2 : Nat) by omega) (by omega)
        rw [ix_nI (by omega), ix_nI (by omega)] at w3
        refine lv_aload_n hx hb dX4_latestRange_47 rfl (lv_at hl 0 rfl) ?_
        refine lv_aload_n hx hb dX4_latestRange_48 rfl (lv_at hl 0 rfl) ?_
        refine lv_iload_n hx hb dX4_latestRange_49 rfl (lv_at hl 1 rfl) ?_
        refine lv_iload_n hx hb dX4_latestRange_50 rfl (lv_at hl 2 rfl) ?_
        refine goI (rdV (As := [.int (nI i), .int (nI j)]) (rest := [.ref (b 0)]) (m_latestOf l K b sm u41 al kr fr h40 hR kn h6 h38 hrs (nI i) (nI j)) ⟨hx, hb, hml, hown, hts⟩ (gV kl_X4_134 ki_X4_latestOf ks_X4_latestOf kn_X4 kc_X4_latestOf) (by show okN yX4_latestOf 2; decide +kernel) ⟨⟨Nat.le_of_ble_eq_true rfl, Nat.le_of_ble_eq_true rfl⟩, rfl, rfl⟩ hE hP [0, 1] rfl ⟨0, 6, _, _, rfl, rfl, rfl⟩ hl.1 rfl (Nat.le_of_ble_eq_true rfl) dX4_latestRange_51 ⟨Nat.le_of_ble_eq_true rfl, Nat.le_of_ble_eq_true rfl⟩) (fun v51 e51 => ?_)
        obtain ⟨e9, q51, hlat⟩ := (latI_nat h6 (by omega) (by omega) hrs e51).resolve_left (fun g => w3 g.2)
        have he9 := hlat.1
        rw [q51]
        refine lv_iload_n hx hb dX4_latestRange_54 rfl (lv_at hl 3 rfl) ?_
        refine goL (rdV (As := [.int (nI e9), .int (nI m9)]) (rest := []) (m_rangeOf l K b sm u41 al kn fn h6 hN kr fr h40 hR hn e9 m9 he9 (hrs _ he9) (by omega)) ⟨hx, hb, hml, hown, hts⟩ (gV kl_X4_131 ki_X4_rangeOf ks_X4_rangeOf kn_X4 kc_X4_rangeOf) (by show okN yX4_rangeOf 2; decide +kernel) ⟨⟨Nat.le_of_ble_eq_true rfl, Nat.le_of_ble_eq_true rfl⟩, rfl, rfl⟩ hE hP [0, 1] rfl ⟨0, 6, _, _, rfl, rfl, rfl⟩ hl.1 rfl (Nat.le_of_ble_eq_true rfl) dX4_latestRange_55 ⟨Nat.le_of_ble_eq_true rfl, Nat.le_of_ble_eq_true rfl⟩) (fun v55 e55 => ?_)
        refine lv_l2i hx hb dX4_latestRange_58 rfl ?_
        refine lv_topi (fun v58 e58 => ?_)
        refine lv_goto (tgt := 63) hx hb dX4_latestRange_59 (by decide) ?_
        have k9 := rng_rng m9 hn (hrs _ he9)
        exact fI (v := v58) (u41) hx hb hr hlocks hAe hP hD hS [0, 1] (by decide) rfl (⟨G41, fun _ => ⟨e9, by rw [ix_nI (by omega), ix_nI (by omega)]; exact hlat, by rw [e58, i32T (by rw [e55]; omega) (by rw [e55]; omega), e55, ix_nI (by omega)]⟩⟩) dX4_latestRange_63
    · refine lv_iconst (v := -1) hx hb dX4_latestRange_32 (by decide) ?_
      refine lv_icmp_eq (tgt := 40) hx hb dX4_latestRange_33 (by decide) (fun c33 => ?_) (fun c33 => ?_)
      · refine lv_iconst (v := nI 0) hx hb dX4_latestRange_40 (by decide) ?_
        exact hJ41 (nI 0) (Or.inr ⟨rfl, fun g => g c33⟩)
      · refine lv_iconst (v := nI 1) hx hb dX4_latestRange_36 (by decide) ?_
        refine lv_goto (tgt := 41) hx hb dX4_latestRange_37 (by decide) ?_
        exact hJ41 (nI 1) (Or.inl ⟨rfl, c33⟩)
  · refine lv_aload_n hx hb dX4_latestRange_1 rfl (lv_at hl 0 rfl) ?_
    refine lv_iload_n hx hb dX4_latestRange_2 rfl (lv_at hl 1 rfl) ?_
    refine goI (rdV (As := [.int p0]) (rest := [.ref (b 0)]) (m_isNode l K b sm th al kn h6 h1 p0) ⟨hx, hb, hml, hown, hts⟩ (gV kl_X4_64 ki_X4_isNode ks_X4_isNode kn_X4 kc_X4_isNode) (by show okN yX4_isNode 1; decide +kernel) ⟨⟨Nat.le_of_ble_eq_true rfl, Nat.le_of_ble_eq_true rfl⟩, rfl, rfl⟩ hE hP [0, 1] rfl ⟨0, 6, _, _, rfl, rfl, rfl⟩ hl.1 rfl (Nat.le_of_ble_eq_true rfl) dX4_latestRange_3 ⟨Nat.le_of_ble_eq_true rfl, Nat.le_of_ble_eq_true rfl⟩) (fun v3 e3 => ?_)
    refine lv_if_eq (tgt := 21) hx hb dX4_latestRange_6 (by decide) (fun c6 => ?_) (fun c6 => ?_)
    · have c6 := (e3).f c6
      refine lv_iconst (v := nI 0) hx hb dX4_latestRange_21 (by decide) ?_
      exact hJ22 (nI 0) (Or.inr ⟨rfl, by omega⟩)
    · have c6 := (e3).t c6
      refine lv_aload_n hx hb dX4_latestRange_9 rfl (lv_at hl 0 rfl) ?_
      refine lv_iload_n hx hb dX4_latestRange_10 rfl (lv_at hl 2 rfl) ?_
      refine goI (rdV (As := [.int p1]) (rest := [.ref (b 0)]) (m_isNode l K b sm th al kn h6 h1 p1) ⟨hx, hb, hml, hown, hts⟩ (gV kl_X4_64 ki_X4_isNode ks_X4_isNode kn_X4 kc_X4_isNode) (by show okN yX4_isNode 1; decide +kernel) ⟨⟨Nat.le_of_ble_eq_true rfl, Nat.le_of_ble_eq_true rfl⟩, rfl, rfl⟩ hE hP [0, 1] rfl ⟨0, 6, _, _, rfl, rfl, rfl⟩ hl.1 rfl (Nat.le_of_ble_eq_true rfl) dX4_latestRange_11 ⟨Nat.le_of_ble_eq_true rfl, Nat.le_of_ble_eq_true rfl⟩) (fun v11 e11 => ?_)
      refine lv_if_eq (tgt := 21) hx hb dX4_latestRange_14 (by decide) (fun c14 => ?_) (fun c14 => ?_)
      · have c14 := (e11).f c14
        refine lv_iconst (v := nI 0) hx hb dX4_latestRange_21 (by decide) ?_
        exact hJ22 (nI 0) (Or.inr ⟨rfl, by omega⟩)
      · have c14 := (e11).t c14
        refine lv_iconst (v := nI 1) hx hb dX4_latestRange_17 (by decide) ?_
        refine lv_goto (tgt := 22) hx hb dX4_latestRange_18 (by decide) ?_
        exact hJ22 (nI 1) (Or.inl ⟨rfl, by omega⟩)
theorem neg64 {x : Int64} (h : -9223372036854775808 < x.toInt ∧ x.toInt < 9223372036854775808) : (-x).toInt = -x.toInt := by
  rw [Int64.toInt_neg, fb_bmodL (by omega) (by omega)]
theorem worst_rng {kn : Nat} {fn fr : Nat → Int32} (m : Nat) (hn : ∀ i, i < kn → nOk fn i) : ∀ n, (∀ e, e < n → rOk kn fr e) → -1 ≤ worst fn fr m n ∧ worst fn fr m n ≤ 4000000
  | 0, _ => by simp [worst]
  | n + 1, h => by
    have a := worst_rng m hn n (fun e he => h e (by omega))
    have b := err_rng m hn (h n (by omega))
    rw [worst]
    split <;> omega
set_option maxHeartbeats 4000000 in
set_option maxRecDepth 100000 in
theorem n_worstError (l : Launch) (K : EK) (b : Nat → Nat) (sm th : Int32) (al : Nat → Int64) (t : Int64) (kn : Nat) (fn : Nat → Int32) (kr : Nat) (fr : Nat → Int32) (kp : Nat) (fp : Nat → Int32) (p0 : Int32) (hC : Cp al (t, (kn, fn), (kr, fr), (kp, fp))) (hSI : SI (t, (kn, fn), (kr, fr), (kp, fp))) (sz : Nat) : Met l yX4_worstError (wq yX4_worstError cX4_worstError 9 (some .int)) (rmL 7 0 0) (va_Pc [.ref (b 0), .int p0] (PW K sz [(b 0, .inr (6, [.ref (b 1), .ref (b 2), .int sm, .int th])), (b 1, .inl (K.2.2.1, 460, .inr (.inl (al))))])) (va_Qi (fun r (u : Int32) => Gs u (0 ≤ p0.toInt ∧ p0.toInt ≤ 2) True True ∧ (u = 0 → (r.toInt = worst fn fr (ix p0) kr))) (Bw K sz [(b 0, .inr (6, [.ref (b 1), .ref (b 2), .int sm, .int th])), (b 1, .inl (K.2.2.1, 460, .inr (.inl (al))))] (fun (u : Int32) => [(b 0, .inr (6, [.ref (b 1), .ref (b 2), .int sm, .int u])), (b 1, .inl (K.2.2.1, 460, .inr (.inl (al))))])) (va_A [(b 0, .inr (6, [.ref (b 1), .ref (b 2), .int sm, .int th])), (b 1, .inl (K.2.2.1, 460, .inr (.inl (al))))] sz)) 0 0 (va_A [(b 0, .inr (6, [.ref (b 1), .ref (b 2), .int sm, .int th])), (b 1, .inl (K.2.2.1, 460, .inr (.inl (al))))] sz) := by
  refine hdW (by decide +kernel) (Nat.le_of_ble_eq_true rfl) ?_
  intro pp ee s mm bl9 me9 cd hx hb hr hlocks hml hown hin hts hE hP A hAe hsz hA hD hS ls hl
  have hown : s.vm.findClass RX4 = some mm.cls := hown
  have hP : va_P K.1 vwCl [(b 0, .inr (6, [.ref (b 1), .ref (b 2), .int sm, .int th])), (b 1, .inl (K.2.2.1, 460, .inr (.inl (al))))] s.heap := hP
  have hD : va_D A [(b 0, .inr (6, [.ref (b 1), .ref (b 2), .int sm, .int th])), (b 1, .inl (K.2.2.1, 460, .inr (.inl (al))))] := hD
  have hl : lv_has ls 9 [(0, .ref (b 0)), (1, .int p0)] := hl
  have s1 : kn ≤ 6 := hSI.1
  have s2 : kr ≤ 40 := hSI.2.1
  have s3 : kp ≤ 20 := hSI.2.2.1
  have s4 : 0 ≤ t.toInt ∧ t.toInt ≤ 900000000 + 1000000 * (kr : Int) := hSI.2.2.2.1
  have hn : ∀ i, i < kn → nOk fn i := hSI.2.2.2.2.1
  have hrs : ∀ e, e < kr → rOk kn fr e := hSI.2.2.2.2.2.1
  have hps : ∀ k, k < kp → pOk kn fp k := hSI.2.2.2.2.2.2.1
  have h6 := s1
  have h40 := s2
  have h20 := s3
  have h0 : al 0 = t := hC.1
  have h1 : al 1 = lN kn := hC.2.1
  have hN : NodC al kn fn := hC.2.2.1
  have h38 : al 38 = lN kr := hC.2.2.2.1
  have hR : RecC al kr fr := hC.2.2.2.2.1
  have h359 : al 359 = lN kp := hC.2.2.2.2.2.1
  have hPl : PlnC al kp fp := hC.2.2.2.2.2.2
  refine lv_aload_n hx hb dX4_worstError_0 rfl (lv_at hl 0 rfl) ?_
  refine lv_iload_n hx hb dX4_worstError_1 rfl (lv_at hl 1 rfl) ?_
  refine goI (rdS (As := [.int p0]) (rest := [.ref (b 0)]) (m_isMethod l K p0) ⟨hx, hb, hml, hown, hts⟩ (gS kl_X4_128 kt_X4_isMethod kn_X4 kc_X4_isMethod) (by show okN yX4_isMethod 1; decide +kernel) ⟨⟨Nat.le_of_ble_eq_true rfl, Nat.le_of_ble_eq_true rfl⟩, rfl, rfl⟩ hE hP [] rfl hl.1 rfl (Nat.le_of_ble_eq_true rfl) dX4_worstError_2 ⟨Nat.le_of_ble_eq_true rfl, Nat.le_of_ble_eq_true rfl⟩) (fun v2 e2 => ?_)
  refine lv_iconst (v := nI 1) hx hb dX4_worstError_5 (by decide) ?_
  refine lv_iconst (v := nI 1) hx hb dX4_worstError_6 (by decide) ?_
  refine woI (wrV (As := [.int v2, .int (nI 1), .int (nI 1)]) (rest := []) (m_goes l K b sm th v2 (nI 1) (nI 1) (0 ≤ p0.toInt ∧ p0.toInt ≤ 2) True True e2 Bo.one Bo.one _) ⟨hx, hb, hml, hown, hts⟩ (gV kl_X4_45 ki_X4_goes ks_X4_goes kn_X4 kc_X4_goes) (by show okN yX4_goes 3; decide +kernel) ⟨⟨Nat.le_of_ble_eq_true rfl, Nat.le_of_ble_eq_true rfl⟩, ⟨rfl, rfl⟩, Nat.le_of_ble_eq_true rfl, Nat.le_of_ble_eq_true rfl⟩ hE hP hD [0] (by decide) rfl ⟨0, 6, _, _, rfl, rfl, rfl⟩ hl.1 rfl (Nat.le_of_ble_eq_true rfl) dX4_worstError_7) hP hD hS hA [(b 1, .inl (K.2.2.1, 460, .inr (.inl (al))))] (fun u => [(b 0, .inr (6, [.ref (b 1), .ref (b 2), .int sm, .int u])), (b 1, .inl (K.2.2.1, 460, .inr (.inl (al))))]) [0] [1] [1, 0] ⟨rfl, rfl, by decide, by decide, by decide, fun _ => rfl⟩ (fun v7 u7 H locs e7 hP hD hS => ?_)
  have hP : va_P K.1 vwCl [(b 0, .inr (6, [.ref (b 1), .ref (b 2), .int sm, .int u7])), (b 1, .inl (K.2.2.1, 460, .inr (.inl (al))))] H := hP
  have hD : va_D A [(b 0, .inr (6, [.ref (b 1), .ref (b 2), .int sm, .int u7])), (b 1, .inl (K.2.2.1, 460, .inr (.inl (al))))] := hD
  obtain ⟨g7, e7⟩ := e7
  refine lv_if_ne (tgt := 15) hx hb dX4_worstError_10 (by decide) (fun c10 => ?_) (fun c10 => ?_)
  · have c10 := (e7).t c10
    obtain ⟨m9, hm9, rfl⟩ := ixLe (n := 2) (show 0 ≤ p0.toInt ∧ p0.toInt ≤ (2 : Nat) by omega) (by omega)
    refine lv_ldc2 (v := -1) hx hb hown (hts _ kw_X4_138) dX4_worstError_15 ?_
    refine lv_lstore_n (lv' := [(2, .long (-1)), (0, .ref (b 0)), (1, .int (nI m9))]) hx hb dX4_worstError_18 rfl hl (by decide) rfl (fun ls hl => ?_)
    refine lv_iconst (v := nI 0) hx hb dX4_worstError_19 (by decide) ?_
    refine lv_istore (lv' := [(4, .int (nI 0)), (2, .long (-1)), (0, .ref (b 0)), (1, .int (nI m9))]) hx hb dX4_worstError_20 hl (by decide) rfl (fun ls hl => ?_)
    refine lpW (K := K) (A := A) (H0 := s.heap) (α := Nat × Int64) (fun (x9 : Nat × Int64) => x9.2.toInt = worst fn fr m9 x9.1 ∧ x9.1 ≤ kr) (fun (x9 : Nat × Int64) => kr - x9.1) (fun (x9 : Nat × Int64) => [(0, .ref (b 0)), (1, .int (nI m9)), (2, .long x9.2), (4, .int (nI x9.1))]) (fun (x9 : Nat × Int64) => [(b 0, .inr (6, [.ref (b 1), .ref (b 2), .int sm, .int u7])), (b 1, .inl (K.2.2.1, 460, .inr (.inl (al))))]) 9 22 (fun x9 hI22 ih22 ls H locs hl hP hD hS => ?_) (0, -1) (⟨(by decide : (-1 : Int64).toInt = -1), Nat.zero_le _⟩) ls _ _ (lv_sub hl [2, 3, 1, 0] rfl) hP hD hS
    obtain ⟨z, x2⟩ := x9
    have hI22 : x2.toInt = worst fn fr m9 z ∧ z ≤ kr := hI22
    have hl : lv_has ls 9 [(0, .ref (b 0)), (1, .int (nI m9)), (2, .long x2), (4, .int (nI z))] := hl
    have hP : va_P K.1 vwCl [(b 0, .inr (6, [.ref (b 1), .ref (b 2), .int sm, .int u7])), (b 1, .inl (K.2.2.1, 460, .inr (.inl (al))))] H := hP
    have hD : va_D A [(b 0, .inr (6, [.ref (b 1), .ref (b 2), .int sm, .int u7])), (b 1, .inl (K.2.2.1, 460, .inr (.inl (al))))] := hD
    refine lv_iload hx hb dX4_worstError_22 (lv_at hl 3 rfl) ?_
    refine lv_i2l hx hb dX4_worstError_24 (nI_l (by omega)) ?_
    refine lv_aload_n hx hb dX4_worstError_25 rfl (lv_at hl 0 rfl) ?_
    refine va_get (D := K.1) (ci := 6) (v := .ref (b 1)) (C := RX4) (T := TX4) (N := 4) hx hb hts inX4 hown hE.1 hP 0 rfl rfl 0 (by decide) (hts _ kf_X4_7) (fun _ h9 => h9) rfl dX4_worstError_26 ?_
    refine lv_bipush (v := nI 38) hx hb dX4_worstError_29 (by decide) ?_
    have i31 : nI 38 = nI 38 := rfl
    have j31 : 38 < 460 := by omega
    refine va_lald hx hb hE.1 hP 1 1 rfl rfl (by rw [i31]; exact vp_in_nI j31 (by omega)) dX4_worstError_31 ?_
    rw [i31, nI_clamp (by omega)]
    refine lv_topl (fun v31 e31 => ?_)
    rw [e31, h38]
    refine W.lcmp hx hb dX4_worstError_32 ?_
    refine lv_if_ge (tgt := 82) hx hb dX4_worstError_33 (by decide) (fun c33 => ?_) (fun c33 => ?_)
    · have c33 := (lg_cmp_ge _ _).mp c33
      have c33 := (pk_lLE (a := kr) (b := z) (by omega) (by omega)).mp c33
      refine lv_lload_n hx hb dX4_worstError_82 rfl (lv_at hl 2 rfl) ?_
      refine lv_l2i hx hb dX4_worstError_83 rfl ?_
      refine lv_topi (fun v83 e83 => ?_)
      have k9 := worst_rng m9 hn kr hrs
      have hz : z = kr := by omega
      exact fI (v := v83) (u7) hx hb hr hlocks hAe hP hD hS [0, 1] (by decide) rfl (⟨g7, fun _ => by rw [e83, i32T (by rw [hI22.1, hz]; omega) (by rw [hI22.1, hz]; omega), hI22.1, hz, ix_nI (by omega)]⟩) dX4_worstError_84
    · have c33 := fun q => c33 ((lg_cmp_ge _ _).mpr q)
      have c33 := mt (pk_lLE (a := kr) (b := z) (by omega) (by omega)).mpr c33
      refine lv_aload_n hx hb dX4_worstError_36 rfl (lv_at hl 0 rfl) ?_
      refine lv_iload hx hb dX4_worstError_37 (lv_at hl 3 rfl) ?_
      refine lv_iload_n hx hb dX4_worstError_39 rfl (lv_at hl 1 rfl) ?_
      refine goL (rdV (As := [.int (nI z), .int (nI m9)]) (rest := []) (m_errorOf l K b sm u7 al kn fn h6 hN kr fr h40 hR hn z m9 (by omega) (hrs _ (by omega)) (by omega)) ⟨hx, hb, hml, hown, hts⟩ (gV kl_X4_140 ki_X4_errorOf ks_X4_errorOf kn_X4 kc_X4_errorOf) (by show okN yX4_errorOf 2; decide +kernel) ⟨⟨Nat.le_of_ble_eq_true rfl, Nat.le_of_ble_eq_true rfl⟩, rfl, rfl⟩ hE hP [0, 1] rfl ⟨0, 6, _, _, rfl, rfl, rfl⟩ hl.1 rfl (Nat.le_of_ble_eq_true rfl) dX4_worstError_40 ⟨Nat.le_of_ble_eq_true rfl, Nat.le_of_ble_eq_true rfl⟩) (fun v40 e40 => ?_)
      refine lv_lstore (lv' := [(5, .long v40), (0, .ref (b 0)), (1, .int (nI m9)), (2, .long x2), (4, .int (nI z))]) hx hb dX4_worstError_43 hl (by decide) rfl (fun ls hl => ?_)
      refine lv_lload hx hb dX4_worstError_45 (lv_at hl 0 rfl) ?_
      refine lv_lconst (v := lN 0) hx hb dX4_worstError_47 (by decide) ?_
      refine W.lcmp hx hb dX4_worstError_48 ?_
      refine lv_if_ge (tgt := 58) hx hb dX4_worstError_49 (by decide) (fun c49 => ?_) (fun c49 => ?_)
      · have c49 := (lg_cmp_ge _ _).mp c49
        refine lv_lload hx hb dX4_worstError_58 (lv_at hl 0 rfl) ?_
        refine lv_lstore (lv' := [(7, .long v40), (5, .long v40), (0, .ref (b 0)), (1, .int (nI m9)), (2, .long x2), (4, .int (nI z))]) hx hb dX4_worstError_60 hl (by decide) rfl (fun ls hl => ?_)
        refine lv_lload hx hb dX4_worstError_62 (lv_at hl 0 rfl) ?_
        refine lv_lload_n hx hb dX4_worstError_64 rfl (lv_at hl 4 rfl) ?_
        refine W.lcmp hx hb dX4_worstError_65 ?_
        refine lv_if_le (tgt := 74) hx hb dX4_worstError_66 (by decide) (fun c66 => ?_) (fun c66 => ?_)
        · have c66 := (lg_cmp_le _ _).mp c66
          refine lv_lload_n hx hb dX4_worstError_74 rfl (lv_at hl 4 rfl) ?_
          refine lv_lstore_n (lv' := [(2, .long x2), (7, .long v40), (5, .long v40), (0, .ref (b 0)), (1, .int (nI m9)), (4, .int (nI z))]) hx hb dX4_worstError_75 rfl hl (by decide) rfl (fun ls hl => ?_)
          refine lv_iinc (v := nI (z + 1)) (lv' := [(4, .int (nI (z + 1))), (2, .long x2), (7, .long v40), (5, .long v40), (0, .ref (b 0)), (1, .int (nI m9))]) hx hb dX4_worstError_76 hl (k := 5) rfl (nI_add z 1) (by decide) rfl (fun ls hl => ?_)
          refine lv_goto (tgt := 22) hx hb dX4_worstError_79 (by decide) ?_
          have he9 := err_rng m9 hn (hrs z (by omega))
          have k49 := leL.mp c49
          rw [lN_T (by decide), e40] at k49
          have k66 := leL.mp c66
          rw [e40] at k66
          have hB22 : x2.toInt = worst fn fr m9 (z + 1) ∧ (z + 1) ≤ kr := ⟨by rw [worst, if_neg (by omega), ← hI22.1]; omega, by omega⟩
          exact ih22 (z + 1, x2) (hB22) (by omega) ls H locs (lv_sub hl [4, 5, 1, 0] rfl) hP hD hS
        · have c66 := fun q => c66 ((lg_cmp_le _ _).mpr q)
          refine lv_lload hx hb dX4_worstError_69 (lv_at hl 0 rfl) ?_
          refine lv_goto (tgt := 75) hx hb dX4_worstError_71 (by decide) ?_
          refine lv_lstore_n (lv' := [(2, .long v40), (7, .long v40), (5, .long v40), (0, .ref (b 0)), (1, .int (nI m9)), (4, .int (nI z))]) hx hb dX4_worstError_75 rfl hl (by decide) rfl (fun ls hl => ?_)
          refine lv_iinc (v := nI (z + 1)) (lv' := [(4, .int (nI (z + 1))), (2, .long v40), (7, .long v40), (5, .long v40), (0, .ref (b 0)), (1, .int (nI m9))]) hx hb dX4_worstError_76 hl (k := 5) rfl (nI_add z 1) (by decide) rfl (fun ls hl => ?_)
          refine lv_goto (tgt := 22) hx hb dX4_worstError_79 (by decide) ?_
          have he9 := err_rng m9 hn (hrs z (by omega))
          have k49 := leL.mp c49
          rw [lN_T (by decide), e40] at k49
          have k66 := mt leL.mpr c66
          rw [e40] at k66
          have hB22 : v40.toInt = worst fn fr m9 (z + 1) ∧ (z + 1) ≤ kr := ⟨by rw [worst, if_neg (by omega), ← hI22.1]; rw [e40]; omega, by omega⟩
          exact ih22 (z + 1, v40) (hB22) (by omega) ls H locs (lv_sub hl [4, 5, 1, 0] rfl) hP hD hS
      · have c49 := fun q => c49 ((lg_cmp_ge _ _).mpr q)
        refine lv_lload hx hb dX4_worstError_52 (lv_at hl 0 rfl) ?_
        refine lv_lneg hx hb dX4_worstError_54 ?_
        refine lv_topl (fun v54 e54 => ?_)
        refine lv_goto (tgt := 60) hx hb dX4_worstError_55 (by decide) ?_
        refine lv_lstore (lv' := [(7, .long v54), (5, .long v40), (0, .ref (b 0)), (1, .int (nI m9)), (2, .long x2), (4, .int (nI z))]) hx hb dX4_worstError_60 hl (by decide) rfl (fun ls hl => ?_)
        refine lv_lload hx hb dX4_worstError_62 (lv_at hl 0 rfl) ?_
        refine lv_lload_n hx hb dX4_worstError_64 rfl (lv_at hl 4 rfl) ?_
        refine W.lcmp hx hb dX4_worstError_65 ?_
        refine lv_if_le (tgt := 74) hx hb dX4_worstError_66 (by decide) (fun c66 => ?_) (fun c66 => ?_)
        · have c66 := (lg_cmp_le _ _).mp c66
          refine lv_lload_n hx hb dX4_worstError_74 rfl (lv_at hl 4 rfl) ?_
          refine lv_lstore_n (lv' := [(2, .long x2), (7, .long v54), (5, .long v40), (0, .ref (b 0)), (1, .int (nI m9)), (4, .int (nI z))]) hx hb dX4_worstError_75 rfl hl (by decide) rfl (fun ls hl => ?_)
          refine lv_iinc (v := nI (z + 1)) (lv' := [(4, .int (nI (z + 1))), (2, .long x2), (7, .long v54), (5, .long v40), (0, .ref (b 0)), (1, .int (nI m9))]) hx hb dX4_worstError_76 hl (k := 5) rfl (nI_add z 1) (by decide) rfl (fun ls hl => ?_)
          refine lv_goto (tgt := 22) hx hb dX4_worstError_79 (by decide) ?_
          have he9 := err_rng m9 hn (hrs z (by omega))
          have k49 := mt leL.mpr c49
          have q54 : v54.toInt = -(err fn fr z m9) := by rw [e54, neg64 (by rw [e40]; omega), e40]
          rw [lN_T (by decide), e40] at k49
          have k66 := leL.mp c66
          rw [q54] at k66
          have hB22 : x2.toInt = worst fn fr m9 (z + 1) ∧ (z + 1) ≤ kr := ⟨by rw [worst, if_pos (by omega), ← hI22.1]; omega, by omega⟩
          exact ih22 (z + 1, x2) (hB22) (by omega) ls H locs (lv_sub hl [4, 5, 1, 0] rfl) hP hD hS
        · have c66 := fun q => c66 ((lg_cmp_le _ _).mpr q)
          refine lv_lload hx hb dX4_worstError_69 (lv_at hl 0 rfl) ?_
          refine lv_goto (tgt := 75) hx hb dX4_worstError_71 (by decide) ?_
          refine lv_lstore_n (lv' := [(2, .long v54), (7, .long v54), (5, .long v40), (0, .ref (b 0)), (1, .int (nI m9)), (4, .int (nI z))]) hx hb dX4_worstError_75 rfl hl (by decide) rfl (fun ls hl => ?_)
          refine lv_iinc (v := nI (z + 1)) (lv' := [(4, .int (nI (z + 1))), (2, .long v54), (7, .long v54), (5, .long v40), (0, .ref (b 0)), (1, .int (nI m9))]) hx hb dX4_worstError_76 hl (k := 5) rfl (nI_add z 1) (by decide) rfl (fun ls hl => ?_)
          refine lv_goto (tgt := 22) hx hb dX4_worstError_79 (by decide) ?_
          have he9 := err_rng m9 hn (hrs z (by omega))
          have k49 := mt leL.mpr c49
          have q54 : v54.toInt = -(err fn fr z m9) := by rw [e54, neg64 (by rw [e40]; omega), e40]
          rw [lN_T (by decide), e40] at k49
          have k66 := mt leL.mpr c66
          rw [q54] at k66
          have hB22 : v54.toInt = worst fn fr m9 (z + 1) ∧ (z + 1) ≤ kr := ⟨by rw [worst, if_pos (by omega), ← hI22.1]; rw [q54]; omega, by omega⟩
          exact ih22 (z + 1, v54) (hB22) (by omega) ls H locs (lv_sub hl [4, 5, 1, 0] rfl) hP hD hS
  · have c10 := (e7).f c10
    refine lv_iconst (v := nI 0) hx hb dX4_worstError_13 (by decide) ?_
    exact fI (v := nI 0) (u7) hx hb hr hlocks hAe hP hD hS [0, 1] (by decide) rfl (⟨g7, fun g => absurd (g7.no g) c10⟩) dX4_worstError_14
set_option maxHeartbeats 4000000 in
set_option maxRecDepth 100000 in
theorem n_meanError (l : Launch) (K : EK) (b : Nat → Nat) (sm th : Int32) (al : Nat → Int64) (t : Int64) (kn : Nat) (fn : Nat → Int32) (kr : Nat) (fr : Nat → Int32) (kp : Nat) (fp : Nat → Int32) (p0 : Int32) (hC : Cp al (t, (kn, fn), (kr, fr), (kp, fp))) (hSI : SI (t, (kn, fn), (kr, fr), (kp, fp))) (sz : Nat) : Met l yX4_meanError (wq yX4_meanError cX4_meanError 8 (some .double)) (rmL 7 0 0) (va_Pc [.ref (b 0), .int p0] (PW K sz [(b 0, .inr (6, [.ref (b 1), .ref (b 2), .int sm, .int th])), (b 1, .inl (K.2.2.1, 460, .inr (.inl (al))))])) (va_Qd (fun r (u : Int32) => Gs u (0 ≤ p0.toInt ∧ p0.toInt ≤ 2) True True ∧ (u = 0 → ((kr = 0 ∧ r = FP.dconst0) ∨ (kr ≠ 0 ∧ ∃ S : Int64, S.toInt = esum fn fr (ix p0) kr ∧ r = FP.ddiv (FP.l2d S) (FP.i2d (nI kr)) ∧ dGood r)))) (Bw K sz [(b 0, .inr (6, [.ref (b 1), .ref (b 2), .int sm, .int th])), (b 1, .inl (K.2.2.1, 460, .inr (.inl (al))))] (fun (u : Int32) => [(b 0, .inr (6, [.ref (b 1), .ref (b 2), .int sm, .int u])), (b 1, .inl (K.2.2.1, 460, .inr (.inl (al))))])) (va_A [(b 0, .inr (6, [.ref (b 1), .ref (b 2), .int sm, .int th])), (b 1, .inl (K.2.2.1, 460, .inr (.inl (al))))] sz)) 0 0 (va_A [(b 0, .inr (6, [.ref (b 1), .ref (b 2), .int sm, .int th])), (b 1, .inl (K.2.2.1, 460, .inr (.inl (al))))] sz) := by
  refine hdW (by decide +kernel) (Nat.le_of_ble_eq_true rfl) ?_
  intro pp ee s mm bl9 me9 cd hx hb hr hlocks hml hown hin hts hE hP A hAe hsz hA hD hS ls hl
  have hown : s.vm.findClass RX4 = some mm.cls := hown
  have hP : va_P K.1 vwCl [(b 0, .inr (6, [.ref (b 1), .ref (b 2), .int sm, .int th])), (b 1, .inl (K.2.2.1, 460, .inr (.inl (al))))] s.heap := hP
  have hD : va_D A [(b 0, .inr (6, [.ref (b 1), .ref (b 2), .int sm, .int th])), (b 1, .inl (K.2.2.1, 460, .inr (.inl (al))))] := hD
  have hl : lv_has ls 8 [(0, .ref (b 0)), (1, .int p0)] := hl
  have s1 : kn ≤ 6 := hSI.1
  have s2 : kr ≤ 40 := hSI.2.1
  have s3 : kp ≤ 20 := hSI.2.2.1
  have s4 : 0 ≤ t.toInt ∧ t.toInt ≤ 900000000 + 1000000 * (kr : Int) := hSI.2.2.2.1
  have hn : ∀ i, i < kn → nOk fn i := hSI.2.2.2.2.1
  have hrs : ∀ e, e < kr → rOk kn fr e := hSI.2.2.2.2.2.1
  have hps : ∀ k, k < kp → pOk kn fp k := hSI.2.2.2.2.2.2.1
  have h6 := s1
  have h40 := s2
  have h20 := s3
  have h0 : al 0 = t := hC.1
  have h1 : al 1 = lN kn := hC.2.1
  have hN : NodC al kn fn := hC.2.2.1
  have h38 : al 38 = lN kr := hC.2.2.2.1
  have hR : RecC al kr fr := hC.2.2.2.2.1
  have h359 : al 359 = lN kp := hC.2.2.2.2.2.1
  have hPl : PlnC al kp fp := hC.2.2.2.2.2.2
  refine lv_aload_n hx hb dX4_meanError_0 rfl (lv_at hl 0 rfl) ?_
  refine lv_iload_n hx hb dX4_meanError_1 rfl (lv_at hl 1 rfl) ?_
  refine goI (rdS (As := [.int p0]) (rest := [.ref (b 0)]) (m_isMethod l K p0) ⟨hx, hb, hml, hown, hts⟩ (gS kl_X4_128 kt_X4_isMethod kn_X4 kc_X4_isMethod) (by show okN yX4_isMethod 1; decide +kernel) ⟨⟨Nat.le_of_ble_eq_true rfl, Nat.le_of_ble_eq_true rfl⟩, rfl, rfl⟩ hE hP [] rfl hl.1 rfl (Nat.le_of_ble_eq_true rfl) dX4_meanError_2 ⟨Nat.le_of_ble_eq_true rfl, Nat.le_of_ble_eq_true rfl⟩) (fun v2 e2 => ?_)
  refine lv_iconst (v := nI 1) hx hb dX4_meanError_5 (by decide) ?_
  refine lv_iconst (v := nI 1) hx hb dX4_meanError_6 (by decide) ?_
  refine woI (wrV (As := [.int v2, .int (nI 1), .int (nI 1)]) (rest := []) (m_goes l K b sm th v2 (nI 1) (nI 1) (0 ≤ p0.toInt ∧ p0.toInt ≤ 2) True True e2 Bo.one Bo.one _) ⟨hx, hb, hml, hown, hts⟩ (gV kl_X4_45 ki_X4_goes ks_X4_goes kn_X4 kc_X4_goes) (by show okN yX4_goes 3; decide +kernel) ⟨⟨Nat.le_of_ble_eq_true rfl, Nat.le_of_ble_eq_true rfl⟩, ⟨rfl, rfl⟩, Nat.le_of_ble_eq_true rfl, Nat.le_of_ble_eq_true rfl⟩ hE hP hD [0] (by decide) rfl ⟨0, 6, _, _, rfl, rfl, rfl⟩ hl.1 rfl (Nat.le_of_ble_eq_true rfl) dX4_meanError_7) hP hD hS hA [(b 1, .inl (K.2.2.1, 460, .inr (.inl (al))))] (fun u => [(b 0, .inr (6, [.ref (b 1), .ref (b 2), .int sm, .int u])), (b 1, .inl (K.2.2.1, 460, .inr (.inl (al))))]) [0] [1] [1, 0] ⟨rfl, rfl, by decide, by decide, by decide, fun _ => rfl⟩ (fun v7 u7 H locs e7 hP hD hS => ?_)
  have hP : va_P K.1 vwCl [(b 0, .inr (6, [.ref (b 1), .ref (b 2), .int sm, .int u7])), (b 1, .inl (K.2.2.1, 460, .inr (.inl (al))))] H := hP
  have hD : va_D A [(b 0, .inr (6, [.ref (b 1), .ref (b 2), .int sm, .int u7])), (b 1, .inl (K.2.2.1, 460, .inr (.inl (al))))] := hD
  obtain ⟨g7, e7⟩ := e7
  refine lv_if_eq (tgt := 25) hx hb dX4_meanError_10 (by decide) (fun c10 => ?_) (fun c10 => ?_)
  · have c10 := (e7).f c10
    refine lv_dconst0 hx hb dX4_meanError_25 ?_
    exact fD (v := FP.dconst0) (u7) hx hb hr hlocks hAe hP hD hS [0, 1] (by decide) rfl (⟨g7, fun g => by first | exact absurd (g7.no g) c10 | exact Or.inl ⟨c22, rfl⟩⟩) dX4_meanError_26
  · have c10 := (e7).t c10
    obtain ⟨m9, hm9, rfl⟩ := ixLe (n := 2) (show 0 ≤ p0.toInt ∧ p0.toInt ≤ (2 : Nat) by omega) (by omega)
    refine lv_aload_n hx hb dX4_meanError_13 rfl (lv_at hl 0 rfl) ?_
    refine va_get (D := K.1) (ci := 6) (v := .ref (b 1)) (C := RX4) (T := TX4) (N := 4) hx hb hts inX4 hown hE.1 hP 0 rfl rfl 0 (by decide) (hts _ kf_X4_7) (fun _ h9 => h9) rfl dX4_meanError_14 ?_
    refine lv_bipush (v := nI 38) hx hb dX4_meanError_17 (by decide) ?_
    have i19 : nI 38 = nI 38 := rfl
    have j19 : 38 < 460 := by omega
    refine va_lald hx hb hE.1 hP 1 1 rfl rfl (by rw [i19]; exact vp_in_nI j19 (by omega)) dX4_meanError_19 ?_
    rw [i19, nI_clamp (by omega)]
    refine lv_topl (fun v19 e19 => ?_)
    rw [e19, h38]
    refine lv_lconst (v := lN 0) hx hb dX4_meanError_20 (by decide) ?_
    refine W.lcmp hx hb dX4_meanError_21 ?_
    refine lv_if_ne (tgt := 27) hx hb dX4_meanError_22 (by decide) (fun c22 => ?_) (fun c22 => ?_)
    · have c22 := fun q => c22 ((lg_cmp_eq _ _).mpr q)
      have c22 := mt (pk_lEQ (a := kr) (b := 0) (by omega) (by omega)).mpr c22
      refine lv_lconst (v := lN 0) hx hb dX4_meanError_27 (by decide) ?_
      refine lv_lstore_n (lv' := [(2, .long (lN 0)), (0, .ref (b 0)), (1, .int (nI m9))]) hx hb dX4_meanError_28 rfl hl (by decide) rfl (fun ls hl => ?_)
      refine lv_iconst (v := nI 0) hx hb dX4_meanError_29 (by decide) ?_
      refine lv_istore (lv' := [(4, .int (nI 0)), (2, .long (lN 0)), (0, .ref (b 0)), (1, .int (nI m9))]) hx hb dX4_meanError_30 hl (by decide) rfl (fun ls hl => ?_)
      refine lpW (K := K) (A := A) (H0 := s.heap) (α := Nat × Int64) (fun (x9 : Nat × Int64) => x9.2.toInt = esum fn fr m9 x9.1 ∧ x9.1 ≤ kr) (fun (x9 : Nat × Int64) => kr - x9.1) (fun (x9 : Nat × Int64) => [(0, .ref (b 0)), (1, .int (nI m9)), (2, .long x9.2), (4, .int (nI x9.1))]) (fun (x9 : Nat × Int64) => [(b 0, .inr (6, [.ref (b 1), .ref (b 2), .int sm, .int u7])), (b 1, .inl (K.2.2.1, 460, .inr (.inl (al))))]) 8 32 (fun x9 hI32 ih32 ls H locs hl hP hD hS => ?_) (0, lN 0) (⟨(by decide : (lN 0).toInt = 0), Nat.zero_le _⟩) ls _ _ (lv_sub hl [2, 3, 1, 0] rfl) hP hD hS
      obtain ⟨z, x2⟩ := x9
      have hI32 : x2.toInt = esum fn fr m9 z ∧ z ≤ kr := hI32
      have hl : lv_has ls 8 [(0, .ref (b 0)), (1, .int (nI m9)), (2, .long x2), (4, .int (nI z))] := hl
      have hP : va_P K.1 vwCl [(b 0, .inr (6, [.ref (b 1), .ref (b 2), .int sm, .int u7])), (b 1, .inl (K.2.2.1, 460, .inr (.inl (al))))] H := hP
      have hD : va_D A [(b 0, .inr (6, [.ref (b 1), .ref (b 2), .int sm, .int u7])), (b 1, .inl (K.2.2.1, 460, .inr (.inl (al))))] := hD
      refine lv_iload hx hb dX4_meanError_32 (lv_at hl 3 rfl) ?_
      refine lv_i2l hx hb dX4_meanError_34 (nI_l (by omega)) ?_
      refine lv_aload_n hx hb dX4_meanError_35 rfl (lv_at hl 0 rfl) ?_
      refine va_get (D := K.1) (ci := 6) (v := .ref (b 1)) (C := RX4) (T := TX4) (N := 4) hx hb hts inX4 hown hE.1 hP 0 rfl rfl 0 (by decide) (hts _ kf_X4_7) (fun _ h9 => h9) rfl dX4_meanError_36 ?_
      refine lv_bipush (v := nI 38) hx hb dX4_meanError_39 (by decide) ?_
      have i41 : nI 38 = nI 38 := rfl
      have j41 : 38 < 460 := by omega
      refine va_lald hx hb hE.1 hP 1 1 rfl rfl (by rw [i41]; exact vp_in_nI j41 (by omega)) dX4_meanError_41 ?_
      rw [i41, nI_clamp (by omega)]
      refine lv_topl (fun v41 e41 => ?_)
      rw [e41, h38]
      refine W.lcmp hx hb dX4_meanError_42 ?_
      refine lv_if_ge (tgt := 62) hx hb dX4_meanError_43 (by decide) (fun c43 => ?_) (fun c43 => ?_)
      · have c43 := (lg_cmp_ge _ _).mp c43
        have c43 := (pk_lLE (a := kr) (b := z) (by omega) (by omega)).mp c43
        refine lv_lload_n hx hb dX4_meanError_62 rfl (lv_at hl 2 rfl) ?_
        refine lv_l2d hx hb dX4_meanError_63 ?_
        refine lv_dstore (lv' := [(4, .double (FP.l2d x2)), (0, .ref (b 0)), (1, .int (nI m9)), (2, .long x2)]) hx hb dX4_meanError_64 hl (by decide) rfl (fun ls hl => ?_)
        have hz : z = kr := by omega
        have hs9 := esum_rng m9 hn z (fun e he => hrs e (by omega))
        have gD : dGood (FP.ddiv (FP.l2d x2) (FP.l2d (lN kr))) := d_div (d_l2d (by rw [hI32.1]; omega)) (d_l2d0 (by rw [lN_T (by omega)]; omega) (by rw [lN_T (by omega)]; omega))
        refine lv_aload_n hx hb dX4_meanError_66 rfl (lv_at hl 1 rfl) ?_
        refine va_get (D := K.1) (ci := 6) (v := .ref (b 1)) (C := RX4) (T := TX4) (N := 4) hx hb hts inX4 hown hE.1 hP 0 rfl rfl 0 (by decide) (hts _ kf_X4_7) (fun _ h9 => h9) rfl dX4_meanError_67 ?_
        refine lv_bipush (v := nI 38) hx hb dX4_meanError_70 (by decide) ?_
        have i72 : nI 38 = nI 38 := rfl
        have j72 : 38 < 460 := by omega
        refine va_lald hx hb hE.1 hP 1 1 rfl rfl (by rw [i72]; exact vp_in_nI j72 (by omega)) dX4_meanError_72 ?_
        rw [i72, nI_clamp (by omega)]
        refine lv_topl (fun v72 e72 => ?_)
        rw [e72, h38]
        refine lv_l2d hx hb dX4_meanError_73 ?_
        refine lv_dstore (lv' := [(6, .double (FP.l2d (lN kr))), (4, .double (FP.l2d x2)), (0, .ref (b 0)), (1, .int (nI m9)), (2, .long x2)]) hx hb dX4_meanError_74 hl (by decide) rfl (fun ls hl => ?_)
        refine lv_dload hx hb dX4_meanError_76 (lv_at hl 1 rfl) ?_
        refine lv_dload hx hb dX4_meanError_78 (lv_at hl 0 rfl) ?_
        refine lv_ddiv hx hb dX4_meanError_80 (d_n64 gD) ?_
        exact fD (v := FP.ddiv (FP.l2d x2) (FP.l2d (lN kr))) (u7) hx hb hr hlocks hAe hP hD hS [0, 1] (by decide) rfl (⟨g7, fun _ => Or.inr ⟨c22, x2, by rw [ix_nI (by omega), ← hz]; exact hI32.1, by rw [d_same (v := nI kr) (w := lN kr) (by rw [nI_toInt (by omega), lN_T (by omega)])], gD⟩⟩) dX4_meanError_81
      · have c43 := fun q => c43 ((lg_cmp_ge _ _).mpr q)
        have c43 := mt (pk_lLE (a := kr) (b := z) (by omega) (by omega)).mpr c43
        refine lv_lload_n hx hb dX4_meanError_46 rfl (lv_at hl 2 rfl) ?_
        refine lv_aload_n hx hb dX4_meanError_47 rfl (lv_at hl 0 rfl) ?_
        refine lv_iload hx hb dX4_meanError_48 (lv_at hl 3 rfl) ?_
        refine lv_iload_n hx hb dX4_meanError_50 rfl (lv_at hl 1 rfl) ?_
        refine goL (rdV (As := [.int (nI z), .int (nI m9)]) (rest := [.long x2]) (m_errorOf l K b sm u7 al kn fn h6 hN kr fr h40 hR hn z m9 (by omega) (hrs _ (by omega)) (by omega)) ⟨hx, hb, hml, hown, hts⟩ (gV kl_X4_140 ki_X4_errorOf ks_X4_errorOf kn_X4 kc_X4_errorOf) (by show okN yX4_errorOf 2; decide +kernel) ⟨⟨Nat.le_of_ble_eq_true rfl, Nat.le_of_ble_eq_true rfl⟩, rfl, rfl⟩ hE hP [0, 1] rfl ⟨0, 6, _, _, rfl, rfl, rfl⟩ hl.1 rfl (Nat.le_of_ble_eq_true rfl) dX4_meanError_51 ⟨Nat.le_of_ble_eq_true rfl, Nat.le_of_ble_eq_true rfl⟩) (fun v51 e51 => ?_)
        refine lv_ladd hx hb dX4_meanError_54 ?_
        refine lv_topl (fun v54 e54 => ?_)
        refine lv_lstore_n (lv' := [(2, .long v54), (0, .ref (b 0)), (1, .int (nI m9)), (4, .int (nI z))]) hx hb dX4_meanError_55 rfl hl (by decide) rfl (fun ls hl => ?_)
        refine lv_iinc (v := nI (z + 1)) (lv' := [(4, .int (nI (z + 1))), (2, .long v54), (0, .ref (b 0)), (1, .int (nI m9))]) hx hb dX4_meanError_56 hl (k := 3) rfl (nI_add z 1) (by decide) rfl (fun ls hl => ?_)
        refine lv_goto (tgt := 32) hx hb dX4_meanError_59 (by decide) ?_
        have he9 := err_rng m9 hn (hrs z (by omega))
        have hs9 := esum_rng m9 hn z (fun e he => hrs e (by omega))
        have q54 : v54.toInt = esum fn fr m9 (z + 1) := by rw [e54, fb_addL (by rw [e51, hI32.1]; omega) (by rw [e51, hI32.1]; omega), e51, hI32.1]; rfl
        have hB32 : v54.toInt = esum fn fr m9 (z + 1) ∧ (z + 1) ≤ kr := ⟨q54, by omega⟩
        exact ih32 (z + 1, v54) (hB32) (by omega) ls H locs (lv_sub hl [2, 3, 1, 0] rfl) hP hD hS
    · have c22 := (lg_cmp_eq _ _).mp c22
      have c22 := (pk_lEQ (a := kr) (b := 0) (by omega) (by omega)).mp c22
      refine lv_dconst0 hx hb dX4_meanError_25 ?_
      exact fD (v := FP.dconst0) (u7) hx hb hr hlocks hAe hP hD hS [0, 1] (by decide) rfl (⟨g7, fun g => by first | exact absurd (g7.no g) c10 | exact Or.inl ⟨c22, rfl⟩⟩) dX4_meanError_26
set_option maxHeartbeats 4000000 in
set_option maxRecDepth 100000 in
theorem n_relativeDrift (l : Launch) (K : EK) (b : Nat → Nat) (sm th : Int32) (al : Nat → Int64) (t : Int64) (kn : Nat) (fn : Nat → Int32) (kr : Nat) (fr : Nat → Int32) (kp : Nat) (fp : Nat → Int32) (p0 : Int32) (hC : Cp al (t, (kn, fn), (kr, fr), (kp, fp))) (hSI : SI (t, (kn, fn), (kr, fr), (kp, fp))) (sz : Nat) : Met l yX4_relativeDrift (wq yX4_relativeDrift cX4_relativeDrift 9 (some .double)) (rmL 7 0 0) (va_Pc [.ref (b 0), .int p0] (PW K sz [(b 0, .inr (6, [.ref (b 1), .ref (b 2), .int sm, .int th])), (b 1, .inl (K.2.2.1, 460, .inr (.inl (al))))])) (va_Qd (fun r (u : Int32) => Gs u (0 ≤ p0.toInt ∧ p0.toInt < kr) (elp fr (ix p0) 4 7 + elp fr (ix p0) 3 4 ≠ 0) True ∧ (u = 0 → (∃ u v : Int32, u.toInt = elp fr (ix p0) 2 5 + elp fr (ix p0) 5 6 ∧ v.toInt = elp fr (ix p0) 4 7 + elp fr (ix p0) 3 4 ∧ r = FP.dmul (FP.dsub (FP.ddiv (FP.i2d u) (FP.i2d v)) FP.dconst1) 4696837146684686336 ∧ dGood r))) (Bw K sz [(b 0, .inr (6, [.ref (b 1), .ref (b 2), .int sm, .int th])), (b 1, .inl (K.2.2.1, 460, .inr (.inl (al))))] (fun (u : Int32) => [(b 0, .inr (6, [.ref (b 1), .ref (b 2), .int sm, .int u])), (b 1, .inl (K.2.2.1, 460, .inr (.inl (al))))])) (va_A [(b 0, .inr (6, [.ref (b 1), .ref (b 2), .int sm, .int th])), (b 1, .inl (K.2.2.1, 460, .inr (.inl (al))))] sz)) 0 0 (va_A [(b 0, .inr (6, [.ref (b 1), .ref (b 2), .int sm, .int th])), (b 1, .inl (K.2.2.1, 460, .inr (.inl (al))))] sz) := by
  refine hdW (by decide +kernel) (Nat.le_of_ble_eq_true rfl) ?_
  intro pp ee s mm bl9 me9 cd hx hb hr hlocks hml hown hin hts hE hP A hAe hsz hA hD hS ls hl
  have hown : s.vm.findClass RX4 = some mm.cls := hown
  have hP : va_P K.1 vwCl [(b 0, .inr (6, [.ref (b 1), .ref (b 2), .int sm, .int th])), (b 1, .inl (K.2.2.1, 460, .inr (.inl (al))))] s.heap := hP
  have hD : va_D A [(b 0, .inr (6, [.ref (b 1), .ref (b 2), .int sm, .int th])), (b 1, .inl (K.2.2.1, 460, .inr (.inl (al))))] := hD
  have hl : lv_has ls 9 [(0, .ref (b 0)), (1, .int p0)] := hl
  have s1 : kn ≤ 6 := hSI.1
  have s2 : kr ≤ 40 := hSI.2.1
  have s3 : kp ≤ 20 := hSI.2.2.1
  have s4 : 0 ≤ t.toInt ∧ t.toInt ≤ 900000000 + 1000000 * (kr : Int) := hSI.2.2.2.1
  have hn : ∀ i, i < kn → nOk fn i := hSI.2.2.2.2.1
  have hrs : ∀ e, e < kr → rOk kn fr e := hSI.2.2.2.2.2.1
  have hps : ∀ k, k < kp → pOk kn fp k := hSI.2.2.2.2.2.2.1
  have h6 := s1
  have h40 := s2
  have h20 := s3
  have h0 : al 0 = t := hC.1
  have h1 : al 1 = lN kn := hC.2.1
  have hN : NodC al kn fn := hC.2.2.1
  have h38 : al 38 = lN kr := hC.2.2.2.1
  have hR : RecC al kr fr := hC.2.2.2.2.1
  have h359 : al 359 = lN kp := hC.2.2.2.2.2.1
  have hPl : PlnC al kp fp := hC.2.2.2.2.2.2
  refine lv_aload_n hx hb dX4_relativeDrift_0 rfl (lv_at hl 0 rfl) ?_
  refine lv_iload_n hx hb dX4_relativeDrift_1 rfl (lv_at hl 1 rfl) ?_
  refine goI (rdV (As := [.int p0]) (rest := []) (m_isExchange l K b sm th al kr h40 h38 p0) ⟨hx, hb, hml, hown, hts⟩ (gV kl_X4_104 ki_X4_isExchange ks_X4_isExchange kn_X4 kc_X4_isExchange) (by show okN yX4_isExchange 1; decide +kernel) ⟨⟨Nat.le_of_ble_eq_true rfl, Nat.le_of_ble_eq_true rfl⟩, rfl, rfl⟩ hE hP [0, 1] rfl ⟨0, 6, _, _, rfl, rfl, rfl⟩ hl.1 rfl (Nat.le_of_ble_eq_true rfl) dX4_relativeDrift_2 ⟨Nat.le_of_ble_eq_true rfl, Nat.le_of_ble_eq_true rfl⟩) (fun v2 e2 => ?_)
  refine lv_istore_n (lv' := [(2, .int v2), (0, .ref (b 0)), (1, .int p0)]) hx hb dX4_relativeDrift_5 rfl hl (by decide) rfl (fun ls hl => ?_)
  refine lv_iload_n hx hb dX4_relativeDrift_6 rfl (lv_at hl 0 rfl) ?_
  refine lv_if_eq (tgt := 29) hx hb dX4_relativeDrift_7 (by decide) (fun c7 => ?_) (fun c7 => ?_)
  · have c7 := (e2).f c7
    refine lv_lconst (v := lN 0) hx hb dX4_relativeDrift_29 (by decide) ?_
    refine lv_lstore_n (lv' := [(3, .long (lN 0)), (2, .int v2), (0, .ref (b 0)), (1, .int p0)]) hx hb dX4_relativeDrift_30 rfl hl (by decide) rfl (fun ls hl => ?_)
    refine lv_aload_n hx hb dX4_relativeDrift_31 rfl (lv_at hl 2 rfl) ?_
    refine lv_iload_n hx hb dX4_relativeDrift_32 rfl (lv_at hl 1 rfl) ?_
    refine jn (P := fun jv => Bo jv False) 44 [.int v2, .ref (b 0)] (fun j44 k44 => ?_) (fun hJ44 => ?_)
    · refine lv_iconst (v := nI 1) hx hb dX4_relativeDrift_44 (by decide) ?_
      refine woI (wrV (As := [.int v2, .int j44, .int (nI 1)]) (rest := []) (m_goes l K b sm th v2 j44 (nI 1) (0 ≤ p0.toInt ∧ p0.toInt < kr) False True e2 k44 Bo.one _) ⟨hx, hb, hml, hown, hts⟩ (gV kl_X4_45 ki_X4_goes ks_X4_goes kn_X4 kc_X4_goes) (by show okN yX4_goes 3; decide +kernel) ⟨⟨Nat.le_of_ble_eq_true rfl, Nat.le_of_ble_eq_true rfl⟩, ⟨rfl, rfl⟩, Nat.le_of_ble_eq_true rfl, Nat.le_of_ble_eq_true rfl⟩ hE hP hD [0] (by decide) rfl ⟨0, 6, _, _, rfl, rfl, rfl⟩ hl.1 rfl (Nat.le_of_ble_eq_true rfl) dX4_relativeDrift_45) hP hD hS hA [(b 1, .inl (K.2.2.1, 460, .inr (.inl (al))))] (fun u => [(b 0, .inr (6, [.ref (b 1), .ref (b 2), .int sm, .int u])), (b 1, .inl (K.2.2.1, 460, .inr (.inl (al))))]) [0] [1] [1, 0] ⟨rfl, rfl, by decide, by decide, by decide, fun _ => rfl⟩ (fun v45 u45 H locs e45 hP hD hS => ?_)
      have hP : va_P K.1 vwCl [(b 0, .inr (6, [.ref (b 1), .ref (b 2), .int sm, .int u45])), (b 1, .inl (K.2.2.1, 460, .inr (.inl (al))))] H := hP
      have hD : va_D A [(b 0, .inr (6, [.ref (b 1), .ref (b 2), .int sm, .int u45])), (b 1, .inl (K.2.2.1, 460, .inr (.inl (al))))] := hD
      obtain ⟨g45, e45⟩ := e45
      have G45 : Gs u45 (0 ≤ p0.toInt ∧ p0.toInt < kr) (elp fr (ix p0) 4 7 + elp fr (ix p0) 3 4 ≠ 0) True := g45.c Iff.rfl (fun w1 => absurd w1 c7) (fun _ _ => Iff.rfl)
      refine lv_if_ne (tgt := 53) hx hb dX4_relativeDrift_48 (by decide) (fun c48 => ?_) (fun c48 => ?_)
      · have c48 := (e45).t c48
        exact absurd c48.1 c7
      · have c48 := (e45).f c48
        refine lv_dconst0 hx hb dX4_relativeDrift_51 ?_
        exact fD (v := FP.dconst0) (u45) hx hb hr hlocks hAe hP hD hS [0, 1] (by decide) rfl (⟨G45, fun g => absurd (g45.no g) c48⟩) dX4_relativeDrift_52
    · refine lv_lload_n hx hb dX4_relativeDrift_33 rfl (lv_at hl 0 rfl) ?_
      refine lv_lconst (v := lN 0) hx hb dX4_relativeDrift_34 (by decide) ?_
      refine W.lcmp hx hb dX4_relativeDrift_35 ?_
      refine lv_if_eq (tgt := 43) hx hb dX4_relativeDrift_36 (by decide) (fun c36 => ?_) (fun c36 => ?_)
      · have c36 := (lg_cmp_eq _ _).mp c36
        have c36 := (pk_lEQ (a := 0) (b := 0) (by omega) (by omega)).mp c36
        refine lv_iconst (v := nI 0) hx hb dX4_relativeDrift_43 (by decide) ?_
        exact hJ44 (nI 0) (Or.inr ⟨rfl, fun g => g⟩)
      · have c36 := fun q => c36 ((lg_cmp_eq _ _).mpr q)
        have c36 := mt (pk_lEQ (a := 0) (b := 0) (by omega) (by omega)).mpr c36
        refine lv_iconst (v := nI 1) hx hb dX4_relativeDrift_39 (by decide) ?_
        refine lv_goto (tgt := 44) hx hb dX4_relativeDrift_40 (by decide) ?_
        exact hJ44 (nI 1) (absurd rfl c36)
  · have c7 := (e2).t c7
    obtain ⟨i, hi, rfl⟩ := ixOf (n := kr) c7 (by omega)
    have he := hi
    have oe := hrs _ hi
    have r1 := elp_rng fr i 4 7
    have r2 := elp_rng fr i 3 4
    have r3 := elp_rng fr i 2 5
    have r4 := elp_rng fr i 5 6
    refine lv_aload_n hx hb dX4_relativeDrift_10 rfl (lv_at hl 1 rfl) ?_
    refine lv_iload_n hx hb dX4_relativeDrift_11 rfl (lv_at hl 2 rfl) ?_
    refine lv_iconst (v := nI 3) hx hb dX4_relativeDrift_12 (by decide) ?_
    refine lv_bipush (v := nI 6) hx hb dX4_relativeDrift_13 (by decide) ?_
    refine goL (rdV (As := [.int (nI i), .int (nI 3), .int (nI 6)]) (rest := []) (m_span l K b sm th al kr fr h40 hR kn i 3 6 he (by decide) (by decide) (by decide) (by decide) oe) ⟨hx, hb, hml, hown, hts⟩ (gV kl_X4_110 ki_X4_span ks_X4_span kn_X4 kc_X4_span) (by show okN yX4_span 3; decide +kernel) ⟨⟨Nat.le_of_ble_eq_true rfl, Nat.le_of_ble_eq_true rfl⟩, rfl, rfl⟩ hE hP [0, 1] rfl ⟨0, 6, _, _, rfl, rfl, rfl⟩ hl.1 rfl (Nat.le_of_ble_eq_true rfl) dX4_relativeDrift_15 ⟨Nat.le_of_ble_eq_true rfl, Nat.le_of_ble_eq_true rfl⟩) (fun v15 e15 => ?_)
    have e15 : v15.toInt = elp fr i 4 7 := e15
    refine lv_aload_n hx hb dX4_relativeDrift_18 rfl (lv_at hl 1 rfl) ?_
    refine lv_iload_n hx hb dX4_relativeDrift_19 rfl (lv_at hl 2 rfl) ?_
    refine lv_iconst (v := nI 2) hx hb dX4_relativeDrift_20 (by decide) ?_
    refine lv_iconst (v := nI 3) hx hb dX4_relativeDrift_21 (by decide) ?_
    refine goL (rdV (As := [.int (nI i), .int (nI 2), .int (nI 3)]) (rest := [.long v15]) (m_span l K b sm th al kr fr h40 hR kn i 2 3 he (by decide) (by decide) (by decide) (by decide) oe) ⟨hx, hb, hml, hown, hts⟩ (gV kl_X4_110 ki_X4_span ks_X4_span kn_X4 kc_X4_span) (by show okN yX4_span 3; decide +kernel) ⟨⟨Nat.le_of_ble_eq_true rfl, Nat.le_of_ble_eq_true rfl⟩, rfl, rfl⟩ hE hP [0, 1] rfl ⟨0, 6, _, _, rfl, rfl, rfl⟩ hl.1 rfl (Nat.le_of_ble_eq_true rfl) dX4_relativeDrift_22 ⟨Nat.le_of_ble_eq_true rfl, Nat.le_of_ble_eq_true rfl⟩) (fun v22 e22 => ?_)
    have e22 : v22.toInt = elp fr i 3 4 := e22
    refine lv_ladd hx hb dX4_relativeDrift_25 ?_
    refine lv_topl (fun v25 e25 => ?_)
    have q25 : v25.toInt = elp fr i 4 7 + elp fr i 3 4 := by rw [e25, fb_addL (by rw [e15, e22]; omega) (by rw [e15, e22]; omega), e15, e22]
    refine lv_goto (tgt := 30) hx hb dX4_relativeDrift_26 (by decide) ?_
    refine lv_lstore_n (lv' := [(3, .long v25), (2, .int v2), (0, .ref (b 0)), (1, .int (nI i))]) hx hb dX4_relativeDrift_30 rfl hl (by decide) rfl (fun ls hl => ?_)
    refine lv_aload_n hx hb dX4_relativeDrift_31 rfl (lv_at hl 2 rfl) ?_
    refine lv_iload_n hx hb dX4_relativeDrift_32 rfl (lv_at hl 1 rfl) ?_
    refine jn (P := fun jv => Bo jv (v25.toInt ≠ 0)) 44 [.int v2, .ref (b 0)] (fun j44 k44 => ?_) (fun hJ44 => ?_)
    · refine lv_iconst (v := nI 1) hx hb dX4_relativeDrift_44 (by decide) ?_
      refine woI (wrV (As := [.int v2, .int j44, .int (nI 1)]) (rest := []) (m_goes l K b sm th v2 j44 (nI 1) (0 ≤ (nI i).toInt ∧ (nI i).toInt < kr) (v25.toInt ≠ 0) True e2 k44 Bo.one _) ⟨hx, hb, hml, hown, hts⟩ (gV kl_X4_45 ki_X4_goes ks_X4_goes kn_X4 kc_X4_goes) (by show okN yX4_goes 3; decide +kernel) ⟨⟨Nat.le_of_ble_eq_true rfl, Nat.le_of_ble_eq_true rfl⟩, ⟨rfl, rfl⟩, Nat.le_of_ble_eq_true rfl, Nat.le_of_ble_eq_true rfl⟩ hE hP hD [0] (by decide) rfl ⟨0, 6, _, _, rfl, rfl, rfl⟩ hl.1 rfl (Nat.le_of_ble_eq_true rfl) dX4_relativeDrift_45) hP hD hS hA [(b 1, .inl (K.2.2.1, 460, .inr (.inl (al))))] (fun u => [(b 0, .inr (6, [.ref (b 1), .ref (b 2), .int sm, .int u])), (b 1, .inl (K.2.2.1, 460, .inr (.inl (al))))]) [0] [1] [1, 0] ⟨rfl, rfl, by decide, by decide, by decide, fun _ => rfl⟩ (fun v45 u45 H locs e45 hP hD hS => ?_)
      have hP : va_P K.1 vwCl [(b 0, .inr (6, [.ref (b 1), .ref (b 2), .int sm, .int u45])), (b 1, .inl (K.2.2.1, 460, .inr (.inl (al))))] H := hP
      have hD : va_D A [(b 0, .inr (6, [.ref (b 1), .ref (b 2), .int sm, .int u45])), (b 1, .inl (K.2.2.1, 460, .inr (.inl (al))))] := hD
      obtain ⟨g45, e45⟩ := e45
      have G45 : Gs u45 (0 ≤ (nI i).toInt ∧ (nI i).toInt < kr) (elp fr (ix (nI i)) 4 7 + elp fr (ix (nI i)) 3 4 ≠ 0) True := g45.c Iff.rfl (fun _ => by rw [q25, ix_nI (by omega)]) (fun _ _ => Iff.rfl)
      refine lv_if_ne (tgt := 53) hx hb dX4_relativeDrift_48 (by decide) (fun c48 => ?_) (fun c48 => ?_)
      · have c48 := (e45).t c48
        refine lv_aload_n hx hb dX4_relativeDrift_53 rfl (lv_at hl 2 rfl) ?_
        refine lv_iload_n hx hb dX4_relativeDrift_54 rfl (lv_at hl 3 rfl) ?_
        refine lv_iconst (v := nI 1) hx hb dX4_relativeDrift_55 (by decide) ?_
        refine lv_iconst (v := nI 4) hx hb dX4_relativeDrift_56 (by decide) ?_
        refine goL (rdV (As := [.int (nI i), .int (nI 1), .int (nI 4)]) (rest := []) (m_span l K b sm u45 al kr fr h40 hR kn i 1 4 he (by decide) (by decide) (by decide) (by decide) oe) ⟨hx, hb, hml, hown, hts⟩ (gV kl_X4_110 ki_X4_span ks_X4_span kn_X4 kc_X4_span) (by show okN yX4_span 3; decide +kernel) ⟨⟨Nat.le_of_ble_eq_true rfl, Nat.le_of_ble_eq_true rfl⟩, rfl, rfl⟩ hE hP [0, 1] rfl ⟨0, 6, _, _, rfl, rfl, rfl⟩ hl.1 rfl (Nat.le_of_ble_eq_true rfl) dX4_relativeDrift_57 ⟨Nat.le_of_ble_eq_true rfl, Nat.le_of_ble_eq_true rfl⟩) (fun v57 e57 => ?_)
        have e57 : v57.toInt = elp fr i 2 5 := e57
        refine lv_aload_n hx hb dX4_relativeDrift_60 rfl (lv_at hl 2 rfl) ?_
        refine lv_iload_n hx hb dX4_relativeDrift_61 rfl (lv_at hl 3 rfl) ?_
        refine lv_iconst (v := nI 4) hx hb dX4_relativeDrift_62 (by decide) ?_
        refine lv_iconst (v := nI 5) hx hb dX4_relativeDrift_63 (by decide) ?_
        refine goL (rdV (As := [.int (nI i), .int (nI 4), .int (nI 5)]) (rest := [.long v57]) (m_span l K b sm u45 al kr fr h40 hR kn i 4 5 he (by decide) (by decide) (by decide) (by decide) oe) ⟨hx, hb, hml, hown, hts⟩ (gV kl_X4_110 ki_X4_span ks_X4_span kn_X4 kc_X4_span) (by show okN yX4_span 3; decide +kernel) ⟨⟨Nat.le_of_ble_eq_true rfl, Nat.le_of_ble_eq_true rfl⟩, rfl, rfl⟩ hE hP [0, 1] rfl ⟨0, 6, _, _, rfl, rfl, rfl⟩ hl.1 rfl (Nat.le_of_ble_eq_true rfl) dX4_relativeDrift_64 ⟨Nat.le_of_ble_eq_true rfl, Nat.le_of_ble_eq_true rfl⟩) (fun v64 e64 => ?_)
        have e64 : v64.toInt = elp fr i 5 6 := e64
        refine lv_ladd hx hb dX4_relativeDrift_67 ?_
        refine lv_topl (fun v67 e67 => ?_)
        have q67 : v67.toInt = elp fr i 2 5 + elp fr i 5 6 := by rw [e67, fb_addL (by rw [e57, e64]; omega) (by rw [e57, e64]; omega), e57, e64]
        refine lv_l2d hx hb dX4_relativeDrift_68 ?_
        refine lv_dstore (lv' := [(5, .double (FP.l2d v67)), (3, .long v25), (2, .int v2), (0, .ref (b 0)), (1, .int (nI i))]) hx hb dX4_relativeDrift_69 hl (by decide) rfl (fun ls hl => ?_)
        refine lv_lload_n hx hb dX4_relativeDrift_71 rfl (lv_at hl 1 rfl) ?_
        refine lv_l2d hx hb dX4_relativeDrift_72 ?_
        refine lv_dstore (lv' := [(7, .double (FP.l2d v25)), (5, .double (FP.l2d v67)), (3, .long v25), (2, .int v2), (0, .ref (b 0)), (1, .int (nI i))]) hx hb dX4_relativeDrift_73 hl (by decide) rfl (fun ls hl => ?_)
        have gD : dGood (FP.ddiv (FP.l2d v67) (FP.l2d v25)) := d_div (d_l2d (by rw [q67]; omega)) (d_l2d0 (by rw [q25]; omega) c48.2.1)
        refine lv_dload hx hb dX4_relativeDrift_75 (lv_at hl 1 rfl) ?_
        refine lv_dload hx hb dX4_relativeDrift_77 (lv_at hl 0 rfl) ?_
        refine lv_ddiv hx hb dX4_relativeDrift_79 (d_n64 gD) ?_
        refine lv_dconst1 hx hb dX4_relativeDrift_80 ?_
        refine lv_dsub hx hb dX4_relativeDrift_81 (d_n64 (d_sub1 gD)) ?_
        refine lv_ldc2d hx hb hown (hts _ kd_X4_143) dX4_relativeDrift_82 ?_
        refine lv_dmul hx hb dX4_relativeDrift_85 (d_n64 (d_mulM (d_sub1 gD))) ?_
        have k1 : v67.toInt32.toInt = v67.toInt := i32T (by rw [q67]; omega) (by rw [q67]; omega)
        have k2 : v25.toInt32.toInt = v25.toInt := i32T (by rw [q25]; omega) (by rw [q25]; omega)
        exact fD (v := FP.dmul (FP.dsub (FP.ddiv (FP.l2d v67) (FP.l2d v25)) FP.dconst1) 4696837146684686336) (u45) hx hb hr hlocks hAe hP hD hS [0, 1] (by decide) rfl (⟨G45, fun _ => ⟨v67.toInt32, v25.toInt32, by rw [k1, q67, ix_nI (by omega)], by rw [k2, q25, ix_nI (by omega)], by rw [d_same k1, d_same k2], d_mulM (d_sub1 gD)⟩⟩) dX4_relativeDrift_86
      · have c48 := (e45).f c48
        refine lv_dconst0 hx hb dX4_relativeDrift_51 ?_
        exact fD (v := FP.dconst0) (u45) hx hb hr hlocks hAe hP hD hS [0, 1] (by decide) rfl (⟨G45, fun g => absurd (g45.no g) c48⟩) dX4_relativeDrift_52
    · refine lv_lload_n hx hb dX4_relativeDrift_33 rfl (lv_at hl 0 rfl) ?_
      refine lv_lconst (v := lN 0) hx hb dX4_relativeDrift_34 (by decide) ?_
      refine W.lcmp hx hb dX4_relativeDrift_35 ?_
      refine lv_if_eq (tgt := 43) hx hb dX4_relativeDrift_36 (by decide) (fun c36 => ?_) (fun c36 => ?_)
      · have c36 := (lg_cmp_eq _ _).mp c36
        refine lv_iconst (v := nI 0) hx hb dX4_relativeDrift_43 (by decide) ?_
        exact hJ44 (nI 0) (Or.inr ⟨rfl, fun g => g (by rw [c36]; decide)⟩)
      · have c36 := fun q => c36 ((lg_cmp_eq _ _).mpr q)
        refine lv_iconst (v := nI 1) hx hb dX4_relativeDrift_39 (by decide) ?_
        refine lv_goto (tgt := 44) hx hb dX4_relativeDrift_40 (by decide) ?_
        exact hJ44 (nI 1) (Or.inl ⟨rfl, fun g => c36 (eqL g)⟩)
set_option maxHeartbeats 4000000 in
set_option maxRecDepth 100000 in
theorem n_now (l : Launch) (K : EK) (b : Nat → Nat) (sm th : Int32) (al : Nat → Int64) (t : Int64) (kn : Nat) (fn : Nat → Int32) (kr : Nat) (fr : Nat → Int32) (kp : Nat) (fp : Nat → Int32) (hC : Cp al (t, (kn, fn), (kr, fr), (kp, fp))) (hSI : SI (t, (kn, fn), (kr, fr), (kp, fp))) (sz : Nat) : Met l yX4_now (wq yX4_now cX4_now 1 (some .long)) (rmL 7 0 0) (va_Pc [.ref (b 0)] (PW K sz [(b 0, .inr (6, [.ref (b 1), .ref (b 2), .int sm, .int th])), (b 1, .inl (K.2.2.1, 460, .inr (.inl (al))))])) (va_Ql (fun r (u : Int32) => Gs u True True True ∧ (u = 0 → (r = t))) (Bw K sz [(b 0, .inr (6, [.ref (b 1), .ref (b 2), .int sm, .int th])), (b 1, .inl (K.2.2.1, 460, .inr (.inl (al))))] (fun (u : Int32) => [(b 0, .inr (6, [.ref (b 1), .ref (b 2), .int sm, .int u])), (b 1, .inl (K.2.2.1, 460, .inr (.inl (al))))])) (va_A [(b 0, .inr (6, [.ref (b 1), .ref (b 2), .int sm, .int th])), (b 1, .inl (K.2.2.1, 460, .inr (.inl (al))))] sz)) 0 0 (va_A [(b 0, .inr (6, [.ref (b 1), .ref (b 2), .int sm, .int th])), (b 1, .inl (K.2.2.1, 460, .inr (.inl (al))))] sz) := by
  refine hdW (by decide +kernel) (Nat.le_of_ble_eq_true rfl) ?_
  intro pp ee s mm bl9 me9 cd hx hb hr hlocks hml hown hin hts hE hP A hAe hsz hA hD hS ls hl
  have hown : s.vm.findClass RX4 = some mm.cls := hown
  have hP : va_P K.1 vwCl [(b 0, .inr (6, [.ref (b 1), .ref (b 2), .int sm, .int th])), (b 1, .inl (K.2.2.1, 460, .inr (.inl (al))))] s.heap := hP
  have hD : va_D A [(b 0, .inr (6, [.ref (b 1), .ref (b 2), .int sm, .int th])), (b 1, .inl (K.2.2.1, 460, .inr (.inl (al))))] := hD
  have hl : lv_has ls 1 [(0, .ref (b 0))] := hl
  have s1 : kn ≤ 6 := hSI.1
  have s2 : kr ≤ 40 := hSI.2.1
  have s3 : kp ≤ 20 := hSI.2.2.1
  have s4 : 0 ≤ t.toInt ∧ t.toInt ≤ 900000000 + 1000000 * (kr : Int) := hSI.2.2.2.1
  have hn : ∀ i, i < kn → nOk fn i := hSI.2.2.2.2.1
  have hrs : ∀ e, e < kr → rOk kn fr e := hSI.2.2.2.2.2.1
  have hps : ∀ k, k < kp → pOk kn fp k := hSI.2.2.2.2.2.2.1
  have h6 := s1
  have h40 := s2
  have h20 := s3
  have h0 : al 0 = t := hC.1
  have h1 : al 1 = lN kn := hC.2.1
  have hN : NodC al kn fn := hC.2.2.1
  have h38 : al 38 = lN kr := hC.2.2.2.1
  have hR : RecC al kr fr := hC.2.2.2.2.1
  have h359 : al 359 = lN kp := hC.2.2.2.2.2.1
  have hPl : PlnC al kp fp := hC.2.2.2.2.2.2
  refine lv_aload_n hx hb dX4_now_0 rfl (lv_at hl 0 rfl) ?_
  refine lv_iconst (v := nI 0) hx hb dX4_now_1 (by decide) ?_
  refine va_put (D := K.1) (ci := 6) (v := .int (nI 0)) (ty := .int) (C := RX4) (T := TX4) (N := 4) hx hb hts inX4 tyX4 tyX4_ok nmX4 hown hE.1 hP hD hS 0 rfl rfl 3 (by decide) (hts _ kf_X4_16) (fun _ h9 => h9) rfl (by decide +kernel) rfl rfl (Nat.le_of_ble_eq_true rfl) dX4_now_2 (fun H locs hP hD hS => ?_)
  have hP : va_P K.1 vwCl [(b 0, .inr (6, [.ref (b 1), .ref (b 2), .int sm, .int (nI 0)])), (b 1, .inl (K.2.2.1, 460, .inr (.inl (al))))] H := hP
  have hD : va_D A [(b 0, .inr (6, [.ref (b 1), .ref (b 2), .int sm, .int (nI 0)])), (b 1, .inl (K.2.2.1, 460, .inr (.inl (al))))] := hD
  refine lv_aload_n hx hb dX4_now_5 rfl (lv_at hl 0 rfl) ?_
  refine va_get (D := K.1) (ci := 6) (v := .ref (b 1)) (C := RX4) (T := TX4) (N := 4) hx hb hts inX4 hown hE.1 hP 0 rfl rfl 0 (by decide) (hts _ kf_X4_7) (fun _ h9 => h9) rfl dX4_now_6 ?_
  refine lv_iconst (v := nI 0) hx hb dX4_now_9 (by decide) ?_
  have i10 : nI 0 = nI 0 := rfl
  have j10 : 0 < 460 := by omega
  refine va_lald hx hb hE.1 hP 1 1 rfl rfl (by rw [i10]; exact vp_in_nI j10 (by omega)) dX4_now_10 ?_
  rw [i10, nI_clamp (by omega)]
  refine lv_topl (fun v10 e10 => ?_)
  exact fL (v := v10) (nI 0) hx hb hr hlocks hAe hP hD hS [0, 1] (by decide) rfl (⟨Gs.u0, fun _ => by rw [e10]; exact h0⟩) dX4_now_11
set_option maxHeartbeats 4000000 in
set_option maxRecDepth 100000 in
theorem n_exchanges (l : Launch) (K : EK) (b : Nat → Nat) (sm th : Int32) (al : Nat → Int64) (t : Int64) (kn : Nat) (fn : Nat → Int32) (kr : Nat) (fr : Nat → Int32) (kp : Nat) (fp : Nat → Int32) (hC : Cp al (t, (kn, fn), (kr, fr), (kp, fp))) (hSI : SI (t, (kn, fn), (kr, fr), (kp, fp))) (sz : Nat) : Met l yX4_exchanges (wq yX4_exchanges cX4_exchanges 1 (some .int)) (rmL 7 0 0) (va_Pc [.ref (b 0)] (PW K sz [(b 0, .inr (6, [.ref (b 1), .ref (b 2), .int sm, .int th])), (b 1, .inl (K.2.2.1, 460, .inr (.inl (al))))])) (va_Qi (fun r (u : Int32) => Gs u True True True ∧ (u = 0 → (r = nI kr))) (Bw K sz [(b 0, .inr (6, [.ref (b 1), .ref (b 2), .int sm, .int th])), (b 1, .inl (K.2.2.1, 460, .inr (.inl (al))))] (fun (u : Int32) => [(b 0, .inr (6, [.ref (b 1), .ref (b 2), .int sm, .int u])), (b 1, .inl (K.2.2.1, 460, .inr (.inl (al))))])) (va_A [(b 0, .inr (6, [.ref (b 1), .ref (b 2), .int sm, .int th])), (b 1, .inl (K.2.2.1, 460, .inr (.inl (al))))] sz)) 0 0 (va_A [(b 0, .inr (6, [.ref (b 1), .ref (b 2), .int sm, .int th])), (b 1, .inl (K.2.2.1, 460, .inr (.inl (al))))] sz) := by
  refine hdW (by decide +kernel) (Nat.le_of_ble_eq_true rfl) ?_
  intro pp ee s mm bl9 me9 cd hx hb hr hlocks hml hown hin hts hE hP A hAe hsz hA hD hS ls hl
  have hown : s.vm.findClass RX4 = some mm.cls := hown
  have hP : va_P K.1 vwCl [(b 0, .inr (6, [.ref (b 1), .ref (b 2), .int sm, .int th])), (b 1, .inl (K.2.2.1, 460, .inr (.inl (al))))] s.heap := hP
  have hD : va_D A [(b 0, .inr (6, [.ref (b 1), .ref (b 2), .int sm, .int th])), (b 1, .inl (K.2.2.1, 460, .inr (.inl (al))))] := hD
  have hl : lv_has ls 1 [(0, .ref (b 0))] := hl
  have s1 : kn ≤ 6 := hSI.1
  have s2 : kr ≤ 40 := hSI.2.1
  have s3 : kp ≤ 20 := hSI.2.2.1
  have s4 : 0 ≤ t.toInt ∧ t.toInt ≤ 900000000 + 1000000 * (kr : Int) := hSI.2.2.2.1
  have hn : ∀ i, i < kn → nOk fn i := hSI.2.2.2.2.1
  have hrs : ∀ e, e < kr → rOk kn fr e := hSI.2.2.2.2.2.1
  have hps : ∀ k, k < kp → pOk kn fp k := hSI.2.2.2.2.2.2.1
  have h6 := s1
  have h40 := s2
  have h20 := s3
  have h0 : al 0 = t := hC.1
  have h1 : al 1 = lN kn := hC.2.1
  have hN : NodC al kn fn := hC.2.2.1
  have h38 : al 38 = lN kr := hC.2.2.2.1
  have hR : RecC al kr fr := hC.2.2.2.2.1
  have h359 : al 359 = lN kp := hC.2.2.2.2.2.1
  have hPl : PlnC al kp fp := hC.2.2.2.2.2.2
  refine lv_aload_n hx hb dX4_exchanges_0 rfl (lv_at hl 0 rfl) ?_
  refine lv_iconst (v := nI 0) hx hb dX4_exchanges_1 (by decide) ?_
  refine va_put (D := K.1) (ci := 6) (v := .int (nI 0)) (ty := .int) (C := RX4) (T := TX4) (N := 4) hx hb hts inX4 tyX4 tyX4_ok nmX4 hown hE.1 hP hD hS 0 rfl rfl 3 (by decide) (hts _ kf_X4_16) (fun _ h9 => h9) rfl (by decide +kernel) rfl rfl (Nat.le_of_ble_eq_true rfl) dX4_exchanges_2 (fun H locs hP hD hS => ?_)
  have hP : va_P K.1 vwCl [(b 0, .inr (6, [.ref (b 1), .ref (b 2), .int sm, .int (nI 0)])), (b 1, .inl (K.2.2.1, 460, .inr (.inl (al))))] H := hP
  have hD : va_D A [(b 0, .inr (6, [.ref (b 1), .ref (b 2), .int sm, .int (nI 0)])), (b 1, .inl (K.2.2.1, 460, .inr (.inl (al))))] := hD
  refine lv_aload_n hx hb dX4_exchanges_5 rfl (lv_at hl 0 rfl) ?_
  refine va_get (D := K.1) (ci := 6) (v := .ref (b 1)) (C := RX4) (T := TX4) (N := 4) hx hb hts inX4 hown hE.1 hP 0 rfl rfl 0 (by decide) (hts _ kf_X4_7) (fun _ h9 => h9) rfl dX4_exchanges_6 ?_
  refine lv_bipush (v := nI 38) hx hb dX4_exchanges_9 (by decide) ?_
  have i11 : nI 38 = nI 38 := rfl
  have j11 : 38 < 460 := by omega
  refine va_lald hx hb hE.1 hP 1 1 rfl rfl (by rw [i11]; exact vp_in_nI j11 (by omega)) dX4_exchanges_11 ?_
  rw [i11, nI_clamp (by omega)]
  refine lv_topl (fun v11 e11 => ?_)
  rw [e11, h38]
  refine lv_l2i hx hb dX4_exchanges_12 (l2iN (by omega)) ?_
  exact fI (v := nI kr) (nI 0) hx hb hr hlocks hAe hP hD hS [0, 1] (by decide) rfl (⟨Gs.u0, fun _ => rfl⟩) dX4_exchanges_13
set_option maxHeartbeats 4000000 in
set_option maxRecDepth 100000 in
theorem n_nextPlanned (l : Launch) (K : EK) (b : Nat → Nat) (sm th : Int32) (al : Nat → Int64) (t : Int64) (kn : Nat) (fn : Nat → Int32) (kr : Nat) (fr : Nat → Int32) (kp : Nat) (fp : Nat → Int32) (hC : Cp al (t, (kn, fn), (kr, fr), (kp, fp))) (hSI : SI (t, (kn, fn), (kr, fr), (kp, fp))) (sz : Nat) : Met l yX4_nextPlanned (wq yX4_nextPlanned cX4_nextPlanned 2 (some .int)) (rmL 7 0 0) (va_Pc [.ref (b 0)] (PW K sz [(b 0, .inr (6, [.ref (b 1), .ref (b 2), .int sm, .int th])), (b 1, .inl (K.2.2.1, 460, .inr (.inl (al))))])) (va_Qi (fun r (u : Int32) => Gs u True True True ∧ (u = 0 → (r.toInt = if kp = 0 then -1 else (pn fp 0 0 : Int)))) (Bw K sz [(b 0, .inr (6, [.ref (b 1), .ref (b 2), .int sm, .int th])), (b 1, .inl (K.2.2.1, 460, .inr (.inl (al))))] (fun (u : Int32) => [(b 0, .inr (6, [.ref (b 1), .ref (b 2), .int sm, .int u])), (b 1, .inl (K.2.2.1, 460, .inr (.inl (al))))])) (va_A [(b 0, .inr (6, [.ref (b 1), .ref (b 2), .int sm, .int th])), (b 1, .inl (K.2.2.1, 460, .inr (.inl (al))))] sz)) 0 0 (va_A [(b 0, .inr (6, [.ref (b 1), .ref (b 2), .int sm, .int th])), (b 1, .inl (K.2.2.1, 460, .inr (.inl (al))))] sz) := by
  refine hdW (by decide +kernel) (Nat.le_of_ble_eq_true rfl) ?_
  intro pp ee s mm bl9 me9 cd hx hb hr hlocks hml hown hin hts hE hP A hAe hsz hA hD hS ls hl
  have hown : s.vm.findClass RX4 = some mm.cls := hown
  have hP : va_P K.1 vwCl [(b 0, .inr (6, [.ref (b 1), .ref (b 2), .int sm, .int th])), (b 1, .inl (K.2.2.1, 460, .inr (.inl (al))))] s.heap := hP
  have hD : va_D A [(b 0, .inr (6, [.ref (b 1), .ref (b 2), .int sm, .int th])), (b 1, .inl (K.2.2.1, 460, .inr (.inl (al))))] := hD
  have hl : lv_has ls 2 [(0, .ref (b 0))] := hl
  have s1 : kn ≤ 6 := hSI.1
  have s2 : kr ≤ 40 := hSI.2.1
  have s3 : kp ≤ 20 := hSI.2.2.1
  have s4 : 0 ≤ t.toInt ∧ t.toInt ≤ 900000000 + 1000000 * (kr : Int) := hSI.2.2.2.1
  have hn : ∀ i, i < kn → nOk fn i := hSI.2.2.2.2.1
  have hrs : ∀ e, e < kr → rOk kn fr e := hSI.2.2.2.2.2.1
  have hps : ∀ k, k < kp → pOk kn fp k := hSI.2.2.2.2.2.2.1
  have h6 := s1
  have h40 := s2
  have h20 := s3
  have h0 : al 0 = t := hC.1
  have h1 : al 1 = lN kn := hC.2.1
  have hN : NodC al kn fn := hC.2.2.1
  have h38 : al 38 = lN kr := hC.2.2.2.1
  have hR : RecC al kr fr := hC.2.2.2.2.1
  have h359 : al 359 = lN kp := hC.2.2.2.2.2.1
  have hPl : PlnC al kp fp := hC.2.2.2.2.2.2
  refine lv_aload_n hx hb dX4_nextPlanned_0 rfl (lv_at hl 0 rfl) ?_
  refine lv_iconst (v := nI 0) hx hb dX4_nextPlanned_1 (by decide) ?_
  refine va_put (D := K.1) (ci := 6) (v := .int (nI 0)) (ty := .int) (C := RX4) (T := TX4) (N := 4) hx hb hts inX4 tyX4 tyX4_ok nmX4 hown hE.1 hP hD hS 0 rfl rfl 3 (by decide) (hts _ kf_X4_16) (fun _ h9 => h9) rfl (by decide +kernel) rfl rfl (Nat.le_of_ble_eq_true rfl) dX4_nextPlanned_2 (fun H locs hP hD hS => ?_)
  have hP : va_P K.1 vwCl [(b 0, .inr (6, [.ref (b 1), .ref (b 2), .int sm, .int (nI 0)])), (b 1, .inl (K.2.2.1, 460, .inr (.inl (al))))] H := hP
  have hD : va_D A [(b 0, .inr (6, [.ref (b 1), .ref (b 2), .int sm, .int (nI 0)])), (b 1, .inl (K.2.2.1, 460, .inr (.inl (al))))] := hD
  refine lv_aload_n hx hb dX4_nextPlanned_5 rfl (lv_at hl 0 rfl) ?_
  refine lv_iconst (v := nI 0) hx hb dX4_nextPlanned_6 (by decide) ?_
  refine goI (rdV (As := [.int (nI 0)]) (rest := []) (m_waiting l K b sm (nI 0) al kp 0 h20 h359 (by omega)) ⟨hx, hb, hml, hown, hts⟩ (gV kl_X4_96 ki_X4_waiting ks_X4_waiting kn_X4 kc_X4_waiting) (by show okN yX4_waiting 1; decide +kernel) ⟨⟨Nat.le_of_ble_eq_true rfl, Nat.le_of_ble_eq_true rfl⟩, rfl, rfl⟩ hE hP [0, 1] rfl ⟨0, 6, _, _, rfl, rfl, rfl⟩ hl.1 rfl (Nat.le_of_ble_eq_true rfl) dX4_nextPlanned_7 ⟨Nat.le_of_ble_eq_true rfl, Nat.le_of_ble_eq_true rfl⟩) (fun v7 e7 => ?_)
  refine lv_istore_n (lv' := [(1, .int v7), (0, .ref (b 0))]) hx hb dX4_nextPlanned_10 rfl hl (by decide) rfl (fun ls hl => ?_)
  refine lv_iload_n hx hb dX4_nextPlanned_11 rfl (lv_at hl 0 rfl) ?_
  refine lv_iconst (v := -1) hx hb dX4_nextPlanned_12 (by decide) ?_
  refine lv_icmp_ne (tgt := 20) hx hb dX4_nextPlanned_13 (by decide) (fun c13 => ?_) (fun c13 => ?_)
  · obtain ⟨k9, hk9, rfl, hr9⟩ := e7.resolve_left (fun g => c13 g.1)
    refine lv_aload_n hx hb dX4_nextPlanned_20 rfl (lv_at hl 1 rfl) ?_
    refine va_get (D := K.1) (ci := 6) (v := .ref (b 1)) (C := RX4) (T := TX4) (N := 4) hx hb hts inX4 hown hE.1 hP 0 rfl rfl 0 (by decide) (hts _ kf_X4_7) (fun _ h9 => h9) rfl dX4_nextPlanned_21 ?_
    refine lv_sipush (v := nI 360) hx hb dX4_nextPlanned_24 (by decide) ?_
    refine lv_iconst (v := nI 5) hx hb dX4_nextPlanned_27 (by decide) ?_
    refine lv_iload_n hx hb dX4_nextPlanned_28 rfl (lv_at hl 0 rfl) ?_
    refine lv_imul hx hb dX4_nextPlanned_29 ?_
    rw [pk_mul 5 k9]
    refine lv_iadd hx hb dX4_nextPlanned_30 ?_
    rw [nI_add 360 (5 * k9)]
    have i31 : nI (360 + 5 * k9) = nI (360 + 5 * k9) := rfl
    have j31 : 360 + 5 * k9 < 460 := by omega
    refine va_lald hx hb hE.1 hP 1 1 rfl rfl (by rw [i31]; exact vp_in_nI j31 (by omega)) dX4_nextPlanned_31 ?_
    rw [i31, nI_clamp (by omega)]
    refine lv_topl (fun v31 e31 => ?_)
    refine lv_l2i hx hb dX4_nextPlanned_32 rfl ?_
    refine lv_topi (fun v32 e32 => ?_)
    exact fI (v := v32) (nI 0) hx hb hr hlocks hAe hP hD hS [0, 1] (by decide) rfl (⟨Gs.u0, fun _ => by
      have hh : al (360 + 5 * k9) = (fp (rnk al kp k9 * 5 + 0)).toInt64 := hPl k9 hk9 0 (by decide)
      rw [hr9] at hh
      rw [if_neg (by omega), e32, e31, hh, l2iI, (hps 0 (by omega)).1 0 (by decide), nI_toInt (by have := (hps 0 (by omega)).2.1; omega)]⟩) dX4_nextPlanned_33
  · refine lv_iconst (v := -1) hx hb dX4_nextPlanned_16 (by decide) ?_
    refine lv_goto (tgt := 33) hx hb dX4_nextPlanned_17 (by decide) ?_
    have hkp : kp = 0 := Classical.byContradiction fun g => by
      rcases e7 with ⟨-, h⟩ | ⟨k, hk, h, -⟩
      · obtain ⟨i, hi, hr⟩ := rnk_onto (al := al) (n := kp) (y := 0) (by omega)
        exact h i hi hr
      · have g2 := congrArg Int32.toInt (h.symm.trans c13)
        rw [nI_toInt (by omega)] at g2
        have g3 : (-1 : Int32).toInt = -1 := by decide
        omega
    exact fI (v := -1) (nI 0) hx hb hr hlocks hAe hP hD hS [0, 1] (by decide) rfl (⟨Gs.u0, fun _ => by rw [if_pos hkp]; decide⟩) dX4_nextPlanned_33
set_option maxHeartbeats 4000000 in
set_option maxRecDepth 100000 in
theorem n_digest (l : Launch) (K : EK) (b : Nat → Nat) (sm th : Int32) (al : Nat → Int64) (t : Int64) (kn : Nat) (fn : Nat → Int32) (kr : Nat) (fr : Nat → Int32) (kp : Nat) (fp : Nat → Int32) (hC : Cp al (t, (kn, fn), (kr, fr), (kp, fp))) (hSI : SI (t, (kn, fn), (kr, fr), (kp, fp))) (sz : Nat) (cnt : Nat) (hc4 : cnt ≤ 4) : Met l yX4_digest (wq yX4_digest cX4_digest 5 (some .long)) (rmL 7 0 0) (va_Pc [.ref (b 0)] (PW K sz [(b 0, .inr (6, [.ref (b 1), .ref (b 2), .int (nI cnt), .int th])), (b 1, .inl (K.2.2.1, 460, .inr (.inl (al))))])) (va_Ql (fun r (u : Int32) => Gs u True True True ∧ (u = 0 → (r = hx1 (dgP fp kp (hx1 (dgR fn fr kr (hx1 (dgN fn t.toInt kn (hx1 (hx1 2797 t) (lN kn))) (lN kr))) (lN kp))) (lN cnt)))) (Bw K sz [(b 0, .inr (6, [.ref (b 1), .ref (b 2), .int (nI cnt), .int th])), (b 1, .inl (K.2.2.1, 460, .inr (.inl (al))))] (fun (u : Int32) => [(b 0, .inr (6, [.ref (b 1), .ref (b 2), .int (nI cnt), .int u])), (b 1, .inl (K.2.2.1, 460, .inr (.inl (al))))])) (va_A [(b 0, .inr (6, [.ref (b 1), .ref (b 2), .int (nI cnt), .int th])), (b 1, .inl (K.2.2.1, 460, .inr (.inl (al))))] sz)) 0 0 (va_A [(b 0, .inr (6, [.ref (b 1), .ref (b 2), .int (nI cnt), .int th])), (b 1, .inl (K.2.2.1, 460, .inr (.inl (al))))] sz) := by
  refine hdW (by decide +kernel) (Nat.le_of_ble_eq_true rfl) ?_
  intro pp ee s mm bl9 me9 cd hx hb hr hlocks hml hown hin hts hE hP A hAe hsz hA hD hS ls hl
  have hown : s.vm.findClass RX4 = some mm.cls := hown
  have hP : va_P K.1 vwCl [(b 0, .inr (6, [.ref (b 1), .ref (b 2), .int (nI cnt), .int th])), (b 1, .inl (K.2.2.1, 460, .inr (.inl (al))))] s.heap := hP
  have hD : va_D A [(b 0, .inr (6, [.ref (b 1), .ref (b 2), .int (nI cnt), .int th])), (b 1, .inl (K.2.2.1, 460, .inr (.inl (al))))] := hD
  have hl : lv_has ls 5 [(0, .ref (b 0))] := hl
  have s1 : kn ≤ 6 := hSI.1
  have s2 : kr ≤ 40 := hSI.2.1
  have s3 : kp ≤ 20 := hSI.2.2.1
  have s4 : 0 ≤ t.toInt ∧ t.toInt ≤ 900000000 + 1000000 * (kr : Int) := hSI.2.2.2.1
  have hn : ∀ i, i < kn → nOk fn i := hSI.2.2.2.2.1
  have hrs : ∀ e, e < kr → rOk kn fr e := hSI.2.2.2.2.2.1
  have hps : ∀ k, k < kp → pOk kn fp k := hSI.2.2.2.2.2.2.1
  have h6 := s1
  have h40 := s2
  have h20 := s3
  have h0 : al 0 = t := hC.1
  have h1 : al 1 = lN kn := hC.2.1
  have hN : NodC al kn fn := hC.2.2.1
  have h38 : al 38 = lN kr := hC.2.2.2.1
  have hR : RecC al kr fr := hC.2.2.2.2.1
  have h359 : al 359 = lN kp := hC.2.2.2.2.2.1
  have hPl : PlnC al kp fp := hC.2.2.2.2.2.2
  refine lv_aload_n hx hb dX4_digest_0 rfl (lv_at hl 0 rfl) ?_
  refine lv_iconst (v := nI 0) hx hb dX4_digest_1 (by decide) ?_
  refine va_put (D := K.1) (ci := 6) (v := .int (nI 0)) (ty := .int) (C := RX4) (T := TX4) (N := 4) hx hb hts inX4 tyX4 tyX4_ok nmX4 hown hE.1 hP hD hS 0 rfl rfl 3 (by decide) (hts _ kf_X4_16) (fun _ h9 => h9) rfl (by decide +kernel) rfl rfl (Nat.le_of_ble_eq_true rfl) dX4_digest_2 (fun H locs hP hD hS => ?_)
  have hP : va_P K.1 vwCl [(b 0, .inr (6, [.ref (b 1), .ref (b 2), .int (nI cnt), .int (nI 0)])), (b 1, .inl (K.2.2.1, 460, .inr (.inl (al))))] H := hP
  have hD : va_D A [(b 0, .inr (6, [.ref (b 1), .ref (b 2), .int (nI cnt), .int (nI 0)])), (b 1, .inl (K.2.2.1, 460, .inr (.inl (al))))] := hD
  refine lv_aload_n hx hb dX4_digest_5 rfl (lv_at hl 0 rfl) ?_
  refine lv_ldc2 (v := lN 2797) hx hb hown (hts _ kw_X4_160) dX4_digest_6 ?_
  refine lv_iconst (v := nI 0) hx hb dX4_digest_9 (by decide) ?_
  refine lv_iconst (v := nI 2) hx hb dX4_digest_10 (by decide) ?_
  refine goL (rdV (As := [.long (lN 2797), .int (nI 0), .int (nI 2)]) (rest := []) (m_sums l K b (nI cnt) (nI 0) al (lN 2797) 0 2 (by omega)) ⟨hx, hb, hml, hown, hts⟩ (gV kl_X4_162 ki_X4_sums ks_X4_sums kn_X4 kc_X4_sums) (by show okN yX4_sums 3; decide +kernel) ⟨⟨Nat.le_of_ble_eq_true rfl, Nat.le_of_ble_eq_true rfl⟩, rfl, rfl⟩ hE hP [0, 1] rfl ⟨0, 6, _, _, rfl, rfl, rfl⟩ hl.1 rfl (Nat.le_of_ble_eq_true rfl) dX4_digest_11 ⟨Nat.le_of_ble_eq_true rfl, Nat.le_of_ble_eq_true rfl⟩) (fun v11 e11 => ?_)
  refine lv_lstore_n (lv' := [(1, .long v11), (0, .ref (b 0))]) hx hb dX4_digest_14 rfl hl (by decide) rfl (fun ls hl => ?_)
  refine lv_iconst (v := nI 0) hx hb dX4_digest_15 (by decide) ?_
  refine lv_istore_n (lv' := [(3, .int (nI 0)), (1, .long v11), (0, .ref (b 0))]) hx hb dX4_digest_16 rfl hl (by decide) rfl (fun ls hl => ?_)
  refine lpW (K := K) (A := A) (H0 := s.heap) (α := Nat × Int64) (fun (x9 : Nat × Int64) => x9.2 = dgN fn t.toInt x9.1 (hx1 (hx1 2797 t) (lN kn)) ∧ x9.1 ≤ kn) (fun (x9 : Nat × Int64) => kn - x9.1) (fun (x9 : Nat × Int64) => [(0, .ref (b 0)), (1, .long x9.2), (3, .int (nI x9.1))]) (fun (x9 : Nat × Int64) => [(b 0, .inr (6, [.ref (b 1), .ref (b 2), .int (nI cnt), .int (nI 0)])), (b 1, .inl (K.2.2.1, 460, .inr (.inl (al))))]) 5 17 (fun x9 hI17 ih17 ls H locs hl hP hD hS => ?_) (0, v11) (⟨by rw [e11, show dgRow (fun c => al (0 + c)) 2 (lN 2797) = hx1 (hx1 2797 (al 0)) (al 1) from rfl, h0, h1]; rfl, Nat.zero_le _⟩) ls _ _ (lv_sub hl [2, 1, 0] rfl) hP hD hS
  obtain ⟨z, h⟩ := x9
  have hI17 : h = dgN fn t.toInt z (hx1 (hx1 2797 t) (lN kn)) ∧ z ≤ kn := hI17
  have hl : lv_has ls 5 [(0, .ref (b 0)), (1, .long h), (3, .int (nI z))] := hl
  have hP : va_P K.1 vwCl [(b 0, .inr (6, [.ref (b 1), .ref (b 2), .int (nI cnt), .int (nI 0)])), (b 1, .inl (K.2.2.1, 460, .inr (.inl (al))))] H := hP
  have hD : va_D A [(b 0, .inr (6, [.ref (b 1), .ref (b 2), .int (nI cnt), .int (nI 0)])), (b 1, .inl (K.2.2.1, 460, .inr (.inl (al))))] := hD
  refine lv_iload_n hx hb dX4_digest_17 rfl (lv_at hl 2 rfl) ?_
  refine lv_i2l hx hb dX4_digest_18 (nI_l (by omega)) ?_
  refine lv_aload_n hx hb dX4_digest_19 rfl (lv_at hl 0 rfl) ?_
  refine va_get (D := K.1) (ci := 6) (v := .ref (b 1)) (C := RX4) (T := TX4) (N := 4) hx hb hts inX4 hown hE.1 hP 0 rfl rfl 0 (by decide) (hts _ kf_X4_7) (fun _ h9 => h9) rfl dX4_digest_20 ?_
  refine lv_iconst (v := nI 1) hx hb dX4_digest_23 (by decide) ?_
  have i24 : nI 1 = nI 1 := rfl
  have j24 : 1 < 460 := by omega
  refine va_lald hx hb hE.1 hP 1 1 rfl rfl (by rw [i24]; exact vp_in_nI j24 (by omega)) dX4_digest_24 ?_
  rw [i24, nI_clamp (by omega)]
  refine lv_topl (fun v24 e24 => ?_)
  rw [e24, h1]
  refine W.lcmp hx hb dX4_digest_25 ?_
  refine lv_if_ge (tgt := 65) hx hb dX4_digest_26 (by decide) (fun c26 => ?_) (fun c26 => ?_)
  · have c26 := (lg_cmp_ge _ _).mp c26
    have c26 := (pk_lLE (a := kn) (b := z) (by omega) (by omega)).mp c26
    refine lv_ldc2 (v := lN 31) hx hb hown (hts _ kw_X4_158) dX4_digest_65 ?_
    refine lv_lload_n hx hb dX4_digest_68 rfl (lv_at hl 1 rfl) ?_
    refine lv_lmul hx hb dX4_digest_69 ?_
    refine lv_topl (fun v69 e69 => ?_)
    refine lv_aload_n hx hb dX4_digest_70 rfl (lv_at hl 0 rfl) ?_
    refine va_get (D := K.1) (ci := 6) (v := .ref (b 1)) (C := RX4) (T := TX4) (N := 4) hx hb hts inX4 hown hE.1 hP 0 rfl rfl 0 (by decide) (hts _ kf_X4_7) (fun _ h9 => h9) rfl dX4_digest_71 ?_
    refine lv_bipush (v := nI 38) hx hb dX4_digest_74 (by decide) ?_
    have i76 : nI 38 = nI 38 := rfl
    have j76 : 38 < 460 := by omega
    refine va_lald hx hb hE.1 hP 1 1 rfl rfl (by rw [i76]; exact vp_in_nI j76 (by omega)) dX4_digest_76 ?_
    rw [i76, nI_clamp (by omega)]
    refine lv_topl (fun v76 e76 => ?_)
    rw [e76, h38]
    refine lv_ladd hx hb dX4_digest_77 ?_
    refine lv_topl (fun v77 e77 => ?_)
    refine lv_lstore_n (lv' := [(1, .long v77), (0, .ref (b 0)), (3, .int (nI z))]) hx hb dX4_digest_78 rfl hl (by decide) rfl (fun ls hl => ?_)
    refine lv_iconst (v := nI 0) hx hb dX4_digest_79 (by decide) ?_
    refine lv_istore_n (lv' := [(3, .int (nI 0)), (1, .long v77), (0, .ref (b 0))]) hx hb dX4_digest_80 rfl hl (by decide) rfl (fun ls hl => ?_)
    refine lpW (K := K) (A := A) (H0 := s.heap) (α := Nat × Int64) (fun (x9 : Nat × Int64) => x9.2 = dgR fn fr x9.1 (hx1 (dgN fn t.toInt kn (hx1 (hx1 2797 t) (lN kn))) (lN kr)) ∧ x9.1 ≤ kr) (fun (x9 : Nat × Int64) => kr - x9.1) (fun (x9 : Nat × Int64) => [(0, .ref (b 0)), (1, .long x9.2), (3, .int (nI x9.1))]) (fun (x9 : Nat × Int64) => [(b 0, .inr (6, [.ref (b 1), .ref (b 2), .int (nI cnt), .int (nI 0)])), (b 1, .inl (K.2.2.1, 460, .inr (.inl (al))))]) 5 81 (fun x9 hI81 ih81 ls H locs hl hP hD hS => ?_) (0, v77) (⟨by rw [e77, e69, hI17.1, show z = kn by omega]; rfl, Nat.zero_le _⟩) ls _ _ (lv_sub hl [2, 1, 0] rfl) hP hD hS
    obtain ⟨z, h⟩ := x9
    have hI81 : h = dgR fn fr z (hx1 (dgN fn t.toInt kn (hx1 (hx1 2797 t) (lN kn))) (lN kr)) ∧ z ≤ kr := hI81
    have hl : lv_has ls 5 [(0, .ref (b 0)), (1, .long h), (3, .int (nI z))] := hl
    have hP : va_P K.1 vwCl [(b 0, .inr (6, [.ref (b 1), .ref (b 2), .int (nI cnt), .int (nI 0)])), (b 1, .inl (K.2.2.1, 460, .inr (.inl (al))))] H := hP
    have hD : va_D A [(b 0, .inr (6, [.ref (b 1), .ref (b 2), .int (nI cnt), .int (nI 0)])), (b 1, .inl (K.2.2.1, 460, .inr (.inl (al))))] := hD
    refine lv_iload_n hx hb dX4_digest_81 rfl (lv_at hl 2 rfl) ?_
    refine lv_i2l hx hb dX4_digest_82 (nI_l (by omega)) ?_
    refine lv_aload_n hx hb dX4_digest_83 rfl (lv_at hl 0 rfl) ?_
    refine va_get (D := K.1) (ci := 6) (v := .ref (b 1)) (C := RX4) (T := TX4) (N := 4) hx hb hts inX4 hown hE.1 hP 0 rfl rfl 0 (by decide) (hts _ kf_X4_7) (fun _ h9 => h9) rfl dX4_digest_84 ?_
    refine lv_bipush (v := nI 38) hx hb dX4_digest_87 (by decide) ?_
    have i89 : nI 38 = nI 38 := rfl
    have j89 : 38 < 460 := by omega
    refine va_lald hx hb hE.1 hP 1 1 rfl rfl (by rw [i89]; exact vp_in_nI j89 (by omega)) dX4_digest_89 ?_
    rw [i89, nI_clamp (by omega)]
    refine lv_topl (fun v89 e89 => ?_)
    rw [e89, h38]
    refine W.lcmp hx hb dX4_digest_90 ?_
    refine lv_if_ge (tgt := 144) hx hb dX4_digest_91 (by decide) (fun c91 => ?_) (fun c91 => ?_)
    · have c91 := (lg_cmp_ge _ _).mp c91
      have c91 := (pk_lLE (a := kr) (b := z) (by omega) (by omega)).mp c91
      refine lv_ldc2 (v := lN 31) hx hb hown (hts _ kw_X4_158) dX4_digest_144 ?_
      refine lv_lload_n hx hb dX4_digest_147 rfl (lv_at hl 1 rfl) ?_
      refine lv_lmul hx hb dX4_digest_148 ?_
      refine lv_topl (fun v148 e148 => ?_)
      refine lv_aload_n hx hb dX4_digest_149 rfl (lv_at hl 0 rfl) ?_
      refine va_get (D := K.1) (ci := 6) (v := .ref (b 1)) (C := RX4) (T := TX4) (N := 4) hx hb hts inX4 hown hE.1 hP 0 rfl rfl 0 (by decide) (hts _ kf_X4_7) (fun _ h9 => h9) rfl dX4_digest_150 ?_
      refine lv_sipush (v := nI 359) hx hb dX4_digest_153 (by decide) ?_
      have i156 : nI 359 = nI 359 := rfl
      have j156 : 359 < 460 := by omega
      refine va_lald hx hb hE.1 hP 1 1 rfl rfl (by rw [i156]; exact vp_in_nI j156 (by omega)) dX4_digest_156 ?_
      rw [i156, nI_clamp (by omega)]
      refine lv_topl (fun v156 e156 => ?_)
      rw [e156, h359]
      refine lv_ladd hx hb dX4_digest_157 ?_
      refine lv_topl (fun v157 e157 => ?_)
      refine lv_lstore_n (lv' := [(1, .long v157), (0, .ref (b 0)), (3, .int (nI z))]) hx hb dX4_digest_158 rfl hl (by decide) rfl (fun ls hl => ?_)
      refine lv_iconst (v := nI 0) hx hb dX4_digest_159 (by decide) ?_
      refine lv_istore_n (lv' := [(3, .int (nI 0)), (1, .long v157), (0, .ref (b 0))]) hx hb dX4_digest_160 rfl hl (by decide) rfl (fun ls hl => ?_)
      refine lpW (K := K) (A := A) (H0 := s.heap) (α := Nat × Int64) (fun (x9 : Nat × Int64) => x9.2 = dgP fp x9.1 (hx1 (dgR fn fr kr (hx1 (dgN fn t.toInt kn (hx1 (hx1 2797 t) (lN kn))) (lN kr))) (lN kp)) ∧ x9.1 ≤ kp) (fun (x9 : Nat × Int64) => kp - x9.1) (fun (x9 : Nat × Int64) => [(0, .ref (b 0)), (1, .long x9.2), (3, .int (nI x9.1))]) (fun (x9 : Nat × Int64) => [(b 0, .inr (6, [.ref (b 1), .ref (b 2), .int (nI cnt), .int (nI 0)])), (b 1, .inl (K.2.2.1, 460, .inr (.inl (al))))]) 5 161 (fun x9 hI161 ih161 ls H locs hl hP hD hS => ?_) (0, v157) (⟨by rw [e157, e148, hI81.1, show z = kr by omega]; rfl, Nat.zero_le _⟩) ls _ _ (lv_sub hl [2, 1, 0] rfl) hP hD hS
      obtain ⟨z, h⟩ := x9
      have hI161 : h = dgP fp z (hx1 (dgR fn fr kr (hx1 (dgN fn t.toInt kn (hx1 (hx1 2797 t) (lN kn))) (lN kr))) (lN kp)) ∧ z ≤ kp := hI161
      have hl : lv_has ls 5 [(0, .ref (b 0)), (1, .long h), (3, .int (nI z))] := hl
      have hP : va_P K.1 vwCl [(b 0, .inr (6, [.ref (b 1), .ref (b 2), .int (nI cnt), .int (nI 0)])), (b 1, .inl (K.2.2.1, 460, .inr (.inl (al))))] H := hP
      have hD : va_D A [(b 0, .inr (6, [.ref (b 1), .ref (b 2), .int (nI cnt), .int (nI 0)])), (b 1, .inl (K.2.2.1, 460, .inr (.inl (al))))] := hD
      refine lv_iload_n hx hb dX4_digest_161 rfl (lv_at hl 2 rfl) ?_
      refine lv_i2l hx hb dX4_digest_162 (nI_l (by omega)) ?_
      refine lv_aload_n hx hb dX4_digest_163 rfl (lv_at hl 0 rfl) ?_
      refine va_get (D := K.1) (ci := 6) (v := .ref (b 1)) (C := RX4) (T := TX4) (N := 4) hx hb hts inX4 hown hE.1 hP 0 rfl rfl 0 (by decide) (hts _ kf_X4_7) (fun _ h9 => h9) rfl dX4_digest_164 ?_
      refine lv_sipush (v := nI 359) hx hb dX4_digest_167 (by decide) ?_
      have i170 : nI 359 = nI 359 := rfl
      have j170 : 359 < 460 := by omega
      refine va_lald hx hb hE.1 hP 1 1 rfl rfl (by rw [i170]; exact vp_in_nI j170 (by omega)) dX4_digest_170 ?_
      rw [i170, nI_clamp (by omega)]
      refine lv_topl (fun v170 e170 => ?_)
      rw [e170, h359]
      refine W.lcmp hx hb dX4_digest_171 ?_
      refine lv_if_ge (tgt := 199) hx hb dX4_digest_172 (by decide) (fun c172 => ?_) (fun c172 => ?_)
      · have c172 := (lg_cmp_ge _ _).mp c172
        have c172 := (pk_lLE (a := kp) (b := z) (by omega) (by omega)).mp c172
        refine lv_ldc2 (v := lN 31) hx hb hown (hts _ kw_X4_158) dX4_digest_199 ?_
        refine lv_lload_n hx hb dX4_digest_202 rfl (lv_at hl 1 rfl) ?_
        refine lv_lmul hx hb dX4_digest_203 ?_
        refine lv_topl (fun v203 e203 => ?_)
        refine lv_aload_n hx hb dX4_digest_204 rfl (lv_at hl 0 rfl) ?_
        refine va_get (D := K.1) (ci := 6) (v := .int (nI cnt)) (C := RX4) (T := TX4) (N := 4) hx hb hts inX4 hown hE.1 hP 0 rfl rfl 2 (by decide) (hts _ kf_X4_20) (fun _ h9 => h9) rfl dX4_digest_205 ?_
        refine lv_i2l hx hb dX4_digest_208 (nI_l (by omega)) ?_
        refine lv_ladd hx hb dX4_digest_209 ?_
        refine lv_topl (fun v209 e209 => ?_)
        exact fL (v := v209) (nI 0) hx hb hr hlocks hAe hP hD hS [0, 1] (by decide) rfl (⟨Gs.u0, fun _ => by rw [e209, e203, hI161.1, show z = kp by omega]; rfl⟩) dX4_digest_210
      · have c172 := fun q => c172 ((lg_cmp_ge _ _).mpr q)
        have c172 := mt (pk_lLE (a := kp) (b := z) (by omega) (by omega)).mpr c172
        refine lv_aload_n hx hb dX4_digest_175 rfl (lv_at hl 0 rfl) ?_
        refine lv_lload_n hx hb dX4_digest_176 rfl (lv_at hl 1 rfl) ?_
        refine lv_sipush (v := nI 360) hx hb dX4_digest_177 (by decide) ?_
        refine lv_iconst (v := nI 5) hx hb dX4_digest_180 (by decide) ?_
        refine lv_aload_n hx hb dX4_digest_181 rfl (lv_at hl 0 rfl) ?_
        refine lv_iload_n hx hb dX4_digest_182 rfl (lv_at hl 2 rfl) ?_
        refine goI (rdV (As := [.int (nI z)]) (rest := [.int (nI 5), .int (nI 360), .long h, .ref (b 0)]) (m_waiting l K b (nI cnt) (nI 0) al kp z h20 h359 (by omega)) ⟨hx, hb, hml, hown, hts⟩ (gV kl_X4_96 ki_X4_waiting ks_X4_waiting kn_X4 kc_X4_waiting) (by show okN yX4_waiting 1; decide +kernel) ⟨⟨Nat.le_of_ble_eq_true rfl, Nat.le_of_ble_eq_true rfl⟩, rfl, rfl⟩ hE hP [0, 1] rfl ⟨0, 6, _, _, rfl, rfl, rfl⟩ hl.1 rfl (Nat.le_of_ble_eq_true rfl) dX4_digest_183 ⟨Nat.le_of_ble_eq_true rfl, Nat.le_of_ble_eq_true rfl⟩) (fun v183 e183 => ?_)
        obtain ⟨k9, hk9, q183, hr9⟩ := e183.resolve_left (fun g => by obtain ⟨i, hi, hr⟩ := rnk_onto (al := al) (n := kp) (y := z) (by omega); exact g.2 i hi hr)
        rw [q183]
        refine lv_imul hx hb dX4_digest_186 ?_
        rw [pk_mul 5 k9]
        refine lv_iadd hx hb dX4_digest_187 ?_
        rw [nI_add 360 (5 * k9)]
        refine lv_iconst (v := nI 5) hx hb dX4_digest_188 (by decide) ?_
        refine goL (rdV (As := [.long h, .int (nI (360 + 5 * k9)), .int (nI 5)]) (rest := []) (m_sums l K b (nI cnt) (nI 0) al h (360 + 5 * k9) 5 (by omega)) ⟨hx, hb, hml, hown, hts⟩ (gV kl_X4_162 ki_X4_sums ks_X4_sums kn_X4 kc_X4_sums) (by show okN yX4_sums 3; decide +kernel) ⟨⟨Nat.le_of_ble_eq_true rfl, Nat.le_of_ble_eq_true rfl⟩, rfl, rfl⟩ hE hP [0, 1] rfl ⟨0, 6, _, _, rfl, rfl, rfl⟩ hl.1 rfl (Nat.le_of_ble_eq_true rfl) dX4_digest_189 ⟨Nat.le_of_ble_eq_true rfl, Nat.le_of_ble_eq_true rfl⟩) (fun v189 e189 => ?_)
        refine lv_lstore_n (lv' := [(1, .long v189), (0, .ref (b 0)), (3, .int (nI z))]) hx hb dX4_digest_192 rfl hl (by decide) rfl (fun ls hl => ?_)
        refine lv_iinc (v := nI (z + 1)) (lv' := [(3, .int (nI (z + 1))), (1, .long v189), (0, .ref (b 0))]) hx hb dX4_digest_193 hl (k := 2) rfl (nI_add z 1) (by decide) rfl (fun ls hl => ?_)
        refine lv_goto (tgt := 161) hx hb dX4_digest_196 (by decide) ?_
        have hB161 : v189 = dgP fp (z + 1) (hx1 (dgR fn fr kr (hx1 (dgN fn t.toInt kn (hx1 (hx1 2797 t) (lN kn))) (lN kr))) (lN kp)) ∧ (z + 1) ≤ kp := ⟨by rw [e189, show dgRow (fun c => al (360 + 5 * k9 + c)) 5 h = dgRow (fun c => (fp (z * 5 + c)).toInt64) 5 h from dgRow_congr h (fun c hc => by rw [hPl k9 hk9 c hc, hr9]), hI161.1]; rfl, by omega⟩
        exact ih161 (z + 1, v189) (hB161) (by omega) ls H locs (lv_sub hl [2, 1, 0] rfl) hP hD hS
    · have c91 := fun q => c91 ((lg_cmp_ge _ _).mpr q)
      have c91 := mt (pk_lLE (a := kr) (b := z) (by omega) (by omega)).mpr c91
      refine lv_aload_n hx hb dX4_digest_94 rfl (lv_at hl 0 rfl) ?_
      refine lv_lload_n hx hb dX4_digest_95 rfl (lv_at hl 1 rfl) ?_
      refine lv_bipush (v := nI 39) hx hb dX4_digest_96 (by decide) ?_
      refine lv_bipush (v := nI 8) hx hb dX4_digest_98 (by decide) ?_
      refine lv_iload_n hx hb dX4_digest_100 rfl (lv_at hl 2 rfl) ?_
      refine lv_imul hx hb dX4_digest_101 ?_
      rw [pk_mul 8 z]
      refine lv_iadd hx hb dX4_digest_102 ?_
      rw [nI_add 39 (8 * z)]
      refine lv_bipush (v := nI 8) hx hb dX4_digest_103 (by decide) ?_
      refine goL (rdV (As := [.long h, .int (nI (39 + 8 * z)), .int (nI 8)]) (rest := []) (m_sums l K b (nI cnt) (nI 0) al h (39 + 8 * z) 8 (by omega)) ⟨hx, hb, hml, hown, hts⟩ (gV kl_X4_162 ki_X4_sums ks_X4_sums kn_X4 kc_X4_sums) (by show okN yX4_sums 3; decide +kernel) ⟨⟨Nat.le_of_ble_eq_true rfl, Nat.le_of_ble_eq_true rfl⟩, rfl, rfl⟩ hE hP [0, 1] rfl ⟨0, 6, _, _, rfl, rfl, rfl⟩ hl.1 rfl (Nat.le_of_ble_eq_true rfl) dX4_digest_105 ⟨Nat.le_of_ble_eq_true rfl, Nat.le_of_ble_eq_true rfl⟩) (fun v105 e105 => ?_)
      refine lv_lstore_n (lv' := [(1, .long v105), (0, .ref (b 0)), (3, .int (nI z))]) hx hb dX4_digest_108 rfl hl (by decide) rfl (fun ls hl => ?_)
      refine lv_iconst (v := nI 0) hx hb dX4_digest_109 (by decide) ?_
      refine lv_istore (lv' := [(4, .int (nI 0)), (1, .long v105), (0, .ref (b 0)), (3, .int (nI z))]) hx hb dX4_digest_110 hl (by decide) rfl (fun ls hl => ?_)
      refine lpW (K := K) (A := A) (H0 := s.heap) (α := Nat × Int64) (fun (x9 : Nat × Int64) => x9.2 = dgRow (fun m => Int64.ofInt (rng fn fr z m)) x9.1 v105 ∧ x9.1 ≤ 3) (fun (x9 : Nat × Int64) => 3 - x9.1) (fun (x9 : Nat × Int64) => [(0, .ref (b 0)), (1, .long x9.2), (3, .int (nI z)), (4, .int (nI x9.1))]) (fun (x9 : Nat × Int64) => [(b 0, .inr (6, [.ref (b 1), .ref (b 2), .int (nI cnt), .int (nI 0)])), (b 1, .inl (K.2.2.1, 460, .inr (.inl (al))))]) 5 112 (fun x9 hI112 ih112 ls H locs hl hP hD hS => ?_) (0, v105) (⟨rfl, Nat.zero_le _⟩) ls _ _ (lv_sub hl [2, 1, 3, 0] rfl) hP hD hS
      obtain ⟨mm, g⟩ := x9
      have hI112 : g = dgRow (fun m => Int64.ofInt (rng fn fr z m)) mm v105 ∧ mm ≤ 3 := hI112
      have hl : lv_has ls 5 [(0, .ref (b 0)), (1, .long g), (3, .int (nI z)), (4, .int (nI mm))] := hl
      have hP : va_P K.1 vwCl [(b 0, .inr (6, [.ref (b 1), .ref (b 2), .int (nI cnt), .int (nI 0)])), (b 1, .inl (K.2.2.1, 460, .inr (.inl (al))))] H := hP
      have hD : va_D A [(b 0, .inr (6, [.ref (b 1), .ref (b 2), .int (nI cnt), .int (nI 0)])), (b 1, .inl (K.2.2.1, 460, .inr (.inl (al))))] := hD
      refine lv_iload hx hb dX4_digest_112 (lv_at hl 3 rfl) ?_
      refine lv_iconst (v := nI 3) hx hb dX4_digest_114 (by decide) ?_
      refine lv_icmp_ge (tgt := 138) hx hb dX4_digest_115 (by decide) (fun c115 => ?_) (fun c115 => ?_)
      · have c115 := (nI_leI (a := 3) (b := mm) (by omega) (by omega)).mp c115
        refine lv_iinc (v := nI (z + 1)) (lv' := [(3, .int (nI (z + 1))), (0, .ref (b 0)), (1, .long g), (4, .int (nI mm))]) hx hb dX4_digest_138 hl (k := 2) rfl (nI_add z 1) (by decide) rfl (fun ls hl => ?_)
        refine lv_goto (tgt := 81) hx hb dX4_digest_141 (by decide) ?_
        have hB81 : g = dgR fn fr (z + 1) (hx1 (dgN fn t.toInt kn (hx1 (hx1 2797 t) (lN kn))) (lN kr)) ∧ (z + 1) ≤ kr := ⟨by rw [hI112.1, show mm = 3 by omega, e105, show dgRow (fun c => al (39 + 8 * z + c)) 8 h = dgRow (fun c => (fr (z * 8 + c)).toInt64) 8 h from dgRow_congr h (fun c hc => (congrArg al (by omega)).trans (hR (z * 8 + c) (by omega))), hI81.1]; rfl, by omega⟩
        exact ih81 (z + 1, g) (hB81) (by omega) ls H locs (lv_sub hl [1, 2, 0] rfl) hP hD hS
      · have c115 := mt (nI_leI (a := 3) (b := mm) (by omega) (by omega)).mpr c115
        refine lv_ldc2 (v := lN 31) hx hb hown (hts _ kw_X4_158) dX4_digest_118 ?_
        refine lv_lload_n hx hb dX4_digest_121 rfl (lv_at hl 1 rfl) ?_
        refine lv_lmul hx hb dX4_digest_122 ?_
        refine lv_topl (fun v122 e122 => ?_)
        refine lv_aload_n hx hb dX4_digest_123 rfl (lv_at hl 0 rfl) ?_
        refine lv_iload_n hx hb dX4_digest_124 rfl (lv_at hl 2 rfl) ?_
        refine lv_iload hx hb dX4_digest_125 (lv_at hl 3 rfl) ?_
        refine goL (rdV (As := [.int (nI z), .int (nI mm)]) (rest := [.long v122]) (m_rangeOf l K b (nI cnt) (nI 0) al kn fn h6 hN kr fr h40 hR hn z mm (by omega) (hrs _ (by omega)) (by omega)) ⟨hx, hb, hml, hown, hts⟩ (gV kl_X4_131 ki_X4_rangeOf ks_X4_rangeOf kn_X4 kc_X4_rangeOf) (by show okN yX4_rangeOf 2; decide +kernel) ⟨⟨Nat.le_of_ble_eq_true rfl, Nat.le_of_ble_eq_true rfl⟩, rfl, rfl⟩ hE hP [0, 1] rfl ⟨0, 6, _, _, rfl, rfl, rfl⟩ hl.1 rfl (Nat.le_of_ble_eq_true rfl) dX4_digest_127 ⟨Nat.le_of_ble_eq_true rfl, Nat.le_of_ble_eq_true rfl⟩) (fun v127 e127 => ?_)
        refine lv_ladd hx hb dX4_digest_130 ?_
        refine lv_topl (fun v130 e130 => ?_)
        refine lv_lstore_n (lv' := [(1, .long v130), (0, .ref (b 0)), (3, .int (nI z)), (4, .int (nI mm))]) hx hb dX4_digest_131 rfl hl (by decide) rfl (fun ls hl => ?_)
        refine lv_iinc (v := nI (mm + 1)) (lv' := [(4, .int (nI (mm + 1))), (1, .long v130), (0, .ref (b 0)), (3, .int (nI z))]) hx hb dX4_digest_132 hl (k := 3) rfl (nI_add mm 1) (by decide) rfl (fun ls hl => ?_)
        refine lv_goto (tgt := 112) hx hb dX4_digest_135 (by decide) ?_
        have hB112 : v130 = dgRow (fun m => Int64.ofInt (rng fn fr z m)) (mm + 1) v105 ∧ (mm + 1) ≤ 3 := ⟨by rw [e130, e122, asT e127, hI112.1]; rfl, by omega⟩
        exact ih112 (mm + 1, v130) (hB112) (by omega) ls H locs (lv_sub hl [2, 1, 3, 0] rfl) hP hD hS
  · have c26 := fun q => c26 ((lg_cmp_ge _ _).mpr q)
    have c26 := mt (pk_lLE (a := kn) (b := z) (by omega) (by omega)).mpr c26
    refine lv_ldc2 (v := lN 31) hx hb hown (hts _ kw_X4_158) dX4_digest_29 ?_
    refine lv_aload_n hx hb dX4_digest_32 rfl (lv_at hl 0 rfl) ?_
    refine lv_lload_n hx hb dX4_digest_33 rfl (lv_at hl 1 rfl) ?_
    refine lv_iconst (v := nI 2) hx hb dX4_digest_34 (by decide) ?_
    refine lv_bipush (v := nI 6) hx hb dX4_digest_35 (by decide) ?_
    refine lv_iload_n hx hb dX4_digest_37 rfl (lv_at hl 2 rfl) ?_
    refine lv_imul hx hb dX4_digest_38 ?_
    rw [pk_mul 6 z]
    refine lv_iadd hx hb dX4_digest_39 ?_
    rw [nI_add 2 (6 * z)]
    refine lv_bipush (v := nI 6) hx hb dX4_digest_40 (by decide) ?_
    refine goL (rdV (As := [.long h, .int (nI (2 + 6 * z)), .int (nI 6)]) (rest := [.long (lN 31)]) (m_sums l K b (nI cnt) (nI 0) al h (2 + 6 * z) 6 (by omega)) ⟨hx, hb, hml, hown, hts⟩ (gV kl_X4_162 ki_X4_sums ks_X4_sums kn_X4 kc_X4_sums) (by show okN yX4_sums 3; decide +kernel) ⟨⟨Nat.le_of_ble_eq_true rfl, Nat.le_of_ble_eq_true rfl⟩, rfl, rfl⟩ hE hP [0, 1] rfl ⟨0, 6, _, _, rfl, rfl, rfl⟩ hl.1 rfl (Nat.le_of_ble_eq_true rfl) dX4_digest_42 ⟨Nat.le_of_ble_eq_true rfl, Nat.le_of_ble_eq_true rfl⟩) (fun v42 e42 => ?_)
    refine lv_lmul hx hb dX4_digest_45 ?_
    refine lv_topl (fun v45 e45 => ?_)
    refine lv_aload_n hx hb dX4_digest_46 rfl (lv_at hl 0 rfl) ?_
    refine lv_iload_n hx hb dX4_digest_47 rfl (lv_at hl 2 rfl) ?_
    refine lv_aload_n hx hb dX4_digest_48 rfl (lv_at hl 0 rfl) ?_
    refine va_get (D := K.1) (ci := 6) (v := .ref (b 1)) (C := RX4) (T := TX4) (N := 4) hx hb hts inX4 hown hE.1 hP 0 rfl rfl 0 (by decide) (hts _ kf_X4_7) (fun _ h9 => h9) rfl dX4_digest_49 ?_
    refine lv_iconst (v := nI 0) hx hb dX4_digest_52 (by decide) ?_
    have i53 : nI 0 = nI 0 := rfl
    have j53 : 0 < 460 := by omega
    refine va_lald hx hb hE.1 hP 1 1 rfl rfl (by rw [i53]; exact vp_in_nI j53 (by omega)) dX4_digest_53 ?_
    rw [i53, nI_clamp (by omega)]
    refine lv_topl (fun v53 e53 => ?_)
    refine goL (rdV (As := [.int (nI z), .long v53]) (rest := [.long v45]) (m_counterAt l K b (nI cnt) (nI 0) al kn fn h6 hN z v53 (by omega) (hn _ (by omega)) (by rw [e53, h0]; omega)) ⟨hx, hb, hml, hown, hts⟩ (gV kl_X4_76 ki_X4_counterAt ks_X4_counterAt kn_X4 kc_X4_counterAt) (by show okN yX4_counterAt 2; decide +kernel) ⟨⟨Nat.le_of_ble_eq_true rfl, Nat.le_of_ble_eq_true rfl⟩, rfl, rfl⟩ hE hP [0, 1] rfl ⟨0, 6, _, _, rfl, rfl, rfl⟩ hl.1 rfl (Nat.le_of_ble_eq_true rfl) dX4_digest_54 ⟨Nat.le_of_ble_eq_true rfl, Nat.le_of_ble_eq_true rfl⟩) (fun v54 e54 => ?_)
    refine lv_ladd hx hb dX4_digest_57 ?_
    refine lv_topl (fun v57 e57 => ?_)
    refine lv_lstore_n (lv' := [(1, .long v57), (0, .ref (b 0)), (3, .int (nI z))]) hx hb dX4_digest_58 rfl hl (by decide) rfl (fun ls hl => ?_)
    refine lv_iinc (v := nI (z + 1)) (lv' := [(3, .int (nI (z + 1))), (1, .long v57), (0, .ref (b 0))]) hx hb dX4_digest_59 hl (k := 2) rfl (nI_add z 1) (by decide) rfl (fun ls hl => ?_)
    refine lv_goto (tgt := 17) hx hb dX4_digest_62 (by decide) ?_
    have q42 : v42 = dgRow (fun c => (fn (z * 6 + c)).toInt64) 6 h := by rw [e42]; exact dgRow_congr h (fun c hc => (congrArg al (by omega)).trans (hN (z * 6 + c) (by omega)))
    have q57 : v57 = dgN fn t.toInt (z + 1) (hx1 (hx1 2797 t) (lN kn)) := by rw [e57, e45, q42, asT e54, e53, h0, hI17.1]; rfl
    have hB17 : v57 = dgN fn t.toInt (z + 1) (hx1 (hx1 2797 t) (lN kn)) ∧ (z + 1) ≤ kn := ⟨q57, by omega⟩
    exact ih17 (z + 1, v57) (hB17) (by omega) ls H locs (lv_sub hl [2, 1, 0] rfl) hP hD hS
def Gs4 (u : Int32) (P1 P2 P3 P4 : Prop) : Prop := (u = 1 ∧ ¬ P1) ∨ (u = 2 ∧ P1 ∧ ¬ P2) ∨ (u = 3 ∧ P1 ∧ P2 ∧ ¬ P3) ∨ (u = 4 ∧ P1 ∧ P2 ∧ P3 ∧ ¬ P4) ∨ (u = 0 ∧ P1 ∧ P2 ∧ P3 ∧ P4)
theorem Gs.four {u : Int32} {P1 P2 P3 P4 : Prop} (h : Gs u P1 P2 P3) (g : ¬ (P1 ∧ P2 ∧ P3)) : Gs4 u P1 P2 P3 P4 := by
  rcases h with q | q | q | q
  · exact Or.inl q
  · exact Or.inr (Or.inl q)
  · exact Or.inr (Or.inr (Or.inl q))
  · exact absurd q.2 g
set_option maxHeartbeats 4000000 in
set_option maxRecDepth 100000 in
theorem n_fix (l : Launch) (K : EK) (b : Nat → Nat) (sm th : Int32) (al : Nat → Int64) (t : Int64) (kn : Nat) (fn : Nat → Int32) (kr : Nat) (fr : Nat → Int32) (kp : Nat) (fp : Nat → Int32) (p0 p1 p2 p3 : Int32) (hC : Cp al (t, (kn, fn), (kr, fr), (kp, fp))) (hSI : SI (t, (kn, fn), (kr, fr), (kp, fp))) (sz : Nat) : Met l yX4_fix (wq yX4_fix cX4_fix 29 (some .int)) (rmL 7 0 0) (va_Pc [.ref (b 0), .int p0, .int p1, .int p2, .int p3] (PW K sz [(b 0, .inr (6, [.ref (b 1), .ref (b 2), .int sm, .int th])), (b 1, .inl (K.2.2.1, 460, .inr (.inl (al))))])) (va_Qi (fun r (u : Int32) => Gs4 u ((0 ≤ p0.toInt ∧ p0.toInt < kn) ∧ (0 ≤ p1.toInt ∧ p1.toInt ≤ 999) ∧ ix p1 / 100 < kn ∧ ix p1 / 10 % 10 < kn ∧ ix p1 % 10 < kn) (ix p0 ≠ ix p1 / 100 ∧ ix p0 ≠ ix p1 / 10 % 10 ∧ ix p0 ≠ ix p1 % 10 ∧ ix p1 / 100 ≠ ix p1 / 10 % 10 ∧ ix p1 / 100 ≠ ix p1 % 10 ∧ ix p1 / 10 % 10 ≠ ix p1 % 10 ∧ (0 ≤ p2.toInt ∧ p2.toInt ≤ 2) ∧ 0 ≤ p3.toInt ∧ p3.toInt ≤ 1) (¬ noLat fr (ix p0) (ix p1 / 100) kr ∧ ¬ noLat fr (ix p0) (ix p1 / 10 % 10) kr ∧ ¬ noLat fr (ix p0) (ix p1 % 10) kr) (∀ e1 e2 e3, isLat fr (ix p0) (ix p1 / 100) kr e1 ∧ isLat fr (ix p0) (ix p1 / 10 % 10) kr e2 ∧ isLat fr (ix p0) (ix p1 % 10) kr e3 → solOk fn (ix p1 / 100) (ix p1 / 10 % 10) (ix p1 % 10) (rgtS fn fr e1 e2 (ix p1 / 100) (ix p1 / 10 % 10) (ix p2)) (rgtS fn fr e1 e3 (ix p1 / 100) (ix p1 % 10) (ix p2)) (ix p3)) ∧ (u = 0 → (∃ e1 e2 e3, (isLat fr (ix p0) (ix p1 / 100) kr e1 ∧ isLat fr (ix p0) (ix p1 / 10 % 10) kr e2 ∧ isLat fr (ix p0) (ix p1 % 10) kr e3) ∧ r.toInt = solS fn (ix p1 / 100) (ix p1 / 10 % 10) (ix p1 % 10) (rgtS fn fr e1 e2 (ix p1 / 100) (ix p1 / 10 % 10) (ix p2)) (rgtS fn fr e1 e3 (ix p1 / 100) (ix p1 % 10) (ix p2)) (ix p3)))) (Bw K sz [(b 0, .inr (6, [.ref (b 1), .ref (b 2), .int sm, .int th])), (b 1, .inl (K.2.2.1, 460, .inr (.inl (al))))] (fun (u : Int32) => [(b 0, .inr (6, [.ref (b 1), .ref (b 2), .int sm, .int u])), (b 1, .inl (K.2.2.1, 460, .inr (.inl (al))))])) (va_A [(b 0, .inr (6, [.ref (b 1), .ref (b 2), .int sm, .int th])), (b 1, .inl (K.2.2.1, 460, .inr (.inl (al))))] sz)) 0 0 (va_A [(b 0, .inr (6, [.ref (b 1), .ref (b 2), .int sm, .int th])), (b 1, .inl (K.2.2.1, 460, .inr (.inl (al))))] sz) := by
  refine hdW (by decide +kernel) (Nat.le_of_ble_eq_true rfl) ?_
  intro pp ee s mm bl9 me9 cd hx hb hr hlocks hml hown hin hts hE hP A hAe hsz hA hD hS ls hl
  have hown : s.vm.findClass RX4 = some mm.cls := hown
  have hP : va_P K.1 vwCl [(b 0, .inr (6, [.ref (b 1), .ref (b 2), .int sm, .int th])), (b 1, .inl (K.2.2.1, 460, .inr (.inl (al))))] s.heap := hP
  have hD : va_D A [(b 0, .inr (6, [.ref (b 1), .ref (b 2), .int sm, .int th])), (b 1, .inl (K.2.2.1, 460, .inr (.inl (al))))] := hD
  have hl : lv_has ls 29 [(0, .ref (b 0)), (1, .int p0), (2, .int p1), (3, .int p2), (4, .int p3)] := hl
  have s1 : kn ≤ 6 := hSI.1
  have s2 : kr ≤ 40 := hSI.2.1
  have s3 : kp ≤ 20 := hSI.2.2.1
  have s4 : 0 ≤ t.toInt ∧ t.toInt ≤ 900000000 + 1000000 * (kr : Int) := hSI.2.2.2.1
  have hn : ∀ i, i < kn → nOk fn i := hSI.2.2.2.2.1
  have hrs : ∀ e, e < kr → rOk kn fr e := hSI.2.2.2.2.2.1
  have hps : ∀ k, k < kp → pOk kn fp k := hSI.2.2.2.2.2.2.1
  have h6 := s1
  have h40 := s2
  have h20 := s3
  have h0 : al 0 = t := hC.1
  have h1 : al 1 = lN kn := hC.2.1
  have hN : NodC al kn fn := hC.2.2.1
  have h38 : al 38 = lN kr := hC.2.2.2.1
  have hR : RecC al kr fr := hC.2.2.2.2.1
  have h359 : al 359 = lN kp := hC.2.2.2.2.2.1
  have hPl : PlnC al kp fp := hC.2.2.2.2.2.2
  refine lv_iload_n hx hb dX4_fix_0 rfl (lv_at hl 2 rfl) ?_
  refine lv_bipush (v := nI 100) hx hb dX4_fix_1 (by decide) ?_
  refine lv_idiv hx hb dX4_fix_3 (by decide) ?_
  refine lv_topi (fun v3 e3 => ?_)
  refine lv_istore (lv' := [(5, .int v3), (0, .ref (b 0)), (1, .int p0), (2, .int p1), (3, .int p2), (4, .int p3)]) hx hb dX4_fix_4 hl (by decide) rfl (fun ls hl => ?_)
  refine lv_iload_n hx hb dX4_fix_6 rfl (lv_at hl 3 rfl) ?_
  refine lv_bipush (v := nI 10) hx hb dX4_fix_7 (by decide) ?_
  refine lv_idiv hx hb dX4_fix_9 (by decide) ?_
  refine lv_topi (fun v9 e9 => ?_)
  refine lv_bipush (v := nI 10) hx hb dX4_fix_10 (by decide) ?_
  refine lv_irem hx hb dX4_fix_12 (by decide) ?_
  refine lv_topi (fun v12 e12 => ?_)
  refine lv_istore (lv' := [(6, .int v12), (5, .int v3), (0, .ref (b 0)), (1, .int p0), (2, .int p1), (3, .int p2), (4, .int p3)]) hx hb dX4_fix_13 hl (by decide) rfl (fun ls hl => ?_)
  refine lv_iload_n hx hb dX4_fix_15 rfl (lv_at hl 4 rfl) ?_
  refine lv_bipush (v := nI 10) hx hb dX4_fix_16 (by decide) ?_
  refine lv_irem hx hb dX4_fix_18 (by decide) ?_
  refine lv_topi (fun v18 e18 => ?_)
  have dg : 0 ≤ p1.toInt ∧ p1.toInt ≤ 999 → v3 = nI (ix p1 / 100) ∧ v12 = nI (ix p1 / 10 % 10) ∧ v18 = nI (ix p1 % 10) := by
    intro h
    obtain ⟨q, hq, rfl⟩ := ixLe (n := 999) (p := p1) (by omega) (by decide)
    rw [ix_nI (by omega)]
    refine ⟨by rw [e3]; exact pk_div (by omega) (by decide) (by decide), ?_, by rw [e18]; exact pk_rem (by omega) (by decide) (by decide)⟩
    rw [e12, e9, pk_div (a := q) (d := 10) (by omega) (by decide) (by decide)]; exact pk_rem (by omega) (by decide) (by decide)
  have dT : 0 ≤ p1.toInt ∧ p1.toInt ≤ 999 → v3.toInt = (ix p1 / 100 : Nat) ∧ v12.toInt = (ix p1 / 10 % 10 : Nat) ∧ v18.toInt = (ix p1 % 10 : Nat) := by
    intro h
    have k9 : ix p1 = p1.toInt.toNat := rfl
    obtain ⟨a1, a2, a3⟩ := dg h
    rw [a1, a2, a3]
    exact ⟨nI_toInt (by omega), nI_toInt (by omega), nI_toInt (by omega)⟩
  refine lv_istore (lv' := [(7, .int v18), (6, .int v12), (5, .int v3), (0, .ref (b 0)), (1, .int p0), (2, .int p1), (3, .int p2), (4, .int p3)]) hx hb dX4_fix_19 hl (by decide) rfl (fun ls hl => ?_)
  refine jn (P := fun jv => Bo jv ((0 ≤ p0.toInt ∧ p0.toInt < kn) ∧ (0 ≤ p1.toInt ∧ p1.toInt ≤ 999) ∧ (0 ≤ v3.toInt ∧ v3.toInt < kn) ∧ (0 ≤ v12.toInt ∧ v12.toInt < kn) ∧ 0 ≤ v18.toInt ∧ v18.toInt < kn)) 73 [] (fun j73 k73 => ?_) (fun hJ73 => ?_)
  · refine lv_istore (lv' := [(8, .int j73), (7, .int v18), (6, .int v12), (5, .int v3), (0, .ref (b 0)), (1, .int p0), (2, .int p1), (3, .int p2), (4, .int p3)]) hx hb dX4_fix_73 hl (by decide) rfl (fun ls hl => ?_)
    refine jn (P := fun jv => Bo jv (v3.toInt ≠ v12.toInt ∧ v3.toInt ≠ v18.toInt ∧ v12.toInt ≠ v18.toInt ∧ p0.toInt ≠ v3.toInt ∧ p0.toInt ≠ v12.toInt ∧ p0.toInt ≠ v18.toInt)) 119 [] (fun j119 k119 => ?_) (fun hJ119 => ?_)
    · refine lv_istore (lv' := [(9, .int j119), (8, .int j73), (7, .int v18), (6, .int v12), (5, .int v3), (0, .ref (b 0)), (1, .int p0), (2, .int p1), (3, .int p2), (4, .int p3)]) hx hb dX4_fix_119 hl (by decide) rfl (fun ls hl => ?_)
      refine jn (P := fun jv => Bo jv (((0 ≤ p0.toInt ∧ p0.toInt < kn) ∧ (0 ≤ p1.toInt ∧ p1.toInt ≤ 999) ∧ (0 ≤ v3.toInt ∧ v3.toInt < kn) ∧ (0 ≤ v12.toInt ∧ v12.toInt < kn) ∧ 0 ≤ v18.toInt ∧ v18.toInt < kn) ∧ ¬ noLat fr (ix p0) (ix v3) kr ∧ ¬ noLat fr (ix p0) (ix v12) kr ∧ ¬ noLat fr (ix p0) (ix v18) kr)) 164 [] (fun j164 k164 => ?_) (fun hJ164 => ?_)
      · refine lv_istore (lv' := [(10, .int j164), (9, .int j119), (8, .int j73), (7, .int v18), (6, .int v12), (5, .int v3), (0, .ref (b 0)), (1, .int p0), (2, .int p1), (3, .int p2), (4, .int p3)]) hx hb dX4_fix_164 hl (by decide) rfl (fun ls hl => ?_)
        refine lv_aload_n hx hb dX4_fix_166 rfl (lv_at hl 6 rfl) ?_
        refine lv_iload hx hb dX4_fix_167 (lv_at hl 2 rfl) ?_
        refine jn (P := fun jv => Bo jv ((v3.toInt ≠ v12.toInt ∧ v3.toInt ≠ v18.toInt ∧ v12.toInt ≠ v18.toInt ∧ p0.toInt ≠ v3.toInt ∧ p0.toInt ≠ v12.toInt ∧ p0.toInt ≠ v18.toInt) ∧ (0 ≤ p2.toInt ∧ p2.toInt ≤ 2) ∧ 0 ≤ p3.toInt ∧ p3.toInt ≤ 1)) 197 [.int j73, .ref (b 0)] (fun j197 k197 => ?_) (fun hJ197 => ?_)
        · refine lv_iload hx hb dX4_fix_197 (lv_at hl 0 rfl) ?_
          refine woI (wrV (As := [.int j73, .int j197, .int j164]) (rest := []) (m_goes l K b sm th j73 j197 j164 ((0 ≤ p0.toInt ∧ p0.toInt < kn) ∧ (0 ≤ p1.toInt ∧ p1.toInt ≤ 999) ∧ (0 ≤ v3.toInt ∧ v3.toInt < kn) ∧ (0 ≤ v12.toInt ∧ v12.toInt < kn) ∧ 0 ≤ v18.toInt ∧ v18.toInt < kn) ((v3.toInt ≠ v12.toInt ∧ v3.toInt ≠ v18.toInt ∧ v12.toInt ≠ v18.toInt ∧ p0.toInt ≠ v3.toInt ∧ p0.toInt ≠ v12.toInt ∧ p0.toInt ≠ v18.toInt) ∧ (0 ≤ p2.toInt ∧ p2.toInt ≤ 2) ∧ 0 ≤ p3.toInt ∧ p3.toInt ≤ 1) (((0 ≤ p0.toInt ∧ p0.toInt < kn) ∧ (0 ≤ p1.toInt ∧ p1.toInt ≤ 999) ∧ (0 ≤ v3.toInt ∧ v3.toInt < kn) ∧ (0 ≤ v12.toInt ∧ v12.toInt < kn) ∧ 0 ≤ v18.toInt ∧ v18.toInt < kn) ∧ ¬ noLat fr (ix p0) (ix v3) kr ∧ ¬ noLat fr (ix p0) (ix v12) kr ∧ ¬ noLat fr (ix p0) (ix v18) kr) k73 k197 k164 _) ⟨hx, hb, hml, hown, hts⟩ (gV kl_X4_45 ki_X4_goes ks_X4_goes kn_X4 kc_X4_goes) (by show okN yX4_goes 3; decide +kernel) ⟨⟨Nat.le_of_ble_eq_true rfl, Nat.le_of_ble_eq_true rfl⟩, ⟨rfl, rfl⟩, Nat.le_of_ble_eq_true rfl, Nat.le_of_ble_eq_true rfl⟩ hE hP hD [0] (by decide) rfl ⟨0, 6, _, _, rfl, rfl, rfl⟩ hl.1 rfl (Nat.le_of_ble_eq_true rfl) dX4_fix_199) hP hD hS hA [(b 1, .inl (K.2.2.1, 460, .inr (.inl (al))))] (fun u => [(b 0, .inr (6, [.ref (b 1), .ref (b 2), .int sm, .int u])), (b 1, .inl (K.2.2.1, 460, .inr (.inl (al))))]) [0] [1] [1, 0] ⟨rfl, rfl, by decide, by decide, by decide, fun _ => rfl⟩ (fun v199 u199 H locs e199 hP hD hS => ?_)
          have hP : va_P K.1 vwCl [(b 0, .inr (6, [.ref (b 1), .ref (b 2), .int sm, .int u199])), (b 1, .inl (K.2.2.1, 460, .inr (.inl (al))))] H := hP
          have hD : va_D A [(b 0, .inr (6, [.ref (b 1), .ref (b 2), .int sm, .int u199])), (b 1, .inl (K.2.2.1, 460, .inr (.inl (al))))] := hD
          obtain ⟨g199, e199⟩ := e199
          have G199 : Gs u199 ((0 ≤ p0.toInt ∧ p0.toInt < kn) ∧ (0 ≤ p1.toInt ∧ p1.toInt ≤ 999) ∧ ix p1 / 100 < kn ∧ ix p1 / 10 % 10 < kn ∧ ix p1 % 10 < kn) (ix p0 ≠ ix p1 / 100 ∧ ix p0 ≠ ix p1 / 10 % 10 ∧ ix p0 ≠ ix p1 % 10 ∧ ix p1 / 100 ≠ ix p1 / 10 % 10 ∧ ix p1 / 100 ≠ ix p1 % 10 ∧ ix p1 / 10 % 10 ≠ ix p1 % 10 ∧ (0 ≤ p2.toInt ∧ p2.toInt ≤ 2) ∧ 0 ≤ p3.toInt ∧ p3.toInt ≤ 1) (¬ noLat fr (ix p0) (ix p1 / 100) kr ∧ ¬ noLat fr (ix p0) (ix p1 / 10 % 10) kr ∧ ¬ noLat fr (ix p0) (ix p1 % 10) kr) := g199.c ⟨fun h => by have d := dT h.2.1; omega, fun h => by have d := dT h.2.1; omega⟩ (fun w1 => by have d := dT w1.2.1; have i0 : ix p0 = p0.toInt.toNat := rfl; omega) (fun w1 _ => by have d := dT w1.2.1; rw [show ix v3 = ix p1 / 100 by (show v3.toInt.toNat = _); omega, show ix v12 = ix p1 / 10 % 10 by (show v12.toInt.toNat = _); omega, show ix v18 = ix p1 % 10 by (show v18.toInt.toNat = _); omega]; exact ⟨fun h => h.2, fun h => ⟨w1, h⟩⟩)
          refine lv_if_ne (tgt := 207) hx hb dX4_fix_202 (by decide) (fun c202 => ?_) (fun c202 => ?_)
          · have c202 := (e199).t c202
            have W0 := G199.no (g199.ok c202)
            have Ww := W0
            obtain ⟨a3, a12, a18⟩ := dg Ww.1.2.1
            clear dg dT g199 e199
            obtain ⟨n0, hn0, rfl⟩ := ixOf (n := kn) Ww.1.1 (by omega)
            obtain ⟨q9, hq9, rfl⟩ := ixLe (n := 999) (show 0 ≤ p1.toInt ∧ p1.toInt ≤ (999 : Nat) by omega) (by omega)
            obtain ⟨m9, hm9, rfl⟩ := ixLe (n := 2) (show 0 ≤ p2.toInt ∧ p2.toInt ≤ (2 : Nat) by omega) (by omega)
            obtain ⟨ax, hax, rfl⟩ := ixLe (n := 1) (show 0 ≤ p3.toInt ∧ p3.toInt ≤ (1 : Nat) by omega) (by omega)
            have n4 : ix (nI q9) = q9 := ix_nI (by omega)
            have n5 : ix (nI n0) = n0 := ix_nI (by omega)
            have n8 : ix (nI m9) = m9 := ix_nI (by omega)
            have n9 : ix (nI ax) = ax := ix_nI (by omega)
            rw [n4, n5] at Ww
            rw [n4] at a3 a12 a18
            obtain ⟨gi, hIe⟩ : ∃ z, z = q9 / 100 := ⟨_, rfl⟩
            obtain ⟨gj, hJe⟩ : ∃ z, z = q9 / 10 % 10 := ⟨_, rfl⟩
            obtain ⟨gk, hKe⟩ : ∃ z, z = q9 % 10 := ⟨_, rfl⟩
            rw [← hIe, ← hJe, ← hKe] at Ww
            rw [← hIe] at a3
            rw [← hJe] at a12
            rw [← hKe] at a18
            subst a3
            subst a12
            subst a18
            have hI := Ww.1.2.2.1
            have hJ := Ww.1.2.2.2.1
            have hK := Ww.1.2.2.2.2
            obtain ⟨e1, hL1⟩ := lat_ex Ww.2.2.1
            obtain ⟨e2, hL2⟩ := lat_ex Ww.2.2.2.1
            obtain ⟨e3, hL3⟩ := lat_ex Ww.2.2.2.2
            have oi := hn _ hI
            have oj := hn _ hJ
            have ok := hn _ hK
            have ri0 := oi.1
            have ri1 := oi.2.1
            have rj0 := oj.1
            have rj1 := oj.2.1
            have rk0 := ok.1
            have rk1 := ok.2.1
            obtain ⟨x1, x2⟩ := dxs_rng oi oj
            obtain ⟨x3, x4⟩ := dxs_rng oi ok
            have bJ := rgt_rng m9 hn (hrs _ hL1.1) (hrs _ hL2.1) oi oj
            have bK := rgt_rng m9 hn (hrs _ hL1.1) (hrs _ hL3.1) oi ok
            have p1 := mulr x1 x4
            have p2 := mulr x3 x2
            have p3 := mulr (A := 20000000000000) bJ x4
            have p4 := mulr (A := 20000000000000) bK x2
            have p5 := mulr (B := 20000000000000) x1 bK
            have p6 := mulr (B := 20000000000000) x3 bJ
            have i1 := hI
            have hi0 : n0 < kn := hn0
            refine lv_ldc2 (v := lN 2) hx hb hown (hts _ kw_X4_54) dX4_fix_207 ?_
            refine lv_aload_n hx hb dX4_fix_210 rfl (lv_at hl 6 rfl) ?_
            refine lv_iload hx hb dX4_fix_211 (lv_at hl 4 rfl) ?_
            refine lv_iconst (v := nI 0) hx hb dX4_fix_213 (by decide) ?_
            refine goL (rdV (As := [.int (nI gj), .int (nI 0)]) (rest := [.long (lN 2)]) (m_of l K b sm u199 al kn fn h6 hN gj 0 hJ (by decide)) ⟨hx, hb, hml, hown, hts⟩ (gV kl_X4_56 ki_X4_of ks_X4_of kn_X4 kc_X4_of) (by show okN yX4_of 2; decide +kernel) ⟨⟨Nat.le_of_ble_eq_true rfl, Nat.le_of_ble_eq_true rfl⟩, rfl, rfl⟩ hE hP [0, 1] rfl ⟨0, 6, _, _, rfl, rfl, rfl⟩ hl.1 rfl (Nat.le_of_ble_eq_true rfl) dX4_fix_214 ⟨Nat.le_of_ble_eq_true rfl, Nat.le_of_ble_eq_true rfl⟩) (fun v214 e214 => ?_)
            refine lv_aload_n hx hb dX4_fix_217 rfl (lv_at hl 6 rfl) ?_
            refine lv_iload hx hb dX4_fix_218 (lv_at hl 5 rfl) ?_
            refine lv_iconst (v := nI 0) hx hb dX4_fix_220 (by decide) ?_
            refine goL (rdV (As := [.int (nI gi), .int (nI 0)]) (rest := [.long v214, .long (lN 2)]) (m_of l K b sm u199 al kn fn h6 hN gi 0 hI (by decide)) ⟨hx, hb, hml, hown, hts⟩ (gV kl_X4_56 ki_X4_of ks_X4_of kn_X4 kc_X4_of) (by show okN yX4_of 2; decide +kernel) ⟨⟨Nat.le_of_ble_eq_true rfl, Nat.le_of_ble_eq_true rfl⟩, rfl, rfl⟩ hE hP [0, 1] rfl ⟨0, 6, _, _, rfl, rfl, rfl⟩ hl.1 rfl (Nat.le_of_ble_eq_true rfl) dX4_fix_221 ⟨Nat.le_of_ble_eq_true rfl, Nat.le_of_ble_eq_true rfl⟩) (fun v221 e221 => ?_)
            refine lv_lsub hx hb dX4_fix_224 ?_
            refine lv_topl (fun v224 e224 => ?_)
            have q224 : v224.toInt = nd fn gj 0 - nd fn gi 0 := by rw [e224, fb_subL (by rw [e214, e221, i64T, i64T]; unfold nd at rj0 ri0; omega) (by rw [e214, e221, i64T, i64T]; unfold nd at rj0 ri0; omega), e214, e221, i64T, i64T]; rfl
            refine lv_lmul hx hb dX4_fix_225 ?_
            refine lv_topl (fun v225 e225 => ?_)
            have q225 : v225.toInt = dxs fn gi gj 0 := by rw [e225, fb_mulL (by rw [lN_T (by omega), q224]; unfold nd at rj0 ri0 ⊢; omega) (by rw [lN_T (by omega), q224]; unfold nd at rj0 ri0 ⊢; omega), lN_T (by omega), q224]; rfl
            refine lv_lstore (lv' := [(11, .long v225), (10, .int j164), (9, .int j119), (8, .int j73), (7, .int (nI gk)), (6, .int (nI gj)), (5, .int (nI gi)), (0, .ref (b 0)), (1, .int (nI n0)), (2, .int (nI q9)), (3, .int (nI m9)), (4, .int (nI ax))]) hx hb dX4_fix_226 hl (by decide) rfl (fun ls hl => ?_)
            refine lv_ldc2 (v := lN 2) hx hb hown (hts _ kw_X4_54) dX4_fix_228 ?_
            refine lv_aload_n hx hb dX4_fix_231 rfl (lv_at hl 7 rfl) ?_
            refine lv_iload hx hb dX4_fix_232 (lv_at hl 5 rfl) ?_
            refine lv_iconst (v := nI 1) hx hb dX4_fix_234 (by decide) ?_
            refine goL (rdV (As := [.int (nI gj), .int (nI 1)]) (rest := [.long (lN 2)]) (m_of l K b sm u199 al kn fn h6 hN gj 1 hJ (by decide)) ⟨hx, hb, hml, hown, hts⟩ (gV kl_X4_56 ki_X4_of ks_X4_of kn_X4 kc_X4_of) (by show okN yX4_of 2; decide +kernel) ⟨⟨Nat.le_of_ble_eq_true rfl, Nat.le_of_ble_eq_true rfl⟩, rfl, rfl⟩ hE hP [0, 1] rfl ⟨0, 6, _, _, rfl, rfl, rfl⟩ hl.1 rfl (Nat.le_of_ble_eq_true rfl) dX4_fix_235 ⟨Nat.le_of_ble_eq_true rfl, Nat.le_of_ble_eq_true rfl⟩) (fun v235 e235 => ?_)
            refine lv_aload_n hx hb dX4_fix_238 rfl (lv_at hl 7 rfl) ?_
            refine lv_iload hx hb dX4_fix_239 (lv_at hl 6 rfl) ?_
            refine lv_iconst (v := nI 1) hx hb dX4_fix_241 (by decide) ?_
            refine goL (rdV (As := [.int (nI gi), .int (nI 1)]) (rest := [.long v235, .long (lN 2)]) (m_of l K b sm u199 al kn fn h6 hN gi 1 hI (by decide)) ⟨hx, hb, hml, hown, hts⟩ (gV kl_X4_56 ki_X4_of ks_X4_of kn_X4 kc_X4_of) (by show okN yX4_of 2; decide +kernel) ⟨⟨Nat.le_of_ble_eq_true rfl, Nat.le_of_ble_eq_true rfl⟩, rfl, rfl⟩ hE hP [0, 1] rfl ⟨0, 6, _, _, rfl, rfl, rfl⟩ hl.1 rfl (Nat.le_of_ble_eq_true rfl) dX4_fix_242 ⟨Nat.le_of_ble_eq_true rfl, Nat.le_of_ble_eq_true rfl⟩) (fun v242 e242 => ?_)
            refine lv_lsub hx hb dX4_fix_245 ?_
            refine lv_topl (fun v245 e245 => ?_)
            have q245 : v245.toInt = nd fn gj 1 - nd fn gi 1 := by rw [e245, fb_subL (by rw [e235, e242, i64T, i64T]; unfold nd at rj1 ri1; omega) (by rw [e235, e242, i64T, i64T]; unfold nd at rj1 ri1; omega), e235, e242, i64T, i64T]; rfl
            refine lv_lmul hx hb dX4_fix_246 ?_
            refine lv_topl (fun v246 e246 => ?_)
            have q246 : v246.toInt = dxs fn gi gj 1 := by rw [e246, fb_mulL (by rw [lN_T (by omega), q245]; unfold nd at rj1 ri1 ⊢; omega) (by rw [lN_T (by omega), q245]; unfold nd at rj1 ri1 ⊢; omega), lN_T (by omega), q245]; rfl
            refine lv_lstore (lv' := [(13, .long v246), (11, .long v225), (10, .int j164), (9, .int j119), (8, .int j73), (7, .int (nI gk)), (6, .int (nI gj)), (5, .int (nI gi)), (0, .ref (b 0)), (1, .int (nI n0)), (2, .int (nI q9)), (3, .int (nI m9)), (4, .int (nI ax))]) hx hb dX4_fix_247 hl (by decide) rfl (fun ls hl => ?_)
            refine lv_aload_n hx hb dX4_fix_249 rfl (lv_at hl 8 rfl) ?_
            refine lv_iload_n hx hb dX4_fix_250 rfl (lv_at hl 9 rfl) ?_
            refine lv_iload hx hb dX4_fix_251 (lv_at hl 7 rfl) ?_
            refine lv_iload hx hb dX4_fix_253 (lv_at hl 6 rfl) ?_
            refine lv_iload_n hx hb dX4_fix_255 rfl (lv_at hl 11 rfl) ?_
            refine goL (rdV (As := [.int (nI n0), .int (nI gi), .int (nI gj), .int (nI m9)]) (rest := []) (m_right l K b sm u199 al kn fn h6 hN kr fr h40 hR hn h38 hrs n0 gi gj m9 e1 e2 hi0 hI hJ (by omega) hL1 hL2) ⟨hx, hb, hml, hown, hts⟩ (gV kl_X4_150 ki_X4_right ks_X4_right kn_X4 kc_X4_right) (by show okN yX4_right 4; decide +kernel) ⟨⟨Nat.le_of_ble_eq_true rfl, Nat.le_of_ble_eq_true rfl⟩, rfl, rfl⟩ hE hP [0, 1] rfl ⟨0, 6, _, _, rfl, rfl, rfl⟩ hl.1 rfl (Nat.le_of_ble_eq_true rfl) dX4_fix_256 ⟨Nat.le_of_ble_eq_true rfl, Nat.le_of_ble_eq_true rfl⟩) (fun v256 e256 => ?_)
            refine lv_lstore (lv' := [(15, .long v256), (13, .long v246), (11, .long v225), (10, .int j164), (9, .int j119), (8, .int j73), (7, .int (nI gk)), (6, .int (nI gj)), (5, .int (nI gi)), (0, .ref (b 0)), (1, .int (nI n0)), (2, .int (nI q9)), (3, .int (nI m9)), (4, .int (nI ax))]) hx hb dX4_fix_259 hl (by decide) rfl (fun ls hl => ?_)
            refine lv_ldc2 (v := lN 2) hx hb hown (hts _ kw_X4_54) dX4_fix_261 ?_
            refine lv_aload_n hx hb dX4_fix_264 rfl (lv_at hl 9 rfl) ?_
            refine lv_iload hx hb dX4_fix_265 (lv_at hl 6 rfl) ?_
            refine lv_iconst (v := nI 0) hx hb dX4_fix_267 (by decide) ?_
            refine goL (rdV (As := [.int (nI gk), .int (nI 0)]) (rest := [.long (lN 2)]) (m_of l K b sm u199 al kn fn h6 hN gk 0 hK (by decide)) ⟨hx, hb, hml, hown, hts⟩ (gV kl_X4_56 ki_X4_of ks_X4_of kn_X4 kc_X4_of) (by show okN yX4_of 2; decide +kernel) ⟨⟨Nat.le_of_ble_eq_true rfl, Nat.le_of_ble_eq_true rfl⟩, rfl, rfl⟩ hE hP [0, 1] rfl ⟨0, 6, _, _, rfl, rfl, rfl⟩ hl.1 rfl (Nat.le_of_ble_eq_true rfl) dX4_fix_268 ⟨Nat.le_of_ble_eq_true rfl, Nat.le_of_ble_eq_true rfl⟩) (fun v268 e268 => ?_)
            refine lv_aload_n hx hb dX4_fix_271 rfl (lv_at hl 9 rfl) ?_
            refine lv_iload hx hb dX4_fix_272 (lv_at hl 8 rfl) ?_
            refine lv_iconst (v := nI 0) hx hb dX4_fix_274 (by decide) ?_
            refine goL (rdV (As := [.int (nI gi), .int (nI 0)]) (rest := [.long v268, .long (lN 2)]) (m_of l K b sm u199 al kn fn h6 hN gi 0 hI (by decide)) ⟨hx, hb, hml, hown, hts⟩ (gV kl_X4_56 ki_X4_of ks_X4_of kn_X4 kc_X4_of) (by show okN yX4_of 2; decide +kernel) ⟨⟨Nat.le_of_ble_eq_true rfl, Nat.le_of_ble_eq_true rfl⟩, rfl, rfl⟩ hE hP [0, 1] rfl ⟨0, 6, _, _, rfl, rfl, rfl⟩ hl.1 rfl (Nat.le_of_ble_eq_true rfl) dX4_fix_275 ⟨Nat.le_of_ble_eq_true rfl, Nat.le_of_ble_eq_true rfl⟩) (fun v275 e275 => ?_)
            refine lv_lsub hx hb dX4_fix_278 ?_
            refine lv_topl (fun v278 e278 => ?_)
            have q278 : v278.toInt = nd fn gk 0 - nd fn gi 0 := by rw [e278, fb_subL (by rw [e268, e275, i64T, i64T]; unfold nd at rk0 ri0; omega) (by rw [e268, e275, i64T, i64T]; unfold nd at rk0 ri0; omega), e268, e275, i64T, i64T]; rfl
            refine lv_lmul hx hb dX4_fix_279 ?_
            refine lv_topl (fun v279 e279 => ?_)
            have q279 : v279.toInt = dxs fn gi gk 0 := by rw [e279, fb_mulL (by rw [lN_T (by omega), q278]; unfold nd at rk0 ri0 ⊢; omega) (by rw [lN_T (by omega), q278]; unfold nd at rk0 ri0 ⊢; omega), lN_T (by omega), q278]; rfl
            refine lv_lstore (lv' := [(17, .long v279), (15, .long v256), (13, .long v246), (11, .long v225), (10, .int j164), (9, .int j119), (8, .int j73), (7, .int (nI gk)), (6, .int (nI gj)), (5, .int (nI gi)), (0, .ref (b 0)), (1, .int (nI n0)), (2, .int (nI q9)), (3, .int (nI m9)), (4, .int (nI ax))]) hx hb dX4_fix_280 hl (by decide) rfl (fun ls hl => ?_)
            refine lv_ldc2 (v := lN 2) hx hb hown (hts _ kw_X4_54) dX4_fix_282 ?_
            refine lv_aload_n hx hb dX4_fix_285 rfl (lv_at hl 10 rfl) ?_
            refine lv_iload hx hb dX4_fix_286 (lv_at hl 7 rfl) ?_
            refine lv_iconst (v := nI 1) hx hb dX4_fix_288 (by decide) ?_
            refine goL (rdV (As := [.int (nI gk), .int (nI 1)]) (rest := [.long (lN 2)]) (m_of l K b sm u199 al kn fn h6 hN gk 1 hK (by decide)) ⟨hx, hb, hml, hown, hts⟩ (gV kl_X4_56 ki_X4_of ks_X4_of kn_X4 kc_X4_of) (by show okN yX4_of 2; decide +kernel) ⟨⟨Nat.le_of_ble_eq_true rfl, Nat.le_of_ble_eq_true rfl⟩, rfl, rfl⟩ hE hP [0, 1] rfl ⟨0, 6, _, _, rfl, rfl, rfl⟩ hl.1 rfl (Nat.le_of_ble_eq_true rfl) dX4_fix_289 ⟨Nat.le_of_ble_eq_true rfl, Nat.le_of_ble_eq_true rfl⟩) (fun v289 e289 => ?_)
            refine lv_aload_n hx hb dX4_fix_292 rfl (lv_at hl 10 rfl) ?_
            refine lv_iload hx hb dX4_fix_293 (lv_at hl 9 rfl) ?_
            refine lv_iconst (v := nI 1) hx hb dX4_fix_295 (by decide) ?_
            refine goL (rdV (As := [.int (nI gi), .int (nI 1)]) (rest := [.long v289, .long (lN 2)]) (m_of l K b sm u199 al kn fn h6 hN gi 1 hI (by decide)) ⟨hx, hb, hml, hown, hts⟩ (gV kl_X4_56 ki_X4_of ks_X4_of kn_X4 kc_X4_of) (by show okN yX4_of 2; decide +kernel) ⟨⟨Nat.le_of_ble_eq_true rfl, Nat.le_of_ble_eq_true rfl⟩, rfl, rfl⟩ hE hP [0, 1] rfl ⟨0, 6, _, _, rfl, rfl, rfl⟩ hl.1 rfl (Nat.le_of_ble_eq_true rfl) dX4_fix_296 ⟨Nat.le_of_ble_eq_true rfl, Nat.le_of_ble_eq_true rfl⟩) (fun v296 e296 => ?_)
            refine lv_lsub hx hb dX4_fix_299 ?_
            refine lv_topl (fun v299 e299 => ?_)
            have q299 : v299.toInt = nd fn gk 1 - nd fn gi 1 := by rw [e299, fb_subL (by rw [e289, e296, i64T, i64T]; unfold nd at rk1 ri1; omega) (by rw [e289, e296, i64T, i64T]; unfold nd at rk1 ri1; omega), e289, e296, i64T, i64T]; rfl
            refine lv_lmul hx hb dX4_fix_300 ?_
            refine lv_topl (fun v300 e300 => ?_)
            have q300 : v300.toInt = dxs fn gi gk 1 := by rw [e300, fb_mulL (by rw [lN_T (by omega), q299]; unfold nd at rk1 ri1 ⊢; omega) (by rw [lN_T (by omega), q299]; unfold nd at rk1 ri1 ⊢; omega), lN_T (by omega), q299]; rfl
            refine lv_lstore (lv' := [(19, .long v300), (17, .long v279), (15, .long v256), (13, .long v246), (11, .long v225), (10, .int j164), (9, .int j119), (8, .int j73), (7, .int (nI gk)), (6, .int (nI gj)), (5, .int (nI gi)), (0, .ref (b 0)), (1, .int (nI n0)), (2, .int (nI q9)), (3, .int (nI m9)), (4, .int (nI ax))]) hx hb dX4_fix_301 hl (by decide) rfl (fun ls hl => ?_)
            refine lv_aload_n hx hb dX4_fix_303 rfl (lv_at hl 11 rfl) ?_
            refine lv_iload_n hx hb dX4_fix_304 rfl (lv_at hl 12 rfl) ?_
            refine lv_iload hx hb dX4_fix_305 (lv_at hl 10 rfl) ?_
            refine lv_iload hx hb dX4_fix_307 (lv_at hl 8 rfl) ?_
            refine lv_iload_n hx hb dX4_fix_309 rfl (lv_at hl 14 rfl) ?_
            refine goL (rdV (As := [.int (nI n0), .int (nI gi), .int (nI gk), .int (nI m9)]) (rest := []) (m_right l K b sm u199 al kn fn h6 hN kr fr h40 hR hn h38 hrs n0 gi gk m9 e1 e3 hi0 hI hK (by omega) hL1 hL3) ⟨hx, hb, hml, hown, hts⟩ (gV kl_X4_150 ki_X4_right ks_X4_right kn_X4 kc_X4_right) (by show okN yX4_right 4; decide +kernel) ⟨⟨Nat.le_of_ble_eq_true rfl, Nat.le_of_ble_eq_true rfl⟩, rfl, rfl⟩ hE hP [0, 1] rfl ⟨0, 6, _, _, rfl, rfl, rfl⟩ hl.1 rfl (Nat.le_of_ble_eq_true rfl) dX4_fix_310 ⟨Nat.le_of_ble_eq_true rfl, Nat.le_of_ble_eq_true rfl⟩) (fun v310 e310 => ?_)
            refine lv_lstore (lv' := [(21, .long v310), (19, .long v300), (17, .long v279), (15, .long v256), (13, .long v246), (11, .long v225), (10, .int j164), (9, .int j119), (8, .int j73), (7, .int (nI gk)), (6, .int (nI gj)), (5, .int (nI gi)), (0, .ref (b 0)), (1, .int (nI n0)), (2, .int (nI q9)), (3, .int (nI m9)), (4, .int (nI ax))]) hx hb dX4_fix_313 hl (by decide) rfl (fun ls hl => ?_)
            refine lv_lload hx hb dX4_fix_315 (lv_at hl 5 rfl) ?_
            refine lv_lload hx hb dX4_fix_317 (lv_at hl 1 rfl) ?_
            refine lv_lmul hx hb dX4_fix_319 ?_
            refine lv_topl (fun v319 e319 => ?_)
            have q319 : v319.toInt = dxs fn gi gj 0 * dxs fn gi gk 1 := by rw [e319, fb_mulL (by rw [q225, q300]; omega) (by rw [q225, q300]; omega), q225, q300]
            refine lv_lload hx hb dX4_fix_320 (lv_at hl 2 rfl) ?_
            refine lv_lload hx hb dX4_fix_322 (lv_at hl 4 rfl) ?_
            refine lv_lmul hx hb dX4_fix_324 ?_
            refine lv_topl (fun v324 e324 => ?_)
            have q324 : v324.toInt = dxs fn gi gk 0 * dxs fn gi gj 1 := by rw [e324, fb_mulL (by rw [q279, q246]; omega) (by rw [q279, q246]; omega), q279, q246]
            refine lv_lsub hx hb dX4_fix_325 ?_
            refine lv_topl (fun v325 e325 => ?_)
            have q325 : v325.toInt = detS fn gi gj gk := by rw [e325, fb_subL (by rw [q319, q324]; omega) (by rw [q319, q324]; omega), q319, q324]; rfl
            refine lv_lstore (lv' := [(23, .long v325), (21, .long v310), (19, .long v300), (17, .long v279), (15, .long v256), (13, .long v246), (11, .long v225), (10, .int j164), (9, .int j119), (8, .int j73), (7, .int (nI gk)), (6, .int (nI gj)), (5, .int (nI gi)), (0, .ref (b 0)), (1, .int (nI n0)), (2, .int (nI q9)), (3, .int (nI m9)), (4, .int (nI ax))]) hx hb dX4_fix_326 hl (by decide) rfl (fun ls hl => ?_)
            refine lv_iload hx hb dX4_fix_328 (lv_at hl 17 rfl) ?_
            refine lv_if_ne (tgt := 347) hx hb dX4_fix_330 (by decide) (fun c330 => ?_) (fun c330 => ?_)
            · have c330 := mt (nI_z (n := ax) (by omega)).mpr c330
              refine lv_lload hx hb dX4_fix_347 (lv_at hl 6 rfl) ?_
              refine lv_lload hx hb dX4_fix_349 (lv_at hl 1 rfl) ?_
              refine lv_lmul hx hb dX4_fix_351 ?_
              refine lv_topl (fun v351 e351 => ?_)
              have q351 : v351.toInt = dxs fn gi gj 0 * rgtS fn fr e1 e3 gi gk m9 := by rw [e351, fb_mulL (by rw [q225, e310]; omega) (by rw [q225, e310]; omega), q225, e310]
              refine lv_lload hx hb dX4_fix_352 (lv_at hl 3 rfl) ?_
              refine lv_lload hx hb dX4_fix_354 (lv_at hl 4 rfl) ?_
              refine lv_lmul hx hb dX4_fix_356 ?_
              refine lv_topl (fun v356 e356 => ?_)
              have q356 : v356.toInt = dxs fn gi gk 0 * rgtS fn fr e1 e2 gi gj m9 := by rw [e356, fb_mulL (by rw [q279, e256]; omega) (by rw [q279, e256]; omega), q279, e256]
              refine lv_lsub hx hb dX4_fix_357 ?_
              refine lv_topl (fun v357 e357 => ?_)
              have q357 : v357.toInt = dxs fn gi gj 0 * rgtS fn fr e1 e3 gi gk m9 - dxs fn gi gk 0 * rgtS fn fr e1 e2 gi gj m9 := by rw [e357, fb_subL (by rw [q351, q356]; omega) (by rw [q351, q356]; omega), q351, q356]
              have qN : v357.toInt = numS fn gi gj gk (rgtS fn fr e1 e2 gi gj m9) (rgtS fn fr e1 e3 gi gk m9) ax := by rw [q357]; unfold numS; rw [if_neg c330]
              have gN : -2305843009213693952 ≤ v357.toInt ∧ v357.toInt ≤ 2305843009213693952 := by rw [q357]; omega
              refine lv_lstore (lv' := [(25, .long v357), (23, .long v325), (21, .long v310), (19, .long v300), (17, .long v279), (15, .long v256), (13, .long v246), (11, .long v225), (10, .int j164), (9, .int j119), (8, .int j73), (7, .int (nI gk)), (6, .int (nI gj)), (5, .int (nI gi)), (0, .ref (b 0)), (1, .int (nI n0)), (2, .int (nI q9)), (3, .int (nI m9)), (4, .int (nI ax))]) hx hb dX4_fix_358 hl (by decide) rfl (fun ls hl => ?_)
              refine lv_lload hx hb dX4_fix_360 (lv_at hl 1 rfl) ?_
              refine lv_lconst (v := lN 0) hx hb dX4_fix_362 (by decide) ?_
              refine W.lcmp hx hb dX4_fix_363 ?_
              refine lv_if_ne (tgt := 371) hx hb dX4_fix_364 (by decide) (fun c364 => ?_) (fun c364 => ?_)
              · have c364 := fun q => c364 ((lg_cmp_eq _ _).mpr q)
                refine lv_lload hx hb dX4_fix_371 (lv_at hl 0 rfl) ?_
                refine lv_lload hx hb dX4_fix_373 (lv_at hl 1 rfl) ?_
                refine goL (rdS (As := [.long v357, .long v325]) (rest := []) (m_floor l K v357 v325 gN (fun g => c364 (eqL (by rw [g]; decide)))) ⟨hx, hb, hml, hown, hts⟩ (gS kl_X4_114 kt_X4_floor kn_X4 kc_X4_floor) (by show okN yX4_floor 2; decide +kernel) ⟨⟨Nat.le_of_ble_eq_true rfl, Nat.le_of_ble_eq_true rfl⟩, rfl, rfl⟩ hE hP [] rfl hl.1 rfl (Nat.le_of_ble_eq_true rfl) dX4_fix_375 ⟨Nat.le_of_ble_eq_true rfl, Nat.le_of_ble_eq_true rfl⟩) (fun v375 e375 => ?_)
                have q375 : v375.toInt = solS fn gi gj gk (rgtS fn fr e1 e2 gi gj m9) (rgtS fn fr e1 e3 gi gk m9) ax := by rw [e375, qN, q325]; rfl
                refine lv_lstore (lv' := [(27, .long v375), (25, .long v357), (23, .long v325), (21, .long v310), (19, .long v300), (17, .long v279), (15, .long v256), (13, .long v246), (11, .long v225), (10, .int j164), (9, .int j119), (8, .int j73), (7, .int (nI gk)), (6, .int (nI gj)), (5, .int (nI gi)), (0, .ref (b 0)), (1, .int (nI n0)), (2, .int (nI q9)), (3, .int (nI m9)), (4, .int (nI ax))]) hx hb dX4_fix_378 hl (by decide) rfl (fun ls hl => ?_)
                refine lv_aload_n hx hb dX4_fix_380 rfl (lv_at hl 15 rfl) ?_
                refine lv_lload hx hb dX4_fix_381 (lv_at hl 2 rfl) ?_
                refine lv_lconst (v := lN 0) hx hb dX4_fix_383 (by decide) ?_
                refine W.lcmp hx hb dX4_fix_384 ?_
                refine lv_if_eq (tgt := 402) hx hb dX4_fix_385 (by decide) (fun c385 => ?_) (fun c385 => ?_)
                · have c385 := (lg_cmp_eq _ _).mp c385
                  exact absurd c385 c364
                · have c385 := fun q => c385 ((lg_cmp_eq _ _).mpr q)
                  refine lv_lload hx hb dX4_fix_388 (lv_at hl 0 rfl) ?_
                  refine lv_ldc2 (v := -2147483648) hx hb hown (hts _ kw_X4_154) dX4_fix_390 ?_
                  refine lv_ldc2 (v := lN 2147483647) hx hb hown (hts _ kw_X4_156) dX4_fix_393 ?_
                  refine goI (rdS (As := [.long v375, .long (-2147483648), .long (lN 2147483647)]) (rest := [.ref (b 0)]) (m_in l K v375 (-2147483648) (lN 2147483647)) ⟨hx, hb, hml, hown, hts⟩ (gS kl_X4_23 kt_X4_in kn_X4 kc_X4_in) (by show okN yX4_in 3; decide +kernel) ⟨⟨Nat.le_of_ble_eq_true rfl, Nat.le_of_ble_eq_true rfl⟩, rfl, rfl⟩ hE hP [] rfl hl.1 rfl (Nat.le_of_ble_eq_true rfl) dX4_fix_396 ⟨Nat.le_of_ble_eq_true rfl, Nat.le_of_ble_eq_true rfl⟩) (fun v396 e396 => ?_)
                  have e396 : Bo v396 (-2147483648 ≤ v375.toInt ∧ v375.toInt ≤ 2147483647) := e396.c (by have y2147483648m : (-2147483648 : Int64).toInt = -2147483648 := (by decide); have y2147483647 : (lN 2147483647 : Int64).toInt = 2147483647 := (by decide); omega)
                  refine lv_if_ne (tgt := 406) hx hb dX4_fix_399 (by decide) (fun c399 => ?_) (fun c399 => ?_)
                  · have c399 := (e396).t c399
                    refine lv_iconst (v := nI 0) hx hb dX4_fix_406 (by decide) ?_
                    refine va_put (D := K.1) (ci := 6) (v := .int (nI 0)) (ty := .int) (C := RX4) (T := TX4) (N := 4) hx hb hts inX4 tyX4 tyX4_ok nmX4 hown hE.1 hP hD hS 0 rfl rfl 3 (by decide) (hts _ kf_X4_16) (fun _ h9 => h9) rfl (by decide +kernel) rfl rfl (Nat.le_of_ble_eq_true rfl) dX4_fix_407 (fun H locs hP hD hS => ?_)
                    have hP : va_P K.1 vwCl [(b 0, .inr (6, [.ref (b 1), .ref (b 2), .int sm, .int (nI 0)])), (b 1, .inl (K.2.2.1, 460, .inr (.inl (al))))] H := hP
                    have hD : va_D A [(b 0, .inr (6, [.ref (b 1), .ref (b 2), .int sm, .int (nI 0)])), (b 1, .inl (K.2.2.1, 460, .inr (.inl (al))))] := hD
                    refine lv_aload_n hx hb dX4_fix_410 rfl (lv_at hl 15 rfl) ?_
                    refine va_get (D := K.1) (ci := 6) (v := .int (nI 0)) (C := RX4) (T := TX4) (N := 4) hx hb hts inX4 hown hE.1 hP 0 rfl rfl 3 (by decide) (hts _ kf_X4_16) (fun _ h9 => h9) rfl dX4_fix_411 ?_
                    refine lv_if_ne (tgt := 423) hx hb dX4_fix_414 (by decide) (fun c414 => ?_) (fun c414 => ?_)
                    · have c414 := mt (nI_z (n := 0) (by omega)).mpr c414
                      exact absurd rfl c414
                    · have c414 := (nI_z (n := 0) (by omega)).mp c414
                      refine lv_lload hx hb dX4_fix_417 (lv_at hl 0 rfl) ?_
                      refine lv_l2i hx hb dX4_fix_419 rfl ?_
                      refine lv_topi (fun v419 e419 => ?_)
                      refine lv_goto (tgt := 424) hx hb dX4_fix_420 (by decide) ?_
                      have hok : solOk fn gi gj gk (rgtS fn fr e1 e2 gi gj m9) (rgtS fn fr e1 e3 gi gk m9) ax := ⟨fun g => c364 (eqL (by rw [q325, g]; decide)), by rw [← q375]; exact c399.1, by rw [← q375]; exact c399.2⟩
                      exact fI (v := v419) (nI 0) hx hb hr hlocks hAe hP hD hS [0, 1] (by decide) rfl (⟨Or.inr (Or.inr (Or.inr (Or.inr ⟨rfl, W0.1, W0.2.1, W0.2.2, by
      rw [n4, n5, n8, n9, ← hIe, ← hJe, ← hKe]
      rintro f1 f2 f3 ⟨g1, g2, g3⟩
      rw [← lat_one hL1 g1, ← lat_one hL2 g2, ← lat_one hL3 g3]
      exact hok⟩))), fun _ => by
      rw [n4, n5, n8, n9, ← hIe, ← hJe, ← hKe]
      exact ⟨e1, e2, e3, ⟨hL1, hL2, hL3⟩, by rw [e419, i32T (by omega) (by omega), q375]⟩⟩) dX4_fix_424
                  · have c399 := (e396).f c399
                    refine lv_iconst (v := nI 4) hx hb dX4_fix_402 (by decide) ?_
                    refine lv_goto (tgt := 407) hx hb dX4_fix_403 (by decide) ?_
                    refine va_put (D := K.1) (ci := 6) (v := .int (nI 4)) (ty := .int) (C := RX4) (T := TX4) (N := 4) hx hb hts inX4 tyX4 tyX4_ok nmX4 hown hE.1 hP hD hS 0 rfl rfl 3 (by decide) (hts _ kf_X4_16) (fun _ h9 => h9) rfl (by decide +kernel) rfl rfl (Nat.le_of_ble_eq_true rfl) dX4_fix_407 (fun H locs hP hD hS => ?_)
                    have hP : va_P K.1 vwCl [(b 0, .inr (6, [.ref (b 1), .ref (b 2), .int sm, .int (nI 4)])), (b 1, .inl (K.2.2.1, 460, .inr (.inl (al))))] H := hP
                    have hD : va_D A [(b 0, .inr (6, [.ref (b 1), .ref (b 2), .int sm, .int (nI 4)])), (b 1, .inl (K.2.2.1, 460, .inr (.inl (al))))] := hD
                    refine lv_aload_n hx hb dX4_fix_410 rfl (lv_at hl 15 rfl) ?_
                    refine va_get (D := K.1) (ci := 6) (v := .int (nI 4)) (C := RX4) (T := TX4) (N := 4) hx hb hts inX4 hown hE.1 hP 0 rfl rfl 3 (by decide) (hts _ kf_X4_16) (fun _ h9 => h9) rfl dX4_fix_411 ?_
                    refine lv_if_ne (tgt := 423) hx hb dX4_fix_414 (by decide) (fun c414 => ?_) (fun c414 => ?_)
                    · have c414 := mt (nI_z (n := 4) (by omega)).mpr c414
                      refine lv_iconst (v := nI 0) hx hb dX4_fix_423 (by decide) ?_
                      exact fI (v := nI 0) (nI 4) hx hb hr hlocks hAe hP hD hS [0, 1] (by decide) rfl (⟨Or.inr (Or.inr (Or.inr (Or.inl ⟨rfl, W0.1, W0.2.1, W0.2.2, fun h4 => by
      rw [n4, n5, n8, n9, ← hIe, ← hJe, ← hKe] at h4
      have h5 := h4 e1 e2 e3 ⟨hL1, hL2, hL3⟩
      exact c399 ⟨by rw [q375]; exact h5.2.1, by rw [q375]; exact h5.2.2⟩⟩))), fun g => absurd g (by decide)⟩) dX4_fix_424
                    · have c414 := (nI_z (n := 4) (by omega)).mp c414
                      exact absurd c414 (by decide)
              · have c364 := (lg_cmp_eq _ _).mp c364
                refine lv_lconst (v := lN 0) hx hb dX4_fix_367 (by decide) ?_
                refine lv_goto (tgt := 378) hx hb dX4_fix_368 (by decide) ?_
                refine lv_lstore (lv' := [(27, .long (lN 0)), (25, .long v357), (23, .long v325), (21, .long v310), (19, .long v300), (17, .long v279), (15, .long v256), (13, .long v246), (11, .long v225), (10, .int j164), (9, .int j119), (8, .int j73), (7, .int (nI gk)), (6, .int (nI gj)), (5, .int (nI gi)), (0, .ref (b 0)), (1, .int (nI n0)), (2, .int (nI q9)), (3, .int (nI m9)), (4, .int (nI ax))]) hx hb dX4_fix_378 hl (by decide) rfl (fun ls hl => ?_)
                refine lv_aload_n hx hb dX4_fix_380 rfl (lv_at hl 15 rfl) ?_
                refine lv_lload hx hb dX4_fix_381 (lv_at hl 2 rfl) ?_
                refine lv_lconst (v := lN 0) hx hb dX4_fix_383 (by decide) ?_
                refine W.lcmp hx hb dX4_fix_384 ?_
                refine lv_if_eq (tgt := 402) hx hb dX4_fix_385 (by decide) (fun c385 => ?_) (fun c385 => ?_)
                · have c385 := (lg_cmp_eq _ _).mp c385
                  refine lv_iconst (v := nI 4) hx hb dX4_fix_402 (by decide) ?_
                  refine lv_goto (tgt := 407) hx hb dX4_fix_403 (by decide) ?_
                  refine va_put (D := K.1) (ci := 6) (v := .int (nI 4)) (ty := .int) (C := RX4) (T := TX4) (N := 4) hx hb hts inX4 tyX4 tyX4_ok nmX4 hown hE.1 hP hD hS 0 rfl rfl 3 (by decide) (hts _ kf_X4_16) (fun _ h9 => h9) rfl (by decide +kernel) rfl rfl (Nat.le_of_ble_eq_true rfl) dX4_fix_407 (fun H locs hP hD hS => ?_)
                  have hP : va_P K.1 vwCl [(b 0, .inr (6, [.ref (b 1), .ref (b 2), .int sm, .int (nI 4)])), (b 1, .inl (K.2.2.1, 460, .inr (.inl (al))))] H := hP
                  have hD : va_D A [(b 0, .inr (6, [.ref (b 1), .ref (b 2), .int sm, .int (nI 4)])), (b 1, .inl (K.2.2.1, 460, .inr (.inl (al))))] := hD
                  refine lv_aload_n hx hb dX4_fix_410 rfl (lv_at hl 15 rfl) ?_
                  refine va_get (D := K.1) (ci := 6) (v := .int (nI 4)) (C := RX4) (T := TX4) (N := 4) hx hb hts inX4 hown hE.1 hP 0 rfl rfl 3 (by decide) (hts _ kf_X4_16) (fun _ h9 => h9) rfl dX4_fix_411 ?_
                  refine lv_if_ne (tgt := 423) hx hb dX4_fix_414 (by decide) (fun c414 => ?_) (fun c414 => ?_)
                  · have c414 := mt (nI_z (n := 4) (by omega)).mpr c414
                    refine lv_iconst (v := nI 0) hx hb dX4_fix_423 (by decide) ?_
                    exact fI (v := nI 0) (nI 4) hx hb hr hlocks hAe hP hD hS [0, 1] (by decide) rfl (⟨Or.inr (Or.inr (Or.inr (Or.inl ⟨rfl, W0.1, W0.2.1, W0.2.2, fun h4 => by
      rw [n4, n5, n8, n9, ← hIe, ← hJe, ← hKe] at h4
      have h5 := h4 e1 e2 e3 ⟨hL1, hL2, hL3⟩
      exact h5.1 (by rw [← q325, c364]; decide)⟩))), fun g => absurd g (by decide)⟩) dX4_fix_424
                  · have c414 := (nI_z (n := 4) (by omega)).mp c414
                    exact absurd c414 (by decide)
                · have c385 := fun q => c385 ((lg_cmp_eq _ _).mpr q)
                  exact absurd c364 c385
            · have c330 := (nI_z (n := ax) (by omega)).mp c330
              refine lv_lload hx hb dX4_fix_333 (lv_at hl 4 rfl) ?_
              refine lv_lload hx hb dX4_fix_335 (lv_at hl 2 rfl) ?_
              refine lv_lmul hx hb dX4_fix_337 ?_
              refine lv_topl (fun v337 e337 => ?_)
              have q337 : v337.toInt = rgtS fn fr e1 e2 gi gj m9 * dxs fn gi gk 1 := by rw [e337, fb_mulL (by rw [e256, q300]; omega) (by rw [e256, q300]; omega), e256, q300]
              refine lv_lload hx hb dX4_fix_338 (lv_at hl 1 rfl) ?_
              refine lv_lload hx hb dX4_fix_340 (lv_at hl 5 rfl) ?_
              refine lv_lmul hx hb dX4_fix_342 ?_
              refine lv_topl (fun v342 e342 => ?_)
              have q342 : v342.toInt = rgtS fn fr e1 e3 gi gk m9 * dxs fn gi gj 1 := by rw [e342, fb_mulL (by rw [e310, q246]; omega) (by rw [e310, q246]; omega), e310, q246]
              refine lv_lsub hx hb dX4_fix_343 ?_
              refine lv_topl (fun v343 e343 => ?_)
              have q343 : v343.toInt = rgtS fn fr e1 e2 gi gj m9 * dxs fn gi gk 1 - rgtS fn fr e1 e3 gi gk m9 * dxs fn gi gj 1 := by rw [e343, fb_subL (by rw [q337, q342]; omega) (by rw [q337, q342]; omega), q337, q342]
              refine lv_goto (tgt := 358) hx hb dX4_fix_344 (by decide) ?_
              have qN : v343.toInt = numS fn gi gj gk (rgtS fn fr e1 e2 gi gj m9) (rgtS fn fr e1 e3 gi gk m9) ax := by rw [q343]; unfold numS; rw [if_pos c330]
              have gN : -2305843009213693952 ≤ v343.toInt ∧ v343.toInt ≤ 2305843009213693952 := by rw [q343]; omega
              refine lv_lstore (lv' := [(25, .long v343), (23, .long v325), (21, .long v310), (19, .long v300), (17, .long v279), (15, .long v256), (13, .long v246), (11, .long v225), (10, .int j164), (9, .int j119), (8, .int j73), (7, .int (nI gk)), (6, .int (nI gj)), (5, .int (nI gi)), (0, .ref (b 0)), (1, .int (nI n0)), (2, .int (nI q9)), (3, .int (nI m9)), (4, .int (nI ax))]) hx hb dX4_fix_358 hl (by decide) rfl (fun ls hl => ?_)
              refine lv_lload hx hb dX4_fix_360 (lv_at hl 1 rfl) ?_
              refine lv_lconst (v := lN 0) hx hb dX4_fix_362 (by decide) ?_
              refine W.lcmp hx hb dX4_fix_363 ?_
              refine lv_if_ne (tgt := 371) hx hb dX4_fix_364 (by decide) (fun c364 => ?_) (fun c364 => ?_)
              · have c364 := fun q => c364 ((lg_cmp_eq _ _).mpr q)
                refine lv_lload hx hb dX4_fix_371 (lv_at hl 0 rfl) ?_
                refine lv_lload hx hb dX4_fix_373 (lv_at hl 1 rfl) ?_
                refine goL (rdS (As := [.long v343, .long v325]) (rest := []) (m_floor l K v343 v325 gN (fun g => c364 (eqL (by rw [g]; decide)))) ⟨hx, hb, hml, hown, hts⟩ (gS kl_X4_114 kt_X4_floor kn_X4 kc_X4_floor) (by show okN yX4_floor 2; decide +kernel) ⟨⟨Nat.le_of_ble_eq_true rfl, Nat.le_of_ble_eq_true rfl⟩, rfl, rfl⟩ hE hP [] rfl hl.1 rfl (Nat.le_of_ble_eq_true rfl) dX4_fix_375 ⟨Nat.le_of_ble_eq_true rfl, Nat.le_of_ble_eq_true rfl⟩) (fun v375 e375 => ?_)
                have q375 : v375.toInt = solS fn gi gj gk (rgtS fn fr e1 e2 gi gj m9) (rgtS fn fr e1 e3 gi gk m9) ax := by rw [e375, qN, q325]; rfl
                refine lv_lstore (lv' := [(27, .long v375), (25, .long v343), (23, .long v325), (21, .long v310), (19, .long v300), (17, .long v279), (15, .long v256), (13, .long v246), (11, .long v225), (10, .int j164), (9, .int j119), (8, .int j73), (7, .int (nI gk)), (6, .int (nI gj)), (5, .int (nI gi)), (0, .ref (b 0)), (1, .int (nI n0)), (2, .int (nI q9)), (3, .int (nI m9)), (4, .int (nI ax))]) hx hb dX4_fix_378 hl (by decide) rfl (fun ls hl => ?_)
                refine lv_aload_n hx hb dX4_fix_380 rfl (lv_at hl 15 rfl) ?_
                refine lv_lload hx hb dX4_fix_381 (lv_at hl 2 rfl) ?_
                refine lv_lconst (v := lN 0) hx hb dX4_fix_383 (by decide) ?_
                refine W.lcmp hx hb dX4_fix_384 ?_
                refine lv_if_eq (tgt := 402) hx hb dX4_fix_385 (by decide) (fun c385 => ?_) (fun c385 => ?_)
                · have c385 := (lg_cmp_eq _ _).mp c385
                  exact absurd c385 c364
                · have c385 := fun q => c385 ((lg_cmp_eq _ _).mpr q)
                  refine lv_lload hx hb dX4_fix_388 (lv_at hl 0 rfl) ?_
                  refine lv_ldc2 (v := -2147483648) hx hb hown (hts _ kw_X4_154) dX4_fix_390 ?_
                  refine lv_ldc2 (v := lN 2147483647) hx hb hown (hts _ kw_X4_156) dX4_fix_393 ?_
                  refine goI (rdS (As := [.long v375, .long (-2147483648), .long (lN 2147483647)]) (rest := [.ref (b 0)]) (m_in l K v375 (-2147483648) (lN 2147483647)) ⟨hx, hb, hml, hown, hts⟩ (gS kl_X4_23 kt_X4_in kn_X4 kc_X4_in) (by show okN yX4_in 3; decide +kernel) ⟨⟨Nat.le_of_ble_eq_true rfl, Nat.le_of_ble_eq_true rfl⟩, rfl, rfl⟩ hE hP [] rfl hl.1 rfl (Nat.le_of_ble_eq_true rfl) dX4_fix_396 ⟨Nat.le_of_ble_eq_true rfl, Nat.le_of_ble_eq_true rfl⟩) (fun v396 e396 => ?_)
                  have e396 : Bo v396 (-2147483648 ≤ v375.toInt ∧ v375.toInt ≤ 2147483647) := e396.c (by have y2147483648m : (-2147483648 : Int64).toInt = -2147483648 := (by decide); have y2147483647 : (lN 2147483647 : Int64).toInt = 2147483647 := (by decide); omega)
                  refine lv_if_ne (tgt := 406) hx hb dX4_fix_399 (by decide) (fun c399 => ?_) (fun c399 => ?_)
                  · have c399 := (e396).t c399
                    refine lv_iconst (v := nI 0) hx hb dX4_fix_406 (by decide) ?_
                    refine va_put (D := K.1) (ci := 6) (v := .int (nI 0)) (ty := .int) (C := RX4) (T := TX4) (N := 4) hx hb hts inX4 tyX4 tyX4_ok nmX4 hown hE.1 hP hD hS 0 rfl rfl 3 (by decide) (hts _ kf_X4_16) (fun _ h9 => h9) rfl (by decide +kernel) rfl rfl (Nat.le_of_ble_eq_true rfl) dX4_fix_407 (fun H locs hP hD hS => ?_)
                    have hP : va_P K.1 vwCl [(b 0, .inr (6, [.ref (b 1), .ref (b 2), .int sm, .int (nI 0)])), (b 1, .inl (K.2.2.1, 460, .inr (.inl (al))))] H := hP
                    have hD : va_D A [(b 0, .inr (6, [.ref (b 1), .ref (b 2), .int sm, .int (nI 0)])), (b 1, .inl (K.2.2.1, 460, .inr (.inl (al))))] := hD
                    refine lv_aload_n hx hb dX4_fix_410 rfl (lv_at hl 15 rfl) ?_
                    refine va_get (D := K.1) (ci := 6) (v := .int (nI 0)) (C := RX4) (T := TX4) (N := 4) hx hb hts inX4 hown hE.1 hP 0 rfl rfl 3 (by decide) (hts _ kf_X4_16) (fun _ h9 => h9) rfl dX4_fix_411 ?_
                    refine lv_if_ne (tgt := 423) hx hb dX4_fix_414 (by decide) (fun c414 => ?_) (fun c414 => ?_)
                    · have c414 := mt (nI_z (n := 0) (by omega)).mpr c414
                      exact absurd rfl c414
                    · have c414 := (nI_z (n := 0) (by omega)).mp c414
                      refine lv_lload hx hb dX4_fix_417 (lv_at hl 0 rfl) ?_
                      refine lv_l2i hx hb dX4_fix_419 rfl ?_
                      refine lv_topi (fun v419 e419 => ?_)
                      refine lv_goto (tgt := 424) hx hb dX4_fix_420 (by decide) ?_
                      have hok : solOk fn gi gj gk (rgtS fn fr e1 e2 gi gj m9) (rgtS fn fr e1 e3 gi gk m9) ax := ⟨fun g => c364 (eqL (by rw [q325, g]; decide)), by rw [← q375]; exact c399.1, by rw [← q375]; exact c399.2⟩
                      exact fI (v := v419) (nI 0) hx hb hr hlocks hAe hP hD hS [0, 1] (by decide) rfl (⟨Or.inr (Or.inr (Or.inr (Or.inr ⟨rfl, W0.1, W0.2.1, W0.2.2, by
      rw [n4, n5, n8, n9, ← hIe, ← hJe, ← hKe]
      rintro f1 f2 f3 ⟨g1, g2, g3⟩
      rw [← lat_one hL1 g1, ← lat_one hL2 g2, ← lat_one hL3 g3]
      exact hok⟩))), fun _ => by
      rw [n4, n5, n8, n9, ← hIe, ← hJe, ← hKe]
      exact ⟨e1, e2, e3, ⟨hL1, hL2, hL3⟩, by rw [e419, i32T (by omega) (by omega), q375]⟩⟩) dX4_fix_424
                  · have c399 := (e396).f c399
                    refine lv_iconst (v := nI 4) hx hb dX4_fix_402 (by decide) ?_
                    refine lv_goto (tgt := 407) hx hb dX4_fix_403 (by decide) ?_
                    refine va_put (D := K.1) (ci := 6) (v := .int (nI 4)) (ty := .int) (C := RX4) (T := TX4) (N := 4) hx hb hts inX4 tyX4 tyX4_ok nmX4 hown hE.1 hP hD hS 0 rfl rfl 3 (by decide) (hts _ kf_X4_16) (fun _ h9 => h9) rfl (by decide +kernel) rfl rfl (Nat.le_of_ble_eq_true rfl) dX4_fix_407 (fun H locs hP hD hS => ?_)
                    have hP : va_P K.1 vwCl [(b 0, .inr (6, [.ref (b 1), .ref (b 2), .int sm, .int (nI 4)])), (b 1, .inl (K.2.2.1, 460, .inr (.inl (al))))] H := hP
                    have hD : va_D A [(b 0, .inr (6, [.ref (b 1), .ref (b 2), .int sm, .int (nI 4)])), (b 1, .inl (K.2.2.1, 460, .inr (.inl (al))))] := hD
                    refine lv_aload_n hx hb dX4_fix_410 rfl (lv_at hl 15 rfl) ?_
                    refine va_get (D := K.1) (ci := 6) (v := .int (nI 4)) (C := RX4) (T := TX4) (N := 4) hx hb hts inX4 hown hE.1 hP 0 rfl rfl 3 (by decide) (hts _ kf_X4_16) (fun _ h9 => h9) rfl dX4_fix_411 ?_
                    refine lv_if_ne (tgt := 423) hx hb dX4_fix_414 (by decide) (fun c414 => ?_) (fun c414 => ?_)
                    · have c414 := mt (nI_z (n := 4) (by omega)).mpr c414
                      refine lv_iconst (v := nI 0) hx hb dX4_fix_423 (by decide) ?_
                      exact fI (v := nI 0) (nI 4) hx hb hr hlocks hAe hP hD hS [0, 1] (by decide) rfl (⟨Or.inr (Or.inr (Or.inr (Or.inl ⟨rfl, W0.1, W0.2.1, W0.2.2, fun h4 => by
      rw [n4, n5, n8, n9, ← hIe, ← hJe, ← hKe] at h4
      have h5 := h4 e1 e2 e3 ⟨hL1, hL2, hL3⟩
      exact c399 ⟨by rw [q375]; exact h5.2.1, by rw [q375]; exact h5.2.2⟩⟩))), fun g => absurd g (by decide)⟩) dX4_fix_424
                    · have c414 := (nI_z (n := 4) (by omega)).mp c414
                      exact absurd c414 (by decide)
              · have c364 := (lg_cmp_eq _ _).mp c364
                refine lv_lconst (v := lN 0) hx hb dX4_fix_367 (by decide) ?_
                refine lv_goto (tgt := 378) hx hb dX4_fix_368 (by decide) ?_
                refine lv_lstore (lv' := [(27, .long (lN 0)), (25, .long v343), (23, .long v325), (21, .long v310), (19, .long v300), (17, .long v279), (15, .long v256), (13, .long v246), (11, .long v225), (10, .int j164), (9, .int j119), (8, .int j73), (7, .int (nI gk)), (6, .int (nI gj)), (5, .int (nI gi)), (0, .ref (b 0)), (1, .int (nI n0)), (2, .int (nI q9)), (3, .int (nI m9)), (4, .int (nI ax))]) hx hb dX4_fix_378 hl (by decide) rfl (fun ls hl => ?_)
                refine lv_aload_n hx hb dX4_fix_380 rfl (lv_at hl 15 rfl) ?_
                refine lv_lload hx hb dX4_fix_381 (lv_at hl 2 rfl) ?_
                refine lv_lconst (v := lN 0) hx hb dX4_fix_383 (by decide) ?_
                refine W.lcmp hx hb dX4_fix_384 ?_
                refine lv_if_eq (tgt := 402) hx hb dX4_fix_385 (by decide) (fun c385 => ?_) (fun c385 => ?_)
                · have c385 := (lg_cmp_eq _ _).mp c385
                  refine lv_iconst (v := nI 4) hx hb dX4_fix_402 (by decide) ?_
                  refine lv_goto (tgt := 407) hx hb dX4_fix_403 (by decide) ?_
                  refine va_put (D := K.1) (ci := 6) (v := .int (nI 4)) (ty := .int) (C := RX4) (T := TX4) (N := 4) hx hb hts inX4 tyX4 tyX4_ok nmX4 hown hE.1 hP hD hS 0 rfl rfl 3 (by decide) (hts _ kf_X4_16) (fun _ h9 => h9) rfl (by decide +kernel) rfl rfl (Nat.le_of_ble_eq_true rfl) dX4_fix_407 (fun H locs hP hD hS => ?_)
                  have hP : va_P K.1 vwCl [(b 0, .inr (6, [.ref (b 1), .ref (b 2), .int sm, .int (nI 4)])), (b 1, .inl (K.2.2.1, 460, .inr (.inl (al))))] H := hP
                  have hD : va_D A [(b 0, .inr (6, [.ref (b 1), .ref (b 2), .int sm, .int (nI 4)])), (b 1, .inl (K.2.2.1, 460, .inr (.inl (al))))] := hD
                  refine lv_aload_n hx hb dX4_fix_410 rfl (lv_at hl 15 rfl) ?_
                  refine va_get (D := K.1) (ci := 6) (v := .int (nI 4)) (C := RX4) (T := TX4) (N := 4) hx hb hts inX4 hown hE.1 hP 0 rfl rfl 3 (by decide) (hts _ kf_X4_16) (fun _ h9 => h9) rfl dX4_fix_411 ?_
                  refine lv_if_ne (tgt := 423) hx hb dX4_fix_414 (by decide) (fun c414 => ?_) (fun c414 => ?_)
                  · have c414 := mt (nI_z (n := 4) (by omega)).mpr c414
                    refine lv_iconst (v := nI 0) hx hb dX4_fix_423 (by decide) ?_
                    exact fI (v := nI 0) (nI 4) hx hb hr hlocks hAe hP hD hS [0, 1] (by decide) rfl (⟨Or.inr (Or.inr (Or.inr (Or.inl ⟨rfl, W0.1, W0.2.1, W0.2.2, fun h4 => by
      rw [n4, n5, n8, n9, ← hIe, ← hJe, ← hKe] at h4
      have h5 := h4 e1 e2 e3 ⟨hL1, hL2, hL3⟩
      exact h5.1 (by rw [← q325, c364]; decide)⟩))), fun g => absurd g (by decide)⟩) dX4_fix_424
                  · have c414 := (nI_z (n := 4) (by omega)).mp c414
                    exact absurd c414 (by decide)
                · have c385 := fun q => c385 ((lg_cmp_eq _ _).mpr q)
                  exact absurd c364 c385
          · have c202 := (e199).f c202
            refine lv_iconst (v := nI 0) hx hb dX4_fix_205 (by decide) ?_
            exact fI (v := nI 0) (u199) hx hb hr hlocks hAe hP hD hS [0, 1] (by decide) rfl (⟨G199.four (fun g => c202 (g199.no (G199.ok g))), fun g => absurd (g199.no g) c202⟩) dX4_fix_206
        · refine lv_iload hx hb dX4_fix_169 (lv_at hl 1 rfl) ?_
          refine lv_if_eq (tgt := 196) hx hb dX4_fix_171 (by decide) (fun c171 => ?_) (fun c171 => ?_)
          · have c171 := (k119).f c171
            refine lv_iconst (v := nI 0) hx hb dX4_fix_196 (by decide) ?_
            exact hJ197 (nI 0) (Or.inr ⟨rfl, fun g => by first | exact c171 g.1 | exact c178 g.2.1 | exact c189 g.2.2⟩)
          · have c171 := (k119).t c171
            refine lv_iload_n hx hb dX4_fix_174 rfl (lv_at hl 9 rfl) ?_
            refine goI (rdS (As := [.int p2]) (rest := [.int j73, .ref (b 0)]) (m_isMethod l K p2) ⟨hx, hb, hml, hown, hts⟩ (gS kl_X4_128 kt_X4_isMethod kn_X4 kc_X4_isMethod) (by show okN yX4_isMethod 1; decide +kernel) ⟨⟨Nat.le_of_ble_eq_true rfl, Nat.le_of_ble_eq_true rfl⟩, rfl, rfl⟩ hE hP [] rfl hl.1 rfl (Nat.le_of_ble_eq_true rfl) dX4_fix_175 ⟨Nat.le_of_ble_eq_true rfl, Nat.le_of_ble_eq_true rfl⟩) (fun v175 e175 => ?_)
            refine lv_if_eq (tgt := 196) hx hb dX4_fix_178 (by decide) (fun c178 => ?_) (fun c178 => ?_)
            · have c178 := (e175).f c178
              refine lv_iconst (v := nI 0) hx hb dX4_fix_196 (by decide) ?_
              exact hJ197 (nI 0) (Or.inr ⟨rfl, fun g => by first | exact c171 g.1 | exact c178 g.2.1 | exact c189 g.2.2⟩)
            · have c178 := (e175).t c178
              refine lv_iload hx hb dX4_fix_181 (lv_at hl 10 rfl) ?_
              refine lv_i2l hx hb dX4_fix_183 rfl ?_
              refine lv_topl (fun v183 e183 => ?_)
              refine lv_lconst (v := lN 0) hx hb dX4_fix_184 (by decide) ?_
              refine lv_lconst (v := lN 1) hx hb dX4_fix_185 (by decide) ?_
              refine goI (rdS (As := [.long v183, .long (lN 0), .long (lN 1)]) (rest := [.int j73, .ref (b 0)]) (m_in l K v183 (lN 0) (lN 1)) ⟨hx, hb, hml, hown, hts⟩ (gS kl_X4_23 kt_X4_in kn_X4 kc_X4_in) (by show okN yX4_in 3; decide +kernel) ⟨⟨Nat.le_of_ble_eq_true rfl, Nat.le_of_ble_eq_true rfl⟩, rfl, rfl⟩ hE hP [] rfl hl.1 rfl (Nat.le_of_ble_eq_true rfl) dX4_fix_186 ⟨Nat.le_of_ble_eq_true rfl, Nat.le_of_ble_eq_true rfl⟩) (fun v186 e186 => ?_)
              have e186 : Bo v186 (0 ≤ p3.toInt ∧ p3.toInt ≤ 1) := e186.c (by have h1 := i64T p3; rw [← e183] at h1; have y0 : (lN 0 : Int64).toInt = 0 := (by decide); have y1 : (lN 1 : Int64).toInt = 1 := (by decide); omega)
              refine lv_if_eq (tgt := 196) hx hb dX4_fix_189 (by decide) (fun c189 => ?_) (fun c189 => ?_)
              · have c189 := (e186).f c189
                refine lv_iconst (v := nI 0) hx hb dX4_fix_196 (by decide) ?_
                exact hJ197 (nI 0) (Or.inr ⟨rfl, fun g => by first | exact c171 g.1 | exact c178 g.2.1 | exact c189 g.2.2⟩)
              · have c189 := (e186).t c189
                refine lv_iconst (v := nI 1) hx hb dX4_fix_192 (by decide) ?_
                refine lv_goto (tgt := 197) hx hb dX4_fix_193 (by decide) ?_
                exact hJ197 (nI 1) (Or.inl ⟨rfl, c171, c178, c189⟩)
      · refine lv_iload hx hb dX4_fix_121 (lv_at hl 1 rfl) ?_
        refine lv_if_eq (tgt := 163) hx hb dX4_fix_123 (by decide) (fun c123 => ?_) (fun c123 => ?_)
        · have c123 := (k73).f c123
          refine lv_iconst (v := nI 0) hx hb dX4_fix_163 (by decide) ?_
          exact hJ164 (nI 0) (Or.inr ⟨rfl, fun g => by first | exact c123 g.1 | exact (latI_iff h6 h40 hrs c123.1 c123.2.2.1 e130).mpr g.2.1 c134 | exact (latI_iff h6 h40 hrs c123.1 c123.2.2.2.1 e141).mpr g.2.2.1 c145 | exact (latI_iff h6 h40 hrs c123.1 c123.2.2.2.2 e152).mpr g.2.2.2 c156⟩)
        · have c123 := (k73).t c123
          refine lv_aload_n hx hb dX4_fix_126 rfl (lv_at hl 5 rfl) ?_
          refine lv_iload_n hx hb dX4_fix_127 rfl (lv_at hl 6 rfl) ?_
          refine lv_iload hx hb dX4_fix_128 (lv_at hl 4 rfl) ?_
          refine goI (rdV (As := [.int p0, .int v3]) (rest := []) (m_latestOf l K b sm th al kr fr h40 hR kn h6 h38 hrs p0 v3) ⟨hx, hb, hml, hown, hts⟩ (gV kl_X4_134 ki_X4_latestOf ks_X4_latestOf kn_X4 kc_X4_latestOf) (by show okN yX4_latestOf 2; decide +kernel) ⟨⟨Nat.le_of_ble_eq_true rfl, Nat.le_of_ble_eq_true rfl⟩, rfl, rfl⟩ hE hP [0, 1] rfl ⟨0, 6, _, _, rfl, rfl, rfl⟩ hl.1 rfl (Nat.le_of_ble_eq_true rfl) dX4_fix_130 ⟨Nat.le_of_ble_eq_true rfl, Nat.le_of_ble_eq_true rfl⟩) (fun v130 e130 => ?_)
          refine lv_iconst (v := -1) hx hb dX4_fix_133 (by decide) ?_
          refine lv_icmp_eq (tgt := 163) hx hb dX4_fix_134 (by decide) (fun c134 => ?_) (fun c134 => ?_)
          · refine lv_iconst (v := nI 0) hx hb dX4_fix_163 (by decide) ?_
            exact hJ164 (nI 0) (Or.inr ⟨rfl, fun g => by first | exact c123 g.1 | exact (latI_iff h6 h40 hrs c123.1 c123.2.2.1 e130).mpr g.2.1 c134 | exact (latI_iff h6 h40 hrs c123.1 c123.2.2.2.1 e141).mpr g.2.2.1 c145 | exact (latI_iff h6 h40 hrs c123.1 c123.2.2.2.2 e152).mpr g.2.2.2 c156⟩)
          · refine lv_aload_n hx hb dX4_fix_137 rfl (lv_at hl 5 rfl) ?_
            refine lv_iload_n hx hb dX4_fix_138 rfl (lv_at hl 6 rfl) ?_
            refine lv_iload hx hb dX4_fix_139 (lv_at hl 3 rfl) ?_
            refine goI (rdV (As := [.int p0, .int v12]) (rest := []) (m_latestOf l K b sm th al kr fr h40 hR kn h6 h38 hrs p0 v12) ⟨hx, hb, hml, hown, hts⟩ (gV kl_X4_134 ki_X4_latestOf ks_X4_latestOf kn_X4 kc_X4_latestOf) (by show okN yX4_latestOf 2; decide +kernel) ⟨⟨Nat.le_of_ble_eq_true rfl, Nat.le_of_ble_eq_true rfl⟩, rfl, rfl⟩ hE hP [0, 1] rfl ⟨0, 6, _, _, rfl, rfl, rfl⟩ hl.1 rfl (Nat.le_of_ble_eq_true rfl) dX4_fix_141 ⟨Nat.le_of_ble_eq_true rfl, Nat.le_of_ble_eq_true rfl⟩) (fun v141 e141 => ?_)
            refine lv_iconst (v := -1) hx hb dX4_fix_144 (by decide) ?_
            refine lv_icmp_eq (tgt := 163) hx hb dX4_fix_145 (by decide) (fun c145 => ?_) (fun c145 => ?_)
            · refine lv_iconst (v := nI 0) hx hb dX4_fix_163 (by decide) ?_
              exact hJ164 (nI 0) (Or.inr ⟨rfl, fun g => by first | exact c123 g.1 | exact (latI_iff h6 h40 hrs c123.1 c123.2.2.1 e130).mpr g.2.1 c134 | exact (latI_iff h6 h40 hrs c123.1 c123.2.2.2.1 e141).mpr g.2.2.1 c145 | exact (latI_iff h6 h40 hrs c123.1 c123.2.2.2.2 e152).mpr g.2.2.2 c156⟩)
            · refine lv_aload_n hx hb dX4_fix_148 rfl (lv_at hl 5 rfl) ?_
              refine lv_iload_n hx hb dX4_fix_149 rfl (lv_at hl 6 rfl) ?_
              refine lv_iload hx hb dX4_fix_150 (lv_at hl 2 rfl) ?_
              refine goI (rdV (As := [.int p0, .int v18]) (rest := []) (m_latestOf l K b sm th al kr fr h40 hR kn h6 h38 hrs p0 v18) ⟨hx, hb, hml, hown, hts⟩ (gV kl_X4_134 ki_X4_latestOf ks_X4_latestOf kn_X4 kc_X4_latestOf) (by show okN yX4_latestOf 2; decide +kernel) ⟨⟨Nat.le_of_ble_eq_true rfl, Nat.le_of_ble_eq_true rfl⟩, rfl, rfl⟩ hE hP [0, 1] rfl ⟨0, 6, _, _, rfl, rfl, rfl⟩ hl.1 rfl (Nat.le_of_ble_eq_true rfl) dX4_fix_152 ⟨Nat.le_of_ble_eq_true rfl, Nat.le_of_ble_eq_true rfl⟩) (fun v152 e152 => ?_)
              refine lv_iconst (v := -1) hx hb dX4_fix_155 (by decide) ?_
              refine lv_icmp_eq (tgt := 163) hx hb dX4_fix_156 (by decide) (fun c156 => ?_) (fun c156 => ?_)
              · refine lv_iconst (v := nI 0) hx hb dX4_fix_163 (by decide) ?_
                exact hJ164 (nI 0) (Or.inr ⟨rfl, fun g => by first | exact c123 g.1 | exact (latI_iff h6 h40 hrs c123.1 c123.2.2.1 e130).mpr g.2.1 c134 | exact (latI_iff h6 h40 hrs c123.1 c123.2.2.2.1 e141).mpr g.2.2.1 c145 | exact (latI_iff h6 h40 hrs c123.1 c123.2.2.2.2 e152).mpr g.2.2.2 c156⟩)
              · refine lv_iconst (v := nI 1) hx hb dX4_fix_159 (by decide) ?_
                refine lv_goto (tgt := 164) hx hb dX4_fix_160 (by decide) ?_
                exact hJ164 (nI 1) (Or.inl ⟨rfl, c123, (latI_iff h6 h40 hrs c123.1 c123.2.2.1 e130).mp c134, (latI_iff h6 h40 hrs c123.1 c123.2.2.2.1 e141).mp c145, (latI_iff h6 h40 hrs c123.1 c123.2.2.2.2 e152).mp c156⟩)
    · refine lv_iload hx hb dX4_fix_75 (lv_at hl 3 rfl) ?_
      refine lv_iload hx hb dX4_fix_77 (lv_at hl 2 rfl) ?_
      refine lv_icmp_eq (tgt := 118) hx hb dX4_fix_79 (by decide) (fun c79 => ?_) (fun c79 => ?_)
      · refine lv_iconst (v := nI 0) hx hb dX4_fix_118 (by decide) ?_
        exact hJ119 (nI 0) (Or.inr ⟨rfl, fun g => by first | exact g.1 (by rw [c79]) | exact g.2.1 (by rw [c86]) | exact g.2.2.1 (by rw [c93]) | exact g.2.2.2.1 (by rw [c99]) | exact g.2.2.2.2.1 (by rw [c105]) | exact g.2.2.2.2.2 (by rw [c111])⟩)
      · refine lv_iload hx hb dX4_fix_82 (lv_at hl 3 rfl) ?_
        refine lv_iload hx hb dX4_fix_84 (lv_at hl 1 rfl) ?_
        refine lv_icmp_eq (tgt := 118) hx hb dX4_fix_86 (by decide) (fun c86 => ?_) (fun c86 => ?_)
        · refine lv_iconst (v := nI 0) hx hb dX4_fix_118 (by decide) ?_
          exact hJ119 (nI 0) (Or.inr ⟨rfl, fun g => by first | exact g.1 (by rw [c79]) | exact g.2.1 (by rw [c86]) | exact g.2.2.1 (by rw [c93]) | exact g.2.2.2.1 (by rw [c99]) | exact g.2.2.2.2.1 (by rw [c105]) | exact g.2.2.2.2.2 (by rw [c111])⟩)
        · refine lv_iload hx hb dX4_fix_89 (lv_at hl 2 rfl) ?_
          refine lv_iload hx hb dX4_fix_91 (lv_at hl 1 rfl) ?_
          refine lv_icmp_eq (tgt := 118) hx hb dX4_fix_93 (by decide) (fun c93 => ?_) (fun c93 => ?_)
          · refine lv_iconst (v := nI 0) hx hb dX4_fix_118 (by decide) ?_
            exact hJ119 (nI 0) (Or.inr ⟨rfl, fun g => by first | exact g.1 (by rw [c79]) | exact g.2.1 (by rw [c86]) | exact g.2.2.1 (by rw [c93]) | exact g.2.2.2.1 (by rw [c99]) | exact g.2.2.2.2.1 (by rw [c105]) | exact g.2.2.2.2.2 (by rw [c111])⟩)
          · refine lv_iload_n hx hb dX4_fix_96 rfl (lv_at hl 5 rfl) ?_
            refine lv_iload hx hb dX4_fix_97 (lv_at hl 3 rfl) ?_
            refine lv_icmp_eq (tgt := 118) hx hb dX4_fix_99 (by decide) (fun c99 => ?_) (fun c99 => ?_)
            · refine lv_iconst (v := nI 0) hx hb dX4_fix_118 (by decide) ?_
              exact hJ119 (nI 0) (Or.inr ⟨rfl, fun g => by first | exact g.1 (by rw [c79]) | exact g.2.1 (by rw [c86]) | exact g.2.2.1 (by rw [c93]) | exact g.2.2.2.1 (by rw [c99]) | exact g.2.2.2.2.1 (by rw [c105]) | exact g.2.2.2.2.2 (by rw [c111])⟩)
            · refine lv_iload_n hx hb dX4_fix_102 rfl (lv_at hl 5 rfl) ?_
              refine lv_iload hx hb dX4_fix_103 (lv_at hl 2 rfl) ?_
              refine lv_icmp_eq (tgt := 118) hx hb dX4_fix_105 (by decide) (fun c105 => ?_) (fun c105 => ?_)
              · refine lv_iconst (v := nI 0) hx hb dX4_fix_118 (by decide) ?_
                exact hJ119 (nI 0) (Or.inr ⟨rfl, fun g => by first | exact g.1 (by rw [c79]) | exact g.2.1 (by rw [c86]) | exact g.2.2.1 (by rw [c93]) | exact g.2.2.2.1 (by rw [c99]) | exact g.2.2.2.2.1 (by rw [c105]) | exact g.2.2.2.2.2 (by rw [c111])⟩)
              · refine lv_iload_n hx hb dX4_fix_108 rfl (lv_at hl 5 rfl) ?_
                refine lv_iload hx hb dX4_fix_109 (lv_at hl 1 rfl) ?_
                refine lv_icmp_eq (tgt := 118) hx hb dX4_fix_111 (by decide) (fun c111 => ?_) (fun c111 => ?_)
                · refine lv_iconst (v := nI 0) hx hb dX4_fix_118 (by decide) ?_
                  exact hJ119 (nI 0) (Or.inr ⟨rfl, fun g => by first | exact g.1 (by rw [c79]) | exact g.2.1 (by rw [c86]) | exact g.2.2.1 (by rw [c93]) | exact g.2.2.2.1 (by rw [c99]) | exact g.2.2.2.2.1 (by rw [c105]) | exact g.2.2.2.2.2 (by rw [c111])⟩)
                · refine lv_iconst (v := nI 1) hx hb dX4_fix_114 (by decide) ?_
                  refine lv_goto (tgt := 119) hx hb dX4_fix_115 (by decide) ?_
                  exact hJ119 (nI 1) (Or.inl ⟨rfl, neT c79, neT c86, neT c93, neT c99, neT c105, neT c111⟩)
  · refine lv_aload_n hx hb dX4_fix_21 rfl (lv_at hl 3 rfl) ?_
    refine lv_iload_n hx hb dX4_fix_22 rfl (lv_at hl 4 rfl) ?_
    refine goI (rdV (As := [.int p0]) (rest := []) (m_isNode l K b sm th al kn h6 h1 p0) ⟨hx, hb, hml, hown, hts⟩ (gV kl_X4_64 ki_X4_isNode ks_X4_isNode kn_X4 kc_X4_isNode) (by show okN yX4_isNode 1; decide +kernel) ⟨⟨Nat.le_of_ble_eq_true rfl, Nat.le_of_ble_eq_true rfl⟩, rfl, rfl⟩ hE hP [0, 1] rfl ⟨0, 6, _, _, rfl, rfl, rfl⟩ hl.1 rfl (Nat.le_of_ble_eq_true rfl) dX4_fix_23 ⟨Nat.le_of_ble_eq_true rfl, Nat.le_of_ble_eq_true rfl⟩) (fun v23 e23 => ?_)
    refine lv_if_eq (tgt := 72) hx hb dX4_fix_26 (by decide) (fun c26 => ?_) (fun c26 => ?_)
    · have c26 := (e23).f c26
      refine lv_iconst (v := nI 0) hx hb dX4_fix_72 (by decide) ?_
      exact hJ73 (nI 0) (Or.inr ⟨rfl, by omega⟩)
    · have c26 := (e23).t c26
      refine lv_iload_n hx hb dX4_fix_29 rfl (lv_at hl 5 rfl) ?_
      refine lv_i2l hx hb dX4_fix_30 rfl ?_
      refine lv_topl (fun v30 e30 => ?_)
      refine lv_lconst (v := lN 0) hx hb dX4_fix_31 (by decide) ?_
      refine lv_ldc2 (v := lN 999) hx hb hown (hts _ kw_X4_148) dX4_fix_32 ?_
      refine goI (rdS (As := [.long v30, .long (lN 0), .long (lN 999)]) (rest := []) (m_in l K v30 (lN 0) (lN 999)) ⟨hx, hb, hml, hown, hts⟩ (gS kl_X4_23 kt_X4_in kn_X4 kc_X4_in) (by show okN yX4_in 3; decide +kernel) ⟨⟨Nat.le_of_ble_eq_true rfl, Nat.le_of_ble_eq_true rfl⟩, rfl, rfl⟩ hE hP [] rfl hl.1 rfl (Nat.le_of_ble_eq_true rfl) dX4_fix_35 ⟨Nat.le_of_ble_eq_true rfl, Nat.le_of_ble_eq_true rfl⟩) (fun v35 e35 => ?_)
      have e35 : Bo v35 (0 ≤ p1.toInt ∧ p1.toInt ≤ 999) := e35.c (by have h1 := i64T p1; rw [← e30] at h1; have y0 : (lN 0 : Int64).toInt = 0 := (by decide); have y999 : (lN 999 : Int64).toInt = 999 := (by decide); omega)
      refine lv_if_eq (tgt := 72) hx hb dX4_fix_38 (by decide) (fun c38 => ?_) (fun c38 => ?_)
      · have c38 := (e35).f c38
        refine lv_iconst (v := nI 0) hx hb dX4_fix_72 (by decide) ?_
        exact hJ73 (nI 0) (Or.inr ⟨rfl, by omega⟩)
      · have c38 := (e35).t c38
        refine lv_aload_n hx hb dX4_fix_41 rfl (lv_at hl 3 rfl) ?_
        refine lv_iload hx hb dX4_fix_42 (lv_at hl 2 rfl) ?_
        refine goI (rdV (As := [.int v3]) (rest := []) (m_isNode l K b sm th al kn h6 h1 v3) ⟨hx, hb, hml, hown, hts⟩ (gV kl_X4_64 ki_X4_isNode ks_X4_isNode kn_X4 kc_X4_isNode) (by show okN yX4_isNode 1; decide +kernel) ⟨⟨Nat.le_of_ble_eq_true rfl, Nat.le_of_ble_eq_true rfl⟩, rfl, rfl⟩ hE hP [0, 1] rfl ⟨0, 6, _, _, rfl, rfl, rfl⟩ hl.1 rfl (Nat.le_of_ble_eq_true rfl) dX4_fix_44 ⟨Nat.le_of_ble_eq_true rfl, Nat.le_of_ble_eq_true rfl⟩) (fun v44 e44 => ?_)
        refine lv_if_eq (tgt := 72) hx hb dX4_fix_47 (by decide) (fun c47 => ?_) (fun c47 => ?_)
        · have c47 := (e44).f c47
          refine lv_iconst (v := nI 0) hx hb dX4_fix_72 (by decide) ?_
          exact hJ73 (nI 0) (Or.inr ⟨rfl, by omega⟩)
        · have c47 := (e44).t c47
          refine lv_aload_n hx hb dX4_fix_50 rfl (lv_at hl 3 rfl) ?_
          refine lv_iload hx hb dX4_fix_51 (lv_at hl 1 rfl) ?_
          refine goI (rdV (As := [.int v12]) (rest := []) (m_isNode l K b sm th al kn h6 h1 v12) ⟨hx, hb, hml, hown, hts⟩ (gV kl_X4_64 ki_X4_isNode ks_X4_isNode kn_X4 kc_X4_isNode) (by show okN yX4_isNode 1; decide +kernel) ⟨⟨Nat.le_of_ble_eq_true rfl, Nat.le_of_ble_eq_true rfl⟩, rfl, rfl⟩ hE hP [0, 1] rfl ⟨0, 6, _, _, rfl, rfl, rfl⟩ hl.1 rfl (Nat.le_of_ble_eq_true rfl) dX4_fix_53 ⟨Nat.le_of_ble_eq_true rfl, Nat.le_of_ble_eq_true rfl⟩) (fun v53 e53 => ?_)
          refine lv_if_eq (tgt := 72) hx hb dX4_fix_56 (by decide) (fun c56 => ?_) (fun c56 => ?_)
          · have c56 := (e53).f c56
            refine lv_iconst (v := nI 0) hx hb dX4_fix_72 (by decide) ?_
            exact hJ73 (nI 0) (Or.inr ⟨rfl, by omega⟩)
          · have c56 := (e53).t c56
            refine lv_aload_n hx hb dX4_fix_59 rfl (lv_at hl 3 rfl) ?_
            refine lv_iload hx hb dX4_fix_60 (lv_at hl 0 rfl) ?_
            refine goI (rdV (As := [.int v18]) (rest := []) (m_isNode l K b sm th al kn h6 h1 v18) ⟨hx, hb, hml, hown, hts⟩ (gV kl_X4_64 ki_X4_isNode ks_X4_isNode kn_X4 kc_X4_isNode) (by show okN yX4_isNode 1; decide +kernel) ⟨⟨Nat.le_of_ble_eq_true rfl, Nat.le_of_ble_eq_true rfl⟩, rfl, rfl⟩ hE hP [0, 1] rfl ⟨0, 6, _, _, rfl, rfl, rfl⟩ hl.1 rfl (Nat.le_of_ble_eq_true rfl) dX4_fix_62 ⟨Nat.le_of_ble_eq_true rfl, Nat.le_of_ble_eq_true rfl⟩) (fun v62 e62 => ?_)
            refine lv_if_eq (tgt := 72) hx hb dX4_fix_65 (by decide) (fun c65 => ?_) (fun c65 => ?_)
            · have c65 := (e62).f c65
              refine lv_iconst (v := nI 0) hx hb dX4_fix_72 (by decide) ?_
              exact hJ73 (nI 0) (Or.inr ⟨rfl, by omega⟩)
            · have c65 := (e62).t c65
              refine lv_iconst (v := nI 1) hx hb dX4_fix_68 (by decide) ?_
              refine lv_goto (tgt := 73) hx hb dX4_fix_69 (by decide) ?_
              exact hJ73 (nI 1) (Or.inl ⟨rfl, by omega⟩)
