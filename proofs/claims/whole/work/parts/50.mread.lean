/-! the reference: what it reads -/
def Bo (r : Int32) (P : Prop) : Prop := (r = 1 ∧ P) ∨ (r = 0 ∧ ¬ P)
theorem Bo.t {r : Int32} {P : Prop} (h : Bo r P) (g : ¬ r = 0) : P := by
  rcases h with q | q
  · exact q.2
  · exact absurd q.1 g
theorem Bo.f {r : Int32} {P : Prop} (h : Bo r P) (g : r = 0) : ¬ P := by
  rcases h with q | q
  · exact absurd (q.1.symm.trans g) (by decide)
  · exact q.2
theorem Bo.c {r : Int32} {P Q : Prop} (h : Bo r P) (e : P ↔ Q) : Bo r Q := by
  rcases h with q | q
  · exact Or.inl ⟨q.1, e.mp q.2⟩
  · exact Or.inr ⟨q.1, fun g => q.2 (e.mpr g)⟩
theorem Bo.one : Bo (nI 1) True := Or.inl ⟨rfl, trivial⟩
theorem Bo.b {r : Int32} {P : Prop} (h : Bo r P) : r = 0 ∨ r = 1 := by
  rcases h with q | q
  · exact Or.inr q.1
  · exact Or.inl q.1
def NodC (al : Nat → Int64) (kn : Nat) (fn : Nat → Int32) : Prop := ∀ q, q < kn * 6 → al (2 + q) = (fn q).toInt64
def RecC (al : Nat → Int64) (kr : Nat) (fr : Nat → Int32) : Prop := ∀ q, q < kr * 8 → al (39 + q) = (fr q).toInt64
theorem l2iN {n : Nat} (h : n < 2147483648) : (lN n).toInt32 = nI n := eqI (by rw [i32T (by rw [lN_T (by omega)]; omega) (by rw [lN_T (by omega)]; omega), lN_T (by omega), nI_toInt (by omega)])
theorem l2iI (x : Int32) : x.toInt64.toInt32 = x := by
  have h1 := x.toInt_lt
  have h2 := x.le_toInt
  exact eqI (by rw [i32T (by rw [i64T]; omega) (by rw [i64T]; omega), i64T])
theorem remLN {x y : Int64} (hx : 0 ≤ x.toInt) (hy : 0 < y.toInt) : (x - x / y * y).toInt = x.toInt % y.toInt := by
  rw [remL hy, Int.tmod_eq_emod_of_nonneg hx]
theorem divLN {x y : Int64} (hx : 0 ≤ x.toInt) (hy : 0 < y.toInt) : (x / y).toInt = x.toInt / y.toInt := by
  rw [divL hy, Int.tdiv_eq_ediv_of_nonneg hx]
theorem dsq_symm (fn : Nat → Int32) (i j : Nat) : dsq fn i j = dsq fn j i := by
  unfold dsq
  rw [show nd fn i 0 - nd fn j 0 = -(nd fn j 0 - nd fn i 0) by omega, show nd fn i 1 - nd fn j 1 = -(nd fn j 1 - nd fn i 1) by omega, Int.neg_mul_neg, Int.neg_mul_neg]
theorem dst_symm (fn : Nat → Int32) (i j : Nat) : dst fn i j = dst fn j i := by
  unfold dst
  rw [dsq_symm]
set_option maxHeartbeats 4000000 in
set_option maxRecDepth 100000 in
theorem m_in (l : Launch) (K : EK) (v lo hi : Int64) : Met l yX4_in (wq yX4_in cX4_in 6 (some .boolean)) (rmL 1 0 0) (va_Pc [.long v, .long lo, .long hi] (PR K [])) (vp_Si (fun r => Bo r (lo.toInt ≤ v.toInt ∧ v.toInt ≤ hi.toInt))) 0 0 NF := by
  refine hdR (by decide +kernel) (Nat.le_of_ble_eq_true rfl) ?_
  intro pp ee s mm bl9 me9 cd hx hb hr hlocks hml hown hts hE hP ls hl
  have hown : s.vm.findClass RX4 = some mm.cls := hown
  have hP : va_P K.1 vwCl [] s.heap := hP
  have hl : lv_has ls 6 [(0, .long v), (2, .long lo), (4, .long hi)] := hl
  refine jn (P := fun jv => Bo jv (lo.toInt ≤ v.toInt ∧ v.toInt ≤ hi.toInt)) 18 [] (fun j18 k18 => ?_) (fun hJ18 => ?_)
  · exact eZ (v := j18) hx hb hr hlocks (k18).b (k18) dX4_in_18
  · refine lv_lload_n hx hb dX4_in_0 rfl (lv_at hl 0 rfl) ?_
    refine lv_lload_n hx hb dX4_in_1 rfl (lv_at hl 1 rfl) ?_
    refine W.lcmp hx hb dX4_in_2 ?_
    refine lv_if_lt (tgt := 17) hx hb dX4_in_3 (by decide) (fun c3 => ?_) (fun c3 => ?_)
    · have c3 := (lg_cmp_lt _ _).mp c3
      refine lv_iconst (v := nI 0) hx hb dX4_in_17 (by decide) ?_
      exact hJ18 (nI 0) (Or.inr ⟨rfl, by first | (have h1 := ltL.mp c3; omega) | (have h2 := ltL.mp c10; omega)⟩)
    · have c3 := fun q => c3 ((lg_cmp_lt _ _).mpr q)
      refine lv_lload_n hx hb dX4_in_6 rfl (lv_at hl 0 rfl) ?_
      refine lv_lload hx hb dX4_in_7 (lv_at hl 2 rfl) ?_
      refine W.lcmp hx hb dX4_in_9 ?_
      refine lv_if_gt (tgt := 17) hx hb dX4_in_10 (by decide) (fun c10 => ?_) (fun c10 => ?_)
      · have c10 := (lg_cmp_gt _ _).mp c10
        refine lv_iconst (v := nI 0) hx hb dX4_in_17 (by decide) ?_
        exact hJ18 (nI 0) (Or.inr ⟨rfl, by first | (have h1 := ltL.mp c3; omega) | (have h2 := ltL.mp c10; omega)⟩)
      · have c10 := fun q => c10 ((lg_cmp_gt _ _).mpr q)
        refine lv_iconst (v := nI 1) hx hb dX4_in_13 (by decide) ?_
        refine lv_goto (tgt := 18) hx hb dX4_in_14 (by decide) ?_
        exact hJ18 (nI 1) (Or.inl ⟨rfl, by have h1 := mt ltL.mpr c3; have h2 := mt ltL.mpr c10; omega⟩)
set_option maxHeartbeats 4000000 in
set_option maxRecDepth 100000 in
theorem m_isPlace (l : Launch) (K : EK) (v : Int32) : Met l yX4_isPlace (wq yX4_isPlace cX4_isPlace 1 (some .boolean)) (rmL 2 0 0) (va_Pc [.int v] (PR K [])) (vp_Si (fun r => Bo r (-1000 ≤ v.toInt ∧ v.toInt ≤ 1000))) 0 0 NF := by
  refine hdR (by decide +kernel) (Nat.le_of_ble_eq_true rfl) ?_
  intro pp ee s mm bl9 me9 cd hx hb hr hlocks hml hown hts hE hP ls hl
  have hown : s.vm.findClass RX4 = some mm.cls := hown
  have hP : va_P K.1 vwCl [] s.heap := hP
  have hl : lv_has ls 1 [(0, .int v)] := hl
  refine lv_iload_n hx hb dX4_isPlace_0 rfl (lv_at hl 0 rfl) ?_
  refine lv_i2l hx hb dX4_isPlace_1 rfl ?_
  refine lv_topl (fun v1 e1 => ?_)
  refine lv_ldc2 (v := -1000) hx hb hown (hts _ kw_X4_27) dX4_isPlace_2 ?_
  refine lv_ldc2 (v := lN 1000) hx hb hown (hts _ kw_X4_29) dX4_isPlace_5 ?_
  refine goI (rdS (As := [.long v1, .long (-1000), .long (lN 1000)]) (rest := []) (m_in l K v1 (-1000) (lN 1000)) ⟨hx, hb, hml, hown, hts⟩ (gS kl_X4_23 kt_X4_in kn_X4 kc_X4_in) (by show okN yX4_in 3; decide +kernel) ⟨⟨Nat.le_of_ble_eq_true rfl, Nat.le_of_ble_eq_true rfl⟩, rfl, rfl⟩ hE hP [] rfl hl.1 rfl (Nat.le_of_ble_eq_true rfl) dX4_isPlace_8 ⟨Nat.le_of_ble_eq_true rfl, Nat.le_of_ble_eq_true rfl⟩) (fun v8 e8 => ?_)
  have e8 : Bo v8 (-1000 ≤ v.toInt ∧ v.toInt ≤ 1000) := e8.c (by have h1 := i64T v; rw [← e1] at h1; have y1000m : (-1000 : Int64).toInt = -1000 := (by decide); have y1000 : (lN 1000 : Int64).toInt = 1000 := (by decide); omega)
  exact eZ (v := v8) hx hb hr hlocks (e8).b (e8) dX4_isPlace_11
set_option maxHeartbeats 4000000 in
set_option maxRecDepth 100000 in
theorem m_isMethod (l : Launch) (K : EK) (v : Int32) : Met l yX4_isMethod (wq yX4_isMethod cX4_isMethod 1 (some .boolean)) (rmL 2 0 0) (va_Pc [.int v] (PR K [])) (vp_Si (fun r => Bo r (0 ≤ v.toInt ∧ v.toInt ≤ 2))) 0 0 NF := by
  refine hdR (by decide +kernel) (Nat.le_of_ble_eq_true rfl) ?_
  intro pp ee s mm bl9 me9 cd hx hb hr hlocks hml hown hts hE hP ls hl
  have hown : s.vm.findClass RX4 = some mm.cls := hown
  have hP : va_P K.1 vwCl [] s.heap := hP
  have hl : lv_has ls 1 [(0, .int v)] := hl
  refine lv_iload_n hx hb dX4_isMethod_0 rfl (lv_at hl 0 rfl) ?_
  refine lv_i2l hx hb dX4_isMethod_1 rfl ?_
  refine lv_topl (fun v1 e1 => ?_)
  refine lv_lconst (v := lN 0) hx hb dX4_isMethod_2 (by decide) ?_
  refine lv_ldc2 (v := lN 2) hx hb hown (hts _ kw_X4_54) dX4_isMethod_3 ?_
  refine goI (rdS (As := [.long v1, .long (lN 0), .long (lN 2)]) (rest := []) (m_in l K v1 (lN 0) (lN 2)) ⟨hx, hb, hml, hown, hts⟩ (gS kl_X4_23 kt_X4_in kn_X4 kc_X4_in) (by show okN yX4_in 3; decide +kernel) ⟨⟨Nat.le_of_ble_eq_true rfl, Nat.le_of_ble_eq_true rfl⟩, rfl, rfl⟩ hE hP [] rfl hl.1 rfl (Nat.le_of_ble_eq_true rfl) dX4_isMethod_6 ⟨Nat.le_of_ble_eq_true rfl, Nat.le_of_ble_eq_true rfl⟩) (fun v6 e6 => ?_)
  have e6 : Bo v6 (0 ≤ v.toInt ∧ v.toInt ≤ 2) := e6.c (by have h1 := i64T v; rw [← e1] at h1; have y0 : (lN 0 : Int64).toInt = 0 := (by decide); have y2 : (lN 2 : Int64).toInt = 2 := (by decide); omega)
  exact eZ (v := v6) hx hb hr hlocks (e6).b (e6) dX4_isMethod_9
set_option maxHeartbeats 4000000 in
set_option maxRecDepth 100000 in
theorem m_isNode (l : Launch) (K : EK) (b : Nat → Nat) (sm th : Int32) (al : Nat → Int64) (kn : Nat) (h9 : kn ≤ 6) (h1 : al 1 = lN kn) (v : Int32) : Met l yX4_isNode (wq yX4_isNode cX4_isNode 2 (some .boolean)) (rmL 2 0 0) (va_Pc [.ref (b 0), .int v] (PR K [(b 0, .inr (6, [.ref (b 1), .ref (b 2), .int sm, .int th])), (b 1, .inl (K.2.2.1, 460, .inr (.inl (al))))])) (vp_Si (fun r => Bo r (0 ≤ v.toInt ∧ v.toInt < kn))) 0 0 NF := by
  refine hdR (by decide +kernel) (Nat.le_of_ble_eq_true rfl) ?_
  intro pp ee s mm bl9 me9 cd hx hb hr hlocks hml hown hts hE hP ls hl
  have hown : s.vm.findClass RX4 = some mm.cls := hown
  have hP : va_P K.1 vwCl [(b 0, .inr (6, [.ref (b 1), .ref (b 2), .int sm, .int th])), (b 1, .inl (K.2.2.1, 460, .inr (.inl (al))))] s.heap := hP
  have hl : lv_has ls 2 [(0, .ref (b 0)), (1, .int v)] := hl
  refine lv_iload_n hx hb dX4_isNode_0 rfl (lv_at hl 1 rfl) ?_
  refine lv_i2l hx hb dX4_isNode_1 rfl ?_
  refine lv_topl (fun v1 e1 => ?_)
  refine lv_lconst (v := lN 0) hx hb dX4_isNode_2 (by decide) ?_
  refine lv_aload_n hx hb dX4_isNode_3 rfl (lv_at hl 0 rfl) ?_
  refine va_get (D := K.1) (ci := 6) (v := .ref (b 1)) (C := RX4) (T := TX4) (N := 4) hx hb hts inX4 hown hE.1 hP 0 rfl rfl 0 (by decide) (hts _ kf_X4_7) (fun _ h9 => h9) rfl dX4_isNode_4 ?_
  refine lv_iconst (v := nI 1) hx hb dX4_isNode_7 (by decide) ?_
  have i8 : nI 1 = nI 1 := rfl
  have j8 : 1 < 460 := by omega
  refine va_lald hx hb hE.1 hP 1 1 rfl rfl (by rw [i8]; exact vp_in_nI j8 (by omega)) dX4_isNode_8 ?_
  rw [i8, nI_clamp (by omega)]
  refine lv_topl (fun v8 e8 => ?_)
  refine lv_lconst (v := lN 1) hx hb dX4_isNode_9 (by decide) ?_
  refine lv_lsub hx hb dX4_isNode_10 ?_
  refine lv_topl (fun v10 e10 => ?_)
  refine goI (rdS (As := [.long v1, .long (lN 0), .long v10]) (rest := []) (m_in l K v1 (lN 0) v10) ⟨hx, hb, hml, hown, hts⟩ (gS kl_X4_23 kt_X4_in kn_X4 kc_X4_in) (by show okN yX4_in 3; decide +kernel) ⟨⟨Nat.le_of_ble_eq_true rfl, Nat.le_of_ble_eq_true rfl⟩, rfl, rfl⟩ hE hP [] rfl hl.1 rfl (Nat.le_of_ble_eq_true rfl) dX4_isNode_11 ⟨Nat.le_of_ble_eq_true rfl, Nat.le_of_ble_eq_true rfl⟩) (fun v11 e11 => ?_)
  have e11 : Bo v11 (0 ≤ v.toInt ∧ v.toInt < kn) := e11.c (by have g1 := i64T v; rw [← e1] at g1; have g2 : v10.toInt = kn - 1 := (by rw [e10, e8, h1, fb_subL (by rw [lN_T (by omega)]; exact (by omega : (-9223372036854775808 : Int) ≤ kn - 1)) (by rw [lN_T (by omega)]; exact (by omega : (kn : Int) - 1 < 9223372036854775808)), lN_T (by omega)]; rfl); have y0 : (lN 0 : Int64).toInt = 0 := (by decide); omega)
  exact eZ (v := v11) hx hb hr hlocks (e11).b (e11) dX4_isNode_14
set_option maxHeartbeats 4000000 in
set_option maxRecDepth 100000 in
theorem m_isExchange (l : Launch) (K : EK) (b : Nat → Nat) (sm th : Int32) (al : Nat → Int64) (kr : Nat) (h9 : kr ≤ 40) (h1 : al 38 = lN kr) (v : Int32) : Met l yX4_isExchange (wq yX4_isExchange cX4_isExchange 2 (some .boolean)) (rmL 2 0 0) (va_Pc [.ref (b 0), .int v] (PR K [(b 0, .inr (6, [.ref (b 1), .ref (b 2), .int sm, .int th])), (b 1, .inl (K.2.2.1, 460, .inr (.inl (al))))])) (vp_Si (fun r => Bo r (0 ≤ v.toInt ∧ v.toInt < kr))) 0 0 NF := by
  refine hdR (by decide +kernel) (Nat.le_of_ble_eq_true rfl) ?_
  intro pp ee s mm bl9 me9 cd hx hb hr hlocks hml hown hts hE hP ls hl
  have hown : s.vm.findClass RX4 = some mm.cls := hown
  have hP : va_P K.1 vwCl [(b 0, .inr (6, [.ref (b 1), .ref (b 2), .int sm, .int th])), (b 1, .inl (K.2.2.1, 460, .inr (.inl (al))))] s.heap := hP
  have hl : lv_has ls 2 [(0, .ref (b 0)), (1, .int v)] := hl
  refine lv_iload_n hx hb dX4_isExchange_0 rfl (lv_at hl 1 rfl) ?_
  refine lv_i2l hx hb dX4_isExchange_1 rfl ?_
  refine lv_topl (fun v1 e1 => ?_)
  refine lv_lconst (v := lN 0) hx hb dX4_isExchange_2 (by decide) ?_
  refine lv_aload_n hx hb dX4_isExchange_3 rfl (lv_at hl 0 rfl) ?_
  refine va_get (D := K.1) (ci := 6) (v := .ref (b 1)) (C := RX4) (T := TX4) (N := 4) hx hb hts inX4 hown hE.1 hP 0 rfl rfl 0 (by decide) (hts _ kf_X4_7) (fun _ h9 => h9) rfl dX4_isExchange_4 ?_
  refine lv_bipush (v := nI 38) hx hb dX4_isExchange_7 (by decide) ?_
  have i9 : nI 38 = nI 38 := rfl
  have j9 : 38 < 460 := by omega
  refine va_lald hx hb hE.1 hP 1 1 rfl rfl (by rw [i9]; exact vp_in_nI j9 (by omega)) dX4_isExchange_9 ?_
  rw [i9, nI_clamp (by omega)]
  refine lv_topl (fun v9 e9 => ?_)
  refine lv_lconst (v := lN 1) hx hb dX4_isExchange_10 (by decide) ?_
  refine lv_lsub hx hb dX4_isExchange_11 ?_
  refine lv_topl (fun v11 e11 => ?_)
  refine goI (rdS (As := [.long v1, .long (lN 0), .long v11]) (rest := []) (m_in l K v1 (lN 0) v11) ⟨hx, hb, hml, hown, hts⟩ (gS kl_X4_23 kt_X4_in kn_X4 kc_X4_in) (by show okN yX4_in 3; decide +kernel) ⟨⟨Nat.le_of_ble_eq_true rfl, Nat.le_of_ble_eq_true rfl⟩, rfl, rfl⟩ hE hP [] rfl hl.1 rfl (Nat.le_of_ble_eq_true rfl) dX4_isExchange_12 ⟨Nat.le_of_ble_eq_true rfl, Nat.le_of_ble_eq_true rfl⟩) (fun v12 e12 => ?_)
  have e12 : Bo v12 (0 ≤ v.toInt ∧ v.toInt < kr) := e12.c (by have g1 := i64T v; rw [← e1] at g1; have g2 : v11.toInt = kr - 1 := (by rw [e11, e9, h1, fb_subL (by rw [lN_T (by omega)]; exact (by omega : (-9223372036854775808 : Int) ≤ kr - 1)) (by rw [lN_T (by omega)]; exact (by omega : (kr : Int) - 1 < 9223372036854775808)), lN_T (by omega)]; rfl); have y0 : (lN 0 : Int64).toInt = 0 := (by decide); omega)
  exact eZ (v := v12) hx hb hr hlocks (e12).b (e12) dX4_isExchange_15
set_option maxHeartbeats 4000000 in
set_option maxRecDepth 100000 in
theorem m_of (l : Launch) (K : EK) (b : Nat → Nat) (sm th : Int32) (al : Nat → Int64) (kn : Nat) (fn : Nat → Int32) (h6 : kn ≤ 6) (hN : NodC al kn fn) (i c : Nat) (hi : i < kn) (hc : c < 6) : Met l yX4_of (wq yX4_of cX4_of 3 (some .long)) (rmL 1 0 0) (va_Pc [.ref (b 0), .int (nI i), .int (nI c)] (PR K [(b 0, .inr (6, [.ref (b 1), .ref (b 2), .int sm, .int th])), (b 1, .inl (K.2.2.1, 460, .inr (.inl (al))))])) (vp_Sl (fun r => r = (fn (i * 6 + c)).toInt64)) 0 0 NF := by
  refine hdR (by decide +kernel) (Nat.le_of_ble_eq_true rfl) ?_
  intro pp ee s mm bl9 me9 cd hx hb hr hlocks hml hown hts hE hP ls hl
  have hown : s.vm.findClass RX4 = some mm.cls := hown
  have hP : va_P K.1 vwCl [(b 0, .inr (6, [.ref (b 1), .ref (b 2), .int sm, .int th])), (b 1, .inl (K.2.2.1, 460, .inr (.inl (al))))] s.heap := hP
  have hl : lv_has ls 3 [(0, .ref (b 0)), (1, .int (nI i)), (2, .int (nI c))] := hl
  refine lv_aload_n hx hb dX4_of_0 rfl (lv_at hl 0 rfl) ?_
  refine va_get (D := K.1) (ci := 6) (v := .ref (b 1)) (C := RX4) (T := TX4) (N := 4) hx hb hts inX4 hown hE.1 hP 0 rfl rfl 0 (by decide) (hts _ kf_X4_7) (fun _ h9 => h9) rfl dX4_of_1 ?_
  refine lv_iconst (v := nI 2) hx hb dX4_of_4 (by decide) ?_
  refine lv_bipush (v := nI 6) hx hb dX4_of_5 (by decide) ?_
  refine lv_iload_n hx hb dX4_of_7 rfl (lv_at hl 1 rfl) ?_
  refine lv_imul hx hb dX4_of_8 ?_
  rw [pk_mul 6 i]
  refine lv_iadd hx hb dX4_of_9 ?_
  rw [nI_add 2 (6 * i)]
  refine lv_iload_n hx hb dX4_of_10 rfl (lv_at hl 2 rfl) ?_
  refine lv_iadd hx hb dX4_of_11 ?_
  rw [nI_add (2 + 6 * i) c]
  have i12 : nI (2 + 6 * i + c) = nI (2 + 6 * i + c) := rfl
  have j12 : 2 + 6 * i + c < 460 := by omega
  refine va_lald hx hb hE.1 hP 1 1 rfl rfl (by rw [i12]; exact vp_in_nI j12 (by omega)) dX4_of_12 ?_
  rw [i12, nI_clamp (by omega)]
  refine lv_topl (fun v12 e12 => ?_)
  exact eL (v := v12) hx hb hr hlocks (by rw [e12, show 2 + 6 * i + c = 2 + (i * 6 + c) by omega]; exact hN _ (by omega)) dX4_of_13
set_option maxHeartbeats 4000000 in
set_option maxRecDepth 100000 in
theorem m_inExchange (l : Launch) (K : EK) (b : Nat → Nat) (sm th : Int32) (al : Nat → Int64) (kr : Nat) (fr : Nat → Int32) (h40 : kr ≤ 40) (hR : RecC al kr fr) (e c : Nat) (he : e < kr) (hc : c < 8) : Met l yX4_inExchange (wq yX4_inExchange cX4_inExchange 3 (some .long)) (rmL 1 0 0) (va_Pc [.ref (b 0), .int (nI e), .int (nI c)] (PR K [(b 0, .inr (6, [.ref (b 1), .ref (b 2), .int sm, .int th])), (b 1, .inl (K.2.2.1, 460, .inr (.inl (al))))])) (vp_Sl (fun r => r = (fr (e * 8 + c)).toInt64)) 0 0 NF := by
  refine hdR (by decide +kernel) (Nat.le_of_ble_eq_true rfl) ?_
  intro pp ee s mm bl9 me9 cd hx hb hr hlocks hml hown hts hE hP ls hl
  have hown : s.vm.findClass RX4 = some mm.cls := hown
  have hP : va_P K.1 vwCl [(b 0, .inr (6, [.ref (b 1), .ref (b 2), .int sm, .int th])), (b 1, .inl (K.2.2.1, 460, .inr (.inl (al))))] s.heap := hP
  have hl : lv_has ls 3 [(0, .ref (b 0)), (1, .int (nI e)), (2, .int (nI c))] := hl
  refine lv_aload_n hx hb dX4_inExchange_0 rfl (lv_at hl 0 rfl) ?_
  refine va_get (D := K.1) (ci := 6) (v := .ref (b 1)) (C := RX4) (T := TX4) (N := 4) hx hb hts inX4 hown hE.1 hP 0 rfl rfl 0 (by decide) (hts _ kf_X4_7) (fun _ h9 => h9) rfl dX4_inExchange_1 ?_
  refine lv_bipush (v := nI 39) hx hb dX4_inExchange_4 (by decide) ?_
  refine lv_bipush (v := nI 8) hx hb dX4_inExchange_6 (by decide) ?_
  refine lv_iload_n hx hb dX4_inExchange_8 rfl (lv_at hl 1 rfl) ?_
  refine lv_imul hx hb dX4_inExchange_9 ?_
  rw [pk_mul 8 e]
  refine lv_iadd hx hb dX4_inExchange_10 ?_
  rw [nI_add 39 (8 * e)]
  refine lv_iload_n hx hb dX4_inExchange_11 rfl (lv_at hl 2 rfl) ?_
  refine lv_iadd hx hb dX4_inExchange_12 ?_
  rw [nI_add (39 + 8 * e) c]
  have i13 : nI (39 + 8 * e + c) = nI (39 + 8 * e + c) := rfl
  have j13 : 39 + 8 * e + c < 460 := by omega
  refine va_lald hx hb hE.1 hP 1 1 rfl rfl (by rw [i13]; exact vp_in_nI j13 (by omega)) dX4_inExchange_13 ?_
  rw [i13, nI_clamp (by omega)]
  refine lv_topl (fun v13 e13 => ?_)
  exact eL (v := v13) hx hb hr hlocks (by rw [e13, show 39 + 8 * e + c = 39 + (e * 8 + c) by omega]; exact hR _ (by omega)) dX4_inExchange_14
set_option maxHeartbeats 4000000 in
set_option maxRecDepth 100000 in
theorem m_rootOf (l : Launch) (K : EK) (dx dy : Int64) (h1 : -2000 ≤ dx.toInt ∧ dx.toInt ≤ 2000) (h2 : -2000 ≤ dy.toInt ∧ dy.toInt ≤ 2000) : Met l yX4_rootOf (wq yX4_rootOf cX4_rootOf 12 (some .long)) (rmL 1 0 0) (va_Pc [.long dx, .long dy] (PR K [])) (vp_Sl (fun r => r = lN (isq (dx.toInt * dx.toInt + dy.toInt * dy.toInt).toNat))) 0 0 NF := by
  refine hdR (by decide +kernel) (Nat.le_of_ble_eq_true rfl) ?_
  intro pp ee s mm bl9 me9 cd hx hb hr hlocks hml hown hts hE hP ls hl
  have hown : s.vm.findClass RX4 = some mm.cls := hown
  have hP : va_P K.1 vwCl [] s.heap := hP
  have hl : lv_has ls 12 [(0, .long dx), (2, .long dy)] := hl
  have g1 := sq_le (x := dx.toInt) (n := 2000) h1.1 h1.2
  have g2 := sq_le (x := dy.toInt) (n := 2000) h2.1 h2.2
  obtain ⟨S, hSe⟩ : ∃ S : Nat, (dx.toInt * dx.toInt + dy.toInt * dy.toInt).toNat = S := ⟨_, rfl⟩
  have hS2 : S ≤ 8000000 := by omega
  refine lv_lload_n hx hb dX4_rootOf_0 rfl (lv_at hl 0 rfl) ?_
  refine lv_lload_n hx hb dX4_rootOf_1 rfl (lv_at hl 0 rfl) ?_
  refine lv_lmul hx hb dX4_rootOf_2 ?_
  refine lv_topl (fun v2 e2 => ?_)
  refine lv_lload_n hx hb dX4_rootOf_3 rfl (lv_at hl 1 rfl) ?_
  refine lv_lload_n hx hb dX4_rootOf_4 rfl (lv_at hl 1 rfl) ?_
  refine lv_lmul hx hb dX4_rootOf_5 ?_
  refine lv_topl (fun v5 e5 => ?_)
  refine lv_ladd hx hb dX4_rootOf_6 ?_
  refine lv_topl (fun v6 e6 => ?_)
  have q2 : v2.toInt = dx.toInt * dx.toInt := by rw [e2]; exact fb_mulL (by omega) (by omega)
  have q5 : v5.toInt = dy.toInt * dy.toInt := by rw [e5]; exact fb_mulL (by omega) (by omega)
  have q6 : v6 = lN S := eqL (by rw [e6, fb_addL (by omega) (by omega), lN_T (by omega)]; omega)
  rw [q6]
  refine lv_lstore (lv' := [(4, .long (lN S)), (0, .long dx), (2, .long dy)]) hx hb dX4_rootOf_7 hl (by decide) rfl (fun ls hl => ?_)
  refine lv_lconst (v := lN 0) hx hb dX4_rootOf_9 (by decide) ?_
  refine lv_lstore (lv' := [(6, .long (lN 0)), (4, .long (lN S)), (0, .long dx), (2, .long dy)]) hx hb dX4_rootOf_10 hl (by decide) rfl (fun ls hl => ?_)
  refine lv_ldc2 (v := lN 4096) hx hb hown (hts _ kw_X4_52) dX4_rootOf_12 ?_
  refine lv_lstore (lv' := [(8, .long (lN 4096)), (6, .long (lN 0)), (4, .long (lN S)), (0, .long dx), (2, .long dy)]) hx hb dX4_rootOf_15 hl (by decide) rfl (fun ls hl => ?_)
  refine lpR (α := Nat × Nat) (fun (x9 : Nat × Nat) => x9.1 * x9.1 ≤ S ∧ S < (x9.2 + 1) * (x9.2 + 1) ∧ x9.1 ≤ x9.2 ∧ x9.2 ≤ 4096) (fun (x9 : Nat × Nat) => x9.2 - x9.1) (fun (x9 : Nat × Nat) => [(0, .long dx), (2, .long dy), (4, .long (lN S)), (6, .long (lN x9.1)), (8, .long (lN x9.2))]) 12 17 (fun x9 hI17 ih17 ls hl => ?_) (0, 4096) (⟨Nat.zero_le _, by omega, Nat.zero_le _, Nat.le_refl _⟩) ls (lv_sub hl [3, 4, 2, 1, 0] rfl)
  obtain ⟨lo, hi⟩ := x9
  have hI17 : lo * lo ≤ S ∧ S < (hi + 1) * (hi + 1) ∧ lo ≤ hi ∧ hi ≤ 4096 := hI17
  have hl : lv_has ls 12 [(0, .long dx), (2, .long dy), (4, .long (lN S)), (6, .long (lN lo)), (8, .long (lN hi))] := hl
  refine lv_lload hx hb dX4_rootOf_17 (lv_at hl 3 rfl) ?_
  refine lv_lload hx hb dX4_rootOf_19 (lv_at hl 4 rfl) ?_
  refine W.lcmp hx hb dX4_rootOf_21 ?_
  refine lv_if_ge (tgt := 65) hx hb dX4_rootOf_22 (by decide) (fun c22 => ?_) (fun c22 => ?_)
  · have c22 := (lg_cmp_ge _ _).mp c22
    have c22 := (pk_lLE (a := hi) (b := lo) (by omega) (by omega)).mp c22
    refine lv_lload hx hb dX4_rootOf_65 (lv_at hl 3 rfl) ?_
    have hlo : lo = hi := by omega
    exact eL (v := lN lo) hx hb hr hlocks (by rw [hSe]; exact congrArg lN (isq_uniq hI17.1 (by rw [hlo]; exact hI17.2.1)).symm) dX4_rootOf_67
  · have c22 := fun q => c22 ((lg_cmp_ge _ _).mpr q)
    have c22 := mt (pk_lLE (a := hi) (b := lo) (by omega) (by omega)).mpr c22
    refine lv_lload hx hb dX4_rootOf_25 (lv_at hl 3 rfl) ?_
    refine lv_lload hx hb dX4_rootOf_27 (lv_at hl 4 rfl) ?_
    refine lv_ladd hx hb dX4_rootOf_29 ?_
    rw [lN_add lo hi]
    refine lv_lconst (v := lN 1) hx hb dX4_rootOf_30 (by decide) ?_
    refine lv_ladd hx hb dX4_rootOf_31 ?_
    rw [lN_add (lo + hi) 1]
    refine lv_ldc2 (v := lN 2) hx hb hown (hts _ kw_X4_54) dX4_rootOf_32 ?_
    refine lv_ldiv hx hb dX4_rootOf_35 (by decide) ?_
    refine lv_topl (fun v35 e35 => ?_)
    obtain ⟨mi, hmi⟩ : ∃ z, z = (lo + hi + 1) / 2 := ⟨_, rfl⟩
    have q35 : v35 = lN mi := by rw [e35, hmi]; exact pk_lDiv (by omega) (by decide) (by decide)
    rw [q35]
    have hmm : mi * mi ≤ 4096 * 4096 := Nat.mul_le_mul (by omega) (by omega)
    refine lv_lstore (lv' := [(10, .long (lN mi)), (0, .long dx), (2, .long dy), (4, .long (lN S)), (6, .long (lN lo)), (8, .long (lN hi))]) hx hb dX4_rootOf_36 hl (by decide) rfl (fun ls hl => ?_)
    refine lv_lload hx hb dX4_rootOf_38 (lv_at hl 0 rfl) ?_
    refine lv_lload hx hb dX4_rootOf_40 (lv_at hl 0 rfl) ?_
    refine lv_lmul hx hb dX4_rootOf_42 ?_
    rw [lN_mul mi mi]
    refine lv_lload hx hb dX4_rootOf_43 (lv_at hl 3 rfl) ?_
    refine W.lcmp hx hb dX4_rootOf_45 ?_
    refine lv_if_gt (tgt := 56) hx hb dX4_rootOf_46 (by decide) (fun c46 => ?_) (fun c46 => ?_)
    · have c46 := (lg_cmp_gt _ _).mp c46
      have c46 := (pk_lLT (a := S) (b := mi * mi) (by omega) (by omega)).mp c46
      refine lv_lload hx hb dX4_rootOf_56 (lv_at hl 0 rfl) ?_
      refine lv_lconst (v := lN 1) hx hb dX4_rootOf_58 (by decide) ?_
      refine lv_lsub hx hb dX4_rootOf_59 ?_
      rw [lN_sub (by omega : 1 ≤ mi)]
      refine lv_lstore (lv' := [(8, .long (lN (mi - 1))), (10, .long (lN mi)), (0, .long dx), (2, .long dy), (4, .long (lN S)), (6, .long (lN lo))]) hx hb dX4_rootOf_60 hl (by decide) rfl (fun ls hl => ?_)
      refine lv_goto (tgt := 17) hx hb dX4_rootOf_62 (by decide) ?_
      have hB17 : lo * lo ≤ S ∧ S < ((mi - 1) + 1) * ((mi - 1) + 1) ∧ lo ≤ (mi - 1) ∧ (mi - 1) ≤ 4096 := ⟨hI17.1, by rw [show mi - 1 + 1 = mi by omega]; exact c46, by omega, by omega⟩
      exact ih17 (lo, mi - 1) (hB17) (by omega) ls (lv_sub hl [2, 3, 4, 5, 0] rfl)
    · have c46 := fun q => c46 ((lg_cmp_gt _ _).mpr q)
      have c46 := mt (pk_lLT (a := S) (b := mi * mi) (by omega) (by omega)).mpr c46
      refine lv_lload hx hb dX4_rootOf_49 (lv_at hl 0 rfl) ?_
      refine lv_lstore (lv' := [(6, .long (lN mi)), (10, .long (lN mi)), (0, .long dx), (2, .long dy), (4, .long (lN S)), (8, .long (lN hi))]) hx hb dX4_rootOf_51 hl (by decide) rfl (fun ls hl => ?_)
      refine lv_goto (tgt := 62) hx hb dX4_rootOf_53 (by decide) ?_
      refine lv_goto (tgt := 17) hx hb dX4_rootOf_62 (by decide) ?_
      have hB17 : mi * mi ≤ S ∧ S < (hi + 1) * (hi + 1) ∧ mi ≤ hi ∧ hi ≤ 4096 := ⟨Nat.le_of_not_lt c46, hI17.2.1, by omega, by omega⟩
      exact ih17 (mi, hi) (hB17) (by omega) ls (lv_sub hl [2, 3, 4, 0, 5] rfl)
set_option maxHeartbeats 4000000 in
set_option maxRecDepth 100000 in
theorem m_distanceOf (l : Launch) (K : EK) (b : Nat → Nat) (sm th : Int32) (al : Nat → Int64) (kn : Nat) (fn : Nat → Int32) (h6 : kn ≤ 6) (hN : NodC al kn fn) (i j : Nat) (hi : i < kn) (hj : j < kn) (oi : nOk fn i) (oj : nOk fn j) : Met l yX4_distanceOf (wq yX4_distanceOf cX4_distanceOf 3 (some .long)) (rmL 2 0 0) (va_Pc [.ref (b 0), .int (nI i), .int (nI j)] (PR K [(b 0, .inr (6, [.ref (b 1), .ref (b 2), .int sm, .int th])), (b 1, .inl (K.2.2.1, 460, .inr (.inl (al))))])) (vp_Sl (fun r => r = lN (dst fn i j))) 0 0 NF := by
  refine hdR (by decide +kernel) (Nat.le_of_ble_eq_true rfl) ?_
  intro pp ee s mm bl9 me9 cd hx hb hr hlocks hml hown hts hE hP ls hl
  have hown : s.vm.findClass RX4 = some mm.cls := hown
  have hP : va_P K.1 vwCl [(b 0, .inr (6, [.ref (b 1), .ref (b 2), .int sm, .int th])), (b 1, .inl (K.2.2.1, 460, .inr (.inl (al))))] s.heap := hP
  have hl : lv_has ls 3 [(0, .ref (b 0)), (1, .int (nI i)), (2, .int (nI j))] := hl
  have r1 := oi.1
  have r2 := oi.2.1
  have r3 := oj.1
  have r4 := oj.2.1
  refine lv_aload_n hx hb dX4_distanceOf_0 rfl (lv_at hl 0 rfl) ?_
  refine lv_iload_n hx hb dX4_distanceOf_1 rfl (lv_at hl 1 rfl) ?_
  refine lv_iconst (v := nI 0) hx hb dX4_distanceOf_2 (by decide) ?_
  refine goL (rdV (As := [.int (nI i), .int (nI 0)]) (rest := []) (m_of l K b sm th al kn fn h6 hN i 0 hi (by decide)) ⟨hx, hb, hml, hown, hts⟩ (gV kl_X4_56 ki_X4_of ks_X4_of kn_X4 kc_X4_of) (by show okN yX4_of 2; decide +kernel) ⟨⟨Nat.le_of_ble_eq_true rfl, Nat.le_of_ble_eq_true rfl⟩, rfl, rfl⟩ hE hP [0, 1] rfl ⟨0, 6, _, _, rfl, rfl, rfl⟩ hl.1 rfl (Nat.le_of_ble_eq_true rfl) dX4_distanceOf_3 ⟨Nat.le_of_ble_eq_true rfl, Nat.le_of_ble_eq_true rfl⟩) (fun v3 e3 => ?_)
  refine lv_aload_n hx hb dX4_distanceOf_6 rfl (lv_at hl 0 rfl) ?_
  refine lv_iload_n hx hb dX4_distanceOf_7 rfl (lv_at hl 2 rfl) ?_
  refine lv_iconst (v := nI 0) hx hb dX4_distanceOf_8 (by decide) ?_
  refine goL (rdV (As := [.int (nI j), .int (nI 0)]) (rest := [.long v3]) (m_of l K b sm th al kn fn h6 hN j 0 hj (by decide)) ⟨hx, hb, hml, hown, hts⟩ (gV kl_X4_56 ki_X4_of ks_X4_of kn_X4 kc_X4_of) (by show okN yX4_of 2; decide +kernel) ⟨⟨Nat.le_of_ble_eq_true rfl, Nat.le_of_ble_eq_true rfl⟩, rfl, rfl⟩ hE hP [0, 1] rfl ⟨0, 6, _, _, rfl, rfl, rfl⟩ hl.1 rfl (Nat.le_of_ble_eq_true rfl) dX4_distanceOf_9 ⟨Nat.le_of_ble_eq_true rfl, Nat.le_of_ble_eq_true rfl⟩) (fun v9 e9 => ?_)
  refine lv_lsub hx hb dX4_distanceOf_12 ?_
  refine lv_topl (fun v12 e12 => ?_)
  have q12 : v12.toInt = nd fn i 0 - nd fn j 0 := by rw [e12, fb_subL (by rw [e3, e9, i64T, i64T]; unfold nd at r1 r3; omega) (by rw [e3, e9, i64T, i64T]; unfold nd at r1 r3; omega), e3, e9, i64T, i64T]; rfl
  refine lv_aload_n hx hb dX4_distanceOf_13 rfl (lv_at hl 0 rfl) ?_
  refine lv_iload_n hx hb dX4_distanceOf_14 rfl (lv_at hl 1 rfl) ?_
  refine lv_iconst (v := nI 1) hx hb dX4_distanceOf_15 (by decide) ?_
  refine goL (rdV (As := [.int (nI i), .int (nI 1)]) (rest := [.long v12]) (m_of l K b sm th al kn fn h6 hN i 1 hi (by decide)) ⟨hx, hb, hml, hown, hts⟩ (gV kl_X4_56 ki_X4_of ks_X4_of kn_X4 kc_X4_of) (by show okN yX4_of 2; decide +kernel) ⟨⟨Nat.le_of_ble_eq_true rfl, Nat.le_of_ble_eq_true rfl⟩, rfl, rfl⟩ hE hP [0, 1] rfl ⟨0, 6, _, _, rfl, rfl, rfl⟩ hl.1 rfl (Nat.le_of_ble_eq_true rfl) dX4_distanceOf_16 ⟨Nat.le_of_ble_eq_true rfl, Nat.le_of_ble_eq_true rfl⟩) (fun v16 e16 => ?_)
  refine lv_aload_n hx hb dX4_distanceOf_19 rfl (lv_at hl 0 rfl) ?_
  refine lv_iload_n hx hb dX4_distanceOf_20 rfl (lv_at hl 2 rfl) ?_
  refine lv_iconst (v := nI 1) hx hb dX4_distanceOf_21 (by decide) ?_
  refine goL (rdV (As := [.int (nI j), .int (nI 1)]) (rest := [.long v16, .long v12]) (m_of l K b sm th al kn fn h6 hN j 1 hj (by decide)) ⟨hx, hb, hml, hown, hts⟩ (gV kl_X4_56 ki_X4_of ks_X4_of kn_X4 kc_X4_of) (by show okN yX4_of 2; decide +kernel) ⟨⟨Nat.le_of_ble_eq_true rfl, Nat.le_of_ble_eq_true rfl⟩, rfl, rfl⟩ hE hP [0, 1] rfl ⟨0, 6, _, _, rfl, rfl, rfl⟩ hl.1 rfl (Nat.le_of_ble_eq_true rfl) dX4_distanceOf_22 ⟨Nat.le_of_ble_eq_true rfl, Nat.le_of_ble_eq_true rfl⟩) (fun v22 e22 => ?_)
  refine lv_lsub hx hb dX4_distanceOf_25 ?_
  refine lv_topl (fun v25 e25 => ?_)
  have q25 : v25.toInt = nd fn i 1 - nd fn j 1 := by rw [e25, fb_subL (by rw [e16, e22, i64T, i64T]; unfold nd at r2 r4; omega) (by rw [e16, e22, i64T, i64T]; unfold nd at r2 r4; omega), e16, e22, i64T, i64T]; rfl
  refine goL (rdS (As := [.long v12, .long v25]) (rest := []) (m_rootOf l K v12 v25 ⟨by rw [q12]; omega, by rw [q12]; omega⟩ ⟨by rw [q25]; omega, by rw [q25]; omega⟩) ⟨hx, hb, hml, hown, hts⟩ (gS kl_X4_60 kt_X4_rootOf kn_X4 kc_X4_rootOf) (by show okN yX4_rootOf 2; decide +kernel) ⟨⟨Nat.le_of_ble_eq_true rfl, Nat.le_of_ble_eq_true rfl⟩, rfl, rfl⟩ hE hP [] rfl hl.1 rfl (Nat.le_of_ble_eq_true rfl) dX4_distanceOf_26 ⟨Nat.le_of_ble_eq_true rfl, Nat.le_of_ble_eq_true rfl⟩) (fun v26 e26 => ?_)
  exact eL (v := v26) hx hb hr hlocks (by rw [e26, q12, q25]; rfl) dX4_distanceOf_29
set_option maxHeartbeats 4000000 in
set_option maxRecDepth 100000 in
theorem m_counterAt (l : Launch) (K : EK) (b : Nat → Nat) (sm th : Int32) (al : Nat → Int64) (kn : Nat) (fn : Nat → Int32) (h6 : kn ≤ 6) (hN : NodC al kn fn) (i : Nat) (T : Int64) (hi : i < kn) (oi : nOk fn i) (hT : 0 ≤ T.toInt ∧ T.toInt ≤ 1000000000000) : Met l yX4_counterAt (wq yX4_counterAt cX4_counterAt 4 (some .long)) (rmL 2 0 0) (va_Pc [.ref (b 0), .int (nI i), .long T] (PR K [(b 0, .inr (6, [.ref (b 1), .ref (b 2), .int sm, .int th])), (b 1, .inl (K.2.2.1, 460, .inr (.inl (al))))])) (vp_Sl (fun r => r.toInt = ctr fn i T.toInt)) 0 0 NF := by
  refine hdR (by decide +kernel) (Nat.le_of_ble_eq_true rfl) ?_
  intro pp ee s mm bl9 me9 cd hx hb hr hlocks hml hown hts hE hP ls hl
  have hown : s.vm.findClass RX4 = some mm.cls := hown
  have hP : va_P K.1 vwCl [(b 0, .inr (6, [.ref (b 1), .ref (b 2), .int sm, .int th])), (b 1, .inl (K.2.2.1, 460, .inr (.inl (al))))] s.heap := hP
  have hl : lv_has ls 4 [(0, .ref (b 0)), (1, .int (nI i)), (2, .long T)] := hl
  have r1 := oi.2.2.1
  have r2 := oi.2.2.2.1
  have p1 : 0 ≤ T.toInt * (1000000 + nd fn i 2) ∧ T.toInt * (1000000 + nd fn i 2) ≤ 1000000000000 * 1000100 := ⟨Int.mul_nonneg hT.1 (by omega), Int.mul_le_mul hT.2 (by omega) (by omega) (by decide)⟩
  refine lv_lload_n hx hb dX4_counterAt_0 rfl (lv_at hl 2 rfl) ?_
  refine lv_ldc2 (v := lN 1000000) hx hb hown (hts _ kw_X4_70) dX4_counterAt_1 ?_
  refine lv_aload_n hx hb dX4_counterAt_4 rfl (lv_at hl 0 rfl) ?_
  refine lv_iload_n hx hb dX4_counterAt_5 rfl (lv_at hl 1 rfl) ?_
  refine lv_iconst (v := nI 2) hx hb dX4_counterAt_6 (by decide) ?_
  refine goL (rdV (As := [.int (nI i), .int (nI 2)]) (rest := [.long (lN 1000000), .long T]) (m_of l K b sm th al kn fn h6 hN i 2 hi (by decide)) ⟨hx, hb, hml, hown, hts⟩ (gV kl_X4_56 ki_X4_of ks_X4_of kn_X4 kc_X4_of) (by show okN yX4_of 2; decide +kernel) ⟨⟨Nat.le_of_ble_eq_true rfl, Nat.le_of_ble_eq_true rfl⟩, rfl, rfl⟩ hE hP [0, 1] rfl ⟨0, 6, _, _, rfl, rfl, rfl⟩ hl.1 rfl (Nat.le_of_ble_eq_true rfl) dX4_counterAt_7 ⟨Nat.le_of_ble_eq_true rfl, Nat.le_of_ble_eq_true rfl⟩) (fun v7 e7 => ?_)
  refine lv_ladd hx hb dX4_counterAt_10 ?_
  refine lv_topl (fun v10 e10 => ?_)
  have q10 : v10.toInt = 1000000 + nd fn i 2 := by rw [e10, fb_addL (by rw [lN_T (by decide), e7, i64T]; unfold nd at r1; omega) (by rw [lN_T (by decide), e7, i64T]; unfold nd at r1; omega), lN_T (by decide), e7, i64T]; rfl
  refine lv_lmul hx hb dX4_counterAt_11 ?_
  refine lv_topl (fun v11 e11 => ?_)
  have q11 : v11.toInt = T.toInt * (1000000 + nd fn i 2) := by rw [e11, fb_mulL (by rw [q10]; omega) (by rw [q10]; omega), q10]
  refine lv_ldc2 (v := lN 1000000) hx hb hown (hts _ kw_X4_70) dX4_counterAt_12 ?_
  refine lv_ldiv hx hb dX4_counterAt_15 (by decide) ?_
  refine lv_topl (fun v15 e15 => ?_)
  have q15 : v15.toInt = T.toInt * (1000000 + nd fn i 2) / 1000000 := by rw [e15, divLN (by rw [q11]; omega) (by rw [lN_T (by decide)]; decide), q11, lN_T (by decide)]; rfl
  refine lv_aload_n hx hb dX4_counterAt_16 rfl (lv_at hl 0 rfl) ?_
  refine lv_iload_n hx hb dX4_counterAt_17 rfl (lv_at hl 1 rfl) ?_
  refine lv_iconst (v := nI 3) hx hb dX4_counterAt_18 (by decide) ?_
  refine goL (rdV (As := [.int (nI i), .int (nI 3)]) (rest := [.long v15]) (m_of l K b sm th al kn fn h6 hN i 3 hi (by decide)) ⟨hx, hb, hml, hown, hts⟩ (gV kl_X4_56 ki_X4_of ks_X4_of kn_X4 kc_X4_of) (by show okN yX4_of 2; decide +kernel) ⟨⟨Nat.le_of_ble_eq_true rfl, Nat.le_of_ble_eq_true rfl⟩, rfl, rfl⟩ hE hP [0, 1] rfl ⟨0, 6, _, _, rfl, rfl, rfl⟩ hl.1 rfl (Nat.le_of_ble_eq_true rfl) dX4_counterAt_19 ⟨Nat.le_of_ble_eq_true rfl, Nat.le_of_ble_eq_true rfl⟩) (fun v19 e19 => ?_)
  refine lv_ladd hx hb dX4_counterAt_22 ?_
  refine lv_topl (fun v22 e22 => ?_)
  have q22 : v22.toInt = T.toInt * (1000000 + nd fn i 2) / 1000000 + nd fn i 3 := by rw [e22, fb_addL (by rw [q15, e19, i64T]; unfold nd at *; omega) (by rw [q15, e19, i64T]; unfold nd at *; omega), q15, e19, i64T]; rfl
  refine lv_ldc2 (v := lN 1048576) hx hb hown (hts _ kw_X4_72) dX4_counterAt_23 ?_
  refine lv_lrem hx hb dX4_counterAt_26 (by decide) ?_
  refine lv_topl (fun v26 e26 => ?_)
  exact eL (v := v26) hx hb hr hlocks (by rw [e26, remLN (by rw [q22]; omega) (by rw [lN_T (by decide)]; decide), q22, lN_T (by decide)]; rfl) dX4_counterAt_27
theorem flM {x y q : Int64} (hx : -4611686018427387904 ≤ x.toInt ∧ x.toInt ≤ 4611686018427387904) (hy : y.toInt ≠ 0) (hq : q = x / y) : ((y.toInt ∣ x.toInt ∨ (x.toInt < 0 ↔ y.toInt < 0)) → q.toInt = x.toInt.fdiv y.toInt) ∧ (¬ (y.toInt ∣ x.toInt ∨ (x.toInt < 0 ↔ y.toInt < 0)) → (q - lN 1).toInt = x.toInt.fdiv y.toInt) := by
  have h := divG (y := y) hx
  have m1 := tdiv_mag x.toInt y.toInt
  rw [fdv _ _ hy, hq]
  refine ⟨fun g => by rw [if_pos g, h], fun g => ?_⟩
  rw [if_neg g, fb_subL (by rw [h, lN_T (by decide)]; omega) (by rw [h, lN_T (by decide)]; omega), h, lN_T (by decide)]
  rfl
theorem remG {x y : Int64} (hx : -2305843009213693952 ≤ x.toInt ∧ x.toInt ≤ 2305843009213693952) : (x - x / y * y).toInt = x.toInt.tmod y.toInt := by
  have hq := divG (x := x) (y := y) (by omega)
  have m2 := tdm x.toInt y.toInt
  have hm : (x / y * y).toInt = x.toInt.tdiv y.toInt * y.toInt := by
    rw [fb_mulL (by rw [hq]; omega) (by rw [hq]; omega), hq]
  have e := Int.tmod_add_mul_tdiv x.toInt y.toInt
  have e2 : y.toInt * x.toInt.tdiv y.toInt = x.toInt.tdiv y.toInt * y.toInt := Int.mul_comm _ _
  rw [fb_subL (by rw [hm]; omega) (by rw [hm]; omega), hm]
  omega
theorem dvd_tm {a b : Int} : b ∣ a ↔ a.tmod b = 0 := ⟨fun h => Int.tmod_eq_zero_of_dvd h, fun h => Int.dvd_of_tmod_eq_zero h⟩
theorem Bo.eq {a b : Int32} {P Q : Prop} (h : Bo a P) (g : Bo b Q) (e : a = b) : P ↔ Q := by
  rcases h with q | q <;> rcases g with r | r
  · exact ⟨fun _ => r.2, fun _ => q.2⟩
  · exact absurd (q.1.symm.trans (e.trans r.1)) (by decide)
  · exact absurd (q.1.symm.trans (e.trans r.1)) (by decide)
  · exact ⟨fun z => absurd z q.2, fun z => absurd z r.2⟩
theorem Bo.ne {a b : Int32} {P Q : Prop} (h : Bo a P) (g : Bo b Q) (e : ¬ a = b) : ¬ (P ↔ Q) := by
  rcases h with q | q <;> rcases g with r | r
  · exact absurd (q.1.trans r.1.symm) e
  · exact fun z => r.2 (z.mp q.2)
  · exact fun z => q.2 (z.mpr r.2)
  · exact absurd (q.1.trans r.1.symm) e
set_option maxHeartbeats 4000000 in
set_option maxRecDepth 100000 in
theorem m_floor (l : Launch) (K : EK) (x y : Int64) (hx9 : -2305843009213693952 ≤ x.toInt ∧ x.toInt ≤ 2305843009213693952) (hy : y.toInt ≠ 0) : Met l yX4_floor (wq yX4_floor cX4_floor 6 (some .long)) (rmL 1 0 0) (va_Pc [.long x, .long y] (PR K [])) (vp_Sl (fun r => r.toInt = x.toInt.fdiv y.toInt)) 0 0 NF := by
  refine hdR (by decide +kernel) (Nat.le_of_ble_eq_true rfl) ?_
  intro pp ee s mm bl9 me9 cd hx hb hr hlocks hml hown hts hE hP ls hl
  have hown : s.vm.findClass RX4 = some mm.cls := hown
  have hP : va_P K.1 vwCl [] s.heap := hP
  have hl : lv_has ls 6 [(0, .long x), (2, .long y)] := hl
  refine lv_lload_n hx hb dX4_floor_0 rfl (lv_at hl 0 rfl) ?_
  refine lv_lload_n hx hb dX4_floor_1 rfl (lv_at hl 1 rfl) ?_
  refine lv_ldiv hx hb dX4_floor_2 (fun g => hy (by rw [g]; rfl)) ?_
  refine lv_topl (fun v2 e2 => ?_)
  refine lv_lstore (lv' := [(4, .long v2), (0, .long x), (2, .long y)]) hx hb dX4_floor_3 hl (by decide) rfl (fun ls hl => ?_)
  refine lv_lload_n hx hb dX4_floor_5 rfl (lv_at hl 1 rfl) ?_
  refine lv_lload_n hx hb dX4_floor_6 rfl (lv_at hl 2 rfl) ?_
  refine lv_lrem hx hb dX4_floor_7 (fun g => hy (by rw [g]; rfl)) ?_
  refine lv_topl (fun v7 e7 => ?_)
  have q7 : v7.toInt = x.toInt.tmod y.toInt := by rw [e7]; exact remG hx9
  refine lv_lconst (v := lN 0) hx hb dX4_floor_8 (by decide) ?_
  refine W.lcmp hx hb dX4_floor_9 ?_
  refine lv_if_eq (tgt := 45) hx hb dX4_floor_10 (by decide) (fun c10 => ?_) (fun c10 => ?_)
  · have c10 := (lg_cmp_eq _ _).mp c10
    refine lv_lload hx hb dX4_floor_45 (lv_at hl 0 rfl) ?_
    exact eL (v := v2) hx hb hr hlocks (by first | exact (flM (by omega) hy e2).1 (Or.inl (dvd_tm.mpr (q7.symm.trans (by rw [c10]; decide)))) | exact (flM (by omega) hy e2).1 (Or.inr (Bo.eq k24 k35 c35))) dX4_floor_47
  · have c10 := fun q => c10 ((lg_cmp_eq _ _).mpr q)
    refine jn (P := fun jv => Bo jv (x.toInt < 0)) 24 [] (fun j24 k24 => ?_) (fun hJ24 => ?_)
    · refine jn (P := fun jv => Bo jv (y.toInt < 0)) 35 [.int j24] (fun j35 k35 => ?_) (fun hJ35 => ?_)
      · refine lv_icmp_eq (tgt := 45) hx hb dX4_floor_35 (by decide) (fun c35 => ?_) (fun c35 => ?_)
        · refine lv_lload hx hb dX4_floor_45 (lv_at hl 0 rfl) ?_
          exact eL (v := v2) hx hb hr hlocks (by first | exact (flM (by omega) hy e2).1 (Or.inl (dvd_tm.mpr (q7.symm.trans (by rw [c10]; decide)))) | exact (flM (by omega) hy e2).1 (Or.inr (Bo.eq k24 k35 c35))) dX4_floor_47
        · refine lv_lload hx hb dX4_floor_38 (lv_at hl 0 rfl) ?_
          refine lv_lconst (v := lN 1) hx hb dX4_floor_40 (by decide) ?_
          refine lv_lsub hx hb dX4_floor_41 ?_
          refine lv_topl (fun v41 e41 => ?_)
          refine lv_goto (tgt := 47) hx hb dX4_floor_42 (by decide) ?_
          exact eL (v := v41) hx hb hr hlocks (by rw [e41]; exact (flM (by omega) hy e2).2 (fun g => g.elim (fun d => c10 (eqL (q7.trans ((dvd_tm.mp d).trans (by decide))))) (Bo.ne k24 k35 c35))) dX4_floor_47
      · refine lv_lload_n hx hb dX4_floor_24 rfl (lv_at hl 2 rfl) ?_
        refine lv_lconst (v := lN 0) hx hb dX4_floor_25 (by decide) ?_
        refine W.lcmp hx hb dX4_floor_26 ?_
        refine lv_if_ge (tgt := 34) hx hb dX4_floor_27 (by decide) (fun c27 => ?_) (fun c27 => ?_)
        · have c27 := (lg_cmp_ge _ _).mp c27
          refine lv_iconst (v := nI 0) hx hb dX4_floor_34 (by decide) ?_
          exact hJ35 (nI 0) (Or.inr ⟨rfl, by have h := leL.mp c27; rw [lN_T (by decide)] at h; omega⟩)
        · have c27 := fun q => c27 ((lg_cmp_ge _ _).mpr q)
          refine lv_iconst (v := nI 1) hx hb dX4_floor_30 (by decide) ?_
          refine lv_goto (tgt := 35) hx hb dX4_floor_31 (by decide) ?_
          exact hJ35 (nI 1) (Or.inl ⟨rfl, by have h := mt leL.mpr c27; rw [lN_T (by decide)] at h; omega⟩)
    · refine lv_lload_n hx hb dX4_floor_13 rfl (lv_at hl 1 rfl) ?_
      refine lv_lconst (v := lN 0) hx hb dX4_floor_14 (by decide) ?_
      refine W.lcmp hx hb dX4_floor_15 ?_
      refine lv_if_ge (tgt := 23) hx hb dX4_floor_16 (by decide) (fun c16 => ?_) (fun c16 => ?_)
      · have c16 := (lg_cmp_ge _ _).mp c16
        refine lv_iconst (v := nI 0) hx hb dX4_floor_23 (by decide) ?_
        exact hJ24 (nI 0) (Or.inr ⟨rfl, by have h := leL.mp c16; rw [lN_T (by decide)] at h; omega⟩)
      · have c16 := fun q => c16 ((lg_cmp_ge _ _).mpr q)
        refine lv_iconst (v := nI 1) hx hb dX4_floor_19 (by decide) ?_
        refine lv_goto (tgt := 24) hx hb dX4_floor_20 (by decide) ?_
        exact hJ24 (nI 1) (Or.inl ⟨rfl, by have h := mt leL.mpr c16; rw [lN_T (by decide)] at h; omega⟩)
set_option maxHeartbeats 4000000 in
set_option maxRecDepth 100000 in
theorem m_span (l : Launch) (K : EK) (b : Nat → Nat) (sm th : Int32) (al : Nat → Int64) (kr : Nat) (fr : Nat → Int32) (h40 : kr ≤ 40) (hR : RecC al kr fr) (kn e i j : Nat) (he : e < kr) (h2 : 1 ≤ i) (h3 : i < 7) (h4 : 1 ≤ j) (h5 : j < 7) (oe : rOk kn fr e) : Met l yX4_span (wq yX4_span cX4_span 4 (some .long)) (rmL 2 0 0) (va_Pc [.ref (b 0), .int (nI e), .int (nI i), .int (nI j)] (PR K [(b 0, .inr (6, [.ref (b 1), .ref (b 2), .int sm, .int th])), (b 1, .inl (K.2.2.1, 460, .inr (.inl (al))))])) (vp_Sl (fun r => r.toInt = elp fr e (1 + i) (1 + j))) 0 0 NF := by
  refine hdR (by decide +kernel) (Nat.le_of_ble_eq_true rfl) ?_
  intro pp ee s mm bl9 me9 cd hx hb hr hlocks hml hown hts hE hP ls hl
  have hown : s.vm.findClass RX4 = some mm.cls := hown
  have hP : va_P K.1 vwCl [(b 0, .inr (6, [.ref (b 1), .ref (b 2), .int sm, .int th])), (b 1, .inl (K.2.2.1, 460, .inr (.inl (al))))] s.heap := hP
  have hl : lv_has ls 4 [(0, .ref (b 0)), (1, .int (nI e)), (2, .int (nI i)), (3, .int (nI j))] := hl
  have r1 := oe.2.2 (1 + i) (by omega) (by omega)
  have r2 := oe.2.2 (1 + j) (by omega) (by omega)
  refine lv_aload_n hx hb dX4_span_0 rfl (lv_at hl 0 rfl) ?_
  refine lv_iload_n hx hb dX4_span_1 rfl (lv_at hl 1 rfl) ?_
  refine lv_iconst (v := nI 1) hx hb dX4_span_2 (by decide) ?_
  refine lv_iload_n hx hb dX4_span_3 rfl (lv_at hl 3 rfl) ?_
  refine lv_iadd hx hb dX4_span_4 ?_
  rw [nI_add 1 j]
  refine goL (rdV (As := [.int (nI e), .int (nI (1 + j))]) (rest := []) (m_inExchange l K b sm th al kr fr h40 hR e (1 + j) he (by omega)) ⟨hx, hb, hml, hown, hts⟩ (gV kl_X4_107 ki_X4_inExchange ks_X4_inExchange kn_X4 kc_X4_inExchange) (by show okN yX4_inExchange 2; decide +kernel) ⟨⟨Nat.le_of_ble_eq_true rfl, Nat.le_of_ble_eq_true rfl⟩, rfl, rfl⟩ hE hP [0, 1] rfl ⟨0, 6, _, _, rfl, rfl, rfl⟩ hl.1 rfl (Nat.le_of_ble_eq_true rfl) dX4_span_5 ⟨Nat.le_of_ble_eq_true rfl, Nat.le_of_ble_eq_true rfl⟩) (fun v5 e5 => ?_)
  refine lv_aload_n hx hb dX4_span_8 rfl (lv_at hl 0 rfl) ?_
  refine lv_iload_n hx hb dX4_span_9 rfl (lv_at hl 1 rfl) ?_
  refine lv_iconst (v := nI 1) hx hb dX4_span_10 (by decide) ?_
  refine lv_iload_n hx hb dX4_span_11 rfl (lv_at hl 2 rfl) ?_
  refine lv_iadd hx hb dX4_span_12 ?_
  rw [nI_add 1 i]
  refine goL (rdV (As := [.int (nI e), .int (nI (1 + i))]) (rest := [.long v5]) (m_inExchange l K b sm th al kr fr h40 hR e (1 + i) he (by omega)) ⟨hx, hb, hml, hown, hts⟩ (gV kl_X4_107 ki_X4_inExchange ks_X4_inExchange kn_X4 kc_X4_inExchange) (by show okN yX4_inExchange 2; decide +kernel) ⟨⟨Nat.le_of_ble_eq_true rfl, Nat.le_of_ble_eq_true rfl⟩, rfl, rfl⟩ hE hP [0, 1] rfl ⟨0, 6, _, _, rfl, rfl, rfl⟩ hl.1 rfl (Nat.le_of_ble_eq_true rfl) dX4_span_13 ⟨Nat.le_of_ble_eq_true rfl, Nat.le_of_ble_eq_true rfl⟩) (fun v13 e13 => ?_)
  refine lv_lsub hx hb dX4_span_16 ?_
  refine lv_topl (fun v16 e16 => ?_)
  have q16 : v16.toInt = rd fr e (1 + j) - rd fr e (1 + i) := by rw [e16, fb_subL (by rw [e5, e13, i64T, i64T]; unfold rd at r1 r2; omega) (by rw [e5, e13, i64T, i64T]; unfold rd at r1 r2; omega), e5, e13, i64T, i64T]; rfl
  refine lv_ldc2 (v := lN 1048576) hx hb hown (hts _ kw_X4_72) dX4_span_17 ?_
  refine lv_ladd hx hb dX4_span_20 ?_
  refine lv_topl (fun v20 e20 => ?_)
  have q20 : v20.toInt = rd fr e (1 + j) - rd fr e (1 + i) + 1048576 := by rw [e20, fb_addL (by rw [q16, lN_T (by decide)]; omega) (by rw [q16, lN_T (by decide)]; omega), q16, lN_T (by decide)]; rfl
  refine lv_ldc2 (v := lN 1048576) hx hb hown (hts _ kw_X4_72) dX4_span_21 ?_
  refine lv_lrem hx hb dX4_span_24 (by decide) ?_
  refine lv_topl (fun v24 e24 => ?_)
  exact eL (v := v24) hx hb hr hlocks (by rw [e24, remLN (by rw [q20]; omega) (by rw [lN_T (by decide)]; decide), q20, lN_T (by decide)]; unfold elp; exact Int.add_emod_right _ _) dX4_span_25
set_option maxHeartbeats 4000000 in
set_option maxRecDepth 100000 in
theorem m_first (l : Launch) (K : EK) (b : Nat → Nat) (sm th : Int32) (al : Nat → Int64) (kr : Nat) (fr : Nat → Int32) (h40 : kr ≤ 40) (hR : RecC al kr fr) (kn e : Nat) (hk6 : kn ≤ 6) (he : e < kr) (oe : rOk kn fr e) : Met l yX4_first (wq yX4_first cX4_first 2 (some .int)) (rmL 2 0 0) (va_Pc [.ref (b 0), .int (nI e)] (PR K [(b 0, .inr (6, [.ref (b 1), .ref (b 2), .int sm, .int th])), (b 1, .inl (K.2.2.1, 460, .inr (.inl (al))))])) (vp_Si (fun r => r = nI (ini fr e))) 0 0 NF := by
  refine hdR (by decide +kernel) (Nat.le_of_ble_eq_true rfl) ?_
  intro pp ee s mm bl9 me9 cd hx hb hr hlocks hml hown hts hE hP ls hl
  have hown : s.vm.findClass RX4 = some mm.cls := hown
  have hP : va_P K.1 vwCl [(b 0, .inr (6, [.ref (b 1), .ref (b 2), .int sm, .int th])), (b 1, .inl (K.2.2.1, 460, .inr (.inl (al))))] s.heap := hP
  have hl : lv_has ls 2 [(0, .ref (b 0)), (1, .int (nI e))] := hl
  refine lv_aload_n hx hb dX4_first_0 rfl (lv_at hl 0 rfl) ?_
  refine lv_iload_n hx hb dX4_first_1 rfl (lv_at hl 1 rfl) ?_
  refine lv_iconst (v := nI 0) hx hb dX4_first_2 (by decide) ?_
  refine goL (rdV (As := [.int (nI e), .int (nI 0)]) (rest := []) (m_inExchange l K b sm th al kr fr h40 hR e 0 he (by omega)) ⟨hx, hb, hml, hown, hts⟩ (gV kl_X4_107 ki_X4_inExchange ks_X4_inExchange kn_X4 kc_X4_inExchange) (by show okN yX4_inExchange 2; decide +kernel) ⟨⟨Nat.le_of_ble_eq_true rfl, Nat.le_of_ble_eq_true rfl⟩, rfl, rfl⟩ hE hP [0, 1] rfl ⟨0, 6, _, _, rfl, rfl, rfl⟩ hl.1 rfl (Nat.le_of_ble_eq_true rfl) dX4_first_3 ⟨Nat.le_of_ble_eq_true rfl, Nat.le_of_ble_eq_true rfl⟩) (fun v3 e3 => ?_)
  refine lv_l2i hx hb dX4_first_6 rfl ?_
  refine lv_topi (fun v6 e6 => ?_)
  exact eI (v := v6) hx hb hr hlocks (by rw [e6, e3, l2iI]; exact oe.1.1) dX4_first_7
set_option maxHeartbeats 4000000 in
set_option maxRecDepth 100000 in
theorem m_second (l : Launch) (K : EK) (b : Nat → Nat) (sm th : Int32) (al : Nat → Int64) (kr : Nat) (fr : Nat → Int32) (h40 : kr ≤ 40) (hR : RecC al kr fr) (kn e : Nat) (hk6 : kn ≤ 6) (he : e < kr) (oe : rOk kn fr e) : Met l yX4_second (wq yX4_second cX4_second 2 (some .int)) (rmL 2 0 0) (va_Pc [.ref (b 0), .int (nI e)] (PR K [(b 0, .inr (6, [.ref (b 1), .ref (b 2), .int sm, .int th])), (b 1, .inl (K.2.2.1, 460, .inr (.inl (al))))])) (vp_Si (fun r => r = nI (rsp fr e))) 0 0 NF := by
  refine hdR (by decide +kernel) (Nat.le_of_ble_eq_true rfl) ?_
  intro pp ee s mm bl9 me9 cd hx hb hr hlocks hml hown hts hE hP ls hl
  have hown : s.vm.findClass RX4 = some mm.cls := hown
  have hP : va_P K.1 vwCl [(b 0, .inr (6, [.ref (b 1), .ref (b 2), .int sm, .int th])), (b 1, .inl (K.2.2.1, 460, .inr (.inl (al))))] s.heap := hP
  have hl : lv_has ls 2 [(0, .ref (b 0)), (1, .int (nI e))] := hl
  refine lv_aload_n hx hb dX4_second_0 rfl (lv_at hl 0 rfl) ?_
  refine lv_iload_n hx hb dX4_second_1 rfl (lv_at hl 1 rfl) ?_
  refine lv_iconst (v := nI 1) hx hb dX4_second_2 (by decide) ?_
  refine goL (rdV (As := [.int (nI e), .int (nI 1)]) (rest := []) (m_inExchange l K b sm th al kr fr h40 hR e 1 he (by omega)) ⟨hx, hb, hml, hown, hts⟩ (gV kl_X4_107 ki_X4_inExchange ks_X4_inExchange kn_X4 kc_X4_inExchange) (by show okN yX4_inExchange 2; decide +kernel) ⟨⟨Nat.le_of_ble_eq_true rfl, Nat.le_of_ble_eq_true rfl⟩, rfl, rfl⟩ hE hP [0, 1] rfl ⟨0, 6, _, _, rfl, rfl, rfl⟩ hl.1 rfl (Nat.le_of_ble_eq_true rfl) dX4_second_3 ⟨Nat.le_of_ble_eq_true rfl, Nat.le_of_ble_eq_true rfl⟩) (fun v3 e3 => ?_)
  refine lv_l2i hx hb dX4_second_6 rfl ?_
  refine lv_topi (fun v6 e6 => ?_)
  exact eI (v := v6) hx hb hr hlocks (by rw [e6, e3, l2iI]; exact oe.2.1.1) dX4_second_7
set_option maxHeartbeats 4000000 in
set_option maxRecDepth 100000 in
theorem m_rawOf (l : Launch) (K : EK) (b : Nat → Nat) (sm th : Int32) (al : Nat → Int64) (kr : Nat) (fr : Nat → Int32) (h40 : kr ≤ 40) (hR : RecC al kr fr) (kn e m : Nat) (he : e < kr) (oe : rOk kn fr e) (hm : m < 3) : Met l yX4_rawOf (wq yX4_rawOf cX4_rawOf 13 (some .long)) (rmL 3 0 0) (va_Pc [.ref (b 0), .int (nI e), .int (nI m)] (PR K [(b 0, .inr (6, [.ref (b 1), .ref (b 2), .int sm, .int th])), (b 1, .inl (K.2.2.1, 460, .inr (.inl (al))))])) (vp_Sl (fun r => r.toInt = raw fr e m)) 0 0 NF := by
  refine hdR (by decide +kernel) (Nat.le_of_ble_eq_true rfl) ?_
  intro pp ee s mm bl9 me9 cd hx hb hr hlocks hml hown hts hE hP ls hl
  have hown : s.vm.findClass RX4 = some mm.cls := hown
  have hP : va_P K.1 vwCl [(b 0, .inr (6, [.ref (b 1), .ref (b 2), .int sm, .int th])), (b 1, .inl (K.2.2.1, 460, .inr (.inl (al))))] s.heap := hP
  have hl : lv_has ls 13 [(0, .ref (b 0)), (1, .int (nI e)), (2, .int (nI m))] := hl
  have r1 := elp_rng fr e 2 5
  have r2 := elp_rng fr e 3 4
  have r3 := elp_rng fr e 4 7
  have r4 := elp_rng fr e 5 6
  have p1 := mul_rng r1.1 r3.1 r1.2 r3.2
  have p2 := mul_rng r4.1 r2.1 r4.2 r2.2
  refine lv_aload_n hx hb dX4_rawOf_0 rfl (lv_at hl 0 rfl) ?_
  refine lv_iload_n hx hb dX4_rawOf_1 rfl (lv_at hl 1 rfl) ?_
  refine lv_iconst (v := nI 1) hx hb dX4_rawOf_2 (by decide) ?_
  refine lv_iconst (v := nI 4) hx hb dX4_rawOf_3 (by decide) ?_
  refine goL (rdV (As := [.int (nI e), .int (nI 1), .int (nI 4)]) (rest := []) (m_span l K b sm th al kr fr h40 hR kn e 1 4 he (by decide) (by decide) (by decide) (by decide) oe) ⟨hx, hb, hml, hown, hts⟩ (gV kl_X4_110 ki_X4_span ks_X4_span kn_X4 kc_X4_span) (by show okN yX4_span 3; decide +kernel) ⟨⟨Nat.le_of_ble_eq_true rfl, Nat.le_of_ble_eq_true rfl⟩, rfl, rfl⟩ hE hP [0, 1] rfl ⟨0, 6, _, _, rfl, rfl, rfl⟩ hl.1 rfl (Nat.le_of_ble_eq_true rfl) dX4_rawOf_4 ⟨Nat.le_of_ble_eq_true rfl, Nat.le_of_ble_eq_true rfl⟩) (fun v4 e4 => ?_)
  have e4 : v4.toInt = elp fr e 2 5 := e4
  refine lv_lstore_n (lv' := [(3, .long v4), (0, .ref (b 0)), (1, .int (nI e)), (2, .int (nI m))]) hx hb dX4_rawOf_7 rfl hl (by decide) rfl (fun ls hl => ?_)
  refine lv_aload_n hx hb dX4_rawOf_8 rfl (lv_at hl 1 rfl) ?_
  refine lv_iload_n hx hb dX4_rawOf_9 rfl (lv_at hl 2 rfl) ?_
  refine lv_iconst (v := nI 2) hx hb dX4_rawOf_10 (by decide) ?_
  refine lv_iconst (v := nI 3) hx hb dX4_rawOf_11 (by decide) ?_
  refine goL (rdV (As := [.int (nI e), .int (nI 2), .int (nI 3)]) (rest := []) (m_span l K b sm th al kr fr h40 hR kn e 2 3 he (by decide) (by decide) (by decide) (by decide) oe) ⟨hx, hb, hml, hown, hts⟩ (gV kl_X4_110 ki_X4_span ks_X4_span kn_X4 kc_X4_span) (by show okN yX4_span 3; decide +kernel) ⟨⟨Nat.le_of_ble_eq_true rfl, Nat.le_of_ble_eq_true rfl⟩, rfl, rfl⟩ hE hP [0, 1] rfl ⟨0, 6, _, _, rfl, rfl, rfl⟩ hl.1 rfl (Nat.le_of_ble_eq_true rfl) dX4_rawOf_12 ⟨Nat.le_of_ble_eq_true rfl, Nat.le_of_ble_eq_true rfl⟩) (fun v12 e12 => ?_)
  have e12 : v12.toInt = elp fr e 3 4 := e12
  refine lv_lstore (lv' := [(5, .long v12), (3, .long v4), (0, .ref (b 0)), (1, .int (nI e)), (2, .int (nI m))]) hx hb dX4_rawOf_15 hl (by decide) rfl (fun ls hl => ?_)
  refine lv_aload_n hx hb dX4_rawOf_17 rfl (lv_at hl 2 rfl) ?_
  refine lv_iload_n hx hb dX4_rawOf_18 rfl (lv_at hl 3 rfl) ?_
  refine lv_iconst (v := nI 3) hx hb dX4_rawOf_19 (by decide) ?_
  refine lv_bipush (v := nI 6) hx hb dX4_rawOf_20 (by decide) ?_
  refine goL (rdV (As := [.int (nI e), .int (nI 3), .int (nI 6)]) (rest := []) (m_span l K b sm th al kr fr h40 hR kn e 3 6 he (by decide) (by decide) (by decide) (by decide) oe) ⟨hx, hb, hml, hown, hts⟩ (gV kl_X4_110 ki_X4_span ks_X4_span kn_X4 kc_X4_span) (by show okN yX4_span 3; decide +kernel) ⟨⟨Nat.le_of_ble_eq_true rfl, Nat.le_of_ble_eq_true rfl⟩, rfl, rfl⟩ hE hP [0, 1] rfl ⟨0, 6, _, _, rfl, rfl, rfl⟩ hl.1 rfl (Nat.le_of_ble_eq_true rfl) dX4_rawOf_22 ⟨Nat.le_of_ble_eq_true rfl, Nat.le_of_ble_eq_true rfl⟩) (fun v22 e22 => ?_)
  have e22 : v22.toInt = elp fr e 4 7 := e22
  refine lv_lstore (lv' := [(7, .long v22), (5, .long v12), (3, .long v4), (0, .ref (b 0)), (1, .int (nI e)), (2, .int (nI m))]) hx hb dX4_rawOf_25 hl (by decide) rfl (fun ls hl => ?_)
  refine lv_aload_n hx hb dX4_rawOf_27 rfl (lv_at hl 3 rfl) ?_
  refine lv_iload_n hx hb dX4_rawOf_28 rfl (lv_at hl 4 rfl) ?_
  refine lv_iconst (v := nI 4) hx hb dX4_rawOf_29 (by decide) ?_
  refine lv_iconst (v := nI 5) hx hb dX4_rawOf_30 (by decide) ?_
  refine goL (rdV (As := [.int (nI e), .int (nI 4), .int (nI 5)]) (rest := []) (m_span l K b sm th al kr fr h40 hR kn e 4 5 he (by decide) (by decide) (by decide) (by decide) oe) ⟨hx, hb, hml, hown, hts⟩ (gV kl_X4_110 ki_X4_span ks_X4_span kn_X4 kc_X4_span) (by show okN yX4_span 3; decide +kernel) ⟨⟨Nat.le_of_ble_eq_true rfl, Nat.le_of_ble_eq_true rfl⟩, rfl, rfl⟩ hE hP [0, 1] rfl ⟨0, 6, _, _, rfl, rfl, rfl⟩ hl.1 rfl (Nat.le_of_ble_eq_true rfl) dX4_rawOf_31 ⟨Nat.le_of_ble_eq_true rfl, Nat.le_of_ble_eq_true rfl⟩) (fun v31 e31 => ?_)
  have e31 : v31.toInt = elp fr e 5 6 := e31
  refine lv_lstore (lv' := [(9, .long v31), (7, .long v22), (5, .long v12), (3, .long v4), (0, .ref (b 0)), (1, .int (nI e)), (2, .int (nI m))]) hx hb dX4_rawOf_34 hl (by decide) rfl (fun ls hl => ?_)
  refine lv_iload_n hx hb dX4_rawOf_36 rfl (lv_at hl 6 rfl) ?_
  refine lv_if_ne (tgt := 51) hx hb dX4_rawOf_37 (by decide) (fun c37 => ?_) (fun c37 => ?_)
  · have c37 := mt (nI_z (n := m) (by omega)).mpr c37
    refine lv_iload_n hx hb dX4_rawOf_51 rfl (lv_at hl 6 rfl) ?_
    refine lv_iconst (v := nI 1) hx hb dX4_rawOf_52 (by decide) ?_
    refine lv_icmp_ne (tgt := 73) hx hb dX4_rawOf_53 (by decide) (fun c53 => ?_) (fun c53 => ?_)
    · have c53 := mt (nI_eq (a := m) (b := 1) (by omega) (by omega)).mpr c53
      refine lv_lload_n hx hb dX4_rawOf_73 rfl (lv_at hl 3 rfl) ?_
      refine lv_lload hx hb dX4_rawOf_74 (lv_at hl 1 rfl) ?_
      refine lv_ladd hx hb dX4_rawOf_76 ?_
      refine lv_topl (fun v76 e76 => ?_)
      have q76 : v76.toInt = elp fr e 2 5 + elp fr e 4 7 := by rw [e76, fb_addL (by rw [e4, e22]; omega) (by rw [e4, e22]; omega), e4, e22]
      refine lv_lload hx hb dX4_rawOf_77 (lv_at hl 0 rfl) ?_
      refine lv_ladd hx hb dX4_rawOf_79 ?_
      refine lv_topl (fun v79 e79 => ?_)
      have q79 : v79.toInt = elp fr e 2 5 + elp fr e 4 7 + elp fr e 5 6 := by rw [e79, fb_addL (by rw [q76, e31]; omega) (by rw [q76, e31]; omega), q76, e31]
      refine lv_lload hx hb dX4_rawOf_80 (lv_at hl 2 rfl) ?_
      refine lv_ladd hx hb dX4_rawOf_82 ?_
      refine lv_topl (fun v82 e82 => ?_)
      have q82 : v82.toInt = elp fr e 2 5 + elp fr e 4 7 + elp fr e 5 6 + elp fr e 3 4 := by rw [e82, fb_addL (by rw [q79, e12]; omega) (by rw [q79, e12]; omega), q79, e12]
      refine lv_lstore (lv' := [(11, .long v82), (9, .long v31), (7, .long v22), (5, .long v12), (3, .long v4), (0, .ref (b 0)), (1, .int (nI e)), (2, .int (nI m))]) hx hb dX4_rawOf_83 hl (by decide) rfl (fun ls hl => ?_)
      refine lv_lload hx hb dX4_rawOf_85 (lv_at hl 0 rfl) ?_
      refine lv_lconst (v := lN 0) hx hb dX4_rawOf_87 (by decide) ?_
      refine W.lcmp hx hb dX4_rawOf_88 ?_
      refine lv_if_ne (tgt := 96) hx hb dX4_rawOf_89 (by decide) (fun c89 => ?_) (fun c89 => ?_)
      · have c89 := fun q => c89 ((lg_cmp_eq _ _).mpr q)
        have hz9 : ¬ elp fr e 2 5 + elp fr e 4 7 + elp fr e 5 6 + elp fr e 3 4 = 0 := fun g => c89 (eqL (by rw [q82, g]; decide))
        refine lv_lload_n hx hb dX4_rawOf_96 rfl (lv_at hl 4 rfl) ?_
        refine lv_lload hx hb dX4_rawOf_97 (lv_at hl 2 rfl) ?_
        refine lv_lmul hx hb dX4_rawOf_99 ?_
        refine lv_topl (fun v99 e99 => ?_)
        have q99 : v99.toInt = elp fr e 2 5 * elp fr e 4 7 := by rw [e99, fb_mulL (by rw [e4, e22]; omega) (by rw [e4, e22]; omega), e4, e22]
        refine lv_lload hx hb dX4_rawOf_100 (lv_at hl 1 rfl) ?_
        refine lv_lload hx hb dX4_rawOf_102 (lv_at hl 3 rfl) ?_
        refine lv_lmul hx hb dX4_rawOf_104 ?_
        refine lv_topl (fun v104 e104 => ?_)
        have q104 : v104.toInt = elp fr e 5 6 * elp fr e 3 4 := by rw [e104, fb_mulL (by rw [e31, e12]; omega) (by rw [e31, e12]; omega), e31, e12]
        refine lv_lsub hx hb dX4_rawOf_105 ?_
        refine lv_topl (fun v105 e105 => ?_)
        have q105 : v105.toInt = elp fr e 2 5 * elp fr e 4 7 - elp fr e 5 6 * elp fr e 3 4 := by rw [e105, fb_subL (by rw [q99, q104]; omega) (by rw [q99, q104]; omega), q99, q104]
        refine lv_lload hx hb dX4_rawOf_106 (lv_at hl 0 rfl) ?_
        refine goL (rdS (As := [.long v105, .long v82]) (rest := []) (m_floor l K v105 v82 (by rw [q105]; omega) (by rw [q82]; exact hz9)) ⟨hx, hb, hml, hown, hts⟩ (gS kl_X4_114 kt_X4_floor kn_X4 kc_X4_floor) (by show okN yX4_floor 2; decide +kernel) ⟨⟨Nat.le_of_ble_eq_true rfl, Nat.le_of_ble_eq_true rfl⟩, rfl, rfl⟩ hE hP [] rfl hl.1 rfl (Nat.le_of_ble_eq_true rfl) dX4_rawOf_108 ⟨Nat.le_of_ble_eq_true rfl, Nat.le_of_ble_eq_true rfl⟩) (fun v108 e108 => ?_)
        exact eL (v := v108) hx hb hr hlocks (by rw [e108, Int.fdiv_eq_ediv_of_nonneg _ (by omega), q105, q82, raw, if_neg c37, if_neg c53, if_neg hz9]) dX4_rawOf_111
      · have c89 := (lg_cmp_eq _ _).mp c89
        refine lv_lconst (v := lN 0) hx hb dX4_rawOf_92 (by decide) ?_
        refine lv_goto (tgt := 111) hx hb dX4_rawOf_93 (by decide) ?_
        exact eL (v := lN 0) hx hb hr hlocks (by rw [raw, if_neg c37, if_neg c53, if_pos (by rw [← q82, c89]; decide)]; decide) dX4_rawOf_111
    · have c53 := (nI_eq (a := m) (b := 1) (by omega) (by omega)).mp c53
      refine lv_lload_n hx hb dX4_rawOf_56 rfl (lv_at hl 3 rfl) ?_
      refine lv_lload hx hb dX4_rawOf_57 (lv_at hl 2 rfl) ?_
      refine lv_lsub hx hb dX4_rawOf_59 ?_
      refine lv_topl (fun v59 e59 => ?_)
      have q59 : v59.toInt = elp fr e 2 5 - elp fr e 3 4 := by rw [e59, fb_subL (by rw [e4, e12]; omega) (by rw [e4, e12]; omega), e4, e12]
      refine lv_lload hx hb dX4_rawOf_60 (lv_at hl 1 rfl) ?_
      refine lv_ladd hx hb dX4_rawOf_62 ?_
      refine lv_topl (fun v62 e62 => ?_)
      have q62 : v62.toInt = elp fr e 2 5 - elp fr e 3 4 + elp fr e 4 7 := by rw [e62, fb_addL (by rw [q59, e22]; omega) (by rw [q59, e22]; omega), q59, e22]
      refine lv_lload hx hb dX4_rawOf_63 (lv_at hl 0 rfl) ?_
      refine lv_lsub hx hb dX4_rawOf_65 ?_
      refine lv_topl (fun v65 e65 => ?_)
      have q65 : v65.toInt = elp fr e 2 5 - elp fr e 3 4 + elp fr e 4 7 - elp fr e 5 6 := by rw [e65, fb_subL (by rw [q62, e31]; omega) (by rw [q62, e31]; omega), q62, e31]
      refine lv_ldc2 (v := lN 4) hx hb hown (hts _ kw_X4_117) dX4_rawOf_66 ?_
      refine goL (rdS (As := [.long v65, .long (lN 4)]) (rest := []) (m_floor l K v65 (lN 4) (by rw [q65]; omega) (by rw [lN_T (by decide)]; decide)) ⟨hx, hb, hml, hown, hts⟩ (gS kl_X4_114 kt_X4_floor kn_X4 kc_X4_floor) (by show okN yX4_floor 2; decide +kernel) ⟨⟨Nat.le_of_ble_eq_true rfl, Nat.le_of_ble_eq_true rfl⟩, rfl, rfl⟩ hE hP [] rfl hl.1 rfl (Nat.le_of_ble_eq_true rfl) dX4_rawOf_69 ⟨Nat.le_of_ble_eq_true rfl, Nat.le_of_ble_eq_true rfl⟩) (fun v69 e69 => ?_)
      exact eL (v := v69) hx hb hr hlocks (by rw [e69, Int.fdiv_eq_ediv_of_nonneg _ (by rw [lN_T (by decide)]; decide), q65, lN_T (by decide), raw, if_neg c37, if_pos c53]; rfl) dX4_rawOf_72
  · have c37 := (nI_z (n := m) (by omega)).mp c37
    refine lv_lload_n hx hb dX4_rawOf_40 rfl (lv_at hl 3 rfl) ?_
    refine lv_lload hx hb dX4_rawOf_41 (lv_at hl 2 rfl) ?_
    refine lv_lsub hx hb dX4_rawOf_43 ?_
    refine lv_topl (fun v43 e43 => ?_)
    have q43 : v43.toInt = elp fr e 2 5 - elp fr e 3 4 := by rw [e43, fb_subL (by rw [e4, e12]; omega) (by rw [e4, e12]; omega), e4, e12]
    refine lv_ldc2 (v := lN 2) hx hb hown (hts _ kw_X4_54) dX4_rawOf_44 ?_
    refine goL (rdS (As := [.long v43, .long (lN 2)]) (rest := []) (m_floor l K v43 (lN 2) (by rw [q43]; omega) (by rw [lN_T (by decide)]; decide)) ⟨hx, hb, hml, hown, hts⟩ (gS kl_X4_114 kt_X4_floor kn_X4 kc_X4_floor) (by show okN yX4_floor 2; decide +kernel) ⟨⟨Nat.le_of_ble_eq_true rfl, Nat.le_of_ble_eq_true rfl⟩, rfl, rfl⟩ hE hP [] rfl hl.1 rfl (Nat.le_of_ble_eq_true rfl) dX4_rawOf_47 ⟨Nat.le_of_ble_eq_true rfl, Nat.le_of_ble_eq_true rfl⟩) (fun v47 e47 => ?_)
    exact eL (v := v47) hx hb hr hlocks (by rw [e47, Int.fdiv_eq_ediv_of_nonneg _ (by rw [lN_T (by decide)]; decide), q43, lN_T (by decide), raw, if_pos c37]; rfl) dX4_rawOf_50
set_option maxHeartbeats 4000000 in
set_option maxRecDepth 100000 in
theorem m_rangeOf (l : Launch) (K : EK) (b : Nat → Nat) (sm th : Int32) (al : Nat → Int64) (kn : Nat) (fn : Nat → Int32) (h6 : kn ≤ 6) (hN : NodC al kn fn) (kr : Nat) (fr : Nat → Int32) (h40 : kr ≤ 40) (hR : RecC al kr fr) (hn : ∀ i, i < kn → nOk fn i) (e m : Nat) (he : e < kr) (oe : rOk kn fr e) (hm : m < 3) : Met l yX4_rangeOf (wq yX4_rangeOf cX4_rangeOf 3 (some .long)) (rmL 4 0 0) (va_Pc [.ref (b 0), .int (nI e), .int (nI m)] (PR K [(b 0, .inr (6, [.ref (b 1), .ref (b 2), .int sm, .int th])), (b 1, .inl (K.2.2.1, 460, .inr (.inl (al))))])) (vp_Sl (fun r => r.toInt = rng fn fr e m)) 0 0 NF := by
  refine hdR (by decide +kernel) (Nat.le_of_ble_eq_true rfl) ?_
  intro pp ee s mm bl9 me9 cd hx hb hr hlocks hml hown hts hE hP ls hl
  have hown : s.vm.findClass RX4 = some mm.cls := hown
  have hP : va_P K.1 vwCl [(b 0, .inr (6, [.ref (b 1), .ref (b 2), .int sm, .int th])), (b 1, .inl (K.2.2.1, 460, .inr (.inl (al))))] s.heap := hP
  have hl : lv_has ls 3 [(0, .ref (b 0)), (1, .int (nI e)), (2, .int (nI m))] := hl
  have r1 := raw_rng fr e m
  have r2 := (hn _ oe.1.2).2.2.2.2.2
  have r3 := (hn _ oe.2.1.2).2.2.2.2.2
  refine lv_aload_n hx hb dX4_rangeOf_0 rfl (lv_at hl 0 rfl) ?_
  refine lv_iload_n hx hb dX4_rangeOf_1 rfl (lv_at hl 1 rfl) ?_
  refine lv_iload_n hx hb dX4_rangeOf_2 rfl (lv_at hl 2 rfl) ?_
  refine goL (rdV (As := [.int (nI e), .int (nI m)]) (rest := []) (m_rawOf l K b sm th al kr fr h40 hR kn e m he oe hm) ⟨hx, hb, hml, hown, hts⟩ (gV kl_X4_119 ki_X4_rawOf ks_X4_rawOf kn_X4 kc_X4_rawOf) (by show okN yX4_rawOf 2; decide +kernel) ⟨⟨Nat.le_of_ble_eq_true rfl, Nat.le_of_ble_eq_true rfl⟩, rfl, rfl⟩ hE hP [0, 1] rfl ⟨0, 6, _, _, rfl, rfl, rfl⟩ hl.1 rfl (Nat.le_of_ble_eq_true rfl) dX4_rangeOf_3 ⟨Nat.le_of_ble_eq_true rfl, Nat.le_of_ble_eq_true rfl⟩) (fun v3 e3 => ?_)
  refine lv_aload_n hx hb dX4_rangeOf_6 rfl (lv_at hl 0 rfl) ?_
  refine lv_aload_n hx hb dX4_rangeOf_7 rfl (lv_at hl 0 rfl) ?_
  refine lv_iload_n hx hb dX4_rangeOf_8 rfl (lv_at hl 1 rfl) ?_
  refine goI (rdV (As := [.int (nI e)]) (rest := [.ref (b 0), .long v3]) (m_first l K b sm th al kr fr h40 hR kn e (by omega) he oe) ⟨hx, hb, hml, hown, hts⟩ (gV kl_X4_122 ki_X4_first ks_X4_first kn_X4 kc_X4_first) (by show okN yX4_first 1; decide +kernel) ⟨⟨Nat.le_of_ble_eq_true rfl, Nat.le_of_ble_eq_true rfl⟩, rfl, rfl⟩ hE hP [0, 1] rfl ⟨0, 6, _, _, rfl, rfl, rfl⟩ hl.1 rfl (Nat.le_of_ble_eq_true rfl) dX4_rangeOf_9 ⟨Nat.le_of_ble_eq_true rfl, Nat.le_of_ble_eq_true rfl⟩) (fun v9 e9 => ?_)
  rw [e9]
  refine lv_iconst (v := nI 5) hx hb dX4_rangeOf_12 (by decide) ?_
  refine goL (rdV (As := [.int (nI (ini fr e)), .int (nI 5)]) (rest := [.long v3]) (m_of l K b sm th al kn fn h6 hN (ini fr e) 5 oe.1.2 (by decide)) ⟨hx, hb, hml, hown, hts⟩ (gV kl_X4_56 ki_X4_of ks_X4_of kn_X4 kc_X4_of) (by show okN yX4_of 2; decide +kernel) ⟨⟨Nat.le_of_ble_eq_true rfl, Nat.le_of_ble_eq_true rfl⟩, rfl, rfl⟩ hE hP [0, 1] rfl ⟨0, 6, _, _, rfl, rfl, rfl⟩ hl.1 rfl (Nat.le_of_ble_eq_true rfl) dX4_rangeOf_13 ⟨Nat.le_of_ble_eq_true rfl, Nat.le_of_ble_eq_true rfl⟩) (fun v13 e13 => ?_)
  refine lv_lsub hx hb dX4_rangeOf_16 ?_
  refine lv_topl (fun v16 e16 => ?_)
  have q16 : v16.toInt = raw fr e m - nd fn (ini fr e) 5 := by rw [e16, fb_subL (by rw [e3, e13, i64T]; unfold nd at r2; omega) (by rw [e3, e13, i64T]; unfold nd at r2; omega), e3, e13, i64T]; rfl
  refine lv_aload_n hx hb dX4_rangeOf_17 rfl (lv_at hl 0 rfl) ?_
  refine lv_aload_n hx hb dX4_rangeOf_18 rfl (lv_at hl 0 rfl) ?_
  refine lv_iload_n hx hb dX4_rangeOf_19 rfl (lv_at hl 1 rfl) ?_
  refine goI (rdV (As := [.int (nI e)]) (rest := [.ref (b 0), .long v16]) (m_second l K b sm th al kr fr h40 hR kn e (by omega) he oe) ⟨hx, hb, hml, hown, hts⟩ (gV kl_X4_125 ki_X4_second ks_X4_second kn_X4 kc_X4_second) (by show okN yX4_second 1; decide +kernel) ⟨⟨Nat.le_of_ble_eq_true rfl, Nat.le_of_ble_eq_true rfl⟩, rfl, rfl⟩ hE hP [0, 1] rfl ⟨0, 6, _, _, rfl, rfl, rfl⟩ hl.1 rfl (Nat.le_of_ble_eq_true rfl) dX4_rangeOf_20 ⟨Nat.le_of_ble_eq_true rfl, Nat.le_of_ble_eq_true rfl⟩) (fun v20 e20 => ?_)
  rw [e20]
  refine lv_iconst (v := nI 5) hx hb dX4_rangeOf_23 (by decide) ?_
  refine goL (rdV (As := [.int (nI (rsp fr e)), .int (nI 5)]) (rest := [.long v16]) (m_of l K b sm th al kn fn h6 hN (rsp fr e) 5 oe.2.1.2 (by decide)) ⟨hx, hb, hml, hown, hts⟩ (gV kl_X4_56 ki_X4_of ks_X4_of kn_X4 kc_X4_of) (by show okN yX4_of 2; decide +kernel) ⟨⟨Nat.le_of_ble_eq_true rfl, Nat.le_of_ble_eq_true rfl⟩, rfl, rfl⟩ hE hP [0, 1] rfl ⟨0, 6, _, _, rfl, rfl, rfl⟩ hl.1 rfl (Nat.le_of_ble_eq_true rfl) dX4_rangeOf_24 ⟨Nat.le_of_ble_eq_true rfl, Nat.le_of_ble_eq_true rfl⟩) (fun v24 e24 => ?_)
  refine lv_lsub hx hb dX4_rangeOf_27 ?_
  refine lv_topl (fun v27 e27 => ?_)
  have q27 : v27.toInt = rng fn fr e m := by rw [e27, fb_subL (by rw [q16, e24, i64T]; unfold nd at r2 r3 ⊢; omega) (by rw [q16, e24, i64T]; unfold nd at r2 r3 ⊢; omega), q16, e24, i64T]; rfl
  exact eL (v := v27) hx hb hr hlocks (q27) dX4_rangeOf_28
def btI (fr : Nat → Int32) (p q : Int32) (j : Nat) : Prop := (nI (ini fr j) = p ∧ nI (rsp fr j) = q) ∨ (nI (ini fr j) = q ∧ nI (rsp fr j) = p)
def latI (fr : Nat → Int32) (p q : Int32) (n : Nat) (x : Int32) : Prop := (x = -1 ∧ ∀ j, j < n → ¬ btI fr p q j) ∨ ∃ e, x = nI e ∧ e < n ∧ btI fr p q e ∧ ∀ j, e < j → j < n → ¬ btI fr p q j
theorem latI_take {fr : Nat → Int32} {p q : Int32} {n : Nat} (h : btI fr p q n) : latI fr p q (n + 1) (nI n) := Or.inr ⟨n, rfl, Nat.lt_succ_self n, h, fun j h1 h2 => by omega⟩
theorem latI_skip {fr : Nat → Int32} {p q x : Int32} {n : Nat} (h : latI fr p q n x) (g : ¬ btI fr p q n) : latI fr p q (n + 1) x := by
  have key : ∀ j, j < n + 1 → j < n ∨ j = n := fun j hj => by omega
  rcases h with ⟨h1, h2⟩ | ⟨e, h1, h2, h3, h4⟩
  · refine Or.inl ⟨h1, fun j hj => ?_⟩
    rcases key j hj with q | rfl
    · exact h2 j q
    · exact g
  · refine Or.inr ⟨e, h1, by omega, h3, fun j hj hj2 => ?_⟩
    rcases key j hj2 with q | rfl
    · exact h4 j hj q
    · exact g
theorem btI_iff {kn i j e : Nat} {fr : Nat → Int32} (hk : kn ≤ 6) (hi : i < 2 ^ 31) (hj : j < 2 ^ 31) (oe : rOk kn fr e) : btI fr (nI i) (nI j) e ↔ btw fr i j e := by
  have a := oe.1.2
  have b := oe.2.1.2
  unfold btI btw
  rw [nI_eq (by omega) hi, nI_eq (by omega) hj, nI_eq (by omega) hj, nI_eq (by omega) hi]
theorem latI_nat {kn i j n : Nat} {fr : Nat → Int32} {x : Int32} (hk : kn ≤ 6) (hi : i < 2 ^ 31) (hj : j < 2 ^ 31) (hrs : ∀ e, e < n → rOk kn fr e) (h : latI fr (nI i) (nI j) n x) : (x = -1 ∧ noLat fr i j n) ∨ ∃ e, x = nI e ∧ isLat fr i j n e := by
  rcases h with ⟨h1, h2⟩ | ⟨e, h1, h2, h3, h4⟩
  · exact Or.inl ⟨h1, fun e he => fun g => h2 e he ((btI_iff hk hi hj (hrs e he)).mpr g)⟩
  · exact Or.inr ⟨e, h1, h2, (btI_iff hk hi hj (hrs e h2)).mp h3, fun e2 g1 g2 g3 => h4 e2 g1 g2 ((btI_iff hk hi hj (hrs e2 g2)).mpr g3)⟩
theorem latI_is {kn i j n e : Nat} {fr : Nat → Int32} {x : Int32} (hk : kn ≤ 6) (hi : i < 2 ^ 31) (hj : j < 2 ^ 31) (hrs : ∀ e, e < n → rOk kn fr e) (h : latI fr (nI i) (nI j) n x) (g : isLat fr i j n e) : x = nI e := by
  rcases latI_nat hk hi hj hrs h with ⟨-, q⟩ | ⟨f, h1, h2⟩
  · exact absurd g.2.1 (q e g.1)
  · rw [h1, lat_one h2 g]
set_option maxHeartbeats 4000000 in
set_option maxRecDepth 100000 in
theorem m_latestOf (l : Launch) (K : EK) (b : Nat → Nat) (sm th : Int32) (al : Nat → Int64) (kr : Nat) (fr : Nat → Int32) (h40 : kr ≤ 40) (hR : RecC al kr fr) (kn : Nat) (hk6 : kn ≤ 6) (h38 : al 38 = lN kr) (hrs : ∀ e, e < kr → rOk kn fr e) (p q : Int32) : Met l yX4_latestOf (wq yX4_latestOf cX4_latestOf 5 (some .int)) (rmL 3 0 0) (va_Pc [.ref (b 0), .int p, .int q] (PR K [(b 0, .inr (6, [.ref (b 1), .ref (b 2), .int sm, .int th])), (b 1, .inl (K.2.2.1, 460, .inr (.inl (al))))])) (vp_Si (fun r => latI fr p q kr r)) 0 0 NF := by
  refine hdR (by decide +kernel) (Nat.le_of_ble_eq_true rfl) ?_
  intro pp ee s mm bl9 me9 cd hx hb hr hlocks hml hown hts hE hP ls hl
  have hown : s.vm.findClass RX4 = some mm.cls := hown
  have hP : va_P K.1 vwCl [(b 0, .inr (6, [.ref (b 1), .ref (b 2), .int sm, .int th])), (b 1, .inl (K.2.2.1, 460, .inr (.inl (al))))] s.heap := hP
  have hl : lv_has ls 5 [(0, .ref (b 0)), (1, .int p), (2, .int q)] := hl
  refine lv_iconst (v := -1) hx hb dX4_latestOf_0 (by decide) ?_
  refine lv_istore_n (lv' := [(3, .int (-1)), (0, .ref (b 0)), (1, .int p), (2, .int q)]) hx hb dX4_latestOf_1 rfl hl (by decide) rfl (fun ls hl => ?_)
  refine lv_iconst (v := nI 0) hx hb dX4_latestOf_2 (by decide) ?_
  refine lv_istore (lv' := [(4, .int (nI 0)), (3, .int (-1)), (0, .ref (b 0)), (1, .int p), (2, .int q)]) hx hb dX4_latestOf_3 hl (by decide) rfl (fun ls hl => ?_)
  refine lpR (α := Nat × Int32) (fun (x9 : Nat × Int32) => latI fr p q x9.1 x9.2 ∧ x9.1 ≤ kr) (fun (x9 : Nat × Int32) => kr - x9.1) (fun (x9 : Nat × Int32) => [(0, .ref (b 0)), (1, .int p), (2, .int q), (3, .int x9.2), (4, .int (nI x9.1))]) 5 5 (fun x9 hI5 ih5 ls hl => ?_) (0, -1) (⟨Or.inl ⟨rfl, fun j hj => absurd hj (Nat.not_lt_zero _)⟩, Nat.zero_le _⟩) ls (lv_sub hl [2, 3, 4, 1, 0] rfl)
  obtain ⟨z, x3⟩ := x9
  have hI5 : latI fr p q z x3 ∧ z ≤ kr := hI5
  have hl : lv_has ls 5 [(0, .ref (b 0)), (1, .int p), (2, .int q), (3, .int x3), (4, .int (nI z))] := hl
  refine lv_iload hx hb dX4_latestOf_5 (lv_at hl 4 rfl) ?_
  refine lv_i2l hx hb dX4_latestOf_7 (nI_l (by omega)) ?_
  refine lv_aload_n hx hb dX4_latestOf_8 rfl (lv_at hl 0 rfl) ?_
  refine va_get (D := K.1) (ci := 6) (v := .ref (b 1)) (C := RX4) (T := TX4) (N := 4) hx hb hts inX4 hown hE.1 hP 0 rfl rfl 0 (by decide) (hts _ kf_X4_7) (fun _ h9 => h9) rfl dX4_latestOf_9 ?_
  refine lv_bipush (v := nI 38) hx hb dX4_latestOf_12 (by decide) ?_
  have i14 : nI 38 = nI 38 := rfl
  have j14 : 38 < 460 := by omega
  refine va_lald hx hb hE.1 hP 1 1 rfl rfl (by rw [i14]; exact vp_in_nI j14 (by omega)) dX4_latestOf_14 ?_
  rw [i14, nI_clamp (by omega)]
  refine lv_topl (fun v14 e14 => ?_)
  rw [e14, h38]
  refine W.lcmp hx hb dX4_latestOf_15 ?_
  refine lv_if_ge (tgt := 72) hx hb dX4_latestOf_16 (by decide) (fun c16 => ?_) (fun c16 => ?_)
  · have c16 := (lg_cmp_ge _ _).mp c16
    have c16 := (pk_lLE (a := kr) (b := z) (by omega) (by omega)).mp c16
    refine lv_iload_n hx hb dX4_latestOf_72 rfl (lv_at hl 3 rfl) ?_
    exact eI (v := x3) hx hb hr hlocks (by rw [show kr = z by omega]; exact hI5.1) dX4_latestOf_73
  · have c16 := fun q => c16 ((lg_cmp_ge _ _).mpr q)
    have c16 := mt (pk_lLE (a := kr) (b := z) (by omega) (by omega)).mpr c16
    refine lv_aload_n hx hb dX4_latestOf_19 rfl (lv_at hl 0 rfl) ?_
    refine lv_iload hx hb dX4_latestOf_20 (lv_at hl 4 rfl) ?_
    refine goI (rdV (As := [.int (nI z)]) (rest := []) (m_first l K b sm th al kr fr h40 hR kn z (by omega) (by omega) (hrs _ (by omega))) ⟨hx, hb, hml, hown, hts⟩ (gV kl_X4_122 ki_X4_first ks_X4_first kn_X4 kc_X4_first) (by show okN yX4_first 1; decide +kernel) ⟨⟨Nat.le_of_ble_eq_true rfl, Nat.le_of_ble_eq_true rfl⟩, rfl, rfl⟩ hE hP [0, 1] rfl ⟨0, 6, _, _, rfl, rfl, rfl⟩ hl.1 rfl (Nat.le_of_ble_eq_true rfl) dX4_latestOf_22 ⟨Nat.le_of_ble_eq_true rfl, Nat.le_of_ble_eq_true rfl⟩) (fun v22 e22 => ?_)
    rw [e22]
    refine lv_iload_n hx hb dX4_latestOf_25 rfl (lv_at hl 1 rfl) ?_
    refine lv_icmp_ne (tgt := 39) hx hb dX4_latestOf_26 (by decide) (fun c26 => ?_) (fun c26 => ?_)
    · refine lv_aload_n hx hb dX4_latestOf_39 rfl (lv_at hl 0 rfl) ?_
      refine lv_iload hx hb dX4_latestOf_40 (lv_at hl 4 rfl) ?_
      refine goI (rdV (As := [.int (nI z)]) (rest := []) (m_first l K b sm th al kr fr h40 hR kn z (by omega) (by omega) (hrs _ (by omega))) ⟨hx, hb, hml, hown, hts⟩ (gV kl_X4_122 ki_X4_first ks_X4_first kn_X4 kc_X4_first) (by show okN yX4_first 1; decide +kernel) ⟨⟨Nat.le_of_ble_eq_true rfl, Nat.le_of_ble_eq_true rfl⟩, rfl, rfl⟩ hE hP [0, 1] rfl ⟨0, 6, _, _, rfl, rfl, rfl⟩ hl.1 rfl (Nat.le_of_ble_eq_true rfl) dX4_latestOf_42 ⟨Nat.le_of_ble_eq_true rfl, Nat.le_of_ble_eq_true rfl⟩) (fun v42 e42 => ?_)
      rw [e42]
      refine lv_iload_n hx hb dX4_latestOf_45 rfl (lv_at hl 2 rfl) ?_
      refine lv_icmp_ne (tgt := 64) hx hb dX4_latestOf_46 (by decide) (fun c46 => ?_) (fun c46 => ?_)
      · refine lv_iload_n hx hb dX4_latestOf_64 rfl (lv_at hl 3 rfl) ?_
        refine lv_istore_n (lv' := [(3, .int x3), (0, .ref (b 0)), (1, .int p), (2, .int q), (4, .int (nI z))]) hx hb dX4_latestOf_65 rfl hl (by decide) rfl (fun ls hl => ?_)
        refine lv_iinc (v := nI (z + 1)) (lv' := [(4, .int (nI (z + 1))), (3, .int x3), (0, .ref (b 0)), (1, .int p), (2, .int q)]) hx hb dX4_latestOf_66 hl (k := 4) rfl (nI_add z 1) (by decide) rfl (fun ls hl => ?_)
        refine lv_goto (tgt := 5) hx hb dX4_latestOf_69 (by decide) ?_
        have hB5 : latI fr p q (z + 1) x3 ∧ (z + 1) ≤ kr := ⟨latI_skip hI5.1 (by unfold btI; rintro (⟨g1, g2⟩ | ⟨g1, g2⟩) <;> first | exact c26 g1 | exact c36 g2 | exact c46 g1 | exact c56 g2), by omega⟩
        exact ih5 (z + 1, x3) (hB5) (by omega) ls (lv_sub hl [2, 3, 4, 1, 0] rfl)
      · refine lv_aload_n hx hb dX4_latestOf_49 rfl (lv_at hl 0 rfl) ?_
        refine lv_iload hx hb dX4_latestOf_50 (lv_at hl 4 rfl) ?_
        refine goI (rdV (As := [.int (nI z)]) (rest := []) (m_second l K b sm th al kr fr h40 hR kn z (by omega) (by omega) (hrs _ (by omega))) ⟨hx, hb, hml, hown, hts⟩ (gV kl_X4_125 ki_X4_second ks_X4_second kn_X4 kc_X4_second) (by show okN yX4_second 1; decide +kernel) ⟨⟨Nat.le_of_ble_eq_true rfl, Nat.le_of_ble_eq_true rfl⟩, rfl, rfl⟩ hE hP [0, 1] rfl ⟨0, 6, _, _, rfl, rfl, rfl⟩ hl.1 rfl (Nat.le_of_ble_eq_true rfl) dX4_latestOf_52 ⟨Nat.le_of_ble_eq_true rfl, Nat.le_of_ble_eq_true rfl⟩) (fun v52 e52 => ?_)
        rw [e52]
        refine lv_iload_n hx hb dX4_latestOf_55 rfl (lv_at hl 1 rfl) ?_
        refine lv_icmp_ne (tgt := 64) hx hb dX4_latestOf_56 (by decide) (fun c56 => ?_) (fun c56 => ?_)
        · refine lv_iload_n hx hb dX4_latestOf_64 rfl (lv_at hl 3 rfl) ?_
          refine lv_istore_n (lv' := [(3, .int x3), (0, .ref (b 0)), (1, .int p), (2, .int q), (4, .int (nI z))]) hx hb dX4_latestOf_65 rfl hl (by decide) rfl (fun ls hl => ?_)
          refine lv_iinc (v := nI (z + 1)) (lv' := [(4, .int (nI (z + 1))), (3, .int x3), (0, .ref (b 0)), (1, .int p), (2, .int q)]) hx hb dX4_latestOf_66 hl (k := 4) rfl (nI_add z 1) (by decide) rfl (fun ls hl => ?_)
          refine lv_goto (tgt := 5) hx hb dX4_latestOf_69 (by decide) ?_
          have hB5 : latI fr p q (z + 1) x3 ∧ (z + 1) ≤ kr := ⟨latI_skip hI5.1 (by unfold btI; rintro (⟨g1, g2⟩ | ⟨g1, g2⟩) <;> first | exact c26 g1 | exact c36 g2 | exact c46 g1 | exact c56 g2), by omega⟩
          exact ih5 (z + 1, x3) (hB5) (by omega) ls (lv_sub hl [2, 3, 4, 1, 0] rfl)
        · refine lv_iload hx hb dX4_latestOf_59 (lv_at hl 4 rfl) ?_
          refine lv_goto (tgt := 65) hx hb dX4_latestOf_61 (by decide) ?_
          refine lv_istore_n (lv' := [(3, .int (nI z)), (0, .ref (b 0)), (1, .int p), (2, .int q), (4, .int (nI z))]) hx hb dX4_latestOf_65 rfl hl (by decide) rfl (fun ls hl => ?_)
          refine lv_iinc (v := nI (z + 1)) (lv' := [(4, .int (nI (z + 1))), (3, .int (nI z)), (0, .ref (b 0)), (1, .int p), (2, .int q)]) hx hb dX4_latestOf_66 hl (k := 4) rfl (nI_add z 1) (by decide) rfl (fun ls hl => ?_)
          refine lv_goto (tgt := 5) hx hb dX4_latestOf_69 (by decide) ?_
          have hB5 : latI fr p q (z + 1) (nI z) ∧ (z + 1) ≤ kr := ⟨latI_take (by unfold btI; first | exact Or.inl ⟨c26, c36⟩ | exact Or.inr ⟨c46, c56⟩), by omega⟩
          exact ih5 (z + 1, nI z) (hB5) (by omega) ls (lv_sub hl [2, 3, 4, 1, 0] rfl)
    · refine lv_aload_n hx hb dX4_latestOf_29 rfl (lv_at hl 0 rfl) ?_
      refine lv_iload hx hb dX4_latestOf_30 (lv_at hl 4 rfl) ?_
      refine goI (rdV (As := [.int (nI z)]) (rest := []) (m_second l K b sm th al kr fr h40 hR kn z (by omega) (by omega) (hrs _ (by omega))) ⟨hx, hb, hml, hown, hts⟩ (gV kl_X4_125 ki_X4_second ks_X4_second kn_X4 kc_X4_second) (by show okN yX4_second 1; decide +kernel) ⟨⟨Nat.le_of_ble_eq_true rfl, Nat.le_of_ble_eq_true rfl⟩, rfl, rfl⟩ hE hP [0, 1] rfl ⟨0, 6, _, _, rfl, rfl, rfl⟩ hl.1 rfl (Nat.le_of_ble_eq_true rfl) dX4_latestOf_32 ⟨Nat.le_of_ble_eq_true rfl, Nat.le_of_ble_eq_true rfl⟩) (fun v32 e32 => ?_)
      rw [e32]
      refine lv_iload_n hx hb dX4_latestOf_35 rfl (lv_at hl 2 rfl) ?_
      refine lv_icmp_eq (tgt := 59) hx hb dX4_latestOf_36 (by decide) (fun c36 => ?_) (fun c36 => ?_)
      · refine lv_iload hx hb dX4_latestOf_59 (lv_at hl 4 rfl) ?_
        refine lv_goto (tgt := 65) hx hb dX4_latestOf_61 (by decide) ?_
        refine lv_istore_n (lv' := [(3, .int (nI z)), (0, .ref (b 0)), (1, .int p), (2, .int q), (4, .int (nI z))]) hx hb dX4_latestOf_65 rfl hl (by decide) rfl (fun ls hl => ?_)
        refine lv_iinc (v := nI (z + 1)) (lv' := [(4, .int (nI (z + 1))), (3, .int (nI z)), (0, .ref (b 0)), (1, .int p), (2, .int q)]) hx hb dX4_latestOf_66 hl (k := 4) rfl (nI_add z 1) (by decide) rfl (fun ls hl => ?_)
        refine lv_goto (tgt := 5) hx hb dX4_latestOf_69 (by decide) ?_
        have hB5 : latI fr p q (z + 1) (nI z) ∧ (z + 1) ≤ kr := ⟨latI_take (by unfold btI; first | exact Or.inl ⟨c26, c36⟩ | exact Or.inr ⟨c46, c56⟩), by omega⟩
        exact ih5 (z + 1, nI z) (hB5) (by omega) ls (lv_sub hl [2, 3, 4, 1, 0] rfl)
      · refine lv_aload_n hx hb dX4_latestOf_39 rfl (lv_at hl 0 rfl) ?_
        refine lv_iload hx hb dX4_latestOf_40 (lv_at hl 4 rfl) ?_
        refine goI (rdV (As := [.int (nI z)]) (rest := []) (m_first l K b sm th al kr fr h40 hR kn z (by omega) (by omega) (hrs _ (by omega))) ⟨hx, hb, hml, hown, hts⟩ (gV kl_X4_122 ki_X4_first ks_X4_first kn_X4 kc_X4_first) (by show okN yX4_first 1; decide +kernel) ⟨⟨Nat.le_of_ble_eq_true rfl, Nat.le_of_ble_eq_true rfl⟩, rfl, rfl⟩ hE hP [0, 1] rfl ⟨0, 6, _, _, rfl, rfl, rfl⟩ hl.1 rfl (Nat.le_of_ble_eq_true rfl) dX4_latestOf_42 ⟨Nat.le_of_ble_eq_true rfl, Nat.le_of_ble_eq_true rfl⟩) (fun v42 e42 => ?_)
        rw [e42]
        refine lv_iload_n hx hb dX4_latestOf_45 rfl (lv_at hl 2 rfl) ?_
        refine lv_icmp_ne (tgt := 64) hx hb dX4_latestOf_46 (by decide) (fun c46 => ?_) (fun c46 => ?_)
        · refine lv_iload_n hx hb dX4_latestOf_64 rfl (lv_at hl 3 rfl) ?_
          refine lv_istore_n (lv' := [(3, .int x3), (0, .ref (b 0)), (1, .int p), (2, .int q), (4, .int (nI z))]) hx hb dX4_latestOf_65 rfl hl (by decide) rfl (fun ls hl => ?_)
          refine lv_iinc (v := nI (z + 1)) (lv' := [(4, .int (nI (z + 1))), (3, .int x3), (0, .ref (b 0)), (1, .int p), (2, .int q)]) hx hb dX4_latestOf_66 hl (k := 4) rfl (nI_add z 1) (by decide) rfl (fun ls hl => ?_)
          refine lv_goto (tgt := 5) hx hb dX4_latestOf_69 (by decide) ?_
          have hB5 : latI fr p q (z + 1) x3 ∧ (z + 1) ≤ kr := ⟨latI_skip hI5.1 (by unfold btI; rintro (⟨g1, g2⟩ | ⟨g1, g2⟩) <;> first | exact c26 g1 | exact c36 g2 | exact c46 g1 | exact c56 g2), by omega⟩
          exact ih5 (z + 1, x3) (hB5) (by omega) ls (lv_sub hl [2, 3, 4, 1, 0] rfl)
        · refine lv_aload_n hx hb dX4_latestOf_49 rfl (lv_at hl 0 rfl) ?_
          refine lv_iload hx hb dX4_latestOf_50 (lv_at hl 4 rfl) ?_
          refine goI (rdV (As := [.int (nI z)]) (rest := []) (m_second l K b sm th al kr fr h40 hR kn z (by omega) (by omega) (hrs _ (by omega))) ⟨hx, hb, hml, hown, hts⟩ (gV kl_X4_125 ki_X4_second ks_X4_second kn_X4 kc_X4_second) (by show okN yX4_second 1; decide +kernel) ⟨⟨Nat.le_of_ble_eq_true rfl, Nat.le_of_ble_eq_true rfl⟩, rfl, rfl⟩ hE hP [0, 1] rfl ⟨0, 6, _, _, rfl, rfl, rfl⟩ hl.1 rfl (Nat.le_of_ble_eq_true rfl) dX4_latestOf_52 ⟨Nat.le_of_ble_eq_true rfl, Nat.le_of_ble_eq_true rfl⟩) (fun v52 e52 => ?_)
          rw [e52]
          refine lv_iload_n hx hb dX4_latestOf_55 rfl (lv_at hl 1 rfl) ?_
          refine lv_icmp_ne (tgt := 64) hx hb dX4_latestOf_56 (by decide) (fun c56 => ?_) (fun c56 => ?_)
          · refine lv_iload_n hx hb dX4_latestOf_64 rfl (lv_at hl 3 rfl) ?_
            refine lv_istore_n (lv' := [(3, .int x3), (0, .ref (b 0)), (1, .int p), (2, .int q), (4, .int (nI z))]) hx hb dX4_latestOf_65 rfl hl (by decide) rfl (fun ls hl => ?_)
            refine lv_iinc (v := nI (z + 1)) (lv' := [(4, .int (nI (z + 1))), (3, .int x3), (0, .ref (b 0)), (1, .int p), (2, .int q)]) hx hb dX4_latestOf_66 hl (k := 4) rfl (nI_add z 1) (by decide) rfl (fun ls hl => ?_)
            refine lv_goto (tgt := 5) hx hb dX4_latestOf_69 (by decide) ?_
            have hB5 : latI fr p q (z + 1) x3 ∧ (z + 1) ≤ kr := ⟨latI_skip hI5.1 (by unfold btI; rintro (⟨g1, g2⟩ | ⟨g1, g2⟩) <;> first | exact c26 g1 | exact c36 g2 | exact c46 g1 | exact c56 g2), by omega⟩
            exact ih5 (z + 1, x3) (hB5) (by omega) ls (lv_sub hl [2, 3, 4, 1, 0] rfl)
          · refine lv_iload hx hb dX4_latestOf_59 (lv_at hl 4 rfl) ?_
            refine lv_goto (tgt := 65) hx hb dX4_latestOf_61 (by decide) ?_
            refine lv_istore_n (lv' := [(3, .int (nI z)), (0, .ref (b 0)), (1, .int p), (2, .int q), (4, .int (nI z))]) hx hb dX4_latestOf_65 rfl hl (by decide) rfl (fun ls hl => ?_)
            refine lv_iinc (v := nI (z + 1)) (lv' := [(4, .int (nI (z + 1))), (3, .int (nI z)), (0, .ref (b 0)), (1, .int p), (2, .int q)]) hx hb dX4_latestOf_66 hl (k := 4) rfl (nI_add z 1) (by decide) rfl (fun ls hl => ?_)
            refine lv_goto (tgt := 5) hx hb dX4_latestOf_69 (by decide) ?_
            have hB5 : latI fr p q (z + 1) (nI z) ∧ (z + 1) ≤ kr := ⟨latI_take (by unfold btI; first | exact Or.inl ⟨c26, c36⟩ | exact Or.inr ⟨c46, c56⟩), by omega⟩
            exact ih5 (z + 1, nI z) (hB5) (by omega) ls (lv_sub hl [2, 3, 4, 1, 0] rfl)
set_option maxHeartbeats 4000000 in
set_option maxRecDepth 100000 in
theorem m_errorOf (l : Launch) (K : EK) (b : Nat → Nat) (sm th : Int32) (al : Nat → Int64) (kn : Nat) (fn : Nat → Int32) (h6 : kn ≤ 6) (hN : NodC al kn fn) (kr : Nat) (fr : Nat → Int32) (h40 : kr ≤ 40) (hR : RecC al kr fr) (hn : ∀ i, i < kn → nOk fn i) (e m : Nat) (he : e < kr) (oe : rOk kn fr e) (hm : m < 3) : Met l yX4_errorOf (wq yX4_errorOf cX4_errorOf 3 (some .long)) (rmL 5 0 0) (va_Pc [.ref (b 0), .int (nI e), .int (nI m)] (PR K [(b 0, .inr (6, [.ref (b 1), .ref (b 2), .int sm, .int th])), (b 1, .inl (K.2.2.1, 460, .inr (.inl (al))))])) (vp_Sl (fun r => r.toInt = err fn fr e m)) 0 0 NF := by
  refine hdR (by decide +kernel) (Nat.le_of_ble_eq_true rfl) ?_
  intro pp ee s mm bl9 me9 cd hx hb hr hlocks hml hown hts hE hP ls hl
  have hown : s.vm.findClass RX4 = some mm.cls := hown
  have hP : va_P K.1 vwCl [(b 0, .inr (6, [.ref (b 1), .ref (b 2), .int sm, .int th])), (b 1, .inl (K.2.2.1, 460, .inr (.inl (al))))] s.heap := hP
  have hl : lv_has ls 3 [(0, .ref (b 0)), (1, .int (nI e)), (2, .int (nI m))] := hl
  have r1 := rng_rng m hn oe
  have r2 := len_lt hn oe
  unfold len at r2
  refine lv_aload_n hx hb dX4_errorOf_0 rfl (lv_at hl 0 rfl) ?_
  refine lv_iload_n hx hb dX4_errorOf_1 rfl (lv_at hl 1 rfl) ?_
  refine lv_iload_n hx hb dX4_errorOf_2 rfl (lv_at hl 2 rfl) ?_
  refine goL (rdV (As := [.int (nI e), .int (nI m)]) (rest := []) (m_rangeOf l K b sm th al kn fn h6 hN kr fr h40 hR hn e m he oe hm) ⟨hx, hb, hml, hown, hts⟩ (gV kl_X4_131 ki_X4_rangeOf ks_X4_rangeOf kn_X4 kc_X4_rangeOf) (by show okN yX4_rangeOf 2; decide +kernel) ⟨⟨Nat.le_of_ble_eq_true rfl, Nat.le_of_ble_eq_true rfl⟩, rfl, rfl⟩ hE hP [0, 1] rfl ⟨0, 6, _, _, rfl, rfl, rfl⟩ hl.1 rfl (Nat.le_of_ble_eq_true rfl) dX4_errorOf_3 ⟨Nat.le_of_ble_eq_true rfl, Nat.le_of_ble_eq_true rfl⟩) (fun v3 e3 => ?_)
  refine lv_aload_n hx hb dX4_errorOf_6 rfl (lv_at hl 0 rfl) ?_
  refine lv_aload_n hx hb dX4_errorOf_7 rfl (lv_at hl 0 rfl) ?_
  refine lv_iload_n hx hb dX4_errorOf_8 rfl (lv_at hl 1 rfl) ?_
  refine goI (rdV (As := [.int (nI e)]) (rest := [.ref (b 0), .long v3]) (m_first l K b sm th al kr fr h40 hR kn e (by omega) he oe) ⟨hx, hb, hml, hown, hts⟩ (gV kl_X4_122 ki_X4_first ks_X4_first kn_X4 kc_X4_first) (by show okN yX4_first 1; decide +kernel) ⟨⟨Nat.le_of_ble_eq_true rfl, Nat.le_of_ble_eq_true rfl⟩, rfl, rfl⟩ hE hP [0, 1] rfl ⟨0, 6, _, _, rfl, rfl, rfl⟩ hl.1 rfl (Nat.le_of_ble_eq_true rfl) dX4_errorOf_9 ⟨Nat.le_of_ble_eq_true rfl, Nat.le_of_ble_eq_true rfl⟩) (fun v9 e9 => ?_)
  rw [e9]
  refine lv_aload_n hx hb dX4_errorOf_12 rfl (lv_at hl 0 rfl) ?_
  refine lv_iload_n hx hb dX4_errorOf_13 rfl (lv_at hl 1 rfl) ?_
  refine goI (rdV (As := [.int (nI e)]) (rest := [.int (nI (ini fr e)), .ref (b 0), .long v3]) (m_second l K b sm th al kr fr h40 hR kn e (by omega) he oe) ⟨hx, hb, hml, hown, hts⟩ (gV kl_X4_125 ki_X4_second ks_X4_second kn_X4 kc_X4_second) (by show okN yX4_second 1; decide +kernel) ⟨⟨Nat.le_of_ble_eq_true rfl, Nat.le_of_ble_eq_true rfl⟩, rfl, rfl⟩ hE hP [0, 1] rfl ⟨0, 6, _, _, rfl, rfl, rfl⟩ hl.1 rfl (Nat.le_of_ble_eq_true rfl) dX4_errorOf_14 ⟨Nat.le_of_ble_eq_true rfl, Nat.le_of_ble_eq_true rfl⟩) (fun v14 e14 => ?_)
  rw [e14]
  refine goL (rdV (As := [.int (nI (ini fr e)), .int (nI (rsp fr e))]) (rest := [.long v3]) (m_distanceOf l K b sm th al kn fn h6 hN (ini fr e) (rsp fr e) oe.1.2 oe.2.1.2 (hn _ oe.1.2) (hn _ oe.2.1.2)) ⟨hx, hb, hml, hown, hts⟩ (gV kl_X4_67 ki_X4_distanceOf ks_X4_distanceOf kn_X4 kc_X4_distanceOf) (by show okN yX4_distanceOf 2; decide +kernel) ⟨⟨Nat.le_of_ble_eq_true rfl, Nat.le_of_ble_eq_true rfl⟩, rfl, rfl⟩ hE hP [0, 1] rfl ⟨0, 6, _, _, rfl, rfl, rfl⟩ hl.1 rfl (Nat.le_of_ble_eq_true rfl) dX4_errorOf_17 ⟨Nat.le_of_ble_eq_true rfl, Nat.le_of_ble_eq_true rfl⟩) (fun v17 e17 => ?_)
  refine lv_lsub hx hb dX4_errorOf_20 ?_
  refine lv_topl (fun v20 e20 => ?_)
  exact eL (v := v20) hx hb hr hlocks (by rw [e20, fb_subL (by rw [e3, e17, lN_T (by omega)]; omega) (by rw [e3, e17, lN_T (by omega)]; omega), e3, e17, lN_T (by omega)]; rfl) dX4_errorOf_21
theorem len_btw {fn fr : Nat → Int32} {i j e : Nat} (h : btw fr i j e) : len fn fr e = dst fn i j := by
  unfold len
  rcases h with ⟨h1, h2⟩ | ⟨h1, h2⟩
  · rw [h1, h2]
  · rw [h1, h2, dst_symm]
set_option maxHeartbeats 4000000 in
set_option maxRecDepth 100000 in
theorem m_excess (l : Launch) (K : EK) (b : Nat → Nat) (sm th : Int32) (al : Nat → Int64) (kn : Nat) (fn : Nat → Int32) (h6 : kn ≤ 6) (hN : NodC al kn fn) (kr : Nat) (fr : Nat → Int32) (h40 : kr ≤ 40) (hR : RecC al kr fr) (hn : ∀ i, i < kn → nOk fn i) (h38 : al 38 = lN kr) (hrs : ∀ e, e < kr → rOk kn fr e) (i j e : Nat) (hi : i < kn) (hj : j < kn) (he : isLat fr i j kr e) : Met l yX4_excess (wq yX4_excess cX4_excess 3 (some .long)) (rmL 4 0 0) (va_Pc [.ref (b 0), .int (nI i), .int (nI j)] (PR K [(b 0, .inr (6, [.ref (b 1), .ref (b 2), .int sm, .int th])), (b 1, .inl (K.2.2.1, 460, .inr (.inl (al))))])) (vp_Sl (fun r => r.toInt = exs fn fr e)) 0 0 NF := by
  refine hdR (by decide +kernel) (Nat.le_of_ble_eq_true rfl) ?_
  intro pp ee s mm bl9 me9 cd hx hb hr hlocks hml hown hts hE hP ls hl
  have hown : s.vm.findClass RX4 = some mm.cls := hown
  have hP : va_P K.1 vwCl [(b 0, .inr (6, [.ref (b 1), .ref (b 2), .int sm, .int th])), (b 1, .inl (K.2.2.1, 460, .inr (.inl (al))))] s.heap := hP
  have hl : lv_has ls 3 [(0, .ref (b 0)), (1, .int (nI i)), (2, .int (nI j))] := hl
  have r1 := raw_rng fr e 2
  have r2 := dst_lt (hn _ hi) (hn _ hj)
  refine lv_aload_n hx hb dX4_excess_0 rfl (lv_at hl 0 rfl) ?_
  refine lv_aload_n hx hb dX4_excess_1 rfl (lv_at hl 0 rfl) ?_
  refine lv_iload_n hx hb dX4_excess_2 rfl (lv_at hl 1 rfl) ?_
  refine lv_iload_n hx hb dX4_excess_3 rfl (lv_at hl 2 rfl) ?_
  refine goI (rdV (As := [.int (nI i), .int (nI j)]) (rest := [.ref (b 0)]) (m_latestOf l K b sm th al kr fr h40 hR kn h6 h38 hrs (nI i) (nI j)) ⟨hx, hb, hml, hown, hts⟩ (gV kl_X4_134 ki_X4_latestOf ks_X4_latestOf kn_X4 kc_X4_latestOf) (by show okN yX4_latestOf 2; decide +kernel) ⟨⟨Nat.le_of_ble_eq_true rfl, Nat.le_of_ble_eq_true rfl⟩, rfl, rfl⟩ hE hP [0, 1] rfl ⟨0, 6, _, _, rfl, rfl, rfl⟩ hl.1 rfl (Nat.le_of_ble_eq_true rfl) dX4_excess_4 ⟨Nat.le_of_ble_eq_true rfl, Nat.le_of_ble_eq_true rfl⟩) (fun v4 e4 => ?_)
  have q4 : v4 = nI e := latI_is h6 (by omega) (by omega) hrs e4 he
  rw [q4]
  refine lv_iconst (v := nI 2) hx hb dX4_excess_7 (by decide) ?_
  refine goL (rdV (As := [.int (nI e), .int (nI 2)]) (rest := []) (m_rawOf l K b sm th al kr fr h40 hR kn e 2 he.1 (hrs _ he.1) (by decide)) ⟨hx, hb, hml, hown, hts⟩ (gV kl_X4_119 ki_X4_rawOf ks_X4_rawOf kn_X4 kc_X4_rawOf) (by show okN yX4_rawOf 2; decide +kernel) ⟨⟨Nat.le_of_ble_eq_true rfl, Nat.le_of_ble_eq_true rfl⟩, rfl, rfl⟩ hE hP [0, 1] rfl ⟨0, 6, _, _, rfl, rfl, rfl⟩ hl.1 rfl (Nat.le_of_ble_eq_true rfl) dX4_excess_8 ⟨Nat.le_of_ble_eq_true rfl, Nat.le_of_ble_eq_true rfl⟩) (fun v8 e8 => ?_)
  refine lv_aload_n hx hb dX4_excess_11 rfl (lv_at hl 0 rfl) ?_
  refine lv_iload_n hx hb dX4_excess_12 rfl (lv_at hl 1 rfl) ?_
  refine lv_iload_n hx hb dX4_excess_13 rfl (lv_at hl 2 rfl) ?_
  refine goL (rdV (As := [.int (nI i), .int (nI j)]) (rest := [.long v8]) (m_distanceOf l K b sm th al kn fn h6 hN i j hi hj (hn _ hi) (hn _ hj)) ⟨hx, hb, hml, hown, hts⟩ (gV kl_X4_67 ki_X4_distanceOf ks_X4_distanceOf kn_X4 kc_X4_distanceOf) (by show okN yX4_distanceOf 2; decide +kernel) ⟨⟨Nat.le_of_ble_eq_true rfl, Nat.le_of_ble_eq_true rfl⟩, rfl, rfl⟩ hE hP [0, 1] rfl ⟨0, 6, _, _, rfl, rfl, rfl⟩ hl.1 rfl (Nat.le_of_ble_eq_true rfl) dX4_excess_14 ⟨Nat.le_of_ble_eq_true rfl, Nat.le_of_ble_eq_true rfl⟩) (fun v14 e14 => ?_)
  refine lv_lsub hx hb dX4_excess_17 ?_
  refine lv_topl (fun v17 e17 => ?_)
  exact eL (v := v17) hx hb hr hlocks (by rw [e17, fb_subL (by rw [e8, e14, lN_T (by omega)]; omega) (by rw [e8, e14, lN_T (by omega)]; omega), e8, e14, lN_T (by omega), exs, len_btw he.2.1]) dX4_excess_18
set_option maxHeartbeats 4000000 in
set_option maxRecDepth 100000 in
theorem m_right (l : Launch) (K : EK) (b : Nat → Nat) (sm th : Int32) (al : Nat → Int64) (kn : Nat) (fn : Nat → Int32) (h6 : kn ≤ 6) (hN : NodC al kn fn) (kr : Nat) (fr : Nat → Int32) (h40 : kr ≤ 40) (hR : RecC al kr fr) (hn : ∀ i, i < kn → nOk fn i) (h38 : al 38 = lN kr) (hrs : ∀ e, e < kr → rOk kn fr e) (n i j m e1 e2 : Nat) (hn9 : n < kn) (hi : i < kn) (hj : j < kn) (hm : m < 3) (he1 : isLat fr n i kr e1) (he2 : isLat fr n j kr e2) : Met l yX4_right (wq yX4_right cX4_right 9 (some .long)) (rmL 5 0 0) (va_Pc [.ref (b 0), .int (nI n), .int (nI i), .int (nI j), .int (nI m)] (PR K [(b 0, .inr (6, [.ref (b 1), .ref (b 2), .int sm, .int th])), (b 1, .inl (K.2.2.1, 460, .inr (.inl (al))))])) (vp_Sl (fun r => r.toInt = rgtS fn fr e1 e2 i j m)) 0 0 NF := by
  refine hdR (by decide +kernel) (Nat.le_of_ble_eq_true rfl) ?_
  intro pp ee s mm bl9 me9 cd hx hb hr hlocks hml hown hts hE hP ls hl
  have hown : s.vm.findClass RX4 = some mm.cls := hown
  have hP : va_P K.1 vwCl [(b 0, .inr (6, [.ref (b 1), .ref (b 2), .int sm, .int th])), (b 1, .inl (K.2.2.1, 460, .inr (.inl (al))))] s.heap := hP
  have hl : lv_has ls 9 [(0, .ref (b 0)), (1, .int (nI n)), (2, .int (nI i)), (3, .int (nI j)), (4, .int (nI m))] := hl
  have r1 := rsq_rng m hn (hrs _ he1.1)
  have r2 := rsq_rng m hn (hrs _ he2.1)
  have si0 := sq_le (x := nd fn i 0) (n := 1000) (hn _ hi).1.1 (hn _ hi).1.2
  have si1 := sq_le (x := nd fn i 1) (n := 1000) (hn _ hi).2.1.1 (hn _ hi).2.1.2
  have sj0 := sq_le (x := nd fn j 0) (n := 1000) (hn _ hj).1.1 (hn _ hj).1.2
  have sj1 := sq_le (x := nd fn j 1) (n := 1000) (hn _ hj).2.1.1 (hn _ hj).2.1.2
  refine lv_aload_n hx hb dX4_right_0 rfl (lv_at hl 0 rfl) ?_
  refine lv_aload_n hx hb dX4_right_1 rfl (lv_at hl 0 rfl) ?_
  refine lv_iload_n hx hb dX4_right_2 rfl (lv_at hl 1 rfl) ?_
  refine lv_iload_n hx hb dX4_right_3 rfl (lv_at hl 2 rfl) ?_
  refine goI (rdV (As := [.int (nI n), .int (nI i)]) (rest := [.ref (b 0)]) (m_latestOf l K b sm th al kr fr h40 hR kn h6 h38 hrs (nI n) (nI i)) ⟨hx, hb, hml, hown, hts⟩ (gV kl_X4_134 ki_X4_latestOf ks_X4_latestOf kn_X4 kc_X4_latestOf) (by show okN yX4_latestOf 2; decide +kernel) ⟨⟨Nat.le_of_ble_eq_true rfl, Nat.le_of_ble_eq_true rfl⟩, rfl, rfl⟩ hE hP [0, 1] rfl ⟨0, 6, _, _, rfl, rfl, rfl⟩ hl.1 rfl (Nat.le_of_ble_eq_true rfl) dX4_right_4 ⟨Nat.le_of_ble_eq_true rfl, Nat.le_of_ble_eq_true rfl⟩) (fun v4 e4 => ?_)
  have q4 : v4 = nI e1 := latI_is h6 (by omega) (by omega) hrs e4 he1
  rw [q4]
  refine lv_iload hx hb dX4_right_7 (lv_at hl 4 rfl) ?_
  refine goL (rdV (As := [.int (nI e1), .int (nI m)]) (rest := []) (m_rangeOf l K b sm th al kn fn h6 hN kr fr h40 hR hn e1 m he1.1 (hrs _ he1.1) hm) ⟨hx, hb, hml, hown, hts⟩ (gV kl_X4_131 ki_X4_rangeOf ks_X4_rangeOf kn_X4 kc_X4_rangeOf) (by show okN yX4_rangeOf 2; decide +kernel) ⟨⟨Nat.le_of_ble_eq_true rfl, Nat.le_of_ble_eq_true rfl⟩, rfl, rfl⟩ hE hP [0, 1] rfl ⟨0, 6, _, _, rfl, rfl, rfl⟩ hl.1 rfl (Nat.le_of_ble_eq_true rfl) dX4_right_9 ⟨Nat.le_of_ble_eq_true rfl, Nat.le_of_ble_eq_true rfl⟩) (fun v9 e9 => ?_)
  refine lv_lstore (lv' := [(5, .long v9), (0, .ref (b 0)), (1, .int (nI n)), (2, .int (nI i)), (3, .int (nI j)), (4, .int (nI m))]) hx hb dX4_right_12 hl (by decide) rfl (fun ls hl => ?_)
  refine lv_aload_n hx hb dX4_right_14 rfl (lv_at hl 1 rfl) ?_
  refine lv_aload_n hx hb dX4_right_15 rfl (lv_at hl 1 rfl) ?_
  refine lv_iload_n hx hb dX4_right_16 rfl (lv_at hl 2 rfl) ?_
  refine lv_iload_n hx hb dX4_right_17 rfl (lv_at hl 4 rfl) ?_
  refine goI (rdV (As := [.int (nI n), .int (nI j)]) (rest := [.ref (b 0)]) (m_latestOf l K b sm th al kr fr h40 hR kn h6 h38 hrs (nI n) (nI j)) ⟨hx, hb, hml, hown, hts⟩ (gV kl_X4_134 ki_X4_latestOf ks_X4_latestOf kn_X4 kc_X4_latestOf) (by show okN yX4_latestOf 2; decide +kernel) ⟨⟨Nat.le_of_ble_eq_true rfl, Nat.le_of_ble_eq_true rfl⟩, rfl, rfl⟩ hE hP [0, 1] rfl ⟨0, 6, _, _, rfl, rfl, rfl⟩ hl.1 rfl (Nat.le_of_ble_eq_true rfl) dX4_right_18 ⟨Nat.le_of_ble_eq_true rfl, Nat.le_of_ble_eq_true rfl⟩) (fun v18 e18 => ?_)
  have q18 : v18 = nI e2 := latI_is h6 (by omega) (by omega) hrs e18 he2
  rw [q18]
  refine lv_iload hx hb dX4_right_21 (lv_at hl 5 rfl) ?_
  refine goL (rdV (As := [.int (nI e2), .int (nI m)]) (rest := []) (m_rangeOf l K b sm th al kn fn h6 hN kr fr h40 hR hn e2 m he2.1 (hrs _ he2.1) hm) ⟨hx, hb, hml, hown, hts⟩ (gV kl_X4_131 ki_X4_rangeOf ks_X4_rangeOf kn_X4 kc_X4_rangeOf) (by show okN yX4_rangeOf 2; decide +kernel) ⟨⟨Nat.le_of_ble_eq_true rfl, Nat.le_of_ble_eq_true rfl⟩, rfl, rfl⟩ hE hP [0, 1] rfl ⟨0, 6, _, _, rfl, rfl, rfl⟩ hl.1 rfl (Nat.le_of_ble_eq_true rfl) dX4_right_23 ⟨Nat.le_of_ble_eq_true rfl, Nat.le_of_ble_eq_true rfl⟩) (fun v23 e23 => ?_)
  refine lv_lstore (lv' := [(7, .long v23), (5, .long v9), (0, .ref (b 0)), (1, .int (nI n)), (2, .int (nI i)), (3, .int (nI j)), (4, .int (nI m))]) hx hb dX4_right_26 hl (by decide) rfl (fun ls hl => ?_)
  refine lv_lload hx hb dX4_right_28 (lv_at hl 1 rfl) ?_
  refine lv_lload hx hb dX4_right_30 (lv_at hl 1 rfl) ?_
  refine lv_lmul hx hb dX4_right_32 ?_
  refine lv_topl (fun v32 e32 => ?_)
  have q32 : v32.toInt = rng fn fr e1 m * rng fn fr e1 m := by rw [e32, fb_mulL (by rw [e9]; omega) (by rw [e9]; omega), e9]
  refine lv_lload hx hb dX4_right_33 (lv_at hl 0 rfl) ?_
  refine lv_lload hx hb dX4_right_35 (lv_at hl 0 rfl) ?_
  refine lv_lmul hx hb dX4_right_37 ?_
  refine lv_topl (fun v37 e37 => ?_)
  have q37 : v37.toInt = rng fn fr e2 m * rng fn fr e2 m := by rw [e37, fb_mulL (by rw [e23]; omega) (by rw [e23]; omega), e23]
  refine lv_lsub hx hb dX4_right_38 ?_
  refine lv_topl (fun v38 e38 => ?_)
  have q38 : v38.toInt = rng fn fr e1 m * rng fn fr e1 m - rng fn fr e2 m * rng fn fr e2 m := by rw [e38, fb_subL (by rw [q32, q37]; omega) (by rw [q32, q37]; omega), q32, q37]
  refine lv_aload_n hx hb dX4_right_39 rfl (lv_at hl 2 rfl) ?_
  refine lv_iload_n hx hb dX4_right_40 rfl (lv_at hl 5 rfl) ?_
  refine lv_iconst (v := nI 0) hx hb dX4_right_41 (by decide) ?_
  refine goL (rdV (As := [.int (nI j), .int (nI 0)]) (rest := [.long v38]) (m_of l K b sm th al kn fn h6 hN j 0 hj (by decide)) ⟨hx, hb, hml, hown, hts⟩ (gV kl_X4_56 ki_X4_of ks_X4_of kn_X4 kc_X4_of) (by show okN yX4_of 2; decide +kernel) ⟨⟨Nat.le_of_ble_eq_true rfl, Nat.le_of_ble_eq_true rfl⟩, rfl, rfl⟩ hE hP [0, 1] rfl ⟨0, 6, _, _, rfl, rfl, rfl⟩ hl.1 rfl (Nat.le_of_ble_eq_true rfl) dX4_right_42 ⟨Nat.le_of_ble_eq_true rfl, Nat.le_of_ble_eq_true rfl⟩) (fun v42 e42 => ?_)
  refine lv_aload_n hx hb dX4_right_45 rfl (lv_at hl 2 rfl) ?_
  refine lv_iload_n hx hb dX4_right_46 rfl (lv_at hl 5 rfl) ?_
  refine lv_iconst (v := nI 0) hx hb dX4_right_47 (by decide) ?_
  refine goL (rdV (As := [.int (nI j), .int (nI 0)]) (rest := [.long v42, .long v38]) (m_of l K b sm th al kn fn h6 hN j 0 hj (by decide)) ⟨hx, hb, hml, hown, hts⟩ (gV kl_X4_56 ki_X4_of ks_X4_of kn_X4 kc_X4_of) (by show okN yX4_of 2; decide +kernel) ⟨⟨Nat.le_of_ble_eq_true rfl, Nat.le_of_ble_eq_true rfl⟩, rfl, rfl⟩ hE hP [0, 1] rfl ⟨0, 6, _, _, rfl, rfl, rfl⟩ hl.1 rfl (Nat.le_of_ble_eq_true rfl) dX4_right_48 ⟨Nat.le_of_ble_eq_true rfl, Nat.le_of_ble_eq_true rfl⟩) (fun v48 e48 => ?_)
  refine lv_lmul hx hb dX4_right_51 ?_
  refine lv_topl (fun v51 e51 => ?_)
  have q51 : v51.toInt = nd fn j 0 * nd fn j 0 := by rw [e51, fb_mulL (by rw [e42, e48, i64T]; unfold nd at sj0; omega) (by rw [e42, e48, i64T]; unfold nd at sj0; omega), e42, e48, i64T]; rfl
  refine lv_ladd hx hb dX4_right_52 ?_
  refine lv_topl (fun v52 e52 => ?_)
  have q52 : v52.toInt = rng fn fr e1 m * rng fn fr e1 m - rng fn fr e2 m * rng fn fr e2 m + nd fn j 0 * nd fn j 0 := by rw [e52, fb_addL (by rw [q38, q51]; omega) (by rw [q38, q51]; omega), q38, q51]
  refine lv_aload_n hx hb dX4_right_53 rfl (lv_at hl 2 rfl) ?_
  refine lv_iload_n hx hb dX4_right_54 rfl (lv_at hl 4 rfl) ?_
  refine lv_iconst (v := nI 0) hx hb dX4_right_55 (by decide) ?_
  refine goL (rdV (As := [.int (nI i), .int (nI 0)]) (rest := [.long v52]) (m_of l K b sm th al kn fn h6 hN i 0 hi (by decide)) ⟨hx, hb, hml, hown, hts⟩ (gV kl_X4_56 ki_X4_of ks_X4_of kn_X4 kc_X4_of) (by show okN yX4_of 2; decide +kernel) ⟨⟨Nat.le_of_ble_eq_true rfl, Nat.le_of_ble_eq_true rfl⟩, rfl, rfl⟩ hE hP [0, 1] rfl ⟨0, 6, _, _, rfl, rfl, rfl⟩ hl.1 rfl (Nat.le_of_ble_eq_true rfl) dX4_right_56 ⟨Nat.le_of_ble_eq_true rfl, Nat.le_of_ble_eq_true rfl⟩) (fun v56 e56 => ?_)
  refine lv_aload_n hx hb dX4_right_59 rfl (lv_at hl 2 rfl) ?_
  refine lv_iload_n hx hb dX4_right_60 rfl (lv_at hl 4 rfl) ?_
  refine lv_iconst (v := nI 0) hx hb dX4_right_61 (by decide) ?_
  refine goL (rdV (As := [.int (nI i), .int (nI 0)]) (rest := [.long v56, .long v52]) (m_of l K b sm th al kn fn h6 hN i 0 hi (by decide)) ⟨hx, hb, hml, hown, hts⟩ (gV kl_X4_56 ki_X4_of ks_X4_of kn_X4 kc_X4_of) (by show okN yX4_of 2; decide +kernel) ⟨⟨Nat.le_of_ble_eq_true rfl, Nat.le_of_ble_eq_true rfl⟩, rfl, rfl⟩ hE hP [0, 1] rfl ⟨0, 6, _, _, rfl, rfl, rfl⟩ hl.1 rfl (Nat.le_of_ble_eq_true rfl) dX4_right_62 ⟨Nat.le_of_ble_eq_true rfl, Nat.le_of_ble_eq_true rfl⟩) (fun v62 e62 => ?_)
  refine lv_lmul hx hb dX4_right_65 ?_
  refine lv_topl (fun v65 e65 => ?_)
  have q65 : v65.toInt = nd fn i 0 * nd fn i 0 := by rw [e65, fb_mulL (by rw [e56, e62, i64T]; unfold nd at si0; omega) (by rw [e56, e62, i64T]; unfold nd at si0; omega), e56, e62, i64T]; rfl
  refine lv_lsub hx hb dX4_right_66 ?_
  refine lv_topl (fun v66 e66 => ?_)
  have q66 : v66.toInt = rng fn fr e1 m * rng fn fr e1 m - rng fn fr e2 m * rng fn fr e2 m + nd fn j 0 * nd fn j 0 - nd fn i 0 * nd fn i 0 := by rw [e66, fb_subL (by rw [q52, q65]; omega) (by rw [q52, q65]; omega), q52, q65]
  refine lv_aload_n hx hb dX4_right_67 rfl (lv_at hl 2 rfl) ?_
  refine lv_iload_n hx hb dX4_right_68 rfl (lv_at hl 5 rfl) ?_
  refine lv_iconst (v := nI 1) hx hb dX4_right_69 (by decide) ?_
  refine goL (rdV (As := [.int (nI j), .int (nI 1)]) (rest := [.long v66]) (m_of l K b sm th al kn fn h6 hN j 1 hj (by decide)) ⟨hx, hb, hml, hown, hts⟩ (gV kl_X4_56 ki_X4_of ks_X4_of kn_X4 kc_X4_of) (by show okN yX4_of 2; decide +kernel) ⟨⟨Nat.le_of_ble_eq_true rfl, Nat.le_of_ble_eq_true rfl⟩, rfl, rfl⟩ hE hP [0, 1] rfl ⟨0, 6, _, _, rfl, rfl, rfl⟩ hl.1 rfl (Nat.le_of_ble_eq_true rfl) dX4_right_70 ⟨Nat.le_of_ble_eq_true rfl, Nat.le_of_ble_eq_true rfl⟩) (fun v70 e70 => ?_)
  refine lv_aload_n hx hb dX4_right_73 rfl (lv_at hl 2 rfl) ?_
  refine lv_iload_n hx hb dX4_right_74 rfl (lv_at hl 5 rfl) ?_
  refine lv_iconst (v := nI 1) hx hb dX4_right_75 (by decide) ?_
  refine goL (rdV (As := [.int (nI j), .int (nI 1)]) (rest := [.long v70, .long v66]) (m_of l K b sm th al kn fn h6 hN j 1 hj (by decide)) ⟨hx, hb, hml, hown, hts⟩ (gV kl_X4_56 ki_X4_of ks_X4_of kn_X4 kc_X4_of) (by show okN yX4_of 2; decide +kernel) ⟨⟨Nat.le_of_ble_eq_true rfl, Nat.le_of_ble_eq_true rfl⟩, rfl, rfl⟩ hE hP [0, 1] rfl ⟨0, 6, _, _, rfl, rfl, rfl⟩ hl.1 rfl (Nat.le_of_ble_eq_true rfl) dX4_right_76 ⟨Nat.le_of_ble_eq_true rfl, Nat.le_of_ble_eq_true rfl⟩) (fun v76 e76 => ?_)
  refine lv_lmul hx hb dX4_right_79 ?_
  refine lv_topl (fun v79 e79 => ?_)
  have q79 : v79.toInt = nd fn j 1 * nd fn j 1 := by rw [e79, fb_mulL (by rw [e70, e76, i64T]; unfold nd at sj1; omega) (by rw [e70, e76, i64T]; unfold nd at sj1; omega), e70, e76, i64T]; rfl
  refine lv_ladd hx hb dX4_right_80 ?_
  refine lv_topl (fun v80 e80 => ?_)
  have q80 : v80.toInt = rng fn fr e1 m * rng fn fr e1 m - rng fn fr e2 m * rng fn fr e2 m + nd fn j 0 * nd fn j 0 - nd fn i 0 * nd fn i 0 + nd fn j 1 * nd fn j 1 := by rw [e80, fb_addL (by rw [q66, q79]; omega) (by rw [q66, q79]; omega), q66, q79]
  refine lv_aload_n hx hb dX4_right_81 rfl (lv_at hl 2 rfl) ?_
  refine lv_iload_n hx hb dX4_right_82 rfl (lv_at hl 4 rfl) ?_
  refine lv_iconst (v := nI 1) hx hb dX4_right_83 (by decide) ?_
  refine goL (rdV (As := [.int (nI i), .int (nI 1)]) (rest := [.long v80]) (m_of l K b sm th al kn fn h6 hN i 1 hi (by decide)) ⟨hx, hb, hml, hown, hts⟩ (gV kl_X4_56 ki_X4_of ks_X4_of kn_X4 kc_X4_of) (by show okN yX4_of 2; decide +kernel) ⟨⟨Nat.le_of_ble_eq_true rfl, Nat.le_of_ble_eq_true rfl⟩, rfl, rfl⟩ hE hP [0, 1] rfl ⟨0, 6, _, _, rfl, rfl, rfl⟩ hl.1 rfl (Nat.le_of_ble_eq_true rfl) dX4_right_84 ⟨Nat.le_of_ble_eq_true rfl, Nat.le_of_ble_eq_true rfl⟩) (fun v84 e84 => ?_)
  refine lv_aload_n hx hb dX4_right_87 rfl (lv_at hl 2 rfl) ?_
  refine lv_iload_n hx hb dX4_right_88 rfl (lv_at hl 4 rfl) ?_
  refine lv_iconst (v := nI 1) hx hb dX4_right_89 (by decide) ?_
  refine goL (rdV (As := [.int (nI i), .int (nI 1)]) (rest := [.long v84, .long v80]) (m_of l K b sm th al kn fn h6 hN i 1 hi (by decide)) ⟨hx, hb, hml, hown, hts⟩ (gV kl_X4_56 ki_X4_of ks_X4_of kn_X4 kc_X4_of) (by show okN yX4_of 2; decide +kernel) ⟨⟨Nat.le_of_ble_eq_true rfl, Nat.le_of_ble_eq_true rfl⟩, rfl, rfl⟩ hE hP [0, 1] rfl ⟨0, 6, _, _, rfl, rfl, rfl⟩ hl.1 rfl (Nat.le_of_ble_eq_true rfl) dX4_right_90 ⟨Nat.le_of_ble_eq_true rfl, Nat.le_of_ble_eq_true rfl⟩) (fun v90 e90 => ?_)
  refine lv_lmul hx hb dX4_right_93 ?_
  refine lv_topl (fun v93 e93 => ?_)
  have q93 : v93.toInt = nd fn i 1 * nd fn i 1 := by rw [e93, fb_mulL (by rw [e84, e90, i64T]; unfold nd at si1; omega) (by rw [e84, e90, i64T]; unfold nd at si1; omega), e84, e90, i64T]; rfl
  refine lv_lsub hx hb dX4_right_94 ?_
  refine lv_topl (fun v94 e94 => ?_)
  have q94 : v94.toInt = rng fn fr e1 m * rng fn fr e1 m - rng fn fr e2 m * rng fn fr e2 m + nd fn j 0 * nd fn j 0 - nd fn i 0 * nd fn i 0 + nd fn j 1 * nd fn j 1 - nd fn i 1 * nd fn i 1 := by rw [e94, fb_subL (by rw [q80, q93]; omega) (by rw [q80, q93]; omega), q80, q93]
  exact eL (v := v94) hx hb hr hlocks (by rw [q94]; unfold rgtS sfoS; omega) dX4_right_95
set_option maxHeartbeats 4000000 in
set_option maxRecDepth 100000 in
theorem m_sums (l : Launch) (K : EK) (b : Nat → Nat) (sm th : Int32) (al : Nat → Int64) (h0 : Int64) (f n : Nat) (hf : f + n ≤ 460) : Met l yX4_sums (wq yX4_sums cX4_sums 8 (some .long)) (rmL 1 0 0) (va_Pc [.ref (b 0), .long h0, .int (nI f), .int (nI n)] (PR K [(b 0, .inr (6, [.ref (b 1), .ref (b 2), .int sm, .int th])), (b 1, .inl (K.2.2.1, 460, .inr (.inl (al))))])) (vp_Sl (fun r => r = dgRow (fun c => al (f + c)) n h0)) 0 0 NF := by
  refine hdR (by decide +kernel) (Nat.le_of_ble_eq_true rfl) ?_
  intro pp ee s mm bl9 me9 cd hx hb hr hlocks hml hown hts hE hP ls hl
  have hown : s.vm.findClass RX4 = some mm.cls := hown
  have hP : va_P K.1 vwCl [(b 0, .inr (6, [.ref (b 1), .ref (b 2), .int sm, .int th])), (b 1, .inl (K.2.2.1, 460, .inr (.inl (al))))] s.heap := hP
  have hl : lv_has ls 8 [(0, .ref (b 0)), (1, .long h0), (3, .int (nI f)), (4, .int (nI n))] := hl
  refine lv_lload_n hx hb dX4_sums_0 rfl (lv_at hl 1 rfl) ?_
  refine lv_lstore (lv' := [(5, .long h0), (0, .ref (b 0)), (1, .long h0), (3, .int (nI f)), (4, .int (nI n))]) hx hb dX4_sums_1 hl (by decide) rfl (fun ls hl => ?_)
  refine lv_iconst (v := nI 0) hx hb dX4_sums_3 (by decide) ?_
  refine lv_istore (lv' := [(7, .int (nI 0)), (5, .long h0), (0, .ref (b 0)), (1, .long h0), (3, .int (nI f)), (4, .int (nI n))]) hx hb dX4_sums_4 hl (by decide) rfl (fun ls hl => ?_)
  refine lpR (α := Nat × Int64) (fun (x9 : Nat × Int64) => x9.2 = dgRow (fun c => al (f + c)) x9.1 h0 ∧ x9.1 ≤ n) (fun (x9 : Nat × Int64) => n - x9.1) (fun (x9 : Nat × Int64) => [(0, .ref (b 0)), (1, .long h0), (3, .int (nI f)), (4, .int (nI n)), (5, .long x9.2), (7, .int (nI x9.1))]) 8 6 (fun x9 hI6 ih6 ls hl => ?_) (0, h0) (⟨rfl, Nat.zero_le _⟩) ls (lv_sub hl [2, 3, 4, 5, 1, 0] rfl)
  obtain ⟨z, g⟩ := x9
  have hI6 : g = dgRow (fun c => al (f + c)) z h0 ∧ z ≤ n := hI6
  have hl : lv_has ls 8 [(0, .ref (b 0)), (1, .long h0), (3, .int (nI f)), (4, .int (nI n)), (5, .long g), (7, .int (nI z))] := hl
  refine lv_iload hx hb dX4_sums_6 (lv_at hl 5 rfl) ?_
  refine lv_iload hx hb dX4_sums_8 (lv_at hl 3 rfl) ?_
  refine lv_icmp_ge (tgt := 37) hx hb dX4_sums_10 (by decide) (fun c10 => ?_) (fun c10 => ?_)
  · have c10 := (nI_leI (a := n) (b := z) (by omega) (by omega)).mp c10
    refine lv_lload hx hb dX4_sums_37 (lv_at hl 4 rfl) ?_
    exact eL (v := g) hx hb hr hlocks (by rw [hI6.1, show z = n by omega]) dX4_sums_39
  · have c10 := mt (nI_leI (a := n) (b := z) (by omega) (by omega)).mpr c10
    refine lv_ldc2 (v := lN 31) hx hb hown (hts _ kw_X4_158) dX4_sums_13 ?_
    refine lv_lload hx hb dX4_sums_16 (lv_at hl 4 rfl) ?_
    refine lv_lmul hx hb dX4_sums_18 ?_
    refine lv_topl (fun v18 e18 => ?_)
    refine lv_aload_n hx hb dX4_sums_19 rfl (lv_at hl 0 rfl) ?_
    refine va_get (D := K.1) (ci := 6) (v := .ref (b 1)) (C := RX4) (T := TX4) (N := 4) hx hb hts inX4 hown hE.1 hP 0 rfl rfl 0 (by decide) (hts _ kf_X4_7) (fun _ h9 => h9) rfl dX4_sums_20 ?_
    refine lv_iload_n hx hb dX4_sums_23 rfl (lv_at hl 2 rfl) ?_
    refine lv_iload hx hb dX4_sums_24 (lv_at hl 5 rfl) ?_
    refine lv_iadd hx hb dX4_sums_26 ?_
    rw [nI_add f z]
    have i27 : nI (f + z) = nI (f + z) := rfl
    have j27 : f + z < 460 := by omega
    refine va_lald hx hb hE.1 hP 1 1 rfl rfl (by rw [i27]; exact vp_in_nI j27 (by omega)) dX4_sums_27 ?_
    rw [i27, nI_clamp (by omega)]
    refine lv_topl (fun v27 e27 => ?_)
    refine lv_ladd hx hb dX4_sums_28 ?_
    refine lv_topl (fun v28 e28 => ?_)
    refine lv_lstore (lv' := [(5, .long v28), (0, .ref (b 0)), (1, .long h0), (3, .int (nI f)), (4, .int (nI n)), (7, .int (nI z))]) hx hb dX4_sums_29 hl (by decide) rfl (fun ls hl => ?_)
    refine lv_iinc (v := nI (z + 1)) (lv' := [(7, .int (nI (z + 1))), (5, .long v28), (0, .ref (b 0)), (1, .long h0), (3, .int (nI f)), (4, .int (nI n))]) hx hb dX4_sums_31 hl (k := 5) rfl (nI_add z 1) (by decide) rfl (fun ls hl => ?_)
    refine lv_goto (tgt := 6) hx hb dX4_sums_34 (by decide) ?_
    have hB6 : v28 = dgRow (fun c => al (f + c)) (z + 1) h0 ∧ (z + 1) ≤ n := ⟨by rw [e28, e18, e27, hI6.1]; rfl, by omega⟩
    exact ih6 (z + 1, v28) (hB6) (by omega) ls (lv_sub hl [2, 3, 4, 5, 1, 0] rfl)
def ahd (al : Nat → Int64) (j k : Nat) : Prop := al (360 + 5 * j) < al (360 + 5 * k) ∨ (al (360 + 5 * j) = al (360 + 5 * k) ∧ j < k)
noncomputable def ahb (al : Nat → Int64) (k j : Nat) : Bool := @decide (ahd al j k) (Classical.propDecidable _)
noncomputable def rnk (al : Nat → Int64) (n k : Nat) : Nat := fb_ct (ahb al k) n
theorem ahb_t {al : Nat → Int64} {k j : Nat} (h : ahd al j k) : ahb al k j = true := @decide_eq_true _ (Classical.propDecidable _) h
theorem ahb_f {al : Nat → Int64} {k j : Nat} (h : ¬ ahd al j k) : ahb al k j = false := @decide_eq_false _ (Classical.propDecidable _) h
theorem rnk_t {al : Nat → Int64} {k j c : Nat} (h : ahd al j k) (e : c = fb_ct (ahb al k) j) : c + 1 = fb_ct (ahb al k) (j + 1) := by rw [fb_ct_succ, ahb_t h, e]; rfl
theorem rnk_f {al : Nat → Int64} {k j c : Nat} (h : ¬ ahd al j k) (e : c = fb_ct (ahb al k) j) : c + 0 = fb_ct (ahb al k) (j + 1) := by rw [fb_ct_succ, ahb_f h, e]; rfl
set_option maxHeartbeats 4000000 in
set_option maxRecDepth 100000 in
theorem m_waiting (l : Launch) (K : EK) (b : Nat → Nat) (sm th : Int32) (al : Nat → Int64) (kp n : Nat) (h20 : kp ≤ 20) (h359 : al 359 = lN kp) (hn20 : n ≤ 20) : Met l yX4_waiting (wq yX4_waiting cX4_waiting 10 (some .int)) (rmL 1 0 0) (va_Pc [.ref (b 0), .int (nI n)] (PR K [(b 0, .inr (6, [.ref (b 1), .ref (b 2), .int sm, .int th])), (b 1, .inl (K.2.2.1, 460, .inr (.inl (al))))])) (vp_Si (fun r => (r = -1 ∧ ∀ k, k < kp → rnk al kp k ≠ n) ∨ ∃ k, k < kp ∧ r = nI k ∧ rnk al kp k = n)) 0 0 NF := by
  refine hdR (by decide +kernel) (Nat.le_of_ble_eq_true rfl) ?_
  intro pp ee s mm bl9 me9 cd hx hb hr hlocks hml hown hts hE hP ls hl
  have hown : s.vm.findClass RX4 = some mm.cls := hown
  have hP : va_P K.1 vwCl [(b 0, .inr (6, [.ref (b 1), .ref (b 2), .int sm, .int th])), (b 1, .inl (K.2.2.1, 460, .inr (.inl (al))))] s.heap := hP
  have hl : lv_has ls 10 [(0, .ref (b 0)), (1, .int (nI n))] := hl
  refine lv_aload_n hx hb dX4_waiting_0 rfl (lv_at hl 0 rfl) ?_
  refine va_get (D := K.1) (ci := 6) (v := .ref (b 1)) (C := RX4) (T := TX4) (N := 4) hx hb hts inX4 hown hE.1 hP 0 rfl rfl 0 (by decide) (hts _ kf_X4_7) (fun _ h9 => h9) rfl dX4_waiting_1 ?_
  refine lv_sipush (v := nI 359) hx hb dX4_waiting_4 (by decide) ?_
  have i7 : nI 359 = nI 359 := rfl
  have j7 : 359 < 460 := by omega
  refine va_lald hx hb hE.1 hP 1 1 rfl rfl (by rw [i7]; exact vp_in_nI j7 (by omega)) dX4_waiting_7 ?_
  rw [i7, nI_clamp (by omega)]
  refine lv_topl (fun v7 e7 => ?_)
  rw [e7, h359]
  refine lv_l2i hx hb dX4_waiting_8 (l2iN (by omega)) ?_
  refine lv_istore_n (lv' := [(2, .int (nI kp)), (0, .ref (b 0)), (1, .int (nI n))]) hx hb dX4_waiting_9 rfl hl (by decide) rfl (fun ls hl => ?_)
  refine lv_iconst (v := nI 0) hx hb dX4_waiting_10 (by decide) ?_
  refine lv_istore_n (lv' := [(3, .int (nI 0)), (2, .int (nI kp)), (0, .ref (b 0)), (1, .int (nI n))]) hx hb dX4_waiting_11 rfl hl (by decide) rfl (fun ls hl => ?_)
  refine lpR (α := Nat) (fun (x9 : Nat) => x9 ≤ kp ∧ ∀ k, k < x9 → rnk al kp k ≠ n) (fun (x9 : Nat) => kp - x9) (fun (x9 : Nat) => [(0, .ref (b 0)), (1, .int (nI n)), (2, .int (nI kp)), (3, .int (nI x9))]) 10 12 (fun x9 hI12 ih12 ls hl => ?_) 0 (⟨Nat.zero_le _, fun k hk9 => absurd hk9 (Nat.not_lt_zero _)⟩) ls (lv_sub hl [2, 3, 1, 0] rfl)
  obtain ⟨kk, rfl⟩ : ∃ z, z = x9 := ⟨_, rfl⟩
  have hI12 : kk ≤ kp ∧ ∀ k, k < kk → rnk al kp k ≠ n := hI12
  have hl : lv_has ls 10 [(0, .ref (b 0)), (1, .int (nI n)), (2, .int (nI kp)), (3, .int (nI kk))] := hl
  refine lv_iload_n hx hb dX4_waiting_12 rfl (lv_at hl 3 rfl) ?_
  refine lv_iload_n hx hb dX4_waiting_13 rfl (lv_at hl 2 rfl) ?_
  refine lv_icmp_ge (tgt := 110) hx hb dX4_waiting_14 (by decide) (fun c14 => ?_) (fun c14 => ?_)
  · have c14 := (nI_leI (a := kp) (b := kk) (by omega) (by omega)).mp c14
    refine lv_iconst (v := -1) hx hb dX4_waiting_110 (by decide) ?_
    exact eI (v := -1) hx hb hr hlocks (Or.inl ⟨rfl, fun k hk9 => hI12.2 k (by omega)⟩) dX4_waiting_111
  · have c14 := mt (nI_leI (a := kp) (b := kk) (by omega) (by omega)).mpr c14
    refine lv_iconst (v := nI 0) hx hb dX4_waiting_17 (by decide) ?_
    refine lv_istore (lv' := [(4, .int (nI 0)), (0, .ref (b 0)), (1, .int (nI n)), (2, .int (nI kp)), (3, .int (nI kk))]) hx hb dX4_waiting_18 hl (by decide) rfl (fun ls hl => ?_)
    refine lv_iconst (v := nI 0) hx hb dX4_waiting_20 (by decide) ?_
    refine lv_istore (lv' := [(5, .int (nI 0)), (4, .int (nI 0)), (0, .ref (b 0)), (1, .int (nI n)), (2, .int (nI kp)), (3, .int (nI kk))]) hx hb dX4_waiting_21 hl (by decide) rfl (fun ls hl => ?_)
    refine lpR (α := Nat × Nat) (fun (x9 : Nat × Nat) => x9.2 = fb_ct (ahb al kk) x9.1 ∧ x9.1 ≤ kp) (fun (x9 : Nat × Nat) => kp - x9.1) (fun (x9 : Nat × Nat) => [(0, .ref (b 0)), (1, .int (nI n)), (2, .int (nI kp)), (3, .int (nI kk)), (4, .int (nI x9.2)), (5, .int (nI x9.1))]) 10 23 (fun x9 hI23 ih23 ls hl => ?_) (0, 0) (⟨rfl, Nat.zero_le _⟩) ls (lv_sub hl [2, 3, 4, 5, 1, 0] rfl)
    obtain ⟨jj, cc⟩ := x9
    have hI23 : cc = fb_ct (ahb al kk) jj ∧ jj ≤ kp := hI23
    have hl : lv_has ls 10 [(0, .ref (b 0)), (1, .int (nI n)), (2, .int (nI kp)), (3, .int (nI kk)), (4, .int (nI cc)), (5, .int (nI jj))] := hl
    have hcc := fb_ct_le (ahb al kk) jj
    refine lv_iload hx hb dX4_waiting_23 (lv_at hl 5 rfl) ?_
    refine lv_iload_n hx hb dX4_waiting_25 rfl (lv_at hl 2 rfl) ?_
    refine lv_icmp_ge (tgt := 96) hx hb dX4_waiting_26 (by decide) (fun c26 => ?_) (fun c26 => ?_)
    · have c26 := (nI_leI (a := kp) (b := jj) (by omega) (by omega)).mp c26
      refine lv_iload hx hb dX4_waiting_96 (lv_at hl 4 rfl) ?_
      refine lv_iload_n hx hb dX4_waiting_98 rfl (lv_at hl 1 rfl) ?_
      refine lv_icmp_ne (tgt := 104) hx hb dX4_waiting_99 (by decide) (fun c99 => ?_) (fun c99 => ?_)
      · have c99 := mt (nI_eq (a := cc) (b := n) (by omega) (by omega)).mpr c99
        refine lv_iinc (v := nI (kk + 1)) (lv' := [(3, .int (nI (kk + 1))), (0, .ref (b 0)), (1, .int (nI n)), (2, .int (nI kp)), (4, .int (nI cc)), (5, .int (nI jj))]) hx hb dX4_waiting_104 hl (k := 3) rfl (nI_add kk 1) (by decide) rfl (fun ls hl => ?_)
        refine lv_goto (tgt := 12) hx hb dX4_waiting_107 (by decide) ?_
        have hB12 : (kk + 1) ≤ kp ∧ ∀ k, k < (kk + 1) → rnk al kp k ≠ n := ⟨by omega, fun k h1 => by rcases Nat.lt_or_ge k kk with g | g; exact hI12.2 k g; rw [show k = kk by omega]; intro q; exact c99 (by rw [hI23.1, show jj = kp by omega]; exact q)⟩
        exact ih12 (kk + 1) (hB12) (by omega) ls (lv_sub hl [1, 2, 3, 0] rfl)
      · have c99 := (nI_eq (a := cc) (b := n) (by omega) (by omega)).mp c99
        refine lv_iload_n hx hb dX4_waiting_102 rfl (lv_at hl 3 rfl) ?_
        exact eI (v := nI kk) hx hb hr hlocks (Or.inr ⟨kk, by omega, rfl, by rw [← c99, hI23.1, show jj = kp by omega]; rfl⟩) dX4_waiting_103
    · have c26 := mt (nI_leI (a := kp) (b := jj) (by omega) (by omega)).mpr c26
      refine lv_aload_n hx hb dX4_waiting_29 rfl (lv_at hl 0 rfl) ?_
      refine va_get (D := K.1) (ci := 6) (v := .ref (b 1)) (C := RX4) (T := TX4) (N := 4) hx hb hts inX4 hown hE.1 hP 0 rfl rfl 0 (by decide) (hts _ kf_X4_7) (fun _ h9 => h9) rfl dX4_waiting_30 ?_
      refine lv_sipush (v := nI 360) hx hb dX4_waiting_33 (by decide) ?_
      refine lv_iconst (v := nI 5) hx hb dX4_waiting_36 (by decide) ?_
      refine lv_iload hx hb dX4_waiting_37 (lv_at hl 5 rfl) ?_
      refine lv_imul hx hb dX4_waiting_39 ?_
      rw [pk_mul 5 jj]
      refine lv_iadd hx hb dX4_waiting_40 ?_
      rw [nI_add 360 (5 * jj)]
      have i41 : nI (360 + 5 * jj) = nI (360 + 5 * jj) := rfl
      have j41 : 360 + 5 * jj < 460 := by omega
      refine va_lald hx hb hE.1 hP 1 1 rfl rfl (by rw [i41]; exact vp_in_nI j41 (by omega)) dX4_waiting_41 ?_
      rw [i41, nI_clamp (by omega)]
      refine lv_topl (fun v41 e41 => ?_)
      refine lv_lstore (lv' := [(6, .long v41), (0, .ref (b 0)), (1, .int (nI n)), (2, .int (nI kp)), (3, .int (nI kk)), (4, .int (nI cc)), (5, .int (nI jj))]) hx hb dX4_waiting_42 hl (by decide) rfl (fun ls hl => ?_)
      refine lv_aload_n hx hb dX4_waiting_44 rfl (lv_at hl 1 rfl) ?_
      refine va_get (D := K.1) (ci := 6) (v := .ref (b 1)) (C := RX4) (T := TX4) (N := 4) hx hb hts inX4 hown hE.1 hP 0 rfl rfl 0 (by decide) (hts _ kf_X4_7) (fun _ h9 => h9) rfl dX4_waiting_45 ?_
      refine lv_sipush (v := nI 360) hx hb dX4_waiting_48 (by decide) ?_
      refine lv_iconst (v := nI 5) hx hb dX4_waiting_51 (by decide) ?_
      refine lv_iload_n hx hb dX4_waiting_52 rfl (lv_at hl 4 rfl) ?_
      refine lv_imul hx hb dX4_waiting_53 ?_
      rw [pk_mul 5 kk]
      refine lv_iadd hx hb dX4_waiting_54 ?_
      rw [nI_add 360 (5 * kk)]
      have i55 : nI (360 + 5 * kk) = nI (360 + 5 * kk) := rfl
      have j55 : 360 + 5 * kk < 460 := by omega
      refine va_lald hx hb hE.1 hP 1 1 rfl rfl (by rw [i55]; exact vp_in_nI j55 (by omega)) dX4_waiting_55 ?_
      rw [i55, nI_clamp (by omega)]
      refine lv_topl (fun v55 e55 => ?_)
      refine lv_lstore (lv' := [(8, .long v55), (6, .long v41), (0, .ref (b 0)), (1, .int (nI n)), (2, .int (nI kp)), (3, .int (nI kk)), (4, .int (nI cc)), (5, .int (nI jj))]) hx hb dX4_waiting_56 hl (by decide) rfl (fun ls hl => ?_)
      refine lv_iload hx hb dX4_waiting_58 (lv_at hl 6 rfl) ?_
      refine lv_lload hx hb dX4_waiting_60 (lv_at hl 1 rfl) ?_
      refine lv_lload hx hb dX4_waiting_62 (lv_at hl 0 rfl) ?_
      refine W.lcmp hx hb dX4_waiting_64 ?_
      refine lv_if_lt (tgt := 82) hx hb dX4_waiting_65 (by decide) (fun c65 => ?_) (fun c65 => ?_)
      · have c65 := (lg_cmp_lt _ _).mp c65
        refine lv_iconst (v := nI 1) hx hb dX4_waiting_82 (by decide) ?_
        refine lv_goto (tgt := 87) hx hb dX4_waiting_83 (by decide) ?_
        refine lv_iadd hx hb dX4_waiting_87 ?_
        rw [nI_add cc 1]
        refine lv_istore (lv' := [(4, .int (nI (cc + 1))), (8, .long v55), (6, .long v41), (0, .ref (b 0)), (1, .int (nI n)), (2, .int (nI kp)), (3, .int (nI kk)), (5, .int (nI jj))]) hx hb dX4_waiting_88 hl (by decide) rfl (fun ls hl => ?_)
        refine lv_iinc (v := nI (jj + 1)) (lv' := [(5, .int (nI (jj + 1))), (4, .int (nI (cc + 1))), (8, .long v55), (6, .long v41), (0, .ref (b 0)), (1, .int (nI n)), (2, .int (nI kp)), (3, .int (nI kk))]) hx hb dX4_waiting_90 hl (k := 7) rfl (nI_add jj 1) (by decide) rfl (fun ls hl => ?_)
        refine lv_goto (tgt := 23) hx hb dX4_waiting_93 (by decide) ?_
        have hB23 : (cc + 1) = fb_ct (ahb al kk) (jj + 1) ∧ (jj + 1) ≤ kp := ⟨rnk_t (by unfold ahd; rw [← e41, ← e55]; first | exact Or.inl c65 | exact Or.inr ⟨c73, by omega⟩) hI23.1, by omega⟩
        exact ih23 (jj + 1, cc + 1) (hB23) (by omega) ls (lv_sub hl [4, 5, 6, 7, 1, 0] rfl)
      · have c65 := fun q => c65 ((lg_cmp_lt _ _).mpr q)
        refine lv_lload hx hb dX4_waiting_68 (lv_at hl 1 rfl) ?_
        refine lv_lload hx hb dX4_waiting_70 (lv_at hl 0 rfl) ?_
        refine W.lcmp hx hb dX4_waiting_72 ?_
        refine lv_if_ne (tgt := 86) hx hb dX4_waiting_73 (by decide) (fun c73 => ?_) (fun c73 => ?_)
        · have c73 := fun q => c73 ((lg_cmp_eq _ _).mpr q)
          refine lv_iconst (v := nI 0) hx hb dX4_waiting_86 (by decide) ?_
          refine lv_iadd hx hb dX4_waiting_87 ?_
          rw [nI_add cc 0]
          refine lv_istore (lv' := [(4, .int (nI (cc + 0))), (8, .long v55), (6, .long v41), (0, .ref (b 0)), (1, .int (nI n)), (2, .int (nI kp)), (3, .int (nI kk)), (5, .int (nI jj))]) hx hb dX4_waiting_88 hl (by decide) rfl (fun ls hl => ?_)
          refine lv_iinc (v := nI (jj + 1)) (lv' := [(5, .int (nI (jj + 1))), (4, .int (nI (cc + 0))), (8, .long v55), (6, .long v41), (0, .ref (b 0)), (1, .int (nI n)), (2, .int (nI kp)), (3, .int (nI kk))]) hx hb dX4_waiting_90 hl (k := 7) rfl (nI_add jj 1) (by decide) rfl (fun ls hl => ?_)
          refine lv_goto (tgt := 23) hx hb dX4_waiting_93 (by decide) ?_
          have hB23 : (cc + 0) = fb_ct (ahb al kk) (jj + 1) ∧ (jj + 1) ≤ kp := ⟨rnk_f (by unfold ahd; rw [← e41, ← e55]; rintro (g | ⟨g1, g2⟩); exact c65 g; first | exact c73 g1 | omega) hI23.1, by omega⟩
          exact ih23 (jj + 1, cc + 0) (hB23) (by omega) ls (lv_sub hl [4, 5, 6, 7, 1, 0] rfl)
        · have c73 := (lg_cmp_eq _ _).mp c73
          refine lv_iload hx hb dX4_waiting_76 (lv_at hl 7 rfl) ?_
          refine lv_iload_n hx hb dX4_waiting_78 rfl (lv_at hl 5 rfl) ?_
          refine lv_icmp_ge (tgt := 86) hx hb dX4_waiting_79 (by decide) (fun c79 => ?_) (fun c79 => ?_)
          · have c79 := (nI_leI (a := kk) (b := jj) (by omega) (by omega)).mp c79
            refine lv_iconst (v := nI 0) hx hb dX4_waiting_86 (by decide) ?_
            refine lv_iadd hx hb dX4_waiting_87 ?_
            rw [nI_add cc 0]
            refine lv_istore (lv' := [(4, .int (nI (cc + 0))), (8, .long v55), (6, .long v41), (0, .ref (b 0)), (1, .int (nI n)), (2, .int (nI kp)), (3, .int (nI kk)), (5, .int (nI jj))]) hx hb dX4_waiting_88 hl (by decide) rfl (fun ls hl => ?_)
            refine lv_iinc (v := nI (jj + 1)) (lv' := [(5, .int (nI (jj + 1))), (4, .int (nI (cc + 0))), (8, .long v55), (6, .long v41), (0, .ref (b 0)), (1, .int (nI n)), (2, .int (nI kp)), (3, .int (nI kk))]) hx hb dX4_waiting_90 hl (k := 7) rfl (nI_add jj 1) (by decide) rfl (fun ls hl => ?_)
            refine lv_goto (tgt := 23) hx hb dX4_waiting_93 (by decide) ?_
            have hB23 : (cc + 0) = fb_ct (ahb al kk) (jj + 1) ∧ (jj + 1) ≤ kp := ⟨rnk_f (by unfold ahd; rw [← e41, ← e55]; rintro (g | ⟨g1, g2⟩); exact c65 g; first | exact c73 g1 | omega) hI23.1, by omega⟩
            exact ih23 (jj + 1, cc + 0) (hB23) (by omega) ls (lv_sub hl [4, 5, 6, 7, 1, 0] rfl)
          · have c79 := mt (nI_leI (a := kk) (b := jj) (by omega) (by omega)).mpr c79
            refine lv_iconst (v := nI 1) hx hb dX4_waiting_82 (by decide) ?_
            refine lv_goto (tgt := 87) hx hb dX4_waiting_83 (by decide) ?_
            refine lv_iadd hx hb dX4_waiting_87 ?_
            rw [nI_add cc 1]
            refine lv_istore (lv' := [(4, .int (nI (cc + 1))), (8, .long v55), (6, .long v41), (0, .ref (b 0)), (1, .int (nI n)), (2, .int (nI kp)), (3, .int (nI kk)), (5, .int (nI jj))]) hx hb dX4_waiting_88 hl (by decide) rfl (fun ls hl => ?_)
            refine lv_iinc (v := nI (jj + 1)) (lv' := [(5, .int (nI (jj + 1))), (4, .int (nI (cc + 1))), (8, .long v55), (6, .long v41), (0, .ref (b 0)), (1, .int (nI n)), (2, .int (nI kp)), (3, .int (nI kk))]) hx hb dX4_waiting_90 hl (k := 7) rfl (nI_add jj 1) (by decide) rfl (fun ls hl => ?_)
            refine lv_goto (tgt := 23) hx hb dX4_waiting_93 (by decide) ?_
            have hB23 : (cc + 1) = fb_ct (ahb al kk) (jj + 1) ∧ (jj + 1) ≤ kp := ⟨rnk_t (by unfold ahd; rw [← e41, ← e55]; first | exact Or.inl c65 | exact Or.inr ⟨c73, by omega⟩) hI23.1, by omega⟩
            exact ih23 (jj + 1, cc + 1) (hB23) (by omega) ls (lv_sub hl [4, 5, 6, 7, 1, 0] rfl)
