/-! the face: fixes, and what is answered in doubles -/
def dxs (fn : Nat → Int32) (i j c : Nat) : Int := 2 * (nd fn j c - nd fn i c)
def detS (fn : Nat → Int32) (i j k : Nat) : Int := dxs fn i j 0 * dxs fn i k 1 - dxs fn i k 0 * dxs fn i j 1
def numS (fn : Nat → Int32) (i j k : Nat) (RJ RK : Int) (ax : Nat) : Int := if ax = 0 then RJ * dxs fn i k 1 - RK * dxs fn i j 1 else dxs fn i j 0 * RK - dxs fn i k 0 * RJ
def solS (fn : Nat → Int32) (i j k : Nat) (RJ RK : Int) (ax : Nat) : Int := (numS fn i j k RJ RK ax).fdiv (detS fn i j k)
def solOk (fn : Nat → Int32) (i j k : Nat) (RJ RK : Int) (ax : Nat) : Prop := detS fn i j k ≠ 0 ∧ -2147483648 ≤ solS fn i j k RJ RK ax ∧ solS fn i j k RJ RK ax ≤ 2147483647
theorem dxs_rng {fn : Nat → Int32} {i j : Nat} (hi : nOk fn i) (hj : nOk fn j) : (-4000 ≤ dxs fn i j 0 ∧ dxs fn i j 0 ≤ 4000) ∧ (-4000 ≤ dxs fn i j 1 ∧ dxs fn i j 1 ≤ 4000) := by
  have a := hi.1
  have b := hi.2.1
  have c := hj.1
  have d := hj.2.1
  unfold dxs
  omega
theorem mulr {a b A B : Int} (ha : -A ≤ a ∧ a ≤ A) (hb : -B ≤ b ∧ b ≤ B) : -(A * B) ≤ a * b ∧ a * b ≤ A * B := by
  have h := Int.natAbs_mul a b
  have e : (a * b).natAbs ≤ (A * B).natAbs := by
    rw [h, Int.natAbs_mul]
    exact Nat.mul_le_mul (by omega) (by omega)
  have hA : 0 ≤ A * B := Int.mul_nonneg (by omega) (by omega)
  omega
/-- the right side -/
def sfoS (fn : Nat → Int32) (i : Nat) : Int := nd fn i 0 * nd fn i 0 + nd fn i 1 * nd fn i 1
theorem sfo_rng {fn : Nat → Int32} {i : Nat} (hi : nOk fn i) : 0 ≤ sfoS fn i ∧ sfoS fn i ≤ 2000000 := by
  have a := sq_le (x := nd fn i 0) (n := 1000) hi.1.1 hi.1.2
  have b := sq_le (x := nd fn i 1) (n := 1000) hi.2.1.1 hi.2.1.2
  unfold sfoS
  omega
def rgtS (fn fr : Nat → Int32) (ei ej i j m : Nat) : Int := rng fn fr ei m * rng fn fr ei m - rng fn fr ej m * rng fn fr ej m + sfoS fn j - sfoS fn i
theorem rsq_rng {kn : Nat} {fn fr : Nat → Int32} {e : Nat} (m : Nat) (hn : ∀ i, i < kn → nOk fn i) (hr : rOk kn fr e) : 0 ≤ rng fn fr e m * rng fn fr e m ∧ rng fn fr e m * rng fn fr e m ≤ 10000000000000 := by
  have a := rng_rng m hn hr
  have b := sq_le (x := rng fn fr e m) (n := 3048576) a.1 a.2
  omega
theorem rgt_rng {kn : Nat} {fn fr : Nat → Int32} {ei ej i j : Nat} (m : Nat) (hn : ∀ i, i < kn → nOk fn i) (h1 : rOk kn fr ei) (h2 : rOk kn fr ej) (hi : nOk fn i) (hj : nOk fn j) : -20000000000000 ≤ rgtS fn fr ei ej i j m ∧ rgtS fn fr ei ej i j m ≤ 20000000000000 := by
  have a := rsq_rng m hn h1
  have b := rsq_rng m hn h2
  have c := sfo_rng hi
  have d := sfo_rng hj
  unfold rgtS
  omega
set_option maxHeartbeats 4000000 in
set_option maxRecDepth 100000 in
theorem c_solve (l : Launch) (hl9 : l.stackTraces = false) (K : EK) (a : Nat → Nat) (t : Int64) (kn : Nat) (fn : Nat → Int32) (kr : Nat) (fr : Nat → Int32) (kp : Nat) (fp : Nat → Int32) (i j k ax : Nat) (rj rk : Int64) (RJ RK : Int) (hi6 : i < 6) (hj6 : j < 6) (hk6 : k < 6) (hi : nOk fn i) (hj : nOk fn j) (hk : nOk fn k) (hax : ax ≤ 1) (hRJ : rj.toInt = RJ) (hRK : rk.toInt = RK) (bJ : -20000000000000 ≤ RJ ∧ RJ ≤ 20000000000000) (bK : -20000000000000 ≤ RK ∧ RK ≤ 20000000000000) : vx_Met l yX3_solve (wq yX3_solve cX3_solve 23 (some .int)) (rmL 6 1 6) (va_Pc [.ref (a 0), .int (nI i), .int (nI j), .int (nI k), .long rj, .long rk, .int (nI ax)] (PX K [(a 0, .inr (5, [.ref (a 1), .ref (a 8)])), (a 1, .inr (3, [.long t, .ref (a 2), .ref (a 3), .ref (a 4)])), (a 2, .inr (4, [.ref (a 5), .int (nI 6), .int (nI kn)])), (a 3, .inr (4, [.ref (a 6), .int (nI 8), .int (nI kr)])), (a 4, .inr (4, [.ref (a 7), .int (nI 5), .int (nI kp)])), (a 5, .inl (K.2.1, 36, .inl (fn))), (a 6, .inl (K.2.1, 320, .inl (fr))), (a 7, .inl (K.2.1, 100, .inl (fp)))])) (vp_Si (fun r => r.toInt = solS fn i j k RJ RK ax ∧ solOk fn i j k RJ RK ax)) (XX (fun E => E = xAR ∧ ¬ solOk fn i j k RJ RK ax)) 1 6 NF := by
  refine hdX (by decide) (Nat.le_of_ble_eq_true rfl) ?_
  intro pp ee s mm bl9 me9 cd hx hb hr hlocks hml hown hts htab hE hP A hA hZ ls hl
  have hown : s.vm.findClass RX3 = some mm.cls := hown
  have hP : va_P K.1 vwCl [(a 0, .inr (5, [.ref (a 1), .ref (a 8)])), (a 1, .inr (3, [.long t, .ref (a 2), .ref (a 3), .ref (a 4)])), (a 2, .inr (4, [.ref (a 5), .int (nI 6), .int (nI kn)])), (a 3, .inr (4, [.ref (a 6), .int (nI 8), .int (nI kr)])), (a 4, .inr (4, [.ref (a 7), .int (nI 5), .int (nI kp)])), (a 5, .inl (K.2.1, 36, .inl (fn))), (a 6, .inl (K.2.1, 320, .inl (fr))), (a 7, .inl (K.2.1, 100, .inl (fp)))] s.heap := hP
  have hl : lv_has ls 23 [(0, .ref (a 0)), (1, .int (nI i)), (2, .int (nI j)), (3, .int (nI k)), (4, .long rj), (6, .long rk), (8, .int (nI ax))] := hl
  have ri0 := hi.1
  have ri1 := hi.2.1
  have rj0 := hj.1
  have rj1 := hj.2.1
  have rk0 := hk.1
  have rk1 := hk.2.1
  obtain ⟨x1, x2⟩ := dxs_rng hi hj
  obtain ⟨x3, x4⟩ := dxs_rng hi hk
  have p1 := mulr x1 x4
  have p2 := mulr x3 x2
  have p3 := mulr (A := 20000000000000) bJ x4
  have p4 := mulr (A := 20000000000000) bK x2
  have p5 := mulr (B := 20000000000000) x1 bK
  have p6 := mulr (B := 20000000000000) x3 bJ
  refine lv_ldc2 (v := lN 2) hx hb hown (hts _ kw_X3_207) dX3_solve_0 ?_
  refine lv_aload_n hx hb dX3_solve_3 rfl (lv_at hl 0 rfl) ?_
  refine va_get (D := K.1) (ci := 5) (v := .ref (a 1)) (C := RX3) (T := TX3) (N := 2) hx hb hts inX3 hown hE.1 hP 0 rfl rfl 0 (by decide) (hts _ kf_X3_10) (fun _ h9 => h9) rfl dX3_solve_4 ?_
  refine va_getN (D := K.1) (ci := 3) (v := .ref (a 2)) (C := RX1) (T := TX1) (N := 4) hx hb hts inX1 hown hE.1 hP 1 rfl rfl 1 (by decide) (va_Nw.use rfl (hE.2.1 _ (List.mem_of_getElem? (i := 3) rfl))) (fun _ h9 => h9) rfl dX3_solve_7 ?_
  refine lv_iload_n hx hb dX3_solve_10 rfl (lv_at hl 2 rfl) ?_
  refine lv_iconst (v := nI 0) hx hb dX3_solve_11 (by decide) ?_
  refine goI (rdV (As := [.int (nI j), .int (nI 0)]) (rest := [.long (lN 2)]) (c_get l K (a 2) (a 5) 36 6 kn j 0 fn (by omega) (by omega)) ⟨hx, hb, hml, hown, hts⟩ (gV kl_X3_64 ki_X2_get ks_X2_get kn_X2 kc_X2_get) (by show okN yX2_get 2; decide +kernel) ⟨⟨Nat.le_of_ble_eq_true rfl, Nat.le_of_ble_eq_true rfl⟩, rfl, rfl⟩ hE hP [2, 5] rfl ⟨0, 4, _, _, rfl, rfl, rfl⟩ hl.1 rfl (Nat.le_of_ble_eq_true rfl) dX3_solve_12 ⟨Nat.le_of_ble_eq_true rfl, Nat.le_of_ble_eq_true rfl⟩) (fun v12 e12 => ?_)
  refine lv_aload_n hx hb dX3_solve_15 rfl (lv_at hl 0 rfl) ?_
  refine va_get (D := K.1) (ci := 5) (v := .ref (a 1)) (C := RX3) (T := TX3) (N := 2) hx hb hts inX3 hown hE.1 hP 0 rfl rfl 0 (by decide) (hts _ kf_X3_10) (fun _ h9 => h9) rfl dX3_solve_16 ?_
  refine va_getN (D := K.1) (ci := 3) (v := .ref (a 2)) (C := RX1) (T := TX1) (N := 4) hx hb hts inX1 hown hE.1 hP 1 rfl rfl 1 (by decide) (va_Nw.use rfl (hE.2.1 _ (List.mem_of_getElem? (i := 3) rfl))) (fun _ h9 => h9) rfl dX3_solve_19 ?_
  refine lv_iload_n hx hb dX3_solve_22 rfl (lv_at hl 1 rfl) ?_
  refine lv_iconst (v := nI 0) hx hb dX3_solve_23 (by decide) ?_
  refine goI (rdV (As := [.int (nI i), .int (nI 0)]) (rest := [.int v12, .long (lN 2)]) (c_get l K (a 2) (a 5) 36 6 kn i 0 fn (by omega) (by omega)) ⟨hx, hb, hml, hown, hts⟩ (gV kl_X3_64 ki_X2_get ks_X2_get kn_X2 kc_X2_get) (by show okN yX2_get 2; decide +kernel) ⟨⟨Nat.le_of_ble_eq_true rfl, Nat.le_of_ble_eq_true rfl⟩, rfl, rfl⟩ hE hP [2, 5] rfl ⟨0, 4, _, _, rfl, rfl, rfl⟩ hl.1 rfl (Nat.le_of_ble_eq_true rfl) dX3_solve_24 ⟨Nat.le_of_ble_eq_true rfl, Nat.le_of_ble_eq_true rfl⟩) (fun v24 e24 => ?_)
  refine lv_isub hx hb dX3_solve_27 ?_
  refine lv_topi (fun v27 e27 => ?_)
  have q27 : v27.toInt = nd fn j 0 - nd fn i 0 := by rw [e27, fb_subI (by rw [e12, e24]; unfold nd at rj0 ri0; omega) (by rw [e12, e24]; unfold nd at rj0 ri0; omega), e12, e24]; rfl
  refine lv_i2l hx hb dX3_solve_28 rfl ?_
  refine lv_topl (fun v28 e28 => ?_)
  have q28 : v28.toInt = nd fn j 0 - nd fn i 0 := by rw [e28, i64T, q27]
  refine lv_lmul hx hb dX3_solve_29 ?_
  refine lv_topl (fun v29 e29 => ?_)
  have q29 : v29.toInt = dxs fn i j 0 := by rw [e29, fb_mulL (by rw [lN_T (by omega), q28]; omega) (by rw [lN_T (by omega), q28]; omega), lN_T (by omega), q28]; rfl
  refine lv_lstore (lv' := [(9, .long v29), (0, .ref (a 0)), (1, .int (nI i)), (2, .int (nI j)), (3, .int (nI k)), (4, .long rj), (6, .long rk), (8, .int (nI ax))]) hx hb dX3_solve_30 hl (by decide) rfl (fun ls hl => ?_)
  refine lv_ldc2 (v := lN 2) hx hb hown (hts _ kw_X3_207) dX3_solve_32 ?_
  refine lv_aload_n hx hb dX3_solve_35 rfl (lv_at hl 1 rfl) ?_
  refine va_get (D := K.1) (ci := 5) (v := .ref (a 1)) (C := RX3) (T := TX3) (N := 2) hx hb hts inX3 hown hE.1 hP 0 rfl rfl 0 (by decide) (hts _ kf_X3_10) (fun _ h9 => h9) rfl dX3_solve_36 ?_
  refine va_getN (D := K.1) (ci := 3) (v := .ref (a 2)) (C := RX1) (T := TX1) (N := 4) hx hb hts inX1 hown hE.1 hP 1 rfl rfl 1 (by decide) (va_Nw.use rfl (hE.2.1 _ (List.mem_of_getElem? (i := 3) rfl))) (fun _ h9 => h9) rfl dX3_solve_39 ?_
  refine lv_iload_n hx hb dX3_solve_42 rfl (lv_at hl 3 rfl) ?_
  refine lv_iconst (v := nI 1) hx hb dX3_solve_43 (by decide) ?_
  refine goI (rdV (As := [.int (nI j), .int (nI 1)]) (rest := [.long (lN 2)]) (c_get l K (a 2) (a 5) 36 6 kn j 1 fn (by omega) (by omega)) ⟨hx, hb, hml, hown, hts⟩ (gV kl_X3_64 ki_X2_get ks_X2_get kn_X2 kc_X2_get) (by show okN yX2_get 2; decide +kernel) ⟨⟨Nat.le_of_ble_eq_true rfl, Nat.le_of_ble_eq_true rfl⟩, rfl, rfl⟩ hE hP [2, 5] rfl ⟨0, 4, _, _, rfl, rfl, rfl⟩ hl.1 rfl (Nat.le_of_ble_eq_true rfl) dX3_solve_44 ⟨Nat.le_of_ble_eq_true rfl, Nat.le_of_ble_eq_true rfl⟩) (fun v44 e44 => ?_)
  refine lv_aload_n hx hb dX3_solve_47 rfl (lv_at hl 1 rfl) ?_
  refine va_get (D := K.1) (ci := 5) (v := .ref (a 1)) (C := RX3) (T := TX3) (N := 2) hx hb hts inX3 hown hE.1 hP 0 rfl rfl 0 (by decide) (hts _ kf_X3_10) (fun _ h9 => h9) rfl dX3_solve_48 ?_
  refine va_getN (D := K.1) (ci := 3) (v := .ref (a 2)) (C := RX1) (T := TX1) (N := 4) hx hb hts inX1 hown hE.1 hP 1 rfl rfl 1 (by decide) (va_Nw.use rfl (hE.2.1 _ (List.mem_of_getElem? (i := 3) rfl))) (fun _ h9 => h9) rfl dX3_solve_51 ?_
  refine lv_iload_n hx hb dX3_solve_54 rfl (lv_at hl 2 rfl) ?_
  refine lv_iconst (v := nI 1) hx hb dX3_solve_55 (by decide) ?_
  refine goI (rdV (As := [.int (nI i), .int (nI 1)]) (rest := [.int v44, .long (lN 2)]) (c_get l K (a 2) (a 5) 36 6 kn i 1 fn (by omega) (by omega)) ⟨hx, hb, hml, hown, hts⟩ (gV kl_X3_64 ki_X2_get ks_X2_get kn_X2 kc_X2_get) (by show okN yX2_get 2; decide +kernel) ⟨⟨Nat.le_of_ble_eq_true rfl, Nat.le_of_ble_eq_true rfl⟩, rfl, rfl⟩ hE hP [2, 5] rfl ⟨0, 4, _, _, rfl, rfl, rfl⟩ hl.1 rfl (Nat.le_of_ble_eq_true rfl) dX3_solve_56 ⟨Nat.le_of_ble_eq_true rfl, Nat.le_of_ble_eq_true rfl⟩) (fun v56 e56 => ?_)
  refine lv_isub hx hb dX3_solve_59 ?_
  refine lv_topi (fun v59 e59 => ?_)
  have q59 : v59.toInt = nd fn j 1 - nd fn i 1 := by rw [e59, fb_subI (by rw [e44, e56]; unfold nd at rj1 ri1; omega) (by rw [e44, e56]; unfold nd at rj1 ri1; omega), e44, e56]; rfl
  refine lv_i2l hx hb dX3_solve_60 rfl ?_
  refine lv_topl (fun v60 e60 => ?_)
  have q60 : v60.toInt = nd fn j 1 - nd fn i 1 := by rw [e60, i64T, q59]
  refine lv_lmul hx hb dX3_solve_61 ?_
  refine lv_topl (fun v61 e61 => ?_)
  have q61 : v61.toInt = dxs fn i j 1 := by rw [e61, fb_mulL (by rw [lN_T (by omega), q60]; omega) (by rw [lN_T (by omega), q60]; omega), lN_T (by omega), q60]; rfl
  refine lv_lstore (lv' := [(11, .long v61), (9, .long v29), (0, .ref (a 0)), (1, .int (nI i)), (2, .int (nI j)), (3, .int (nI k)), (4, .long rj), (6, .long rk), (8, .int (nI ax))]) hx hb dX3_solve_62 hl (by decide) rfl (fun ls hl => ?_)
  refine lv_ldc2 (v := lN 2) hx hb hown (hts _ kw_X3_207) dX3_solve_64 ?_
  refine lv_aload_n hx hb dX3_solve_67 rfl (lv_at hl 2 rfl) ?_
  refine va_get (D := K.1) (ci := 5) (v := .ref (a 1)) (C := RX3) (T := TX3) (N := 2) hx hb hts inX3 hown hE.1 hP 0 rfl rfl 0 (by decide) (hts _ kf_X3_10) (fun _ h9 => h9) rfl dX3_solve_68 ?_
  refine va_getN (D := K.1) (ci := 3) (v := .ref (a 2)) (C := RX1) (T := TX1) (N := 4) hx hb hts inX1 hown hE.1 hP 1 rfl rfl 1 (by decide) (va_Nw.use rfl (hE.2.1 _ (List.mem_of_getElem? (i := 3) rfl))) (fun _ h9 => h9) rfl dX3_solve_71 ?_
  refine lv_iload_n hx hb dX3_solve_74 rfl (lv_at hl 5 rfl) ?_
  refine lv_iconst (v := nI 0) hx hb dX3_solve_75 (by decide) ?_
  refine goI (rdV (As := [.int (nI k), .int (nI 0)]) (rest := [.long (lN 2)]) (c_get l K (a 2) (a 5) 36 6 kn k 0 fn (by omega) (by omega)) ⟨hx, hb, hml, hown, hts⟩ (gV kl_X3_64 ki_X2_get ks_X2_get kn_X2 kc_X2_get) (by show okN yX2_get 2; decide +kernel) ⟨⟨Nat.le_of_ble_eq_true rfl, Nat.le_of_ble_eq_true rfl⟩, rfl, rfl⟩ hE hP [2, 5] rfl ⟨0, 4, _, _, rfl, rfl, rfl⟩ hl.1 rfl (Nat.le_of_ble_eq_true rfl) dX3_solve_76 ⟨Nat.le_of_ble_eq_true rfl, Nat.le_of_ble_eq_true rfl⟩) (fun v76 e76 => ?_)
  refine lv_aload_n hx hb dX3_solve_79 rfl (lv_at hl 2 rfl) ?_
  refine va_get (D := K.1) (ci := 5) (v := .ref (a 1)) (C := RX3) (T := TX3) (N := 2) hx hb hts inX3 hown hE.1 hP 0 rfl rfl 0 (by decide) (hts _ kf_X3_10) (fun _ h9 => h9) rfl dX3_solve_80 ?_
  refine va_getN (D := K.1) (ci := 3) (v := .ref (a 2)) (C := RX1) (T := TX1) (N := 4) hx hb hts inX1 hown hE.1 hP 1 rfl rfl 1 (by decide) (va_Nw.use rfl (hE.2.1 _ (List.mem_of_getElem? (i := 3) rfl))) (fun _ h9 => h9) rfl dX3_solve_83 ?_
  refine lv_iload_n hx hb dX3_solve_86 rfl (lv_at hl 3 rfl) ?_
  refine lv_iconst (v := nI 0) hx hb dX3_solve_87 (by decide) ?_
  refine goI (rdV (As := [.int (nI i), .int (nI 0)]) (rest := [.int v76, .long (lN 2)]) (c_get l K (a 2) (a 5) 36 6 kn i 0 fn (by omega) (by omega)) ⟨hx, hb, hml, hown, hts⟩ (gV kl_X3_64 ki_X2_get ks_X2_get kn_X2 kc_X2_get) (by show okN yX2_get 2; decide +kernel) ⟨⟨Nat.le_of_ble_eq_true rfl, Nat.le_of_ble_eq_true rfl⟩, rfl, rfl⟩ hE hP [2, 5] rfl ⟨0, 4, _, _, rfl, rfl, rfl⟩ hl.1 rfl (Nat.le_of_ble_eq_true rfl) dX3_solve_88 ⟨Nat.le_of_ble_eq_true rfl, Nat.le_of_ble_eq_true rfl⟩) (fun v88 e88 => ?_)
  refine lv_isub hx hb dX3_solve_91 ?_
  refine lv_topi (fun v91 e91 => ?_)
  have q91 : v91.toInt = nd fn k 0 - nd fn i 0 := by rw [e91, fb_subI (by rw [e76, e88]; unfold nd at rk0 ri0; omega) (by rw [e76, e88]; unfold nd at rk0 ri0; omega), e76, e88]; rfl
  refine lv_i2l hx hb dX3_solve_92 rfl ?_
  refine lv_topl (fun v92 e92 => ?_)
  have q92 : v92.toInt = nd fn k 0 - nd fn i 0 := by rw [e92, i64T, q91]
  refine lv_lmul hx hb dX3_solve_93 ?_
  refine lv_topl (fun v93 e93 => ?_)
  have q93 : v93.toInt = dxs fn i k 0 := by rw [e93, fb_mulL (by rw [lN_T (by omega), q92]; omega) (by rw [lN_T (by omega), q92]; omega), lN_T (by omega), q92]; rfl
  refine lv_lstore (lv' := [(13, .long v93), (11, .long v61), (9, .long v29), (0, .ref (a 0)), (1, .int (nI i)), (2, .int (nI j)), (3, .int (nI k)), (4, .long rj), (6, .long rk), (8, .int (nI ax))]) hx hb dX3_solve_94 hl (by decide) rfl (fun ls hl => ?_)
  refine lv_ldc2 (v := lN 2) hx hb hown (hts _ kw_X3_207) dX3_solve_96 ?_
  refine lv_aload_n hx hb dX3_solve_99 rfl (lv_at hl 3 rfl) ?_
  refine va_get (D := K.1) (ci := 5) (v := .ref (a 1)) (C := RX3) (T := TX3) (N := 2) hx hb hts inX3 hown hE.1 hP 0 rfl rfl 0 (by decide) (hts _ kf_X3_10) (fun _ h9 => h9) rfl dX3_solve_100 ?_
  refine va_getN (D := K.1) (ci := 3) (v := .ref (a 2)) (C := RX1) (T := TX1) (N := 4) hx hb hts inX1 hown hE.1 hP 1 rfl rfl 1 (by decide) (va_Nw.use rfl (hE.2.1 _ (List.mem_of_getElem? (i := 3) rfl))) (fun _ h9 => h9) rfl dX3_solve_103 ?_
  refine lv_iload_n hx hb dX3_solve_106 rfl (lv_at hl 6 rfl) ?_
  refine lv_iconst (v := nI 1) hx hb dX3_solve_107 (by decide) ?_
  refine goI (rdV (As := [.int (nI k), .int (nI 1)]) (rest := [.long (lN 2)]) (c_get l K (a 2) (a 5) 36 6 kn k 1 fn (by omega) (by omega)) ⟨hx, hb, hml, hown, hts⟩ (gV kl_X3_64 ki_X2_get ks_X2_get kn_X2 kc_X2_get) (by show okN yX2_get 2; decide +kernel) ⟨⟨Nat.le_of_ble_eq_true rfl, Nat.le_of_ble_eq_true rfl⟩, rfl, rfl⟩ hE hP [2, 5] rfl ⟨0, 4, _, _, rfl, rfl, rfl⟩ hl.1 rfl (Nat.le_of_ble_eq_true rfl) dX3_solve_108 ⟨Nat.le_of_ble_eq_true rfl, Nat.le_of_ble_eq_true rfl⟩) (fun v108 e108 => ?_)
  refine lv_aload_n hx hb dX3_solve_111 rfl (lv_at hl 3 rfl) ?_
  refine va_get (D := K.1) (ci := 5) (v := .ref (a 1)) (C := RX3) (T := TX3) (N := 2) hx hb hts inX3 hown hE.1 hP 0 rfl rfl 0 (by decide) (hts _ kf_X3_10) (fun _ h9 => h9) rfl dX3_solve_112 ?_
  refine va_getN (D := K.1) (ci := 3) (v := .ref (a 2)) (C := RX1) (T := TX1) (N := 4) hx hb hts inX1 hown hE.1 hP 1 rfl rfl 1 (by decide) (va_Nw.use rfl (hE.2.1 _ (List.mem_of_getElem? (i := 3) rfl))) (fun _ h9 => h9) rfl dX3_solve_115 ?_
  refine lv_iload_n hx hb dX3_solve_118 rfl (lv_at hl 4 rfl) ?_
  refine lv_iconst (v := nI 1) hx hb dX3_solve_119 (by decide) ?_
  refine goI (rdV (As := [.int (nI i), .int (nI 1)]) (rest := [.int v108, .long (lN 2)]) (c_get l K (a 2) (a 5) 36 6 kn i 1 fn (by omega) (by omega)) ⟨hx, hb, hml, hown, hts⟩ (gV kl_X3_64 ki_X2_get ks_X2_get kn_X2 kc_X2_get) (by show okN yX2_get 2; decide +kernel) ⟨⟨Nat.le_of_ble_eq_true rfl, Nat.le_of_ble_eq_true rfl⟩, rfl, rfl⟩ hE hP [2, 5] rfl ⟨0, 4, _, _, rfl, rfl, rfl⟩ hl.1 rfl (Nat.le_of_ble_eq_true rfl) dX3_solve_120 ⟨Nat.le_of_ble_eq_true rfl, Nat.le_of_ble_eq_true rfl⟩) (fun v120 e120 => ?_)
  refine lv_isub hx hb dX3_solve_123 ?_
  refine lv_topi (fun v123 e123 => ?_)
  have q123 : v123.toInt = nd fn k 1 - nd fn i 1 := by rw [e123, fb_subI (by rw [e108, e120]; unfold nd at rk1 ri1; omega) (by rw [e108, e120]; unfold nd at rk1 ri1; omega), e108, e120]; rfl
  refine lv_i2l hx hb dX3_solve_124 rfl ?_
  refine lv_topl (fun v124 e124 => ?_)
  have q124 : v124.toInt = nd fn k 1 - nd fn i 1 := by rw [e124, i64T, q123]
  refine lv_lmul hx hb dX3_solve_125 ?_
  refine lv_topl (fun v125 e125 => ?_)
  have q125 : v125.toInt = dxs fn i k 1 := by rw [e125, fb_mulL (by rw [lN_T (by omega), q124]; omega) (by rw [lN_T (by omega), q124]; omega), lN_T (by omega), q124]; rfl
  refine lv_lstore (lv' := [(15, .long v125), (13, .long v93), (11, .long v61), (9, .long v29), (0, .ref (a 0)), (1, .int (nI i)), (2, .int (nI j)), (3, .int (nI k)), (4, .long rj), (6, .long rk), (8, .int (nI ax))]) hx hb dX3_solve_126 hl (by decide) rfl (fun ls hl => ?_)
  refine lv_lload hx hb dX3_solve_128 (lv_at hl 3 rfl) ?_
  refine lv_lload hx hb dX3_solve_130 (lv_at hl 0 rfl) ?_
  refine lv_lmul hx hb dX3_solve_132 ?_
  refine lv_topl (fun v132 e132 => ?_)
  have q132 : v132.toInt = dxs fn i j 0 * dxs fn i k 1 := by rw [e132, fb_mulL (by rw [q29, q125]; omega) (by rw [q29, q125]; omega), q29, q125]
  refine lv_lload hx hb dX3_solve_133 (lv_at hl 1 rfl) ?_
  refine lv_lload hx hb dX3_solve_135 (lv_at hl 2 rfl) ?_
  refine lv_lmul hx hb dX3_solve_137 ?_
  refine lv_topl (fun v137 e137 => ?_)
  have q137 : v137.toInt = dxs fn i k 0 * dxs fn i j 1 := by rw [e137, fb_mulL (by rw [q93, q61]; omega) (by rw [q93, q61]; omega), q93, q61]
  refine lv_lsub hx hb dX3_solve_138 ?_
  refine lv_topl (fun v138 e138 => ?_)
  have q138 : v138.toInt = detS fn i j k := by rw [e138, fb_subL (by rw [q132, q137]; omega) (by rw [q132, q137]; omega), q132, q137]; rfl
  refine lv_lstore (lv' := [(17, .long v138), (15, .long v125), (13, .long v93), (11, .long v61), (9, .long v29), (0, .ref (a 0)), (1, .int (nI i)), (2, .int (nI j)), (3, .int (nI k)), (4, .long rj), (6, .long rk), (8, .int (nI ax))]) hx hb dX3_solve_139 hl (by decide) rfl (fun ls hl => ?_)
  refine lv_lload hx hb dX3_solve_141 (lv_at hl 0 rfl) ?_
  refine lv_lconst (v := lN 0) hx hb dX3_solve_143 (by decide) ?_
  refine W.lcmp hx hb dX3_solve_144 ?_
  refine lv_if_ne (tgt := 158) hx hb dX3_solve_145 (by decide) (fun c145 => ?_) (fun c145 => ?_)
  · have c145 := fun q => c145 ((lg_cmp_eq _ _).mpr q)
    have d0 : detS fn i j k ≠ 0 := by rw [← q138]; exact fun g => c145 (eqL (g.trans (by decide)))
    refine lv_iload hx hb dX3_solve_158 (lv_at hl 11 rfl) ?_
    refine lv_if_ne (tgt := 177) hx hb dX3_solve_160 (by decide) (fun c160 => ?_) (fun c160 => ?_)
    · have c160 := mt (nI_z (n := ax) (by omega)).mpr c160
      refine lv_lload hx hb dX3_solve_177 (lv_at hl 4 rfl) ?_
      refine lv_lload hx hb dX3_solve_179 (lv_at hl 10 rfl) ?_
      refine lv_lmul hx hb dX3_solve_181 ?_
      refine lv_topl (fun v181 e181 => ?_)
      have q181 : v181.toInt = dxs fn i j 0 * RK := by rw [e181, fb_mulL (by rw [q29, hRK]; omega) (by rw [q29, hRK]; omega), q29, hRK]
      refine lv_lload hx hb dX3_solve_182 (lv_at hl 2 rfl) ?_
      refine lv_lload hx hb dX3_solve_184 (lv_at hl 9 rfl) ?_
      refine lv_lmul hx hb dX3_solve_186 ?_
      refine lv_topl (fun v186 e186 => ?_)
      have q186 : v186.toInt = dxs fn i k 0 * RJ := by rw [e186, fb_mulL (by rw [q93, hRJ]; omega) (by rw [q93, hRJ]; omega), q93, hRJ]
      refine lv_lsub hx hb dX3_solve_187 ?_
      refine lv_topl (fun v187 e187 => ?_)
      have q187 : v187.toInt = dxs fn i j 0 * RK - dxs fn i k 0 * RJ := by rw [e187, fb_subL (by rw [q181, q186]; omega) (by rw [q181, q186]; omega), q181, q186]
      have qN : v187.toInt = numS fn i j k RJ RK ax := by rw [q187]; unfold numS; rw [if_neg c160]
      have gN : -4611686018427387904 ≤ v187.toInt ∧ v187.toInt ≤ 4611686018427387904 := by rw [q187]; omega
      refine lv_lstore (lv' := [(19, .long v187), (17, .long v138), (15, .long v125), (13, .long v93), (11, .long v61), (9, .long v29), (0, .ref (a 0)), (1, .int (nI i)), (2, .int (nI j)), (3, .int (nI k)), (4, .long rj), (6, .long rk), (8, .int (nI ax))]) hx hb dX3_solve_188 hl (by decide) rfl (fun ls hl => ?_)
      refine lv_lload hx hb dX3_solve_190 (lv_at hl 0 rfl) ?_
      refine lv_lload hx hb dX3_solve_192 (lv_at hl 1 rfl) ?_
      refine goL (rdS (As := [.long v187, .long v138]) (rest := []) (c_floorDivL l K v187 v138 (fun g => d0 (by rw [← q138, g]; rfl))) ⟨hx, hb, hml, hown, hts⟩ (gS kl_X3_211 kt_J9_floorDiv_f86c9 kn_J9 kc_J9_floorDiv_f86c9) (by show okN yJ9_floorDiv_f86c9 2; decide +kernel) ⟨⟨Nat.le_of_ble_eq_true rfl, Nat.le_of_ble_eq_true rfl⟩, rfl, rfl⟩ hE hP [] rfl hl.1 rfl (Nat.le_of_ble_eq_true rfl) dX3_solve_194 ⟨Nat.le_of_ble_eq_true rfl, Nat.le_of_ble_eq_true rfl⟩) (fun v194 e194 => ?_)
      have q194 : v194.toInt = solS fn i j k RJ RK ax := by rw [e194, flD_gen gN (by rw [q138]; exact d0), qN, q138]; rfl
      refine lv_lstore (lv' := [(21, .long v194), (19, .long v187), (17, .long v138), (15, .long v125), (13, .long v93), (11, .long v61), (9, .long v29), (0, .ref (a 0)), (1, .int (nI i)), (2, .int (nI j)), (3, .int (nI k)), (4, .long rj), (6, .long rk), (8, .int (nI ax))]) hx hb dX3_solve_197 hl (by decide) rfl (fun ls hl => ?_)
      refine lv_lload hx hb dX3_solve_199 (lv_at hl 0 rfl) ?_
      refine lv_lload hx hb dX3_solve_201 (lv_at hl 0 rfl) ?_
      refine lv_l2i hx hb dX3_solve_203 rfl ?_
      refine lv_topi (fun v203 e203 => ?_)
      refine lv_i2l hx hb dX3_solve_204 rfl ?_
      refine lv_topl (fun v204 e204 => ?_)
      refine W.lcmp hx hb dX3_solve_205 ?_
      refine lv_if_eq (tgt := 219) hx hb dX3_solve_206 (by decide) (fun c206 => ?_) (fun c206 => ?_)
      · have c206 := (lg_cmp_eq _ _).mp c206
        refine lv_lload hx hb dX3_solve_219 (lv_at hl 0 rfl) ?_
        refine lv_l2i hx hb dX3_solve_221 rfl ?_
        refine lv_topi (fun v221 e221 => ?_)
        have g0 : v194.toInt = v203.toInt := by rw [← i64T v203, ← e204]; exact congrArg Int64.toInt c206
        have g1 := v203.le_toInt
        have g2 := v203.toInt_lt
        refine W.widen (k := 1) (n := 6) (Nat.le_of_ble_eq_true rfl) (Nat.le_of_ble_eq_true rfl) ?_
        exact vx_ret (eI (v := v221) hx hb hr hlocks (⟨by rw [e221]; exact (i32T (by omega) (by omega)).trans q194, d0, by omega, by omega⟩) dX3_solve_222)
      · have c206 := fun q => c206 ((lg_cmp_eq _ _).mpr q)
        exact thr_AE (rest := []) hx hb hl9 hown hts hE hA hZ kk_X3_136 (List.mem_of_getElem? (i := 11) rfl : (213, "the coordinate does not fit into an int") ∈ xcS) (hl.1.trans hml.symm) dX3_solve_209 dX3_solve_212 dX3_solve_213 dX3_solve_215 dX3_solve_218 htab hlocks ⟨Nat.le_of_ble_eq_true rfl, Nat.le_of_ble_eq_true rfl, Nat.le_of_ble_eq_true rfl, Nat.le_of_ble_eq_true rfl⟩ ⟨Nat.le_of_ble_eq_true rfl, Nat.le_of_ble_eq_true rfl⟩ (⟨rfl, fun g => c206 (eqL (by rw [e204, i64T, e203, i32T (by rw [q194]; exact g.2.1) (by rw [q194]; exact Int.lt_of_le_of_lt g.2.2 (by decide))]))⟩)
    · have c160 := (nI_z (n := ax) (by omega)).mp c160
      refine lv_lload hx hb dX3_solve_163 (lv_at hl 9 rfl) ?_
      refine lv_lload hx hb dX3_solve_165 (lv_at hl 1 rfl) ?_
      refine lv_lmul hx hb dX3_solve_167 ?_
      refine lv_topl (fun v167 e167 => ?_)
      have q167 : v167.toInt = RJ * dxs fn i k 1 := by rw [e167, fb_mulL (by rw [hRJ, q125]; omega) (by rw [hRJ, q125]; omega), hRJ, q125]
      refine lv_lload hx hb dX3_solve_168 (lv_at hl 10 rfl) ?_
      refine lv_lload hx hb dX3_solve_170 (lv_at hl 3 rfl) ?_
      refine lv_lmul hx hb dX3_solve_172 ?_
      refine lv_topl (fun v172 e172 => ?_)
      have q172 : v172.toInt = RK * dxs fn i j 1 := by rw [e172, fb_mulL (by rw [hRK, q61]; omega) (by rw [hRK, q61]; omega), hRK, q61]
      refine lv_lsub hx hb dX3_solve_173 ?_
      refine lv_topl (fun v173 e173 => ?_)
      have q173 : v173.toInt = RJ * dxs fn i k 1 - RK * dxs fn i j 1 := by rw [e173, fb_subL (by rw [q167, q172]; omega) (by rw [q167, q172]; omega), q167, q172]
      refine lv_goto (tgt := 188) hx hb dX3_solve_174 (by decide) ?_
      have qN : v173.toInt = numS fn i j k RJ RK ax := by rw [q173]; unfold numS; rw [if_pos c160]
      have gN : -4611686018427387904 ≤ v173.toInt ∧ v173.toInt ≤ 4611686018427387904 := by rw [q173]; omega
      refine lv_lstore (lv' := [(19, .long v173), (17, .long v138), (15, .long v125), (13, .long v93), (11, .long v61), (9, .long v29), (0, .ref (a 0)), (1, .int (nI i)), (2, .int (nI j)), (3, .int (nI k)), (4, .long rj), (6, .long rk), (8, .int (nI ax))]) hx hb dX3_solve_188 hl (by decide) rfl (fun ls hl => ?_)
      refine lv_lload hx hb dX3_solve_190 (lv_at hl 0 rfl) ?_
      refine lv_lload hx hb dX3_solve_192 (lv_at hl 1 rfl) ?_
      refine goL (rdS (As := [.long v173, .long v138]) (rest := []) (c_floorDivL l K v173 v138 (fun g => d0 (by rw [← q138, g]; rfl))) ⟨hx, hb, hml, hown, hts⟩ (gS kl_X3_211 kt_J9_floorDiv_f86c9 kn_J9 kc_J9_floorDiv_f86c9) (by show okN yJ9_floorDiv_f86c9 2; decide +kernel) ⟨⟨Nat.le_of_ble_eq_true rfl, Nat.le_of_ble_eq_true rfl⟩, rfl, rfl⟩ hE hP [] rfl hl.1 rfl (Nat.le_of_ble_eq_true rfl) dX3_solve_194 ⟨Nat.le_of_ble_eq_true rfl, Nat.le_of_ble_eq_true rfl⟩) (fun v194 e194 => ?_)
      have q194 : v194.toInt = solS fn i j k RJ RK ax := by rw [e194, flD_gen gN (by rw [q138]; exact d0), qN, q138]; rfl
      refine lv_lstore (lv' := [(21, .long v194), (19, .long v173), (17, .long v138), (15, .long v125), (13, .long v93), (11, .long v61), (9, .long v29), (0, .ref (a 0)), (1, .int (nI i)), (2, .int (nI j)), (3, .int (nI k)), (4, .long rj), (6, .long rk), (8, .int (nI ax))]) hx hb dX3_solve_197 hl (by decide) rfl (fun ls hl => ?_)
      refine lv_lload hx hb dX3_solve_199 (lv_at hl 0 rfl) ?_
      refine lv_lload hx hb dX3_solve_201 (lv_at hl 0 rfl) ?_
      refine lv_l2i hx hb dX3_solve_203 rfl ?_
      refine lv_topi (fun v203 e203 => ?_)
      refine lv_i2l hx hb dX3_solve_204 rfl ?_
      refine lv_topl (fun v204 e204 => ?_)
      refine W.lcmp hx hb dX3_solve_205 ?_
      refine lv_if_eq (tgt := 219) hx hb dX3_solve_206 (by decide) (fun c206 => ?_) (fun c206 => ?_)
      · have c206 := (lg_cmp_eq _ _).mp c206
        refine lv_lload hx hb dX3_solve_219 (lv_at hl 0 rfl) ?_
        refine lv_l2i hx hb dX3_solve_221 rfl ?_
        refine lv_topi (fun v221 e221 => ?_)
        have g0 : v194.toInt = v203.toInt := by rw [← i64T v203, ← e204]; exact congrArg Int64.toInt c206
        have g1 := v203.le_toInt
        have g2 := v203.toInt_lt
        refine W.widen (k := 1) (n := 6) (Nat.le_of_ble_eq_true rfl) (Nat.le_of_ble_eq_true rfl) ?_
        exact vx_ret (eI (v := v221) hx hb hr hlocks (⟨by rw [e221]; exact (i32T (by omega) (by omega)).trans q194, d0, by omega, by omega⟩) dX3_solve_222)
      · have c206 := fun q => c206 ((lg_cmp_eq _ _).mpr q)
        exact thr_AE (rest := []) hx hb hl9 hown hts hE hA hZ kk_X3_136 (List.mem_of_getElem? (i := 11) rfl : (213, "the coordinate does not fit into an int") ∈ xcS) (hl.1.trans hml.symm) dX3_solve_209 dX3_solve_212 dX3_solve_213 dX3_solve_215 dX3_solve_218 htab hlocks ⟨Nat.le_of_ble_eq_true rfl, Nat.le_of_ble_eq_true rfl, Nat.le_of_ble_eq_true rfl, Nat.le_of_ble_eq_true rfl⟩ ⟨Nat.le_of_ble_eq_true rfl, Nat.le_of_ble_eq_true rfl⟩ (⟨rfl, fun g => c206 (eqL (by rw [e204, i64T, e203, i32T (by rw [q194]; exact g.2.1) (by rw [q194]; exact Int.lt_of_le_of_lt g.2.2 (by decide))]))⟩)
  · have c145 := (lg_cmp_eq _ _).mp c145
    exact thr_AE (rest := []) hx hb hl9 hown hts hE hA hZ kk_X3_136 (List.mem_of_getElem? (i := 10) rfl : (209, "the anchors stand in one line") ∈ xcS) (hl.1.trans hml.symm) dX3_solve_148 dX3_solve_151 dX3_solve_152 dX3_solve_154 dX3_solve_157 htab hlocks ⟨Nat.le_of_ble_eq_true rfl, Nat.le_of_ble_eq_true rfl, Nat.le_of_ble_eq_true rfl, Nat.le_of_ble_eq_true rfl⟩ ⟨Nat.le_of_ble_eq_true rfl, Nat.le_of_ble_eq_true rfl⟩ (⟨rfl, fun g => g.1 (by rw [← q138, c145]; rfl)⟩)
set_option maxHeartbeats 4000000 in
set_option maxRecDepth 100000 in
theorem f_meanError (l : Launch) (hl9 : l.stackTraces = false) (K : EK) (a : Nat → Nat) (t : Int64) (kn : Nat) (fn : Nat → Int32) (kr : Nat) (fr : Nat → Int32) (kp : Nat) (fp : Nat → Int32) (p0 : Int32) (hSI : SI (t, (kn, fn), (kr, fr), (kp, fp))) : vx_Met l yX3_meanError (wq yX3_meanError cX3_meanError 5 (some .double)) (rmL 9 1 6) (va_Pc [.ref (a 0), .int p0] (PX K [(a 0, .inr (5, [.ref (a 1), .ref (a 8)])), (a 1, .inr (3, [.long t, .ref (a 2), .ref (a 3), .ref (a 4)])), (a 2, .inr (4, [.ref (a 5), .int (nI 6), .int (nI kn)])), (a 3, .inr (4, [.ref (a 6), .int (nI 8), .int (nI kr)])), (a 4, .inr (4, [.ref (a 7), .int (nI 5), .int (nI kp)])), (a 5, .inl (K.2.1, 36, .inl (fn))), (a 6, .inl (K.2.1, 320, .inl (fr))), (a 7, .inl (K.2.1, 100, .inl (fp)))])) (vp_Sd (fun r => (0 ≤ p0.toInt ∧ p0.toInt ≤ 2) ∧ ((kr = 0 ∧ r = FP.dconst0) ∨ (kr ≠ 0 ∧ ∃ S : Int64, S.toInt = esum fn fr (ix p0) kr ∧ r = FP.ddiv (FP.l2d S) (FP.i2d (nI kr)) ∧ dGood r)))) (XX (fun E => (E = xIA ∧ ¬ (0 ≤ p0.toInt ∧ p0.toInt ≤ 2)))) 1 6 NF := by
  refine hdX (by decide) (Nat.le_of_ble_eq_true rfl) ?_
  intro pp ee s mm bl9 me9 cd hx hb hr hlocks hml hown hts htab hE hP A hA hZ ls hl
  have hown : s.vm.findClass RX3 = some mm.cls := hown
  have hP : va_P K.1 vwCl [(a 0, .inr (5, [.ref (a 1), .ref (a 8)])), (a 1, .inr (3, [.long t, .ref (a 2), .ref (a 3), .ref (a 4)])), (a 2, .inr (4, [.ref (a 5), .int (nI 6), .int (nI kn)])), (a 3, .inr (4, [.ref (a 6), .int (nI 8), .int (nI kr)])), (a 4, .inr (4, [.ref (a 7), .int (nI 5), .int (nI kp)])), (a 5, .inl (K.2.1, 36, .inl (fn))), (a 6, .inl (K.2.1, 320, .inl (fr))), (a 7, .inl (K.2.1, 100, .inl (fp)))] s.heap := hP
  have hl : lv_has ls 5 [(0, .ref (a 0)), (1, .int p0)] := hl
  have s1 : kn ≤ 6 := hSI.1
  have s2 : kr ≤ 40 := hSI.2.1
  have s3 : kp ≤ 20 := hSI.2.2.1
  have s4 : 0 ≤ t.toInt ∧ t.toInt ≤ 900000000 + 1000000 * (kr : Int) := hSI.2.2.2.1
  have hn : ∀ i, i < kn → nOk fn i := hSI.2.2.2.2.1
  have hrs : ∀ e, e < kr → rOk kn fr e := hSI.2.2.2.2.2.1
  have hps : ∀ k, k < kp → pOk kn fp k := hSI.2.2.2.2.2.2.1
  refine lv_iload_n hx hb dX3_meanError_0 rfl (lv_at hl 1 rfl) ?_
  refine coV (ckS (As := [.int p0]) (rest := []) (c_rMethod l hl9 K p0) ⟨hx, hb, hml, hown, hts⟩ (gS kl_X3_112 kt_X3_requireMethod kn_X3 kc_X3_requireMethod) (by show okN yX3_requireMethod 1; decide +kernel) ⟨⟨Nat.le_of_ble_eq_true rfl, Nat.le_of_ble_eq_true rfl⟩, ⟨rfl, rfl⟩, Nat.le_of_ble_eq_true rfl, Nat.le_of_ble_eq_true rfl⟩ hE hP hA hZ [] rfl hl.1 rfl (Nat.le_of_ble_eq_true rfl) dX3_meanError_1) htab hlocks ⟨Nat.le_of_ble_eq_true rfl, Nat.le_of_ble_eq_true rfl⟩ (fun E h => by obtain ⟨h1, h2⟩ := h; exact ⟨h1, by omega⟩) (fun e1 => ?_)
  obtain ⟨m9, hm9, rfl⟩ := ixLe (n := 2) (show 0 ≤ p0.toInt ∧ p0.toInt ≤ (2 : Nat) by omega) (by omega)
  refine lv_aload_n hx hb dX3_meanError_4 rfl (lv_at hl 0 rfl) ?_
  refine va_get (D := K.1) (ci := 5) (v := .ref (a 1)) (C := RX3) (T := TX3) (N := 2) hx hb hts inX3 hown hE.1 hP 0 rfl rfl 0 (by decide) (hts _ kf_X3_10) (fun _ h9 => h9) rfl dX3_meanError_5 ?_
  refine va_getN (D := K.1) (ci := 3) (v := .ref (a 3)) (C := RX1) (T := TX1) (N := 4) hx hb hts inX1 hown hE.1 hP 1 rfl rfl 2 (by decide) (va_Nw.use rfl (hE.2.1 _ (List.mem_of_getElem? (i := 4) rfl))) (fun _ h9 => h9) rfl dX3_meanError_8 ?_
  refine va_getN (D := K.1) (ci := 4) (v := .int (nI kr)) (C := RX2) (T := TX2) (N := 3) hx hb hts inX2 hown hE.1 hP 3 rfl rfl 2 (by decide) (va_Nw.use rfl (hE.2.1 _ (List.mem_of_getElem? (i := 0) rfl))) (fun _ h9 => h9) rfl dX3_meanError_11 ?_
  refine lv_if_ne (tgt := 19) hx hb dX3_meanError_14 (by decide) (fun c14 => ?_) (fun c14 => ?_)
  · have c14 := mt (nI_z (n := kr) (by omega)).mpr c14
    refine lv_lconst (v := lN 0) hx hb dX3_meanError_19 (by decide) ?_
    refine lv_lstore_n (lv' := [(2, .long (lN 0)), (0, .ref (a 0)), (1, .int (nI m9))]) hx hb dX3_meanError_20 rfl hl (by decide) rfl (fun ls hl => ?_)
    refine lv_iconst (v := nI 0) hx hb dX3_meanError_21 (by decide) ?_
    refine lv_istore (lv' := [(4, .int (nI 0)), (2, .long (lN 0)), (0, .ref (a 0)), (1, .int (nI m9))]) hx hb dX3_meanError_22 hl (by decide) rfl (fun ls hl => ?_)
    refine lpR (α := Nat × Int64) (fun (x9 : Nat × Int64) => x9.2.toInt = esum fn fr m9 x9.1 ∧ x9.1 ≤ kr) (fun (x9 : Nat × Int64) => kr - x9.1) (fun (x9 : Nat × Int64) => [(0, .ref (a 0)), (1, .int (nI m9)), (2, .long x9.2), (4, .int (nI x9.1))]) 5 24 (fun x9 hI24 ih24 ls hl => ?_) (0, lN 0) (⟨(by decide : (lN 0).toInt = 0), Nat.zero_le _⟩) ls (lv_sub hl [2, 3, 1, 0] rfl)
    obtain ⟨z, x2⟩ := x9
    have hI24 : x2.toInt = esum fn fr m9 z ∧ z ≤ kr := hI24
    have hl : lv_has ls 5 [(0, .ref (a 0)), (1, .int (nI m9)), (2, .long x2), (4, .int (nI z))] := hl
    refine lv_iload hx hb dX3_meanError_24 (lv_at hl 3 rfl) ?_
    refine lv_aload_n hx hb dX3_meanError_26 rfl (lv_at hl 0 rfl) ?_
    refine va_get (D := K.1) (ci := 5) (v := .ref (a 1)) (C := RX3) (T := TX3) (N := 2) hx hb hts inX3 hown hE.1 hP 0 rfl rfl 0 (by decide) (hts _ kf_X3_10) (fun _ h9 => h9) rfl dX3_meanError_27 ?_
    refine va_getN (D := K.1) (ci := 3) (v := .ref (a 3)) (C := RX1) (T := TX1) (N := 4) hx hb hts inX1 hown hE.1 hP 1 rfl rfl 2 (by decide) (va_Nw.use rfl (hE.2.1 _ (List.mem_of_getElem? (i := 4) rfl))) (fun _ h9 => h9) rfl dX3_meanError_30 ?_
    refine va_getN (D := K.1) (ci := 4) (v := .int (nI kr)) (C := RX2) (T := TX2) (N := 3) hx hb hts inX2 hown hE.1 hP 3 rfl rfl 2 (by decide) (va_Nw.use rfl (hE.2.1 _ (List.mem_of_getElem? (i := 0) rfl))) (fun _ h9 => h9) rfl dX3_meanError_33 ?_
    refine lv_icmp_ge (tgt := 59) hx hb dX3_meanError_36 (by decide) (fun c36 => ?_) (fun c36 => ?_)
    · have c36 := (nI_leI (a := kr) (b := z) (by omega) (by omega)).mp c36
      have hz : z = kr := by omega
      have hs9 := esum_rng m9 hn z (fun e he => hrs e (by omega))
      have gD : dGood (FP.ddiv (FP.l2d x2) (FP.i2d (nI kr))) := d_div (d_l2d (by rw [hI24.1]; omega)) (d_i2d0 (fun g => by have := congrArg Int32.toInt g; rw [nI_toInt (by omega), Int32.toInt_zero] at this; omega))
      refine lv_lload_n hx hb dX3_meanError_59 rfl (lv_at hl 2 rfl) ?_
      refine lv_l2d hx hb dX3_meanError_60 ?_
      refine lv_aload_n hx hb dX3_meanError_61 rfl (lv_at hl 0 rfl) ?_
      refine va_get (D := K.1) (ci := 5) (v := .ref (a 1)) (C := RX3) (T := TX3) (N := 2) hx hb hts inX3 hown hE.1 hP 0 rfl rfl 0 (by decide) (hts _ kf_X3_10) (fun _ h9 => h9) rfl dX3_meanError_62 ?_
      refine va_getN (D := K.1) (ci := 3) (v := .ref (a 3)) (C := RX1) (T := TX1) (N := 4) hx hb hts inX1 hown hE.1 hP 1 rfl rfl 2 (by decide) (va_Nw.use rfl (hE.2.1 _ (List.mem_of_getElem? (i := 4) rfl))) (fun _ h9 => h9) rfl dX3_meanError_65 ?_
      refine va_getN (D := K.1) (ci := 4) (v := .int (nI kr)) (C := RX2) (T := TX2) (N := 3) hx hb hts inX2 hown hE.1 hP 3 rfl rfl 2 (by decide) (va_Nw.use rfl (hE.2.1 _ (List.mem_of_getElem? (i := 0) rfl))) (fun _ h9 => h9) rfl dX3_meanError_68 ?_
      refine lv_i2d hx hb dX3_meanError_71 ?_
      refine lv_ddiv hx hb dX3_meanError_72 (d_n64 gD) ?_
      exact vx_ret (eD (v := FP.ddiv (FP.l2d x2) (FP.i2d (nI kr))) hx hb hr hlocks (⟨by omega, Or.inr ⟨c14, x2, by rw [ix_nI (by omega), ← hz]; exact hI24.1, rfl, gD⟩⟩) dX3_meanError_73)
    · have c36 := mt (nI_leI (a := kr) (b := z) (by omega) (by omega)).mpr c36
      refine lv_lload_n hx hb dX3_meanError_39 rfl (lv_at hl 2 rfl) ?_
      refine lv_aload_n hx hb dX3_meanError_40 rfl (lv_at hl 0 rfl) ?_
      refine va_get (D := K.1) (ci := 5) (v := .ref (a 1)) (C := RX3) (T := TX3) (N := 2) hx hb hts inX3 hown hE.1 hP 0 rfl rfl 0 (by decide) (hts _ kf_X3_10) (fun _ h9 => h9) rfl dX3_meanError_41 ?_
      refine lv_iload hx hb dX3_meanError_44 (lv_at hl 3 rfl) ?_
      refine lv_iload_n hx hb dX3_meanError_46 rfl (lv_at hl 1 rfl) ?_
      refine goI (rdV (As := [.int (nI z), .int (nI m9)]) (rest := [.long x2]) (c_errorOf l K (fun k => a (1 + k)) t kn fn kr fr kp fp z m9 (by omega) (by omega) (by omega) hn (hrs _ (by omega))) ⟨hx, hb, hml, hown, hts⟩ (gV kl_X3_121 ki_X1_errorOf ks_X1_errorOf kn_X1 kc_X1_errorOf) (by show okN yX1_errorOf 2; decide +kernel) ⟨⟨Nat.le_of_ble_eq_true rfl, Nat.le_of_ble_eq_true rfl⟩, rfl, rfl⟩ hE hP [1, 2, 3, 4, 5, 6, 7] rfl ⟨0, 3, _, _, rfl, rfl, rfl⟩ hl.1 rfl (Nat.le_of_ble_eq_true rfl) dX3_meanError_47 ⟨Nat.le_of_ble_eq_true rfl, Nat.le_of_ble_eq_true rfl⟩) (fun v47 e47 => ?_)
      refine lv_i2l hx hb dX3_meanError_50 rfl ?_
      refine lv_topl (fun v50 e50 => ?_)
      refine lv_ladd hx hb dX3_meanError_51 ?_
      refine lv_topl (fun v51 e51 => ?_)
      refine lv_lstore_n (lv' := [(2, .long v51), (0, .ref (a 0)), (1, .int (nI m9)), (4, .int (nI z))]) hx hb dX3_meanError_52 rfl hl (by decide) rfl (fun ls hl => ?_)
      refine lv_iinc (v := nI (z + 1)) (lv' := [(4, .int (nI (z + 1))), (2, .long v51), (0, .ref (a 0)), (1, .int (nI m9))]) hx hb dX3_meanError_53 hl (k := 3) rfl (nI_add z 1) (by decide) rfl (fun ls hl => ?_)
      refine lv_goto (tgt := 24) hx hb dX3_meanError_56 (by decide) ?_
      have he9 := err_rng m9 hn (hrs z (by omega))
      have hs9 := esum_rng m9 hn z (fun e he => hrs e (by omega))
      have q50 : v50.toInt = err fn fr z m9 := by rw [e50, i64T, e47]
      have q51 : v51.toInt = esum fn fr m9 (z + 1) := by rw [e51, fb_addL (by rw [q50, hI24.1]; omega) (by rw [q50, hI24.1]; omega), q50, hI24.1]; rfl
      have hB24 : v51.toInt = esum fn fr m9 (z + 1) ∧ (z + 1) ≤ kr := ⟨q51, by omega⟩
      exact ih24 (z + 1, v51) (hB24) (by omega) ls (lv_sub hl [2, 3, 1, 0] rfl)
  · have c14 := (nI_z (n := kr) (by omega)).mp c14
    refine lv_dconst0 hx hb dX3_meanError_17 ?_
    exact vx_ret (eD (v := FP.dconst0) hx hb hr hlocks (⟨by omega, Or.inl ⟨c14, rfl⟩⟩) dX3_meanError_18)
set_option maxHeartbeats 4000000 in
set_option maxRecDepth 100000 in
theorem f_relativeDrift (l : Launch) (hl9 : l.stackTraces = false) (K : EK) (a : Nat → Nat) (t : Int64) (kn : Nat) (fn : Nat → Int32) (kr : Nat) (fr : Nat → Int32) (kp : Nat) (fp : Nat → Int32) (p0 : Int32) (hSI : SI (t, (kn, fn), (kr, fr), (kp, fp))) : vx_Met l yX3_relativeDrift (wq yX3_relativeDrift cX3_relativeDrift 4 (some .double)) (rmL 9 2 12) (va_Pc [.ref (a 0), .int p0] (PX K [(a 0, .inr (5, [.ref (a 1), .ref (a 8)])), (a 1, .inr (3, [.long t, .ref (a 2), .ref (a 3), .ref (a 4)])), (a 2, .inr (4, [.ref (a 5), .int (nI 6), .int (nI kn)])), (a 3, .inr (4, [.ref (a 6), .int (nI 8), .int (nI kr)])), (a 4, .inr (4, [.ref (a 7), .int (nI 5), .int (nI kp)])), (a 5, .inl (K.2.1, 36, .inl (fn))), (a 6, .inl (K.2.1, 320, .inl (fr))), (a 7, .inl (K.2.1, 100, .inl (fp)))])) (vp_Sd (fun r => (0 ≤ p0.toInt ∧ p0.toInt < kr) ∧ (elp fr (ix p0) 4 7 + elp fr (ix p0) 3 4 ≠ 0) ∧ (∃ u v : Int32, u.toInt = elp fr (ix p0) 2 5 + elp fr (ix p0) 5 6 ∧ v.toInt = elp fr (ix p0) 4 7 + elp fr (ix p0) 3 4 ∧ r = FP.dmul (FP.dsub (FP.ddiv (FP.i2d u) (FP.i2d v)) FP.dconst1) 4696837146684686336 ∧ dGood r))) (XX (fun E => (E = xIO ∧ ¬ (0 ≤ p0.toInt ∧ p0.toInt < kr)) ∨ (E = xAR ∧ (0 ≤ p0.toInt ∧ p0.toInt < kr) ∧ ¬ (elp fr (ix p0) 4 7 + elp fr (ix p0) 3 4 ≠ 0)))) 2 12 NF := by
  refine hdX (by decide) (Nat.le_of_ble_eq_true rfl) ?_
  intro pp ee s mm bl9 me9 cd hx hb hr hlocks hml hown hts htab hE hP A hA hZ ls hl
  have hown : s.vm.findClass RX3 = some mm.cls := hown
  have hP : va_P K.1 vwCl [(a 0, .inr (5, [.ref (a 1), .ref (a 8)])), (a 1, .inr (3, [.long t, .ref (a 2), .ref (a 3), .ref (a 4)])), (a 2, .inr (4, [.ref (a 5), .int (nI 6), .int (nI kn)])), (a 3, .inr (4, [.ref (a 6), .int (nI 8), .int (nI kr)])), (a 4, .inr (4, [.ref (a 7), .int (nI 5), .int (nI kp)])), (a 5, .inl (K.2.1, 36, .inl (fn))), (a 6, .inl (K.2.1, 320, .inl (fr))), (a 7, .inl (K.2.1, 100, .inl (fp)))] s.heap := hP
  have hl : lv_has ls 4 [(0, .ref (a 0)), (1, .int p0)] := hl
  have s1 : kn ≤ 6 := hSI.1
  have s2 : kr ≤ 40 := hSI.2.1
  have s3 : kp ≤ 20 := hSI.2.2.1
  have s4 : 0 ≤ t.toInt ∧ t.toInt ≤ 900000000 + 1000000 * (kr : Int) := hSI.2.2.2.1
  have hn : ∀ i, i < kn → nOk fn i := hSI.2.2.2.2.1
  have hrs : ∀ e, e < kr → rOk kn fr e := hSI.2.2.2.2.2.1
  have hps : ∀ k, k < kp → pOk kn fp k := hSI.2.2.2.2.2.2.1
  refine lv_aload_n hx hb dX3_relativeDrift_0 rfl (lv_at hl 0 rfl) ?_
  refine lv_iload_n hx hb dX3_relativeDrift_1 rfl (lv_at hl 1 rfl) ?_
  refine coV (ckV (As := [.int p0]) (rest := []) (c_rExch l hl9 K a t kn fn kr fr kp fp p0 (by omega)) ⟨hx, hb, hml, hown, hts⟩ (gV kl_X3_109 ki_X3_requireExchange ks_X3_requireExchange kn_X3 kc_X3_requireExchange) (by show okN yX3_requireExchange 1; decide +kernel) ⟨⟨Nat.le_of_ble_eq_true rfl, Nat.le_of_ble_eq_true rfl⟩, ⟨rfl, rfl⟩, Nat.le_of_ble_eq_true rfl, Nat.le_of_ble_eq_true rfl⟩ hE hP hA hZ [0, 1, 2, 3, 4, 5, 6, 7] rfl ⟨0, 5, _, _, rfl, rfl, rfl⟩ hl.1 rfl (Nat.le_of_ble_eq_true rfl) dX3_relativeDrift_2) htab hlocks ⟨Nat.le_of_ble_eq_true rfl, Nat.le_of_ble_eq_true rfl⟩ (fun E h => by obtain ⟨h1, h2⟩ := h; exact Or.inl ⟨h1, by omega⟩) (fun e2 => ?_)
  obtain ⟨i, hi, rfl⟩ := ixOf (n := kr) e2 (by omega)
  have hs := (hrs _ hi).2.2
  refine lv_aload_n hx hb dX3_relativeDrift_5 rfl (lv_at hl 0 rfl) ?_
  refine va_get (D := K.1) (ci := 5) (v := .ref (a 1)) (C := RX3) (T := TX3) (N := 2) hx hb hts inX3 hown hE.1 hP 0 rfl rfl 0 (by decide) (hts _ kf_X3_10) (fun _ h9 => h9) rfl dX3_relativeDrift_6 ?_
  refine lv_iload_n hx hb dX3_relativeDrift_9 rfl (lv_at hl 1 rfl) ?_
  refine lv_iconst (v := nI 2) hx hb dX3_relativeDrift_10 (by decide) ?_
  refine lv_iconst (v := nI 5) hx hb dX3_relativeDrift_11 (by decide) ?_
  refine goI (rdV (As := [.int (nI i), .int (nI 2), .int (nI 5)]) (rest := []) (c_elapsed l K (fun k => a (1 + k)) t kn fn kr fr kp fp i 2 5 (by omega) (by decide) (by decide) (hs _ (by decide) (by decide)) (hs _ (by decide) (by decide))) ⟨hx, hb, hml, hown, hts⟩ (gV kl_X3_132 ki_X1_elapsed ks_X1_elapsed kn_X1 kc_X1_elapsed) (by show okN yX1_elapsed 3; decide +kernel) ⟨⟨Nat.le_of_ble_eq_true rfl, Nat.le_of_ble_eq_true rfl⟩, rfl, rfl⟩ hE hP [1, 2, 3, 4, 5, 6, 7] rfl ⟨0, 3, _, _, rfl, rfl, rfl⟩ hl.1 rfl (Nat.le_of_ble_eq_true rfl) dX3_relativeDrift_12 ⟨Nat.le_of_ble_eq_true rfl, Nat.le_of_ble_eq_true rfl⟩) (fun v12 e12 => ?_)
  refine lv_aload_n hx hb dX3_relativeDrift_15 rfl (lv_at hl 0 rfl) ?_
  refine va_get (D := K.1) (ci := 5) (v := .ref (a 1)) (C := RX3) (T := TX3) (N := 2) hx hb hts inX3 hown hE.1 hP 0 rfl rfl 0 (by decide) (hts _ kf_X3_10) (fun _ h9 => h9) rfl dX3_relativeDrift_16 ?_
  refine lv_iload_n hx hb dX3_relativeDrift_19 rfl (lv_at hl 1 rfl) ?_
  refine lv_iconst (v := nI 5) hx hb dX3_relativeDrift_20 (by decide) ?_
  refine lv_bipush (v := nI 6) hx hb dX3_relativeDrift_21 (by decide) ?_
  refine goI (rdV (As := [.int (nI i), .int (nI 5), .int (nI 6)]) (rest := [.int v12]) (c_elapsed l K (fun k => a (1 + k)) t kn fn kr fr kp fp i 5 6 (by omega) (by decide) (by decide) (hs _ (by decide) (by decide)) (hs _ (by decide) (by decide))) ⟨hx, hb, hml, hown, hts⟩ (gV kl_X3_132 ki_X1_elapsed ks_X1_elapsed kn_X1 kc_X1_elapsed) (by show okN yX1_elapsed 3; decide +kernel) ⟨⟨Nat.le_of_ble_eq_true rfl, Nat.le_of_ble_eq_true rfl⟩, rfl, rfl⟩ hE hP [1, 2, 3, 4, 5, 6, 7] rfl ⟨0, 3, _, _, rfl, rfl, rfl⟩ hl.1 rfl (Nat.le_of_ble_eq_true rfl) dX3_relativeDrift_23 ⟨Nat.le_of_ble_eq_true rfl, Nat.le_of_ble_eq_true rfl⟩) (fun v23 e23 => ?_)
  refine lv_iadd hx hb dX3_relativeDrift_26 ?_
  refine lv_topi (fun v26 e26 => ?_)
  have q26 : v26.toInt = elp fr i 2 5 + elp fr i 5 6 := by rw [e26, fb_addI (by rw [e12, e23]; have := elp_rng fr i 2 5; have := elp_rng fr i 5 6; omega) (by rw [e12, e23]; have := elp_rng fr i 2 5; have := elp_rng fr i 5 6; omega), e12, e23]
  refine lv_istore_n (lv' := [(2, .int v26), (0, .ref (a 0)), (1, .int (nI i))]) hx hb dX3_relativeDrift_27 rfl hl (by decide) rfl (fun ls hl => ?_)
  refine lv_aload_n hx hb dX3_relativeDrift_28 rfl (lv_at hl 1 rfl) ?_
  refine va_get (D := K.1) (ci := 5) (v := .ref (a 1)) (C := RX3) (T := TX3) (N := 2) hx hb hts inX3 hown hE.1 hP 0 rfl rfl 0 (by decide) (hts _ kf_X3_10) (fun _ h9 => h9) rfl dX3_relativeDrift_29 ?_
  refine lv_iload_n hx hb dX3_relativeDrift_32 rfl (lv_at hl 2 rfl) ?_
  refine lv_iconst (v := nI 4) hx hb dX3_relativeDrift_33 (by decide) ?_
  refine lv_bipush (v := nI 7) hx hb dX3_relativeDrift_34 (by decide) ?_
  refine goI (rdV (As := [.int (nI i), .int (nI 4), .int (nI 7)]) (rest := []) (c_elapsed l K (fun k => a (1 + k)) t kn fn kr fr kp fp i 4 7 (by omega) (by decide) (by decide) (hs _ (by decide) (by decide)) (hs _ (by decide) (by decide))) ⟨hx, hb, hml, hown, hts⟩ (gV kl_X3_132 ki_X1_elapsed ks_X1_elapsed kn_X1 kc_X1_elapsed) (by show okN yX1_elapsed 3; decide +kernel) ⟨⟨Nat.le_of_ble_eq_true rfl, Nat.le_of_ble_eq_true rfl⟩, rfl, rfl⟩ hE hP [1, 2, 3, 4, 5, 6, 7] rfl ⟨0, 3, _, _, rfl, rfl, rfl⟩ hl.1 rfl (Nat.le_of_ble_eq_true rfl) dX3_relativeDrift_36 ⟨Nat.le_of_ble_eq_true rfl, Nat.le_of_ble_eq_true rfl⟩) (fun v36 e36 => ?_)
  refine lv_aload_n hx hb dX3_relativeDrift_39 rfl (lv_at hl 1 rfl) ?_
  refine va_get (D := K.1) (ci := 5) (v := .ref (a 1)) (C := RX3) (T := TX3) (N := 2) hx hb hts inX3 hown hE.1 hP 0 rfl rfl 0 (by decide) (hts _ kf_X3_10) (fun _ h9 => h9) rfl dX3_relativeDrift_40 ?_
  refine lv_iload_n hx hb dX3_relativeDrift_43 rfl (lv_at hl 2 rfl) ?_
  refine lv_iconst (v := nI 3) hx hb dX3_relativeDrift_44 (by decide) ?_
  refine lv_iconst (v := nI 4) hx hb dX3_relativeDrift_45 (by decide) ?_
  refine goI (rdV (As := [.int (nI i), .int (nI 3), .int (nI 4)]) (rest := [.int v36]) (c_elapsed l K (fun k => a (1 + k)) t kn fn kr fr kp fp i 3 4 (by omega) (by decide) (by decide) (hs _ (by decide) (by decide)) (hs _ (by decide) (by decide))) ⟨hx, hb, hml, hown, hts⟩ (gV kl_X3_132 ki_X1_elapsed ks_X1_elapsed kn_X1 kc_X1_elapsed) (by show okN yX1_elapsed 3; decide +kernel) ⟨⟨Nat.le_of_ble_eq_true rfl, Nat.le_of_ble_eq_true rfl⟩, rfl, rfl⟩ hE hP [1, 2, 3, 4, 5, 6, 7] rfl ⟨0, 3, _, _, rfl, rfl, rfl⟩ hl.1 rfl (Nat.le_of_ble_eq_true rfl) dX3_relativeDrift_46 ⟨Nat.le_of_ble_eq_true rfl, Nat.le_of_ble_eq_true rfl⟩) (fun v46 e46 => ?_)
  refine lv_iadd hx hb dX3_relativeDrift_49 ?_
  refine lv_topi (fun v49 e49 => ?_)
  have q49 : v49.toInt = elp fr i 4 7 + elp fr i 3 4 := by rw [e49, fb_addI (by rw [e36, e46]; have := elp_rng fr i 4 7; have := elp_rng fr i 3 4; omega) (by rw [e36, e46]; have := elp_rng fr i 4 7; have := elp_rng fr i 3 4; omega), e36, e46]
  refine lv_istore_n (lv' := [(3, .int v49), (2, .int v26), (0, .ref (a 0)), (1, .int (nI i))]) hx hb dX3_relativeDrift_50 rfl hl (by decide) rfl (fun ls hl => ?_)
  refine lv_iload_n hx hb dX3_relativeDrift_51 rfl (lv_at hl 0 rfl) ?_
  refine lv_if_ne (tgt := 65) hx hb dX3_relativeDrift_52 (by decide) (fun c52 => ?_) (fun c52 => ?_)
  · have gD : dGood (FP.ddiv (FP.i2d v26) (FP.i2d v49)) := d_div (d_i2d v26) (d_i2d0 c52)
    refine lv_iload_n hx hb dX3_relativeDrift_65 rfl (lv_at hl 1 rfl) ?_
    refine lv_i2d hx hb dX3_relativeDrift_66 ?_
    refine lv_iload_n hx hb dX3_relativeDrift_67 rfl (lv_at hl 0 rfl) ?_
    refine lv_i2d hx hb dX3_relativeDrift_68 ?_
    refine lv_ddiv hx hb dX3_relativeDrift_69 (d_n64 gD) ?_
    refine lv_dconst1 hx hb dX3_relativeDrift_70 ?_
    refine lv_dsub hx hb dX3_relativeDrift_71 (d_n64 (d_sub1 gD)) ?_
    refine lv_ldc2d hx hb hown (hts _ kd_X3_141) dX3_relativeDrift_72 ?_
    refine lv_dmul hx hb dX3_relativeDrift_75 (d_n64 (d_mulM (d_sub1 gD))) ?_
    refine W.widen (k := 2) (n := 12) (Nat.le_of_ble_eq_true rfl) (Nat.le_of_ble_eq_true rfl) ?_
    exact vx_ret (eD (v := FP.dmul (FP.dsub (FP.ddiv (FP.i2d v26) (FP.i2d v49)) FP.dconst1) 4696837146684686336) hx hb hr hlocks (⟨by omega, by rw [ix_nI (by omega)]; exact fun g => c52 (eqI (by rw [q49, g]; rfl)), ⟨v26, v49, by rw [ix_nI (by omega)]; exact q26, by rw [ix_nI (by omega)]; exact q49, rfl, d_mulM (d_sub1 gD)⟩⟩) dX3_relativeDrift_76)
  · exact thr_AE (rest := []) hx hb hl9 hown hts hE hA hZ kk_X3_136 (List.mem_of_getElem? (i := 8) rfl : (138, "no time passed on the responder's counter") ∈ xcS) (hl.1.trans hml.symm) dX3_relativeDrift_55 dX3_relativeDrift_58 dX3_relativeDrift_59 dX3_relativeDrift_61 dX3_relativeDrift_64 htab hlocks ⟨Nat.le_of_ble_eq_true rfl, Nat.le_of_ble_eq_true rfl, Nat.le_of_ble_eq_true rfl, Nat.le_of_ble_eq_true rfl⟩ ⟨Nat.le_of_ble_eq_true rfl, Nat.le_of_ble_eq_true rfl⟩ (Or.inr ⟨rfl, by omega, fun g => g (by rw [ix_nI (by omega), ← q49, c52]; rfl)⟩)
theorem sfo_T {fn : Nat → Int32} {i : Nat} (hi : nOk fn i) : ((fn (i * 6 + 0)).toInt64 * (fn (i * 6 + 0)).toInt64 + (fn (i * 6 + 1)).toInt64 * (fn (i * 6 + 1)).toInt64).toInt = sfoS fn i := by
  have a := sq_le (x := nd fn i 0) (n := 1000) hi.1.1 hi.1.2
  have b := sq_le (x := nd fn i 1) (n := 1000) hi.2.1.1 hi.2.1.2
  unfold sfoS
  unfold nd at a b ⊢
  have e0 : ((fn (i * 6 + 0)).toInt64 * (fn (i * 6 + 0)).toInt64).toInt = (fn (i * 6 + 0)).toInt * (fn (i * 6 + 0)).toInt := by
    rw [fb_mulL (by rw [i64T]; omega) (by rw [i64T]; omega), i64T]
  have e1 : ((fn (i * 6 + 1)).toInt64 * (fn (i * 6 + 1)).toInt64).toInt = (fn (i * 6 + 1)).toInt * (fn (i * 6 + 1)).toInt := by
    rw [fb_mulL (by rw [i64T]; omega) (by rw [i64T]; omega), i64T]
  rw [fb_addL (by rw [e0, e1]; omega) (by rw [e0, e1]; omega), e0, e1]
set_option maxHeartbeats 4000000 in
set_option maxRecDepth 100000 in
theorem f_fix (l : Launch) (hl9 : l.stackTraces = false) (K : EK) (a : Nat → Nat) (t : Int64) (kn : Nat) (fn : Nat → Int32) (kr : Nat) (fr : Nat → Int32) (kp : Nat) (fp : Nat → Int32) (p0 p1 p2 p3 : Int32) (hSI : SI (t, (kn, fn), (kr, fr), (kp, fp))) : vx_Met l yX3_fix (wq yX3_fix cX3_fix 18 (some .int)) (rmL 9 16 96) (va_Pc [.ref (a 0), .int p0, .int p1, .int p2, .int p3] (PX K [(a 0, .inr (5, [.ref (a 1), .ref (a 8)])), (a 1, .inr (3, [.long t, .ref (a 2), .ref (a 3), .ref (a 4)])), (a 2, .inr (4, [.ref (a 5), .int (nI 6), .int (nI kn)])), (a 3, .inr (4, [.ref (a 6), .int (nI 8), .int (nI kr)])), (a 4, .inr (4, [.ref (a 7), .int (nI 5), .int (nI kp)])), (a 5, .inl (K.2.1, 36, .inl (fn))), (a 6, .inl (K.2.1, 320, .inl (fr))), (a 7, .inl (K.2.1, 100, .inl (fp)))])) (vp_Si (fun r => ((0 ≤ p0.toInt ∧ p0.toInt < kn) ∧ (0 ≤ p1.toInt ∧ p1.toInt ≤ 999) ∧ ix p1 / 100 < kn ∧ ix p1 / 10 % 10 < kn ∧ ix p1 % 10 < kn) ∧ (ix p0 ≠ ix p1 / 100 ∧ ix p0 ≠ ix p1 / 10 % 10 ∧ ix p0 ≠ ix p1 % 10 ∧ ix p1 / 100 ≠ ix p1 / 10 % 10 ∧ ix p1 / 100 ≠ ix p1 % 10 ∧ ix p1 / 10 % 10 ≠ ix p1 % 10 ∧ (0 ≤ p2.toInt ∧ p2.toInt ≤ 2) ∧ 0 ≤ p3.toInt ∧ p3.toInt ≤ 1) ∧ (¬ noLat fr (ix p0) (ix p1 / 100) kr ∧ ¬ noLat fr (ix p0) (ix p1 / 10 % 10) kr ∧ ¬ noLat fr (ix p0) (ix p1 % 10) kr) ∧ (∀ e1 e2 e3, isLat fr (ix p0) (ix p1 / 100) kr e1 ∧ isLat fr (ix p0) (ix p1 / 10 % 10) kr e2 ∧ isLat fr (ix p0) (ix p1 % 10) kr e3 → solOk fn (ix p1 / 100) (ix p1 / 10 % 10) (ix p1 % 10) (rgtS fn fr e1 e2 (ix p1 / 100) (ix p1 / 10 % 10) (ix p2)) (rgtS fn fr e1 e3 (ix p1 / 100) (ix p1 % 10) (ix p2)) (ix p3)) ∧ (∃ e1 e2 e3, (isLat fr (ix p0) (ix p1 / 100) kr e1 ∧ isLat fr (ix p0) (ix p1 / 10 % 10) kr e2 ∧ isLat fr (ix p0) (ix p1 % 10) kr e3) ∧ r.toInt = solS fn (ix p1 / 100) (ix p1 / 10 % 10) (ix p1 % 10) (rgtS fn fr e1 e2 (ix p1 / 100) (ix p1 / 10 % 10) (ix p2)) (rgtS fn fr e1 e3 (ix p1 / 100) (ix p1 % 10) (ix p2)) (ix p3)))) (XX (fun E => (E = xIO ∧ ¬ ((0 ≤ p0.toInt ∧ p0.toInt < kn) ∧ (0 ≤ p1.toInt ∧ p1.toInt ≤ 999) ∧ ix p1 / 100 < kn ∧ ix p1 / 10 % 10 < kn ∧ ix p1 % 10 < kn)) ∨ (E = xIA ∧ ((0 ≤ p0.toInt ∧ p0.toInt < kn) ∧ (0 ≤ p1.toInt ∧ p1.toInt ≤ 999) ∧ ix p1 / 100 < kn ∧ ix p1 / 10 % 10 < kn ∧ ix p1 % 10 < kn) ∧ ¬ (ix p0 ≠ ix p1 / 100 ∧ ix p0 ≠ ix p1 / 10 % 10 ∧ ix p0 ≠ ix p1 % 10 ∧ ix p1 / 100 ≠ ix p1 / 10 % 10 ∧ ix p1 / 100 ≠ ix p1 % 10 ∧ ix p1 / 10 % 10 ≠ ix p1 % 10 ∧ (0 ≤ p2.toInt ∧ p2.toInt ≤ 2) ∧ 0 ≤ p3.toInt ∧ p3.toInt ≤ 1)) ∨ (E = xIS ∧ ((0 ≤ p0.toInt ∧ p0.toInt < kn) ∧ (0 ≤ p1.toInt ∧ p1.toInt ≤ 999) ∧ ix p1 / 100 < kn ∧ ix p1 / 10 % 10 < kn ∧ ix p1 % 10 < kn) ∧ (ix p0 ≠ ix p1 / 100 ∧ ix p0 ≠ ix p1 / 10 % 10 ∧ ix p0 ≠ ix p1 % 10 ∧ ix p1 / 100 ≠ ix p1 / 10 % 10 ∧ ix p1 / 100 ≠ ix p1 % 10 ∧ ix p1 / 10 % 10 ≠ ix p1 % 10 ∧ (0 ≤ p2.toInt ∧ p2.toInt ≤ 2) ∧ 0 ≤ p3.toInt ∧ p3.toInt ≤ 1) ∧ ¬ (¬ noLat fr (ix p0) (ix p1 / 100) kr ∧ ¬ noLat fr (ix p0) (ix p1 / 10 % 10) kr ∧ ¬ noLat fr (ix p0) (ix p1 % 10) kr)) ∨ (E = xAR ∧ ((0 ≤ p0.toInt ∧ p0.toInt < kn) ∧ (0 ≤ p1.toInt ∧ p1.toInt ≤ 999) ∧ ix p1 / 100 < kn ∧ ix p1 / 10 % 10 < kn ∧ ix p1 % 10 < kn) ∧ (ix p0 ≠ ix p1 / 100 ∧ ix p0 ≠ ix p1 / 10 % 10 ∧ ix p0 ≠ ix p1 % 10 ∧ ix p1 / 100 ≠ ix p1 / 10 % 10 ∧ ix p1 / 100 ≠ ix p1 % 10 ∧ ix p1 / 10 % 10 ≠ ix p1 % 10 ∧ (0 ≤ p2.toInt ∧ p2.toInt ≤ 2) ∧ 0 ≤ p3.toInt ∧ p3.toInt ≤ 1) ∧ (¬ noLat fr (ix p0) (ix p1 / 100) kr ∧ ¬ noLat fr (ix p0) (ix p1 / 10 % 10) kr ∧ ¬ noLat fr (ix p0) (ix p1 % 10) kr) ∧ ¬ (∀ e1 e2 e3, isLat fr (ix p0) (ix p1 / 100) kr e1 ∧ isLat fr (ix p0) (ix p1 / 10 % 10) kr e2 ∧ isLat fr (ix p0) (ix p1 % 10) kr e3 → solOk fn (ix p1 / 100) (ix p1 / 10 % 10) (ix p1 % 10) (rgtS fn fr e1 e2 (ix p1 / 100) (ix p1 / 10 % 10) (ix p2)) (rgtS fn fr e1 e3 (ix p1 / 100) (ix p1 % 10) (ix p2)) (ix p3))))) 16 96 NF := by
  refine hdX (by decide) (Nat.le_of_ble_eq_true rfl) ?_
  intro pp ee s mm bl9 me9 cd hx hb hr hlocks hml hown hts htab hE hP A hA hZ ls hl
  have hown : s.vm.findClass RX3 = some mm.cls := hown
  have hP : va_P K.1 vwCl [(a 0, .inr (5, [.ref (a 1), .ref (a 8)])), (a 1, .inr (3, [.long t, .ref (a 2), .ref (a 3), .ref (a 4)])), (a 2, .inr (4, [.ref (a 5), .int (nI 6), .int (nI kn)])), (a 3, .inr (4, [.ref (a 6), .int (nI 8), .int (nI kr)])), (a 4, .inr (4, [.ref (a 7), .int (nI 5), .int (nI kp)])), (a 5, .inl (K.2.1, 36, .inl (fn))), (a 6, .inl (K.2.1, 320, .inl (fr))), (a 7, .inl (K.2.1, 100, .inl (fp)))] s.heap := hP
  have hl : lv_has ls 18 [(0, .ref (a 0)), (1, .int p0), (2, .int p1), (3, .int p2), (4, .int p3)] := hl
  have s1 : kn ≤ 6 := hSI.1
  have s2 : kr ≤ 40 := hSI.2.1
  have s3 : kp ≤ 20 := hSI.2.2.1
  have s4 : 0 ≤ t.toInt ∧ t.toInt ≤ 900000000 + 1000000 * (kr : Int) := hSI.2.2.2.1
  have hn : ∀ i, i < kn → nOk fn i := hSI.2.2.2.2.1
  have hrs : ∀ e, e < kr → rOk kn fr e := hSI.2.2.2.2.2.1
  have hps : ∀ k, k < kp → pOk kn fp k := hSI.2.2.2.2.2.2.1
  refine lv_aload_n hx hb dX3_fix_0 rfl (lv_at hl 0 rfl) ?_
  refine lv_iload_n hx hb dX3_fix_1 rfl (lv_at hl 1 rfl) ?_
  refine coV (ckV (As := [.int p0]) (rest := []) (c_rNode l hl9 K a t kn fn kr fr kp fp p0 (by omega)) ⟨hx, hb, hml, hown, hts⟩ (gV kl_X3_60 ki_X3_requireNode ks_X3_requireNode kn_X3 kc_X3_requireNode) (by show okN yX3_requireNode 1; decide +kernel) ⟨⟨Nat.le_of_ble_eq_true rfl, Nat.le_of_ble_eq_true rfl⟩, ⟨rfl, rfl⟩, Nat.le_of_ble_eq_true rfl, Nat.le_of_ble_eq_true rfl⟩ hE hP hA hZ [0, 1, 2, 3, 4, 5, 6, 7] rfl ⟨0, 5, _, _, rfl, rfl, rfl⟩ hl.1 rfl (Nat.le_of_ble_eq_true rfl) dX3_fix_2) htab hlocks ⟨Nat.le_of_ble_eq_true rfl, Nat.le_of_ble_eq_true rfl⟩ (fun E h => by obtain ⟨h1, h2⟩ := h; exact Or.inl ⟨h1, by omega⟩) (fun e2 => ?_)
  refine lv_iload_n hx hb dX3_fix_5 rfl (lv_at hl 2 rfl) ?_
  refine lv_if_lt (tgt := 16) hx hb dX3_fix_6 (by decide) (fun c6 => ?_) (fun c6 => ?_)
  · exact thr_IOE (rest := []) hx hb hl9 hown hts hE hA hZ kk_X3_149 (List.mem_of_getElem? (i := 9) rfl : (151, "anchors are written with three digits") ∈ xcS) (hl.1.trans hml.symm) dX3_fix_16 dX3_fix_19 dX3_fix_20 dX3_fix_22 dX3_fix_25 htab hlocks ⟨Nat.le_of_ble_eq_true rfl, Nat.le_of_ble_eq_true rfl, Nat.le_of_ble_eq_true rfl, Nat.le_of_ble_eq_true rfl⟩ ⟨Nat.le_of_ble_eq_true rfl, Nat.le_of_ble_eq_true rfl⟩ (Or.inl ⟨rfl, by first | (have := ltI.mp c6; rw [Int32.toInt_zero] at this; omega) | (have := mt leI.mpr c13; rw [nI_toInt (by decide)] at this; omega)⟩)
  · refine lv_iload_n hx hb dX3_fix_9 rfl (lv_at hl 2 rfl) ?_
    refine lv_sipush (v := nI 999) hx hb dX3_fix_10 (by decide) ?_
    refine lv_icmp_le (tgt := 26) hx hb dX3_fix_13 (by decide) (fun c13 => ?_) (fun c13 => ?_)
    · have t1 : 0 ≤ p1.toInt ∧ p1.toInt ≤ (999 : Nat) := by have h1 := mt ltI.mpr c6; have h2 := leI.mp c13; rw [Int32.toInt_zero] at h1; rw [nI_toInt (by decide)] at h2; omega
      obtain ⟨n0, hn0, rfl⟩ := ixOf (n := kn) e2 (by omega)
      obtain ⟨q9, hq9, rfl⟩ := ixLe (n := 999) t1 (by omega)
      have n1 := nI_toInt (show q9 / 100 < 2 ^ 31 by omega)
      have n2 := nI_toInt (show q9 / 10 % 10 < 2 ^ 31 by omega)
      have n3 := nI_toInt (show q9 % 10 < 2 ^ 31 by omega)
      have n4 : ix (nI q9) = q9 := ix_nI (by omega)
      have n5 : ix (nI n0) = n0 := ix_nI (by omega)
      have n6 := nI_toInt (show n0 < 2 ^ 31 by omega)
      have n7 := nI_toInt (show q9 < 2 ^ 31 by omega)
      refine lv_iload_n hx hb dX3_fix_26 rfl (lv_at hl 2 rfl) ?_
      refine lv_bipush (v := nI 100) hx hb dX3_fix_27 (by decide) ?_
      refine lv_idiv hx hb dX3_fix_29 (by decide) ?_
      rw [pk_div (a := q9) (d := 100) (by omega) (by omega) (by omega)]
      refine lv_istore (lv' := [(5, .int (nI (q9 / 100))), (0, .ref (a 0)), (1, .int (nI n0)), (2, .int (nI q9)), (3, .int p2), (4, .int p3)]) hx hb dX3_fix_30 hl (by decide) rfl (fun ls hl => ?_)
      refine lv_iload_n hx hb dX3_fix_32 rfl (lv_at hl 3 rfl) ?_
      refine lv_bipush (v := nI 10) hx hb dX3_fix_33 (by decide) ?_
      refine lv_idiv hx hb dX3_fix_35 (by decide) ?_
      rw [pk_div (a := q9) (d := 10) (by omega) (by omega) (by omega)]
      refine lv_bipush (v := nI 10) hx hb dX3_fix_36 (by decide) ?_
      refine lv_irem hx hb dX3_fix_38 (by decide) ?_
      rw [pk_rem (a := q9 / 10) (d := 10) (by omega) (by omega) (by omega)]
      refine lv_istore (lv' := [(6, .int (nI ((q9 / 10) % 10))), (5, .int (nI (q9 / 100))), (0, .ref (a 0)), (1, .int (nI n0)), (2, .int (nI q9)), (3, .int p2), (4, .int p3)]) hx hb dX3_fix_39 hl (by decide) rfl (fun ls hl => ?_)
      refine lv_iload_n hx hb dX3_fix_41 rfl (lv_at hl 4 rfl) ?_
      refine lv_bipush (v := nI 10) hx hb dX3_fix_42 (by decide) ?_
      refine lv_irem hx hb dX3_fix_44 (by decide) ?_
      rw [pk_rem (a := q9) (d := 10) (by omega) (by omega) (by omega)]
      refine lv_istore (lv' := [(7, .int (nI (q9 % 10))), (6, .int (nI ((q9 / 10) % 10))), (5, .int (nI (q9 / 100))), (0, .ref (a 0)), (1, .int (nI n0)), (2, .int (nI q9)), (3, .int p2), (4, .int p3)]) hx hb dX3_fix_45 hl (by decide) rfl (fun ls hl => ?_)
      refine lv_aload_n hx hb dX3_fix_47 rfl (lv_at hl 3 rfl) ?_
      refine lv_iload hx hb dX3_fix_48 (lv_at hl 2 rfl) ?_
      refine coV (ckV (As := [.int (nI (q9 / 100))]) (rest := []) (c_rNode l hl9 K a t kn fn kr fr kp fp (nI (q9 / 100)) (by omega)) ⟨hx, hb, hml, hown, hts⟩ (gV kl_X3_60 ki_X3_requireNode ks_X3_requireNode kn_X3 kc_X3_requireNode) (by show okN yX3_requireNode 1; decide +kernel) ⟨⟨Nat.le_of_ble_eq_true rfl, Nat.le_of_ble_eq_true rfl⟩, ⟨rfl, rfl⟩, Nat.le_of_ble_eq_true rfl, Nat.le_of_ble_eq_true rfl⟩ hE hP hA hZ [0, 1, 2, 3, 4, 5, 6, 7] rfl ⟨0, 5, _, _, rfl, rfl, rfl⟩ hl.1 rfl (Nat.le_of_ble_eq_true rfl) dX3_fix_50) htab hlocks ⟨Nat.le_of_ble_eq_true rfl, Nat.le_of_ble_eq_true rfl⟩ (fun E h => by obtain ⟨h1, h2⟩ := h; exact Or.inl ⟨h1, by rw [n4]; omega⟩) (fun e50 => ?_)
      refine lv_aload_n hx hb dX3_fix_53 rfl (lv_at hl 3 rfl) ?_
      refine lv_iload hx hb dX3_fix_54 (lv_at hl 1 rfl) ?_
      refine coV (ckV (As := [.int (nI ((q9 / 10) % 10))]) (rest := []) (c_rNode l hl9 K a t kn fn kr fr kp fp (nI ((q9 / 10) % 10)) (by omega)) ⟨hx, hb, hml, hown, hts⟩ (gV kl_X3_60 ki_X3_requireNode ks_X3_requireNode kn_X3 kc_X3_requireNode) (by show okN yX3_requireNode 1; decide +kernel) ⟨⟨Nat.le_of_ble_eq_true rfl, Nat.le_of_ble_eq_true rfl⟩, ⟨rfl, rfl⟩, Nat.le_of_ble_eq_true rfl, Nat.le_of_ble_eq_true rfl⟩ hE hP hA hZ [0, 1, 2, 3, 4, 5, 6, 7] rfl ⟨0, 5, _, _, rfl, rfl, rfl⟩ hl.1 rfl (Nat.le_of_ble_eq_true rfl) dX3_fix_56) htab hlocks ⟨Nat.le_of_ble_eq_true rfl, Nat.le_of_ble_eq_true rfl⟩ (fun E h => by obtain ⟨h1, h2⟩ := h; exact Or.inl ⟨h1, by rw [n4]; omega⟩) (fun e56 => ?_)
      refine lv_aload_n hx hb dX3_fix_59 rfl (lv_at hl 3 rfl) ?_
      refine lv_iload hx hb dX3_fix_60 (lv_at hl 0 rfl) ?_
      refine coV (ckV (As := [.int (nI (q9 % 10))]) (rest := []) (c_rNode l hl9 K a t kn fn kr fr kp fp (nI (q9 % 10)) (by omega)) ⟨hx, hb, hml, hown, hts⟩ (gV kl_X3_60 ki_X3_requireNode ks_X3_requireNode kn_X3 kc_X3_requireNode) (by show okN yX3_requireNode 1; decide +kernel) ⟨⟨Nat.le_of_ble_eq_true rfl, Nat.le_of_ble_eq_true rfl⟩, ⟨rfl, rfl⟩, Nat.le_of_ble_eq_true rfl, Nat.le_of_ble_eq_true rfl⟩ hE hP hA hZ [0, 1, 2, 3, 4, 5, 6, 7] rfl ⟨0, 5, _, _, rfl, rfl, rfl⟩ hl.1 rfl (Nat.le_of_ble_eq_true rfl) dX3_fix_62) htab hlocks ⟨Nat.le_of_ble_eq_true rfl, Nat.le_of_ble_eq_true rfl⟩ (fun E h => by obtain ⟨h1, h2⟩ := h; exact Or.inl ⟨h1, by rw [n4]; omega⟩) (fun e62 => ?_)
      refine lv_iload_n hx hb dX3_fix_65 rfl (lv_at hl 4 rfl) ?_
      refine lv_iload hx hb dX3_fix_66 (lv_at hl 2 rfl) ?_
      refine lv_iload hx hb dX3_fix_68 (lv_at hl 1 rfl) ?_
      refine lv_iload hx hb dX3_fix_70 (lv_at hl 0 rfl) ?_
      refine coV (ckS (As := [.int (nI n0), .int (nI (q9 / 100)), .int (nI ((q9 / 10) % 10)), .int (nI (q9 % 10))]) (rest := []) (c_rFour l hl9 K (nI n0) (nI (q9 / 100)) (nI ((q9 / 10) % 10)) (nI (q9 % 10))) ⟨hx, hb, hml, hown, hts⟩ (gS kl_X3_154 kt_X3_requireFourNodes kn_X3 kc_X3_requireFourNodes) (by show okN yX3_requireFourNodes 4; decide +kernel) ⟨⟨Nat.le_of_ble_eq_true rfl, Nat.le_of_ble_eq_true rfl⟩, ⟨rfl, rfl⟩, Nat.le_of_ble_eq_true rfl, Nat.le_of_ble_eq_true rfl⟩ hE hP hA hZ [] rfl hl.1 rfl (Nat.le_of_ble_eq_true rfl) dX3_fix_72) htab hlocks ⟨Nat.le_of_ble_eq_true rfl, Nat.le_of_ble_eq_true rfl⟩ (fun E h => by obtain ⟨h1, h2⟩ := h; exact Or.inr (Or.inl ⟨h1, by rw [n4]; omega, fun g => h2 (by rw [n4, n5] at g; exact ⟨fun q => g.1 (by clear g; omega), fun q => g.2.1 (by clear g; omega), fun q => g.2.2.1 (by clear g; omega), fun q => g.2.2.2.1 (by clear g; omega), fun q => g.2.2.2.2.1 (by clear g; omega), fun q => g.2.2.2.2.2.1 (by clear g; omega)⟩)⟩)) (fun e72 => ?_)
      refine lv_iload_n hx hb dX3_fix_75 rfl (lv_at hl 6 rfl) ?_
      refine coV (ckS (As := [.int p2]) (rest := []) (c_rMethod l hl9 K p2) ⟨hx, hb, hml, hown, hts⟩ (gS kl_X3_112 kt_X3_requireMethod kn_X3 kc_X3_requireMethod) (by show okN yX3_requireMethod 1; decide +kernel) ⟨⟨Nat.le_of_ble_eq_true rfl, Nat.le_of_ble_eq_true rfl⟩, ⟨rfl, rfl⟩, Nat.le_of_ble_eq_true rfl, Nat.le_of_ble_eq_true rfl⟩ hE hP hA hZ [] rfl hl.1 rfl (Nat.le_of_ble_eq_true rfl) dX3_fix_76) htab hlocks ⟨Nat.le_of_ble_eq_true rfl, Nat.le_of_ble_eq_true rfl⟩ (fun E h => by obtain ⟨h1, h2⟩ := h; exact Or.inr (Or.inl ⟨h1, by clear e72; rw [n4]; omega, fun g => h2 g.2.2.2.2.2.2.1⟩)) (fun e76 => ?_)
      refine lv_iload hx hb dX3_fix_79 (lv_at hl 7 rfl) ?_
      refine lv_iconst (v := nI 0) hx hb dX3_fix_81 (by decide) ?_
      refine lv_iconst (v := nI 1) hx hb dX3_fix_82 (by decide) ?_
      have b83a : (nI 0 : Int32).toInt = 0 := by decide
      have b83b : (nI 1 : Int32).toInt = 1 := by decide
      refine coV (ckS (As := [.int p3, .int (nI 0), .int (nI 1)]) (rest := []) (c_rWithin l hl9 K p3 (nI 0) (nI 1)) ⟨hx, hb, hml, hown, hts⟩ (gS kl_X3_23 kt_X3_requireWithin kn_X3 kc_X3_requireWithin) (by show okN yX3_requireWithin 3; decide +kernel) ⟨⟨Nat.le_of_ble_eq_true rfl, Nat.le_of_ble_eq_true rfl⟩, ⟨rfl, rfl⟩, Nat.le_of_ble_eq_true rfl, Nat.le_of_ble_eq_true rfl⟩ hE hP hA hZ [] rfl hl.1 rfl (Nat.le_of_ble_eq_true rfl) dX3_fix_83) htab hlocks ⟨Nat.le_of_ble_eq_true rfl, Nat.le_of_ble_eq_true rfl⟩ (fun E h => by obtain ⟨h1, h2⟩ := h; exact Or.inr (Or.inl ⟨h1, by clear e72; rw [n4]; omega, fun g => h2 g.2.2.2.2.2.2.2⟩)) (fun e83 => ?_)
      have hI : q9 / 100 < kn := by omega
      have hJ : q9 / 10 % 10 < kn := by omega
      have hK : q9 % 10 < kn := by omega
      have hne : n0 ≠ q9 / 100 ∧ n0 ≠ q9 / 10 % 10 ∧ n0 ≠ q9 % 10 ∧ q9 / 100 ≠ q9 / 10 % 10 ∧ q9 / 100 ≠ q9 % 10 ∧ q9 / 10 % 10 ≠ q9 % 10 := ⟨fun g => e72.1 (by rw [n6, n1, g]), fun g => e72.2.1 (by rw [n6, n2, g]), fun g => e72.2.2.1 (by rw [n6, n3, g]), fun g => e72.2.2.2.1 (by rw [n1, n2, g]), fun g => e72.2.2.2.2.1 (by rw [n1, n3, g]), fun g => e72.2.2.2.2.2 (by rw [n2, n3, g])⟩
      clear e72
      obtain ⟨m9, hm9, rfl⟩ := ixLe (n := 2) (show 0 ≤ p2.toInt ∧ p2.toInt ≤ (2 : Nat) by omega) (by omega)
      obtain ⟨ax, hax, rfl⟩ := ixLe (n := 1) (show 0 ≤ p3.toInt ∧ p3.toInt ≤ (1 : Nat) by omega) (by omega)
      have n8 : ix (nI m9) = m9 := ix_nI (by omega)
      have n9 : ix (nI ax) = ax := ix_nI (by omega)
      have hIO : ((0 ≤ (nI n0).toInt ∧ (nI n0).toInt < kn) ∧ (0 ≤ (nI q9).toInt ∧ (nI q9).toInt ≤ 999) ∧ ix (nI q9) / 100 < kn ∧ ix (nI q9) / 10 % 10 < kn ∧ ix (nI q9) % 10 < kn) := by rw [n4]; omega
      have hIA : (ix (nI n0) ≠ ix (nI q9) / 100 ∧ ix (nI n0) ≠ ix (nI q9) / 10 % 10 ∧ ix (nI n0) ≠ ix (nI q9) % 10 ∧ ix (nI q9) / 100 ≠ ix (nI q9) / 10 % 10 ∧ ix (nI q9) / 100 ≠ ix (nI q9) % 10 ∧ ix (nI q9) / 10 % 10 ≠ ix (nI q9) % 10 ∧ (0 ≤ (nI m9).toInt ∧ (nI m9).toInt ≤ 2) ∧ 0 ≤ (nI ax).toInt ∧ (nI ax).toInt ≤ 1) := by rw [n4, n5]; exact ⟨hne.1, hne.2.1, hne.2.2.1, hne.2.2.2.1, hne.2.2.2.2.1, hne.2.2.2.2.2, e76, e83⟩
      refine lv_aload_n hx hb dX3_fix_86 rfl (lv_at hl 3 rfl) ?_
      refine va_get (D := K.1) (ci := 5) (v := .ref (a 1)) (C := RX3) (T := TX3) (N := 2) hx hb hts inX3 hown hE.1 hP 0 rfl rfl 0 (by decide) (hts _ kf_X3_10) (fun _ h9 => h9) rfl dX3_fix_87 ?_
      refine lv_aload_n hx hb dX3_fix_90 rfl (lv_at hl 3 rfl) ?_
      refine lv_iload_n hx hb dX3_fix_91 rfl (lv_at hl 4 rfl) ?_
      refine lv_iload hx hb dX3_fix_92 (lv_at hl 2 rfl) ?_
      refine coI (ckV (As := [.int (nI n0), .int (nI (q9 / 100))]) (rest := [.ref (a 1)]) (c_rLatest l hl9 K a t kn fn kr fr kp fp n0 (q9 / 100) (by omega) (by omega) hSI) ⟨hx, hb, hml, hown, hts⟩ (gV kl_X3_118 ki_X3_requireLatest ks_X3_requireLatest kn_X3 kc_X3_requireLatest) (by show okN yX3_requireLatest 2; decide +kernel) ⟨⟨Nat.le_of_ble_eq_true rfl, Nat.le_of_ble_eq_true rfl⟩, ⟨rfl, rfl⟩, Nat.le_of_ble_eq_true rfl, Nat.le_of_ble_eq_true rfl⟩ hE hP hA hZ [0, 1, 2, 3, 4, 5, 6, 7] rfl ⟨0, 5, _, _, rfl, rfl, rfl⟩ hl.1 rfl (Nat.le_of_ble_eq_true rfl) dX3_fix_94) htab hlocks ⟨Nat.le_of_ble_eq_true rfl, Nat.le_of_ble_eq_true rfl⟩ (fun E h => by obtain ⟨h1, h2⟩ := h; exact Or.inr (Or.inr (Or.inl ⟨h1, hIO, hIA, fun g => h2 (by have := g.1; rw [n4, n5] at this; exact this)⟩))) (fun v94 e94 => ?_)
      obtain ⟨e1, hv94, hlat94⟩ := e94
      have he94 := hlat94.1
      rw [hv94]
      refine lv_iload_n hx hb dX3_fix_97 rfl (lv_at hl 6 rfl) ?_
      refine goI (rdV (As := [.int (nI e1), .int (nI m9)]) (rest := []) (c_rangeOf l K (fun k => a (1 + k)) t kn fn kr fr kp fp e1 m9 (by omega) (by omega) (by omega) hn (hrs _ he94)) ⟨hx, hb, hml, hown, hts⟩ (gV kl_X3_115 ki_X1_rangeOf ks_X1_rangeOf kn_X1 kc_X1_rangeOf) (by show okN yX1_rangeOf 2; decide +kernel) ⟨⟨Nat.le_of_ble_eq_true rfl, Nat.le_of_ble_eq_true rfl⟩, rfl, rfl⟩ hE hP [1, 2, 3, 4, 5, 6, 7] rfl ⟨0, 3, _, _, rfl, rfl, rfl⟩ hl.1 rfl (Nat.le_of_ble_eq_true rfl) dX3_fix_98 ⟨Nat.le_of_ble_eq_true rfl, Nat.le_of_ble_eq_true rfl⟩) (fun v98 e98 => ?_)
      refine goL (rdS (As := [.int v98]) (rest := []) (c_squareOf l K v98) ⟨hx, hb, hml, hown, hts⟩ (gS kl_X3_158 kt_X3_squareOf kn_X3 kc_X3_squareOf) (by show okN yX3_squareOf 1; decide +kernel) ⟨⟨Nat.le_of_ble_eq_true rfl, Nat.le_of_ble_eq_true rfl⟩, rfl, rfl⟩ hE hP [] rfl hl.1 rfl (Nat.le_of_ble_eq_true rfl) dX3_fix_101 ⟨Nat.le_of_ble_eq_true rfl, Nat.le_of_ble_eq_true rfl⟩) (fun v101 e101 => ?_)
      have z101 := rsq_rng m9 hn (hrs _ he94)
      have q101 : v101.toInt = rng fn fr e1 m9 * rng fn fr e1 m9 := by rw [e101, fb_mulL (by rw [i64T, e98]; omega) (by rw [i64T, e98]; omega), i64T, e98]
      refine lv_lstore (lv' := [(8, .long v101), (7, .int (nI (q9 % 10))), (6, .int (nI ((q9 / 10) % 10))), (5, .int (nI (q9 / 100))), (0, .ref (a 0)), (1, .int (nI n0)), (2, .int (nI q9)), (3, .int (nI m9)), (4, .int (nI ax))]) hx hb dX3_fix_104 hl (by decide) rfl (fun ls hl => ?_)
      refine lv_aload_n hx hb dX3_fix_106 rfl (lv_at hl 4 rfl) ?_
      refine va_get (D := K.1) (ci := 5) (v := .ref (a 1)) (C := RX3) (T := TX3) (N := 2) hx hb hts inX3 hown hE.1 hP 0 rfl rfl 0 (by decide) (hts _ kf_X3_10) (fun _ h9 => h9) rfl dX3_fix_107 ?_
      refine lv_aload_n hx hb dX3_fix_110 rfl (lv_at hl 4 rfl) ?_
      refine lv_iload_n hx hb dX3_fix_111 rfl (lv_at hl 5 rfl) ?_
      refine lv_iload hx hb dX3_fix_112 (lv_at hl 2 rfl) ?_
      refine coI (ckV (As := [.int (nI n0), .int (nI ((q9 / 10) % 10))]) (rest := [.ref (a 1)]) (c_rLatest l hl9 K a t kn fn kr fr kp fp n0 ((q9 / 10) % 10) (by omega) (by omega) hSI) ⟨hx, hb, hml, hown, hts⟩ (gV kl_X3_118 ki_X3_requireLatest ks_X3_requireLatest kn_X3 kc_X3_requireLatest) (by show okN yX3_requireLatest 2; decide +kernel) ⟨⟨Nat.le_of_ble_eq_true rfl, Nat.le_of_ble_eq_true rfl⟩, ⟨rfl, rfl⟩, Nat.le_of_ble_eq_true rfl, Nat.le_of_ble_eq_true rfl⟩ hE hP hA hZ [0, 1, 2, 3, 4, 5, 6, 7] rfl ⟨0, 5, _, _, rfl, rfl, rfl⟩ hl.1 rfl (Nat.le_of_ble_eq_true rfl) dX3_fix_114) htab hlocks ⟨Nat.le_of_ble_eq_true rfl, Nat.le_of_ble_eq_true rfl⟩ (fun E h => by obtain ⟨h1, h2⟩ := h; exact Or.inr (Or.inr (Or.inl ⟨h1, hIO, hIA, fun g => h2 (by have := g.2.1; rw [n4, n5] at this; exact this)⟩))) (fun v114 e114 => ?_)
      obtain ⟨e2, hv114, hlat114⟩ := e114
      have he114 := hlat114.1
      rw [hv114]
      refine lv_iload_n hx hb dX3_fix_117 rfl (lv_at hl 7 rfl) ?_
      refine goI (rdV (As := [.int (nI e2), .int (nI m9)]) (rest := []) (c_rangeOf l K (fun k => a (1 + k)) t kn fn kr fr kp fp e2 m9 (by omega) (by omega) (by omega) hn (hrs _ he114)) ⟨hx, hb, hml, hown, hts⟩ (gV kl_X3_115 ki_X1_rangeOf ks_X1_rangeOf kn_X1 kc_X1_rangeOf) (by show okN yX1_rangeOf 2; decide +kernel) ⟨⟨Nat.le_of_ble_eq_true rfl, Nat.le_of_ble_eq_true rfl⟩, rfl, rfl⟩ hE hP [1, 2, 3, 4, 5, 6, 7] rfl ⟨0, 3, _, _, rfl, rfl, rfl⟩ hl.1 rfl (Nat.le_of_ble_eq_true rfl) dX3_fix_118 ⟨Nat.le_of_ble_eq_true rfl, Nat.le_of_ble_eq_true rfl⟩) (fun v118 e118 => ?_)
      refine goL (rdS (As := [.int v118]) (rest := []) (c_squareOf l K v118) ⟨hx, hb, hml, hown, hts⟩ (gS kl_X3_158 kt_X3_squareOf kn_X3 kc_X3_squareOf) (by show okN yX3_squareOf 1; decide +kernel) ⟨⟨Nat.le_of_ble_eq_true rfl, Nat.le_of_ble_eq_true rfl⟩, rfl, rfl⟩ hE hP [] rfl hl.1 rfl (Nat.le_of_ble_eq_true rfl) dX3_fix_121 ⟨Nat.le_of_ble_eq_true rfl, Nat.le_of_ble_eq_true rfl⟩) (fun v121 e121 => ?_)
      have z121 := rsq_rng m9 hn (hrs _ he114)
      have q121 : v121.toInt = rng fn fr e2 m9 * rng fn fr e2 m9 := by rw [e121, fb_mulL (by rw [i64T, e118]; omega) (by rw [i64T, e118]; omega), i64T, e118]
      refine lv_lstore (lv' := [(10, .long v121), (8, .long v101), (7, .int (nI (q9 % 10))), (6, .int (nI ((q9 / 10) % 10))), (5, .int (nI (q9 / 100))), (0, .ref (a 0)), (1, .int (nI n0)), (2, .int (nI q9)), (3, .int (nI m9)), (4, .int (nI ax))]) hx hb dX3_fix_124 hl (by decide) rfl (fun ls hl => ?_)
      refine lv_aload_n hx hb dX3_fix_126 rfl (lv_at hl 5 rfl) ?_
      refine va_get (D := K.1) (ci := 5) (v := .ref (a 1)) (C := RX3) (T := TX3) (N := 2) hx hb hts inX3 hown hE.1 hP 0 rfl rfl 0 (by decide) (hts _ kf_X3_10) (fun _ h9 => h9) rfl dX3_fix_127 ?_
      refine lv_aload_n hx hb dX3_fix_130 rfl (lv_at hl 5 rfl) ?_
      refine lv_iload_n hx hb dX3_fix_131 rfl (lv_at hl 6 rfl) ?_
      refine lv_iload hx hb dX3_fix_132 (lv_at hl 2 rfl) ?_
      refine coI (ckV (As := [.int (nI n0), .int (nI (q9 % 10))]) (rest := [.ref (a 1)]) (c_rLatest l hl9 K a t kn fn kr fr kp fp n0 (q9 % 10) (by omega) (by omega) hSI) ⟨hx, hb, hml, hown, hts⟩ (gV kl_X3_118 ki_X3_requireLatest ks_X3_requireLatest kn_X3 kc_X3_requireLatest) (by show okN yX3_requireLatest 2; decide +kernel) ⟨⟨Nat.le_of_ble_eq_true rfl, Nat.le_of_ble_eq_true rfl⟩, ⟨rfl, rfl⟩, Nat.le_of_ble_eq_true rfl, Nat.le_of_ble_eq_true rfl⟩ hE hP hA hZ [0, 1, 2, 3, 4, 5, 6, 7] rfl ⟨0, 5, _, _, rfl, rfl, rfl⟩ hl.1 rfl (Nat.le_of_ble_eq_true rfl) dX3_fix_134) htab hlocks ⟨Nat.le_of_ble_eq_true rfl, Nat.le_of_ble_eq_true rfl⟩ (fun E h => by obtain ⟨h1, h2⟩ := h; exact Or.inr (Or.inr (Or.inl ⟨h1, hIO, hIA, fun g => h2 (by have := g.2.2; rw [n4, n5] at this; exact this)⟩))) (fun v134 e134 => ?_)
      obtain ⟨e3, hv134, hlat134⟩ := e134
      have he134 := hlat134.1
      rw [hv134]
      refine lv_iload_n hx hb dX3_fix_137 rfl (lv_at hl 8 rfl) ?_
      refine goI (rdV (As := [.int (nI e3), .int (nI m9)]) (rest := []) (c_rangeOf l K (fun k => a (1 + k)) t kn fn kr fr kp fp e3 m9 (by omega) (by omega) (by omega) hn (hrs _ he134)) ⟨hx, hb, hml, hown, hts⟩ (gV kl_X3_115 ki_X1_rangeOf ks_X1_rangeOf kn_X1 kc_X1_rangeOf) (by show okN yX1_rangeOf 2; decide +kernel) ⟨⟨Nat.le_of_ble_eq_true rfl, Nat.le_of_ble_eq_true rfl⟩, rfl, rfl⟩ hE hP [1, 2, 3, 4, 5, 6, 7] rfl ⟨0, 3, _, _, rfl, rfl, rfl⟩ hl.1 rfl (Nat.le_of_ble_eq_true rfl) dX3_fix_138 ⟨Nat.le_of_ble_eq_true rfl, Nat.le_of_ble_eq_true rfl⟩) (fun v138 e138 => ?_)
      refine goL (rdS (As := [.int v138]) (rest := []) (c_squareOf l K v138) ⟨hx, hb, hml, hown, hts⟩ (gS kl_X3_158 kt_X3_squareOf kn_X3 kc_X3_squareOf) (by show okN yX3_squareOf 1; decide +kernel) ⟨⟨Nat.le_of_ble_eq_true rfl, Nat.le_of_ble_eq_true rfl⟩, rfl, rfl⟩ hE hP [] rfl hl.1 rfl (Nat.le_of_ble_eq_true rfl) dX3_fix_141 ⟨Nat.le_of_ble_eq_true rfl, Nat.le_of_ble_eq_true rfl⟩) (fun v141 e141 => ?_)
      have z141 := rsq_rng m9 hn (hrs _ he134)
      have q141 : v141.toInt = rng fn fr e3 m9 * rng fn fr e3 m9 := by rw [e141, fb_mulL (by rw [i64T, e138]; omega) (by rw [i64T, e138]; omega), i64T, e138]
      refine lv_lstore (lv' := [(12, .long v141), (10, .long v121), (8, .long v101), (7, .int (nI (q9 % 10))), (6, .int (nI ((q9 / 10) % 10))), (5, .int (nI (q9 / 100))), (0, .ref (a 0)), (1, .int (nI n0)), (2, .int (nI q9)), (3, .int (nI m9)), (4, .int (nI ax))]) hx hb dX3_fix_144 hl (by decide) rfl (fun ls hl => ?_)
      refine lv_lload hx hb dX3_fix_146 (lv_at hl 2 rfl) ?_
      refine lv_lload hx hb dX3_fix_148 (lv_at hl 1 rfl) ?_
      refine lv_lsub hx hb dX3_fix_150 ?_
      refine lv_topl (fun v150 e150 => ?_)
      have q150 : v150.toInt = rng fn fr e1 m9 * rng fn fr e1 m9 - rng fn fr e2 m9 * rng fn fr e2 m9 := by rw [e150, fb_subL (by rw [q101, q121]; omega) (by rw [q101, q121]; omega), q101, q121]
      refine lv_aload_n hx hb dX3_fix_151 rfl (lv_at hl 6 rfl) ?_
      refine va_get (D := K.1) (ci := 5) (v := .ref (a 1)) (C := RX3) (T := TX3) (N := 2) hx hb hts inX3 hown hE.1 hP 0 rfl rfl 0 (by decide) (hts _ kf_X3_10) (fun _ h9 => h9) rfl dX3_fix_152 ?_
      refine lv_iload hx hb dX3_fix_155 (lv_at hl 4 rfl) ?_
      refine goL (rdV (As := [.int (nI ((q9 / 10) % 10))]) (rest := [.long v150]) (c_squareFromOrigin l K (fun k => a (1 + k)) t kn fn kr fr kp fp ((q9 / 10) % 10) (by omega)) ⟨hx, hb, hml, hown, hts⟩ (gV kl_X3_162 ki_X1_squareFromOrigin ks_X1_squareFromOrigin kn_X1 kc_X1_squareFromOrigin) (by show okN yX1_squareFromOrigin 1; decide +kernel) ⟨⟨Nat.le_of_ble_eq_true rfl, Nat.le_of_ble_eq_true rfl⟩, rfl, rfl⟩ hE hP [1, 2, 3, 4, 5, 6, 7] rfl ⟨0, 3, _, _, rfl, rfl, rfl⟩ hl.1 rfl (Nat.le_of_ble_eq_true rfl) dX3_fix_157 ⟨Nat.le_of_ble_eq_true rfl, Nat.le_of_ble_eq_true rfl⟩) (fun v157 e157 => ?_)
      have q157 : v157.toInt = sfoS fn (q9 / 10 % 10) := by rw [e157]; exact sfo_T (hn _ hJ)
      have z157 := sfo_rng (hn _ hJ)
      refine lv_ladd hx hb dX3_fix_160 ?_
      refine lv_topl (fun v160 e160 => ?_)
      have q160 : v160.toInt = rng fn fr e1 m9 * rng fn fr e1 m9 - rng fn fr e2 m9 * rng fn fr e2 m9 + sfoS fn (q9 / 10 % 10) := by rw [e160, fb_addL (by rw [q150, q157]; omega) (by rw [q150, q157]; omega), q150, q157]
      refine lv_aload_n hx hb dX3_fix_161 rfl (lv_at hl 6 rfl) ?_
      refine va_get (D := K.1) (ci := 5) (v := .ref (a 1)) (C := RX3) (T := TX3) (N := 2) hx hb hts inX3 hown hE.1 hP 0 rfl rfl 0 (by decide) (hts _ kf_X3_10) (fun _ h9 => h9) rfl dX3_fix_162 ?_
      refine lv_iload hx hb dX3_fix_165 (lv_at hl 5 rfl) ?_
      refine goL (rdV (As := [.int (nI (q9 / 100))]) (rest := [.long v160]) (c_squareFromOrigin l K (fun k => a (1 + k)) t kn fn kr fr kp fp (q9 / 100) (by omega)) ⟨hx, hb, hml, hown, hts⟩ (gV kl_X3_162 ki_X1_squareFromOrigin ks_X1_squareFromOrigin kn_X1 kc_X1_squareFromOrigin) (by show okN yX1_squareFromOrigin 1; decide +kernel) ⟨⟨Nat.le_of_ble_eq_true rfl, Nat.le_of_ble_eq_true rfl⟩, rfl, rfl⟩ hE hP [1, 2, 3, 4, 5, 6, 7] rfl ⟨0, 3, _, _, rfl, rfl, rfl⟩ hl.1 rfl (Nat.le_of_ble_eq_true rfl) dX3_fix_167 ⟨Nat.le_of_ble_eq_true rfl, Nat.le_of_ble_eq_true rfl⟩) (fun v167 e167 => ?_)
      have q167 : v167.toInt = sfoS fn (q9 / 100) := by rw [e167]; exact sfo_T (hn _ hI)
      have z167 := sfo_rng (hn _ hI)
      refine lv_lsub hx hb dX3_fix_170 ?_
      refine lv_topl (fun v170 e170 => ?_)
      have q170 : v170.toInt = rgtS fn fr e1 e2 (q9 / 100) (q9 / 10 % 10) m9 := by rw [e170, fb_subL (by rw [q160, q167]; omega) (by rw [q160, q167]; omega), q160, q167]; rfl
      refine lv_lstore (lv' := [(14, .long v170), (12, .long v141), (10, .long v121), (8, .long v101), (7, .int (nI (q9 % 10))), (6, .int (nI ((q9 / 10) % 10))), (5, .int (nI (q9 / 100))), (0, .ref (a 0)), (1, .int (nI n0)), (2, .int (nI q9)), (3, .int (nI m9)), (4, .int (nI ax))]) hx hb dX3_fix_171 hl (by decide) rfl (fun ls hl => ?_)
      refine lv_lload hx hb dX3_fix_173 (lv_at hl 3 rfl) ?_
      refine lv_lload hx hb dX3_fix_175 (lv_at hl 1 rfl) ?_
      refine lv_lsub hx hb dX3_fix_177 ?_
      refine lv_topl (fun v177 e177 => ?_)
      have q177 : v177.toInt = rng fn fr e1 m9 * rng fn fr e1 m9 - rng fn fr e3 m9 * rng fn fr e3 m9 := by rw [e177, fb_subL (by rw [q101, q141]; omega) (by rw [q101, q141]; omega), q101, q141]
      refine lv_aload_n hx hb dX3_fix_178 rfl (lv_at hl 7 rfl) ?_
      refine va_get (D := K.1) (ci := 5) (v := .ref (a 1)) (C := RX3) (T := TX3) (N := 2) hx hb hts inX3 hown hE.1 hP 0 rfl rfl 0 (by decide) (hts _ kf_X3_10) (fun _ h9 => h9) rfl dX3_fix_179 ?_
      refine lv_iload hx hb dX3_fix_182 (lv_at hl 4 rfl) ?_
      refine goL (rdV (As := [.int (nI (q9 % 10))]) (rest := [.long v177]) (c_squareFromOrigin l K (fun k => a (1 + k)) t kn fn kr fr kp fp (q9 % 10) (by omega)) ⟨hx, hb, hml, hown, hts⟩ (gV kl_X3_162 ki_X1_squareFromOrigin ks_X1_squareFromOrigin kn_X1 kc_X1_squareFromOrigin) (by show okN yX1_squareFromOrigin 1; decide +kernel) ⟨⟨Nat.le_of_ble_eq_true rfl, Nat.le_of_ble_eq_true rfl⟩, rfl, rfl⟩ hE hP [1, 2, 3, 4, 5, 6, 7] rfl ⟨0, 3, _, _, rfl, rfl, rfl⟩ hl.1 rfl (Nat.le_of_ble_eq_true rfl) dX3_fix_184 ⟨Nat.le_of_ble_eq_true rfl, Nat.le_of_ble_eq_true rfl⟩) (fun v184 e184 => ?_)
      have q184 : v184.toInt = sfoS fn (q9 % 10) := by rw [e184]; exact sfo_T (hn _ hK)
      have z184 := sfo_rng (hn _ hK)
      refine lv_ladd hx hb dX3_fix_187 ?_
      refine lv_topl (fun v187 e187 => ?_)
      have q187 : v187.toInt = rng fn fr e1 m9 * rng fn fr e1 m9 - rng fn fr e3 m9 * rng fn fr e3 m9 + sfoS fn (q9 % 10) := by rw [e187, fb_addL (by rw [q177, q184]; omega) (by rw [q177, q184]; omega), q177, q184]
      refine lv_aload_n hx hb dX3_fix_188 rfl (lv_at hl 7 rfl) ?_
      refine va_get (D := K.1) (ci := 5) (v := .ref (a 1)) (C := RX3) (T := TX3) (N := 2) hx hb hts inX3 hown hE.1 hP 0 rfl rfl 0 (by decide) (hts _ kf_X3_10) (fun _ h9 => h9) rfl dX3_fix_189 ?_
      refine lv_iload hx hb dX3_fix_192 (lv_at hl 6 rfl) ?_
      refine goL (rdV (As := [.int (nI (q9 / 100))]) (rest := [.long v187]) (c_squareFromOrigin l K (fun k => a (1 + k)) t kn fn kr fr kp fp (q9 / 100) (by omega)) ⟨hx, hb, hml, hown, hts⟩ (gV kl_X3_162 ki_X1_squareFromOrigin ks_X1_squareFromOrigin kn_X1 kc_X1_squareFromOrigin) (by show okN yX1_squareFromOrigin 1; decide +kernel) ⟨⟨Nat.le_of_ble_eq_true rfl, Nat.le_of_ble_eq_true rfl⟩, rfl, rfl⟩ hE hP [1, 2, 3, 4, 5, 6, 7] rfl ⟨0, 3, _, _, rfl, rfl, rfl⟩ hl.1 rfl (Nat.le_of_ble_eq_true rfl) dX3_fix_194 ⟨Nat.le_of_ble_eq_true rfl, Nat.le_of_ble_eq_true rfl⟩) (fun v194 e194 => ?_)
      have q194 : v194.toInt = sfoS fn (q9 / 100) := by rw [e194]; exact sfo_T (hn _ hI)
      have z194 := sfo_rng (hn _ hI)
      refine lv_lsub hx hb dX3_fix_197 ?_
      refine lv_topl (fun v197 e197 => ?_)
      have q197 : v197.toInt = rgtS fn fr e1 e3 (q9 / 100) (q9 % 10) m9 := by rw [e197, fb_subL (by rw [q187, q194]; omega) (by rw [q187, q194]; omega), q187, q194]; rfl
      refine lv_lstore (lv' := [(16, .long v197), (14, .long v170), (12, .long v141), (10, .long v121), (8, .long v101), (7, .int (nI (q9 % 10))), (6, .int (nI ((q9 / 10) % 10))), (5, .int (nI (q9 / 100))), (0, .ref (a 0)), (1, .int (nI n0)), (2, .int (nI q9)), (3, .int (nI m9)), (4, .int (nI ax))]) hx hb dX3_fix_198 hl (by decide) rfl (fun ls hl => ?_)
      refine lv_aload_n hx hb dX3_fix_200 rfl (lv_at hl 8 rfl) ?_
      refine lv_iload hx hb dX3_fix_201 (lv_at hl 7 rfl) ?_
      refine lv_iload hx hb dX3_fix_203 (lv_at hl 6 rfl) ?_
      refine lv_iload hx hb dX3_fix_205 (lv_at hl 5 rfl) ?_
      refine lv_lload hx hb dX3_fix_207 (lv_at hl 1 rfl) ?_
      refine lv_lload hx hb dX3_fix_209 (lv_at hl 0 rfl) ?_
      refine lv_iload hx hb dX3_fix_211 (lv_at hl 12 rfl) ?_
      refine coI (ckV (As := [.int (nI (q9 / 100)), .int (nI ((q9 / 10) % 10)), .int (nI (q9 % 10)), .long v170, .long v197, .int (nI ax)]) (rest := []) (c_solve l hl9 K a t kn fn kr fr kp fp (q9 / 100) ((q9 / 10) % 10) (q9 % 10) ax v170 v197 _ _ (by omega) (by omega) (by omega) (hn _ hI) (hn _ hJ) (hn _ hK) (by omega) q170 q197 (rgt_rng m9 hn (hrs _ he94) (hrs _ he114) (hn _ hI) (hn _ hJ)) (rgt_rng m9 hn (hrs _ he94) (hrs _ he134) (hn _ hI) (hn _ hK))) ⟨hx, hb, hml, hown, hts⟩ (gV kl_X3_165 ki_X3_solve ks_X3_solve kn_X3 kc_X3_solve) (by show okN yX3_solve 6; decide +kernel) ⟨⟨Nat.le_of_ble_eq_true rfl, Nat.le_of_ble_eq_true rfl⟩, ⟨rfl, rfl⟩, Nat.le_of_ble_eq_true rfl, Nat.le_of_ble_eq_true rfl⟩ hE hP hA hZ [0, 1, 2, 3, 4, 5, 6, 7] rfl ⟨0, 5, _, _, rfl, rfl, rfl⟩ hl.1 rfl (Nat.le_of_ble_eq_true rfl) dX3_fix_213) htab hlocks ⟨Nat.le_of_ble_eq_true rfl, Nat.le_of_ble_eq_true rfl⟩ (fun E h => by obtain ⟨h1, h2⟩ := h; exact Or.inr (Or.inr (Or.inr ⟨h1, hIO, hIA, by rw [n4, n5]; exact ⟨fun g => g _ hlat94.1 hlat94.2.1, fun g => g _ hlat114.1 hlat114.2.1, fun g => g _ hlat134.1 hlat134.2.1⟩, fun g => h2 (by have g1 := g e1 e2 e3; rw [n4, n5, n8, n9] at g1; exact g1 ⟨hlat94, hlat114, hlat134⟩)⟩))) (fun v213 e213 => ?_)
      exact vx_ret (eI (v := v213) hx hb hr hlocks (⟨hIO, hIA, by rw [n4, n5]; exact ⟨fun g => g _ hlat94.1 hlat94.2.1, fun g => g _ hlat114.1 hlat114.2.1, fun g => g _ hlat134.1 hlat134.2.1⟩, by rw [n4, n5, n8, n9]; intro x1 x2 x3 hx9; rw [lat_one hx9.1 hlat94, lat_one hx9.2.1 hlat114, lat_one hx9.2.2 hlat134]; exact e213.2, ⟨e1, e2, e3, by rw [n4, n5]; exact ⟨hlat94, hlat114, hlat134⟩, by rw [n4, n8, n9]; exact e213.1⟩⟩) dX3_fix_216)
    · exact thr_IOE (rest := []) hx hb hl9 hown hts hE hA hZ kk_X3_149 (List.mem_of_getElem? (i := 9) rfl : (151, "anchors are written with three digits") ∈ xcS) (hl.1.trans hml.symm) dX3_fix_16 dX3_fix_19 dX3_fix_20 dX3_fix_22 dX3_fix_25 htab hlocks ⟨Nat.le_of_ble_eq_true rfl, Nat.le_of_ble_eq_true rfl, Nat.le_of_ble_eq_true rfl, Nat.le_of_ble_eq_true rfl⟩ ⟨Nat.le_of_ble_eq_true rfl, Nat.le_of_ble_eq_true rfl⟩ (Or.inl ⟨rfl, by first | (have := ltI.mp c6; rw [Int32.toInt_zero] at this; omega) | (have := mt leI.mpr c13; rw [nI_toInt (by decide)] at this; omega)⟩)
