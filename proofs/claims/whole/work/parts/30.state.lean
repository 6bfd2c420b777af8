theorem sub1 (n : Nat) : nI n - nI 1 = nI n + -1 := by
  refine eqI ?_
  rw [Int32.toInt_sub, Int32.toInt_add]
  rfl
set_option maxHeartbeats 4000000 in
set_option maxRecDepth 100000 in
theorem c_floorLength (l : Launch) (K : EK) (dx dy : Int32) (h1 : -2000 ≤ dx.toInt ∧ dx.toInt ≤ 2000) (h2 : -2000 ≤ dy.toInt ∧ dy.toInt ≤ 2000) : Met l yX3_floorLength (wq yX3_floorLength cX3_floorLength 6 (some .int)) (rmL 1 0 0) (va_Pc [.int dx, .int dy] (PR K [])) (vp_Si (fun r => r = nI (isq (dx.toInt * dx.toInt + dy.toInt * dy.toInt).toNat))) 0 0 NF := by
  refine hdR (by decide +kernel) (Nat.le_of_ble_eq_true rfl) ?_
  intro pp ee s mm bl9 me9 cd hx hb hr hlocks hml hown hts hE hP ls hl
  have hown : s.vm.findClass RX3 = some mm.cls := hown
  have hP : va_P K.1 vwCl [] s.heap := hP
  have hl : lv_has ls 6 [(0, .int dx), (1, .int dy)] := hl
  have g1 := sq_le (x := dx.toInt) (n := 2000) h1.1 h1.2
  have g2 := sq_le (x := dy.toInt) (n := 2000) h2.1 h2.2
  obtain ⟨S, hSe⟩ : ∃ S : Nat, (dx.toInt * dx.toInt + dy.toInt * dy.toInt).toNat = S := ⟨_, rfl⟩
  have hS2 : S < 4096 * 4096 := by omega
  refine lv_iload_n hx hb dX3_floorLength_0 rfl (lv_at hl 0 rfl) ?_
  refine lv_iload_n hx hb dX3_floorLength_1 rfl (lv_at hl 0 rfl) ?_
  refine lv_imul hx hb dX3_floorLength_2 ?_
  refine lv_topi (fun v2 e2 => ?_)
  refine lv_iload_n hx hb dX3_floorLength_3 rfl (lv_at hl 1 rfl) ?_
  refine lv_iload_n hx hb dX3_floorLength_4 rfl (lv_at hl 1 rfl) ?_
  refine lv_imul hx hb dX3_floorLength_5 ?_
  refine lv_topi (fun v5 e5 => ?_)
  refine lv_iadd hx hb dX3_floorLength_6 ?_
  refine lv_topi (fun v6 e6 => ?_)
  have hS1 : v6 = nI S := by
    have q2 : v2.toInt = dx.toInt * dx.toInt := by rw [e2]; exact fb_mulI (by omega) (by omega)
    have q5 : v5.toInt = dy.toInt * dy.toInt := by rw [e5]; exact fb_mulI (by omega) (by omega)
    refine eqI ?_
    rw [e6, fb_addI (by omega) (by omega), nI_toInt (by omega)]
    omega
  refine lv_istore_n (lv' := [(2, .int v6), (0, .int dx), (1, .int dy)]) hx hb dX3_floorLength_7 rfl hl (by decide) rfl (fun ls hl => ?_)
  rw [hS1] at hl
  refine lv_iconst (v := nI 0) hx hb dX3_floorLength_8 (by decide) ?_
  refine lv_istore_n (lv' := [(3, .int (nI 0)), (2, .int (nI S)), (0, .int dx), (1, .int dy)]) hx hb dX3_floorLength_9 rfl hl (by decide) rfl (fun ls hl => ?_)
  refine lv_sipush (v := nI 2048) hx hb dX3_floorLength_10 (by decide) ?_
  refine lv_istore (lv' := [(4, .int (nI 2048)), (3, .int (nI 0)), (2, .int (nI S)), (0, .int dx), (1, .int dy)]) hx hb dX3_floorLength_13 hl (by decide) rfl (fun ls hl => ?_)
  refine lpR (α := Nat × Nat × Nat) (fun (x9 : Nat × Nat × Nat) => x9.1 * x9.1 ≤ S ∧ S < (x9.1 + 2 ^ x9.2.1) * (x9.1 + 2 ^ x9.2.1) ∧ x9.2.2 = 2 ^ x9.2.1 / 2 ∧ x9.2.1 ≤ 12) (fun (x9 : Nat × Nat × Nat) => x9.2.1) (fun (x9 : Nat × Nat × Nat) => [(0, .int dx), (1, .int dy), (2, .int (nI S)), (3, .int (nI x9.1)), (4, .int (nI x9.2.2))]) 6 15 (fun x9 hI15 ih15 ls hl => ?_) (0, 12, 2048) (⟨Nat.zero_le _, by have := hS2; simpa using this, by decide, by decide⟩) ls (lv_sub hl [3, 4, 2, 1, 0] rfl)
  obtain ⟨k, j, bt⟩ := x9
  have hI15 : k * k ≤ S ∧ S < (k + 2 ^ j) * (k + 2 ^ j) ∧ bt = 2 ^ j / 2 ∧ j ≤ 12 := hI15
  have hl : lv_has ls 6 [(0, .int dx), (1, .int dy), (2, .int (nI S)), (3, .int (nI k)), (4, .int (nI bt))] := hl
  have hk : k < 4096 := by
    rcases Nat.lt_or_ge k 4096 with q | q
    · exact q
    · have := Nat.mul_le_mul q q
      omega
  have h2j : 2 ^ j ≤ 2 ^ 12 := Nat.pow_le_pow_right (by decide) hI15.2.2.2
  have hsq := Nat.mul_le_mul (show k + bt ≤ 8192 by have := hI15.2.2.1; omega) (show k + bt ≤ 8192 by have := hI15.2.2.1; omega)
  refine lv_iload hx hb dX3_floorLength_15 (lv_at hl 4 rfl) ?_
  refine lv_if_le (tgt := 47) hx hb dX3_floorLength_17 (by decide) (fun c17 => ?_) (fun c17 => ?_)
  · have c17 := (nI_lz (n := bt) (by omega)).mp c17
    refine lv_iload_n hx hb dX3_floorLength_47 rfl (lv_at hl 3 rfl) ?_
    have hj0 : j = 0 := by
      rcases j with _ | j
      · rfl
      · have := Nat.pow_pos (n := j) (show 0 < 2 by decide)
        have e9 := hI15.2.2.1
        rw [Nat.pow_succ] at e9
        omega
    subst hj0
    exact eI (v := nI k) hx hb hr hlocks (by rw [hSe]; exact congrArg nI (isq_uniq hI15.1 (by simpa using hI15.2.1)).symm) dX3_floorLength_48
  · have c17 := mt (nI_lz (n := bt) (by omega)).mpr c17
    obtain ⟨j, rfl⟩ : ∃ z, j = z + 1 := ⟨j - 1, by have := hI15.2.2.1; rcases j with _ | j <;> simp_all⟩
    have hbt : bt = 2 ^ j := by rw [hI15.2.2.1, Nat.pow_succ]; omega
    refine lv_iload_n hx hb dX3_floorLength_20 rfl (lv_at hl 3 rfl) ?_
    refine lv_iload hx hb dX3_floorLength_21 (lv_at hl 4 rfl) ?_
    refine lv_iadd hx hb dX3_floorLength_23 ?_
    rw [nI_add k bt]
    refine lv_istore (lv' := [(5, .int (nI (k + bt))), (0, .int dx), (1, .int dy), (2, .int (nI S)), (3, .int (nI k)), (4, .int (nI bt))]) hx hb dX3_floorLength_24 hl (by decide) rfl (fun ls hl => ?_)
    refine lv_iload hx hb dX3_floorLength_26 (lv_at hl 0 rfl) ?_
    refine lv_iload hx hb dX3_floorLength_28 (lv_at hl 0 rfl) ?_
    refine lv_imul hx hb dX3_floorLength_30 ?_
    rw [pk_mul (k + bt) (k + bt)]
    refine lv_iload_n hx hb dX3_floorLength_31 rfl (lv_at hl 3 rfl) ?_
    refine lv_icmp_gt (tgt := 38) hx hb dX3_floorLength_32 (by decide) (fun c32 => ?_) (fun c32 => ?_)
    · have c32 := (nI_ltI (a := S) (b := (k + bt) * (k + bt)) (by omega) (by omega)).mp c32
      refine lv_iload hx hb dX3_floorLength_38 (lv_at hl 5 rfl) ?_
      refine lv_iconst (v := nI 2) hx hb dX3_floorLength_40 (by decide) ?_
      refine lv_idiv hx hb dX3_floorLength_41 (by decide) ?_
      rw [pk_div (a := bt) (d := 2) (by omega) (by omega) (by omega)]
      refine lv_istore (lv' := [(4, .int (nI (bt / 2))), (5, .int (nI (k + bt))), (0, .int dx), (1, .int dy), (2, .int (nI S)), (3, .int (nI k))]) hx hb dX3_floorLength_42 hl (by decide) rfl (fun ls hl => ?_)
      refine lv_goto (tgt := 15) hx hb dX3_floorLength_44 (by decide) ?_
      have hB15 : k * k ≤ S ∧ S < (k + 2 ^ j) * (k + 2 ^ j) ∧ (bt / 2) = 2 ^ j / 2 ∧ j ≤ 12 := ⟨hI15.1, by rw [← hbt]; exact c32, by rw [hbt], by omega⟩
      exact ih15 (k, j, bt / 2) (hB15) (Nat.lt_succ_self j) ls (lv_sub hl [2, 3, 4, 5, 0] rfl)
    · have c32 := mt (nI_ltI (a := S) (b := (k + bt) * (k + bt)) (by omega) (by omega)).mpr c32
      refine lv_iload hx hb dX3_floorLength_35 (lv_at hl 0 rfl) ?_
      refine lv_istore_n (lv' := [(3, .int (nI (k + bt))), (5, .int (nI (k + bt))), (0, .int dx), (1, .int dy), (2, .int (nI S)), (4, .int (nI bt))]) hx hb dX3_floorLength_37 rfl hl (by decide) rfl (fun ls hl => ?_)
      refine lv_iload hx hb dX3_floorLength_38 (lv_at hl 5 rfl) ?_
      refine lv_iconst (v := nI 2) hx hb dX3_floorLength_40 (by decide) ?_
      refine lv_idiv hx hb dX3_floorLength_41 (by decide) ?_
      rw [pk_div (a := bt) (d := 2) (by omega) (by omega) (by omega)]
      refine lv_istore (lv' := [(4, .int (nI (bt / 2))), (3, .int (nI (k + bt))), (5, .int (nI (k + bt))), (0, .int dx), (1, .int dy), (2, .int (nI S))]) hx hb dX3_floorLength_42 hl (by decide) rfl (fun ls hl => ?_)
      refine lv_goto (tgt := 15) hx hb dX3_floorLength_44 (by decide) ?_
      have hB15 : (k + bt) * (k + bt) ≤ S ∧ S < ((k + bt) + 2 ^ j) * ((k + bt) + 2 ^ j) ∧ (bt / 2) = 2 ^ j / 2 ∧ j ≤ 12 := ⟨Nat.le_of_not_lt c32, by rw [show k + bt + 2 ^ j = k + 2 ^ (j + 1) by rw [hbt, Nat.pow_succ]; omega]; exact hI15.2.1, by rw [hbt], by omega⟩
      exact ih15 (k + bt, j, bt / 2) (hB15) (Nat.lt_succ_self j) ls (lv_sub hl [3, 4, 5, 1, 0] rfl)
set_option maxHeartbeats 4000000 in
set_option maxRecDepth 100000 in
theorem c_squareOf (l : Launch) (K : EK) (x : Int32) : Met l yX3_squareOf (wq yX3_squareOf cX3_squareOf 1 (some .long)) (rmL 1 0 0) (va_Pc [.int x] (PR K [])) (vp_Sl (fun r => r = x.toInt64 * x.toInt64)) 0 0 NF := by
  refine hdR (by decide +kernel) (Nat.le_of_ble_eq_true rfl) ?_
  intro pp ee s mm bl9 me9 cd hx hb hr hlocks hml hown hts hE hP ls hl
  have hown : s.vm.findClass RX3 = some mm.cls := hown
  have hP : va_P K.1 vwCl [] s.heap := hP
  have hl : lv_has ls 1 [(0, .int x)] := hl
  refine lv_iload_n hx hb dX3_squareOf_0 rfl (lv_at hl 0 rfl) ?_
  refine lv_i2l hx hb dX3_squareOf_1 rfl ?_
  refine lv_topl (fun v1 e1 => ?_)
  refine lv_iload_n hx hb dX3_squareOf_2 rfl (lv_at hl 0 rfl) ?_
  refine lv_i2l hx hb dX3_squareOf_3 rfl ?_
  refine lv_topl (fun v3 e3 => ?_)
  refine lv_lmul hx hb dX3_squareOf_4 ?_
  refine lv_topl (fun v4 e4 => ?_)
  exact eL (v := v4) hx hb hr hlocks (by rw [e4, e1, e3]) dX3_squareOf_5
set_option maxHeartbeats 4000000 in
set_option maxRecDepth 100000 in
theorem c_mix (l : Launch) (K : EK) (h x : Int64) : Met l yX3_mix (wq yX3_mix cX3_mix 4 (some .long)) (rmL 1 0 0) (va_Pc [.long h, .long x] (PR K [])) (vp_Sl (fun r => r = 31 * h + x)) 0 0 NF := by
  refine hdR (by decide +kernel) (Nat.le_of_ble_eq_true rfl) ?_
  intro pp ee s mm bl9 me9 cd hx hb hr hlocks hml hown hts hE hP ls hl
  have hown : s.vm.findClass RX3 = some mm.cls := hown
  have hP : va_P K.1 vwCl [] s.heap := hP
  have hl : lv_has ls 4 [(0, .long h), (2, .long x)] := hl
  refine lv_ldc2 (v := lN 31) hx hb hown (hts _ kw_X3_215) dX3_mix_0 ?_
  refine lv_lload_n hx hb dX3_mix_3 rfl (lv_at hl 0 rfl) ?_
  refine lv_lmul hx hb dX3_mix_4 ?_
  refine lv_topl (fun v4 e4 => ?_)
  refine lv_lload_n hx hb dX3_mix_5 rfl (lv_at hl 1 rfl) ?_
  refine lv_ladd hx hb dX3_mix_6 ?_
  refine lv_topl (fun v6 e6 => ?_)
  exact eL (v := v6) hx hb hr hlocks (by rw [e6, e4]; rfl) dX3_mix_7
set_option maxHeartbeats 4000000 in
set_option maxRecDepth 100000 in
theorem c_lengthBetween (l : Launch) (K : EK) (a : Nat → Nat) (t : Int64) (kn : Nat) (fn : Nat → Int32) (kr : Nat) (fr : Nat → Int32) (kp : Nat) (fp : Nat → Int32) (i j : Nat) (h1 : i < 6) (h2 : j < 6) (hi : nOk fn i) (hj : nOk fn j) : Met l yX1_lengthBetween (wq yX1_lengthBetween cX1_lengthBetween 3 (some .int)) (rmL 2 0 0) (va_Pc [.ref (a 0), .int (nI i), .int (nI j)] (PR K [(a 0, .inr (3, [.long t, .ref (a 1), .ref (a 2), .ref (a 3)])), (a 1, .inr (4, [.ref (a 4), .int (nI 6), .int (nI kn)])), (a 2, .inr (4, [.ref (a 5), .int (nI 8), .int (nI kr)])), (a 3, .inr (4, [.ref (a 6), .int (nI 5), .int (nI kp)])), (a 4, .inl (K.2.1, 36, .inl (fn))), (a 5, .inl (K.2.1, 320, .inl (fr))), (a 6, .inl (K.2.1, 100, .inl (fp)))])) (vp_Si (fun r => r = nI (dst fn i j))) 0 0 NF := by
  refine hdR (by decide +kernel) (Nat.le_of_ble_eq_true rfl) ?_
  intro pp ee s mm bl9 me9 cd hx hb hr hlocks hml hown hts hE hP ls hl
  have hown : s.vm.findClass RX1 = some mm.cls := hown
  have hP : va_P K.1 vwCl [(a 0, .inr (3, [.long t, .ref (a 1), .ref (a 2), .ref (a 3)])), (a 1, .inr (4, [.ref (a 4), .int (nI 6), .int (nI kn)])), (a 2, .inr (4, [.ref (a 5), .int (nI 8), .int (nI kr)])), (a 3, .inr (4, [.ref (a 6), .int (nI 5), .int (nI kp)])), (a 4, .inl (K.2.1, 36, .inl (fn))), (a 5, .inl (K.2.1, 320, .inl (fr))), (a 6, .inl (K.2.1, 100, .inl (fp)))] s.heap := hP
  have hl : lv_has ls 3 [(0, .ref (a 0)), (1, .int (nI i)), (2, .int (nI j))] := hl
  refine lv_aload_n hx hb dX1_lengthBetween_0 rfl (lv_at hl 0 rfl) ?_
  refine va_get (D := K.1) (ci := 3) (v := .ref (a 1)) (C := RX1) (T := TX1) (N := 4) hx hb hts inX1 hown hE.1 hP 0 rfl rfl 1 (by decide) (hts _ kf_X1_14) (fun _ h9 => h9) rfl dX1_lengthBetween_1 ?_
  refine lv_iload_n hx hb dX1_lengthBetween_4 rfl (lv_at hl 1 rfl) ?_
  refine lv_iconst (v := nI 0) hx hb dX1_lengthBetween_5 (by decide) ?_
  refine goI (rdV (As := [.int (nI i), .int (nI 0)]) (rest := []) (c_get l K (a 1) (a 4) 36 6 kn i 0 fn (by omega) (by omega)) ⟨hx, hb, hml, hown, hts⟩ (gV kl_X1_34 ki_X2_get ks_X2_get kn_X2 kc_X2_get) (by show okN yX2_get 2; decide +kernel) ⟨⟨Nat.le_of_ble_eq_true rfl, Nat.le_of_ble_eq_true rfl⟩, rfl, rfl⟩ hE hP [1, 4] rfl ⟨0, 4, _, _, rfl, rfl, rfl⟩ hl.1 rfl (Nat.le_of_ble_eq_true rfl) dX1_lengthBetween_6 ⟨Nat.le_of_ble_eq_true rfl, Nat.le_of_ble_eq_true rfl⟩) (fun v6 e6 => ?_)
  refine lv_aload_n hx hb dX1_lengthBetween_9 rfl (lv_at hl 0 rfl) ?_
  refine va_get (D := K.1) (ci := 3) (v := .ref (a 1)) (C := RX1) (T := TX1) (N := 4) hx hb hts inX1 hown hE.1 hP 0 rfl rfl 1 (by decide) (hts _ kf_X1_14) (fun _ h9 => h9) rfl dX1_lengthBetween_10 ?_
  refine lv_iload_n hx hb dX1_lengthBetween_13 rfl (lv_at hl 2 rfl) ?_
  refine lv_iconst (v := nI 0) hx hb dX1_lengthBetween_14 (by decide) ?_
  refine goI (rdV (As := [.int (nI j), .int (nI 0)]) (rest := [.int v6]) (c_get l K (a 1) (a 4) 36 6 kn j 0 fn (by omega) (by omega)) ⟨hx, hb, hml, hown, hts⟩ (gV kl_X1_34 ki_X2_get ks_X2_get kn_X2 kc_X2_get) (by show okN yX2_get 2; decide +kernel) ⟨⟨Nat.le_of_ble_eq_true rfl, Nat.le_of_ble_eq_true rfl⟩, rfl, rfl⟩ hE hP [1, 4] rfl ⟨0, 4, _, _, rfl, rfl, rfl⟩ hl.1 rfl (Nat.le_of_ble_eq_true rfl) dX1_lengthBetween_15 ⟨Nat.le_of_ble_eq_true rfl, Nat.le_of_ble_eq_true rfl⟩) (fun v15 e15 => ?_)
  refine lv_isub hx hb dX1_lengthBetween_18 ?_
  refine lv_topi (fun v18 e18 => ?_)
  have q18 : v18.toInt = nd fn i 0 - nd fn j 0 := by rw [e18, e6, e15]; exact fb_subI (by have := hi.1; have := hj.1; unfold nd at *; omega) (by have := hi.1; have := hj.1; unfold nd at *; omega)
  refine lv_aload_n hx hb dX1_lengthBetween_19 rfl (lv_at hl 0 rfl) ?_
  refine va_get (D := K.1) (ci := 3) (v := .ref (a 1)) (C := RX1) (T := TX1) (N := 4) hx hb hts inX1 hown hE.1 hP 0 rfl rfl 1 (by decide) (hts _ kf_X1_14) (fun _ h9 => h9) rfl dX1_lengthBetween_20 ?_
  refine lv_iload_n hx hb dX1_lengthBetween_23 rfl (lv_at hl 1 rfl) ?_
  refine lv_iconst (v := nI 1) hx hb dX1_lengthBetween_24 (by decide) ?_
  refine goI (rdV (As := [.int (nI i), .int (nI 1)]) (rest := [.int v18]) (c_get l K (a 1) (a 4) 36 6 kn i 1 fn (by omega) (by omega)) ⟨hx, hb, hml, hown, hts⟩ (gV kl_X1_34 ki_X2_get ks_X2_get kn_X2 kc_X2_get) (by show okN yX2_get 2; decide +kernel) ⟨⟨Nat.le_of_ble_eq_true rfl, Nat.le_of_ble_eq_true rfl⟩, rfl, rfl⟩ hE hP [1, 4] rfl ⟨0, 4, _, _, rfl, rfl, rfl⟩ hl.1 rfl (Nat.le_of_ble_eq_true rfl) dX1_lengthBetween_25 ⟨Nat.le_of_ble_eq_true rfl, Nat.le_of_ble_eq_true rfl⟩) (fun v25 e25 => ?_)
  refine lv_aload_n hx hb dX1_lengthBetween_28 rfl (lv_at hl 0 rfl) ?_
  refine va_get (D := K.1) (ci := 3) (v := .ref (a 1)) (C := RX1) (T := TX1) (N := 4) hx hb hts inX1 hown hE.1 hP 0 rfl rfl 1 (by decide) (hts _ kf_X1_14) (fun _ h9 => h9) rfl dX1_lengthBetween_29 ?_
  refine lv_iload_n hx hb dX1_lengthBetween_32 rfl (lv_at hl 2 rfl) ?_
  refine lv_iconst (v := nI 1) hx hb dX1_lengthBetween_33 (by decide) ?_
  refine goI (rdV (As := [.int (nI j), .int (nI 1)]) (rest := [.int v25, .int v18]) (c_get l K (a 1) (a 4) 36 6 kn j 1 fn (by omega) (by omega)) ⟨hx, hb, hml, hown, hts⟩ (gV kl_X1_34 ki_X2_get ks_X2_get kn_X2 kc_X2_get) (by show okN yX2_get 2; decide +kernel) ⟨⟨Nat.le_of_ble_eq_true rfl, Nat.le_of_ble_eq_true rfl⟩, rfl, rfl⟩ hE hP [1, 4] rfl ⟨0, 4, _, _, rfl, rfl, rfl⟩ hl.1 rfl (Nat.le_of_ble_eq_true rfl) dX1_lengthBetween_34 ⟨Nat.le_of_ble_eq_true rfl, Nat.le_of_ble_eq_true rfl⟩) (fun v34 e34 => ?_)
  refine lv_isub hx hb dX1_lengthBetween_37 ?_
  refine lv_topi (fun v37 e37 => ?_)
  have q37 : v37.toInt = nd fn i 1 - nd fn j 1 := by rw [e37, e25, e34]; exact fb_subI (by have := hi.2.1; have := hj.2.1; unfold nd at *; omega) (by have := hi.2.1; have := hj.2.1; unfold nd at *; omega)
  have hi1 := hi.1; have hi2 := hi.2.1; have hj1 := hj.1; have hj2 := hj.2.1
  refine goI (rdN (host := "RangingNet") (As := [.int v18, .int v37]) (rest := []) (c_floorLength l K v18 v37 ⟨by rw [q18]; omega, by rw [q18]; omega⟩ ⟨by rw [q37]; omega, by rw [q37]; omega⟩) ⟨hx, hb, hml, hown, hts⟩ ⟨kc_X3_floorLength, kt_X3_floorLength, kn_X3, List.mem_of_getElem? (i := 1) rfl⟩ (by show okN yX3_floorLength 2; decide +kernel) ⟨⟨Nat.le_of_ble_eq_true rfl, Nat.le_of_ble_eq_true rfl⟩, rfl, rfl⟩ hE hP [] rfl hl.1 rfl (Nat.le_of_ble_eq_true rfl) dX1_lengthBetween_38 ⟨Nat.le_of_ble_eq_true rfl, Nat.le_of_ble_eq_true rfl⟩) (fun v38 e38 => ?_)
  exact eI (v := v38) hx hb hr hlocks (by rw [e38, q18, q37]; rfl) dX1_lengthBetween_41
set_option maxHeartbeats 4000000 in
set_option maxRecDepth 100000 in
theorem c_squareFromOrigin (l : Launch) (K : EK) (a : Nat → Nat) (t : Int64) (kn : Nat) (fn : Nat → Int32) (kr : Nat) (fr : Nat → Int32) (kp : Nat) (fp : Nat → Int32) (i : Nat) (h1 : i < 6) : Met l yX1_squareFromOrigin (wq yX1_squareFromOrigin cX1_squareFromOrigin 2 (some .long)) (rmL 2 0 0) (va_Pc [.ref (a 0), .int (nI i)] (PR K [(a 0, .inr (3, [.long t, .ref (a 1), .ref (a 2), .ref (a 3)])), (a 1, .inr (4, [.ref (a 4), .int (nI 6), .int (nI kn)])), (a 2, .inr (4, [.ref (a 5), .int (nI 8), .int (nI kr)])), (a 3, .inr (4, [.ref (a 6), .int (nI 5), .int (nI kp)])), (a 4, .inl (K.2.1, 36, .inl (fn))), (a 5, .inl (K.2.1, 320, .inl (fr))), (a 6, .inl (K.2.1, 100, .inl (fp)))])) (vp_Sl (fun r => r = (fn (i * 6 + 0)).toInt64 * (fn (i * 6 + 0)).toInt64 + (fn (i * 6 + 1)).toInt64 * (fn (i * 6 + 1)).toInt64)) 0 0 NF := by
  refine hdR (by decide +kernel) (Nat.le_of_ble_eq_true rfl) ?_
  intro pp ee s mm bl9 me9 cd hx hb hr hlocks hml hown hts hE hP ls hl
  have hown : s.vm.findClass RX1 = some mm.cls := hown
  have hP : va_P K.1 vwCl [(a 0, .inr (3, [.long t, .ref (a 1), .ref (a 2), .ref (a 3)])), (a 1, .inr (4, [.ref (a 4), .int (nI 6), .int (nI kn)])), (a 2, .inr (4, [.ref (a 5), .int (nI 8), .int (nI kr)])), (a 3, .inr (4, [.ref (a 6), .int (nI 5), .int (nI kp)])), (a 4, .inl (K.2.1, 36, .inl (fn))), (a 5, .inl (K.2.1, 320, .inl (fr))), (a 6, .inl (K.2.1, 100, .inl (fp)))] s.heap := hP
  have hl : lv_has ls 2 [(0, .ref (a 0)), (1, .int (nI i))] := hl
  refine lv_aload_n hx hb dX1_squareFromOrigin_0 rfl (lv_at hl 0 rfl) ?_
  refine va_get (D := K.1) (ci := 3) (v := .ref (a 1)) (C := RX1) (T := TX1) (N := 4) hx hb hts inX1 hown hE.1 hP 0 rfl rfl 1 (by decide) (hts _ kf_X1_14) (fun _ h9 => h9) rfl dX1_squareFromOrigin_1 ?_
  refine lv_iload_n hx hb dX1_squareFromOrigin_4 rfl (lv_at hl 1 rfl) ?_
  refine lv_iconst (v := nI 0) hx hb dX1_squareFromOrigin_5 (by decide) ?_
  refine goI (rdV (As := [.int (nI i), .int (nI 0)]) (rest := []) (c_get l K (a 1) (a 4) 36 6 kn i 0 fn (by omega) (by omega)) ⟨hx, hb, hml, hown, hts⟩ (gV kl_X1_34 ki_X2_get ks_X2_get kn_X2 kc_X2_get) (by show okN yX2_get 2; decide +kernel) ⟨⟨Nat.le_of_ble_eq_true rfl, Nat.le_of_ble_eq_true rfl⟩, rfl, rfl⟩ hE hP [1, 4] rfl ⟨0, 4, _, _, rfl, rfl, rfl⟩ hl.1 rfl (Nat.le_of_ble_eq_true rfl) dX1_squareFromOrigin_6 ⟨Nat.le_of_ble_eq_true rfl, Nat.le_of_ble_eq_true rfl⟩) (fun v6 e6 => ?_)
  refine goL (rdN (host := "RangingNet") (As := [.int v6]) (rest := []) (c_squareOf l K v6) ⟨hx, hb, hml, hown, hts⟩ ⟨kc_X3_squareOf, kt_X3_squareOf, kn_X3, List.mem_of_getElem? (i := 2) rfl⟩ (by show okN yX3_squareOf 1; decide +kernel) ⟨⟨Nat.le_of_ble_eq_true rfl, Nat.le_of_ble_eq_true rfl⟩, rfl, rfl⟩ hE hP [] rfl hl.1 rfl (Nat.le_of_ble_eq_true rfl) dX1_squareFromOrigin_9 ⟨Nat.le_of_ble_eq_true rfl, Nat.le_of_ble_eq_true rfl⟩) (fun v9 e9 => ?_)
  refine lv_aload_n hx hb dX1_squareFromOrigin_12 rfl (lv_at hl 0 rfl) ?_
  refine va_get (D := K.1) (ci := 3) (v := .ref (a 1)) (C := RX1) (T := TX1) (N := 4) hx hb hts inX1 hown hE.1 hP 0 rfl rfl 1 (by decide) (hts _ kf_X1_14) (fun _ h9 => h9) rfl dX1_squareFromOrigin_13 ?_
  refine lv_iload_n hx hb dX1_squareFromOrigin_16 rfl (lv_at hl 1 rfl) ?_
  refine lv_iconst (v := nI 1) hx hb dX1_squareFromOrigin_17 (by decide) ?_
  refine goI (rdV (As := [.int (nI i), .int (nI 1)]) (rest := [.long v9]) (c_get l K (a 1) (a 4) 36 6 kn i 1 fn (by omega) (by omega)) ⟨hx, hb, hml, hown, hts⟩ (gV kl_X1_34 ki_X2_get ks_X2_get kn_X2 kc_X2_get) (by show okN yX2_get 2; decide +kernel) ⟨⟨Nat.le_of_ble_eq_true rfl, Nat.le_of_ble_eq_true rfl⟩, rfl, rfl⟩ hE hP [1, 4] rfl ⟨0, 4, _, _, rfl, rfl, rfl⟩ hl.1 rfl (Nat.le_of_ble_eq_true rfl) dX1_squareFromOrigin_18 ⟨Nat.le_of_ble_eq_true rfl, Nat.le_of_ble_eq_true rfl⟩) (fun v18 e18 => ?_)
  refine goL (rdN (host := "RangingNet") (As := [.int v18]) (rest := [.long v9]) (c_squareOf l K v18) ⟨hx, hb, hml, hown, hts⟩ ⟨kc_X3_squareOf, kt_X3_squareOf, kn_X3, List.mem_of_getElem? (i := 2) rfl⟩ (by show okN yX3_squareOf 1; decide +kernel) ⟨⟨Nat.le_of_ble_eq_true rfl, Nat.le_of_ble_eq_true rfl⟩, rfl, rfl⟩ hE hP [] rfl hl.1 rfl (Nat.le_of_ble_eq_true rfl) dX1_squareFromOrigin_21 ⟨Nat.le_of_ble_eq_true rfl, Nat.le_of_ble_eq_true rfl⟩) (fun v21 e21 => ?_)
  refine lv_ladd hx hb dX1_squareFromOrigin_24 ?_
  refine lv_topl (fun v24 e24 => ?_)
  exact eL (v := v24) hx hb hr hlocks (by rw [e24, e9, e21, e6, e18]) dX1_squareFromOrigin_25
set_option maxHeartbeats 4000000 in
set_option maxRecDepth 100000 in
theorem c_counterAt (l : Launch) (K : EK) (a : Nat → Nat) (t : Int64) (kn : Nat) (fn : Nat → Int32) (kr : Nat) (fr : Nat → Int32) (kp : Nat) (fp : Nat → Int32) (i : Nat) (T : Int64) (h1 : i < 6) (hi : nOk fn i) (hT : 0 ≤ T.toInt ∧ T.toInt ≤ 1000000000000) : Met l yX1_counterAt (wq yX1_counterAt cX1_counterAt 6 (some .int)) (rmL 2 0 0) (va_Pc [.ref (a 0), .int (nI i), .long T] (PR K [(a 0, .inr (3, [.long t, .ref (a 1), .ref (a 2), .ref (a 3)])), (a 1, .inr (4, [.ref (a 4), .int (nI 6), .int (nI kn)])), (a 2, .inr (4, [.ref (a 5), .int (nI 8), .int (nI kr)])), (a 3, .inr (4, [.ref (a 6), .int (nI 5), .int (nI kp)])), (a 4, .inl (K.2.1, 36, .inl (fn))), (a 5, .inl (K.2.1, 320, .inl (fr))), (a 6, .inl (K.2.1, 100, .inl (fp)))])) (vp_Si (fun r => r.toInt = ctr fn i T.toInt)) 0 0 NF := by
  refine hdR (by decide +kernel) (Nat.le_of_ble_eq_true rfl) ?_
  intro pp ee s mm bl9 me9 cd hx hb hr hlocks hml hown hts hE hP ls hl
  have hown : s.vm.findClass RX1 = some mm.cls := hown
  have hP : va_P K.1 vwCl [(a 0, .inr (3, [.long t, .ref (a 1), .ref (a 2), .ref (a 3)])), (a 1, .inr (4, [.ref (a 4), .int (nI 6), .int (nI kn)])), (a 2, .inr (4, [.ref (a 5), .int (nI 8), .int (nI kr)])), (a 3, .inr (4, [.ref (a 6), .int (nI 5), .int (nI kp)])), (a 4, .inl (K.2.1, 36, .inl (fn))), (a 5, .inl (K.2.1, 320, .inl (fr))), (a 6, .inl (K.2.1, 100, .inl (fp)))] s.heap := hP
  have hl : lv_has ls 6 [(0, .ref (a 0)), (1, .int (nI i)), (2, .long T)] := hl
  refine lv_lload_n hx hb dX1_counterAt_0 rfl (lv_at hl 2 rfl) ?_
  refine lv_ldc (v := nI 1000000) hx hb hown (hts _ kv_X1_45) dX1_counterAt_1 ?_
  refine lv_aload_n hx hb dX1_counterAt_3 rfl (lv_at hl 0 rfl) ?_
  refine va_get (D := K.1) (ci := 3) (v := .ref (a 1)) (C := RX1) (T := TX1) (N := 4) hx hb hts inX1 hown hE.1 hP 0 rfl rfl 1 (by decide) (hts _ kf_X1_14) (fun _ h9 => h9) rfl dX1_counterAt_4 ?_
  refine lv_iload_n hx hb dX1_counterAt_7 rfl (lv_at hl 1 rfl) ?_
  refine lv_iconst (v := nI 2) hx hb dX1_counterAt_8 (by decide) ?_
  refine goI (rdV (As := [.int (nI i), .int (nI 2)]) (rest := [.int (nI 1000000), .long T]) (c_get l K (a 1) (a 4) 36 6 kn i 2 fn (by omega) (by omega)) ⟨hx, hb, hml, hown, hts⟩ (gV kl_X1_34 ki_X2_get ks_X2_get kn_X2 kc_X2_get) (by show okN yX2_get 2; decide +kernel) ⟨⟨Nat.le_of_ble_eq_true rfl, Nat.le_of_ble_eq_true rfl⟩, rfl, rfl⟩ hE hP [1, 4] rfl ⟨0, 4, _, _, rfl, rfl, rfl⟩ hl.1 rfl (Nat.le_of_ble_eq_true rfl) dX1_counterAt_9 ⟨Nat.le_of_ble_eq_true rfl, Nat.le_of_ble_eq_true rfl⟩) (fun v9 e9 => ?_)
  refine lv_iadd hx hb dX1_counterAt_12 ?_
  refine lv_topi (fun v12 e12 => ?_)
  refine lv_i2l hx hb dX1_counterAt_13 rfl ?_
  refine lv_topl (fun v13 e13 => ?_)
  refine lv_lmul hx hb dX1_counterAt_14 ?_
  refine lv_topl (fun v14 e14 => ?_)
  refine lv_ldc2 (v := lN 1000000) hx hb hown (hts _ kw_X1_46) dX1_counterAt_15 ?_
  refine lv_ldiv hx hb dX1_counterAt_18 (by decide) ?_
  refine lv_topl (fun v18 e18 => ?_)
  refine lv_lstore (lv' := [(4, .long v18), (0, .ref (a 0)), (1, .int (nI i)), (2, .long T)]) hx hb dX1_counterAt_19 hl (by decide) rfl (fun ls hl => ?_)
  refine lv_lload hx hb dX1_counterAt_21 (lv_at hl 0 rfl) ?_
  refine lv_aload_n hx hb dX1_counterAt_23 rfl (lv_at hl 1 rfl) ?_
  refine va_get (D := K.1) (ci := 3) (v := .ref (a 1)) (C := RX1) (T := TX1) (N := 4) hx hb hts inX1 hown hE.1 hP 0 rfl rfl 1 (by decide) (hts _ kf_X1_14) (fun _ h9 => h9) rfl dX1_counterAt_24 ?_
  refine lv_iload_n hx hb dX1_counterAt_27 rfl (lv_at hl 2 rfl) ?_
  refine lv_iconst (v := nI 3) hx hb dX1_counterAt_28 (by decide) ?_
  refine goI (rdV (As := [.int (nI i), .int (nI 3)]) (rest := [.long v18]) (c_get l K (a 1) (a 4) 36 6 kn i 3 fn (by omega) (by omega)) ⟨hx, hb, hml, hown, hts⟩ (gV kl_X1_34 ki_X2_get ks_X2_get kn_X2 kc_X2_get) (by show okN yX2_get 2; decide +kernel) ⟨⟨Nat.le_of_ble_eq_true rfl, Nat.le_of_ble_eq_true rfl⟩, rfl, rfl⟩ hE hP [1, 4] rfl ⟨0, 4, _, _, rfl, rfl, rfl⟩ hl.1 rfl (Nat.le_of_ble_eq_true rfl) dX1_counterAt_29 ⟨Nat.le_of_ble_eq_true rfl, Nat.le_of_ble_eq_true rfl⟩) (fun v29 e29 => ?_)
  refine lv_i2l hx hb dX1_counterAt_32 rfl ?_
  refine lv_topl (fun v32 e32 => ?_)
  refine lv_ladd hx hb dX1_counterAt_33 ?_
  refine lv_topl (fun v33 e33 => ?_)
  refine lv_ldc2 (v := lN 1048576) hx hb hown (hts _ kw_X1_48) dX1_counterAt_34 ?_
  refine goL (rdS (As := [.long v33, .long (lN 1048576)]) (rest := []) (c_floorModL l K v33 (lN 1048576) (by decide)) ⟨hx, hb, hml, hown, hts⟩ (gS kl_X1_50 kt_J9_floorMod_f86c9 kn_J9 kc_J9_floorMod_f86c9) (by show okN yJ9_floorMod_f86c9 2; decide +kernel) ⟨⟨Nat.le_of_ble_eq_true rfl, Nat.le_of_ble_eq_true rfl⟩, rfl, rfl⟩ hE hP [] rfl hl.1 rfl (Nat.le_of_ble_eq_true rfl) dX1_counterAt_37 ⟨Nat.le_of_ble_eq_true rfl, Nat.le_of_ble_eq_true rfl⟩) (fun v37 e37 => ?_)
  refine lv_l2i hx hb dX1_counterAt_40 rfl ?_
  refine lv_topi (fun v40 e40 => ?_)
  have q9 : v9.toInt = nd fn i 2 := by rw [e9]; rfl
  have hq := hi.2.2.1
  have hq2 := hi.2.2.2.1
  have q9 : v9.toInt = nd fn i 2 := by rw [e9]; rfl
  have q29 : v29.toInt = nd fn i 3 := by rw [e29]; rfl
  have q12 : v12.toInt = 1000000 + nd fn i 2 := by rw [e12, fb_addI (by rw [q9, nI_toInt (by decide)]; omega) (by rw [q9, nI_toInt (by decide)]; omega), q9, nI_toInt (by decide)]; rfl
  have q13 : v13.toInt = 1000000 + nd fn i 2 := by rw [e13, i64T, q12]
  have g1 : 0 ≤ T.toInt * (1000000 + nd fn i 2) := Int.mul_nonneg hT.1 (by omega)
  have g2 : T.toInt * (1000000 + nd fn i 2) ≤ 1000000000000 * 1000100 := Int.mul_le_mul hT.2 (by omega) (by omega) (by omega)
  have q14 : v14.toInt = T.toInt * (1000000 + nd fn i 2) := by rw [e14, fb_mulL (by rw [q13]; omega) (by rw [q13]; omega), q13]
  have q18 : v18.toInt = T.toInt * (1000000 + nd fn i 2) / 1000000 := by rw [e18, divL (by decide), q14, lN_T (by decide)]; exact Int.tdiv_eq_ediv_of_nonneg g1
  have q32 : v32.toInt = nd fn i 3 := by rw [e32, i64T, q29]
  have q33 : v33.toInt = T.toInt * (1000000 + nd fn i 2) / 1000000 + nd fn i 3 := by rw [e33, fb_addL (by rw [q18, q32]; omega) (by rw [q18, q32]; omega), q18, q32]
  have q37 : v37.toInt = ctr fn i T.toInt := by rw [e37, q33, lN_T (by decide)]; rfl
  have g3 : 0 ≤ ctr fn i T.toInt ∧ ctr fn i T.toInt < 1048576 := ⟨Int.emod_nonneg _ (by decide), Int.emod_lt_of_pos _ (by decide)⟩
  exact eI (v := v40) hx hb hr hlocks (by rw [e40, i32T (by omega) (by omega), q37]) dX1_counterAt_41
set_option maxHeartbeats 4000000 in
set_option maxRecDepth 100000 in
theorem c_elapsed (l : Launch) (K : EK) (a : Nat → Nat) (t : Int64) (kn : Nat) (fn : Nat → Int32) (kr : Nat) (fr : Nat → Int32) (kp : Nat) (fp : Nat → Int32) (e x y : Nat) (h1 : e < 40) (hx1 : x < 8) (hy1 : y < 8) (hxr : 0 ≤ rd fr e x ∧ rd fr e x < 1048576) (hyr : 0 ≤ rd fr e y ∧ rd fr e y < 1048576) : Met l yX1_elapsed (wq yX1_elapsed cX1_elapsed 4 (some .int)) (rmL 2 0 0) (va_Pc [.ref (a 0), .int (nI e), .int (nI x), .int (nI y)] (PR K [(a 0, .inr (3, [.long t, .ref (a 1), .ref (a 2), .ref (a 3)])), (a 1, .inr (4, [.ref (a 4), .int (nI 6), .int (nI kn)])), (a 2, .inr (4, [.ref (a 5), .int (nI 8), .int (nI kr)])), (a 3, .inr (4, [.ref (a 6), .int (nI 5), .int (nI kp)])), (a 4, .inl (K.2.1, 36, .inl (fn))), (a 5, .inl (K.2.1, 320, .inl (fr))), (a 6, .inl (K.2.1, 100, .inl (fp)))])) (vp_Si (fun r => r.toInt = elp fr e x y)) 0 0 NF := by
  refine hdR (by decide +kernel) (Nat.le_of_ble_eq_true rfl) ?_
  intro pp ee s mm bl9 me9 cd hx hb hr hlocks hml hown hts hE hP ls hl
  have hown : s.vm.findClass RX1 = some mm.cls := hown
  have hP : va_P K.1 vwCl [(a 0, .inr (3, [.long t, .ref (a 1), .ref (a 2), .ref (a 3)])), (a 1, .inr (4, [.ref (a 4), .int (nI 6), .int (nI kn)])), (a 2, .inr (4, [.ref (a 5), .int (nI 8), .int (nI kr)])), (a 3, .inr (4, [.ref (a 6), .int (nI 5), .int (nI kp)])), (a 4, .inl (K.2.1, 36, .inl (fn))), (a 5, .inl (K.2.1, 320, .inl (fr))), (a 6, .inl (K.2.1, 100, .inl (fp)))] s.heap := hP
  have hl : lv_has ls 4 [(0, .ref (a 0)), (1, .int (nI e)), (2, .int (nI x)), (3, .int (nI y))] := hl
  refine lv_aload_n hx hb dX1_elapsed_0 rfl (lv_at hl 0 rfl) ?_
  refine va_get (D := K.1) (ci := 3) (v := .ref (a 2)) (C := RX1) (T := TX1) (N := 4) hx hb hts inX1 hown hE.1 hP 0 rfl rfl 2 (by decide) (hts _ kf_X1_20) (fun _ h9 => h9) rfl dX1_elapsed_1 ?_
  refine lv_iload_n hx hb dX1_elapsed_4 rfl (lv_at hl 1 rfl) ?_
  refine lv_iload_n hx hb dX1_elapsed_5 rfl (lv_at hl 3 rfl) ?_
  refine goI (rdV (As := [.int (nI e), .int (nI y)]) (rest := []) (c_get l K (a 2) (a 5) 320 8 kr e y fr (by omega) (by omega)) ⟨hx, hb, hml, hown, hts⟩ (gV kl_X1_34 ki_X2_get ks_X2_get kn_X2 kc_X2_get) (by show okN yX2_get 2; decide +kernel) ⟨⟨Nat.le_of_ble_eq_true rfl, Nat.le_of_ble_eq_true rfl⟩, rfl, rfl⟩ hE hP [2, 5] rfl ⟨0, 4, _, _, rfl, rfl, rfl⟩ hl.1 rfl (Nat.le_of_ble_eq_true rfl) dX1_elapsed_6 ⟨Nat.le_of_ble_eq_true rfl, Nat.le_of_ble_eq_true rfl⟩) (fun v6 e6 => ?_)
  refine lv_aload_n hx hb dX1_elapsed_9 rfl (lv_at hl 0 rfl) ?_
  refine va_get (D := K.1) (ci := 3) (v := .ref (a 2)) (C := RX1) (T := TX1) (N := 4) hx hb hts inX1 hown hE.1 hP 0 rfl rfl 2 (by decide) (hts _ kf_X1_20) (fun _ h9 => h9) rfl dX1_elapsed_10 ?_
  refine lv_iload_n hx hb dX1_elapsed_13 rfl (lv_at hl 1 rfl) ?_
  refine lv_iload_n hx hb dX1_elapsed_14 rfl (lv_at hl 2 rfl) ?_
  refine goI (rdV (As := [.int (nI e), .int (nI x)]) (rest := [.int v6]) (c_get l K (a 2) (a 5) 320 8 kr e x fr (by omega) (by omega)) ⟨hx, hb, hml, hown, hts⟩ (gV kl_X1_34 ki_X2_get ks_X2_get kn_X2 kc_X2_get) (by show okN yX2_get 2; decide +kernel) ⟨⟨Nat.le_of_ble_eq_true rfl, Nat.le_of_ble_eq_true rfl⟩, rfl, rfl⟩ hE hP [2, 5] rfl ⟨0, 4, _, _, rfl, rfl, rfl⟩ hl.1 rfl (Nat.le_of_ble_eq_true rfl) dX1_elapsed_15 ⟨Nat.le_of_ble_eq_true rfl, Nat.le_of_ble_eq_true rfl⟩) (fun v15 e15 => ?_)
  refine lv_isub hx hb dX1_elapsed_18 ?_
  refine lv_topi (fun v18 e18 => ?_)
  refine lv_ldc (v := nI 1048576) hx hb hown (hts _ kv_X1_92) dX1_elapsed_19 ?_
  refine goI (rdS (As := [.int v18, .int (nI 1048576)]) (rest := []) (c_floorModI l K v18 (nI 1048576) (by decide)) ⟨hx, hb, hml, hown, hts⟩ (gS kl_X1_93 kt_J9_floorMod_7cf53 kn_J9 kc_J9_floorMod_7cf53) (by show okN yJ9_floorMod_7cf53 2; decide +kernel) ⟨⟨Nat.le_of_ble_eq_true rfl, Nat.le_of_ble_eq_true rfl⟩, rfl, rfl⟩ hE hP [] rfl hl.1 rfl (Nat.le_of_ble_eq_true rfl) dX1_elapsed_21 ⟨Nat.le_of_ble_eq_true rfl, Nat.le_of_ble_eq_true rfl⟩) (fun v21 e21 => ?_)
  have q18 : v18.toInt = rd fr e y - rd fr e x := by rw [e18, e6, e15]; exact fb_subI (by unfold rd at *; omega) (by unfold rd at *; omega)
  exact eI (v := v21) hx hb hr hlocks (by rw [e21, q18, nI_toInt (by decide)]; rfl) dX1_elapsed_24
set_option maxHeartbeats 4000000 in
set_option maxRecDepth 100000 in
theorem c_rawRangeOf (l : Launch) (K : EK) (a : Nat → Nat) (t : Int64) (kn : Nat) (fn : Nat → Int32) (kr : Nat) (fr : Nat → Int32) (kp : Nat) (fp : Nat → Int32) (e m : Nat) (h1 : e < 40) (hm : m < 3) (hs : ∀ c, 2 ≤ c → c < 8 → 0 ≤ rd fr e c ∧ rd fr e c < 1048576) : Met l yX1_rawRangeOf (wq yX1_rawRangeOf cX1_rawRangeOf 13 (some .int)) (rmL 3 0 0) (va_Pc [.ref (a 0), .int (nI e), .int (nI m)] (PR K [(a 0, .inr (3, [.long t, .ref (a 1), .ref (a 2), .ref (a 3)])), (a 1, .inr (4, [.ref (a 4), .int (nI 6), .int (nI kn)])), (a 2, .inr (4, [.ref (a 5), .int (nI 8), .int (nI kr)])), (a 3, .inr (4, [.ref (a 6), .int (nI 5), .int (nI kp)])), (a 4, .inl (K.2.1, 36, .inl (fn))), (a 5, .inl (K.2.1, 320, .inl (fr))), (a 6, .inl (K.2.1, 100, .inl (fp)))])) (vp_Si (fun r => r.toInt = raw fr e m)) 0 0 NF := by
  refine hdR (by decide +kernel) (Nat.le_of_ble_eq_true rfl) ?_
  intro pp ee s mm bl9 me9 cd hx hb hr hlocks hml hown hts hE hP ls hl
  have hown : s.vm.findClass RX1 = some mm.cls := hown
  have hP : va_P K.1 vwCl [(a 0, .inr (3, [.long t, .ref (a 1), .ref (a 2), .ref (a 3)])), (a 1, .inr (4, [.ref (a 4), .int (nI 6), .int (nI kn)])), (a 2, .inr (4, [.ref (a 5), .int (nI 8), .int (nI kr)])), (a 3, .inr (4, [.ref (a 6), .int (nI 5), .int (nI kp)])), (a 4, .inl (K.2.1, 36, .inl (fn))), (a 5, .inl (K.2.1, 320, .inl (fr))), (a 6, .inl (K.2.1, 100, .inl (fp)))] s.heap := hP
  have hl : lv_has ls 13 [(0, .ref (a 0)), (1, .int (nI e)), (2, .int (nI m))] := hl
  have k1 := elp_rng fr e 2 5
  have k2 := elp_rng fr e 3 4
  have k3 := elp_rng fr e 4 7
  have k4 := elp_rng fr e 5 6
  have k5 := raw_rng fr e m
  have k6 := mul_rng k1.1 k3.1 k1.2 k3.2
  have k7 := mul_rng k4.1 k2.1 k4.2 k2.2
  refine lv_aload_n hx hb dX1_rawRangeOf_0 rfl (lv_at hl 0 rfl) ?_
  refine lv_iload_n hx hb dX1_rawRangeOf_1 rfl (lv_at hl 1 rfl) ?_
  refine lv_iconst (v := nI 2) hx hb dX1_rawRangeOf_2 (by decide) ?_
  refine lv_iconst (v := nI 5) hx hb dX1_rawRangeOf_3 (by decide) ?_
  refine goI (rdV (As := [.int (nI e), .int (nI 2), .int (nI 5)]) (rest := []) (c_elapsed l K a t kn fn kr fr kp fp e 2 5 (by omega) (by decide) (by decide) (hs _ (by decide) (by decide)) (hs _ (by decide) (by decide))) ⟨hx, hb, hml, hown, hts⟩ (gV kl_X1_95 ki_X1_elapsed ks_X1_elapsed kn_X1 kc_X1_elapsed) (by show okN yX1_elapsed 3; decide +kernel) ⟨⟨Nat.le_of_ble_eq_true rfl, Nat.le_of_ble_eq_true rfl⟩, rfl, rfl⟩ hE hP [0, 1, 2, 3, 4, 5, 6] rfl ⟨0, 3, _, _, rfl, rfl, rfl⟩ hl.1 rfl (Nat.le_of_ble_eq_true rfl) dX1_rawRangeOf_4 ⟨Nat.le_of_ble_eq_true rfl, Nat.le_of_ble_eq_true rfl⟩) (fun v4 e4 => ?_)
  refine lv_i2l hx hb dX1_rawRangeOf_7 rfl ?_
  refine lv_topl (fun v7 e7 => ?_)
  have q7 : v7.toInt = elp fr e 2 5 := by rw [e7, i64T, e4]
  refine lv_lstore_n (lv' := [(3, .long v7), (0, .ref (a 0)), (1, .int (nI e)), (2, .int (nI m))]) hx hb dX1_rawRangeOf_8 rfl hl (by decide) rfl (fun ls hl => ?_)
  refine lv_aload_n hx hb dX1_rawRangeOf_9 rfl (lv_at hl 1 rfl) ?_
  refine lv_iload_n hx hb dX1_rawRangeOf_10 rfl (lv_at hl 2 rfl) ?_
  refine lv_iconst (v := nI 3) hx hb dX1_rawRangeOf_11 (by decide) ?_
  refine lv_iconst (v := nI 4) hx hb dX1_rawRangeOf_12 (by decide) ?_
  refine goI (rdV (As := [.int (nI e), .int (nI 3), .int (nI 4)]) (rest := []) (c_elapsed l K a t kn fn kr fr kp fp e 3 4 (by omega) (by decide) (by decide) (hs _ (by decide) (by decide)) (hs _ (by decide) (by decide))) ⟨hx, hb, hml, hown, hts⟩ (gV kl_X1_95 ki_X1_elapsed ks_X1_elapsed kn_X1 kc_X1_elapsed) (by show okN yX1_elapsed 3; decide +kernel) ⟨⟨Nat.le_of_ble_eq_true rfl, Nat.le_of_ble_eq_true rfl⟩, rfl, rfl⟩ hE hP [0, 1, 2, 3, 4, 5, 6] rfl ⟨0, 3, _, _, rfl, rfl, rfl⟩ hl.1 rfl (Nat.le_of_ble_eq_true rfl) dX1_rawRangeOf_13 ⟨Nat.le_of_ble_eq_true rfl, Nat.le_of_ble_eq_true rfl⟩) (fun v13 e13 => ?_)
  refine lv_i2l hx hb dX1_rawRangeOf_16 rfl ?_
  refine lv_topl (fun v16 e16 => ?_)
  have q16 : v16.toInt = elp fr e 3 4 := by rw [e16, i64T, e13]
  refine lv_lstore (lv' := [(5, .long v16), (3, .long v7), (0, .ref (a 0)), (1, .int (nI e)), (2, .int (nI m))]) hx hb dX1_rawRangeOf_17 hl (by decide) rfl (fun ls hl => ?_)
  refine lv_aload_n hx hb dX1_rawRangeOf_19 rfl (lv_at hl 2 rfl) ?_
  refine lv_iload_n hx hb dX1_rawRangeOf_20 rfl (lv_at hl 3 rfl) ?_
  refine lv_iconst (v := nI 4) hx hb dX1_rawRangeOf_21 (by decide) ?_
  refine lv_bipush (v := nI 7) hx hb dX1_rawRangeOf_22 (by decide) ?_
  refine goI (rdV (As := [.int (nI e), .int (nI 4), .int (nI 7)]) (rest := []) (c_elapsed l K a t kn fn kr fr kp fp e 4 7 (by omega) (by decide) (by decide) (hs _ (by decide) (by decide)) (hs _ (by decide) (by decide))) ⟨hx, hb, hml, hown, hts⟩ (gV kl_X1_95 ki_X1_elapsed ks_X1_elapsed kn_X1 kc_X1_elapsed) (by show okN yX1_elapsed 3; decide +kernel) ⟨⟨Nat.le_of_ble_eq_true rfl, Nat.le_of_ble_eq_true rfl⟩, rfl, rfl⟩ hE hP [0, 1, 2, 3, 4, 5, 6] rfl ⟨0, 3, _, _, rfl, rfl, rfl⟩ hl.1 rfl (Nat.le_of_ble_eq_true rfl) dX1_rawRangeOf_24 ⟨Nat.le_of_ble_eq_true rfl, Nat.le_of_ble_eq_true rfl⟩) (fun v24 e24 => ?_)
  refine lv_i2l hx hb dX1_rawRangeOf_27 rfl ?_
  refine lv_topl (fun v27 e27 => ?_)
  have q27 : v27.toInt = elp fr e 4 7 := by rw [e27, i64T, e24]
  refine lv_lstore (lv' := [(7, .long v27), (5, .long v16), (3, .long v7), (0, .ref (a 0)), (1, .int (nI e)), (2, .int (nI m))]) hx hb dX1_rawRangeOf_28 hl (by decide) rfl (fun ls hl => ?_)
  refine lv_aload_n hx hb dX1_rawRangeOf_30 rfl (lv_at hl 3 rfl) ?_
  refine lv_iload_n hx hb dX1_rawRangeOf_31 rfl (lv_at hl 4 rfl) ?_
  refine lv_iconst (v := nI 5) hx hb dX1_rawRangeOf_32 (by decide) ?_
  refine lv_bipush (v := nI 6) hx hb dX1_rawRangeOf_33 (by decide) ?_
  refine goI (rdV (As := [.int (nI e), .int (nI 5), .int (nI 6)]) (rest := []) (c_elapsed l K a t kn fn kr fr kp fp e 5 6 (by omega) (by decide) (by decide) (hs _ (by decide) (by decide)) (hs _ (by decide) (by decide))) ⟨hx, hb, hml, hown, hts⟩ (gV kl_X1_95 ki_X1_elapsed ks_X1_elapsed kn_X1 kc_X1_elapsed) (by show okN yX1_elapsed 3; decide +kernel) ⟨⟨Nat.le_of_ble_eq_true rfl, Nat.le_of_ble_eq_true rfl⟩, rfl, rfl⟩ hE hP [0, 1, 2, 3, 4, 5, 6] rfl ⟨0, 3, _, _, rfl, rfl, rfl⟩ hl.1 rfl (Nat.le_of_ble_eq_true rfl) dX1_rawRangeOf_35 ⟨Nat.le_of_ble_eq_true rfl, Nat.le_of_ble_eq_true rfl⟩) (fun v35 e35 => ?_)
  refine lv_i2l hx hb dX1_rawRangeOf_38 rfl ?_
  refine lv_topl (fun v38 e38 => ?_)
  have q38 : v38.toInt = elp fr e 5 6 := by rw [e38, i64T, e35]
  refine lv_lstore (lv' := [(9, .long v38), (7, .long v27), (5, .long v16), (3, .long v7), (0, .ref (a 0)), (1, .int (nI e)), (2, .int (nI m))]) hx hb dX1_rawRangeOf_39 hl (by decide) rfl (fun ls hl => ?_)
  refine lv_iload_n hx hb dX1_rawRangeOf_41 rfl (lv_at hl 6 rfl) ?_
  refine lv_if_ne (tgt := 57) hx hb dX1_rawRangeOf_42 (by decide) (fun c42 => ?_) (fun c42 => ?_)
  · have c42 := mt (nI_z (n := m) (by omega)).mpr c42
    refine lv_iload_n hx hb dX1_rawRangeOf_57 rfl (lv_at hl 6 rfl) ?_
    refine lv_iconst (v := nI 1) hx hb dX1_rawRangeOf_58 (by decide) ?_
    refine lv_icmp_ne (tgt := 80) hx hb dX1_rawRangeOf_59 (by decide) (fun c59 => ?_) (fun c59 => ?_)
    · have c59 := mt (nI_eq (a := m) (b := 1) (by omega) (by omega)).mpr c59
      refine lv_lload_n hx hb dX1_rawRangeOf_80 rfl (lv_at hl 3 rfl) ?_
      refine lv_lload hx hb dX1_rawRangeOf_81 (lv_at hl 1 rfl) ?_
      refine lv_ladd hx hb dX1_rawRangeOf_83 ?_
      refine lv_topl (fun v83 e83 => ?_)
      refine lv_lload hx hb dX1_rawRangeOf_84 (lv_at hl 0 rfl) ?_
      refine lv_ladd hx hb dX1_rawRangeOf_86 ?_
      refine lv_topl (fun v86 e86 => ?_)
      refine lv_lload hx hb dX1_rawRangeOf_87 (lv_at hl 2 rfl) ?_
      refine lv_ladd hx hb dX1_rawRangeOf_89 ?_
      refine lv_topl (fun v89 e89 => ?_)
      have q83 : v83.toInt = elp fr e 2 5 + elp fr e 4 7 := by rw [e83, fb_addL (by omega) (by omega), q7, q27]
      have q86 : v86.toInt = elp fr e 2 5 + elp fr e 4 7 + elp fr e 5 6 := by rw [e86, fb_addL (by omega) (by omega), q83, q38]
      have q89 : v89.toInt = elp fr e 2 5 + elp fr e 4 7 + elp fr e 5 6 + elp fr e 3 4 := by rw [e89, fb_addL (by omega) (by omega), q86, q16]
      refine lv_lstore (lv' := [(11, .long v89), (9, .long v38), (7, .long v27), (5, .long v16), (3, .long v7), (0, .ref (a 0)), (1, .int (nI e)), (2, .int (nI m))]) hx hb dX1_rawRangeOf_90 hl (by decide) rfl (fun ls hl => ?_)
      refine lv_lload hx hb dX1_rawRangeOf_92 (lv_at hl 0 rfl) ?_
      refine lv_lconst (v := lN 0) hx hb dX1_rawRangeOf_94 (by decide) ?_
      refine W.lcmp hx hb dX1_rawRangeOf_95 ?_
      refine lv_if_ne (tgt := 103) hx hb dX1_rawRangeOf_96 (by decide) (fun c96 => ?_) (fun c96 => ?_)
      · have c96 := fun q => c96 ((lg_cmp_eq _ _).mpr q)
        refine lv_lload_n hx hb dX1_rawRangeOf_103 rfl (lv_at hl 4 rfl) ?_
        refine lv_lload hx hb dX1_rawRangeOf_104 (lv_at hl 2 rfl) ?_
        refine lv_lmul hx hb dX1_rawRangeOf_106 ?_
        refine lv_topl (fun v106 e106 => ?_)
        refine lv_lload hx hb dX1_rawRangeOf_107 (lv_at hl 1 rfl) ?_
        refine lv_lload hx hb dX1_rawRangeOf_109 (lv_at hl 3 rfl) ?_
        refine lv_lmul hx hb dX1_rawRangeOf_111 ?_
        refine lv_topl (fun v111 e111 => ?_)
        refine lv_lsub hx hb dX1_rawRangeOf_112 ?_
        refine lv_topl (fun v112 e112 => ?_)
        refine lv_lload hx hb dX1_rawRangeOf_113 (lv_at hl 0 rfl) ?_
        refine goL (rdS (As := [.long v112, .long v89]) (rest := []) (c_floorDivL l K v112 v89 (fun q => c96 q)) ⟨hx, hb, hml, hown, hts⟩ (gS kl_X1_101 kt_J9_floorDiv_f86c9 kn_J9 kc_J9_floorDiv_f86c9) (by show okN yJ9_floorDiv_f86c9 2; decide +kernel) ⟨⟨Nat.le_of_ble_eq_true rfl, Nat.le_of_ble_eq_true rfl⟩, rfl, rfl⟩ hE hP [] rfl hl.1 rfl (Nat.le_of_ble_eq_true rfl) dX1_rawRangeOf_115 ⟨Nat.le_of_ble_eq_true rfl, Nat.le_of_ble_eq_true rfl⟩) (fun v115 e115 => ?_)
        refine lv_l2i hx hb dX1_rawRangeOf_118 rfl ?_
        refine lv_topi (fun v118 e118 => ?_)
        have q106 : v106.toInt = elp fr e 2 5 * elp fr e 4 7 := by rw [e106, fb_mulL (by rw [q7, q27]; omega) (by rw [q7, q27]; omega), q7, q27]
        have q111 : v111.toInt = elp fr e 5 6 * elp fr e 3 4 := by rw [e111, fb_mulL (by rw [q38, q16]; omega) (by rw [q38, q16]; omega), q38, q16]
        have q112 : v112.toInt = elp fr e 2 5 * elp fr e 4 7 - elp fr e 5 6 * elp fr e 3 4 := by rw [e112, fb_subL (by omega) (by omega), q106, q111]
        have hne : ¬ elp fr e 2 5 + elp fr e 4 7 + elp fr e 5 6 + elp fr e 3 4 = 0 := fun q => c96 (eqL (by rw [q89, q, lN_T (by decide)]; rfl))
        have q115 : v115.toInt = raw fr e m := by rw [e115, flD_pos (by omega), q112, q89, raw, if_neg c42, if_neg c59, if_neg hne]
        exact eI (v := v118) hx hb hr hlocks (by rw [e118, i32T (by omega) (by omega), q115]) dX1_rawRangeOf_119
      · have c96 := (lg_cmp_eq _ _).mp c96
        refine lv_iconst (v := nI 0) hx hb dX1_rawRangeOf_99 (by decide) ?_
        refine lv_goto (tgt := 119) hx hb dX1_rawRangeOf_100 (by decide) ?_
        have q9 := congrArg Int64.toInt c96
        rw [q89, lN_T (by decide)] at q9
        exact eI (v := nI 0) hx hb hr hlocks (by rw [raw, if_neg c42, if_neg c59, if_pos (by simpa using q9)]; rfl) dX1_rawRangeOf_119
    · have c59 := (nI_eq (a := m) (b := 1) (by omega) (by omega)).mp c59
      refine lv_lload_n hx hb dX1_rawRangeOf_62 rfl (lv_at hl 3 rfl) ?_
      refine lv_lload hx hb dX1_rawRangeOf_63 (lv_at hl 2 rfl) ?_
      refine lv_lsub hx hb dX1_rawRangeOf_65 ?_
      refine lv_topl (fun v65 e65 => ?_)
      refine lv_lload hx hb dX1_rawRangeOf_66 (lv_at hl 1 rfl) ?_
      refine lv_ladd hx hb dX1_rawRangeOf_68 ?_
      refine lv_topl (fun v68 e68 => ?_)
      refine lv_lload hx hb dX1_rawRangeOf_69 (lv_at hl 0 rfl) ?_
      refine lv_lsub hx hb dX1_rawRangeOf_71 ?_
      refine lv_topl (fun v71 e71 => ?_)
      refine lv_ldc2 (v := lN 4) hx hb hown (hts _ kw_X1_104) dX1_rawRangeOf_72 ?_
      refine goL (rdS (As := [.long v71, .long (lN 4)]) (rest := []) (c_floorDivL l K v71 (lN 4) (by decide)) ⟨hx, hb, hml, hown, hts⟩ (gS kl_X1_101 kt_J9_floorDiv_f86c9 kn_J9 kc_J9_floorDiv_f86c9) (by show okN yJ9_floorDiv_f86c9 2; decide +kernel) ⟨⟨Nat.le_of_ble_eq_true rfl, Nat.le_of_ble_eq_true rfl⟩, rfl, rfl⟩ hE hP [] rfl hl.1 rfl (Nat.le_of_ble_eq_true rfl) dX1_rawRangeOf_75 ⟨Nat.le_of_ble_eq_true rfl, Nat.le_of_ble_eq_true rfl⟩) (fun v75 e75 => ?_)
      refine lv_l2i hx hb dX1_rawRangeOf_78 rfl ?_
      refine lv_topi (fun v78 e78 => ?_)
      have q65 : v65.toInt = elp fr e 2 5 - elp fr e 3 4 := by rw [e65, fb_subL (by omega) (by omega), q7, q16]
      have q68 : v68.toInt = elp fr e 2 5 - elp fr e 3 4 + elp fr e 4 7 := by rw [e68, fb_addL (by omega) (by omega), q65, q27]
      have q71 : v71.toInt = elp fr e 2 5 - elp fr e 3 4 + elp fr e 4 7 - elp fr e 5 6 := by rw [e71, fb_subL (by omega) (by omega), q68, q38]
      have q75 : v75.toInt = raw fr e m := by rw [e75, flD_pos (by decide), q71, lN_T (by decide), raw, if_neg c42, if_pos c59]; rfl
      exact eI (v := v78) hx hb hr hlocks (by rw [e78, i32T (by omega) (by omega), q75]) dX1_rawRangeOf_79
  · have c42 := (nI_z (n := m) (by omega)).mp c42
    refine lv_lload_n hx hb dX1_rawRangeOf_45 rfl (lv_at hl 3 rfl) ?_
    refine lv_lload hx hb dX1_rawRangeOf_46 (lv_at hl 2 rfl) ?_
    refine lv_lsub hx hb dX1_rawRangeOf_48 ?_
    refine lv_topl (fun v48 e48 => ?_)
    refine lv_ldc2 (v := lN 2) hx hb hown (hts _ kw_X1_99) dX1_rawRangeOf_49 ?_
    refine goL (rdS (As := [.long v48, .long (lN 2)]) (rest := []) (c_floorDivL l K v48 (lN 2) (by decide)) ⟨hx, hb, hml, hown, hts⟩ (gS kl_X1_101 kt_J9_floorDiv_f86c9 kn_J9 kc_J9_floorDiv_f86c9) (by show okN yJ9_floorDiv_f86c9 2; decide +kernel) ⟨⟨Nat.le_of_ble_eq_true rfl, Nat.le_of_ble_eq_true rfl⟩, rfl, rfl⟩ hE hP [] rfl hl.1 rfl (Nat.le_of_ble_eq_true rfl) dX1_rawRangeOf_52 ⟨Nat.le_of_ble_eq_true rfl, Nat.le_of_ble_eq_true rfl⟩) (fun v52 e52 => ?_)
    refine lv_l2i hx hb dX1_rawRangeOf_55 rfl ?_
    refine lv_topi (fun v55 e55 => ?_)
    have q48 : v48.toInt = elp fr e 2 5 - elp fr e 3 4 := by rw [e48, fb_subL (by omega) (by omega), q7, q16]
    have q52 : v52.toInt = raw fr e m := by rw [e52, flD_pos (by decide), q48, lN_T (by decide), raw, if_pos c42]; rfl
    exact eI (v := v55) hx hb hr hlocks (by rw [e55, i32T (by omega) (by omega), q52]) dX1_rawRangeOf_56
set_option maxHeartbeats 4000000 in
set_option maxRecDepth 100000 in
theorem c_rangeOf (l : Launch) (K : EK) (a : Nat → Nat) (t : Int64) (kn : Nat) (fn : Nat → Int32) (kr : Nat) (fr : Nat → Int32) (kp : Nat) (fp : Nat → Int32) (e m : Nat) (h1 : e < 40) (hk : kn ≤ 6) (hm : m < 3) (hn : ∀ i, i < kn → nOk fn i) (hr2 : rOk kn fr e) : Met l yX1_rangeOf (wq yX1_rangeOf cX1_rangeOf 3 (some .int)) (rmL 4 0 0) (va_Pc [.ref (a 0), .int (nI e), .int (nI m)] (PR K [(a 0, .inr (3, [.long t, .ref (a 1), .ref (a 2), .ref (a 3)])), (a 1, .inr (4, [.ref (a 4), .int (nI 6), .int (nI kn)])), (a 2, .inr (4, [.ref (a 5), .int (nI 8), .int (nI kr)])), (a 3, .inr (4, [.ref (a 6), .int (nI 5), .int (nI kp)])), (a 4, .inl (K.2.1, 36, .inl (fn))), (a 5, .inl (K.2.1, 320, .inl (fr))), (a 6, .inl (K.2.1, 100, .inl (fp)))])) (vp_Si (fun r => r.toInt = rng fn fr e m)) 0 0 NF := by
  refine hdR (by decide +kernel) (Nat.le_of_ble_eq_true rfl) ?_
  intro pp ee s mm bl9 me9 cd hx hb hr hlocks hml hown hts hE hP ls hl
  have hown : s.vm.findClass RX1 = some mm.cls := hown
  have hP : va_P K.1 vwCl [(a 0, .inr (3, [.long t, .ref (a 1), .ref (a 2), .ref (a 3)])), (a 1, .inr (4, [.ref (a 4), .int (nI 6), .int (nI kn)])), (a 2, .inr (4, [.ref (a 5), .int (nI 8), .int (nI kr)])), (a 3, .inr (4, [.ref (a 6), .int (nI 5), .int (nI kp)])), (a 4, .inl (K.2.1, 36, .inl (fn))), (a 5, .inl (K.2.1, 320, .inl (fr))), (a 6, .inl (K.2.1, 100, .inl (fp)))] s.heap := hP
  have hl : lv_has ls 3 [(0, .ref (a 0)), (1, .int (nI e)), (2, .int (nI m))] := hl
  refine lv_aload_n hx hb dX1_rangeOf_0 rfl (lv_at hl 0 rfl) ?_
  refine lv_iload_n hx hb dX1_rangeOf_1 rfl (lv_at hl 1 rfl) ?_
  refine lv_iload_n hx hb dX1_rangeOf_2 rfl (lv_at hl 2 rfl) ?_
  refine goI (rdV (As := [.int (nI e), .int (nI m)]) (rest := []) (c_rawRangeOf l K a t kn fn kr fr kp fp e m (by omega) (by omega) hr2.2.2) ⟨hx, hb, hml, hown, hts⟩ (gV kl_X1_106 ki_X1_rawRangeOf ks_X1_rawRangeOf kn_X1 kc_X1_rawRangeOf) (by show okN yX1_rawRangeOf 2; decide +kernel) ⟨⟨Nat.le_of_ble_eq_true rfl, Nat.le_of_ble_eq_true rfl⟩, rfl, rfl⟩ hE hP [0, 1, 2, 3, 4, 5, 6] rfl ⟨0, 3, _, _, rfl, rfl, rfl⟩ hl.1 rfl (Nat.le_of_ble_eq_true rfl) dX1_rangeOf_3 ⟨Nat.le_of_ble_eq_true rfl, Nat.le_of_ble_eq_true rfl⟩) (fun v3 e3 => ?_)
  refine lv_aload_n hx hb dX1_rangeOf_6 rfl (lv_at hl 0 rfl) ?_
  refine va_get (D := K.1) (ci := 3) (v := .ref (a 1)) (C := RX1) (T := TX1) (N := 4) hx hb hts inX1 hown hE.1 hP 0 rfl rfl 1 (by decide) (hts _ kf_X1_14) (fun _ h9 => h9) rfl dX1_rangeOf_7 ?_
  refine lv_aload_n hx hb dX1_rangeOf_10 rfl (lv_at hl 0 rfl) ?_
  refine va_get (D := K.1) (ci := 3) (v := .ref (a 2)) (C := RX1) (T := TX1) (N := 4) hx hb hts inX1 hown hE.1 hP 0 rfl rfl 2 (by decide) (hts _ kf_X1_20) (fun _ h9 => h9) rfl dX1_rangeOf_11 ?_
  refine lv_iload_n hx hb dX1_rangeOf_14 rfl (lv_at hl 1 rfl) ?_
  refine lv_iconst (v := nI 0) hx hb dX1_rangeOf_15 (by decide) ?_
  refine goI (rdV (As := [.int (nI e), .int (nI 0)]) (rest := [.ref (a 1), .int v3]) (c_get l K (a 2) (a 5) 320 8 kr e 0 fr (by omega) (by omega)) ⟨hx, hb, hml, hown, hts⟩ (gV kl_X1_34 ki_X2_get ks_X2_get kn_X2 kc_X2_get) (by show okN yX2_get 2; decide +kernel) ⟨⟨Nat.le_of_ble_eq_true rfl, Nat.le_of_ble_eq_true rfl⟩, rfl, rfl⟩ hE hP [2, 5] rfl ⟨0, 4, _, _, rfl, rfl, rfl⟩ hl.1 rfl (Nat.le_of_ble_eq_true rfl) dX1_rangeOf_16 ⟨Nat.le_of_ble_eq_true rfl, Nat.le_of_ble_eq_true rfl⟩) (fun v16 e16 => ?_)
  refine lv_iconst (v := nI 5) hx hb dX1_rangeOf_19 (by decide) ?_
  rw [e16, hr2.1.1]
  refine goI (rdV (As := [.int (nI (ini fr e)), .int (nI 5)]) (rest := [.int v3]) (c_get l K (a 1) (a 4) 36 6 kn (ini fr e) 5 fn (by have := hr2.1.2; omega) (by omega)) ⟨hx, hb, hml, hown, hts⟩ (gV kl_X1_34 ki_X2_get ks_X2_get kn_X2 kc_X2_get) (by show okN yX2_get 2; decide +kernel) ⟨⟨Nat.le_of_ble_eq_true rfl, Nat.le_of_ble_eq_true rfl⟩, rfl, rfl⟩ hE hP [1, 4] rfl ⟨0, 4, _, _, rfl, rfl, rfl⟩ hl.1 rfl (Nat.le_of_ble_eq_true rfl) dX1_rangeOf_20 ⟨Nat.le_of_ble_eq_true rfl, Nat.le_of_ble_eq_true rfl⟩) (fun v20 e20 => ?_)
  refine lv_isub hx hb dX1_rangeOf_23 ?_
  refine lv_topi (fun v23 e23 => ?_)
  refine lv_aload_n hx hb dX1_rangeOf_24 rfl (lv_at hl 0 rfl) ?_
  refine va_get (D := K.1) (ci := 3) (v := .ref (a 1)) (C := RX1) (T := TX1) (N := 4) hx hb hts inX1 hown hE.1 hP 0 rfl rfl 1 (by decide) (hts _ kf_X1_14) (fun _ h9 => h9) rfl dX1_rangeOf_25 ?_
  refine lv_aload_n hx hb dX1_rangeOf_28 rfl (lv_at hl 0 rfl) ?_
  refine va_get (D := K.1) (ci := 3) (v := .ref (a 2)) (C := RX1) (T := TX1) (N := 4) hx hb hts inX1 hown hE.1 hP 0 rfl rfl 2 (by decide) (hts _ kf_X1_20) (fun _ h9 => h9) rfl dX1_rangeOf_29 ?_
  refine lv_iload_n hx hb dX1_rangeOf_32 rfl (lv_at hl 1 rfl) ?_
  refine lv_iconst (v := nI 1) hx hb dX1_rangeOf_33 (by decide) ?_
  refine goI (rdV (As := [.int (nI e), .int (nI 1)]) (rest := [.ref (a 1), .int v23]) (c_get l K (a 2) (a 5) 320 8 kr e 1 fr (by omega) (by omega)) ⟨hx, hb, hml, hown, hts⟩ (gV kl_X1_34 ki_X2_get ks_X2_get kn_X2 kc_X2_get) (by show okN yX2_get 2; decide +kernel) ⟨⟨Nat.le_of_ble_eq_true rfl, Nat.le_of_ble_eq_true rfl⟩, rfl, rfl⟩ hE hP [2, 5] rfl ⟨0, 4, _, _, rfl, rfl, rfl⟩ hl.1 rfl (Nat.le_of_ble_eq_true rfl) dX1_rangeOf_34 ⟨Nat.le_of_ble_eq_true rfl, Nat.le_of_ble_eq_true rfl⟩) (fun v34 e34 => ?_)
  refine lv_iconst (v := nI 5) hx hb dX1_rangeOf_37 (by decide) ?_
  rw [e34, hr2.2.1.1]
  refine goI (rdV (As := [.int (nI (rsp fr e)), .int (nI 5)]) (rest := [.int v23]) (c_get l K (a 1) (a 4) 36 6 kn (rsp fr e) 5 fn (by have := hr2.2.1.2; omega) (by omega)) ⟨hx, hb, hml, hown, hts⟩ (gV kl_X1_34 ki_X2_get ks_X2_get kn_X2 kc_X2_get) (by show okN yX2_get 2; decide +kernel) ⟨⟨Nat.le_of_ble_eq_true rfl, Nat.le_of_ble_eq_true rfl⟩, rfl, rfl⟩ hE hP [1, 4] rfl ⟨0, 4, _, _, rfl, rfl, rfl⟩ hl.1 rfl (Nat.le_of_ble_eq_true rfl) dX1_rangeOf_38 ⟨Nat.le_of_ble_eq_true rfl, Nat.le_of_ble_eq_true rfl⟩) (fun v38 e38 => ?_)
  refine lv_isub hx hb dX1_rangeOf_41 ?_
  refine lv_topi (fun v41 e41 => ?_)
  have k1 := (hn _ hr2.1.2).2.2.2.2.2
  have k2 := (hn _ hr2.2.1.2).2.2.2.2.2
  have k3 := raw_rng fr e m
  have q20 : v20.toInt = nd fn (ini fr e) 5 := by rw [e20]; rfl
  have q38 : v38.toInt = nd fn (rsp fr e) 5 := by rw [e38]; rfl
  have q23 : v23.toInt = raw fr e m - nd fn (ini fr e) 5 := by rw [e23, fb_subI (by omega) (by omega), e3, q20]
  exact eI (v := v41) hx hb hr hlocks (by rw [e41, fb_subI (by omega) (by omega), q23, q38]; rfl) dX1_rangeOf_42
set_option maxHeartbeats 4000000 in
set_option maxRecDepth 100000 in
theorem c_lengthOf (l : Launch) (K : EK) (a : Nat → Nat) (t : Int64) (kn : Nat) (fn : Nat → Int32) (kr : Nat) (fr : Nat → Int32) (kp : Nat) (fp : Nat → Int32) (e : Nat) (h1 : e < 40) (hk : kn ≤ 6) (hn : ∀ i, i < kn → nOk fn i) (hr2 : rOk kn fr e) : Met l yX1_lengthOf (wq yX1_lengthOf cX1_lengthOf 2 (some .int)) (rmL 3 0 0) (va_Pc [.ref (a 0), .int (nI e)] (PR K [(a 0, .inr (3, [.long t, .ref (a 1), .ref (a 2), .ref (a 3)])), (a 1, .inr (4, [.ref (a 4), .int (nI 6), .int (nI kn)])), (a 2, .inr (4, [.ref (a 5), .int (nI 8), .int (nI kr)])), (a 3, .inr (4, [.ref (a 6), .int (nI 5), .int (nI kp)])), (a 4, .inl (K.2.1, 36, .inl (fn))), (a 5, .inl (K.2.1, 320, .inl (fr))), (a 6, .inl (K.2.1, 100, .inl (fp)))])) (vp_Si (fun r => r = nI (len fn fr e))) 0 0 NF := by
  refine hdR (by decide +kernel) (Nat.le_of_ble_eq_true rfl) ?_
  intro pp ee s mm bl9 me9 cd hx hb hr hlocks hml hown hts hE hP ls hl
  have hown : s.vm.findClass RX1 = some mm.cls := hown
  have hP : va_P K.1 vwCl [(a 0, .inr (3, [.long t, .ref (a 1), .ref (a 2), .ref (a 3)])), (a 1, .inr (4, [.ref (a 4), .int (nI 6), .int (nI kn)])), (a 2, .inr (4, [.ref (a 5), .int (nI 8), .int (nI kr)])), (a 3, .inr (4, [.ref (a 6), .int (nI 5), .int (nI kp)])), (a 4, .inl (K.2.1, 36, .inl (fn))), (a 5, .inl (K.2.1, 320, .inl (fr))), (a 6, .inl (K.2.1, 100, .inl (fp)))] s.heap := hP
  have hl : lv_has ls 2 [(0, .ref (a 0)), (1, .int (nI e))] := hl
  refine lv_aload_n hx hb dX1_lengthOf_0 rfl (lv_at hl 0 rfl) ?_
  refine lv_aload_n hx hb dX1_lengthOf_1 rfl (lv_at hl 0 rfl) ?_
  refine va_get (D := K.1) (ci := 3) (v := .ref (a 2)) (C := RX1) (T := TX1) (N := 4) hx hb hts inX1 hown hE.1 hP 0 rfl rfl 2 (by decide) (hts _ kf_X1_20) (fun _ h9 => h9) rfl dX1_lengthOf_2 ?_
  refine lv_iload_n hx hb dX1_lengthOf_5 rfl (lv_at hl 1 rfl) ?_
  refine lv_iconst (v := nI 0) hx hb dX1_lengthOf_6 (by decide) ?_
  refine goI (rdV (As := [.int (nI e), .int (nI 0)]) (rest := [.ref (a 0)]) (c_get l K (a 2) (a 5) 320 8 kr e 0 fr (by omega) (by omega)) ⟨hx, hb, hml, hown, hts⟩ (gV kl_X1_34 ki_X2_get ks_X2_get kn_X2 kc_X2_get) (by show okN yX2_get 2; decide +kernel) ⟨⟨Nat.le_of_ble_eq_true rfl, Nat.le_of_ble_eq_true rfl⟩, rfl, rfl⟩ hE hP [2, 5] rfl ⟨0, 4, _, _, rfl, rfl, rfl⟩ hl.1 rfl (Nat.le_of_ble_eq_true rfl) dX1_lengthOf_7 ⟨Nat.le_of_ble_eq_true rfl, Nat.le_of_ble_eq_true rfl⟩) (fun v7 e7 => ?_)
  refine lv_aload_n hx hb dX1_lengthOf_10 rfl (lv_at hl 0 rfl) ?_
  refine va_get (D := K.1) (ci := 3) (v := .ref (a 2)) (C := RX1) (T := TX1) (N := 4) hx hb hts inX1 hown hE.1 hP 0 rfl rfl 2 (by decide) (hts _ kf_X1_20) (fun _ h9 => h9) rfl dX1_lengthOf_11 ?_
  refine lv_iload_n hx hb dX1_lengthOf_14 rfl (lv_at hl 1 rfl) ?_
  refine lv_iconst (v := nI 1) hx hb dX1_lengthOf_15 (by decide) ?_
  refine goI (rdV (As := [.int (nI e), .int (nI 1)]) (rest := [.int v7, .ref (a 0)]) (c_get l K (a 2) (a 5) 320 8 kr e 1 fr (by omega) (by omega)) ⟨hx, hb, hml, hown, hts⟩ (gV kl_X1_34 ki_X2_get ks_X2_get kn_X2 kc_X2_get) (by show okN yX2_get 2; decide +kernel) ⟨⟨Nat.le_of_ble_eq_true rfl, Nat.le_of_ble_eq_true rfl⟩, rfl, rfl⟩ hE hP [2, 5] rfl ⟨0, 4, _, _, rfl, rfl, rfl⟩ hl.1 rfl (Nat.le_of_ble_eq_true rfl) dX1_lengthOf_16 ⟨Nat.le_of_ble_eq_true rfl, Nat.le_of_ble_eq_true rfl⟩) (fun v16 e16 => ?_)
  rw [e7, hr2.1.1]
  rw [e16, hr2.2.1.1]
  refine goI (rdV (As := [.int (nI (ini fr e)), .int (nI (rsp fr e))]) (rest := []) (c_lengthBetween l K a t kn fn kr fr kp fp (ini fr e) (rsp fr e) (by have := hr2.1.2; omega) (by have := hr2.2.1.2; omega) (hn _ hr2.1.2) (hn _ hr2.2.1.2)) ⟨hx, hb, hml, hown, hts⟩ (gV kl_X1_56 ki_X1_lengthBetween ks_X1_lengthBetween kn_X1 kc_X1_lengthBetween) (by show okN yX1_lengthBetween 2; decide +kernel) ⟨⟨Nat.le_of_ble_eq_true rfl, Nat.le_of_ble_eq_true rfl⟩, rfl, rfl⟩ hE hP [0, 1, 2, 3, 4, 5, 6] rfl ⟨0, 3, _, _, rfl, rfl, rfl⟩ hl.1 rfl (Nat.le_of_ble_eq_true rfl) dX1_lengthOf_19 ⟨Nat.le_of_ble_eq_true rfl, Nat.le_of_ble_eq_true rfl⟩) (fun v19 e19 => ?_)
  exact eI (v := v19) hx hb hr hlocks (e19) dX1_lengthOf_22
set_option maxHeartbeats 4000000 in
set_option maxRecDepth 100000 in
theorem c_errorOf (l : Launch) (K : EK) (a : Nat → Nat) (t : Int64) (kn : Nat) (fn : Nat → Int32) (kr : Nat) (fr : Nat → Int32) (kp : Nat) (fp : Nat → Int32) (e m : Nat) (h1 : e < 40) (hk : kn ≤ 6) (hm : m < 3) (hn : ∀ i, i < kn → nOk fn i) (hr2 : rOk kn fr e) : Met l yX1_errorOf (wq yX1_errorOf cX1_errorOf 3 (some .int)) (rmL 5 0 0) (va_Pc [.ref (a 0), .int (nI e), .int (nI m)] (PR K [(a 0, .inr (3, [.long t, .ref (a 1), .ref (a 2), .ref (a 3)])), (a 1, .inr (4, [.ref (a 4), .int (nI 6), .int (nI kn)])), (a 2, .inr (4, [.ref (a 5), .int (nI 8), .int (nI kr)])), (a 3, .inr (4, [.ref (a 6), .int (nI 5), .int (nI kp)])), (a 4, .inl (K.2.1, 36, .inl (fn))), (a 5, .inl (K.2.1, 320, .inl (fr))), (a 6, .inl (K.2.1, 100, .inl (fp)))])) (vp_Si (fun r => r.toInt = err fn fr e m)) 0 0 NF := by
  refine hdR (by decide +kernel) (Nat.le_of_ble_eq_true rfl) ?_
  intro pp ee s mm bl9 me9 cd hx hb hr hlocks hml hown hts hE hP ls hl
  have hown : s.vm.findClass RX1 = some mm.cls := hown
  have hP : va_P K.1 vwCl [(a 0, .inr (3, [.long t, .ref (a 1), .ref (a 2), .ref (a 3)])), (a 1, .inr (4, [.ref (a 4), .int (nI 6), .int (nI kn)])), (a 2, .inr (4, [.ref (a 5), .int (nI 8), .int (nI kr)])), (a 3, .inr (4, [.ref (a 6), .int (nI 5), .int (nI kp)])), (a 4, .inl (K.2.1, 36, .inl (fn))), (a 5, .inl (K.2.1, 320, .inl (fr))), (a 6, .inl (K.2.1, 100, .inl (fp)))] s.heap := hP
  have hl : lv_has ls 3 [(0, .ref (a 0)), (1, .int (nI e)), (2, .int (nI m))] := hl
  refine lv_aload_n hx hb dX1_errorOf_0 rfl (lv_at hl 0 rfl) ?_
  refine lv_iload_n hx hb dX1_errorOf_1 rfl (lv_at hl 1 rfl) ?_
  refine lv_iload_n hx hb dX1_errorOf_2 rfl (lv_at hl 2 rfl) ?_
  refine goI (rdV (As := [.int (nI e), .int (nI m)]) (rest := []) (c_rangeOf l K a t kn fn kr fr kp fp e m (by omega) (by omega) (by omega) hn hr2) ⟨hx, hb, hml, hown, hts⟩ (gV kl_X1_109 ki_X1_rangeOf ks_X1_rangeOf kn_X1 kc_X1_rangeOf) (by show okN yX1_rangeOf 2; decide +kernel) ⟨⟨Nat.le_of_ble_eq_true rfl, Nat.le_of_ble_eq_true rfl⟩, rfl, rfl⟩ hE hP [0, 1, 2, 3, 4, 5, 6] rfl ⟨0, 3, _, _, rfl, rfl, rfl⟩ hl.1 rfl (Nat.le_of_ble_eq_true rfl) dX1_errorOf_3 ⟨Nat.le_of_ble_eq_true rfl, Nat.le_of_ble_eq_true rfl⟩) (fun v3 e3 => ?_)
  refine lv_aload_n hx hb dX1_errorOf_6 rfl (lv_at hl 0 rfl) ?_
  refine lv_iload_n hx hb dX1_errorOf_7 rfl (lv_at hl 1 rfl) ?_
  refine goI (rdV (As := [.int (nI e)]) (rest := [.int v3]) (c_lengthOf l K a t kn fn kr fr kp fp e (by omega) (by omega) hn hr2) ⟨hx, hb, hml, hown, hts⟩ (gV kl_X1_112 ki_X1_lengthOf ks_X1_lengthOf kn_X1 kc_X1_lengthOf) (by show okN yX1_lengthOf 1; decide +kernel) ⟨⟨Nat.le_of_ble_eq_true rfl, Nat.le_of_ble_eq_true rfl⟩, rfl, rfl⟩ hE hP [0, 1, 2, 3, 4, 5, 6] rfl ⟨0, 3, _, _, rfl, rfl, rfl⟩ hl.1 rfl (Nat.le_of_ble_eq_true rfl) dX1_errorOf_8 ⟨Nat.le_of_ble_eq_true rfl, Nat.le_of_ble_eq_true rfl⟩) (fun v8 e8 => ?_)
  refine lv_isub hx hb dX1_errorOf_11 ?_
  refine lv_topi (fun v11 e11 => ?_)
  have k2 := rng_rng m hn hr2
  have k3 := len_lt hn hr2
  have k4 := raw_rng fr e 2
  have q8 : v8.toInt = len fn fr e := by rw [e8]; exact nI_toInt (by omega)
  exact eI (v := v11) hx hb hr hlocks (by rw [e11, fb_subI (by omega) (by omega), e3, q8]; rfl) dX1_errorOf_12
set_option maxHeartbeats 4000000 in
set_option maxRecDepth 100000 in
theorem c_excessOf (l : Launch) (K : EK) (a : Nat → Nat) (t : Int64) (kn : Nat) (fn : Nat → Int32) (kr : Nat) (fr : Nat → Int32) (kp : Nat) (fp : Nat → Int32) (e : Nat) (h1 : e < 40) (hk : kn ≤ 6) (hn : ∀ i, i < kn → nOk fn i) (hr2 : rOk kn fr e) : Met l yX1_excessOf (wq yX1_excessOf cX1_excessOf 2 (some .int)) (rmL 5 0 0) (va_Pc [.ref (a 0), .int (nI e)] (PR K [(a 0, .inr (3, [.long t, .ref (a 1), .ref (a 2), .ref (a 3)])), (a 1, .inr (4, [.ref (a 4), .int (nI 6), .int (nI kn)])), (a 2, .inr (4, [.ref (a 5), .int (nI 8), .int (nI kr)])), (a 3, .inr (4, [.ref (a 6), .int (nI 5), .int (nI kp)])), (a 4, .inl (K.2.1, 36, .inl (fn))), (a 5, .inl (K.2.1, 320, .inl (fr))), (a 6, .inl (K.2.1, 100, .inl (fp)))])) (vp_Si (fun r => r.toInt = exs fn fr e)) 0 0 NF := by
  refine hdR (by decide +kernel) (Nat.le_of_ble_eq_true rfl) ?_
  intro pp ee s mm bl9 me9 cd hx hb hr hlocks hml hown hts hE hP ls hl
  have hown : s.vm.findClass RX1 = some mm.cls := hown
  have hP : va_P K.1 vwCl [(a 0, .inr (3, [.long t, .ref (a 1), .ref (a 2), .ref (a 3)])), (a 1, .inr (4, [.ref (a 4), .int (nI 6), .int (nI kn)])), (a 2, .inr (4, [.ref (a 5), .int (nI 8), .int (nI kr)])), (a 3, .inr (4, [.ref (a 6), .int (nI 5), .int (nI kp)])), (a 4, .inl (K.2.1, 36, .inl (fn))), (a 5, .inl (K.2.1, 320, .inl (fr))), (a 6, .inl (K.2.1, 100, .inl (fp)))] s.heap := hP
  have hl : lv_has ls 2 [(0, .ref (a 0)), (1, .int (nI e))] := hl
  refine lv_aload_n hx hb dX1_excessOf_0 rfl (lv_at hl 0 rfl) ?_
  refine lv_iload_n hx hb dX1_excessOf_1 rfl (lv_at hl 1 rfl) ?_
  refine lv_iconst (v := nI 2) hx hb dX1_excessOf_2 (by decide) ?_
  refine goI (rdV (As := [.int (nI e), .int (nI 2)]) (rest := []) (c_rawRangeOf l K a t kn fn kr fr kp fp e 2 (by omega) (by omega) hr2.2.2) ⟨hx, hb, hml, hown, hts⟩ (gV kl_X1_106 ki_X1_rawRangeOf ks_X1_rawRangeOf kn_X1 kc_X1_rawRangeOf) (by show okN yX1_rawRangeOf 2; decide +kernel) ⟨⟨Nat.le_of_ble_eq_true rfl, Nat.le_of_ble_eq_true rfl⟩, rfl, rfl⟩ hE hP [0, 1, 2, 3, 4, 5, 6] rfl ⟨0, 3, _, _, rfl, rfl, rfl⟩ hl.1 rfl (Nat.le_of_ble_eq_true rfl) dX1_excessOf_3 ⟨Nat.le_of_ble_eq_true rfl, Nat.le_of_ble_eq_true rfl⟩) (fun v3 e3 => ?_)
  refine lv_aload_n hx hb dX1_excessOf_6 rfl (lv_at hl 0 rfl) ?_
  refine lv_iload_n hx hb dX1_excessOf_7 rfl (lv_at hl 1 rfl) ?_
  refine goI (rdV (As := [.int (nI e)]) (rest := [.int v3]) (c_lengthOf l K a t kn fn kr fr kp fp e (by omega) (by omega) hn hr2) ⟨hx, hb, hml, hown, hts⟩ (gV kl_X1_112 ki_X1_lengthOf ks_X1_lengthOf kn_X1 kc_X1_lengthOf) (by show okN yX1_lengthOf 1; decide +kernel) ⟨⟨Nat.le_of_ble_eq_true rfl, Nat.le_of_ble_eq_true rfl⟩, rfl, rfl⟩ hE hP [0, 1, 2, 3, 4, 5, 6] rfl ⟨0, 3, _, _, rfl, rfl, rfl⟩ hl.1 rfl (Nat.le_of_ble_eq_true rfl) dX1_excessOf_8 ⟨Nat.le_of_ble_eq_true rfl, Nat.le_of_ble_eq_true rfl⟩) (fun v8 e8 => ?_)
  refine lv_isub hx hb dX1_excessOf_11 ?_
  refine lv_topi (fun v11 e11 => ?_)
  have k3 := len_lt hn hr2
  have k4 := raw_rng fr e 2
  have q8 : v8.toInt = len fn fr e := by rw [e8]; exact nI_toInt (by omega)
  exact eI (v := v11) hx hb hr hlocks (by rw [e11, fb_subI (by omega) (by omega), e3, q8]; rfl) dX1_excessOf_12
set_option maxHeartbeats 4000000 in
set_option maxRecDepth 100000 in
theorem c_latestBetween (l : Launch) (K : EK) (a : Nat → Nat) (t : Int64) (kn : Nat) (fn : Nat → Int32) (kr : Nat) (fr : Nat → Int32) (kp : Nat) (fp : Nat → Int32) (i j : Nat) (hi : i < 6) (hj : j < 6) (hk : kn ≤ 6) (hkr : kr ≤ 40) (hrs : ∀ e, e < kr → rOk kn fr e) : Met l yX1_latestBetween (wq yX1_latestBetween cX1_latestBetween 6 (some .int)) (rmL 2 0 0) (va_Pc [.ref (a 0), .int (nI i), .int (nI j)] (PR K [(a 0, .inr (3, [.long t, .ref (a 1), .ref (a 2), .ref (a 3)])), (a 1, .inr (4, [.ref (a 4), .int (nI 6), .int (nI kn)])), (a 2, .inr (4, [.ref (a 5), .int (nI 8), .int (nI kr)])), (a 3, .inr (4, [.ref (a 6), .int (nI 5), .int (nI kp)])), (a 4, .inl (K.2.1, 36, .inl (fn))), (a 5, .inl (K.2.1, 320, .inl (fr))), (a 6, .inl (K.2.1, 100, .inl (fp)))])) (vp_Si (fun r => (r = -1 ∧ noLat fr i j kr) ∨ ∃ e, r = nI e ∧ isLat fr i j kr e)) 0 0 NF := by
  refine hdR (by decide +kernel) (Nat.le_of_ble_eq_true rfl) ?_
  intro pp ee s mm bl9 me9 cd hx hb hr hlocks hml hown hts hE hP ls hl
  have hown : s.vm.findClass RX1 = some mm.cls := hown
  have hP : va_P K.1 vwCl [(a 0, .inr (3, [.long t, .ref (a 1), .ref (a 2), .ref (a 3)])), (a 1, .inr (4, [.ref (a 4), .int (nI 6), .int (nI kn)])), (a 2, .inr (4, [.ref (a 5), .int (nI 8), .int (nI kr)])), (a 3, .inr (4, [.ref (a 6), .int (nI 5), .int (nI kp)])), (a 4, .inl (K.2.1, 36, .inl (fn))), (a 5, .inl (K.2.1, 320, .inl (fr))), (a 6, .inl (K.2.1, 100, .inl (fp)))] s.heap := hP
  have hl : lv_has ls 6 [(0, .ref (a 0)), (1, .int (nI i)), (2, .int (nI j))] := hl
  refine lv_aload_n hx hb dX1_latestBetween_0 rfl (lv_at hl 0 rfl) ?_
  refine va_get (D := K.1) (ci := 3) (v := .ref (a 2)) (C := RX1) (T := TX1) (N := 4) hx hb hts inX1 hown hE.1 hP 0 rfl rfl 2 (by decide) (hts _ kf_X1_20) (fun _ h9 => h9) rfl dX1_latestBetween_1 ?_
  refine va_getN (D := K.1) (ci := 4) (v := .int (nI kr)) (C := RX2) (T := TX2) (N := 3) hx hb hts inX2 hown hE.1 hP 2 rfl rfl 2 (by decide) (va_Nw.use rfl (hE.2.1 _ (List.mem_of_getElem? (i := 1) rfl))) (fun _ h9 => h9) rfl dX1_latestBetween_4 ?_
  refine lv_iconst (v := nI 1) hx hb dX1_latestBetween_7 (by decide) ?_
  refine lv_isub hx hb dX1_latestBetween_8 ?_
  refine lv_topi (fun v8 e8 => ?_)
  rw [show v8 = nI kr + -1 from by rw [e8]; exact sub1 _]
  refine lv_istore_n (lv' := [(3, .int (nI kr + -1)), (0, .ref (a 0)), (1, .int (nI i)), (2, .int (nI j))]) hx hb dX1_latestBetween_9 rfl hl (by decide) rfl (fun ls hl => ?_)
  refine lpR (α := Nat) (fun (x9 : Nat) => x9 ≤ kr ∧ ∀ q, x9 ≤ q → q < kr → ¬ btw fr i j q) (fun (x9 : Nat) => x9) (fun (x9 : Nat) => [(0, .ref (a 0)), (1, .int (nI i)), (2, .int (nI j)), (3, .int (nI x9 + -1))]) 6 10 (fun x9 hI10 ih10 ls hl => ?_) kr (⟨Nat.le_refl _, fun q q1 q2 => absurd q2 (by omega)⟩) ls (lv_sub hl [1, 2, 3, 0] rfl)
  obtain ⟨n, rfl⟩ : ∃ z, z = x9 := ⟨_, rfl⟩
  have hI10 : n ≤ kr ∧ ∀ q, n ≤ q → q < kr → ¬ btw fr i j q := hI10
  have hl : lv_has ls 6 [(0, .ref (a 0)), (1, .int (nI i)), (2, .int (nI j)), (3, .int (nI n + -1))] := hl
  refine lv_iload_n hx hb dX1_latestBetween_10 rfl (lv_at hl 3 rfl) ?_
  refine lv_if_lt (tgt := 68) hx hb dX1_latestBetween_11 (by decide) (fun c11 => ?_) (fun c11 => ?_)
  · refine lv_iconst (v := -1) hx hb dX1_latestBetween_68 (by decide) ?_
    have hn0 : n = 0 := by
      rcases n with _ | n
      · rfl
      · rw [pk_m1] at c11
        exact absurd c11 (nI_pos (by omega))
    exact eI (v := -1) hx hb hr hlocks (Or.inl ⟨rfl, fun q q2 => hI10.2 q (by omega) q2⟩) dX1_latestBetween_69
  · obtain ⟨z, rfl⟩ : ∃ z, n = z + 1 := ⟨n - 1, by rcases n with _ | n <;> first | omega | exact absurd (by decide) c11⟩
    have hr2 := hrs z (by omega)
    rw [pk_m1] at hl
    have hl : lv_has ls 6 [(0, .ref (a 0)), (1, .int (nI i)), (2, .int (nI j)), (3, .int (nI z))] := hl
    refine lv_aload_n hx hb dX1_latestBetween_14 rfl (lv_at hl 0 rfl) ?_
    refine va_get (D := K.1) (ci := 3) (v := .ref (a 2)) (C := RX1) (T := TX1) (N := 4) hx hb hts inX1 hown hE.1 hP 0 rfl rfl 2 (by decide) (hts _ kf_X1_20) (fun _ h9 => h9) rfl dX1_latestBetween_15 ?_
    refine lv_iload_n hx hb dX1_latestBetween_18 rfl (lv_at hl 3 rfl) ?_
    refine lv_iconst (v := nI 0) hx hb dX1_latestBetween_19 (by decide) ?_
    refine goI (rdV (As := [.int (nI z), .int (nI 0)]) (rest := []) (c_get l K (a 2) (a 5) 320 8 kr z 0 fr (by omega) (by omega)) ⟨hx, hb, hml, hown, hts⟩ (gV kl_X1_34 ki_X2_get ks_X2_get kn_X2 kc_X2_get) (by show okN yX2_get 2; decide +kernel) ⟨⟨Nat.le_of_ble_eq_true rfl, Nat.le_of_ble_eq_true rfl⟩, rfl, rfl⟩ hE hP [2, 5] rfl ⟨0, 4, _, _, rfl, rfl, rfl⟩ hl.1 rfl (Nat.le_of_ble_eq_true rfl) dX1_latestBetween_20 ⟨Nat.le_of_ble_eq_true rfl, Nat.le_of_ble_eq_true rfl⟩) (fun v20 e20 => ?_)
    refine lv_istore (lv' := [(4, .int v20), (0, .ref (a 0)), (1, .int (nI i)), (2, .int (nI j)), (3, .int (nI z))]) hx hb dX1_latestBetween_23 hl (by decide) rfl (fun ls hl => ?_)
    refine lv_aload_n hx hb dX1_latestBetween_25 rfl (lv_at hl 1 rfl) ?_
    refine va_get (D := K.1) (ci := 3) (v := .ref (a 2)) (C := RX1) (T := TX1) (N := 4) hx hb hts inX1 hown hE.1 hP 0 rfl rfl 2 (by decide) (hts _ kf_X1_20) (fun _ h9 => h9) rfl dX1_latestBetween_26 ?_
    refine lv_iload_n hx hb dX1_latestBetween_29 rfl (lv_at hl 4 rfl) ?_
    refine lv_iconst (v := nI 1) hx hb dX1_latestBetween_30 (by decide) ?_
    refine goI (rdV (As := [.int (nI z), .int (nI 1)]) (rest := []) (c_get l K (a 2) (a 5) 320 8 kr z 1 fr (by omega) (by omega)) ⟨hx, hb, hml, hown, hts⟩ (gV kl_X1_34 ki_X2_get ks_X2_get kn_X2 kc_X2_get) (by show okN yX2_get 2; decide +kernel) ⟨⟨Nat.le_of_ble_eq_true rfl, Nat.le_of_ble_eq_true rfl⟩, rfl, rfl⟩ hE hP [2, 5] rfl ⟨0, 4, _, _, rfl, rfl, rfl⟩ hl.1 rfl (Nat.le_of_ble_eq_true rfl) dX1_latestBetween_31 ⟨Nat.le_of_ble_eq_true rfl, Nat.le_of_ble_eq_true rfl⟩) (fun v31 e31 => ?_)
    refine lv_istore (lv' := [(5, .int v31), (4, .int v20), (0, .ref (a 0)), (1, .int (nI i)), (2, .int (nI j)), (3, .int (nI z))]) hx hb dX1_latestBetween_34 hl (by decide) rfl (fun ls hl => ?_)
    rw [e20, hr2.1.1, e31, hr2.2.1.1] at hl
    have g1 := hr2.1.2
    have g2 := hr2.2.1.2
    refine lv_iload hx hb dX1_latestBetween_36 (lv_at hl 1 rfl) ?_
    refine lv_iload_n hx hb dX1_latestBetween_38 rfl (lv_at hl 3 rfl) ?_
    refine lv_icmp_ne (tgt := 48) hx hb dX1_latestBetween_39 (by decide) (fun c39 => ?_) (fun c39 => ?_)
    · have c39 := mt (nI_eq (a := ini fr z) (b := i) (by omega) (by omega)).mpr c39
      refine lv_iload hx hb dX1_latestBetween_48 (lv_at hl 1 rfl) ?_
      refine lv_iload_n hx hb dX1_latestBetween_50 rfl (lv_at hl 4 rfl) ?_
      refine lv_icmp_ne (tgt := 62) hx hb dX1_latestBetween_51 (by decide) (fun c51 => ?_) (fun c51 => ?_)
      · have c51 := mt (nI_eq (a := ini fr z) (b := j) (by omega) (by omega)).mpr c51
        have hstep : ∀ q, z ≤ q → q < kr → ¬ btw fr i j q := fun q q1 q2 => by
          rcases Nat.lt_or_ge z q with g | g
          · exact hI10.2 q g q2
          · have : q = z := by omega
            subst this
            rintro (⟨u1, u2⟩ | ⟨u1, u2⟩) <;> simp_all
        obtain ⟨v62, e62⟩ : ∃ y : Int32, y = (nI z) + (-1) := ⟨_, rfl⟩
        refine lv_iinc (v := v62) (lv' := [(3, .int v62), (5, .int (nI (rsp fr z))), (4, .int (nI (ini fr z))), (0, .ref (a 0)), (1, .int (nI i)), (2, .int (nI j))]) hx hb dX1_latestBetween_62 hl (k := 5) rfl (by rw [e62]; rfl) (by decide) rfl (fun ls hl => ?_)
        rw [show v62 = nI z + -1 from e62] at hl
        refine lv_goto (tgt := 10) hx hb dX1_latestBetween_65 (by decide) ?_
        have hB10 : z ≤ kr ∧ ∀ q, z ≤ q → q < kr → ¬ btw fr i j q := ⟨by omega, hstep⟩
        exact ih10 z (hB10) (Nat.lt_succ_self z) ls (lv_sub hl [3, 4, 5, 0] rfl)
      · have c51 := (nI_eq (a := ini fr z) (b := j) (by omega) (by omega)).mp c51
        refine lv_iload hx hb dX1_latestBetween_54 (lv_at hl 0 rfl) ?_
        refine lv_iload_n hx hb dX1_latestBetween_56 rfl (lv_at hl 3 rfl) ?_
        refine lv_icmp_ne (tgt := 62) hx hb dX1_latestBetween_57 (by decide) (fun c57 => ?_) (fun c57 => ?_)
        · have c57 := mt (nI_eq (a := rsp fr z) (b := i) (by omega) (by omega)).mpr c57
          have hstep : ∀ q, z ≤ q → q < kr → ¬ btw fr i j q := fun q q1 q2 => by
            rcases Nat.lt_or_ge z q with g | g
            · exact hI10.2 q g q2
            · have : q = z := by omega
              subst this
              rintro (⟨u1, u2⟩ | ⟨u1, u2⟩) <;> simp_all
          obtain ⟨v62, e62⟩ : ∃ y : Int32, y = (nI z) + (-1) := ⟨_, rfl⟩
          refine lv_iinc (v := v62) (lv' := [(3, .int v62), (5, .int (nI (rsp fr z))), (4, .int (nI (ini fr z))), (0, .ref (a 0)), (1, .int (nI i)), (2, .int (nI j))]) hx hb dX1_latestBetween_62 hl (k := 5) rfl (by rw [e62]; rfl) (by decide) rfl (fun ls hl => ?_)
          rw [show v62 = nI z + -1 from e62] at hl
          refine lv_goto (tgt := 10) hx hb dX1_latestBetween_65 (by decide) ?_
          have hB10 : z ≤ kr ∧ ∀ q, z ≤ q → q < kr → ¬ btw fr i j q := ⟨by omega, hstep⟩
          exact ih10 z (hB10) (Nat.lt_succ_self z) ls (lv_sub hl [3, 4, 5, 0] rfl)
        · have c57 := (nI_eq (a := rsp fr z) (b := i) (by omega) (by omega)).mp c57
          refine lv_iload_n hx hb dX1_latestBetween_60 rfl (lv_at hl 5 rfl) ?_
          exact eI (v := nI z) hx hb hr hlocks (Or.inr ⟨z, rfl, by omega, by first | exact Or.inl ⟨c39, c45⟩ | exact Or.inr ⟨c51, c57⟩, fun q q1 q2 => hI10.2 q q1 q2⟩) dX1_latestBetween_61
    · have c39 := (nI_eq (a := ini fr z) (b := i) (by omega) (by omega)).mp c39
      refine lv_iload hx hb dX1_latestBetween_42 (lv_at hl 0 rfl) ?_
      refine lv_iload_n hx hb dX1_latestBetween_44 rfl (lv_at hl 4 rfl) ?_
      refine lv_icmp_eq (tgt := 60) hx hb dX1_latestBetween_45 (by decide) (fun c45 => ?_) (fun c45 => ?_)
      · have c45 := (nI_eq (a := rsp fr z) (b := j) (by omega) (by omega)).mp c45
        refine lv_iload_n hx hb dX1_latestBetween_60 rfl (lv_at hl 5 rfl) ?_
        exact eI (v := nI z) hx hb hr hlocks (Or.inr ⟨z, rfl, by omega, by first | exact Or.inl ⟨c39, c45⟩ | exact Or.inr ⟨c51, c57⟩, fun q q1 q2 => hI10.2 q q1 q2⟩) dX1_latestBetween_61
      · have c45 := mt (nI_eq (a := rsp fr z) (b := j) (by omega) (by omega)).mpr c45
        refine lv_iload hx hb dX1_latestBetween_48 (lv_at hl 1 rfl) ?_
        refine lv_iload_n hx hb dX1_latestBetween_50 rfl (lv_at hl 4 rfl) ?_
        refine lv_icmp_ne (tgt := 62) hx hb dX1_latestBetween_51 (by decide) (fun c51 => ?_) (fun c51 => ?_)
        · have c51 := mt (nI_eq (a := ini fr z) (b := j) (by omega) (by omega)).mpr c51
          have hstep : ∀ q, z ≤ q → q < kr → ¬ btw fr i j q := fun q q1 q2 => by
            rcases Nat.lt_or_ge z q with g | g
            · exact hI10.2 q g q2
            · have : q = z := by omega
              subst this
              rintro (⟨u1, u2⟩ | ⟨u1, u2⟩) <;> simp_all
          obtain ⟨v62, e62⟩ : ∃ y : Int32, y = (nI z) + (-1) := ⟨_, rfl⟩
          refine lv_iinc (v := v62) (lv' := [(3, .int v62), (5, .int (nI (rsp fr z))), (4, .int (nI (ini fr z))), (0, .ref (a 0)), (1, .int (nI i)), (2, .int (nI j))]) hx hb dX1_latestBetween_62 hl (k := 5) rfl (by rw [e62]; rfl) (by decide) rfl (fun ls hl => ?_)
          rw [show v62 = nI z + -1 from e62] at hl
          refine lv_goto (tgt := 10) hx hb dX1_latestBetween_65 (by decide) ?_
          have hB10 : z ≤ kr ∧ ∀ q, z ≤ q → q < kr → ¬ btw fr i j q := ⟨by omega, hstep⟩
          exact ih10 z (hB10) (Nat.lt_succ_self z) ls (lv_sub hl [3, 4, 5, 0] rfl)
        · have c51 := (nI_eq (a := ini fr z) (b := j) (by omega) (by omega)).mp c51
          refine lv_iload hx hb dX1_latestBetween_54 (lv_at hl 0 rfl) ?_
          refine lv_iload_n hx hb dX1_latestBetween_56 rfl (lv_at hl 3 rfl) ?_
          refine lv_icmp_ne (tgt := 62) hx hb dX1_latestBetween_57 (by decide) (fun c57 => ?_) (fun c57 => ?_)
          · have c57 := mt (nI_eq (a := rsp fr z) (b := i) (by omega) (by omega)).mpr c57
            have hstep : ∀ q, z ≤ q → q < kr → ¬ btw fr i j q := fun q q1 q2 => by
              rcases Nat.lt_or_ge z q with g | g
              · exact hI10.2 q g q2
              · have : q = z := by omega
                subst this
                rintro (⟨u1, u2⟩ | ⟨u1, u2⟩) <;> simp_all
            obtain ⟨v62, e62⟩ : ∃ y : Int32, y = (nI z) + (-1) := ⟨_, rfl⟩
            refine lv_iinc (v := v62) (lv' := [(3, .int v62), (5, .int (nI (rsp fr z))), (4, .int (nI (ini fr z))), (0, .ref (a 0)), (1, .int (nI i)), (2, .int (nI j))]) hx hb dX1_latestBetween_62 hl (k := 5) rfl (by rw [e62]; rfl) (by decide) rfl (fun ls hl => ?_)
            rw [show v62 = nI z + -1 from e62] at hl
            refine lv_goto (tgt := 10) hx hb dX1_latestBetween_65 (by decide) ?_
            have hB10 : z ≤ kr ∧ ∀ q, z ≤ q → q < kr → ¬ btw fr i j q := ⟨by omega, hstep⟩
            exact ih10 z (hB10) (Nat.lt_succ_self z) ls (lv_sub hl [3, 4, 5, 0] rfl)
          · have c57 := (nI_eq (a := rsp fr z) (b := i) (by omega) (by omega)).mp c57
            refine lv_iload_n hx hb dX1_latestBetween_60 rfl (lv_at hl 5 rfl) ?_
            exact eI (v := nI z) hx hb hr hlocks (Or.inr ⟨z, rfl, by omega, by first | exact Or.inl ⟨c39, c45⟩ | exact Or.inr ⟨c51, c57⟩, fun q q1 q2 => hI10.2 q q1 q2⟩) dX1_latestBetween_61
