theorem dvI_eq {x y : Int32} (h : 0 < y.toInt) : x / y * y = x ↔ x.toInt.tmod y.toInt = 0 := by
  rw [← remI h]
  constructor
  · intro q; rw [q, Int32.sub_self]; rfl
  · intro q
    have q2 : x - x / y * y = 0 := eqI (by rw [q]; rfl)
    have q3 := congrArg (· + x / y * y) q2
    simpa using q3.symm
theorem fd_neg {a b : Int} (hb : 0 < b) (ha : a < 0) (h0 : a.tmod b ≠ 0) : a / b = a.tdiv b - 1 := by
  have e := @Int.tdiv_eq_ediv a b
  rw [if_neg (by
    rintro (h | h)
    · omega
    · exact h0 (by rw [Int.tmod_eq_emod, if_pos (Or.inr h), Int.emod_eq_zero_of_dvd h]; rfl)), Int.sign_eq_one_of_pos hb] at e
  omega
theorem fd_pos {a b : Int} (h : 0 ≤ a ∨ a.tmod b = 0) : a / b = a.tdiv b := by
  rcases h with h | h
  · exact (Int.tdiv_eq_ediv_of_nonneg h).symm
  · exact (Int.tdiv_eq_ediv_of_dvd (Int.dvd_of_tmod_eq_zero h)).symm
set_option maxHeartbeats 4000000 in
set_option maxRecDepth 100000 in
theorem c_floorModI (l : Launch) (K : EK) (x y : Int32) (hy : 0 < y.toInt) : Met l yJ9_floorMod_7cf53 (wq yJ9_floorMod_7cf53 cJ9_floorMod_7cf53 3 (some .int)) (rmL 1 0 0) (va_Pc [.int x, .int y] (PR K [])) (vp_Si (fun r => r.toInt = x.toInt % y.toInt)) 0 0 NF := by
  refine hdR (by decide +kernel) (Nat.le_of_ble_eq_true rfl) ?_
  intro pp ee s mm bl9 me9 cd hx hb hr hlocks hml hown hts hE hP ls hl
  have hown : s.vm.findClass RJ9 = some mm.cls := hown
  have hP : va_P K.1 vwCl [] s.heap := hP
  have hl : lv_has ls 3 [(0, .int x), (1, .int y)] := hl
  have h0 : ¬ y = 0 := fun q => by rw [q] at hy; exact absurd hy (by decide)
  have m1 := Int.lt_tmod_of_pos x.toInt hy
  have m2 := Int.tmod_lt_of_pos x.toInt hy
  have ry := fb_rng y
  refine lv_iload_n hx hb dJ9_floorMod_7cf53_0 rfl (lv_at hl 0 rfl) ?_
  refine lv_iload_n hx hb dJ9_floorMod_7cf53_1 rfl (lv_at hl 1 rfl) ?_
  refine lv_irem hx hb dJ9_floorMod_7cf53_2 h0 ?_
  refine lv_topi (fun v2 e2 => ?_)
  have q2 : v2.toInt = x.toInt.tmod y.toInt := by rw [e2]; exact remI hy
  refine lv_istore_n (lv' := [(2, .int v2), (0, .int x), (1, .int y)]) hx hb dJ9_floorMod_7cf53_3 rfl hl (by decide) rfl (fun ls hl => ?_)
  refine lv_iload_n hx hb dJ9_floorMod_7cf53_4 rfl (lv_at hl 1 rfl) ?_
  refine lv_iload_n hx hb dJ9_floorMod_7cf53_5 rfl (lv_at hl 2 rfl) ?_
  refine lv_ixor hx hb dJ9_floorMod_7cf53_6 ?_
  refine lv_topi (fun v6 e6 => ?_)
  refine lv_if_ge (tgt := 18) hx hb dJ9_floorMod_7cf53_7 (by decide) (fun c7 => ?_) (fun c7 => ?_)
  · refine lv_iload_n hx hb dJ9_floorMod_7cf53_18 rfl (lv_at hl 0 rfl) ?_
    exact eI (v := v2) hx hb hr hlocks (by rw [q2]; exact (fm_pos (Or.inl (by have := mt (xorI_neg (x := x) (Int.le_of_lt hy)).mpr (by rw [← e6]; exact fun q => absurd (leI.mp c7) (by have := ltI.mp q; omega)); omega))).symm) dJ9_floorMod_7cf53_19
  · refine lv_iload_n hx hb dJ9_floorMod_7cf53_10 rfl (lv_at hl 0 rfl) ?_
    refine lv_if_eq (tgt := 18) hx hb dJ9_floorMod_7cf53_11 (by decide) (fun c11 => ?_) (fun c11 => ?_)
    · refine lv_iload_n hx hb dJ9_floorMod_7cf53_18 rfl (lv_at hl 0 rfl) ?_
      exact eI (v := v2) hx hb hr hlocks (by rw [q2]; exact (fm_pos (Or.inr (by rw [← q2, c11]; rfl))).symm) dJ9_floorMod_7cf53_19
    · refine lv_iload_n hx hb dJ9_floorMod_7cf53_14 rfl (lv_at hl 0 rfl) ?_
      refine lv_iload_n hx hb dJ9_floorMod_7cf53_15 rfl (lv_at hl 2 rfl) ?_
      refine lv_iadd hx hb dJ9_floorMod_7cf53_16 ?_
      refine lv_topi (fun v16 e16 => ?_)
      have hn : x.toInt < 0 := (xorI_neg (Int.le_of_lt hy)).mp (e6 ▸ ltI.mpr (Int.not_le.mp (mt leI.mpr c7)))
      have sg := tmod_np (Int.le_of_lt hn) hy
      exact eI (v := v16) hx hb hr hlocks (by rw [e16, fb_addI (by rw [q2]; omega) (by rw [q2]; omega), q2]; exact (fm_neg hy hn (fun q => c11 (eqI (by rw [q2, q]; rfl)))).symm) dJ9_floorMod_7cf53_17
set_option maxHeartbeats 4000000 in
set_option maxRecDepth 100000 in
theorem c_floorModL (l : Launch) (K : EK) (x y : Int64) (hy : 0 < y.toInt) : Met l yJ9_floorMod_f86c9 (wq yJ9_floorMod_f86c9 cJ9_floorMod_f86c9 6 (some .long)) (rmL 1 0 0) (va_Pc [.long x, .long y] (PR K [])) (vp_Sl (fun r => r.toInt = x.toInt % y.toInt)) 0 0 NF := by
  refine hdR (by decide +kernel) (Nat.le_of_ble_eq_true rfl) ?_
  intro pp ee s mm bl9 me9 cd hx hb hr hlocks hml hown hts hE hP ls hl
  have hown : s.vm.findClass RJ9 = some mm.cls := hown
  have hP : va_P K.1 vwCl [] s.heap := hP
  have hl : lv_has ls 6 [(0, .long x), (2, .long y)] := hl
  have h0 : ¬ y = 0 := fun q => by rw [q] at hy; exact absurd hy (by decide)
  have m1 := Int.lt_tmod_of_pos x.toInt hy
  have m2 := Int.tmod_lt_of_pos x.toInt hy
  have ry := fb_rngL y
  refine lv_lload_n hx hb dJ9_floorMod_f86c9_0 rfl (lv_at hl 0 rfl) ?_
  refine lv_lload_n hx hb dJ9_floorMod_f86c9_1 rfl (lv_at hl 1 rfl) ?_
  refine lv_lrem hx hb dJ9_floorMod_f86c9_2 h0 ?_
  refine lv_topl (fun v2 e2 => ?_)
  have q2 : v2.toInt = x.toInt.tmod y.toInt := by rw [e2]; exact remL hy
  refine lv_lstore (lv' := [(4, .long v2), (0, .long x), (2, .long y)]) hx hb dJ9_floorMod_f86c9_3 hl (by decide) rfl (fun ls hl => ?_)
  refine lv_lload_n hx hb dJ9_floorMod_f86c9_5 rfl (lv_at hl 1 rfl) ?_
  refine lv_lload_n hx hb dJ9_floorMod_f86c9_6 rfl (lv_at hl 2 rfl) ?_
  refine lv_lxor hx hb dJ9_floorMod_f86c9_7 ?_
  refine lv_topl (fun v7 e7 => ?_)
  refine lv_lconst (v := lN 0) hx hb dJ9_floorMod_f86c9_8 (by decide) ?_
  refine W.lcmp hx hb dJ9_floorMod_f86c9_9 ?_
  refine lv_if_ge (tgt := 25) hx hb dJ9_floorMod_f86c9_10 (by decide) (fun c10 => ?_) (fun c10 => ?_)
  · have c10 := (lg_cmp_ge _ _).mp c10
    refine lv_lload hx hb dJ9_floorMod_f86c9_25 (lv_at hl 0 rfl) ?_
    exact eL (v := v2) hx hb hr hlocks (by rw [q2]; exact (fm_pos (Or.inl (by have := mt (xorL_neg (x := x) (y := y)).mpr (by rw [← e7]; exact fun q => absurd (leL.mp c10) (by have := ltL.mp q; exact Int.not_le.mpr this)); omega))).symm) dJ9_floorMod_f86c9_27
  · have c10 := fun q => c10 ((lg_cmp_ge _ _).mpr q)
    refine lv_lload hx hb dJ9_floorMod_f86c9_13 (lv_at hl 0 rfl) ?_
    refine lv_lconst (v := lN 0) hx hb dJ9_floorMod_f86c9_15 (by decide) ?_
    refine W.lcmp hx hb dJ9_floorMod_f86c9_16 ?_
    refine lv_if_eq (tgt := 25) hx hb dJ9_floorMod_f86c9_17 (by decide) (fun c17 => ?_) (fun c17 => ?_)
    · have c17 := (lg_cmp_eq _ _).mp c17
      refine lv_lload hx hb dJ9_floorMod_f86c9_25 (lv_at hl 0 rfl) ?_
      exact eL (v := v2) hx hb hr hlocks (by rw [q2]; exact (fm_pos (Or.inr (by rw [← q2, c17]; rfl))).symm) dJ9_floorMod_f86c9_27
    · have c17 := fun q => c17 ((lg_cmp_eq _ _).mpr q)
      refine lv_lload hx hb dJ9_floorMod_f86c9_20 (lv_at hl 0 rfl) ?_
      refine lv_lload_n hx hb dJ9_floorMod_f86c9_22 rfl (lv_at hl 2 rfl) ?_
      refine lv_ladd hx hb dJ9_floorMod_f86c9_23 ?_
      refine lv_topl (fun v23 e23 => ?_)
      have hn : x.toInt < 0 := by have := xorL_neg.mp (e7 ▸ (ltL.mpr (Int.not_le.mp (mt leL.mpr c10)))); omega
      have sg := tmod_np (Int.le_of_lt hn) hy
      exact eL (v := v23) hx hb hr hlocks (by rw [e23, fb_addL (by rw [q2]; omega) (by rw [q2]; omega), q2]; exact (fm_neg hy hn (fun q => c17 (eqL (by rw [q2, q]; rfl)))).symm) dJ9_floorMod_f86c9_24
set_option maxHeartbeats 4000000 in
set_option maxRecDepth 100000 in
theorem c_floorDivL (l : Launch) (K : EK) (x y : Int64) (hy : ¬ y = 0) : Met l yJ9_floorDiv_f86c9 (wq yJ9_floorDiv_f86c9 cJ9_floorDiv_f86c9 6 (some .long)) (rmL 1 0 0) (va_Pc [.long x, .long y] (PR K [])) (vp_Sl (fun r => r = flD x y)) 0 0 NF := by
  refine hdR (by decide +kernel) (Nat.le_of_ble_eq_true rfl) ?_
  intro pp ee s mm bl9 me9 cd hx hb hr hlocks hml hown hts hE hP ls hl
  have hown : s.vm.findClass RJ9 = some mm.cls := hown
  have hP : va_P K.1 vwCl [] s.heap := hP
  have hl : lv_has ls 6 [(0, .long x), (2, .long y)] := hl
  refine lv_lload_n hx hb dJ9_floorDiv_f86c9_0 rfl (lv_at hl 0 rfl) ?_
  refine lv_lload_n hx hb dJ9_floorDiv_f86c9_1 rfl (lv_at hl 1 rfl) ?_
  refine lv_ldiv hx hb dJ9_floorDiv_f86c9_2 hy ?_
  refine lv_topl (fun v2 e2 => ?_)
  refine lv_lstore (lv' := [(4, .long v2), (0, .long x), (2, .long y)]) hx hb dJ9_floorDiv_f86c9_3 hl (by decide) rfl (fun ls hl => ?_)
  refine lv_lload_n hx hb dJ9_floorDiv_f86c9_5 rfl (lv_at hl 1 rfl) ?_
  refine lv_lload_n hx hb dJ9_floorDiv_f86c9_6 rfl (lv_at hl 2 rfl) ?_
  refine lv_lxor hx hb dJ9_floorDiv_f86c9_7 ?_
  refine lv_topl (fun v7 e7 => ?_)
  refine lv_lconst (v := lN 0) hx hb dJ9_floorDiv_f86c9_8 (by decide) ?_
  refine W.lcmp hx hb dJ9_floorDiv_f86c9_9 ?_
  refine lv_if_ge (tgt := 27) hx hb dJ9_floorDiv_f86c9_10 (by decide) (fun c10 => ?_) (fun c10 => ?_)
  · have c10 := (lg_cmp_ge _ _).mp c10
    refine lv_lload hx hb dJ9_floorDiv_f86c9_27 (lv_at hl 0 rfl) ?_
    exact eL (v := v2) hx hb hr hlocks (by rw [e2]; exact (if_neg (fun q => absurd (ltL.mp q.1) (by rw [← e7]; exact Int.not_lt.mpr (leL.mp c10)))).symm) dJ9_floorDiv_f86c9_29
  · have c10 := fun q => c10 ((lg_cmp_ge _ _).mpr q)
    refine lv_lload hx hb dJ9_floorDiv_f86c9_13 (lv_at hl 0 rfl) ?_
    refine lv_lload_n hx hb dJ9_floorDiv_f86c9_15 rfl (lv_at hl 2 rfl) ?_
    refine lv_lmul hx hb dJ9_floorDiv_f86c9_16 ?_
    refine lv_topl (fun v16 e16 => ?_)
    refine lv_lload_n hx hb dJ9_floorDiv_f86c9_17 rfl (lv_at hl 1 rfl) ?_
    refine W.lcmp hx hb dJ9_floorDiv_f86c9_18 ?_
    refine lv_if_eq (tgt := 27) hx hb dJ9_floorDiv_f86c9_19 (by decide) (fun c19 => ?_) (fun c19 => ?_)
    · have c19 := (lg_cmp_eq _ _).mp c19
      refine lv_lload hx hb dJ9_floorDiv_f86c9_27 (lv_at hl 0 rfl) ?_
      exact eL (v := v2) hx hb hr hlocks (by rw [e2]; exact (if_neg (fun q => q.2 (by rw [← e2, ← e16]; exact c19))).symm) dJ9_floorDiv_f86c9_29
    · have c19 := fun q => c19 ((lg_cmp_eq _ _).mpr q)
      refine lv_lload hx hb dJ9_floorDiv_f86c9_22 (lv_at hl 0 rfl) ?_
      refine lv_lconst (v := lN 1) hx hb dJ9_floorDiv_f86c9_24 (by decide) ?_
      refine lv_lsub hx hb dJ9_floorDiv_f86c9_25 ?_
      refine lv_topl (fun v25 e25 => ?_)
      exact eL (v := v25) hx hb hr hlocks (by rw [e25, e2]; exact (if_pos ⟨by rw [← e7]; exact ltL.mpr (Int.not_le.mp (mt leL.mpr c10)), by rw [← e2, ← e16]; exact c19⟩).symm) dJ9_floorDiv_f86c9_26
set_option maxHeartbeats 4000000 in
set_option maxRecDepth 100000 in
theorem c_floorDivI (l : Launch) (K : EK) (x y : Int32) (hy : 0 < y.toInt) (hx2 : -2147483648 < x.toInt) : Met l yJ9_floorDiv_7cf53 (wq yJ9_floorDiv_7cf53 cJ9_floorDiv_7cf53 3 (some .int)) (rmL 1 0 0) (va_Pc [.int x, .int y] (PR K [])) (vp_Si (fun r => r.toInt = x.toInt / y.toInt)) 0 0 NF := by
  refine hdR (by decide +kernel) (Nat.le_of_ble_eq_true rfl) ?_
  intro pp ee s mm bl9 me9 cd hx hb hr hlocks hml hown hts hE hP ls hl
  have hown : s.vm.findClass RJ9 = some mm.cls := hown
  have hP : va_P K.1 vwCl [] s.heap := hP
  have hl : lv_has ls 3 [(0, .int x), (1, .int y)] := hl
  have h0 : ¬ y = 0 := fun q => by rw [q] at hy; exact absurd hy (by decide)
  have m1 := tdiv_rng (a := x.toInt) (b := y.toInt) (lo := -2147483647) (hi := 2147483647) hy (by omega) (by have := fb_rng x; omega) (by omega) (by omega)
  refine lv_iload_n hx hb dJ9_floorDiv_7cf53_0 rfl (lv_at hl 0 rfl) ?_
  refine lv_iload_n hx hb dJ9_floorDiv_7cf53_1 rfl (lv_at hl 1 rfl) ?_
  refine lv_idiv hx hb dJ9_floorDiv_7cf53_2 h0 ?_
  refine lv_topi (fun v2 e2 => ?_)
  have q2 : v2.toInt = x.toInt.tdiv y.toInt := by rw [e2]; exact divI hy
  refine lv_istore_n (lv' := [(2, .int v2), (0, .int x), (1, .int y)]) hx hb dJ9_floorDiv_7cf53_3 rfl hl (by decide) rfl (fun ls hl => ?_)
  refine lv_iload_n hx hb dJ9_floorDiv_7cf53_4 rfl (lv_at hl 1 rfl) ?_
  refine lv_iload_n hx hb dJ9_floorDiv_7cf53_5 rfl (lv_at hl 2 rfl) ?_
  refine lv_ixor hx hb dJ9_floorDiv_7cf53_6 ?_
  refine lv_topi (fun v6 e6 => ?_)
  refine lv_if_ge (tgt := 21) hx hb dJ9_floorDiv_7cf53_7 (by decide) (fun c7 => ?_) (fun c7 => ?_)
  · refine lv_iload_n hx hb dJ9_floorDiv_7cf53_21 rfl (lv_at hl 0 rfl) ?_
    exact eI (v := v2) hx hb hr hlocks (by rw [q2]; exact (fd_pos (Or.inl (by have := mt (xorI_neg (x := x) (Int.le_of_lt hy)).mpr (by rw [← e6]; exact fun q => absurd (leI.mp c7) (Int.not_le.mpr (ltI.mp q))); omega))).symm) dJ9_floorDiv_7cf53_22
  · refine lv_iload_n hx hb dJ9_floorDiv_7cf53_10 rfl (lv_at hl 0 rfl) ?_
    refine lv_iload_n hx hb dJ9_floorDiv_7cf53_11 rfl (lv_at hl 2 rfl) ?_
    refine lv_imul hx hb dJ9_floorDiv_7cf53_12 ?_
    refine lv_topi (fun v12 e12 => ?_)
    refine lv_iload_n hx hb dJ9_floorDiv_7cf53_13 rfl (lv_at hl 1 rfl) ?_
    refine lv_icmp_eq (tgt := 21) hx hb dJ9_floorDiv_7cf53_14 (by decide) (fun c14 => ?_) (fun c14 => ?_)
    · refine lv_iload_n hx hb dJ9_floorDiv_7cf53_21 rfl (lv_at hl 0 rfl) ?_
      exact eI (v := v2) hx hb hr hlocks (by rw [q2]; exact (fd_pos (Or.inr ((dvI_eq hy).mp (by rw [← e2, ← e12]; exact c14)))).symm) dJ9_floorDiv_7cf53_22
    · refine lv_iload_n hx hb dJ9_floorDiv_7cf53_17 rfl (lv_at hl 0 rfl) ?_
      refine lv_iconst (v := nI 1) hx hb dJ9_floorDiv_7cf53_18 (by decide) ?_
      refine lv_isub hx hb dJ9_floorDiv_7cf53_19 ?_
      refine lv_topi (fun v19 e19 => ?_)
      exact eI (v := v19) hx hb hr hlocks (by rw [e19, fb_subI (by rw [q2, nI_toInt (by decide)]; omega) (by rw [q2, nI_toInt (by decide)]; omega), q2, nI_toInt (by decide)]; exact (fd_neg hy (xorI_neg (Int.le_of_lt hy) |>.mp (e6 ▸ (ltI.mpr (Int.not_le.mp (mt leI.mpr c7))))) (fun q => c14 (by rw [e12, e2]; exact (dvI_eq hy).mpr q))).symm) dJ9_floorDiv_7cf53_20
set_option maxHeartbeats 4000000 in
set_option maxRecDepth 100000 in
theorem c_maxI (l : Launch) (K : EK) (x y : Int32) : Met l yJ9_max_7cf53 (wq yJ9_max_7cf53 cJ9_max_7cf53 2 (some .int)) (rmL 1 0 0) (va_Pc [.int x, .int y] (PR K [])) (vp_Si (fun r => r = if x < y then y else x)) 0 0 NF := by
  refine hdR (by decide +kernel) (Nat.le_of_ble_eq_true rfl) ?_
  intro pp ee s mm bl9 me9 cd hx hb hr hlocks hml hown hts hE hP ls hl
  have hown : s.vm.findClass RJ9 = some mm.cls := hown
  have hP : va_P K.1 vwCl [] s.heap := hP
  have hl : lv_has ls 2 [(0, .int x), (1, .int y)] := hl
  refine lv_iload_n hx hb dJ9_max_7cf53_0 rfl (lv_at hl 0 rfl) ?_
  refine lv_iload_n hx hb dJ9_max_7cf53_1 rfl (lv_at hl 1 rfl) ?_
  refine lv_icmp_lt (tgt := 9) hx hb dJ9_max_7cf53_2 (by decide) (fun c2 => ?_) (fun c2 => ?_)
  · refine lv_iload_n hx hb dJ9_max_7cf53_9 rfl (lv_at hl 1 rfl) ?_
    exact eI (v := y) hx hb hr hlocks (by first | exact (if_pos c2).symm | exact (if_neg c2).symm) dJ9_max_7cf53_10
  · refine lv_iload_n hx hb dJ9_max_7cf53_5 rfl (lv_at hl 0 rfl) ?_
    refine lv_goto (tgt := 10) hx hb dJ9_max_7cf53_6 (by decide) ?_
    exact eI (v := x) hx hb hr hlocks (by first | exact (if_pos c2).symm | exact (if_neg c2).symm) dJ9_max_7cf53_10
set_option maxHeartbeats 4000000 in
set_option maxRecDepth 100000 in
theorem c_minI (l : Launch) (K : EK) (x y : Int32) : Met l yJ9_min_7cf53 (wq yJ9_min_7cf53 cJ9_min_7cf53 2 (some .int)) (rmL 1 0 0) (va_Pc [.int x, .int y] (PR K [])) (vp_Si (fun r => r = if y < x then y else x)) 0 0 NF := by
  refine hdR (by decide +kernel) (Nat.le_of_ble_eq_true rfl) ?_
  intro pp ee s mm bl9 me9 cd hx hb hr hlocks hml hown hts hE hP ls hl
  have hown : s.vm.findClass RJ9 = some mm.cls := hown
  have hP : va_P K.1 vwCl [] s.heap := hP
  have hl : lv_has ls 2 [(0, .int x), (1, .int y)] := hl
  refine lv_iload_n hx hb dJ9_min_7cf53_0 rfl (lv_at hl 0 rfl) ?_
  refine lv_iload_n hx hb dJ9_min_7cf53_1 rfl (lv_at hl 1 rfl) ?_
  refine lv_icmp_gt (tgt := 9) hx hb dJ9_min_7cf53_2 (by decide) (fun c2 => ?_) (fun c2 => ?_)
  · refine lv_iload_n hx hb dJ9_min_7cf53_9 rfl (lv_at hl 1 rfl) ?_
    exact eI (v := y) hx hb hr hlocks (by first | exact (if_pos c2).symm | exact (if_neg c2).symm) dJ9_min_7cf53_10
  · refine lv_iload_n hx hb dJ9_min_7cf53_5 rfl (lv_at hl 0 rfl) ?_
    refine lv_goto (tgt := 10) hx hb dJ9_min_7cf53_6 (by decide) ?_
    exact eI (v := x) hx hb hr hlocks (by first | exact (if_pos c2).symm | exact (if_neg c2).symm) dJ9_min_7cf53_10
set_option maxHeartbeats 4000000 in
set_option maxRecDepth 100000 in
theorem c_maxL (l : Launch) (K : EK) (x y : Int64) : Met l yJ9_max_f86c9 (wq yJ9_max_f86c9 cJ9_max_f86c9 4 (some .long)) (rmL 1 0 0) (va_Pc [.long x, .long y] (PR K [])) (vp_Sl (fun r => r = if x < y then y else x)) 0 0 NF := by
  refine hdR (by decide +kernel) (Nat.le_of_ble_eq_true rfl) ?_
  intro pp ee s mm bl9 me9 cd hx hb hr hlocks hml hown hts hE hP ls hl
  have hown : s.vm.findClass RJ9 = some mm.cls := hown
  have hP : va_P K.1 vwCl [] s.heap := hP
  have hl : lv_has ls 4 [(0, .long x), (2, .long y)] := hl
  refine lv_lload_n hx hb dJ9_max_f86c9_0 rfl (lv_at hl 0 rfl) ?_
  refine lv_lload_n hx hb dJ9_max_f86c9_1 rfl (lv_at hl 1 rfl) ?_
  refine W.lcmp hx hb dJ9_max_f86c9_2 ?_
  refine lv_if_lt (tgt := 10) hx hb dJ9_max_f86c9_3 (by decide) (fun c3 => ?_) (fun c3 => ?_)
  · have c3 := (lg_cmp_lt _ _).mp c3
    refine lv_lload_n hx hb dJ9_max_f86c9_10 rfl (lv_at hl 1 rfl) ?_
    exact eL (v := y) hx hb hr hlocks (by first | exact (if_pos c3).symm | exact (if_neg c3).symm) dJ9_max_f86c9_11
  · have c3 := fun q => c3 ((lg_cmp_lt _ _).mpr q)
    refine lv_lload_n hx hb dJ9_max_f86c9_6 rfl (lv_at hl 0 rfl) ?_
    refine lv_goto (tgt := 11) hx hb dJ9_max_f86c9_7 (by decide) ?_
    exact eL (v := x) hx hb hr hlocks (by first | exact (if_pos c3).symm | exact (if_neg c3).symm) dJ9_max_f86c9_11
set_option maxHeartbeats 4000000 in
set_option maxRecDepth 100000 in
theorem c_absI (l : Launch) (K : EK) (x : Int32) : Met l yJ9_abs_0f7a4 (wq yJ9_abs_0f7a4 cJ9_abs_0f7a4 1 (some .int)) (rmL 1 0 0) (va_Pc [.int x] (PR K [])) (vp_Si (fun r => r = if 0 ≤ x then x else -x)) 0 0 NF := by
  refine hdR (by decide +kernel) (Nat.le_of_ble_eq_true rfl) ?_
  intro pp ee s mm bl9 me9 cd hx hb hr hlocks hml hown hts hE hP ls hl
  have hown : s.vm.findClass RJ9 = some mm.cls := hown
  have hP : va_P K.1 vwCl [] s.heap := hP
  have hl : lv_has ls 1 [(0, .int x)] := hl
  refine lv_iload_n hx hb dJ9_abs_0f7a4_0 rfl (lv_at hl 0 rfl) ?_
  refine lv_if_ge (tgt := 9) hx hb dJ9_abs_0f7a4_1 (by decide) (fun c1 => ?_) (fun c1 => ?_)
  · refine lv_iload_n hx hb dJ9_abs_0f7a4_9 rfl (lv_at hl 0 rfl) ?_
    exact eI (v := x) hx hb hr hlocks (by first | exact (if_pos c1).symm | (rw [e5]; exact (if_neg c1).symm)) dJ9_abs_0f7a4_10
  · refine lv_iload_n hx hb dJ9_abs_0f7a4_4 rfl (lv_at hl 0 rfl) ?_
    refine lv_ineg hx hb dJ9_abs_0f7a4_5 ?_
    refine lv_topi (fun v5 e5 => ?_)
    refine lv_goto (tgt := 10) hx hb dJ9_abs_0f7a4_6 (by decide) ?_
    exact eI (v := v5) hx hb hr hlocks (by first | exact (if_pos c1).symm | (rw [e5]; exact (if_neg c1).symm)) dJ9_abs_0f7a4_10
