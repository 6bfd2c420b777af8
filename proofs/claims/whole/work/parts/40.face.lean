/-! the face: what is checked, what is answered -/
def ix (p : Int32) : Nat := p.toInt.toNat
theorem ix_nI {i : Nat} (h : i < 2 ^ 31) : ix (nI i) = i := by unfold ix; rw [nI_toInt h]; rfl
theorem ixOf {p : Int32} {n : Nat} (h : 0 ≤ p.toInt ∧ p.toInt < n) (hn : n ≤ 1000000000) : ∃ i, i < n ∧ p = nI i := ⟨ix p, by unfold ix; omega, eqI (by rw [nI_toInt (by unfold ix; omega)]; unfold ix; omega)⟩
theorem ixLe {p : Int32} {n : Nat} (h : 0 ≤ p.toInt ∧ p.toInt ≤ n) (hn : n ≤ 1000000000) : ∃ i, i ≤ n ∧ p = nI i := ⟨ix p, by unfold ix; omega, eqI (by rw [nI_toInt (by unfold ix; omega)]; unfold ix; omega)⟩
theorem neT {x y : Int32} (h : ¬ x = y) : x.toInt ≠ y.toInt := fun q => h (eqI q)
set_option maxHeartbeats 4000000 in
set_option maxRecDepth 100000 in
theorem c_rWithin (l : Launch) (hl9 : l.stackTraces = false) (K : EK) (v lo hi : Int32) : vx_Met l yX3_requireWithin (wq yX3_requireWithin cX3_requireWithin 3 none) (rmL 6 1 6) (va_Pc [.int v, .int lo, .int hi] (PX K [])) (SV (lo.toInt ≤ v.toInt ∧ v.toInt ≤ hi.toInt)) (XX (fun E => E = xIA ∧ ¬ (lo.toInt ≤ v.toInt ∧ v.toInt ≤ hi.toInt))) 1 6 NF := by
  refine hdX (by decide) (Nat.le_of_ble_eq_true rfl) ?_
  intro pp ee s mm bl9 me9 cd hx hb hr hlocks hml hown hts htab hE hP A hA hZ ls hl
  have hown : s.vm.findClass RX3 = some mm.cls := hown
  have hP : va_P K.1 vwCl [] s.heap := hP
  have hl : lv_has ls 3 [(0, .int v), (1, .int lo), (2, .int hi)] := hl
  refine lv_iload_n hx hb dX3_requireWithin_0 rfl (lv_at hl 0 rfl) ?_
  refine lv_iload_n hx hb dX3_requireWithin_1 rfl (lv_at hl 1 rfl) ?_
  refine lv_icmp_lt (tgt := 10) hx hb dX3_requireWithin_2 (by decide) (fun c2 => ?_) (fun c2 => ?_)
  · exact thr_IAE (rest := []) hx hb hl9 hown hts hE hA hZ kk_X3_191 (List.mem_of_getElem? (i := 0) rfl : (193, "an argument is out of range") ∈ xcS) (hl.1.trans hml.symm) dX3_requireWithin_10 dX3_requireWithin_13 dX3_requireWithin_14 dX3_requireWithin_16 dX3_requireWithin_19 htab hlocks ⟨Nat.le_of_ble_eq_true rfl, Nat.le_of_ble_eq_true rfl, Nat.le_of_ble_eq_true rfl, Nat.le_of_ble_eq_true rfl⟩ ⟨Nat.le_of_ble_eq_true rfl, Nat.le_of_ble_eq_true rfl⟩ (⟨rfl, by first | (have := ltI.mp c2; omega) | (have := mt leI.mpr c7; omega)⟩)
  · refine lv_iload_n hx hb dX3_requireWithin_5 rfl (lv_at hl 0 rfl) ?_
    refine lv_iload_n hx hb dX3_requireWithin_6 rfl (lv_at hl 2 rfl) ?_
    refine lv_icmp_le (tgt := 20) hx hb dX3_requireWithin_7 (by decide) (fun c7 => ?_) (fun c7 => ?_)
    · refine W.widen (k := 1) (n := 6) (Nat.le_of_ble_eq_true rfl) (Nat.le_of_ble_eq_true rfl) ?_
      exact vx_ret (eV hx hb hr hlocks (by have h1 := mt ltI.mpr c2; have h2 := leI.mp c7; omega) dX3_requireWithin_20)
    · exact thr_IAE (rest := []) hx hb hl9 hown hts hE hA hZ kk_X3_191 (List.mem_of_getElem? (i := 0) rfl : (193, "an argument is out of range") ∈ xcS) (hl.1.trans hml.symm) dX3_requireWithin_10 dX3_requireWithin_13 dX3_requireWithin_14 dX3_requireWithin_16 dX3_requireWithin_19 htab hlocks ⟨Nat.le_of_ble_eq_true rfl, Nat.le_of_ble_eq_true rfl, Nat.le_of_ble_eq_true rfl, Nat.le_of_ble_eq_true rfl⟩ ⟨Nat.le_of_ble_eq_true rfl, Nat.le_of_ble_eq_true rfl⟩ (⟨rfl, by first | (have := ltI.mp c2; omega) | (have := mt leI.mpr c7; omega)⟩)
set_option maxHeartbeats 4000000 in
set_option maxRecDepth 100000 in
theorem c_rMethod (l : Launch) (hl9 : l.stackTraces = false) (K : EK) (v : Int32) : vx_Met l yX3_requireMethod (wq yX3_requireMethod cX3_requireMethod 1 none) (rmL 7 1 6) (va_Pc [.int v] (PX K [])) (SV (0 ≤ v.toInt ∧ v.toInt ≤ 2)) (XX (fun E => E = xIA ∧ ¬ (0 ≤ v.toInt ∧ v.toInt ≤ 2))) 1 6 NF := by
  refine hdX (by decide) (Nat.le_of_ble_eq_true rfl) ?_
  intro pp ee s mm bl9 me9 cd hx hb hr hlocks hml hown hts htab hE hP A hA hZ ls hl
  have hown : s.vm.findClass RX3 = some mm.cls := hown
  have hP : va_P K.1 vwCl [] s.heap := hP
  have hl : lv_has ls 1 [(0, .int v)] := hl
  refine lv_iload_n hx hb dX3_requireMethod_0 rfl (lv_at hl 0 rfl) ?_
  refine lv_iconst (v := nI 0) hx hb dX3_requireMethod_1 (by decide) ?_
  refine lv_iconst (v := nI 2) hx hb dX3_requireMethod_2 (by decide) ?_
  refine coV (ckS (As := [.int v, .int (nI 0), .int (nI 2)]) (rest := []) (c_rWithin l hl9 K v (nI 0) (nI 2)) ⟨hx, hb, hml, hown, hts⟩ (gS kl_X3_23 kt_X3_requireWithin kn_X3 kc_X3_requireWithin) (by show okN yX3_requireWithin 3; decide +kernel) ⟨⟨Nat.le_of_ble_eq_true rfl, Nat.le_of_ble_eq_true rfl⟩, ⟨rfl, rfl⟩, Nat.le_of_ble_eq_true rfl, Nat.le_of_ble_eq_true rfl⟩ hE hP hA hZ [] rfl hl.1 rfl (Nat.le_of_ble_eq_true rfl) dX3_requireMethod_3) htab hlocks ⟨Nat.le_of_ble_eq_true rfl, Nat.le_of_ble_eq_true rfl⟩ (fun E h => h) (fun e3 => ?_)
  exact vx_ret (eV hx hb hr hlocks (e3) dX3_requireMethod_6)
set_option maxHeartbeats 4000000 in
set_option maxRecDepth 100000 in
theorem c_rPair (l : Launch) (hl9 : l.stackTraces = false) (K : EK) (x y : Int32) : vx_Met l yX3_requirePair (wq yX3_requirePair cX3_requirePair 2 none) (rmL 6 1 6) (va_Pc [.int x, .int y] (PX K [])) (SV (x.toInt ≠ y.toInt)) (XX (fun E => E = xIA ∧ ¬ (x.toInt ≠ y.toInt))) 1 6 NF := by
  refine hdX (by decide) (Nat.le_of_ble_eq_true rfl) ?_
  intro pp ee s mm bl9 me9 cd hx hb hr hlocks hml hown hts htab hE hP A hA hZ ls hl
  have hown : s.vm.findClass RX3 = some mm.cls := hown
  have hP : va_P K.1 vwCl [] s.heap := hP
  have hl : lv_has ls 2 [(0, .int x), (1, .int y)] := hl
  refine lv_iload_n hx hb dX3_requirePair_0 rfl (lv_at hl 0 rfl) ?_
  refine lv_iload_n hx hb dX3_requirePair_1 rfl (lv_at hl 1 rfl) ?_
  refine lv_icmp_ne (tgt := 15) hx hb dX3_requirePair_2 (by decide) (fun c2 => ?_) (fun c2 => ?_)
  · refine W.widen (k := 1) (n := 6) (Nat.le_of_ble_eq_true rfl) (Nat.le_of_ble_eq_true rfl) ?_
    exact vx_ret (eV hx hb hr hlocks (neT c2) dX3_requirePair_15)
  · exact thr_IAE (rest := []) hx hb hl9 hown hts hE hA hZ kk_X3_191 (List.mem_of_getElem? (i := 3) rfl : (196, "the nodes are not all different") ∈ xcS) (hl.1.trans hml.symm) dX3_requirePair_5 dX3_requirePair_8 dX3_requirePair_9 dX3_requirePair_11 dX3_requirePair_14 htab hlocks ⟨Nat.le_of_ble_eq_true rfl, Nat.le_of_ble_eq_true rfl, Nat.le_of_ble_eq_true rfl, Nat.le_of_ble_eq_true rfl⟩ ⟨Nat.le_of_ble_eq_true rfl, Nat.le_of_ble_eq_true rfl⟩ (⟨rfl, by rw [c2]; exact fun q => q rfl⟩)
set_option maxHeartbeats 4000000 in
set_option maxRecDepth 100000 in
theorem c_rFour (l : Launch) (hl9 : l.stackTraces = false) (K : EK) (n i j k : Int32) : vx_Met l yX3_requireFourNodes (wq yX3_requireFourNodes cX3_requireFourNodes 4 none) (rmL 7 6 36) (va_Pc [.int n, .int i, .int j, .int k] (PX K [])) (SV (n.toInt ≠ i.toInt ∧ n.toInt ≠ j.toInt ∧ n.toInt ≠ k.toInt ∧ i.toInt ≠ j.toInt ∧ i.toInt ≠ k.toInt ∧ j.toInt ≠ k.toInt)) (XX (fun E => E = xIA ∧ ¬ (n.toInt ≠ i.toInt ∧ n.toInt ≠ j.toInt ∧ n.toInt ≠ k.toInt ∧ i.toInt ≠ j.toInt ∧ i.toInt ≠ k.toInt ∧ j.toInt ≠ k.toInt))) 6 36 NF := by
  refine hdX (by decide) (Nat.le_of_ble_eq_true rfl) ?_
  intro pp ee s mm bl9 me9 cd hx hb hr hlocks hml hown hts htab hE hP A hA hZ ls hl
  have hown : s.vm.findClass RX3 = some mm.cls := hown
  have hP : va_P K.1 vwCl [] s.heap := hP
  have hl : lv_has ls 4 [(0, .int n), (1, .int i), (2, .int j), (3, .int k)] := hl
  refine lv_iload_n hx hb dX3_requireFourNodes_0 rfl (lv_at hl 0 rfl) ?_
  refine lv_iload_n hx hb dX3_requireFourNodes_1 rfl (lv_at hl 1 rfl) ?_
  refine coV (ckS (As := [.int n, .int i]) (rest := []) (c_rPair l hl9 K n i) ⟨hx, hb, hml, hown, hts⟩ (gS kl_X3_79 kt_X3_requirePair kn_X3 kc_X3_requirePair) (by show okN yX3_requirePair 2; decide +kernel) ⟨⟨Nat.le_of_ble_eq_true rfl, Nat.le_of_ble_eq_true rfl⟩, ⟨rfl, rfl⟩, Nat.le_of_ble_eq_true rfl, Nat.le_of_ble_eq_true rfl⟩ hE hP hA hZ [] rfl hl.1 rfl (Nat.le_of_ble_eq_true rfl) dX3_requireFourNodes_2) htab hlocks ⟨Nat.le_of_ble_eq_true rfl, Nat.le_of_ble_eq_true rfl⟩ (fun E h => by obtain ⟨h1, h2⟩ := h; exact ⟨h1, by omega⟩) (fun e2 => ?_)
  refine lv_iload_n hx hb dX3_requireFourNodes_5 rfl (lv_at hl 0 rfl) ?_
  refine lv_iload_n hx hb dX3_requireFourNodes_6 rfl (lv_at hl 2 rfl) ?_
  refine coV (ckS (As := [.int n, .int j]) (rest := []) (c_rPair l hl9 K n j) ⟨hx, hb, hml, hown, hts⟩ (gS kl_X3_79 kt_X3_requirePair kn_X3 kc_X3_requirePair) (by show okN yX3_requirePair 2; decide +kernel) ⟨⟨Nat.le_of_ble_eq_true rfl, Nat.le_of_ble_eq_true rfl⟩, ⟨rfl, rfl⟩, Nat.le_of_ble_eq_true rfl, Nat.le_of_ble_eq_true rfl⟩ hE hP hA hZ [] rfl hl.1 rfl (Nat.le_of_ble_eq_true rfl) dX3_requireFourNodes_7) htab hlocks ⟨Nat.le_of_ble_eq_true rfl, Nat.le_of_ble_eq_true rfl⟩ (fun E h => by obtain ⟨h1, h2⟩ := h; exact ⟨h1, by omega⟩) (fun e7 => ?_)
  refine lv_iload_n hx hb dX3_requireFourNodes_10 rfl (lv_at hl 0 rfl) ?_
  refine lv_iload_n hx hb dX3_requireFourNodes_11 rfl (lv_at hl 3 rfl) ?_
  refine coV (ckS (As := [.int n, .int k]) (rest := []) (c_rPair l hl9 K n k) ⟨hx, hb, hml, hown, hts⟩ (gS kl_X3_79 kt_X3_requirePair kn_X3 kc_X3_requirePair) (by show okN yX3_requirePair 2; decide +kernel) ⟨⟨Nat.le_of_ble_eq_true rfl, Nat.le_of_ble_eq_true rfl⟩, ⟨rfl, rfl⟩, Nat.le_of_ble_eq_true rfl, Nat.le_of_ble_eq_true rfl⟩ hE hP hA hZ [] rfl hl.1 rfl (Nat.le_of_ble_eq_true rfl) dX3_requireFourNodes_12) htab hlocks ⟨Nat.le_of_ble_eq_true rfl, Nat.le_of_ble_eq_true rfl⟩ (fun E h => by obtain ⟨h1, h2⟩ := h; exact ⟨h1, by omega⟩) (fun e12 => ?_)
  refine lv_iload_n hx hb dX3_requireFourNodes_15 rfl (lv_at hl 1 rfl) ?_
  refine lv_iload_n hx hb dX3_requireFourNodes_16 rfl (lv_at hl 2 rfl) ?_
  refine coV (ckS (As := [.int i, .int j]) (rest := []) (c_rPair l hl9 K i j) ⟨hx, hb, hml, hown, hts⟩ (gS kl_X3_79 kt_X3_requirePair kn_X3 kc_X3_requirePair) (by show okN yX3_requirePair 2; decide +kernel) ⟨⟨Nat.le_of_ble_eq_true rfl, Nat.le_of_ble_eq_true rfl⟩, ⟨rfl, rfl⟩, Nat.le_of_ble_eq_true rfl, Nat.le_of_ble_eq_true rfl⟩ hE hP hA hZ [] rfl hl.1 rfl (Nat.le_of_ble_eq_true rfl) dX3_requireFourNodes_17) htab hlocks ⟨Nat.le_of_ble_eq_true rfl, Nat.le_of_ble_eq_true rfl⟩ (fun E h => by obtain ⟨h1, h2⟩ := h; exact ⟨h1, by omega⟩) (fun e17 => ?_)
  refine lv_iload_n hx hb dX3_requireFourNodes_20 rfl (lv_at hl 1 rfl) ?_
  refine lv_iload_n hx hb dX3_requireFourNodes_21 rfl (lv_at hl 3 rfl) ?_
  refine coV (ckS (As := [.int i, .int k]) (rest := []) (c_rPair l hl9 K i k) ⟨hx, hb, hml, hown, hts⟩ (gS kl_X3_79 kt_X3_requirePair kn_X3 kc_X3_requirePair) (by show okN yX3_requirePair 2; decide +kernel) ⟨⟨Nat.le_of_ble_eq_true rfl, Nat.le_of_ble_eq_true rfl⟩, ⟨rfl, rfl⟩, Nat.le_of_ble_eq_true rfl, Nat.le_of_ble_eq_true rfl⟩ hE hP hA hZ [] rfl hl.1 rfl (Nat.le_of_ble_eq_true rfl) dX3_requireFourNodes_22) htab hlocks ⟨Nat.le_of_ble_eq_true rfl, Nat.le_of_ble_eq_true rfl⟩ (fun E h => by obtain ⟨h1, h2⟩ := h; exact ⟨h1, by omega⟩) (fun e22 => ?_)
  refine lv_iload_n hx hb dX3_requireFourNodes_25 rfl (lv_at hl 2 rfl) ?_
  refine lv_iload_n hx hb dX3_requireFourNodes_26 rfl (lv_at hl 3 rfl) ?_
  refine coV (ckS (As := [.int j, .int k]) (rest := []) (c_rPair l hl9 K j k) ⟨hx, hb, hml, hown, hts⟩ (gS kl_X3_79 kt_X3_requirePair kn_X3 kc_X3_requirePair) (by show okN yX3_requirePair 2; decide +kernel) ⟨⟨Nat.le_of_ble_eq_true rfl, Nat.le_of_ble_eq_true rfl⟩, ⟨rfl, rfl⟩, Nat.le_of_ble_eq_true rfl, Nat.le_of_ble_eq_true rfl⟩ hE hP hA hZ [] rfl hl.1 rfl (Nat.le_of_ble_eq_true rfl) dX3_requireFourNodes_27) htab hlocks ⟨Nat.le_of_ble_eq_true rfl, Nat.le_of_ble_eq_true rfl⟩ (fun E h => by obtain ⟨h1, h2⟩ := h; exact ⟨h1, by omega⟩) (fun e27 => ?_)
  exact vx_ret (eV hx hb hr hlocks (⟨e2, e7, e12, e17, e22, e27⟩) dX3_requireFourNodes_30)
set_option maxHeartbeats 4000000 in
set_option maxRecDepth 100000 in
theorem c_rNode (l : Launch) (hl9 : l.stackTraces = false) (K : EK) (a : Nat → Nat) (t : Int64) (kn : Nat) (fn : Nat → Int32) (kr : Nat) (fr : Nat → Int32) (kp : Nat) (fp : Nat → Int32) (v : Int32) (h9 : kn ≤ 40) : vx_Met l yX3_requireNode (wq yX3_requireNode cX3_requireNode 2 none) (rmL 6 1 6) (va_Pc [.ref (a 0), .int v] (PX K [(a 0, .inr (5, [.ref (a 1), .ref (a 8)])), (a 1, .inr (3, [.long t, .ref (a 2), .ref (a 3), .ref (a 4)])), (a 2, .inr (4, [.ref (a 5), .int (nI 6), .int (nI kn)])), (a 3, .inr (4, [.ref (a 6), .int (nI 8), .int (nI kr)])), (a 4, .inr (4, [.ref (a 7), .int (nI 5), .int (nI kp)])), (a 5, .inl (K.2.1, 36, .inl (fn))), (a 6, .inl (K.2.1, 320, .inl (fr))), (a 7, .inl (K.2.1, 100, .inl (fp)))])) (SV (0 ≤ v.toInt ∧ v.toInt < kn)) (XX (fun E => E = xIO ∧ ¬ (0 ≤ v.toInt ∧ v.toInt < kn))) 1 6 NF := by
  refine hdX (by decide) (Nat.le_of_ble_eq_true rfl) ?_
  intro pp ee s mm bl9 me9 cd hx hb hr hlocks hml hown hts htab hE hP A hA hZ ls hl
  have hown : s.vm.findClass RX3 = some mm.cls := hown
  have hP : va_P K.1 vwCl [(a 0, .inr (5, [.ref (a 1), .ref (a 8)])), (a 1, .inr (3, [.long t, .ref (a 2), .ref (a 3), .ref (a 4)])), (a 2, .inr (4, [.ref (a 5), .int (nI 6), .int (nI kn)])), (a 3, .inr (4, [.ref (a 6), .int (nI 8), .int (nI kr)])), (a 4, .inr (4, [.ref (a 7), .int (nI 5), .int (nI kp)])), (a 5, .inl (K.2.1, 36, .inl (fn))), (a 6, .inl (K.2.1, 320, .inl (fr))), (a 7, .inl (K.2.1, 100, .inl (fp)))] s.heap := hP
  have hl : lv_has ls 2 [(0, .ref (a 0)), (1, .int v)] := hl
  refine lv_iload_n hx hb dX3_requireNode_0 rfl (lv_at hl 1 rfl) ?_
  refine lv_if_lt (tgt := 18) hx hb dX3_requireNode_1 (by decide) (fun c1 => ?_) (fun c1 => ?_)
  · exact thr_IOE (rest := []) hx hb hl9 hown hts hE hA hZ kk_X3_149 (List.mem_of_getElem? (i := 2) rfl : (198, "no such node") ∈ xcS) (hl.1.trans hml.symm) dX3_requireNode_18 dX3_requireNode_21 dX3_requireNode_22 dX3_requireNode_24 dX3_requireNode_27 htab hlocks ⟨Nat.le_of_ble_eq_true rfl, Nat.le_of_ble_eq_true rfl, Nat.le_of_ble_eq_true rfl, Nat.le_of_ble_eq_true rfl⟩ ⟨Nat.le_of_ble_eq_true rfl, Nat.le_of_ble_eq_true rfl⟩ (⟨rfl, by first | (have := ltI.mp c1; rw [Int32.toInt_zero] at this; omega) | (have := mt ltI.mpr c15; rw [nI_toInt (by omega)] at this; omega)⟩)
  · refine lv_iload_n hx hb dX3_requireNode_4 rfl (lv_at hl 1 rfl) ?_
    refine lv_aload_n hx hb dX3_requireNode_5 rfl (lv_at hl 0 rfl) ?_
    refine va_get (D := K.1) (ci := 5) (v := .ref (a 1)) (C := RX3) (T := TX3) (N := 2) hx hb hts inX3 hown hE.1 hP 0 rfl rfl 0 (by decide) (hts _ kf_X3_10) (fun _ h9 => h9) rfl dX3_requireNode_6 ?_
    refine va_getN (D := K.1) (ci := 3) (v := .ref (a 2)) (C := RX1) (T := TX1) (N := 4) hx hb hts inX1 hown hE.1 hP 1 rfl rfl 1 (by decide) (va_Nw.use rfl (hE.2.1 _ (List.mem_of_getElem? (i := 3) rfl))) (fun _ h9 => h9) rfl dX3_requireNode_9 ?_
    refine va_getN (D := K.1) (ci := 4) (v := .int (nI kn)) (C := RX2) (T := TX2) (N := 3) hx hb hts inX2 hown hE.1 hP 2 rfl rfl 2 (by decide) (va_Nw.use rfl (hE.2.1 _ (List.mem_of_getElem? (i := 0) rfl))) (fun _ h9 => h9) rfl dX3_requireNode_12 ?_
    refine lv_icmp_lt (tgt := 28) hx hb dX3_requireNode_15 (by decide) (fun c15 => ?_) (fun c15 => ?_)
    · refine W.widen (k := 1) (n := 6) (Nat.le_of_ble_eq_true rfl) (Nat.le_of_ble_eq_true rfl) ?_
      exact vx_ret (eV hx hb hr hlocks (by have h1 := mt ltI.mpr c1; have h2 := ltI.mp c15; rw [Int32.toInt_zero] at h1; rw [nI_toInt (by omega)] at h2; omega) dX3_requireNode_28)
    · exact thr_IOE (rest := []) hx hb hl9 hown hts hE hA hZ kk_X3_149 (List.mem_of_getElem? (i := 2) rfl : (198, "no such node") ∈ xcS) (hl.1.trans hml.symm) dX3_requireNode_18 dX3_requireNode_21 dX3_requireNode_22 dX3_requireNode_24 dX3_requireNode_27 htab hlocks ⟨Nat.le_of_ble_eq_true rfl, Nat.le_of_ble_eq_true rfl, Nat.le_of_ble_eq_true rfl, Nat.le_of_ble_eq_true rfl⟩ ⟨Nat.le_of_ble_eq_true rfl, Nat.le_of_ble_eq_true rfl⟩ (⟨rfl, by first | (have := ltI.mp c1; rw [Int32.toInt_zero] at this; omega) | (have := mt ltI.mpr c15; rw [nI_toInt (by omega)] at this; omega)⟩)
set_option maxHeartbeats 4000000 in
set_option maxRecDepth 100000 in
theorem c_rExch (l : Launch) (hl9 : l.stackTraces = false) (K : EK) (a : Nat → Nat) (t : Int64) (kn : Nat) (fn : Nat → Int32) (kr : Nat) (fr : Nat → Int32) (kp : Nat) (fp : Nat → Int32) (v : Int32) (h9 : kr ≤ 40) : vx_Met l yX3_requireExchange (wq yX3_requireExchange cX3_requireExchange 2 none) (rmL 6 1 6) (va_Pc [.ref (a 0), .int v] (PX K [(a 0, .inr (5, [.ref (a 1), .ref (a 8)])), (a 1, .inr (3, [.long t, .ref (a 2), .ref (a 3), .ref (a 4)])), (a 2, .inr (4, [.ref (a 5), .int (nI 6), .int (nI kn)])), (a 3, .inr (4, [.ref (a 6), .int (nI 8), .int (nI kr)])), (a 4, .inr (4, [.ref (a 7), .int (nI 5), .int (nI kp)])), (a 5, .inl (K.2.1, 36, .inl (fn))), (a 6, .inl (K.2.1, 320, .inl (fr))), (a 7, .inl (K.2.1, 100, .inl (fp)))])) (SV (0 ≤ v.toInt ∧ v.toInt < kr)) (XX (fun E => E = xIO ∧ ¬ (0 ≤ v.toInt ∧ v.toInt < kr))) 1 6 NF := by
  refine hdX (by decide) (Nat.le_of_ble_eq_true rfl) ?_
  intro pp ee s mm bl9 me9 cd hx hb hr hlocks hml hown hts htab hE hP A hA hZ ls hl
  have hown : s.vm.findClass RX3 = some mm.cls := hown
  have hP : va_P K.1 vwCl [(a 0, .inr (5, [.ref (a 1), .ref (a 8)])), (a 1, .inr (3, [.long t, .ref (a 2), .ref (a 3), .ref (a 4)])), (a 2, .inr (4, [.ref (a 5), .int (nI 6), .int (nI kn)])), (a 3, .inr (4, [.ref (a 6), .int (nI 8), .int (nI kr)])), (a 4, .inr (4, [.ref (a 7), .int (nI 5), .int (nI kp)])), (a 5, .inl (K.2.1, 36, .inl (fn))), (a 6, .inl (K.2.1, 320, .inl (fr))), (a 7, .inl (K.2.1, 100, .inl (fp)))] s.heap := hP
  have hl : lv_has ls 2 [(0, .ref (a 0)), (1, .int v)] := hl
  refine lv_iload_n hx hb dX3_requireExchange_0 rfl (lv_at hl 1 rfl) ?_
  refine lv_if_lt (tgt := 18) hx hb dX3_requireExchange_1 (by decide) (fun c1 => ?_) (fun c1 => ?_)
  · exact thr_IOE (rest := []) hx hb hl9 hown hts hE hA hZ kk_X3_149 (List.mem_of_getElem? (i := 6) rfl : (200, "no such exchange") ∈ xcS) (hl.1.trans hml.symm) dX3_requireExchange_18 dX3_requireExchange_21 dX3_requireExchange_22 dX3_requireExchange_24 dX3_requireExchange_27 htab hlocks ⟨Nat.le_of_ble_eq_true rfl, Nat.le_of_ble_eq_true rfl, Nat.le_of_ble_eq_true rfl, Nat.le_of_ble_eq_true rfl⟩ ⟨Nat.le_of_ble_eq_true rfl, Nat.le_of_ble_eq_true rfl⟩ (⟨rfl, by first | (have := ltI.mp c1; rw [Int32.toInt_zero] at this; omega) | (have := mt ltI.mpr c15; rw [nI_toInt (by omega)] at this; omega)⟩)
  · refine lv_iload_n hx hb dX3_requireExchange_4 rfl (lv_at hl 1 rfl) ?_
    refine lv_aload_n hx hb dX3_requireExchange_5 rfl (lv_at hl 0 rfl) ?_
    refine va_get (D := K.1) (ci := 5) (v := .ref (a 1)) (C := RX3) (T := TX3) (N := 2) hx hb hts inX3 hown hE.1 hP 0 rfl rfl 0 (by decide) (hts _ kf_X3_10) (fun _ h9 => h9) rfl dX3_requireExchange_6 ?_
    refine va_getN (D := K.1) (ci := 3) (v := .ref (a 3)) (C := RX1) (T := TX1) (N := 4) hx hb hts inX1 hown hE.1 hP 1 rfl rfl 2 (by decide) (va_Nw.use rfl (hE.2.1 _ (List.mem_of_getElem? (i := 4) rfl))) (fun _ h9 => h9) rfl dX3_requireExchange_9 ?_
    refine va_getN (D := K.1) (ci := 4) (v := .int (nI kr)) (C := RX2) (T := TX2) (N := 3) hx hb hts inX2 hown hE.1 hP 3 rfl rfl 2 (by decide) (va_Nw.use rfl (hE.2.1 _ (List.mem_of_getElem? (i := 0) rfl))) (fun _ h9 => h9) rfl dX3_requireExchange_12 ?_
    refine lv_icmp_lt (tgt := 28) hx hb dX3_requireExchange_15 (by decide) (fun c15 => ?_) (fun c15 => ?_)
    · refine W.widen (k := 1) (n := 6) (Nat.le_of_ble_eq_true rfl) (Nat.le_of_ble_eq_true rfl) ?_
      exact vx_ret (eV hx hb hr hlocks (by have h1 := mt ltI.mpr c1; have h2 := ltI.mp c15; rw [Int32.toInt_zero] at h1; rw [nI_toInt (by omega)] at h2; omega) dX3_requireExchange_28)
    · exact thr_IOE (rest := []) hx hb hl9 hown hts hE hA hZ kk_X3_149 (List.mem_of_getElem? (i := 6) rfl : (200, "no such exchange") ∈ xcS) (hl.1.trans hml.symm) dX3_requireExchange_18 dX3_requireExchange_21 dX3_requireExchange_22 dX3_requireExchange_24 dX3_requireExchange_27 htab hlocks ⟨Nat.le_of_ble_eq_true rfl, Nat.le_of_ble_eq_true rfl, Nat.le_of_ble_eq_true rfl, Nat.le_of_ble_eq_true rfl⟩ ⟨Nat.le_of_ble_eq_true rfl, Nat.le_of_ble_eq_true rfl⟩ (⟨rfl, by first | (have := ltI.mp c1; rw [Int32.toInt_zero] at this; omega) | (have := mt ltI.mpr c15; rw [nI_toInt (by omega)] at this; omega)⟩)
set_option maxHeartbeats 4000000 in
set_option maxRecDepth 100000 in
theorem c_rLatest (l : Launch) (hl9 : l.stackTraces = false) (K : EK) (a : Nat → Nat) (t : Int64) (kn : Nat) (fn : Nat → Int32) (kr : Nat) (fr : Nat → Int32) (kp : Nat) (fp : Nat → Int32) (i j : Nat) (hi : i < 6) (hj : j < 6) (hSI : SI (t, (kn, fn), (kr, fr), (kp, fp))) : vx_Met l yX3_requireLatest (wq yX3_requireLatest cX3_requireLatest 4 (some .int)) (rmL 6 1 6) (va_Pc [.ref (a 0), .int (nI i), .int (nI j)] (PX K [(a 0, .inr (5, [.ref (a 1), .ref (a 8)])), (a 1, .inr (3, [.long t, .ref (a 2), .ref (a 3), .ref (a 4)])), (a 2, .inr (4, [.ref (a 5), .int (nI 6), .int (nI kn)])), (a 3, .inr (4, [.ref (a 6), .int (nI 8), .int (nI kr)])), (a 4, .inr (4, [.ref (a 7), .int (nI 5), .int (nI kp)])), (a 5, .inl (K.2.1, 36, .inl (fn))), (a 6, .inl (K.2.1, 320, .inl (fr))), (a 7, .inl (K.2.1, 100, .inl (fp)))])) (vp_Si (fun r => ∃ e, r = nI e ∧ isLat fr i j kr e)) (XX (fun E => E = xIS ∧ ¬ ¬ noLat fr i j kr)) 1 6 NF := by
  refine hdX (by decide) (Nat.le_of_ble_eq_true rfl) ?_
  intro pp ee s mm bl9 me9 cd hx hb hr hlocks hml hown hts htab hE hP A hA hZ ls hl
  have hown : s.vm.findClass RX3 = some mm.cls := hown
  have hP : va_P K.1 vwCl [(a 0, .inr (5, [.ref (a 1), .ref (a 8)])), (a 1, .inr (3, [.long t, .ref (a 2), .ref (a 3), .ref (a 4)])), (a 2, .inr (4, [.ref (a 5), .int (nI 6), .int (nI kn)])), (a 3, .inr (4, [.ref (a 6), .int (nI 8), .int (nI kr)])), (a 4, .inr (4, [.ref (a 7), .int (nI 5), .int (nI kp)])), (a 5, .inl (K.2.1, 36, .inl (fn))), (a 6, .inl (K.2.1, 320, .inl (fr))), (a 7, .inl (K.2.1, 100, .inl (fp)))] s.heap := hP
  have hl : lv_has ls 4 [(0, .ref (a 0)), (1, .int (nI i)), (2, .int (nI j))] := hl
  have s1 : kn ≤ 6 := hSI.1
  have s2 : kr ≤ 40 := hSI.2.1
  have s3 : kp ≤ 20 := hSI.2.2.1
  have s4 : 0 ≤ t.toInt ∧ t.toInt ≤ 900000000 + 1000000 * (kr : Int) := hSI.2.2.2.1
  have hn : ∀ i, i < kn → nOk fn i := hSI.2.2.2.2.1
  have hrs : ∀ e, e < kr → rOk kn fr e := hSI.2.2.2.2.2.1
  have hps : ∀ k, k < kp → pOk kn fp k := hSI.2.2.2.2.2.2.1
  refine lv_aload_n hx hb dX3_requireLatest_0 rfl (lv_at hl 0 rfl) ?_
  refine va_get (D := K.1) (ci := 5) (v := .ref (a 1)) (C := RX3) (T := TX3) (N := 2) hx hb hts inX3 hown hE.1 hP 0 rfl rfl 0 (by decide) (hts _ kf_X3_10) (fun _ h9 => h9) rfl dX3_requireLatest_1 ?_
  refine lv_iload_n hx hb dX3_requireLatest_4 rfl (lv_at hl 1 rfl) ?_
  refine lv_iload_n hx hb dX3_requireLatest_5 rfl (lv_at hl 2 rfl) ?_
  refine goI (rdV (As := [.int (nI i), .int (nI j)]) (rest := []) (c_latestBetween l K (fun k => a (1 + k)) t kn fn kr fr kp fp i j (by omega) (by omega) (by omega) (by omega) hrs) ⟨hx, hb, hml, hown, hts⟩ (gV kl_X3_202 ki_X1_latestBetween ks_X1_latestBetween kn_X1 kc_X1_latestBetween) (by show okN yX1_latestBetween 2; decide +kernel) ⟨⟨Nat.le_of_ble_eq_true rfl, Nat.le_of_ble_eq_true rfl⟩, rfl, rfl⟩ hE hP [1, 2, 3, 4, 5, 6, 7] rfl ⟨0, 3, _, _, rfl, rfl, rfl⟩ hl.1 rfl (Nat.le_of_ble_eq_true rfl) dX3_requireLatest_6 ⟨Nat.le_of_ble_eq_true rfl, Nat.le_of_ble_eq_true rfl⟩) (fun v6 e6 => ?_)
  refine lv_istore_n (lv' := [(3, .int v6), (0, .ref (a 0)), (1, .int (nI i)), (2, .int (nI j))]) hx hb dX3_requireLatest_9 rfl hl (by decide) rfl (fun ls hl => ?_)
  refine lv_iload_n hx hb dX3_requireLatest_10 rfl (lv_at hl 0 rfl) ?_
  refine lv_iconst (v := -1) hx hb dX3_requireLatest_11 (by decide) ?_
  refine lv_icmp_ne (tgt := 25) hx hb dX3_requireLatest_12 (by decide) (fun c12 => ?_) (fun c12 => ?_)
  · refine lv_iload_n hx hb dX3_requireLatest_25 rfl (lv_at hl 0 rfl) ?_
    refine W.widen (k := 1) (n := 6) (Nat.le_of_ble_eq_true rfl) (Nat.le_of_ble_eq_true rfl) ?_
    exact vx_ret (eI (v := v6) hx hb hr hlocks (e6.resolve_left (fun g => c12 g.1)) dX3_requireLatest_26)
  · have hlat : noLat fr i j kr := by
      rcases e6 with g | ⟨e9, g, g2⟩
      · exact g.2
      · have g3 := g2.1
        have g4 := congrArg Int32.toInt (c12.symm.trans g)
        rw [nI_toInt (by omega)] at g4
        have g5 : (-1 : Int32).toInt = -1 := by decide
        omega
    exact thr_ISE (rest := []) hx hb hl9 hown hts hE hA hZ kk_X3_38 (List.mem_of_getElem? (i := 7) rfl : (205, "no exchange between these nodes") ∈ xcS) (hl.1.trans hml.symm) dX3_requireLatest_15 dX3_requireLatest_18 dX3_requireLatest_19 dX3_requireLatest_21 dX3_requireLatest_24 htab hlocks ⟨Nat.le_of_ble_eq_true rfl, Nat.le_of_ble_eq_true rfl, Nat.le_of_ble_eq_true rfl, Nat.le_of_ble_eq_true rfl⟩ ⟨Nat.le_of_ble_eq_true rfl, Nat.le_of_ble_eq_true rfl⟩ (⟨rfl, fun q => q hlat⟩)
set_option maxHeartbeats 4000000 in
set_option maxRecDepth 100000 in
theorem f_assumed (l : Launch) (hl9 : l.stackTraces = false) (K : EK) (a : Nat → Nat) (t : Int64) (kn : Nat) (fn : Nat → Int32) (kr : Nat) (fr : Nat → Int32) (kp : Nat) (fp : Nat → Int32) (p0 : Int32) (hSI : SI (t, (kn, fn), (kr, fr), (kp, fp))) : vx_Met l yX3_assumed (wq yX3_assumed cX3_assumed 2 (some .int)) (rmL 9 1 6) (va_Pc [.ref (a 0), .int p0] (PX K [(a 0, .inr (5, [.ref (a 1), .ref (a 8)])), (a 1, .inr (3, [.long t, .ref (a 2), .ref (a 3), .ref (a 4)])), (a 2, .inr (4, [.ref (a 5), .int (nI 6), .int (nI kn)])), (a 3, .inr (4, [.ref (a 6), .int (nI 8), .int (nI kr)])), (a 4, .inr (4, [.ref (a 7), .int (nI 5), .int (nI kp)])), (a 5, .inl (K.2.1, 36, .inl (fn))), (a 6, .inl (K.2.1, 320, .inl (fr))), (a 7, .inl (K.2.1, 100, .inl (fp)))])) (vp_Si (fun r => (0 ≤ p0.toInt ∧ p0.toInt < kn) ∧ (r = fn (ix p0 * 6 + 5)))) (XX (fun E => (E = xIO ∧ ¬ (0 ≤ p0.toInt ∧ p0.toInt < kn)))) 1 6 NF := by
  refine hdX (by decide) (Nat.le_of_ble_eq_true rfl) ?_
  intro pp ee s mm bl9 me9 cd hx hb hr hlocks hml hown hts htab hE hP A hA hZ ls hl
  have hown : s.vm.findClass RX3 = some mm.cls := hown
  have hP : va_P K.1 vwCl [(a 0, .inr (5, [.ref (a 1), .ref (a 8)])), (a 1, .inr (3, [.long t, .ref (a 2), .ref (a 3), .ref (a 4)])), (a 2, .inr (4, [.ref (a 5), .int (nI 6), .int (nI kn)])), (a 3, .inr (4, [.ref (a 6), .int (nI 8), .int (nI kr)])), (a 4, .inr (4, [.ref (a 7), .int (nI 5), .int (nI kp)])), (a 5, .inl (K.2.1, 36, .inl (fn))), (a 6, .inl (K.2.1, 320, .inl (fr))), (a 7, .inl (K.2.1, 100, .inl (fp)))] s.heap := hP
  have hl : lv_has ls 2 [(0, .ref (a 0)), (1, .int p0)] := hl
  have s1 : kn ≤ 6 := hSI.1
  have s2 : kr ≤ 40 := hSI.2.1
  have s3 : kp ≤ 20 := hSI.2.2.1
  have s4 : 0 ≤ t.toInt ∧ t.toInt ≤ 900000000 + 1000000 * (kr : Int) := hSI.2.2.2.1
  have hn : ∀ i, i < kn → nOk fn i := hSI.2.2.2.2.1
  have hrs : ∀ e, e < kr → rOk kn fr e := hSI.2.2.2.2.2.1
  have hps : ∀ k, k < kp → pOk kn fp k := hSI.2.2.2.2.2.2.1
  refine lv_aload_n hx hb dX3_assumed_0 rfl (lv_at hl 0 rfl) ?_
  refine lv_iload_n hx hb dX3_assumed_1 rfl (lv_at hl 1 rfl) ?_
  refine coV (ckV (As := [.int p0]) (rest := []) (c_rNode l hl9 K a t kn fn kr fr kp fp p0 (by omega)) ⟨hx, hb, hml, hown, hts⟩ (gV kl_X3_60 ki_X3_requireNode ks_X3_requireNode kn_X3 kc_X3_requireNode) (by show okN yX3_requireNode 1; decide +kernel) ⟨⟨Nat.le_of_ble_eq_true rfl, Nat.le_of_ble_eq_true rfl⟩, ⟨rfl, rfl⟩, Nat.le_of_ble_eq_true rfl, Nat.le_of_ble_eq_true rfl⟩ hE hP hA hZ [0, 1, 2, 3, 4, 5, 6, 7] rfl ⟨0, 5, _, _, rfl, rfl, rfl⟩ hl.1 rfl (Nat.le_of_ble_eq_true rfl) dX3_assumed_2) htab hlocks ⟨Nat.le_of_ble_eq_true rfl, Nat.le_of_ble_eq_true rfl⟩ (fun E h => by obtain ⟨h1, h2⟩ := h; exact ⟨h1, by omega⟩) (fun e2 => ?_)
  obtain ⟨i, hi, rfl⟩ := ixOf (n := kn) e2 (by omega)
  refine lv_aload_n hx hb dX3_assumed_5 rfl (lv_at hl 0 rfl) ?_
  refine va_get (D := K.1) (ci := 5) (v := .ref (a 1)) (C := RX3) (T := TX3) (N := 2) hx hb hts inX3 hown hE.1 hP 0 rfl rfl 0 (by decide) (hts _ kf_X3_10) (fun _ h9 => h9) rfl dX3_assumed_6 ?_
  refine va_getN (D := K.1) (ci := 3) (v := .ref (a 2)) (C := RX1) (T := TX1) (N := 4) hx hb hts inX1 hown hE.1 hP 1 rfl rfl 1 (by decide) (va_Nw.use rfl (hE.2.1 _ (List.mem_of_getElem? (i := 3) rfl))) (fun _ h9 => h9) rfl dX3_assumed_9 ?_
  refine lv_iload_n hx hb dX3_assumed_12 rfl (lv_at hl 1 rfl) ?_
  refine lv_iconst (v := nI 5) hx hb dX3_assumed_13 (by decide) ?_
  refine goI (rdV (As := [.int (nI i), .int (nI 5)]) (rest := []) (c_get l K (a 2) (a 5) 36 6 kn i 5 fn (by omega) (by omega)) ⟨hx, hb, hml, hown, hts⟩ (gV kl_X3_64 ki_X2_get ks_X2_get kn_X2 kc_X2_get) (by show okN yX2_get 2; decide +kernel) ⟨⟨Nat.le_of_ble_eq_true rfl, Nat.le_of_ble_eq_true rfl⟩, rfl, rfl⟩ hE hP [2, 5] rfl ⟨0, 4, _, _, rfl, rfl, rfl⟩ hl.1 rfl (Nat.le_of_ble_eq_true rfl) dX3_assumed_14 ⟨Nat.le_of_ble_eq_true rfl, Nat.le_of_ble_eq_true rfl⟩) (fun v14 e14 => ?_)
  exact vx_ret (eI (v := v14) hx hb hr hlocks (⟨by omega, by rw [e14, ix_nI (by omega)]⟩) dX3_assumed_17)
set_option maxHeartbeats 4000000 in
set_option maxRecDepth 100000 in
theorem f_distance (l : Launch) (hl9 : l.stackTraces = false) (K : EK) (a : Nat → Nat) (t : Int64) (kn : Nat) (fn : Nat → Int32) (kr : Nat) (fr : Nat → Int32) (kp : Nat) (fp : Nat → Int32) (p0 p1 : Int32) (hSI : SI (t, (kn, fn), (kr, fr), (kp, fp))) : vx_Met l yX3_distance (wq yX3_distance cX3_distance 3 (some .int)) (rmL 9 2 12) (va_Pc [.ref (a 0), .int p0, .int p1] (PX K [(a 0, .inr (5, [.ref (a 1), .ref (a 8)])), (a 1, .inr (3, [.long t, .ref (a 2), .ref (a 3), .ref (a 4)])), (a 2, .inr (4, [.ref (a 5), .int (nI 6), .int (nI kn)])), (a 3, .inr (4, [.ref (a 6), .int (nI 8), .int (nI kr)])), (a 4, .inr (4, [.ref (a 7), .int (nI 5), .int (nI kp)])), (a 5, .inl (K.2.1, 36, .inl (fn))), (a 6, .inl (K.2.1, 320, .inl (fr))), (a 7, .inl (K.2.1, 100, .inl (fp)))])) (vp_Si (fun r => ((0 ≤ p0.toInt ∧ p0.toInt < kn) ∧ 0 ≤ p1.toInt ∧ p1.toInt < kn) ∧ (r = nI (dst fn (ix p0) (ix p1))))) (XX (fun E => (E = xIO ∧ ¬ ((0 ≤ p0.toInt ∧ p0.toInt < kn) ∧ 0 ≤ p1.toInt ∧ p1.toInt < kn)))) 2 12 NF := by
  refine hdX (by decide) (Nat.le_of_ble_eq_true rfl) ?_
  intro pp ee s mm bl9 me9 cd hx hb hr hlocks hml hown hts htab hE hP A hA hZ ls hl
  have hown : s.vm.findClass RX3 = some mm.cls := hown
  have hP : va_P K.1 vwCl [(a 0, .inr (5, [.ref (a 1), .ref (a 8)])), (a 1, .inr (3, [.long t, .ref (a 2), .ref (a 3), .ref (a 4)])), (a 2, .inr (4, [.ref (a 5), .int (nI 6), .int (nI kn)])), (a 3, .inr (4, [.ref (a 6), .int (nI 8), .int (nI kr)])), (a 4, .inr (4, [.ref (a 7), .int (nI 5), .int (nI kp)])), (a 5, .inl (K.2.1, 36, .inl (fn))), (a 6, .inl (K.2.1, 320, .inl (fr))), (a 7, .inl (K.2.1, 100, .inl (fp)))] s.heap := hP
  have hl : lv_has ls 3 [(0, .ref (a 0)), (1, .int p0), (2, .int p1)] := hl
  have s1 : kn ≤ 6 := hSI.1
  have s2 : kr ≤ 40 := hSI.2.1
  have s3 : kp ≤ 20 := hSI.2.2.1
  have s4 : 0 ≤ t.toInt ∧ t.toInt ≤ 900000000 + 1000000 * (kr : Int) := hSI.2.2.2.1
  have hn : ∀ i, i < kn → nOk fn i := hSI.2.2.2.2.1
  have hrs : ∀ e, e < kr → rOk kn fr e := hSI.2.2.2.2.2.1
  have hps : ∀ k, k < kp → pOk kn fp k := hSI.2.2.2.2.2.2.1
  refine lv_aload_n hx hb dX3_distance_0 rfl (lv_at hl 0 rfl) ?_
  refine lv_iload_n hx hb dX3_distance_1 rfl (lv_at hl 1 rfl) ?_
  refine coV (ckV (As := [.int p0]) (rest := []) (c_rNode l hl9 K a t kn fn kr fr kp fp p0 (by omega)) ⟨hx, hb, hml, hown, hts⟩ (gV kl_X3_60 ki_X3_requireNode ks_X3_requireNode kn_X3 kc_X3_requireNode) (by show okN yX3_requireNode 1; decide +kernel) ⟨⟨Nat.le_of_ble_eq_true rfl, Nat.le_of_ble_eq_true rfl⟩, ⟨rfl, rfl⟩, Nat.le_of_ble_eq_true rfl, Nat.le_of_ble_eq_true rfl⟩ hE hP hA hZ [0, 1, 2, 3, 4, 5, 6, 7] rfl ⟨0, 5, _, _, rfl, rfl, rfl⟩ hl.1 rfl (Nat.le_of_ble_eq_true rfl) dX3_distance_2) htab hlocks ⟨Nat.le_of_ble_eq_true rfl, Nat.le_of_ble_eq_true rfl⟩ (fun E h => by obtain ⟨h1, h2⟩ := h; exact ⟨h1, by omega⟩) (fun e2 => ?_)
  refine lv_aload_n hx hb dX3_distance_5 rfl (lv_at hl 0 rfl) ?_
  refine lv_iload_n hx hb dX3_distance_6 rfl (lv_at hl 2 rfl) ?_
  refine coV (ckV (As := [.int p1]) (rest := []) (c_rNode l hl9 K a t kn fn kr fr kp fp p1 (by omega)) ⟨hx, hb, hml, hown, hts⟩ (gV kl_X3_60 ki_X3_requireNode ks_X3_requireNode kn_X3 kc_X3_requireNode) (by show okN yX3_requireNode 1; decide +kernel) ⟨⟨Nat.le_of_ble_eq_true rfl, Nat.le_of_ble_eq_true rfl⟩, ⟨rfl, rfl⟩, Nat.le_of_ble_eq_true rfl, Nat.le_of_ble_eq_true rfl⟩ hE hP hA hZ [0, 1, 2, 3, 4, 5, 6, 7] rfl ⟨0, 5, _, _, rfl, rfl, rfl⟩ hl.1 rfl (Nat.le_of_ble_eq_true rfl) dX3_distance_7) htab hlocks ⟨Nat.le_of_ble_eq_true rfl, Nat.le_of_ble_eq_true rfl⟩ (fun E h => by obtain ⟨h1, h2⟩ := h; exact ⟨h1, by omega⟩) (fun e7 => ?_)
  obtain ⟨i, hi, rfl⟩ := ixOf (n := kn) e2 (by omega)
  obtain ⟨j, hj, rfl⟩ := ixOf (n := kn) e7 (by omega)
  refine lv_aload_n hx hb dX3_distance_10 rfl (lv_at hl 0 rfl) ?_
  refine va_get (D := K.1) (ci := 5) (v := .ref (a 1)) (C := RX3) (T := TX3) (N := 2) hx hb hts inX3 hown hE.1 hP 0 rfl rfl 0 (by decide) (hts _ kf_X3_10) (fun _ h9 => h9) rfl dX3_distance_11 ?_
  refine lv_iload_n hx hb dX3_distance_14 rfl (lv_at hl 1 rfl) ?_
  refine lv_iload_n hx hb dX3_distance_15 rfl (lv_at hl 2 rfl) ?_
  refine goI (rdV (As := [.int (nI i), .int (nI j)]) (rest := []) (c_lengthBetween l K (fun k => a (1 + k)) t kn fn kr fr kp fp i j (by omega) (by omega) (hn _ hi) (hn _ hj)) ⟨hx, hb, hml, hown, hts⟩ (gV kl_X3_71 ki_X1_lengthBetween ks_X1_lengthBetween kn_X1 kc_X1_lengthBetween) (by show okN yX1_lengthBetween 2; decide +kernel) ⟨⟨Nat.le_of_ble_eq_true rfl, Nat.le_of_ble_eq_true rfl⟩, rfl, rfl⟩ hE hP [1, 2, 3, 4, 5, 6, 7] rfl ⟨0, 3, _, _, rfl, rfl, rfl⟩ hl.1 rfl (Nat.le_of_ble_eq_true rfl) dX3_distance_16 ⟨Nat.le_of_ble_eq_true rfl, Nat.le_of_ble_eq_true rfl⟩) (fun v16 e16 => ?_)
  exact vx_ret (eI (v := v16) hx hb hr hlocks (⟨by omega, by rw [e16, ix_nI (by omega), ix_nI (by omega)]⟩) dX3_distance_19)
set_option maxHeartbeats 4000000 in
set_option maxRecDepth 100000 in
theorem f_counter (l : Launch) (hl9 : l.stackTraces = false) (K : EK) (a : Nat → Nat) (t : Int64) (kn : Nat) (fn : Nat → Int32) (kr : Nat) (fr : Nat → Int32) (kp : Nat) (fp : Nat → Int32) (p0 p1 : Int32) (hSI : SI (t, (kn, fn), (kr, fr), (kp, fp))) : vx_Met l yX3_counter (wq yX3_counter cX3_counter 3 (some .int)) (rmL 9 2 12) (va_Pc [.ref (a 0), .int p0, .int p1] (PX K [(a 0, .inr (5, [.ref (a 1), .ref (a 8)])), (a 1, .inr (3, [.long t, .ref (a 2), .ref (a 3), .ref (a 4)])), (a 2, .inr (4, [.ref (a 5), .int (nI 6), .int (nI kn)])), (a 3, .inr (4, [.ref (a 6), .int (nI 8), .int (nI kr)])), (a 4, .inr (4, [.ref (a 7), .int (nI 5), .int (nI kp)])), (a 5, .inl (K.2.1, 36, .inl (fn))), (a 6, .inl (K.2.1, 320, .inl (fr))), (a 7, .inl (K.2.1, 100, .inl (fp)))])) (vp_Si (fun r => (0 ≤ p0.toInt ∧ p0.toInt < kn) ∧ (0 ≤ p1.toInt ∧ p1.toInt ≤ 1000000000) ∧ (r.toInt = ctr fn (ix p0) p1.toInt))) (XX (fun E => (E = xIO ∧ ¬ (0 ≤ p0.toInt ∧ p0.toInt < kn)) ∨ (E = xIA ∧ (0 ≤ p0.toInt ∧ p0.toInt < kn) ∧ ¬ (0 ≤ p1.toInt ∧ p1.toInt ≤ 1000000000)))) 2 12 NF := by
  refine hdX (by decide) (Nat.le_of_ble_eq_true rfl) ?_
  intro pp ee s mm bl9 me9 cd hx hb hr hlocks hml hown hts htab hE hP A hA hZ ls hl
  have hown : s.vm.findClass RX3 = some mm.cls := hown
  have hP : va_P K.1 vwCl [(a 0, .inr (5, [.ref (a 1), .ref (a 8)])), (a 1, .inr (3, [.long t, .ref (a 2), .ref (a 3), .ref (a 4)])), (a 2, .inr (4, [.ref (a 5), .int (nI 6), .int (nI kn)])), (a 3, .inr (4, [.ref (a 6), .int (nI 8), .int (nI kr)])), (a 4, .inr (4, [.ref (a 7), .int (nI 5), .int (nI kp)])), (a 5, .inl (K.2.1, 36, .inl (fn))), (a 6, .inl (K.2.1, 320, .inl (fr))), (a 7, .inl (K.2.1, 100, .inl (fp)))] s.heap := hP
  have hl : lv_has ls 3 [(0, .ref (a 0)), (1, .int p0), (2, .int p1)] := hl
  have s1 : kn ≤ 6 := hSI.1
  have s2 : kr ≤ 40 := hSI.2.1
  have s3 : kp ≤ 20 := hSI.2.2.1
  have s4 : 0 ≤ t.toInt ∧ t.toInt ≤ 900000000 + 1000000 * (kr : Int) := hSI.2.2.2.1
  have hn : ∀ i, i < kn → nOk fn i := hSI.2.2.2.2.1
  have hrs : ∀ e, e < kr → rOk kn fr e := hSI.2.2.2.2.2.1
  have hps : ∀ k, k < kp → pOk kn fp k := hSI.2.2.2.2.2.2.1
  refine lv_aload_n hx hb dX3_counter_0 rfl (lv_at hl 0 rfl) ?_
  refine lv_iload_n hx hb dX3_counter_1 rfl (lv_at hl 1 rfl) ?_
  refine coV (ckV (As := [.int p0]) (rest := []) (c_rNode l hl9 K a t kn fn kr fr kp fp p0 (by omega)) ⟨hx, hb, hml, hown, hts⟩ (gV kl_X3_60 ki_X3_requireNode ks_X3_requireNode kn_X3 kc_X3_requireNode) (by show okN yX3_requireNode 1; decide +kernel) ⟨⟨Nat.le_of_ble_eq_true rfl, Nat.le_of_ble_eq_true rfl⟩, ⟨rfl, rfl⟩, Nat.le_of_ble_eq_true rfl, Nat.le_of_ble_eq_true rfl⟩ hE hP hA hZ [0, 1, 2, 3, 4, 5, 6, 7] rfl ⟨0, 5, _, _, rfl, rfl, rfl⟩ hl.1 rfl (Nat.le_of_ble_eq_true rfl) dX3_counter_2) htab hlocks ⟨Nat.le_of_ble_eq_true rfl, Nat.le_of_ble_eq_true rfl⟩ (fun E h => by obtain ⟨h1, h2⟩ := h; exact Or.inl ⟨h1, by omega⟩) (fun e2 => ?_)
  refine lv_iload_n hx hb dX3_counter_5 rfl (lv_at hl 2 rfl) ?_
  refine lv_iconst (v := nI 0) hx hb dX3_counter_6 (by decide) ?_
  refine lv_ldc (v := nI 1000000000) hx hb hown (hts _ kv_X3_74) dX3_counter_7 ?_
  have b9a : (nI 0 : Int32).toInt = 0 := by decide
  have b9b : (nI 1000000000 : Int32).toInt = 1000000000 := by decide
  refine coV (ckS (As := [.int p1, .int (nI 0), .int (nI 1000000000)]) (rest := []) (c_rWithin l hl9 K p1 (nI 0) (nI 1000000000)) ⟨hx, hb, hml, hown, hts⟩ (gS kl_X3_23 kt_X3_requireWithin kn_X3 kc_X3_requireWithin) (by show okN yX3_requireWithin 3; decide +kernel) ⟨⟨Nat.le_of_ble_eq_true rfl, Nat.le_of_ble_eq_true rfl⟩, ⟨rfl, rfl⟩, Nat.le_of_ble_eq_true rfl, Nat.le_of_ble_eq_true rfl⟩ hE hP hA hZ [] rfl hl.1 rfl (Nat.le_of_ble_eq_true rfl) dX3_counter_9) htab hlocks ⟨Nat.le_of_ble_eq_true rfl, Nat.le_of_ble_eq_true rfl⟩ (fun E h => by obtain ⟨h1, h2⟩ := h; exact Or.inr (⟨h1, by omega, by omega⟩)) (fun e9 => ?_)
  obtain ⟨i, hi, rfl⟩ := ixOf (n := kn) e2 (by omega)
  refine lv_aload_n hx hb dX3_counter_12 rfl (lv_at hl 0 rfl) ?_
  refine va_get (D := K.1) (ci := 5) (v := .ref (a 1)) (C := RX3) (T := TX3) (N := 2) hx hb hts inX3 hown hE.1 hP 0 rfl rfl 0 (by decide) (hts _ kf_X3_10) (fun _ h9 => h9) rfl dX3_counter_13 ?_
  refine lv_iload_n hx hb dX3_counter_16 rfl (lv_at hl 1 rfl) ?_
  refine lv_iload_n hx hb dX3_counter_17 rfl (lv_at hl 2 rfl) ?_
  refine lv_i2l hx hb dX3_counter_18 rfl ?_
  refine lv_topl (fun v18 e18 => ?_)
  refine goI (rdV (As := [.int (nI i), .long v18]) (rest := []) (c_counterAt l K (fun k => a (1 + k)) t kn fn kr fr kp fp i v18 (by omega) (hn _ hi) (by rw [e18, i64T]; omega)) ⟨hx, hb, hml, hown, hts⟩ (gV kl_X3_75 ki_X1_counterAt ks_X1_counterAt kn_X1 kc_X1_counterAt) (by show okN yX1_counterAt 2; decide +kernel) ⟨⟨Nat.le_of_ble_eq_true rfl, Nat.le_of_ble_eq_true rfl⟩, rfl, rfl⟩ hE hP [1, 2, 3, 4, 5, 6, 7] rfl ⟨0, 3, _, _, rfl, rfl, rfl⟩ hl.1 rfl (Nat.le_of_ble_eq_true rfl) dX3_counter_19 ⟨Nat.le_of_ble_eq_true rfl, Nat.le_of_ble_eq_true rfl⟩) (fun v19 e19 => ?_)
  exact vx_ret (eI (v := v19) hx hb hr hlocks (⟨by omega, by omega, by rw [e19, ix_nI (by omega), e18, i64T]⟩) dX3_counter_22)
set_option maxHeartbeats 4000000 in
set_option maxRecDepth 100000 in
theorem f_stamp (l : Launch) (hl9 : l.stackTraces = false) (K : EK) (a : Nat → Nat) (t : Int64) (kn : Nat) (fn : Nat → Int32) (kr : Nat) (fr : Nat → Int32) (kp : Nat) (fp : Nat → Int32) (p0 p1 : Int32) (hSI : SI (t, (kn, fn), (kr, fr), (kp, fp))) : vx_Met l yX3_stamp (wq yX3_stamp cX3_stamp 3 (some .int)) (rmL 9 2 12) (va_Pc [.ref (a 0), .int p0, .int p1] (PX K [(a 0, .inr (5, [.ref (a 1), .ref (a 8)])), (a 1, .inr (3, [.long t, .ref (a 2), .ref (a 3), .ref (a 4)])), (a 2, .inr (4, [.ref (a 5), .int (nI 6), .int (nI kn)])), (a 3, .inr (4, [.ref (a 6), .int (nI 8), .int (nI kr)])), (a 4, .inr (4, [.ref (a 7), .int (nI 5), .int (nI kp)])), (a 5, .inl (K.2.1, 36, .inl (fn))), (a 6, .inl (K.2.1, 320, .inl (fr))), (a 7, .inl (K.2.1, 100, .inl (fp)))])) (vp_Si (fun r => (0 ≤ p0.toInt ∧ p0.toInt < kr) ∧ (1 ≤ p1.toInt ∧ p1.toInt ≤ 6) ∧ (r = fr (ix p0 * 8 + (ix p1 + 1))))) (XX (fun E => (E = xIO ∧ ¬ (0 ≤ p0.toInt ∧ p0.toInt < kr)) ∨ (E = xIA ∧ (0 ≤ p0.toInt ∧ p0.toInt < kr) ∧ ¬ (1 ≤ p1.toInt ∧ p1.toInt ≤ 6)))) 2 12 NF := by
  refine hdX (by decide) (Nat.le_of_ble_eq_true rfl) ?_
  intro pp ee s mm bl9 me9 cd hx hb hr hlocks hml hown hts htab hE hP A hA hZ ls hl
  have hown : s.vm.findClass RX3 = some mm.cls := hown
  have hP : va_P K.1 vwCl [(a 0, .inr (5, [.ref (a 1), .ref (a 8)])), (a 1, .inr (3, [.long t, .ref (a 2), .ref (a 3), .ref (a 4)])), (a 2, .inr (4, [.ref (a 5), .int (nI 6), .int (nI kn)])), (a 3, .inr (4, [.ref (a 6), .int (nI 8), .int (nI kr)])), (a 4, .inr (4, [.ref (a 7), .int (nI 5), .int (nI kp)])), (a 5, .inl (K.2.1, 36, .inl (fn))), (a 6, .inl (K.2.1, 320, .inl (fr))), (a 7, .inl (K.2.1, 100, .inl (fp)))] s.heap := hP
  have hl : lv_has ls 3 [(0, .ref (a 0)), (1, .int p0), (2, .int p1)] := hl
  have s1 : kn ≤ 6 := hSI.1
  have s2 : kr ≤ 40 := hSI.2.1
  have s3 : kp ≤ 20 := hSI.2.2.1
  have s4 : 0 ≤ t.toInt ∧ t.toInt ≤ 900000000 + 1000000 * (kr : Int) := hSI.2.2.2.1
  have hn : ∀ i, i < kn → nOk fn i := hSI.2.2.2.2.1
  have hrs : ∀ e, e < kr → rOk kn fr e := hSI.2.2.2.2.2.1
  have hps : ∀ k, k < kp → pOk kn fp k := hSI.2.2.2.2.2.2.1
  refine lv_aload_n hx hb dX3_stamp_0 rfl (lv_at hl 0 rfl) ?_
  refine lv_iload_n hx hb dX3_stamp_1 rfl (lv_at hl 1 rfl) ?_
  refine coV (ckV (As := [.int p0]) (rest := []) (c_rExch l hl9 K a t kn fn kr fr kp fp p0 (by omega)) ⟨hx, hb, hml, hown, hts⟩ (gV kl_X3_109 ki_X3_requireExchange ks_X3_requireExchange kn_X3 kc_X3_requireExchange) (by show okN yX3_requireExchange 1; decide +kernel) ⟨⟨Nat.le_of_ble_eq_true rfl, Nat.le_of_ble_eq_true rfl⟩, ⟨rfl, rfl⟩, Nat.le_of_ble_eq_true rfl, Nat.le_of_ble_eq_true rfl⟩ hE hP hA hZ [0, 1, 2, 3, 4, 5, 6, 7] rfl ⟨0, 5, _, _, rfl, rfl, rfl⟩ hl.1 rfl (Nat.le_of_ble_eq_true rfl) dX3_stamp_2) htab hlocks ⟨Nat.le_of_ble_eq_true rfl, Nat.le_of_ble_eq_true rfl⟩ (fun E h => by obtain ⟨h1, h2⟩ := h; exact Or.inl ⟨h1, by omega⟩) (fun e2 => ?_)
  refine lv_iload_n hx hb dX3_stamp_5 rfl (lv_at hl 2 rfl) ?_
  refine lv_iconst (v := nI 1) hx hb dX3_stamp_6 (by decide) ?_
  refine lv_bipush (v := nI 6) hx hb dX3_stamp_7 (by decide) ?_
  have b9a : (nI 1 : Int32).toInt = 1 := by decide
  have b9b : (nI 6 : Int32).toInt = 6 := by decide
  refine coV (ckS (As := [.int p1, .int (nI 1), .int (nI 6)]) (rest := []) (c_rWithin l hl9 K p1 (nI 1) (nI 6)) ⟨hx, hb, hml, hown, hts⟩ (gS kl_X3_23 kt_X3_requireWithin kn_X3 kc_X3_requireWithin) (by show okN yX3_requireWithin 3; decide +kernel) ⟨⟨Nat.le_of_ble_eq_true rfl, Nat.le_of_ble_eq_true rfl⟩, ⟨rfl, rfl⟩, Nat.le_of_ble_eq_true rfl, Nat.le_of_ble_eq_true rfl⟩ hE hP hA hZ [] rfl hl.1 rfl (Nat.le_of_ble_eq_true rfl) dX3_stamp_9) htab hlocks ⟨Nat.le_of_ble_eq_true rfl, Nat.le_of_ble_eq_true rfl⟩ (fun E h => by obtain ⟨h1, h2⟩ := h; exact Or.inr (⟨h1, by omega, by omega⟩)) (fun e9 => ?_)
  obtain ⟨i, hi, rfl⟩ := ixOf (n := kr) e2 (by omega)
  obtain ⟨j, hj, rfl⟩ := ixLe (n := 6) (show 0 ≤ p1.toInt ∧ p1.toInt ≤ (6 : Nat) by omega) (by omega)
  refine lv_aload_n hx hb dX3_stamp_12 rfl (lv_at hl 0 rfl) ?_
  refine va_get (D := K.1) (ci := 5) (v := .ref (a 1)) (C := RX3) (T := TX3) (N := 2) hx hb hts inX3 hown hE.1 hP 0 rfl rfl 0 (by decide) (hts _ kf_X3_10) (fun _ h9 => h9) rfl dX3_stamp_13 ?_
  refine va_getN (D := K.1) (ci := 3) (v := .ref (a 3)) (C := RX1) (T := TX1) (N := 4) hx hb hts inX1 hown hE.1 hP 1 rfl rfl 2 (by decide) (va_Nw.use rfl (hE.2.1 _ (List.mem_of_getElem? (i := 4) rfl))) (fun _ h9 => h9) rfl dX3_stamp_16 ?_
  refine lv_iload_n hx hb dX3_stamp_19 rfl (lv_at hl 1 rfl) ?_
  refine lv_iconst (v := nI 2) hx hb dX3_stamp_20 (by decide) ?_
  refine lv_iload_n hx hb dX3_stamp_21 rfl (lv_at hl 2 rfl) ?_
  refine lv_iadd hx hb dX3_stamp_22 ?_
  rw [nI_add 2 j]
  refine lv_iconst (v := nI 1) hx hb dX3_stamp_23 (by decide) ?_
  refine lv_isub hx hb dX3_stamp_24 ?_
  rw [pk_sub (by omega : 1 ≤ 2 + j)]
  refine goI (rdV (As := [.int (nI i), .int (nI ((2 + j) - 1))]) (rest := []) (c_get l K (a 3) (a 6) 320 8 kr i ((2 + j) - 1) fr (by omega) (by omega)) ⟨hx, hb, hml, hown, hts⟩ (gV kl_X3_64 ki_X2_get ks_X2_get kn_X2 kc_X2_get) (by show okN yX2_get 2; decide +kernel) ⟨⟨Nat.le_of_ble_eq_true rfl, Nat.le_of_ble_eq_true rfl⟩, rfl, rfl⟩ hE hP [3, 6] rfl ⟨0, 4, _, _, rfl, rfl, rfl⟩ hl.1 rfl (Nat.le_of_ble_eq_true rfl) dX3_stamp_25 ⟨Nat.le_of_ble_eq_true rfl, Nat.le_of_ble_eq_true rfl⟩) (fun v25 e25 => ?_)
  exact vx_ret (eI (v := v25) hx hb hr hlocks (⟨by omega, by omega, by rw [e25, ix_nI (by omega), ix_nI (by omega)]; congr 1; omega⟩) dX3_stamp_28)
set_option maxHeartbeats 4000000 in
set_option maxRecDepth 100000 in
theorem f_party (l : Launch) (hl9 : l.stackTraces = false) (K : EK) (a : Nat → Nat) (t : Int64) (kn : Nat) (fn : Nat → Int32) (kr : Nat) (fr : Nat → Int32) (kp : Nat) (fp : Nat → Int32) (p0 p1 : Int32) (hSI : SI (t, (kn, fn), (kr, fr), (kp, fp))) : vx_Met l yX3_party (wq yX3_party cX3_party 3 (some .int)) (rmL 9 2 12) (va_Pc [.ref (a 0), .int p0, .int p1] (PX K [(a 0, .inr (5, [.ref (a 1), .ref (a 8)])), (a 1, .inr (3, [.long t, .ref (a 2), .ref (a 3), .ref (a 4)])), (a 2, .inr (4, [.ref (a 5), .int (nI 6), .int (nI kn)])), (a 3, .inr (4, [.ref (a 6), .int (nI 8), .int (nI kr)])), (a 4, .inr (4, [.ref (a 7), .int (nI 5), .int (nI kp)])), (a 5, .inl (K.2.1, 36, .inl (fn))), (a 6, .inl (K.2.1, 320, .inl (fr))), (a 7, .inl (K.2.1, 100, .inl (fp)))])) (vp_Si (fun r => (0 ≤ p0.toInt ∧ p0.toInt < kr) ∧ (0 ≤ p1.toInt ∧ p1.toInt ≤ 1) ∧ (r = fr (ix p0 * 8 + ix p1)))) (XX (fun E => (E = xIO ∧ ¬ (0 ≤ p0.toInt ∧ p0.toInt < kr)) ∨ (E = xIA ∧ (0 ≤ p0.toInt ∧ p0.toInt < kr) ∧ ¬ (0 ≤ p1.toInt ∧ p1.toInt ≤ 1)))) 2 12 NF := by
  refine hdX (by decide) (Nat.le_of_ble_eq_true rfl) ?_
  intro pp ee s mm bl9 me9 cd hx hb hr hlocks hml hown hts htab hE hP A hA hZ ls hl
  have hown : s.vm.findClass RX3 = some mm.cls := hown
  have hP : va_P K.1 vwCl [(a 0, .inr (5, [.ref (a 1), .ref (a 8)])), (a 1, .inr (3, [.long t, .ref (a 2), .ref (a 3), .ref (a 4)])), (a 2, .inr (4, [.ref (a 5), .int (nI 6), .int (nI kn)])), (a 3, .inr (4, [.ref (a 6), .int (nI 8), .int (nI kr)])), (a 4, .inr (4, [.ref (a 7), .int (nI 5), .int (nI kp)])), (a 5, .inl (K.2.1, 36, .inl (fn))), (a 6, .inl (K.2.1, 320, .inl (fr))), (a 7, .inl (K.2.1, 100, .inl (fp)))] s.heap := hP
  have hl : lv_has ls 3 [(0, .ref (a 0)), (1, .int p0), (2, .int p1)] := hl
  have s1 : kn ≤ 6 := hSI.1
  have s2 : kr ≤ 40 := hSI.2.1
  have s3 : kp ≤ 20 := hSI.2.2.1
  have s4 : 0 ≤ t.toInt ∧ t.toInt ≤ 900000000 + 1000000 * (kr : Int) := hSI.2.2.2.1
  have hn : ∀ i, i < kn → nOk fn i := hSI.2.2.2.2.1
  have hrs : ∀ e, e < kr → rOk kn fr e := hSI.2.2.2.2.2.1
  have hps : ∀ k, k < kp → pOk kn fp k := hSI.2.2.2.2.2.2.1
  refine lv_aload_n hx hb dX3_party_0 rfl (lv_at hl 0 rfl) ?_
  refine lv_iload_n hx hb dX3_party_1 rfl (lv_at hl 1 rfl) ?_
  refine coV (ckV (As := [.int p0]) (rest := []) (c_rExch l hl9 K a t kn fn kr fr kp fp p0 (by omega)) ⟨hx, hb, hml, hown, hts⟩ (gV kl_X3_109 ki_X3_requireExchange ks_X3_requireExchange kn_X3 kc_X3_requireExchange) (by show okN yX3_requireExchange 1; decide +kernel) ⟨⟨Nat.le_of_ble_eq_true rfl, Nat.le_of_ble_eq_true rfl⟩, ⟨rfl, rfl⟩, Nat.le_of_ble_eq_true rfl, Nat.le_of_ble_eq_true rfl⟩ hE hP hA hZ [0, 1, 2, 3, 4, 5, 6, 7] rfl ⟨0, 5, _, _, rfl, rfl, rfl⟩ hl.1 rfl (Nat.le_of_ble_eq_true rfl) dX3_party_2) htab hlocks ⟨Nat.le_of_ble_eq_true rfl, Nat.le_of_ble_eq_true rfl⟩ (fun E h => by obtain ⟨h1, h2⟩ := h; exact Or.inl ⟨h1, by omega⟩) (fun e2 => ?_)
  refine lv_iload_n hx hb dX3_party_5 rfl (lv_at hl 2 rfl) ?_
  refine lv_iconst (v := nI 0) hx hb dX3_party_6 (by decide) ?_
  refine lv_iconst (v := nI 1) hx hb dX3_party_7 (by decide) ?_
  have b8a : (nI 0 : Int32).toInt = 0 := by decide
  have b8b : (nI 1 : Int32).toInt = 1 := by decide
  refine coV (ckS (As := [.int p1, .int (nI 0), .int (nI 1)]) (rest := []) (c_rWithin l hl9 K p1 (nI 0) (nI 1)) ⟨hx, hb, hml, hown, hts⟩ (gS kl_X3_23 kt_X3_requireWithin kn_X3 kc_X3_requireWithin) (by show okN yX3_requireWithin 3; decide +kernel) ⟨⟨Nat.le_of_ble_eq_true rfl, Nat.le_of_ble_eq_true rfl⟩, ⟨rfl, rfl⟩, Nat.le_of_ble_eq_true rfl, Nat.le_of_ble_eq_true rfl⟩ hE hP hA hZ [] rfl hl.1 rfl (Nat.le_of_ble_eq_true rfl) dX3_party_8) htab hlocks ⟨Nat.le_of_ble_eq_true rfl, Nat.le_of_ble_eq_true rfl⟩ (fun E h => by obtain ⟨h1, h2⟩ := h; exact Or.inr (⟨h1, by omega, by omega⟩)) (fun e8 => ?_)
  obtain ⟨i, hi, rfl⟩ := ixOf (n := kr) e2 (by omega)
  obtain ⟨j, hj, rfl⟩ := ixLe (n := 1) (show 0 ≤ p1.toInt ∧ p1.toInt ≤ (1 : Nat) by omega) (by omega)
  refine lv_aload_n hx hb dX3_party_11 rfl (lv_at hl 0 rfl) ?_
  refine va_get (D := K.1) (ci := 5) (v := .ref (a 1)) (C := RX3) (T := TX3) (N := 2) hx hb hts inX3 hown hE.1 hP 0 rfl rfl 0 (by decide) (hts _ kf_X3_10) (fun _ h9 => h9) rfl dX3_party_12 ?_
  refine va_getN (D := K.1) (ci := 3) (v := .ref (a 3)) (C := RX1) (T := TX1) (N := 4) hx hb hts inX1 hown hE.1 hP 1 rfl rfl 2 (by decide) (va_Nw.use rfl (hE.2.1 _ (List.mem_of_getElem? (i := 4) rfl))) (fun _ h9 => h9) rfl dX3_party_15 ?_
  refine lv_iload_n hx hb dX3_party_18 rfl (lv_at hl 1 rfl) ?_
  refine lv_iload_n hx hb dX3_party_19 rfl (lv_at hl 2 rfl) ?_
  refine lv_if_ne (tgt := 27) hx hb dX3_party_20 (by decide) (fun c20 => ?_) (fun c20 => ?_)
  · have c20 := mt (nI_z (n := j) (by omega)).mpr c20
    refine lv_iconst (v := nI 1) hx hb dX3_party_27 (by decide) ?_
    refine goI (rdV (As := [.int (nI i), .int (nI 1)]) (rest := []) (c_get l K (a 3) (a 6) 320 8 kr i 1 fr (by omega) (by omega)) ⟨hx, hb, hml, hown, hts⟩ (gV kl_X3_64 ki_X2_get ks_X2_get kn_X2 kc_X2_get) (by show okN yX2_get 2; decide +kernel) ⟨⟨Nat.le_of_ble_eq_true rfl, Nat.le_of_ble_eq_true rfl⟩, rfl, rfl⟩ hE hP [3, 6] rfl ⟨0, 4, _, _, rfl, rfl, rfl⟩ hl.1 rfl (Nat.le_of_ble_eq_true rfl) dX3_party_28 ⟨Nat.le_of_ble_eq_true rfl, Nat.le_of_ble_eq_true rfl⟩) (fun v28 e28 => ?_)
    exact vx_ret (eI (v := v28) hx hb hr hlocks (⟨by omega, by omega, by rw [e28, ix_nI (by omega), ix_nI (by omega)]; congr 1; omega⟩) dX3_party_31)
  · have c20 := (nI_z (n := j) (by omega)).mp c20
    refine lv_iconst (v := nI 0) hx hb dX3_party_23 (by decide) ?_
    refine lv_goto (tgt := 28) hx hb dX3_party_24 (by decide) ?_
    refine goI (rdV (As := [.int (nI i), .int (nI 0)]) (rest := []) (c_get l K (a 3) (a 6) 320 8 kr i 0 fr (by omega) (by omega)) ⟨hx, hb, hml, hown, hts⟩ (gV kl_X3_64 ki_X2_get ks_X2_get kn_X2 kc_X2_get) (by show okN yX2_get 2; decide +kernel) ⟨⟨Nat.le_of_ble_eq_true rfl, Nat.le_of_ble_eq_true rfl⟩, rfl, rfl⟩ hE hP [3, 6] rfl ⟨0, 4, _, _, rfl, rfl, rfl⟩ hl.1 rfl (Nat.le_of_ble_eq_true rfl) dX3_party_28 ⟨Nat.le_of_ble_eq_true rfl, Nat.le_of_ble_eq_true rfl⟩) (fun v28 e28 => ?_)
    exact vx_ret (eI (v := v28) hx hb hr hlocks (⟨by omega, by omega, by rw [e28, ix_nI (by omega), ix_nI (by omega)]; congr 1; omega⟩) dX3_party_31)
set_option maxHeartbeats 4000000 in
set_option maxRecDepth 100000 in
theorem f_range (l : Launch) (hl9 : l.stackTraces = false) (K : EK) (a : Nat → Nat) (t : Int64) (kn : Nat) (fn : Nat → Int32) (kr : Nat) (fr : Nat → Int32) (kp : Nat) (fp : Nat → Int32) (p0 p1 : Int32) (hSI : SI (t, (kn, fn), (kr, fr), (kp, fp))) : vx_Met l yX3_range (wq yX3_range cX3_range 3 (some .int)) (rmL 9 2 12) (va_Pc [.ref (a 0), .int p0, .int p1] (PX K [(a 0, .inr (5, [.ref (a 1), .ref (a 8)])), (a 1, .inr (3, [.long t, .ref (a 2), .ref (a 3), .ref (a 4)])), (a 2, .inr (4, [.ref (a 5), .int (nI 6), .int (nI kn)])), (a 3, .inr (4, [.ref (a 6), .int (nI 8), .int (nI kr)])), (a 4, .inr (4, [.ref (a 7), .int (nI 5), .int (nI kp)])), (a 5, .inl (K.2.1, 36, .inl (fn))), (a 6, .inl (K.2.1, 320, .inl (fr))), (a 7, .inl (K.2.1, 100, .inl (fp)))])) (vp_Si (fun r => (0 ≤ p0.toInt ∧ p0.toInt < kr) ∧ (0 ≤ p1.toInt ∧ p1.toInt ≤ 2) ∧ (r.toInt = rng fn fr (ix p0) (ix p1)))) (XX (fun E => (E = xIO ∧ ¬ (0 ≤ p0.toInt ∧ p0.toInt < kr)) ∨ (E = xIA ∧ (0 ≤ p0.toInt ∧ p0.toInt < kr) ∧ ¬ (0 ≤ p1.toInt ∧ p1.toInt ≤ 2)))) 2 12 NF := by
  refine hdX (by decide) (Nat.le_of_ble_eq_true rfl) ?_
  intro pp ee s mm bl9 me9 cd hx hb hr hlocks hml hown hts htab hE hP A hA hZ ls hl
  have hown : s.vm.findClass RX3 = some mm.cls := hown
  have hP : va_P K.1 vwCl [(a 0, .inr (5, [.ref (a 1), .ref (a 8)])), (a 1, .inr (3, [.long t, .ref (a 2), .ref (a 3), .ref (a 4)])), (a 2, .inr (4, [.ref (a 5), .int (nI 6), .int (nI kn)])), (a 3, .inr (4, [.ref (a 6), .int (nI 8), .int (nI kr)])), (a 4, .inr (4, [.ref (a 7), .int (nI 5), .int (nI kp)])), (a 5, .inl (K.2.1, 36, .inl (fn))), (a 6, .inl (K.2.1, 320, .inl (fr))), (a 7, .inl (K.2.1, 100, .inl (fp)))] s.heap := hP
  have hl : lv_has ls 3 [(0, .ref (a 0)), (1, .int p0), (2, .int p1)] := hl
  have s1 : kn ≤ 6 := hSI.1
  have s2 : kr ≤ 40 := hSI.2.1
  have s3 : kp ≤ 20 := hSI.2.2.1
  have s4 : 0 ≤ t.toInt ∧ t.toInt ≤ 900000000 + 1000000 * (kr : Int) := hSI.2.2.2.1
  have hn : ∀ i, i < kn → nOk fn i := hSI.2.2.2.2.1
  have hrs : ∀ e, e < kr → rOk kn fr e := hSI.2.2.2.2.2.1
  have hps : ∀ k, k < kp → pOk kn fp k := hSI.2.2.2.2.2.2.1
  refine lv_aload_n hx hb dX3_range_0 rfl (lv_at hl 0 rfl) ?_
  refine lv_iload_n hx hb dX3_range_1 rfl (lv_at hl 1 rfl) ?_
  refine coV (ckV (As := [.int p0]) (rest := []) (c_rExch l hl9 K a t kn fn kr fr kp fp p0 (by omega)) ⟨hx, hb, hml, hown, hts⟩ (gV kl_X3_109 ki_X3_requireExchange ks_X3_requireExchange kn_X3 kc_X3_requireExchange) (by show okN yX3_requireExchange 1; decide +kernel) ⟨⟨Nat.le_of_ble_eq_true rfl, Nat.le_of_ble_eq_true rfl⟩, ⟨rfl, rfl⟩, Nat.le_of_ble_eq_true rfl, Nat.le_of_ble_eq_true rfl⟩ hE hP hA hZ [0, 1, 2, 3, 4, 5, 6, 7] rfl ⟨0, 5, _, _, rfl, rfl, rfl⟩ hl.1 rfl (Nat.le_of_ble_eq_true rfl) dX3_range_2) htab hlocks ⟨Nat.le_of_ble_eq_true rfl, Nat.le_of_ble_eq_true rfl⟩ (fun E h => by obtain ⟨h1, h2⟩ := h; exact Or.inl ⟨h1, by omega⟩) (fun e2 => ?_)
  refine lv_iload_n hx hb dX3_range_5 rfl (lv_at hl 2 rfl) ?_
  refine coV (ckS (As := [.int p1]) (rest := []) (c_rMethod l hl9 K p1) ⟨hx, hb, hml, hown, hts⟩ (gS kl_X3_112 kt_X3_requireMethod kn_X3 kc_X3_requireMethod) (by show okN yX3_requireMethod 1; decide +kernel) ⟨⟨Nat.le_of_ble_eq_true rfl, Nat.le_of_ble_eq_true rfl⟩, ⟨rfl, rfl⟩, Nat.le_of_ble_eq_true rfl, Nat.le_of_ble_eq_true rfl⟩ hE hP hA hZ [] rfl hl.1 rfl (Nat.le_of_ble_eq_true rfl) dX3_range_6) htab hlocks ⟨Nat.le_of_ble_eq_true rfl, Nat.le_of_ble_eq_true rfl⟩ (fun E h => by obtain ⟨h1, h2⟩ := h; exact Or.inr (⟨h1, by omega, by omega⟩)) (fun e6 => ?_)
  obtain ⟨i, hi, rfl⟩ := ixOf (n := kr) e2 (by omega)
  obtain ⟨j, hj, rfl⟩ := ixLe (n := 2) (show 0 ≤ p1.toInt ∧ p1.toInt ≤ (2 : Nat) by omega) (by omega)
  refine lv_aload_n hx hb dX3_range_9 rfl (lv_at hl 0 rfl) ?_
  refine va_get (D := K.1) (ci := 5) (v := .ref (a 1)) (C := RX3) (T := TX3) (N := 2) hx hb hts inX3 hown hE.1 hP 0 rfl rfl 0 (by decide) (hts _ kf_X3_10) (fun _ h9 => h9) rfl dX3_range_10 ?_
  refine lv_iload_n hx hb dX3_range_13 rfl (lv_at hl 1 rfl) ?_
  refine lv_iload_n hx hb dX3_range_14 rfl (lv_at hl 2 rfl) ?_
  refine goI (rdV (As := [.int (nI i), .int (nI j)]) (rest := []) (c_rangeOf l K (fun k => a (1 + k)) t kn fn kr fr kp fp i j (by omega) (by omega) (by omega) hn (hrs _ hi)) ⟨hx, hb, hml, hown, hts⟩ (gV kl_X3_115 ki_X1_rangeOf ks_X1_rangeOf kn_X1 kc_X1_rangeOf) (by show okN yX1_rangeOf 2; decide +kernel) ⟨⟨Nat.le_of_ble_eq_true rfl, Nat.le_of_ble_eq_true rfl⟩, rfl, rfl⟩ hE hP [1, 2, 3, 4, 5, 6, 7] rfl ⟨0, 3, _, _, rfl, rfl, rfl⟩ hl.1 rfl (Nat.le_of_ble_eq_true rfl) dX3_range_15 ⟨Nat.le_of_ble_eq_true rfl, Nat.le_of_ble_eq_true rfl⟩) (fun v15 e15 => ?_)
  exact vx_ret (eI (v := v15) hx hb hr hlocks (⟨by omega, by omega, by rw [e15, ix_nI (by omega), ix_nI (by omega)]⟩) dX3_range_18)
set_option maxHeartbeats 4000000 in
set_option maxRecDepth 100000 in
theorem f_latestRange (l : Launch) (hl9 : l.stackTraces = false) (K : EK) (a : Nat → Nat) (t : Int64) (kn : Nat) (fn : Nat → Int32) (kr : Nat) (fr : Nat → Int32) (kp : Nat) (fp : Nat → Int32) (p0 p1 p2 : Int32) (hSI : SI (t, (kn, fn), (kr, fr), (kp, fp))) : vx_Met l yX3_latestRange (wq yX3_latestRange cX3_latestRange 4 (some .int)) (rmL 9 4 24) (va_Pc [.ref (a 0), .int p0, .int p1, .int p2] (PX K [(a 0, .inr (5, [.ref (a 1), .ref (a 8)])), (a 1, .inr (3, [.long t, .ref (a 2), .ref (a 3), .ref (a 4)])), (a 2, .inr (4, [.ref (a 5), .int (nI 6), .int (nI kn)])), (a 3, .inr (4, [.ref (a 6), .int (nI 8), .int (nI kr)])), (a 4, .inr (4, [.ref (a 7), .int (nI 5), .int (nI kp)])), (a 5, .inl (K.2.1, 36, .inl (fn))), (a 6, .inl (K.2.1, 320, .inl (fr))), (a 7, .inl (K.2.1, 100, .inl (fp)))])) (vp_Si (fun r => ((0 ≤ p0.toInt ∧ p0.toInt < kn) ∧ 0 ≤ p1.toInt ∧ p1.toInt < kn) ∧ (0 ≤ p2.toInt ∧ p2.toInt ≤ 2) ∧ (¬ noLat fr (ix p0) (ix p1) kr) ∧ (∃ e, isLat fr (ix p0) (ix p1) kr e ∧ r.toInt = rng fn fr e (ix p2)))) (XX (fun E => (E = xIO ∧ ¬ ((0 ≤ p0.toInt ∧ p0.toInt < kn) ∧ 0 ≤ p1.toInt ∧ p1.toInt < kn)) ∨ (E = xIA ∧ ((0 ≤ p0.toInt ∧ p0.toInt < kn) ∧ 0 ≤ p1.toInt ∧ p1.toInt < kn) ∧ ¬ (0 ≤ p2.toInt ∧ p2.toInt ≤ 2)) ∨ (E = xIS ∧ ((0 ≤ p0.toInt ∧ p0.toInt < kn) ∧ 0 ≤ p1.toInt ∧ p1.toInt < kn) ∧ (0 ≤ p2.toInt ∧ p2.toInt ≤ 2) ∧ ¬ (¬ noLat fr (ix p0) (ix p1) kr)))) 4 24 NF := by
  refine hdX (by decide) (Nat.le_of_ble_eq_true rfl) ?_
  intro pp ee s mm bl9 me9 cd hx hb hr hlocks hml hown hts htab hE hP A hA hZ ls hl
  have hown : s.vm.findClass RX3 = some mm.cls := hown
  have hP : va_P K.1 vwCl [(a 0, .inr (5, [.ref (a 1), .ref (a 8)])), (a 1, .inr (3, [.long t, .ref (a 2), .ref (a 3), .ref (a 4)])), (a 2, .inr (4, [.ref (a 5), .int (nI 6), .int (nI kn)])), (a 3, .inr (4, [.ref (a 6), .int (nI 8), .int (nI kr)])), (a 4, .inr (4, [.ref (a 7), .int (nI 5), .int (nI kp)])), (a 5, .inl (K.2.1, 36, .inl (fn))), (a 6, .inl (K.2.1, 320, .inl (fr))), (a 7, .inl (K.2.1, 100, .inl (fp)))] s.heap := hP
  have hl : lv_has ls 4 [(0, .ref (a 0)), (1, .int p0), (2, .int p1), (3, .int p2)] := hl
  have s1 : kn ≤ 6 := hSI.1
  have s2 : kr ≤ 40 := hSI.2.1
  have s3 : kp ≤ 20 := hSI.2.2.1
  have s4 : 0 ≤ t.toInt ∧ t.toInt ≤ 900000000 + 1000000 * (kr : Int) := hSI.2.2.2.1
  have hn : ∀ i, i < kn → nOk fn i := hSI.2.2.2.2.1
  have hrs : ∀ e, e < kr → rOk kn fr e := hSI.2.2.2.2.2.1
  have hps : ∀ k, k < kp → pOk kn fp k := hSI.2.2.2.2.2.2.1
  refine lv_aload_n hx hb dX3_latestRange_0 rfl (lv_at hl 0 rfl) ?_
  refine lv_iload_n hx hb dX3_latestRange_1 rfl (lv_at hl 1 rfl) ?_
  refine coV (ckV (As := [.int p0]) (rest := []) (c_rNode l hl9 K a t kn fn kr fr kp fp p0 (by omega)) ⟨hx, hb, hml, hown, hts⟩ (gV kl_X3_60 ki_X3_requireNode ks_X3_requireNode kn_X3 kc_X3_requireNode) (by show okN yX3_requireNode 1; decide +kernel) ⟨⟨Nat.le_of_ble_eq_true rfl, Nat.le_of_ble_eq_true rfl⟩, ⟨rfl, rfl⟩, Nat.le_of_ble_eq_true rfl, Nat.le_of_ble_eq_true rfl⟩ hE hP hA hZ [0, 1, 2, 3, 4, 5, 6, 7] rfl ⟨0, 5, _, _, rfl, rfl, rfl⟩ hl.1 rfl (Nat.le_of_ble_eq_true rfl) dX3_latestRange_2) htab hlocks ⟨Nat.le_of_ble_eq_true rfl, Nat.le_of_ble_eq_true rfl⟩ (fun E h => by obtain ⟨h1, h2⟩ := h; exact Or.inl ⟨h1, by omega⟩) (fun e2 => ?_)
  refine lv_aload_n hx hb dX3_latestRange_5 rfl (lv_at hl 0 rfl) ?_
  refine lv_iload_n hx hb dX3_latestRange_6 rfl (lv_at hl 2 rfl) ?_
  refine coV (ckV (As := [.int p1]) (rest := []) (c_rNode l hl9 K a t kn fn kr fr kp fp p1 (by omega)) ⟨hx, hb, hml, hown, hts⟩ (gV kl_X3_60 ki_X3_requireNode ks_X3_requireNode kn_X3 kc_X3_requireNode) (by show okN yX3_requireNode 1; decide +kernel) ⟨⟨Nat.le_of_ble_eq_true rfl, Nat.le_of_ble_eq_true rfl⟩, ⟨rfl, rfl⟩, Nat.le_of_ble_eq_true rfl, Nat.le_of_ble_eq_true rfl⟩ hE hP hA hZ [0, 1, 2, 3, 4, 5, 6, 7] rfl ⟨0, 5, _, _, rfl, rfl, rfl⟩ hl.1 rfl (Nat.le_of_ble_eq_true rfl) dX3_latestRange_7) htab hlocks ⟨Nat.le_of_ble_eq_true rfl, Nat.le_of_ble_eq_true rfl⟩ (fun E h => by obtain ⟨h1, h2⟩ := h; exact Or.inl ⟨h1, by omega⟩) (fun e7 => ?_)
  refine lv_iload_n hx hb dX3_latestRange_10 rfl (lv_at hl 3 rfl) ?_
  refine coV (ckS (As := [.int p2]) (rest := []) (c_rMethod l hl9 K p2) ⟨hx, hb, hml, hown, hts⟩ (gS kl_X3_112 kt_X3_requireMethod kn_X3 kc_X3_requireMethod) (by show okN yX3_requireMethod 1; decide +kernel) ⟨⟨Nat.le_of_ble_eq_true rfl, Nat.le_of_ble_eq_true rfl⟩, ⟨rfl, rfl⟩, Nat.le_of_ble_eq_true rfl, Nat.le_of_ble_eq_true rfl⟩ hE hP hA hZ [] rfl hl.1 rfl (Nat.le_of_ble_eq_true rfl) dX3_latestRange_11) htab hlocks ⟨Nat.le_of_ble_eq_true rfl, Nat.le_of_ble_eq_true rfl⟩ (fun E h => by obtain ⟨h1, h2⟩ := h; exact Or.inr (Or.inl ⟨h1, by omega, by omega⟩)) (fun e11 => ?_)
  obtain ⟨i, hi, rfl⟩ := ixOf (n := kn) e2 (by omega)
  obtain ⟨j, hj, rfl⟩ := ixOf (n := kn) e7 (by omega)
  obtain ⟨m9, hm9, rfl⟩ := ixLe (n := 2) (show 0 ≤ p2.toInt ∧ p2.toInt ≤ (2 : Nat) by omega) (by omega)
  refine lv_aload_n hx hb dX3_latestRange_14 rfl (lv_at hl 0 rfl) ?_
  refine va_get (D := K.1) (ci := 5) (v := .ref (a 1)) (C := RX3) (T := TX3) (N := 2) hx hb hts inX3 hown hE.1 hP 0 rfl rfl 0 (by decide) (hts _ kf_X3_10) (fun _ h9 => h9) rfl dX3_latestRange_15 ?_
  refine lv_aload_n hx hb dX3_latestRange_18 rfl (lv_at hl 0 rfl) ?_
  refine lv_iload_n hx hb dX3_latestRange_19 rfl (lv_at hl 1 rfl) ?_
  refine lv_iload_n hx hb dX3_latestRange_20 rfl (lv_at hl 2 rfl) ?_
  refine coI (ckV (As := [.int (nI i), .int (nI j)]) (rest := [.ref (a 1)]) (c_rLatest l hl9 K a t kn fn kr fr kp fp i j (by omega) (by omega) hSI) ⟨hx, hb, hml, hown, hts⟩ (gV kl_X3_118 ki_X3_requireLatest ks_X3_requireLatest kn_X3 kc_X3_requireLatest) (by show okN yX3_requireLatest 2; decide +kernel) ⟨⟨Nat.le_of_ble_eq_true rfl, Nat.le_of_ble_eq_true rfl⟩, ⟨rfl, rfl⟩, Nat.le_of_ble_eq_true rfl, Nat.le_of_ble_eq_true rfl⟩ hE hP hA hZ [0, 1, 2, 3, 4, 5, 6, 7] rfl ⟨0, 5, _, _, rfl, rfl, rfl⟩ hl.1 rfl (Nat.le_of_ble_eq_true rfl) dX3_latestRange_21) htab hlocks ⟨Nat.le_of_ble_eq_true rfl, Nat.le_of_ble_eq_true rfl⟩ (fun E h => by obtain ⟨h1, h2⟩ := h; exact Or.inr (Or.inr ⟨h1, by omega, by omega, by rw [ix_nI (by omega), ix_nI (by omega)]; exact h2⟩)) (fun v21 e21 => ?_)
  obtain ⟨e9, hv9, hlat⟩ := e21
  have he9 := hlat.1
  rw [hv9]
  refine lv_iload_n hx hb dX3_latestRange_24 rfl (lv_at hl 3 rfl) ?_
  refine goI (rdV (As := [.int (nI e9), .int (nI m9)]) (rest := []) (c_rangeOf l K (fun k => a (1 + k)) t kn fn kr fr kp fp e9 m9 (by omega) (by omega) (by omega) hn (hrs _ he9)) ⟨hx, hb, hml, hown, hts⟩ (gV kl_X3_115 ki_X1_rangeOf ks_X1_rangeOf kn_X1 kc_X1_rangeOf) (by show okN yX1_rangeOf 2; decide +kernel) ⟨⟨Nat.le_of_ble_eq_true rfl, Nat.le_of_ble_eq_true rfl⟩, rfl, rfl⟩ hE hP [1, 2, 3, 4, 5, 6, 7] rfl ⟨0, 3, _, _, rfl, rfl, rfl⟩ hl.1 rfl (Nat.le_of_ble_eq_true rfl) dX3_latestRange_25 ⟨Nat.le_of_ble_eq_true rfl, Nat.le_of_ble_eq_true rfl⟩) (fun v25 e25 => ?_)
  exact vx_ret (eI (v := v25) hx hb hr hlocks (⟨by omega, by omega, by rw [ix_nI (by omega), ix_nI (by omega)]; exact fun g => g _ hlat.1 hlat.2.1, ⟨e9, by rw [ix_nI (by omega), ix_nI (by omega)]; exact hlat, by rw [e25, ix_nI (by omega)]⟩⟩) dX3_latestRange_28)
/-- the greatest size of an error of the first n records -/
def worst (fn fr : Nat → Int32) (m : Nat) : Nat → Int
  | 0 => -1
  | n + 1 => max (worst fn fr m n) (if err fn fr n m < 0 then -(err fn fr n m) else err fn fr n m)
/-- the sum of the errors of the first n records -/
def esum (fn fr : Nat → Int32) (m : Nat) : Nat → Int
  | 0 => 0
  | n + 1 => esum fn fr m n + err fn fr n m
theorem err_rng {kn : Nat} {fn fr : Nat → Int32} {e : Nat} (m : Nat) (hn : ∀ i, i < kn → nOk fn i) (hr : rOk kn fr e) : -4000000 ≤ err fn fr e m ∧ err fn fr e m ≤ 4000000 := by
  have a := rng_rng m hn hr
  have b := len_lt hn hr
  unfold err
  omega
theorem esum_rng {kn : Nat} {fn fr : Nat → Int32} (m : Nat) (hn : ∀ i, i < kn → nOk fn i) : ∀ n, (∀ e, e < n → rOk kn fr e) → -(4000000 * (n : Int)) ≤ esum fn fr m n ∧ esum fn fr m n ≤ 4000000 * (n : Int)
  | 0, _ => by simp [esum]
  | n + 1, h => by
    have a := esum_rng m hn n (fun e he => h e (by omega))
    have b := err_rng m hn (h n (by omega))
    rw [esum]
    omega
set_option maxHeartbeats 4000000 in
set_option maxRecDepth 100000 in
theorem f_worstError (l : Launch) (hl9 : l.stackTraces = false) (K : EK) (a : Nat → Nat) (t : Int64) (kn : Nat) (fn : Nat → Int32) (kr : Nat) (fr : Nat → Int32) (kp : Nat) (fp : Nat → Int32) (p0 : Int32) (hSI : SI (t, (kn, fn), (kr, fr), (kp, fp))) : vx_Met l yX3_worstError (wq yX3_worstError cX3_worstError 4 (some .int)) (rmL 9 1 6) (va_Pc [.ref (a 0), .int p0] (PX K [(a 0, .inr (5, [.ref (a 1), .ref (a 8)])), (a 1, .inr (3, [.long t, .ref (a 2), .ref (a 3), .ref (a 4)])), (a 2, .inr (4, [.ref (a 5), .int (nI 6), .int (nI kn)])), (a 3, .inr (4, [.ref (a 6), .int (nI 8), .int (nI kr)])), (a 4, .inr (4, [.ref (a 7), .int (nI 5), .int (nI kp)])), (a 5, .inl (K.2.1, 36, .inl (fn))), (a 6, .inl (K.2.1, 320, .inl (fr))), (a 7, .inl (K.2.1, 100, .inl (fp)))])) (vp_Si (fun r => (0 ≤ p0.toInt ∧ p0.toInt ≤ 2) ∧ (r.toInt = worst fn fr (ix p0) kr))) (XX (fun E => (E = xIA ∧ ¬ (0 ≤ p0.toInt ∧ p0.toInt ≤ 2)))) 1 6 NF := by
  refine hdX (by decide) (Nat.le_of_ble_eq_true rfl) ?_
  intro pp ee s mm bl9 me9 cd hx hb hr hlocks hml hown hts htab hE hP A hA hZ ls hl
  have hown : s.vm.findClass RX3 = some mm.cls := hown
  have hP : va_P K.1 vwCl [(a 0, .inr (5, [.ref (a 1), .ref (a 8)])), (a 1, .inr (3, [.long t, .ref (a 2), .ref (a 3), .ref (a 4)])), (a 2, .inr (4, [.ref (a 5), .int (nI 6), .int (nI kn)])), (a 3, .inr (4, [.ref (a 6), .int (nI 8), .int (nI kr)])), (a 4, .inr (4, [.ref (a 7), .int (nI 5), .int (nI kp)])), (a 5, .inl (K.2.1, 36, .inl (fn))), (a 6, .inl (K.2.1, 320, .inl (fr))), (a 7, .inl (K.2.1, 100, .inl (fp)))] s.heap := hP
  have hl : lv_has ls 4 [(0, .ref (a 0)), (1, .int p0)] := hl
  have s1 : kn ≤ 6 := hSI.1
  have s2 : kr ≤ 40 := hSI.2.1
  have s3 : kp ≤ 20 := hSI.2.2.1
  have s4 : 0 ≤ t.toInt ∧ t.toInt ≤ 900000000 + 1000000 * (kr : Int) := hSI.2.2.2.1
  have hn : ∀ i, i < kn → nOk fn i := hSI.2.2.2.2.1
  have hrs : ∀ e, e < kr → rOk kn fr e := hSI.2.2.2.2.2.1
  have hps : ∀ k, k < kp → pOk kn fp k := hSI.2.2.2.2.2.2.1
  refine lv_iload_n hx hb dX3_worstError_0 rfl (lv_at hl 1 rfl) ?_
  refine coV (ckS (As := [.int p0]) (rest := []) (c_rMethod l hl9 K p0) ⟨hx, hb, hml, hown, hts⟩ (gS kl_X3_112 kt_X3_requireMethod kn_X3 kc_X3_requireMethod) (by show okN yX3_requireMethod 1; decide +kernel) ⟨⟨Nat.le_of_ble_eq_true rfl, Nat.le_of_ble_eq_true rfl⟩, ⟨rfl, rfl⟩, Nat.le_of_ble_eq_true rfl, Nat.le_of_ble_eq_true rfl⟩ hE hP hA hZ [] rfl hl.1 rfl (Nat.le_of_ble_eq_true rfl) dX3_worstError_1) htab hlocks ⟨Nat.le_of_ble_eq_true rfl, Nat.le_of_ble_eq_true rfl⟩ (fun E h => by obtain ⟨h1, h2⟩ := h; exact ⟨h1, by omega⟩) (fun e1 => ?_)
  obtain ⟨m9, hm9, rfl⟩ := ixLe (n := 2) (show 0 ≤ p0.toInt ∧ p0.toInt ≤ (2 : Nat) by omega) (by omega)
  refine lv_iconst (v := -1) hx hb dX3_worstError_4 (by decide) ?_
  refine lv_istore_n (lv' := [(2, .int (-1)), (0, .ref (a 0)), (1, .int (nI m9))]) hx hb dX3_worstError_5 rfl hl (by decide) rfl (fun ls hl => ?_)
  refine lv_iconst (v := nI 0) hx hb dX3_worstError_6 (by decide) ?_
  refine lv_istore_n (lv' := [(3, .int (nI 0)), (2, .int (-1)), (0, .ref (a 0)), (1, .int (nI m9))]) hx hb dX3_worstError_7 rfl hl (by decide) rfl (fun ls hl => ?_)
  refine lpR (α := Nat × Int32) (fun (x9 : Nat × Int32) => x9.2.toInt = worst fn fr m9 x9.1 ∧ x9.1 ≤ kr) (fun (x9 : Nat × Int32) => kr - x9.1) (fun (x9 : Nat × Int32) => [(0, .ref (a 0)), (1, .int (nI m9)), (2, .int x9.2), (3, .int (nI x9.1))]) 4 8 (fun x9 hI8 ih8 ls hl => ?_) (0, -1) (⟨(by decide : (-1 : Int32).toInt = -1), Nat.zero_le _⟩) ls (lv_sub hl [2, 3, 1, 0] rfl)
  obtain ⟨z, x2⟩ := x9
  have hI8 : x2.toInt = worst fn fr m9 z ∧ z ≤ kr := hI8
  have hl : lv_has ls 4 [(0, .ref (a 0)), (1, .int (nI m9)), (2, .int x2), (3, .int (nI z))] := hl
  refine lv_iload_n hx hb dX3_worstError_8 rfl (lv_at hl 3 rfl) ?_
  refine lv_aload_n hx hb dX3_worstError_9 rfl (lv_at hl 0 rfl) ?_
  refine va_get (D := K.1) (ci := 5) (v := .ref (a 1)) (C := RX3) (T := TX3) (N := 2) hx hb hts inX3 hown hE.1 hP 0 rfl rfl 0 (by decide) (hts _ kf_X3_10) (fun _ h9 => h9) rfl dX3_worstError_10 ?_
  refine va_getN (D := K.1) (ci := 3) (v := .ref (a 3)) (C := RX1) (T := TX1) (N := 4) hx hb hts inX1 hown hE.1 hP 1 rfl rfl 2 (by decide) (va_Nw.use rfl (hE.2.1 _ (List.mem_of_getElem? (i := 4) rfl))) (fun _ h9 => h9) rfl dX3_worstError_13 ?_
  refine va_getN (D := K.1) (ci := 4) (v := .int (nI kr)) (C := RX2) (T := TX2) (N := 3) hx hb hts inX2 hown hE.1 hP 3 rfl rfl 2 (by decide) (va_Nw.use rfl (hE.2.1 _ (List.mem_of_getElem? (i := 0) rfl))) (fun _ h9 => h9) rfl dX3_worstError_16 ?_
  refine lv_icmp_ge (tgt := 45) hx hb dX3_worstError_19 (by decide) (fun c19 => ?_) (fun c19 => ?_)
  · have c19 := (nI_leI (a := kr) (b := z) (by omega) (by omega)).mp c19
    refine lv_iload_n hx hb dX3_worstError_45 rfl (lv_at hl 2 rfl) ?_
    exact vx_ret (eI (v := x2) hx hb hr hlocks (⟨by omega, by rw [ix_nI (by omega), hI8.1, show z = kr by omega]⟩) dX3_worstError_46)
  · have c19 := mt (nI_leI (a := kr) (b := z) (by omega) (by omega)).mpr c19
    refine lv_iload_n hx hb dX3_worstError_22 rfl (lv_at hl 2 rfl) ?_
    refine lv_aload_n hx hb dX3_worstError_23 rfl (lv_at hl 0 rfl) ?_
    refine va_get (D := K.1) (ci := 5) (v := .ref (a 1)) (C := RX3) (T := TX3) (N := 2) hx hb hts inX3 hown hE.1 hP 0 rfl rfl 0 (by decide) (hts _ kf_X3_10) (fun _ h9 => h9) rfl dX3_worstError_24 ?_
    refine lv_iload_n hx hb dX3_worstError_27 rfl (lv_at hl 3 rfl) ?_
    refine lv_iload_n hx hb dX3_worstError_28 rfl (lv_at hl 1 rfl) ?_
    refine goI (rdV (As := [.int (nI z), .int (nI m9)]) (rest := [.int x2]) (c_errorOf l K (fun k => a (1 + k)) t kn fn kr fr kp fp z m9 (by omega) (by omega) (by omega) hn (hrs _ (by omega))) ⟨hx, hb, hml, hown, hts⟩ (gV kl_X3_121 ki_X1_errorOf ks_X1_errorOf kn_X1 kc_X1_errorOf) (by show okN yX1_errorOf 2; decide +kernel) ⟨⟨Nat.le_of_ble_eq_true rfl, Nat.le_of_ble_eq_true rfl⟩, rfl, rfl⟩ hE hP [1, 2, 3, 4, 5, 6, 7] rfl ⟨0, 3, _, _, rfl, rfl, rfl⟩ hl.1 rfl (Nat.le_of_ble_eq_true rfl) dX3_worstError_29 ⟨Nat.le_of_ble_eq_true rfl, Nat.le_of_ble_eq_true rfl⟩) (fun v29 e29 => ?_)
    refine goI (rdS (As := [.int v29]) (rest := [.int x2]) (c_absI l K v29) ⟨hx, hb, hml, hown, hts⟩ (gS kl_X3_124 kt_J9_abs_0f7a4 kn_J9 kc_J9_abs_0f7a4) (by show okN yJ9_abs_0f7a4 1; decide +kernel) ⟨⟨Nat.le_of_ble_eq_true rfl, Nat.le_of_ble_eq_true rfl⟩, rfl, rfl⟩ hE hP [] rfl hl.1 rfl (Nat.le_of_ble_eq_true rfl) dX3_worstError_32 ⟨Nat.le_of_ble_eq_true rfl, Nat.le_of_ble_eq_true rfl⟩) (fun v32 e32 => ?_)
    refine goI (rdS (As := [.int x2, .int v32]) (rest := []) (c_maxI l K x2 v32) ⟨hx, hb, hml, hown, hts⟩ (gS kl_X3_129 kt_J9_max_7cf53 kn_J9 kc_J9_max_7cf53) (by show okN yJ9_max_7cf53 2; decide +kernel) ⟨⟨Nat.le_of_ble_eq_true rfl, Nat.le_of_ble_eq_true rfl⟩, rfl, rfl⟩ hE hP [] rfl hl.1 rfl (Nat.le_of_ble_eq_true rfl) dX3_worstError_35 ⟨Nat.le_of_ble_eq_true rfl, Nat.le_of_ble_eq_true rfl⟩) (fun v35 e35 => ?_)
    refine lv_istore_n (lv' := [(2, .int v35), (0, .ref (a 0)), (1, .int (nI m9)), (3, .int (nI z))]) hx hb dX3_worstError_38 rfl hl (by decide) rfl (fun ls hl => ?_)
    refine lv_iinc (v := nI (z + 1)) (lv' := [(3, .int (nI (z + 1))), (2, .int v35), (0, .ref (a 0)), (1, .int (nI m9))]) hx hb dX3_worstError_39 hl (k := 3) rfl (nI_add z 1) (by decide) rfl (fun ls hl => ?_)
    refine lv_goto (tgt := 8) hx hb dX3_worstError_42 (by decide) ?_
    have he9 := err_rng m9 hn (hrs z (by omega))
    have q32 : v32.toInt = if err fn fr z m9 < 0 then -(err fn fr z m9) else err fn fr z m9 := by
      rw [e32]
      by_cases c : 0 ≤ v29
      · rw [if_pos c, e29, if_neg (by have := leI.mp c; rw [e29, Int32.toInt_zero] at this; omega)]
      · rw [if_neg c, fb_negI (by omega), e29, if_pos (by have := mt leI.mpr c; rw [e29, Int32.toInt_zero] at this; omega)]
    have q35 : v35.toInt = worst fn fr m9 (z + 1) := by
      rw [e35, worst, ← hI8.1, ← q32]
      by_cases c : x2 < v32
      · rw [if_pos c]; have := ltI.mp c; omega
      · rw [if_neg c]; have := mt ltI.mpr c; omega
    have hB8 : v35.toInt = worst fn fr m9 (z + 1) ∧ (z + 1) ≤ kr := ⟨q35, by omega⟩
    exact ih8 (z + 1, v35) (hB8) (by omega) ls (lv_sub hl [2, 3, 1, 0] rfl)
set_option maxHeartbeats 4000000 in
set_option maxRecDepth 100000 in
theorem f_nextPlanned (l : Launch) (K : EK) (a : Nat → Nat) (t : Int64) (kn : Nat) (fn : Nat → Int32) (kr : Nat) (fr : Nat → Int32) (kp : Nat) (fp : Nat → Int32) (hSI : SI (t, (kn, fn), (kr, fr), (kp, fp))) : Met l yX3_nextPlanned (wq yX3_nextPlanned cX3_nextPlanned 1 (some .int)) (rmL 9 0 0) (va_Pc [.ref (a 0)] (PR K [(a 0, .inr (5, [.ref (a 1), .ref (a 8)])), (a 1, .inr (3, [.long t, .ref (a 2), .ref (a 3), .ref (a 4)])), (a 2, .inr (4, [.ref (a 5), .int (nI 6), .int (nI kn)])), (a 3, .inr (4, [.ref (a 6), .int (nI 8), .int (nI kr)])), (a 4, .inr (4, [.ref (a 7), .int (nI 5), .int (nI kp)])), (a 5, .inl (K.2.1, 36, .inl (fn))), (a 6, .inl (K.2.1, 320, .inl (fr))), (a 7, .inl (K.2.1, 100, .inl (fp)))])) (vp_Si (fun r => r.toInt = if kp = 0 then -1 else (pn fp 0 0 : Int))) 0 0 NF := by
  refine hdR (by decide +kernel) (Nat.le_of_ble_eq_true rfl) ?_
  intro pp ee s mm bl9 me9 cd hx hb hr hlocks hml hown hts hE hP ls hl
  have hown : s.vm.findClass RX3 = some mm.cls := hown
  have hP : va_P K.1 vwCl [(a 0, .inr (5, [.ref (a 1), .ref (a 8)])), (a 1, .inr (3, [.long t, .ref (a 2), .ref (a 3), .ref (a 4)])), (a 2, .inr (4, [.ref (a 5), .int (nI 6), .int (nI kn)])), (a 3, .inr (4, [.ref (a 6), .int (nI 8), .int (nI kr)])), (a 4, .inr (4, [.ref (a 7), .int (nI 5), .int (nI kp)])), (a 5, .inl (K.2.1, 36, .inl (fn))), (a 6, .inl (K.2.1, 320, .inl (fr))), (a 7, .inl (K.2.1, 100, .inl (fp)))] s.heap := hP
  have hl : lv_has ls 1 [(0, .ref (a 0))] := hl
  have s1 : kn ≤ 6 := hSI.1
  have s2 : kr ≤ 40 := hSI.2.1
  have s3 : kp ≤ 20 := hSI.2.2.1
  have s4 : 0 ≤ t.toInt ∧ t.toInt ≤ 900000000 + 1000000 * (kr : Int) := hSI.2.2.2.1
  have hn : ∀ i, i < kn → nOk fn i := hSI.2.2.2.2.1
  have hrs : ∀ e, e < kr → rOk kn fr e := hSI.2.2.2.2.2.1
  have hps : ∀ k, k < kp → pOk kn fp k := hSI.2.2.2.2.2.2.1
  refine lv_aload_n hx hb dX3_nextPlanned_0 rfl (lv_at hl 0 rfl) ?_
  refine va_get (D := K.1) (ci := 5) (v := .ref (a 1)) (C := RX3) (T := TX3) (N := 2) hx hb hts inX3 hown hE.1 hP 0 rfl rfl 0 (by decide) (hts _ kf_X3_10) (fun _ h9 => h9) rfl dX3_nextPlanned_1 ?_
  refine va_getN (D := K.1) (ci := 3) (v := .ref (a 4)) (C := RX1) (T := TX1) (N := 4) hx hb hts inX1 hown hE.1 hP 1 rfl rfl 3 (by decide) (va_Nw.use rfl (hE.2.1 _ (List.mem_of_getElem? (i := 5) rfl))) (fun _ h9 => h9) rfl dX3_nextPlanned_4 ?_
  refine va_getN (D := K.1) (ci := 4) (v := .int (nI kp)) (C := RX2) (T := TX2) (N := 3) hx hb hts inX2 hown hE.1 hP 4 rfl rfl 2 (by decide) (va_Nw.use rfl (hE.2.1 _ (List.mem_of_getElem? (i := 0) rfl))) (fun _ h9 => h9) rfl dX3_nextPlanned_7 ?_
  refine lv_if_ne (tgt := 17) hx hb dX3_nextPlanned_10 (by decide) (fun c10 => ?_) (fun c10 => ?_)
  · have c10 := mt (nI_z (n := kp) (by omega)).mpr c10
    refine lv_aload_n hx hb dX3_nextPlanned_17 rfl (lv_at hl 0 rfl) ?_
    refine va_get (D := K.1) (ci := 5) (v := .ref (a 1)) (C := RX3) (T := TX3) (N := 2) hx hb hts inX3 hown hE.1 hP 0 rfl rfl 0 (by decide) (hts _ kf_X3_10) (fun _ h9 => h9) rfl dX3_nextPlanned_18 ?_
    refine va_getN (D := K.1) (ci := 3) (v := .ref (a 4)) (C := RX1) (T := TX1) (N := 4) hx hb hts inX1 hown hE.1 hP 1 rfl rfl 3 (by decide) (va_Nw.use rfl (hE.2.1 _ (List.mem_of_getElem? (i := 5) rfl))) (fun _ h9 => h9) rfl dX3_nextPlanned_21 ?_
    refine lv_iconst (v := nI 0) hx hb dX3_nextPlanned_24 (by decide) ?_
    refine lv_iconst (v := nI 0) hx hb dX3_nextPlanned_25 (by decide) ?_
    refine goI (rdV (As := [.int (nI 0), .int (nI 0)]) (rest := []) (c_get l K (a 4) (a 7) 100 5 kp 0 0 fp (by omega) (by omega)) ⟨hx, hb, hml, hown, hts⟩ (gV kl_X3_64 ki_X2_get ks_X2_get kn_X2 kc_X2_get) (by show okN yX2_get 2; decide +kernel) ⟨⟨Nat.le_of_ble_eq_true rfl, Nat.le_of_ble_eq_true rfl⟩, rfl, rfl⟩ hE hP [4, 7] rfl ⟨0, 4, _, _, rfl, rfl, rfl⟩ hl.1 rfl (Nat.le_of_ble_eq_true rfl) dX3_nextPlanned_26 ⟨Nat.le_of_ble_eq_true rfl, Nat.le_of_ble_eq_true rfl⟩) (fun v26 e26 => ?_)
    exact eI (v := v26) hx hb hr hlocks (by rw [if_neg c10, e26, (hps 0 (by omega)).1 0 (by decide), nI_toInt (by have := (hps 0 (by omega)).2.1; omega)]) dX3_nextPlanned_29
  · have c10 := (nI_z (n := kp) (by omega)).mp c10
    refine lv_iconst (v := -1) hx hb dX3_nextPlanned_13 (by decide) ?_
    refine lv_goto (tgt := 29) hx hb dX3_nextPlanned_14 (by decide) ?_
    exact eI (v := -1) hx hb hr hlocks (by rw [if_pos c10]; decide) dX3_nextPlanned_29
set_option maxHeartbeats 4000000 in
set_option maxRecDepth 100000 in
theorem f_now (l : Launch) (K : EK) (a : Nat → Nat) (t : Int64) (kn : Nat) (fn : Nat → Int32) (kr : Nat) (fr : Nat → Int32) (kp : Nat) (fp : Nat → Int32) (hSI : SI (t, (kn, fn), (kr, fr), (kp, fp))) : Met l yX3_now (wq yX3_now cX3_now 1 (some .long)) (rmL 9 0 0) (va_Pc [.ref (a 0)] (PR K [(a 0, .inr (5, [.ref (a 1), .ref (a 8)])), (a 1, .inr (3, [.long t, .ref (a 2), .ref (a 3), .ref (a 4)])), (a 2, .inr (4, [.ref (a 5), .int (nI 6), .int (nI kn)])), (a 3, .inr (4, [.ref (a 6), .int (nI 8), .int (nI kr)])), (a 4, .inr (4, [.ref (a 7), .int (nI 5), .int (nI kp)])), (a 5, .inl (K.2.1, 36, .inl (fn))), (a 6, .inl (K.2.1, 320, .inl (fr))), (a 7, .inl (K.2.1, 100, .inl (fp)))])) (vp_Sl (fun r => r = t)) 0 0 NF := by
  refine hdR (by decide +kernel) (Nat.le_of_ble_eq_true rfl) ?_
  intro pp ee s mm bl9 me9 cd hx hb hr hlocks hml hown hts hE hP ls hl
  have hown : s.vm.findClass RX3 = some mm.cls := hown
  have hP : va_P K.1 vwCl [(a 0, .inr (5, [.ref (a 1), .ref (a 8)])), (a 1, .inr (3, [.long t, .ref (a 2), .ref (a 3), .ref (a 4)])), (a 2, .inr (4, [.ref (a 5), .int (nI 6), .int (nI kn)])), (a 3, .inr (4, [.ref (a 6), .int (nI 8), .int (nI kr)])), (a 4, .inr (4, [.ref (a 7), .int (nI 5), .int (nI kp)])), (a 5, .inl (K.2.1, 36, .inl (fn))), (a 6, .inl (K.2.1, 320, .inl (fr))), (a 7, .inl (K.2.1, 100, .inl (fp)))] s.heap := hP
  have hl : lv_has ls 1 [(0, .ref (a 0))] := hl
  have s1 : kn ≤ 6 := hSI.1
  have s2 : kr ≤ 40 := hSI.2.1
  have s3 : kp ≤ 20 := hSI.2.2.1
  have s4 : 0 ≤ t.toInt ∧ t.toInt ≤ 900000000 + 1000000 * (kr : Int) := hSI.2.2.2.1
  have hn : ∀ i, i < kn → nOk fn i := hSI.2.2.2.2.1
  have hrs : ∀ e, e < kr → rOk kn fr e := hSI.2.2.2.2.2.1
  have hps : ∀ k, k < kp → pOk kn fp k := hSI.2.2.2.2.2.2.1
  refine lv_aload_n hx hb dX3_now_0 rfl (lv_at hl 0 rfl) ?_
  refine va_get (D := K.1) (ci := 5) (v := .ref (a 1)) (C := RX3) (T := TX3) (N := 2) hx hb hts inX3 hown hE.1 hP 0 rfl rfl 0 (by decide) (hts _ kf_X3_10) (fun _ h9 => h9) rfl dX3_now_1 ?_
  refine va_getN (D := K.1) (ci := 3) (v := .long t) (C := RX1) (T := TX1) (N := 4) hx hb hts inX1 hown hE.1 hP 1 rfl rfl 0 (by decide) (va_Nw.use rfl (hE.2.1 _ (List.mem_of_getElem? (i := 2) rfl))) (fun _ h9 => h9) rfl dX3_now_4 ?_
  exact eL (v := t) hx hb hr hlocks (rfl) dX3_now_7
set_option maxHeartbeats 4000000 in
set_option maxRecDepth 100000 in
theorem f_exchanges (l : Launch) (K : EK) (a : Nat → Nat) (t : Int64) (kn : Nat) (fn : Nat → Int32) (kr : Nat) (fr : Nat → Int32) (kp : Nat) (fp : Nat → Int32) (hSI : SI (t, (kn, fn), (kr, fr), (kp, fp))) : Met l yX3_exchanges (wq yX3_exchanges cX3_exchanges 1 (some .int)) (rmL 9 0 0) (va_Pc [.ref (a 0)] (PR K [(a 0, .inr (5, [.ref (a 1), .ref (a 8)])), (a 1, .inr (3, [.long t, .ref (a 2), .ref (a 3), .ref (a 4)])), (a 2, .inr (4, [.ref (a 5), .int (nI 6), .int (nI kn)])), (a 3, .inr (4, [.ref (a 6), .int (nI 8), .int (nI kr)])), (a 4, .inr (4, [.ref (a 7), .int (nI 5), .int (nI kp)])), (a 5, .inl (K.2.1, 36, .inl (fn))), (a 6, .inl (K.2.1, 320, .inl (fr))), (a 7, .inl (K.2.1, 100, .inl (fp)))])) (vp_Si (fun r => r = nI kr)) 0 0 NF := by
  refine hdR (by decide +kernel) (Nat.le_of_ble_eq_true rfl) ?_
  intro pp ee s mm bl9 me9 cd hx hb hr hlocks hml hown hts hE hP ls hl
  have hown : s.vm.findClass RX3 = some mm.cls := hown
  have hP : va_P K.1 vwCl [(a 0, .inr (5, [.ref (a 1), .ref (a 8)])), (a 1, .inr (3, [.long t, .ref (a 2), .ref (a 3), .ref (a 4)])), (a 2, .inr (4, [.ref (a 5), .int (nI 6), .int (nI kn)])), (a 3, .inr (4, [.ref (a 6), .int (nI 8), .int (nI kr)])), (a 4, .inr (4, [.ref (a 7), .int (nI 5), .int (nI kp)])), (a 5, .inl (K.2.1, 36, .inl (fn))), (a 6, .inl (K.2.1, 320, .inl (fr))), (a 7, .inl (K.2.1, 100, .inl (fp)))] s.heap := hP
  have hl : lv_has ls 1 [(0, .ref (a 0))] := hl
  have s1 : kn ≤ 6 := hSI.1
  have s2 : kr ≤ 40 := hSI.2.1
  have s3 : kp ≤ 20 := hSI.2.2.1
  have s4 : 0 ≤ t.toInt ∧ t.toInt ≤ 900000000 + 1000000 * (kr : Int) := hSI.2.2.2.1
  have hn : ∀ i, i < kn → nOk fn i := hSI.2.2.2.2.1
  have hrs : ∀ e, e < kr → rOk kn fr e := hSI.2.2.2.2.2.1
  have hps : ∀ k, k < kp → pOk kn fp k := hSI.2.2.2.2.2.2.1
  refine lv_aload_n hx hb dX3_exchanges_0 rfl (lv_at hl 0 rfl) ?_
  refine va_get (D := K.1) (ci := 5) (v := .ref (a 1)) (C := RX3) (T := TX3) (N := 2) hx hb hts inX3 hown hE.1 hP 0 rfl rfl 0 (by decide) (hts _ kf_X3_10) (fun _ h9 => h9) rfl dX3_exchanges_1 ?_
  refine va_getN (D := K.1) (ci := 3) (v := .ref (a 3)) (C := RX1) (T := TX1) (N := 4) hx hb hts inX1 hown hE.1 hP 1 rfl rfl 2 (by decide) (va_Nw.use rfl (hE.2.1 _ (List.mem_of_getElem? (i := 4) rfl))) (fun _ h9 => h9) rfl dX3_exchanges_4 ?_
  refine va_getN (D := K.1) (ci := 4) (v := .int (nI kr)) (C := RX2) (T := TX2) (N := 3) hx hb hts inX2 hown hE.1 hP 3 rfl rfl 2 (by decide) (va_Nw.use rfl (hE.2.1 _ (List.mem_of_getElem? (i := 0) rfl))) (fun _ h9 => h9) rfl dX3_exchanges_7 ?_
  exact eI (v := nI kr) hx hb hr hlocks (rfl) dX3_exchanges_10
set_option maxHeartbeats 4000000 in
set_option maxRecDepth 100000 in
theorem f_digest (l : Launch) (K : EK) (a : Nat → Nat) (t : Int64) (kn : Nat) (fn : Nat → Int32) (kr : Nat) (fr : Nat → Int32) (kp : Nat) (fp : Nat → Int32) (hSI : SI (t, (kn, fn), (kr, fr), (kp, fp))) (n cnt : Nat) (hc : cnt ≤ 4) : Met l yX3_digest (wq yX3_digest cX3_digest 3 (some .long)) (rmL 9 0 0) (va_Pc [.ref (a 0)] (PR K [(a 0, .inr (5, [.ref (a 1), .ref (a 8)])), (a 1, .inr (3, [.long t, .ref (a 2), .ref (a 3), .ref (a 4)])), (a 2, .inr (4, [.ref (a 5), .int (nI 6), .int (nI kn)])), (a 3, .inr (4, [.ref (a 6), .int (nI 8), .int (nI kr)])), (a 4, .inr (4, [.ref (a 7), .int (nI 5), .int (nI kp)])), (a 5, .inl (K.2.1, 36, .inl (fn))), (a 6, .inl (K.2.1, 320, .inl (fr))), (a 7, .inl (K.2.1, 100, .inl (fp))), (a 8, .inr (2, [.ref (a 9), .int (nI n), .int (nI cnt)]))])) (vp_Sl (fun r => r = hx1 (dgP fp kp (hx1 (dgR fn fr kr (hx1 (dgN fn t.toInt kn (hx1 (hx1 2797 t) (lN kn))) (lN kr))) (lN kp))) (lN cnt))) 0 0 NF := by
  refine hdR (by decide +kernel) (Nat.le_of_ble_eq_true rfl) ?_
  intro pp ee s mm bl9 me9 cd hx hb hr hlocks hml hown hts hE hP ls hl
  have hown : s.vm.findClass RX3 = some mm.cls := hown
  have hP : va_P K.1 vwCl [(a 0, .inr (5, [.ref (a 1), .ref (a 8)])), (a 1, .inr (3, [.long t, .ref (a 2), .ref (a 3), .ref (a 4)])), (a 2, .inr (4, [.ref (a 5), .int (nI 6), .int (nI kn)])), (a 3, .inr (4, [.ref (a 6), .int (nI 8), .int (nI kr)])), (a 4, .inr (4, [.ref (a 7), .int (nI 5), .int (nI kp)])), (a 5, .inl (K.2.1, 36, .inl (fn))), (a 6, .inl (K.2.1, 320, .inl (fr))), (a 7, .inl (K.2.1, 100, .inl (fp))), (a 8, .inr (2, [.ref (a 9), .int (nI n), .int (nI cnt)]))] s.heap := hP
  have hl : lv_has ls 3 [(0, .ref (a 0))] := hl
  have s1 : kn ≤ 6 := hSI.1
  have s2 : kr ≤ 40 := hSI.2.1
  have s3 : kp ≤ 20 := hSI.2.2.1
  have s4 : 0 ≤ t.toInt ∧ t.toInt ≤ 900000000 + 1000000 * (kr : Int) := hSI.2.2.2.1
  have hn : ∀ i, i < kn → nOk fn i := hSI.2.2.2.2.1
  have hrs : ∀ e, e < kr → rOk kn fr e := hSI.2.2.2.2.2.1
  have hps : ∀ k, k < kp → pOk kn fp k := hSI.2.2.2.2.2.2.1
  refine lv_ldc2 (v := lN 2797) hx hb hown (hts _ kw_X3_175) dX3_digest_0 ?_
  refine lv_aload_n hx hb dX3_digest_3 rfl (lv_at hl 0 rfl) ?_
  refine va_get (D := K.1) (ci := 5) (v := .ref (a 1)) (C := RX3) (T := TX3) (N := 2) hx hb hts inX3 hown hE.1 hP 0 rfl rfl 0 (by decide) (hts _ kf_X3_10) (fun _ h9 => h9) rfl dX3_digest_4 ?_
  refine va_getN (D := K.1) (ci := 3) (v := .long t) (C := RX1) (T := TX1) (N := 4) hx hb hts inX1 hown hE.1 hP 1 rfl rfl 0 (by decide) (va_Nw.use rfl (hE.2.1 _ (List.mem_of_getElem? (i := 2) rfl))) (fun _ h9 => h9) rfl dX3_digest_7 ?_
  refine goL (rdS (As := [.long (lN 2797), .long t]) (rest := []) (c_mix l K (lN 2797) t) ⟨hx, hb, hml, hown, hts⟩ (gS kl_X3_177 kt_X3_mix kn_X3 kc_X3_mix) (by show okN yX3_mix 2; decide +kernel) ⟨⟨Nat.le_of_ble_eq_true rfl, Nat.le_of_ble_eq_true rfl⟩, rfl, rfl⟩ hE hP [] rfl hl.1 rfl (Nat.le_of_ble_eq_true rfl) dX3_digest_10 ⟨Nat.le_of_ble_eq_true rfl, Nat.le_of_ble_eq_true rfl⟩) (fun v10 e10 => ?_)
  refine lv_lstore_n (lv' := [(1, .long v10), (0, .ref (a 0))]) hx hb dX3_digest_13 rfl hl (by decide) rfl (fun ls hl => ?_)
  refine lv_aload_n hx hb dX3_digest_14 rfl (lv_at hl 1 rfl) ?_
  refine va_get (D := K.1) (ci := 5) (v := .ref (a 1)) (C := RX3) (T := TX3) (N := 2) hx hb hts inX3 hown hE.1 hP 0 rfl rfl 0 (by decide) (hts _ kf_X3_10) (fun _ h9 => h9) rfl dX3_digest_15 ?_
  refine lv_lload_n hx hb dX3_digest_18 rfl (lv_at hl 0 rfl) ?_
  refine goL (rdV (As := [.long v10]) (rest := []) (c_mixNodes l K (fun k => a (1 + k)) t kn fn kr fr kp fp v10 (by omega) hn (by omega)) ⟨hx, hb, hml, hown, hts⟩ (gV kl_X3_181 ki_X1_mixNodes ks_X1_mixNodes kn_X1 kc_X1_mixNodes) (by show okN yX1_mixNodes 1; decide +kernel) ⟨⟨Nat.le_of_ble_eq_true rfl, Nat.le_of_ble_eq_true rfl⟩, rfl, rfl⟩ hE hP [1, 2, 3, 4, 5, 6, 7] rfl ⟨0, 3, _, _, rfl, rfl, rfl⟩ hl.1 rfl (Nat.le_of_ble_eq_true rfl) dX3_digest_19 ⟨Nat.le_of_ble_eq_true rfl, Nat.le_of_ble_eq_true rfl⟩) (fun v19 e19 => ?_)
  refine lv_lstore_n (lv' := [(1, .long v19), (0, .ref (a 0))]) hx hb dX3_digest_22 rfl hl (by decide) rfl (fun ls hl => ?_)
  refine lv_aload_n hx hb dX3_digest_23 rfl (lv_at hl 1 rfl) ?_
  refine va_get (D := K.1) (ci := 5) (v := .ref (a 1)) (C := RX3) (T := TX3) (N := 2) hx hb hts inX3 hown hE.1 hP 0 rfl rfl 0 (by decide) (hts _ kf_X3_10) (fun _ h9 => h9) rfl dX3_digest_24 ?_
  refine lv_lload_n hx hb dX3_digest_27 rfl (lv_at hl 0 rfl) ?_
  refine goL (rdV (As := [.long v19]) (rest := []) (c_mixRecords l K (fun k => a (1 + k)) t kn fn kr fr kp fp v19 (by omega) (by omega) hn hrs) ⟨hx, hb, hml, hown, hts⟩ (gV kl_X3_185 ki_X1_mixRecords ks_X1_mixRecords kn_X1 kc_X1_mixRecords) (by show okN yX1_mixRecords 1; decide +kernel) ⟨⟨Nat.le_of_ble_eq_true rfl, Nat.le_of_ble_eq_true rfl⟩, rfl, rfl⟩ hE hP [1, 2, 3, 4, 5, 6, 7] rfl ⟨0, 3, _, _, rfl, rfl, rfl⟩ hl.1 rfl (Nat.le_of_ble_eq_true rfl) dX3_digest_28 ⟨Nat.le_of_ble_eq_true rfl, Nat.le_of_ble_eq_true rfl⟩) (fun v28 e28 => ?_)
  refine lv_lstore_n (lv' := [(1, .long v28), (0, .ref (a 0))]) hx hb dX3_digest_31 rfl hl (by decide) rfl (fun ls hl => ?_)
  refine lv_aload_n hx hb dX3_digest_32 rfl (lv_at hl 1 rfl) ?_
  refine va_get (D := K.1) (ci := 5) (v := .ref (a 1)) (C := RX3) (T := TX3) (N := 2) hx hb hts inX3 hown hE.1 hP 0 rfl rfl 0 (by decide) (hts _ kf_X3_10) (fun _ h9 => h9) rfl dX3_digest_33 ?_
  refine lv_lload_n hx hb dX3_digest_36 rfl (lv_at hl 0 rfl) ?_
  refine goL (rdV (As := [.long v28]) (rest := []) (c_mixPlans l K (fun k => a (1 + k)) t kn fn kr fr kp fp v28 (by omega)) ⟨hx, hb, hml, hown, hts⟩ (gV kl_X3_188 ki_X1_mixPlans ks_X1_mixPlans kn_X1 kc_X1_mixPlans) (by show okN yX1_mixPlans 1; decide +kernel) ⟨⟨Nat.le_of_ble_eq_true rfl, Nat.le_of_ble_eq_true rfl⟩, rfl, rfl⟩ hE hP [1, 2, 3, 4, 5, 6, 7] rfl ⟨0, 3, _, _, rfl, rfl, rfl⟩ hl.1 rfl (Nat.le_of_ble_eq_true rfl) dX3_digest_37 ⟨Nat.le_of_ble_eq_true rfl, Nat.le_of_ble_eq_true rfl⟩) (fun v37 e37 => ?_)
  refine lv_lstore_n (lv' := [(1, .long v37), (0, .ref (a 0))]) hx hb dX3_digest_40 rfl hl (by decide) rfl (fun ls hl => ?_)
  refine lv_lload_n hx hb dX3_digest_41 rfl (lv_at hl 0 rfl) ?_
  refine lv_aload_n hx hb dX3_digest_42 rfl (lv_at hl 1 rfl) ?_
  refine va_get (D := K.1) (ci := 5) (v := .ref (a 8)) (C := RX3) (T := TX3) (N := 2) hx hb hts inX3 hown hE.1 hP 0 rfl rfl 1 (by decide) (hts _ kf_X3_19) (fun _ h9 => h9) rfl dX3_digest_43 ?_
  refine va_getN (D := K.1) (ci := 2) (v := .int (nI cnt)) (C := RX0) (T := TX0) (N := 3) hx hb hts inX0 hown hE.1 hP 8 rfl rfl 2 (by decide) (va_Nw.use rfl (hE.2.1 _ (List.mem_of_getElem? (i := 6) rfl))) (fun _ h9 => h9) rfl dX3_digest_46 ?_
  refine lv_i2l hx hb dX3_digest_49 (nI_l (by omega)) ?_
  refine goL (rdS (As := [.long v37, .long (lN cnt)]) (rest := []) (c_mix l K v37 (lN cnt)) ⟨hx, hb, hml, hown, hts⟩ (gS kl_X3_177 kt_X3_mix kn_X3 kc_X3_mix) (by show okN yX3_mix 2; decide +kernel) ⟨⟨Nat.le_of_ble_eq_true rfl, Nat.le_of_ble_eq_true rfl⟩, rfl, rfl⟩ hE hP [] rfl hl.1 rfl (Nat.le_of_ble_eq_true rfl) dX3_digest_50 ⟨Nat.le_of_ble_eq_true rfl, Nat.le_of_ble_eq_true rfl⟩) (fun v50 e50 => ?_)
  exact eL (v := v50) hx hb hr hlocks (by rw [e50, e37, e28, e19, e10]; rfl) dX3_digest_53
