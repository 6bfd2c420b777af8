theorem nI_z {n : Nat} (h : n < 2 ^ 31) : nI n = 0 ↔ n = 0 := by rw [← nI_0]; exact nI_eq h (by decide)
theorem nI_gz {n : Nat} (h : n < 2 ^ 31) : 0 < nI n ↔ 0 < n := by rw [← nI_0]; exact nI_ltI (by decide) h
theorem nI_lz {n : Nat} (h : n < 2 ^ 31) : nI n ≤ 0 ↔ n ≤ 0 := by rw [← nI_0]; exact nI_leI h (by decide)
set_option maxHeartbeats 4000000 in
set_option maxRecDepth 100000 in
theorem c_isFull (l : Launch) (K : EK) (o b n wN c : Nat) (f : Nat → Int32) (h1 : (c + 1) * wN < 2 ^ 31) (hn : n < 2 ^ 31) (hc : c < 2 ^ 30) : Met l yX2_isFull (wq yX2_isFull cX2_isFull 1 (some .boolean)) (rmL 1 0 0) (va_Pc [.ref o] (PR K [(o, .inr (4, [.ref b, .int (nI wN), .int (nI c)])), (b, .inl (K.2.1, n, .inl (f)))])) (vp_Si (fun r => (r = 1 ∧ n < (c + 1) * wN) ∨ (r = 0 ∧ (c + 1) * wN ≤ n))) 0 0 NF := by
  refine hdR (by decide +kernel) (Nat.le_of_ble_eq_true rfl) ?_
  intro pp ee s mm bl9 me9 cd hx hb hr hlocks hml hown hts hE hP ls hl
  have hown : s.vm.findClass RX2 = some mm.cls := hown
  have hP : va_P K.1 vwCl [(o, .inr (4, [.ref b, .int (nI wN), .int (nI c)])), (b, .inl (K.2.1, n, .inl (f)))] s.heap := hP
  have hl : lv_has ls 1 [(0, .ref o)] := hl
  refine lv_aload_n hx hb dX2_isFull_0 rfl (lv_at hl 0 rfl) ?_
  refine va_get (D := K.1) (ci := 4) (v := .int (nI c)) (C := RX2) (T := TX2) (N := 3) hx hb hts inX2 hown hE.1 hP 0 rfl rfl 2 (by decide) (hts _ kf_X2_19) (fun _ h9 => h9) rfl dX2_isFull_1 ?_
  refine lv_iconst (v := nI 1) hx hb dX2_isFull_4 (by decide) ?_
  refine lv_iadd hx hb dX2_isFull_5 ?_
  rw [nI_add c 1]
  refine lv_aload_n hx hb dX2_isFull_6 rfl (lv_at hl 0 rfl) ?_
  refine va_get (D := K.1) (ci := 4) (v := .int (nI wN)) (C := RX2) (T := TX2) (N := 3) hx hb hts inX2 hown hE.1 hP 0 rfl rfl 1 (by decide) (hts _ kf_X2_15) (fun _ h9 => h9) rfl dX2_isFull_7 ?_
  refine lv_imul hx hb dX2_isFull_10 ?_
  rw [pk_mul (c + 1) wN]
  refine lv_aload_n hx hb dX2_isFull_11 rfl (lv_at hl 0 rfl) ?_
  refine va_get (D := K.1) (ci := 4) (v := .ref b) (C := RX2) (T := TX2) (N := 3) hx hb hts inX2 hown hE.1 hP 0 rfl rfl 0 (by decide) (hts _ kf_X2_9) (fun _ h9 => h9) rfl dX2_isFull_12 ?_
  refine va_alen hx hb hE.1 hP 1 0 rfl rfl rfl dX2_isFull_15 ?_
  refine lv_icmp_le (tgt := 23) hx hb dX2_isFull_16 (by decide) (fun c16 => ?_) (fun c16 => ?_)
  · have c16 := (nI_leI (a := (c + 1) * wN) (b := n) (by omega) (by omega)).mp c16
    refine lv_iconst (v := nI 0) hx hb dX2_isFull_23 (by decide) ?_
    exact eZ (v := nI 0) hx hb hr hlocks (by first | exact Or.inl rfl | exact Or.inr rfl | assumption) (Or.inr ⟨rfl, by omega⟩) dX2_isFull_24
  · have c16 := mt (nI_leI (a := (c + 1) * wN) (b := n) (by omega) (by omega)).mpr c16
    refine lv_iconst (v := nI 1) hx hb dX2_isFull_19 (by decide) ?_
    refine lv_goto (tgt := 24) hx hb dX2_isFull_20 (by decide) ?_
    exact eZ (v := nI 1) hx hb hr hlocks (by first | exact Or.inl rfl | exact Or.inr rfl | assumption) (Or.inl ⟨rfl, by omega⟩) dX2_isFull_24
set_option maxHeartbeats 4000000 in
set_option maxRecDepth 100000 in
theorem c_get (l : Launch) (K : EK) (o b n wN c i j : Nat) (f : Nat → Int32) (hlt : i * wN + j < n) (hn : n < 2 ^ 31) : Met l yX2_get (wq yX2_get cX2_get 4 (some .int)) (rmL 1 0 0) (va_Pc [.ref o, .int (nI i), .int (nI j)] (PR K [(o, .inr (4, [.ref b, .int (nI wN), .int (nI c)])), (b, .inl (K.2.1, n, .inl (f)))])) (vp_Si (fun r => r = f (i * wN + j))) 0 0 NF := by
  refine hdR (by decide +kernel) (Nat.le_of_ble_eq_true rfl) ?_
  intro pp ee s mm bl9 me9 cd hx hb hr hlocks hml hown hts hE hP ls hl
  have hown : s.vm.findClass RX2 = some mm.cls := hown
  have hP : va_P K.1 vwCl [(o, .inr (4, [.ref b, .int (nI wN), .int (nI c)])), (b, .inl (K.2.1, n, .inl (f)))] s.heap := hP
  have hl : lv_has ls 4 [(0, .ref o), (1, .int (nI i)), (2, .int (nI j))] := hl
  refine lv_iload_n hx hb dX2_get_0 rfl (lv_at hl 1 rfl) ?_
  refine lv_aload_n hx hb dX2_get_1 rfl (lv_at hl 0 rfl) ?_
  refine va_get (D := K.1) (ci := 4) (v := .int (nI wN)) (C := RX2) (T := TX2) (N := 3) hx hb hts inX2 hown hE.1 hP 0 rfl rfl 1 (by decide) (hts _ kf_X2_15) (fun _ h9 => h9) rfl dX2_get_2 ?_
  refine lv_imul hx hb dX2_get_5 ?_
  rw [pk_mul i wN]
  refine lv_iload_n hx hb dX2_get_6 rfl (lv_at hl 2 rfl) ?_
  refine lv_iadd hx hb dX2_get_7 ?_
  rw [nI_add (i * wN) j]
  refine lv_istore_n (lv' := [(3, .int (nI (i * wN + j))), (0, .ref o), (1, .int (nI i)), (2, .int (nI j))]) hx hb dX2_get_8 rfl hl (by decide) rfl (fun ls hl => ?_)
  refine lv_iload_n hx hb dX2_get_9 rfl (lv_at hl 0 rfl) ?_
  refine lv_if_lt (tgt := 31) hx hb dX2_get_10 (by decide) (fun c10 => ?_) (fun c10 => ?_)
  · exact absurd c10 (nI_pos (by omega))
  · refine lv_iload_n hx hb dX2_get_13 rfl (lv_at hl 0 rfl) ?_
    refine lv_aload_n hx hb dX2_get_14 rfl (lv_at hl 1 rfl) ?_
    refine va_get (D := K.1) (ci := 4) (v := .ref b) (C := RX2) (T := TX2) (N := 3) hx hb hts inX2 hown hE.1 hP 0 rfl rfl 0 (by decide) (hts _ kf_X2_9) (fun _ h9 => h9) rfl dX2_get_15 ?_
    refine va_alen hx hb hE.1 hP 1 0 rfl rfl rfl dX2_get_18 ?_
    refine lv_icmp_ge (tgt := 31) hx hb dX2_get_19 (by decide) (fun c19 => ?_) (fun c19 => ?_)
    · have c19 := (nI_leI (a := n) (b := i * wN + j) (by omega) (by omega)).mp c19
      omega
    · have c19 := mt (nI_leI (a := n) (b := i * wN + j) (by omega) (by omega)).mpr c19
      refine lv_aload_n hx hb dX2_get_22 rfl (lv_at hl 1 rfl) ?_
      refine va_get (D := K.1) (ci := 4) (v := .ref b) (C := RX2) (T := TX2) (N := 3) hx hb hts inX2 hown hE.1 hP 0 rfl rfl 0 (by decide) (hts _ kf_X2_9) (fun _ h9 => h9) rfl dX2_get_23 ?_
      refine lv_iload_n hx hb dX2_get_26 rfl (lv_at hl 0 rfl) ?_
      have i27 : nI (i * wN + j) = nI (i * wN + j) := rfl
      have j27 : i * wN + j < n := hlt
      refine va_iald hx hb hE.1 hP 1 0 rfl rfl (by rw [i27]; exact vp_in_nI j27 (by omega)) dX2_get_27 ?_
      rw [i27, nI_clamp (by omega)]
      refine lv_topi (fun v27 e27 => ?_)
      refine lv_goto (tgt := 32) hx hb dX2_get_28 (by decide) ?_
      exact eI (v := v27) hx hb hr hlocks (e27) dX2_get_32
set_option maxHeartbeats 4000000 in
set_option maxRecDepth 100000 in
theorem c_set (l : Launch) (K : EK) (o b n wN c i j sz : Nat) (f : Nat → Int32) (x : Int32) (hlt : i * wN + j < n) (hn : n < 2 ^ 31) : Met l yX2_set (wq yX2_set cX2_set 5 none) (rmL 1 0 0) (va_Pc [.ref o, .int (nI i), .int (nI j), .int x] (PW K sz [(o, .inr (4, [.ref b, .int (nI wN), .int (nI c)])), (b, .inl (K.2.1, n, .inl (f)))])) (va_Qv (fun (u : Unit) => True) (Bw K sz [(o, .inr (4, [.ref b, .int (nI wN), .int (nI c)])), (b, .inl (K.2.1, n, .inl (f)))] (fun (u : Unit) => [(o, .inr (4, [.ref b, .int (nI wN), .int (nI c)])), (b, .inl (K.2.1, n, .inl (upd f (i * wN + j) x)))])) (va_A [(o, .inr (4, [.ref b, .int (nI wN), .int (nI c)])), (b, .inl (K.2.1, n, .inl (f)))] sz)) 0 0 (va_A [(o, .inr (4, [.ref b, .int (nI wN), .int (nI c)])), (b, .inl (K.2.1, n, .inl (f)))] sz) := by
  refine hdW (by decide +kernel) (Nat.le_of_ble_eq_true rfl) ?_
  intro pp ee s mm bl9 me9 cd hx hb hr hlocks hml hown hin hts hE hP A hAe hsz hA hD hS ls hl
  have hown : s.vm.findClass RX2 = some mm.cls := hown
  have hP : va_P K.1 vwCl [(o, .inr (4, [.ref b, .int (nI wN), .int (nI c)])), (b, .inl (K.2.1, n, .inl (f)))] s.heap := hP
  have hD : va_D A [(o, .inr (4, [.ref b, .int (nI wN), .int (nI c)])), (b, .inl (K.2.1, n, .inl (f)))] := hD
  have hl : lv_has ls 5 [(0, .ref o), (1, .int (nI i)), (2, .int (nI j)), (3, .int x)] := hl
  refine lv_iload_n hx hb dX2_set_0 rfl (lv_at hl 1 rfl) ?_
  refine lv_aload_n hx hb dX2_set_1 rfl (lv_at hl 0 rfl) ?_
  refine va_get (D := K.1) (ci := 4) (v := .int (nI wN)) (C := RX2) (T := TX2) (N := 3) hx hb hts inX2 hown hE.1 hP 0 rfl rfl 1 (by decide) (hts _ kf_X2_15) (fun _ h9 => h9) rfl dX2_set_2 ?_
  refine lv_imul hx hb dX2_set_5 ?_
  rw [pk_mul i wN]
  refine lv_iload_n hx hb dX2_set_6 rfl (lv_at hl 2 rfl) ?_
  refine lv_iadd hx hb dX2_set_7 ?_
  rw [nI_add (i * wN) j]
  refine lv_istore (lv' := [(4, .int (nI (i * wN + j))), (0, .ref o), (1, .int (nI i)), (2, .int (nI j)), (3, .int x)]) hx hb dX2_set_8 hl (by decide) rfl (fun ls hl => ?_)
  refine lv_iload hx hb dX2_set_10 (lv_at hl 0 rfl) ?_
  refine lv_if_lt (tgt := 33) hx hb dX2_set_12 (by decide) (fun c12 => ?_) (fun c12 => ?_)
  · exact absurd c12 (nI_pos (by omega))
  · refine lv_iload hx hb dX2_set_15 (lv_at hl 0 rfl) ?_
    refine lv_aload_n hx hb dX2_set_17 rfl (lv_at hl 1 rfl) ?_
    refine va_get (D := K.1) (ci := 4) (v := .ref b) (C := RX2) (T := TX2) (N := 3) hx hb hts inX2 hown hE.1 hP 0 rfl rfl 0 (by decide) (hts _ kf_X2_9) (fun _ h9 => h9) rfl dX2_set_18 ?_
    refine va_alen hx hb hE.1 hP 1 0 rfl rfl rfl dX2_set_21 ?_
    refine lv_icmp_ge (tgt := 33) hx hb dX2_set_22 (by decide) (fun c22 => ?_) (fun c22 => ?_)
    · have c22 := (nI_leI (a := n) (b := i * wN + j) (by omega) (by omega)).mp c22
      omega
    · have c22 := mt (nI_leI (a := n) (b := i * wN + j) (by omega) (by omega)).mpr c22
      refine lv_aload_n hx hb dX2_set_25 rfl (lv_at hl 1 rfl) ?_
      refine va_get (D := K.1) (ci := 4) (v := .ref b) (C := RX2) (T := TX2) (N := 3) hx hb hts inX2 hown hE.1 hP 0 rfl rfl 0 (by decide) (hts _ kf_X2_9) (fun _ h9 => h9) rfl dX2_set_26 ?_
      refine lv_iload hx hb dX2_set_29 (lv_at hl 0 rfl) ?_
      refine lv_iload_n hx hb dX2_set_31 rfl (lv_at hl 4 rfl) ?_
      have i32 : nI (i * wN + j) = nI (i * wN + j) := rfl
      have j32 : i * wN + j < n := hlt
      refine va_iast hx hb hE.1 hP hD hS 1 0 rfl rfl (by rw [i32]; exact vp_in_nI j32 (by omega)) dX2_set_32 (fun H locs hP hD hS => ?_)
      rw [i32, nI_clamp (by omega)] at hP hD
      have hP : va_P K.1 vwCl [(o, .inr (4, [.ref b, .int (nI wN), .int (nI c)])), (b, .inl (K.2.1, n, .inl (upd f (i * wN + j) x)))] H := hP
      have hD : va_D A [(o, .inr (4, [.ref b, .int (nI wN), .int (nI c)])), (b, .inl (K.2.1, n, .inl (upd f (i * wN + j) x)))] := hD
      exact fV (()) hx hb hr hlocks hAe hP hD hS [0, 1] (by decide) rfl (trivial) dX2_set_33
set_option maxHeartbeats 4000000 in
set_option maxRecDepth 100000 in
theorem c_openRow (l : Launch) (K : EK) (o b n wN c i sz : Nat) (f : Nat → Int32) (hi : i ≤ c) (h1 : (c + 1) * wN ≤ n) (hn : n < 2 ^ 31) (hc : c < 2 ^ 30) : Met l yX2_openRow (wq yX2_openRow cX2_openRow 2 (some .int)) (rmL 3 0 0) (va_Pc [.ref o, .int (nI i)] (PW K sz [(o, .inr (4, [.ref b, .int (nI wN), .int (nI c)])), (b, .inl (K.2.1, n, .inl (f)))])) (va_Qi (fun r (u : Unit) => r = nI i) (Bw K sz [(o, .inr (4, [.ref b, .int (nI wN), .int (nI c)])), (b, .inl (K.2.1, n, .inl (f)))] (fun (u : Unit) => [(o, .inr (4, [.ref b, .int (nI wN), .int (nI (c + 1))])), (b, .inl (K.2.1, n, .inl (va_cpy f f (i * wN) ((i + 1) * wN) ((c - i) * wN))))])) (va_A [(o, .inr (4, [.ref b, .int (nI wN), .int (nI c)])), (b, .inl (K.2.1, n, .inl (f)))] sz)) 0 0 (va_A [(o, .inr (4, [.ref b, .int (nI wN), .int (nI c)])), (b, .inl (K.2.1, n, .inl (f)))] sz) := by
  refine hdW (by decide +kernel) (Nat.le_of_ble_eq_true rfl) ?_
  intro pp ee s mm bl9 me9 cd hx hb hr hlocks hml hown hin hts hE hP A hAe hsz hA hD hS ls hl
  have hown : s.vm.findClass RX2 = some mm.cls := hown
  have hP : va_P K.1 vwCl [(o, .inr (4, [.ref b, .int (nI wN), .int (nI c)])), (b, .inl (K.2.1, n, .inl (f)))] s.heap := hP
  have hD : va_D A [(o, .inr (4, [.ref b, .int (nI wN), .int (nI c)])), (b, .inl (K.2.1, n, .inl (f)))] := hD
  have hl : lv_has ls 2 [(0, .ref o), (1, .int (nI i))] := hl
  have g1 : i * wN + (c - i) * wN = c * wN := by rw [← Nat.add_mul]; congr 1; omega
  have g2 : (i + 1) * wN + (c - i) * wN = (c + 1) * wN := by rw [← Nat.add_mul]; congr 1; omega
  have g3 : c * wN ≤ (c + 1) * wN := Nat.mul_le_mul_right _ (by omega)
  have g4 : (i + 1) * wN ≤ (c + 1) * wN := Nat.mul_le_mul_right _ (by omega)
  have g5 : i * wN ≤ (i + 1) * wN := Nat.mul_le_mul_right _ (by omega)
  refine lv_aload_n hx hb dX2_openRow_0 rfl (lv_at hl 0 rfl) ?_
  refine goI (rdV (As := []) (rest := []) (c_isFull l K o b n wN c f (by omega) hn hc) ⟨hx, hb, hml, hown, hts⟩ (gV kl_X2_22 ki_X2_isFull ks_X2_isFull kn_X2 kc_X2_isFull) (by show okN yX2_isFull 0; decide +kernel) ⟨⟨Nat.le_of_ble_eq_true rfl, Nat.le_of_ble_eq_true rfl⟩, rfl, rfl⟩ hE hP [0, 1] rfl ⟨0, 4, _, _, rfl, rfl, rfl⟩ hl.1 rfl (Nat.le_of_ble_eq_true rfl) dX2_openRow_1 ⟨Nat.le_of_ble_eq_true rfl, Nat.le_of_ble_eq_true rfl⟩) (fun v1 e1 => ?_)
  refine lv_if_ne (tgt := 19) hx hb dX2_openRow_4 (by decide) (fun c4 => ?_) (fun c4 => ?_)
  · rcases e1 with q | q
    · omega
    · exact absurd q.1 c4
  · refine lv_iload_n hx hb dX2_openRow_7 rfl (lv_at hl 1 rfl) ?_
    refine lv_if_lt (tgt := 19) hx hb dX2_openRow_8 (by decide) (fun c8 => ?_) (fun c8 => ?_)
    · exact absurd c8 (nI_pos (by omega))
    · refine lv_iload_n hx hb dX2_openRow_11 rfl (lv_at hl 1 rfl) ?_
      refine lv_aload_n hx hb dX2_openRow_12 rfl (lv_at hl 0 rfl) ?_
      refine va_get (D := K.1) (ci := 4) (v := .int (nI c)) (C := RX2) (T := TX2) (N := 3) hx hb hts inX2 hown hE.1 hP 0 rfl rfl 2 (by decide) (hts _ kf_X2_19) (fun _ h9 => h9) rfl dX2_openRow_13 ?_
      refine lv_icmp_le (tgt := 21) hx hb dX2_openRow_16 (by decide) (fun c16 => ?_) (fun c16 => ?_)
      · have c16 := (nI_leI (a := i) (b := c) (by omega) (by omega)).mp c16
        refine lv_aload_n hx hb dX2_openRow_21 rfl (lv_at hl 0 rfl) ?_
        refine va_get (D := K.1) (ci := 4) (v := .ref b) (C := RX2) (T := TX2) (N := 3) hx hb hts inX2 hown hE.1 hP 0 rfl rfl 0 (by decide) (hts _ kf_X2_9) (fun _ h9 => h9) rfl dX2_openRow_22 ?_
        refine lv_iload_n hx hb dX2_openRow_25 rfl (lv_at hl 1 rfl) ?_
        refine lv_aload_n hx hb dX2_openRow_26 rfl (lv_at hl 0 rfl) ?_
        refine va_get (D := K.1) (ci := 4) (v := .int (nI wN)) (C := RX2) (T := TX2) (N := 3) hx hb hts inX2 hown hE.1 hP 0 rfl rfl 1 (by decide) (hts _ kf_X2_15) (fun _ h9 => h9) rfl dX2_openRow_27 ?_
        refine lv_imul hx hb dX2_openRow_30 ?_
        rw [pk_mul i wN]
        refine lv_aload_n hx hb dX2_openRow_31 rfl (lv_at hl 0 rfl) ?_
        refine va_get (D := K.1) (ci := 4) (v := .ref b) (C := RX2) (T := TX2) (N := 3) hx hb hts inX2 hown hE.1 hP 0 rfl rfl 0 (by decide) (hts _ kf_X2_9) (fun _ h9 => h9) rfl dX2_openRow_32 ?_
        refine lv_iload_n hx hb dX2_openRow_35 rfl (lv_at hl 1 rfl) ?_
        refine lv_iconst (v := nI 1) hx hb dX2_openRow_36 (by decide) ?_
        refine lv_iadd hx hb dX2_openRow_37 ?_
        rw [nI_add i 1]
        refine lv_aload_n hx hb dX2_openRow_38 rfl (lv_at hl 0 rfl) ?_
        refine va_get (D := K.1) (ci := 4) (v := .int (nI wN)) (C := RX2) (T := TX2) (N := 3) hx hb hts inX2 hown hE.1 hP 0 rfl rfl 1 (by decide) (hts _ kf_X2_15) (fun _ h9 => h9) rfl dX2_openRow_39 ?_
        refine lv_imul hx hb dX2_openRow_42 ?_
        rw [pk_mul (i + 1) wN]
        refine lv_aload_n hx hb dX2_openRow_43 rfl (lv_at hl 0 rfl) ?_
        refine va_get (D := K.1) (ci := 4) (v := .int (nI c)) (C := RX2) (T := TX2) (N := 3) hx hb hts inX2 hown hE.1 hP 0 rfl rfl 2 (by decide) (hts _ kf_X2_19) (fun _ h9 => h9) rfl dX2_openRow_44 ?_
        refine lv_iload_n hx hb dX2_openRow_47 rfl (lv_at hl 1 rfl) ?_
        refine lv_isub hx hb dX2_openRow_48 ?_
        rw [pk_sub (hi : i ≤ c)]
        refine lv_aload_n hx hb dX2_openRow_49 rfl (lv_at hl 0 rfl) ?_
        refine va_get (D := K.1) (ci := 4) (v := .int (nI wN)) (C := RX2) (T := TX2) (N := 3) hx hb hts inX2 hown hE.1 hP 0 rfl rfl 1 (by decide) (hts _ kf_X2_15) (fun _ h9 => h9) rfl dX2_openRow_50 ?_
        refine lv_imul hx hb dX2_openRow_53 ?_
        rw [pk_mul (c - i) wN]
        refine va_copyi hx hb (hml.trans hl.1.symm) hown (hts _ kl_X2_26) (hts _ kx_arraycopyName) (hts _ kt_arraycopyName) (hts _ kn_J10) hE.1 hP hD hS 1 1 0 0 rfl rfl rfl rfl rfl (nI_pos (by omega)) (nI_pos (by omega)) (nI_pos (by omega)) (by rw [nI_clamp (show i * wN < 2 ^ 31 from by omega), nI_clamp (show (c - i) * wN < 2 ^ 31 from by omega)]; omega) (by rw [nI_clamp (show (i + 1) * wN < 2 ^ 31 from by omega), nI_clamp (show (c - i) * wN < 2 ^ 31 from by omega)]; omega) (fun _ _ => rfl) (Nat.le_of_ble_eq_true rfl) (by decide +kernel) dX2_openRow_54 (fun H locs hP hD hS => ?_)
        rw [nI_clamp (show i * wN < 2 ^ 31 from by omega), nI_clamp (show (i + 1) * wN < 2 ^ 31 from by omega), nI_clamp (show (c - i) * wN < 2 ^ 31 from by omega)] at hP hD
        have hP : va_P K.1 vwCl [(o, .inr (4, [.ref b, .int (nI wN), .int (nI c)])), (b, .inl (K.2.1, n, .inl (va_cpy f f (i * wN) ((i + 1) * wN) ((c - i) * wN))))] H := hP
        have hD : va_D A [(o, .inr (4, [.ref b, .int (nI wN), .int (nI c)])), (b, .inl (K.2.1, n, .inl (va_cpy f f (i * wN) ((i + 1) * wN) ((c - i) * wN))))] := hD
        refine lv_aload_n hx hb dX2_openRow_57 rfl (lv_at hl 0 rfl) ?_
        refine lv_dup hx hb dX2_openRow_58 rfl ?_
        refine va_get (D := K.1) (ci := 4) (v := .int (nI c)) (C := RX2) (T := TX2) (N := 3) hx hb hts inX2 hown hE.1 hP 0 rfl rfl 2 (by decide) (hts _ kf_X2_19) (fun _ h9 => h9) rfl dX2_openRow_59 ?_
        refine lv_iconst (v := nI 1) hx hb dX2_openRow_62 (by decide) ?_
        refine lv_iadd hx hb dX2_openRow_63 ?_
        rw [nI_add c 1]
        refine va_put (D := K.1) (ci := 4) (v := .int (nI (c + 1))) (ty := .int) (C := RX2) (T := TX2) (N := 3) hx hb hts inX2 tyX2 tyX2_ok nmX2 hown hE.1 hP hD hS 0 rfl rfl 2 (by decide) (hts _ kf_X2_19) (fun _ h9 => h9) rfl (by decide +kernel) rfl rfl (Nat.le_of_ble_eq_true rfl) dX2_openRow_64 (fun H locs hP hD hS => ?_)
        have hP : va_P K.1 vwCl [(o, .inr (4, [.ref b, .int (nI wN), .int (nI (c + 1))])), (b, .inl (K.2.1, n, .inl (va_cpy f f (i * wN) ((i + 1) * wN) ((c - i) * wN))))] H := hP
        have hD : va_D A [(o, .inr (4, [.ref b, .int (nI wN), .int (nI (c + 1))])), (b, .inl (K.2.1, n, .inl (va_cpy f f (i * wN) ((i + 1) * wN) ((c - i) * wN))))] := hD
        refine lv_iload_n hx hb dX2_openRow_67 rfl (lv_at hl 1 rfl) ?_
        exact fI (v := nI i) (()) hx hb hr hlocks hAe hP hD hS [0, 1] (by decide) rfl (rfl) dX2_openRow_68
      · have c16 := mt (nI_leI (a := i) (b := c) (by omega) (by omega)).mpr c16
        omega
set_option maxHeartbeats 4000000 in
set_option maxRecDepth 100000 in
theorem c_removeFirstRow (l : Launch) (K : EK) (o b n wN c sz : Nat) (f : Nat → Int32) (h1 : (c + 1) * wN ≤ n) (hn : n < 2 ^ 31) (hc : c < 2 ^ 30) : Met l yX2_removeFirstRow (wq yX2_removeFirstRow cX2_removeFirstRow 1 none) (rmL 3 0 0) (va_Pc [.ref o] (PW K sz [(o, .inr (4, [.ref b, .int (nI wN), .int (nI (c + 1))])), (b, .inl (K.2.1, n, .inl (f)))])) (va_Qv (fun (u : Unit) => True) (Bw K sz [(o, .inr (4, [.ref b, .int (nI wN), .int (nI (c + 1))])), (b, .inl (K.2.1, n, .inl (f)))] (fun (u : Unit) => [(o, .inr (4, [.ref b, .int (nI wN), .int (nI c)])), (b, .inl (K.2.1, n, .inl (va_cpy f f wN 0 (c * wN))))])) (va_A [(o, .inr (4, [.ref b, .int (nI wN), .int (nI (c + 1))])), (b, .inl (K.2.1, n, .inl (f)))] sz)) 0 0 (va_A [(o, .inr (4, [.ref b, .int (nI wN), .int (nI (c + 1))])), (b, .inl (K.2.1, n, .inl (f)))] sz) := by
  refine hdW (by decide +kernel) (Nat.le_of_ble_eq_true rfl) ?_
  intro pp ee s mm bl9 me9 cd hx hb hr hlocks hml hown hin hts hE hP A hAe hsz hA hD hS ls hl
  have hown : s.vm.findClass RX2 = some mm.cls := hown
  have hP : va_P K.1 vwCl [(o, .inr (4, [.ref b, .int (nI wN), .int (nI (c + 1))])), (b, .inl (K.2.1, n, .inl (f)))] s.heap := hP
  have hD : va_D A [(o, .inr (4, [.ref b, .int (nI wN), .int (nI (c + 1))])), (b, .inl (K.2.1, n, .inl (f)))] := hD
  have hl : lv_has ls 1 [(0, .ref o)] := hl
  have g2 : (c + 1) * wN = c * wN + wN := by rw [Nat.add_mul, Nat.one_mul]
  refine lv_aload_n hx hb dX2_removeFirstRow_0 rfl (lv_at hl 0 rfl) ?_
  refine va_get (D := K.1) (ci := 4) (v := .int (nI (c + 1))) (C := RX2) (T := TX2) (N := 3) hx hb hts inX2 hown hE.1 hP 0 rfl rfl 2 (by decide) (hts _ kf_X2_19) (fun _ h9 => h9) rfl dX2_removeFirstRow_1 ?_
  refine lv_if_le (tgt := 42) hx hb dX2_removeFirstRow_4 (by decide) (fun c4 => ?_) (fun c4 => ?_)
  · have c4 := (nI_lz (n := c + 1) (by omega)).mp c4
    omega
  · have c4 := mt (nI_lz (n := c + 1) (by omega)).mpr c4
    refine lv_aload_n hx hb dX2_removeFirstRow_7 rfl (lv_at hl 0 rfl) ?_
    refine lv_dup hx hb dX2_removeFirstRow_8 rfl ?_
    refine va_get (D := K.1) (ci := 4) (v := .int (nI (c + 1))) (C := RX2) (T := TX2) (N := 3) hx hb hts inX2 hown hE.1 hP 0 rfl rfl 2 (by decide) (hts _ kf_X2_19) (fun _ h9 => h9) rfl dX2_removeFirstRow_9 ?_
    refine lv_iconst (v := nI 1) hx hb dX2_removeFirstRow_12 (by decide) ?_
    refine lv_isub hx hb dX2_removeFirstRow_13 ?_
    rw [pk_sub (by omega : 1 ≤ c + 1)]
    rw [show (c + 1) - 1 = c from by omega]
    refine va_put (D := K.1) (ci := 4) (v := .int (nI c)) (ty := .int) (C := RX2) (T := TX2) (N := 3) hx hb hts inX2 tyX2 tyX2_ok nmX2 hown hE.1 hP hD hS 0 rfl rfl 2 (by decide) (hts _ kf_X2_19) (fun _ h9 => h9) rfl (by decide +kernel) rfl rfl (Nat.le_of_ble_eq_true rfl) dX2_removeFirstRow_14 (fun H locs hP hD hS => ?_)
    have hP : va_P K.1 vwCl [(o, .inr (4, [.ref b, .int (nI wN), .int (nI c)])), (b, .inl (K.2.1, n, .inl (f)))] H := hP
    have hD : va_D A [(o, .inr (4, [.ref b, .int (nI wN), .int (nI c)])), (b, .inl (K.2.1, n, .inl (f)))] := hD
    refine lv_aload_n hx hb dX2_removeFirstRow_17 rfl (lv_at hl 0 rfl) ?_
    refine va_get (D := K.1) (ci := 4) (v := .ref b) (C := RX2) (T := TX2) (N := 3) hx hb hts inX2 hown hE.1 hP 0 rfl rfl 0 (by decide) (hts _ kf_X2_9) (fun _ h9 => h9) rfl dX2_removeFirstRow_18 ?_
    refine lv_aload_n hx hb dX2_removeFirstRow_21 rfl (lv_at hl 0 rfl) ?_
    refine va_get (D := K.1) (ci := 4) (v := .int (nI wN)) (C := RX2) (T := TX2) (N := 3) hx hb hts inX2 hown hE.1 hP 0 rfl rfl 1 (by decide) (hts _ kf_X2_15) (fun _ h9 => h9) rfl dX2_removeFirstRow_22 ?_
    refine lv_aload_n hx hb dX2_removeFirstRow_25 rfl (lv_at hl 0 rfl) ?_
    refine va_get (D := K.1) (ci := 4) (v := .ref b) (C := RX2) (T := TX2) (N := 3) hx hb hts inX2 hown hE.1 hP 0 rfl rfl 0 (by decide) (hts _ kf_X2_9) (fun _ h9 => h9) rfl dX2_removeFirstRow_26 ?_
    refine lv_iconst (v := nI 0) hx hb dX2_removeFirstRow_29 (by decide) ?_
    refine lv_aload_n hx hb dX2_removeFirstRow_30 rfl (lv_at hl 0 rfl) ?_
    refine va_get (D := K.1) (ci := 4) (v := .int (nI c)) (C := RX2) (T := TX2) (N := 3) hx hb hts inX2 hown hE.1 hP 0 rfl rfl 2 (by decide) (hts _ kf_X2_19) (fun _ h9 => h9) rfl dX2_removeFirstRow_31 ?_
    refine lv_aload_n hx hb dX2_removeFirstRow_34 rfl (lv_at hl 0 rfl) ?_
    refine va_get (D := K.1) (ci := 4) (v := .int (nI wN)) (C := RX2) (T := TX2) (N := 3) hx hb hts inX2 hown hE.1 hP 0 rfl rfl 1 (by decide) (hts _ kf_X2_15) (fun _ h9 => h9) rfl dX2_removeFirstRow_35 ?_
    refine lv_imul hx hb dX2_removeFirstRow_38 ?_
    rw [pk_mul c wN]
    refine va_copyi hx hb (hml.trans hl.1.symm) hown (hts _ kl_X2_26) (hts _ kx_arraycopyName) (hts _ kt_arraycopyName) (hts _ kn_J10) hE.1 hP hD hS 1 1 0 0 rfl rfl rfl rfl rfl (nI_pos (by omega)) (nI_pos (by omega)) (nI_pos (by omega)) (by rw [nI_clamp (show wN < 2 ^ 31 from by omega), nI_clamp (show c * wN < 2 ^ 31 from by omega)]; omega) (by rw [nI_clamp (show 0 < 2 ^ 31 from by omega), nI_clamp (show c * wN < 2 ^ 31 from by omega)]; omega) (fun _ _ => rfl) (Nat.le_of_ble_eq_true rfl) (by decide +kernel) dX2_removeFirstRow_39 (fun H locs hP hD hS => ?_)
    rw [nI_clamp (show wN < 2 ^ 31 from by omega), nI_clamp (show 0 < 2 ^ 31 from by omega), nI_clamp (show c * wN < 2 ^ 31 from by omega)] at hP hD
    have hP : va_P K.1 vwCl [(o, .inr (4, [.ref b, .int (nI wN), .int (nI c)])), (b, .inl (K.2.1, n, .inl (va_cpy f f wN 0 (c * wN))))] H := hP
    have hD : va_D A [(o, .inr (4, [.ref b, .int (nI wN), .int (nI c)])), (b, .inl (K.2.1, n, .inl (va_cpy f f wN 0 (c * wN))))] := hD
    exact fV (()) hx hb hr hlocks hAe hP hD hS [0, 1] (by decide) rfl (trivial) dX2_removeFirstRow_42
set_option maxHeartbeats 4000000 in
set_option maxRecDepth 100000 in
theorem c_tcopy (l : Launch) (K : EK) (o b n wN c sz o2 b2 n2 w2 c2 : Nat) (f g : Nat → Int32) (h1 : c2 * wN ≤ n) (h2 : c2 * wN ≤ n2) (hn : n < 2 ^ 31) (hn2 : n2 < 2 ^ 31) : Met l yX2_copyFrom (wq yX2_copyFrom cX2_copyFrom 3 none) (rmL 3 0 0) (va_Pc [.ref o, .ref o2] (PW K sz [(o, .inr (4, [.ref b, .int (nI wN), .int (nI c)])), (b, .inl (K.2.1, n, .inl (f))), (o2, .inr (4, [.ref b2, .int (nI w2), .int (nI c2)])), (b2, .inl (K.2.1, n2, .inl (g)))])) (va_Qv (fun (u : Unit) => True) (Bw K sz [(o, .inr (4, [.ref b, .int (nI wN), .int (nI c)])), (b, .inl (K.2.1, n, .inl (f))), (o2, .inr (4, [.ref b2, .int (nI w2), .int (nI c2)])), (b2, .inl (K.2.1, n2, .inl (g)))] (fun (u : Unit) => [(o, .inr (4, [.ref b, .int (nI wN), .int (nI c2)])), (b, .inl (K.2.1, n, .inl (va_cpy g f 0 0 (c2 * wN)))), (o2, .inr (4, [.ref b2, .int (nI w2), .int (nI c2)])), (b2, .inl (K.2.1, n2, .inl (g)))])) (va_A [(o, .inr (4, [.ref b, .int (nI wN), .int (nI c)])), (b, .inl (K.2.1, n, .inl (f))), (o2, .inr (4, [.ref b2, .int (nI w2), .int (nI c2)])), (b2, .inl (K.2.1, n2, .inl (g)))] sz)) 0 0 (va_A [(o, .inr (4, [.ref b, .int (nI wN), .int (nI c)])), (b, .inl (K.2.1, n, .inl (f))), (o2, .inr (4, [.ref b2, .int (nI w2), .int (nI c2)])), (b2, .inl (K.2.1, n2, .inl (g)))] sz) := by
  refine hdW (by decide +kernel) (Nat.le_of_ble_eq_true rfl) ?_
  intro pp ee s mm bl9 me9 cd hx hb hr hlocks hml hown hin hts hE hP A hAe hsz hA hD hS ls hl
  have hown : s.vm.findClass RX2 = some mm.cls := hown
  have hP : va_P K.1 vwCl [(o, .inr (4, [.ref b, .int (nI wN), .int (nI c)])), (b, .inl (K.2.1, n, .inl (f))), (o2, .inr (4, [.ref b2, .int (nI w2), .int (nI c2)])), (b2, .inl (K.2.1, n2, .inl (g)))] s.heap := hP
  have hD : va_D A [(o, .inr (4, [.ref b, .int (nI wN), .int (nI c)])), (b, .inl (K.2.1, n, .inl (f))), (o2, .inr (4, [.ref b2, .int (nI w2), .int (nI c2)])), (b2, .inl (K.2.1, n2, .inl (g)))] := hD
  have hl : lv_has ls 3 [(0, .ref o), (1, .ref o2)] := hl
  refine lv_aload_n hx hb dX2_copyFrom_0 rfl (lv_at hl 1 rfl) ?_
  refine va_get (D := K.1) (ci := 4) (v := .int (nI c2)) (C := RX2) (T := TX2) (N := 3) hx hb hts inX2 hown hE.1 hP 2 rfl rfl 2 (by decide) (hts _ kf_X2_19) (fun _ h9 => h9) rfl dX2_copyFrom_1 ?_
  refine lv_aload_n hx hb dX2_copyFrom_4 rfl (lv_at hl 0 rfl) ?_
  refine va_get (D := K.1) (ci := 4) (v := .int (nI wN)) (C := RX2) (T := TX2) (N := 3) hx hb hts inX2 hown hE.1 hP 0 rfl rfl 1 (by decide) (hts _ kf_X2_15) (fun _ h9 => h9) rfl dX2_copyFrom_5 ?_
  refine lv_imul hx hb dX2_copyFrom_8 ?_
  rw [pk_mul c2 wN]
  refine lv_istore_n (lv' := [(2, .int (nI (c2 * wN))), (0, .ref o), (1, .ref o2)]) hx hb dX2_copyFrom_9 rfl hl (by decide) rfl (fun ls hl => ?_)
  refine lv_iload_n hx hb dX2_copyFrom_10 rfl (lv_at hl 0 rfl) ?_
  refine lv_aload_n hx hb dX2_copyFrom_11 rfl (lv_at hl 1 rfl) ?_
  refine va_get (D := K.1) (ci := 4) (v := .ref b) (C := RX2) (T := TX2) (N := 3) hx hb hts inX2 hown hE.1 hP 0 rfl rfl 0 (by decide) (hts _ kf_X2_9) (fun _ h9 => h9) rfl dX2_copyFrom_12 ?_
  refine va_alen hx hb hE.1 hP 1 0 rfl rfl rfl dX2_copyFrom_15 ?_
  refine lv_icmp_gt (tgt := 50) hx hb dX2_copyFrom_16 (by decide) (fun c16 => ?_) (fun c16 => ?_)
  · have c16 := (nI_ltI (a := n) (b := c2 * wN) (by omega) (by omega)).mp c16
    omega
  · have c16 := mt (nI_ltI (a := n) (b := c2 * wN) (by omega) (by omega)).mpr c16
    refine lv_iload_n hx hb dX2_copyFrom_19 rfl (lv_at hl 0 rfl) ?_
    refine lv_aload_n hx hb dX2_copyFrom_20 rfl (lv_at hl 2 rfl) ?_
    refine va_get (D := K.1) (ci := 4) (v := .ref b2) (C := RX2) (T := TX2) (N := 3) hx hb hts inX2 hown hE.1 hP 2 rfl rfl 0 (by decide) (hts _ kf_X2_9) (fun _ h9 => h9) rfl dX2_copyFrom_21 ?_
    refine va_alen hx hb hE.1 hP 3 0 rfl rfl rfl dX2_copyFrom_24 ?_
    refine lv_icmp_gt (tgt := 50) hx hb dX2_copyFrom_25 (by decide) (fun c25 => ?_) (fun c25 => ?_)
    · have c25 := (nI_ltI (a := n2) (b := c2 * wN) (by omega) (by omega)).mp c25
      omega
    · have c25 := mt (nI_ltI (a := n2) (b := c2 * wN) (by omega) (by omega)).mpr c25
      refine lv_aload_n hx hb dX2_copyFrom_28 rfl (lv_at hl 2 rfl) ?_
      refine va_get (D := K.1) (ci := 4) (v := .ref b2) (C := RX2) (T := TX2) (N := 3) hx hb hts inX2 hown hE.1 hP 2 rfl rfl 0 (by decide) (hts _ kf_X2_9) (fun _ h9 => h9) rfl dX2_copyFrom_29 ?_
      refine lv_iconst (v := nI 0) hx hb dX2_copyFrom_32 (by decide) ?_
      refine lv_aload_n hx hb dX2_copyFrom_33 rfl (lv_at hl 1 rfl) ?_
      refine va_get (D := K.1) (ci := 4) (v := .ref b) (C := RX2) (T := TX2) (N := 3) hx hb hts inX2 hown hE.1 hP 0 rfl rfl 0 (by decide) (hts _ kf_X2_9) (fun _ h9 => h9) rfl dX2_copyFrom_34 ?_
      refine lv_iconst (v := nI 0) hx hb dX2_copyFrom_37 (by decide) ?_
      refine lv_iload_n hx hb dX2_copyFrom_38 rfl (lv_at hl 0 rfl) ?_
      refine va_copyi hx hb (hml.trans hl.1.symm) hown (hts _ kl_X2_26) (hts _ kx_arraycopyName) (hts _ kt_arraycopyName) (hts _ kn_J10) hE.1 hP hD hS 3 1 0 0 rfl rfl rfl rfl rfl (nI_pos (by omega)) (nI_pos (by omega)) (nI_pos (by omega)) (by rw [nI_clamp (show 0 < 2 ^ 31 from by omega), nI_clamp (show c2 * wN < 2 ^ 31 from by omega)]; omega) (by rw [nI_clamp (show 0 < 2 ^ 31 from by omega), nI_clamp (show c2 * wN < 2 ^ 31 from by omega)]; omega) (fun _ _ => rfl) (Nat.le_of_ble_eq_true rfl) (by decide +kernel) dX2_copyFrom_39 (fun H locs hP hD hS => ?_)
      rw [nI_clamp (show 0 < 2 ^ 31 from by omega), nI_clamp (show c2 * wN < 2 ^ 31 from by omega)] at hP hD
      have hP : va_P K.1 vwCl [(o, .inr (4, [.ref b, .int (nI wN), .int (nI c)])), (b, .inl (K.2.1, n, .inl (va_cpy g f 0 0 (c2 * wN)))), (o2, .inr (4, [.ref b2, .int (nI w2), .int (nI c2)])), (b2, .inl (K.2.1, n2, .inl (g)))] H := hP
      have hD : va_D A [(o, .inr (4, [.ref b, .int (nI wN), .int (nI c)])), (b, .inl (K.2.1, n, .inl (va_cpy g f 0 0 (c2 * wN)))), (o2, .inr (4, [.ref b2, .int (nI w2), .int (nI c2)])), (b2, .inl (K.2.1, n2, .inl (g)))] := hD
      refine lv_aload_n hx hb dX2_copyFrom_42 rfl (lv_at hl 1 rfl) ?_
      refine lv_aload_n hx hb dX2_copyFrom_43 rfl (lv_at hl 2 rfl) ?_
      refine va_get (D := K.1) (ci := 4) (v := .int (nI c2)) (C := RX2) (T := TX2) (N := 3) hx hb hts inX2 hown hE.1 hP 2 rfl rfl 2 (by decide) (hts _ kf_X2_19) (fun _ h9 => h9) rfl dX2_copyFrom_44 ?_
      refine va_put (D := K.1) (ci := 4) (v := .int (nI c2)) (ty := .int) (C := RX2) (T := TX2) (N := 3) hx hb hts inX2 tyX2 tyX2_ok nmX2 hown hE.1 hP hD hS 0 rfl rfl 2 (by decide) (hts _ kf_X2_19) (fun _ h9 => h9) rfl (by decide +kernel) rfl rfl (Nat.le_of_ble_eq_true rfl) dX2_copyFrom_47 (fun H locs hP hD hS => ?_)
      have hP : va_P K.1 vwCl [(o, .inr (4, [.ref b, .int (nI wN), .int (nI c2)])), (b, .inl (K.2.1, n, .inl (va_cpy g f 0 0 (c2 * wN)))), (o2, .inr (4, [.ref b2, .int (nI w2), .int (nI c2)])), (b2, .inl (K.2.1, n2, .inl (g)))] H := hP
      have hD : va_D A [(o, .inr (4, [.ref b, .int (nI wN), .int (nI c2)])), (b, .inl (K.2.1, n, .inl (va_cpy g f 0 0 (c2 * wN)))), (o2, .inr (4, [.ref b2, .int (nI w2), .int (nI c2)])), (b2, .inl (K.2.1, n2, .inl (g)))] := hD
      exact fV (()) hx hb hr hlocks hAe hP hD hS [0, 1, 2, 3] (by decide) rfl (trivial) dX2_copyFrom_50
