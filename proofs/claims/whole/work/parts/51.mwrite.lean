/-! the reference: what it writes -/
def Gs (u : Int32) (P1 P2 P3 : Prop) : Prop := (u = 1 ∧ ¬ P1) ∨ (u = 2 ∧ P1 ∧ ¬ P2) ∨ (u = 3 ∧ P1 ∧ P2 ∧ ¬ P3) ∨ (u = 0 ∧ P1 ∧ P2 ∧ P3)
theorem Gs.ok {u : Int32} {P1 P2 P3 : Prop} (h : Gs u P1 P2 P3) (g : P1 ∧ P2 ∧ P3) : u = 0 := by
  rcases h with q | q | q | q
  · exact absurd g.1 q.2
  · exact absurd g.2.1 q.2.2
  · exact absurd g.2.2 q.2.2.2
  · exact q.1
theorem Gs.no {u : Int32} {P1 P2 P3 : Prop} (h : Gs u P1 P2 P3) (g : u = 0) : P1 ∧ P2 ∧ P3 := by
  rcases h with q | q | q | q
  · exact absurd (q.1.symm.trans g) (by decide)
  · exact absurd (q.1.symm.trans g) (by decide)
  · exact absurd (q.1.symm.trans g) (by decide)
  · exact q.2
set_option maxHeartbeats 4000000 in
set_option maxRecDepth 100000 in
theorem m_goes (l : Launch) (K : EK) (b : Nat → Nat) (sm th : Int32) (f1 f2 f3 : Int32) (P1 P2 P3 : Prop) (k1 : Bo f1 P1) (k2 : Bo f2 P2) (k3 : Bo f3 P3) (sz : Nat) : Met l yX4_goes (wq yX4_goes cX4_goes 4 (some .boolean)) (rmL 1 0 0) (va_Pc [.ref (b 0), .int f1, .int f2, .int f3] (PW K sz [(b 0, .inr (6, [.ref (b 1), .ref (b 2), .int sm, .int th]))])) (va_Qi (fun r (u : Int32) => Gs u P1 P2 P3 ∧ Bo r (P1 ∧ P2 ∧ P3)) (Bw K sz [(b 0, .inr (6, [.ref (b 1), .ref (b 2), .int sm, .int th]))] (fun (u : Int32) => [(b 0, .inr (6, [.ref (b 1), .ref (b 2), .int sm, .int u]))])) (va_A [(b 0, .inr (6, [.ref (b 1), .ref (b 2), .int sm, .int th]))] sz)) 0 0 (va_A [(b 0, .inr (6, [.ref (b 1), .ref (b 2), .int sm, .int th]))] sz) := by
  refine hdW (by decide +kernel) (Nat.le_of_ble_eq_true rfl) ?_
  intro pp ee s mm bl9 me9 cd hx hb hr hlocks hml hown hin hts hE hP A hAe hsz hA hD hS ls hl
  have hown : s.vm.findClass RX4 = some mm.cls := hown
  have hP : va_P K.1 vwCl [(b 0, .inr (6, [.ref (b 1), .ref (b 2), .int sm, .int th]))] s.heap := hP
  have hD : va_D A [(b 0, .inr (6, [.ref (b 1), .ref (b 2), .int sm, .int th]))] := hD
  have hl : lv_has ls 4 [(0, .ref (b 0)), (1, .int f1), (2, .int f2), (3, .int f3)] := hl
  refine lv_aload_n hx hb dX4_goes_0 rfl (lv_at hl 0 rfl) ?_
  refine lv_iload_n hx hb dX4_goes_1 rfl (lv_at hl 1 rfl) ?_
  refine lv_if_ne (tgt := 9) hx hb dX4_goes_2 (by decide) (fun c2 => ?_) (fun c2 => ?_)
  · refine lv_iload_n hx hb dX4_goes_9 rfl (lv_at hl 2 rfl) ?_
    refine lv_if_ne (tgt := 17) hx hb dX4_goes_10 (by decide) (fun c10 => ?_) (fun c10 => ?_)
    · refine lv_iload_n hx hb dX4_goes_17 rfl (lv_at hl 3 rfl) ?_
      refine lv_if_ne (tgt := 25) hx hb dX4_goes_18 (by decide) (fun c18 => ?_) (fun c18 => ?_)
      · refine lv_iconst (v := nI 0) hx hb dX4_goes_25 (by decide) ?_
        refine va_put (D := K.1) (ci := 6) (v := .int (nI 0)) (ty := .int) (C := RX4) (T := TX4) (N := 4) hx hb hts inX4 tyX4 tyX4_ok nmX4 hown hE.1 hP hD hS 0 rfl rfl 3 (by decide) (hts _ kf_X4_16) (fun _ h9 => h9) rfl (by decide +kernel) rfl rfl (Nat.le_of_ble_eq_true rfl) dX4_goes_26 (fun H locs hP hD hS => ?_)
        have hP : va_P K.1 vwCl [(b 0, .inr (6, [.ref (b 1), .ref (b 2), .int sm, .int (nI 0)]))] H := hP
        have hD : va_D A [(b 0, .inr (6, [.ref (b 1), .ref (b 2), .int sm, .int (nI 0)]))] := hD
        refine lv_aload_n hx hb dX4_goes_29 rfl (lv_at hl 0 rfl) ?_
        refine va_get (D := K.1) (ci := 6) (v := .int (nI 0)) (C := RX4) (T := TX4) (N := 4) hx hb hts inX4 hown hE.1 hP 0 rfl rfl 3 (by decide) (hts _ kf_X4_16) (fun _ h9 => h9) rfl dX4_goes_30 ?_
        refine lv_if_ne (tgt := 40) hx hb dX4_goes_33 (by decide) (fun c33 => ?_) (fun c33 => ?_)
        · have c33 := mt (nI_z (n := 0) (by omega)).mpr c33
          refine lv_iconst (v := nI 0) hx hb dX4_goes_40 (by decide) ?_
          exact fZ (v := nI 0) (nI 0) hx hb hr hlocks hAe hP hD hS [0] (by decide) rfl (by first | exact Or.inl rfl | exact Or.inr rfl | assumption) (by exfalso; omega) dX4_goes_41
        · have c33 := (nI_z (n := 0) (by omega)).mp c33
          refine lv_iconst (v := nI 1) hx hb dX4_goes_36 (by decide) ?_
          refine lv_goto (tgt := 41) hx hb dX4_goes_37 (by decide) ?_
          exact fZ (v := nI 1) (nI 0) hx hb hr hlocks hAe hP hD hS [0] (by decide) rfl (by first | exact Or.inl rfl | exact Or.inr rfl | assumption) (⟨Or.inr (Or.inr (Or.inr ⟨rfl, k1.t c2, k2.t c10, k3.t c18⟩)), Or.inl ⟨rfl, k1.t c2, k2.t c10, k3.t c18⟩⟩) dX4_goes_41
      · refine lv_iconst (v := nI 3) hx hb dX4_goes_21 (by decide) ?_
        refine lv_goto (tgt := 26) hx hb dX4_goes_22 (by decide) ?_
        refine va_put (D := K.1) (ci := 6) (v := .int (nI 3)) (ty := .int) (C := RX4) (T := TX4) (N := 4) hx hb hts inX4 tyX4 tyX4_ok nmX4 hown hE.1 hP hD hS 0 rfl rfl 3 (by decide) (hts _ kf_X4_16) (fun _ h9 => h9) rfl (by decide +kernel) rfl rfl (Nat.le_of_ble_eq_true rfl) dX4_goes_26 (fun H locs hP hD hS => ?_)
        have hP : va_P K.1 vwCl [(b 0, .inr (6, [.ref (b 1), .ref (b 2), .int sm, .int (nI 3)]))] H := hP
        have hD : va_D A [(b 0, .inr (6, [.ref (b 1), .ref (b 2), .int sm, .int (nI 3)]))] := hD
        refine lv_aload_n hx hb dX4_goes_29 rfl (lv_at hl 0 rfl) ?_
        refine va_get (D := K.1) (ci := 6) (v := .int (nI 3)) (C := RX4) (T := TX4) (N := 4) hx hb hts inX4 hown hE.1 hP 0 rfl rfl 3 (by decide) (hts _ kf_X4_16) (fun _ h9 => h9) rfl dX4_goes_30 ?_
        refine lv_if_ne (tgt := 40) hx hb dX4_goes_33 (by decide) (fun c33 => ?_) (fun c33 => ?_)
        · have c33 := mt (nI_z (n := 3) (by omega)).mpr c33
          refine lv_iconst (v := nI 0) hx hb dX4_goes_40 (by decide) ?_
          exact fZ (v := nI 0) (nI 3) hx hb hr hlocks hAe hP hD hS [0] (by decide) rfl (by first | exact Or.inl rfl | exact Or.inr rfl | assumption) (⟨Or.inr (Or.inr (Or.inl ⟨rfl, k1.t c2, k2.t c10, k3.f c18⟩)), Or.inr ⟨rfl, fun g => k3.f c18 g.2.2⟩⟩) dX4_goes_41
        · have c33 := (nI_z (n := 3) (by omega)).mp c33
          refine lv_iconst (v := nI 1) hx hb dX4_goes_36 (by decide) ?_
          refine lv_goto (tgt := 41) hx hb dX4_goes_37 (by decide) ?_
          exact fZ (v := nI 1) (nI 3) hx hb hr hlocks hAe hP hD hS [0] (by decide) rfl (by first | exact Or.inl rfl | exact Or.inr rfl | assumption) (by exfalso; omega) dX4_goes_41
    · refine lv_iconst (v := nI 2) hx hb dX4_goes_13 (by decide) ?_
      refine lv_goto (tgt := 26) hx hb dX4_goes_14 (by decide) ?_
      refine va_put (D := K.1) (ci := 6) (v := .int (nI 2)) (ty := .int) (C := RX4) (T := TX4) (N := 4) hx hb hts inX4 tyX4 tyX4_ok nmX4 hown hE.1 hP hD hS 0 rfl rfl 3 (by decide) (hts _ kf_X4_16) (fun _ h9 => h9) rfl (by decide +kernel) rfl rfl (Nat.le_of_ble_eq_true rfl) dX4_goes_26 (fun H locs hP hD hS => ?_)
      have hP : va_P K.1 vwCl [(b 0, .inr (6, [.ref (b 1), .ref (b 2), .int sm, .int (nI 2)]))] H := hP
      have hD : va_D A [(b 0, .inr (6, [.ref (b 1), .ref (b 2), .int sm, .int (nI 2)]))] := hD
      refine lv_aload_n hx hb dX4_goes_29 rfl (lv_at hl 0 rfl) ?_
      refine va_get (D := K.1) (ci := 6) (v := .int (nI 2)) (C := RX4) (T := TX4) (N := 4) hx hb hts inX4 hown hE.1 hP 0 rfl rfl 3 (by decide) (hts _ kf_X4_16) (fun _ h9 => h9) rfl dX4_goes_30 ?_
      refine lv_if_ne (tgt := 40) hx hb dX4_goes_33 (by decide) (fun c33 => ?_) (fun c33 => ?_)
      · have c33 := mt (nI_z (n := 2) (by omega)).mpr c33
        refine lv_iconst (v := nI 0) hx hb dX4_goes_40 (by decide) ?_
        exact fZ (v := nI 0) (nI 2) hx hb hr hlocks hAe hP hD hS [0] (by decide) rfl (by first | exact Or.inl rfl | exact Or.inr rfl | assumption) (⟨Or.inr (Or.inl ⟨rfl, k1.t c2, k2.f c10⟩), Or.inr ⟨rfl, fun g => k2.f c10 g.2.1⟩⟩) dX4_goes_41
      · have c33 := (nI_z (n := 2) (by omega)).mp c33
        refine lv_iconst (v := nI 1) hx hb dX4_goes_36 (by decide) ?_
        refine lv_goto (tgt := 41) hx hb dX4_goes_37 (by decide) ?_
        exact fZ (v := nI 1) (nI 2) hx hb hr hlocks hAe hP hD hS [0] (by decide) rfl (by first | exact Or.inl rfl | exact Or.inr rfl | assumption) (by exfalso; omega) dX4_goes_41
  · refine lv_iconst (v := nI 1) hx hb dX4_goes_5 (by decide) ?_
    refine lv_goto (tgt := 26) hx hb dX4_goes_6 (by decide) ?_
    refine va_put (D := K.1) (ci := 6) (v := .int (nI 1)) (ty := .int) (C := RX4) (T := TX4) (N := 4) hx hb hts inX4 tyX4 tyX4_ok nmX4 hown hE.1 hP hD hS 0 rfl rfl 3 (by decide) (hts _ kf_X4_16) (fun _ h9 => h9) rfl (by decide +kernel) rfl rfl (Nat.le_of_ble_eq_true rfl) dX4_goes_26 (fun H locs hP hD hS => ?_)
    have hP : va_P K.1 vwCl [(b 0, .inr (6, [.ref (b 1), .ref (b 2), .int sm, .int (nI 1)]))] H := hP
    have hD : va_D A [(b 0, .inr (6, [.ref (b 1), .ref (b 2), .int sm, .int (nI 1)]))] := hD
    refine lv_aload_n hx hb dX4_goes_29 rfl (lv_at hl 0 rfl) ?_
    refine va_get (D := K.1) (ci := 6) (v := .int (nI 1)) (C := RX4) (T := TX4) (N := 4) hx hb hts inX4 hown hE.1 hP 0 rfl rfl 3 (by decide) (hts _ kf_X4_16) (fun _ h9 => h9) rfl dX4_goes_30 ?_
    refine lv_if_ne (tgt := 40) hx hb dX4_goes_33 (by decide) (fun c33 => ?_) (fun c33 => ?_)
    · have c33 := mt (nI_z (n := 1) (by omega)).mpr c33
      refine lv_iconst (v := nI 0) hx hb dX4_goes_40 (by decide) ?_
      exact fZ (v := nI 0) (nI 1) hx hb hr hlocks hAe hP hD hS [0] (by decide) rfl (by first | exact Or.inl rfl | exact Or.inr rfl | assumption) (⟨Or.inl ⟨rfl, k1.f c2⟩, Or.inr ⟨rfl, fun g => k1.f c2 g.1⟩⟩) dX4_goes_41
    · have c33 := (nI_z (n := 1) (by omega)).mp c33
      refine lv_iconst (v := nI 1) hx hb dX4_goes_36 (by decide) ?_
      refine lv_goto (tgt := 41) hx hb dX4_goes_37 (by decide) ?_
      exact fZ (v := nI 1) (nI 1) hx hb hr hlocks hAe hP hD hS [0] (by decide) rfl (by first | exact Or.inl rfl | exact Or.inr rfl | assumption) (by exfalso; omega) dX4_goes_41
def savR (al sv : Nat → Int64) (sm : Nat) (sv2 : Nat → Int64) (sm2 : Nat) : Prop := sm2 = min (sm + 1) 4 ∧ (∀ j, j < 460 → sv2 (460 * (sm2 - 1) + j) = al j) ∧ ∀ i j, i + 1 < sm2 → j < 460 → sv2 (460 * i + j) = sv (460 * (i + (if sm = 4 then 1 else 0)) + j)
theorem ul_eq {f : Nat → Int64} {k : Nat} {x : Int64} : vp_updL f k x k = x := if_pos rfl
theorem ul_ne {f : Nat → Int64} {k j : Nat} {x : Int64} (h : j ≠ k) : vp_updL f k x j = f j := if_neg h
set_option maxHeartbeats 4000000 in
set_option maxRecDepth 100000 in
theorem m_save (l : Launch) (K : EK) (b : Nat → Nat) (m : Nat) (th : Int32) (al sv : Nat → Int64) (sz : Nat) (hm : m ≤ 4) : Met l yX4_save (wq yX4_save cX4_save 2 none) (rmL 1 0 0) (va_Pc [.ref (b 0)] (PW K sz [(b 0, .inr (6, [.ref (b 1), .ref (b 2), .int (nI m), .int th])), (b 1, .inl (K.2.2.1, 460, .inr (.inl (al)))), (b 2, .inl (K.2.2.1, 1840, .inr (.inl (sv))))])) (va_Qv (fun (u : (Nat → Int64) × Nat) => savR al sv m u.1 u.2) (Bw K sz [(b 0, .inr (6, [.ref (b 1), .ref (b 2), .int (nI m), .int th])), (b 1, .inl (K.2.2.1, 460, .inr (.inl (al)))), (b 2, .inl (K.2.2.1, 1840, .inr (.inl (sv))))] (fun (u : (Nat → Int64) × Nat) => [(b 0, .inr (6, [.ref (b 1), .ref (b 2), .int (nI u.2), .int th])), (b 1, .inl (K.2.2.1, 460, .inr (.inl (al)))), (b 2, .inl (K.2.2.1, 1840, .inr (.inl (u.1))))])) (va_A [(b 0, .inr (6, [.ref (b 1), .ref (b 2), .int (nI m), .int th])), (b 1, .inl (K.2.2.1, 460, .inr (.inl (al)))), (b 2, .inl (K.2.2.1, 1840, .inr (.inl (sv))))] sz)) 0 0 (va_A [(b 0, .inr (6, [.ref (b 1), .ref (b 2), .int (nI m), .int th])), (b 1, .inl (K.2.2.1, 460, .inr (.inl (al)))), (b 2, .inl (K.2.2.1, 1840, .inr (.inl (sv))))] sz) := by
  refine hdW (by decide +kernel) (Nat.le_of_ble_eq_true rfl) ?_
  intro pp ee s mm bl9 me9 cd hx hb hr hlocks hml hown hin hts hE hP A hAe hsz hA hD hS ls hl
  have hown : s.vm.findClass RX4 = some mm.cls := hown
  have hP : va_P K.1 vwCl [(b 0, .inr (6, [.ref (b 1), .ref (b 2), .int (nI m), .int th])), (b 1, .inl (K.2.2.1, 460, .inr (.inl (al)))), (b 2, .inl (K.2.2.1, 1840, .inr (.inl (sv))))] s.heap := hP
  have hD : va_D A [(b 0, .inr (6, [.ref (b 1), .ref (b 2), .int (nI m), .int th])), (b 1, .inl (K.2.2.1, 460, .inr (.inl (al)))), (b 2, .inl (K.2.2.1, 1840, .inr (.inl (sv))))] := hD
  have hl : lv_has ls 2 [(0, .ref (b 0))] := hl
  refine lv_aload_n hx hb dX4_save_0 rfl (lv_at hl 0 rfl) ?_
  refine va_get (D := K.1) (ci := 6) (v := .int (nI m)) (C := RX4) (T := TX4) (N := 4) hx hb hts inX4 hown hE.1 hP 0 rfl rfl 2 (by decide) (hts _ kf_X4_20) (fun _ h9 => h9) rfl dX4_save_1 ?_
  refine lv_iconst (v := nI 4) hx hb dX4_save_4 (by decide) ?_
  refine lv_icmp_ne (tgt := 49) hx hb dX4_save_5 (by decide) (fun c5 => ?_) (fun c5 => ?_)
  · have c5 := mt (nI_eq (a := m) (b := 4) (by omega) (by omega)).mpr c5
    refine lv_iconst (v := nI 0) hx hb dX4_save_49 (by decide) ?_
    refine lv_istore_n (lv' := [(1, .int (nI 0)), (0, .ref (b 0))]) hx hb dX4_save_50 rfl hl (by decide) rfl (fun ls hl => ?_)
    refine lpW (K := K) (A := A) (H0 := s.heap) (α := Nat × (Nat → Int64)) (fun (x9 : Nat × (Nat → Int64)) => (∀ j, j < x9.1 → x9.2 (460 * m + j) = al j) ∧ (∀ q, q < 460 * m → x9.2 q = sv q) ∧ x9.1 ≤ 460) (fun (x9 : Nat × (Nat → Int64)) => 460 - x9.1) (fun (x9 : Nat × (Nat → Int64)) => [(0, .ref (b 0)), (1, .int (nI x9.1))]) (fun (x9 : Nat × (Nat → Int64)) => [(b 0, .inr (6, [.ref (b 1), .ref (b 2), .int (nI m), .int th])), (b 1, .inl (K.2.2.1, 460, .inr (.inl (al)))), (b 2, .inl (K.2.2.1, 1840, .inr (.inl (x9.2))))]) 2 51 (fun x9 hI51 ih51 ls H locs hl hP hD hS => ?_) (0, sv) (⟨fun j hj => absurd hj (Nat.not_lt_zero _), fun q hq => rfl, Nat.zero_le _⟩) ls _ _ (lv_sub hl [1, 0] rfl) hP hD hS
    obtain ⟨z, f⟩ := x9
    have hI51 : (∀ j, j < z → f (460 * m + j) = al j) ∧ (∀ q, q < 460 * m → f q = sv q) ∧ z ≤ 460 := hI51
    have hl : lv_has ls 2 [(0, .ref (b 0)), (1, .int (nI z))] := hl
    have hP : va_P K.1 vwCl [(b 0, .inr (6, [.ref (b 1), .ref (b 2), .int (nI m), .int th])), (b 1, .inl (K.2.2.1, 460, .inr (.inl (al)))), (b 2, .inl (K.2.2.1, 1840, .inr (.inl (f))))] H := hP
    have hD : va_D A [(b 0, .inr (6, [.ref (b 1), .ref (b 2), .int (nI m), .int th])), (b 1, .inl (K.2.2.1, 460, .inr (.inl (al)))), (b 2, .inl (K.2.2.1, 1840, .inr (.inl (f))))] := hD
    refine lv_iload_n hx hb dX4_save_51 rfl (lv_at hl 1 rfl) ?_
    refine lv_sipush (v := nI 460) hx hb dX4_save_52 (by decide) ?_
    refine lv_icmp_ge (tgt := 85) hx hb dX4_save_55 (by decide) (fun c55 => ?_) (fun c55 => ?_)
    · have c55 := (nI_leI (a := 460) (b := z) (by omega) (by omega)).mp c55
      refine lv_aload_n hx hb dX4_save_85 rfl (lv_at hl 0 rfl) ?_
      refine lv_dup hx hb dX4_save_86 rfl ?_
      refine va_get (D := K.1) (ci := 6) (v := .int (nI m)) (C := RX4) (T := TX4) (N := 4) hx hb hts inX4 hown hE.1 hP 0 rfl rfl 2 (by decide) (hts _ kf_X4_20) (fun _ h9 => h9) rfl dX4_save_87 ?_
      refine lv_iconst (v := nI 1) hx hb dX4_save_90 (by decide) ?_
      refine lv_iadd hx hb dX4_save_91 ?_
      rw [nI_add m 1]
      refine va_put (D := K.1) (ci := 6) (v := .int (nI (m + 1))) (ty := .int) (C := RX4) (T := TX4) (N := 4) hx hb hts inX4 tyX4 tyX4_ok nmX4 hown hE.1 hP hD hS 0 rfl rfl 2 (by decide) (hts _ kf_X4_20) (fun _ h9 => h9) rfl (by decide +kernel) rfl rfl (Nat.le_of_ble_eq_true rfl) dX4_save_92 (fun H locs hP hD hS => ?_)
      have hP : va_P K.1 vwCl [(b 0, .inr (6, [.ref (b 1), .ref (b 2), .int (nI (m + 1)), .int th])), (b 1, .inl (K.2.2.1, 460, .inr (.inl (al)))), (b 2, .inl (K.2.2.1, 1840, .inr (.inl (f))))] H := hP
      have hD : va_D A [(b 0, .inr (6, [.ref (b 1), .ref (b 2), .int (nI (m + 1)), .int th])), (b 1, .inl (K.2.2.1, 460, .inr (.inl (al)))), (b 2, .inl (K.2.2.1, 1840, .inr (.inl (f))))] := hD
      exact fV ((f, m + 1)) hx hb hr hlocks hAe hP hD hS [0, 1, 2] (by decide) rfl (⟨by omega, fun j hj => hI51.1 j (by omega), fun i j h1 h2 => by rw [if_neg c5]; exact hI51.2.1 _ (by omega)⟩) dX4_save_95
    · have c55 := mt (nI_leI (a := 460) (b := z) (by omega) (by omega)).mpr c55
      refine lv_aload_n hx hb dX4_save_58 rfl (lv_at hl 0 rfl) ?_
      refine va_get (D := K.1) (ci := 6) (v := .ref (b 2)) (C := RX4) (T := TX4) (N := 4) hx hb hts inX4 hown hE.1 hP 0 rfl rfl 1 (by decide) (hts _ kf_X4_13) (fun _ h9 => h9) rfl dX4_save_59 ?_
      refine lv_sipush (v := nI 460) hx hb dX4_save_62 (by decide) ?_
      refine lv_aload_n hx hb dX4_save_65 rfl (lv_at hl 0 rfl) ?_
      refine va_get (D := K.1) (ci := 6) (v := .int (nI m)) (C := RX4) (T := TX4) (N := 4) hx hb hts inX4 hown hE.1 hP 0 rfl rfl 2 (by decide) (hts _ kf_X4_20) (fun _ h9 => h9) rfl dX4_save_66 ?_
      refine lv_imul hx hb dX4_save_69 ?_
      rw [pk_mul 460 m]
      refine lv_iload_n hx hb dX4_save_70 rfl (lv_at hl 1 rfl) ?_
      refine lv_iadd hx hb dX4_save_71 ?_
      rw [nI_add (460 * m) z]
      refine lv_aload_n hx hb dX4_save_72 rfl (lv_at hl 0 rfl) ?_
      refine va_get (D := K.1) (ci := 6) (v := .ref (b 1)) (C := RX4) (T := TX4) (N := 4) hx hb hts inX4 hown hE.1 hP 0 rfl rfl 0 (by decide) (hts _ kf_X4_7) (fun _ h9 => h9) rfl dX4_save_73 ?_
      refine lv_iload_n hx hb dX4_save_76 rfl (lv_at hl 1 rfl) ?_
      have i77 : nI z = nI z := rfl
      have j77 : z < 460 := by omega
      refine va_lald hx hb hE.1 hP 1 1 rfl rfl (by rw [i77]; exact vp_in_nI j77 (by omega)) dX4_save_77 ?_
      rw [i77, nI_clamp (by omega)]
      refine lv_topl (fun v77 e77 => ?_)
      have i78 : nI (460 * m + z) = nI (460 * m + z) := rfl
      have j78 : 460 * m + z < 1840 := by omega
      refine va_last hx hb hE.1 hP hD hS 2 1 rfl rfl (by rw [i78]; exact vp_in_nI j78 (by omega)) dX4_save_78 (fun H locs hP hD hS => ?_)
      rw [i78, nI_clamp (by omega)] at hP hD
      have hP : va_P K.1 vwCl [(b 0, .inr (6, [.ref (b 1), .ref (b 2), .int (nI m), .int th])), (b 1, .inl (K.2.2.1, 460, .inr (.inl (al)))), (b 2, .inl (K.2.2.1, 1840, .inr (.inl (vp_updL f (460 * m + z) v77))))] H := hP
      have hD : va_D A [(b 0, .inr (6, [.ref (b 1), .ref (b 2), .int (nI m), .int th])), (b 1, .inl (K.2.2.1, 460, .inr (.inl (al)))), (b 2, .inl (K.2.2.1, 1840, .inr (.inl (vp_updL f (460 * m + z) v77))))] := hD
      refine lv_iinc (v := nI (z + 1)) (lv' := [(1, .int (nI (z + 1))), (0, .ref (b 0))]) hx hb dX4_save_79 hl (k := 1) rfl (nI_add z 1) (by decide) rfl (fun ls hl => ?_)
      refine lv_goto (tgt := 51) hx hb dX4_save_82 (by decide) ?_
      have hB51 : (∀ j, j < (z + 1) → (vp_updL f (460 * m + z) v77) (460 * m + j) = al j) ∧ (∀ q, q < 460 * m → (vp_updL f (460 * m + z) v77) q = sv q) ∧ (z + 1) ≤ 460 := ⟨fun j hj => by rcases Nat.lt_or_ge j z with g | g; rw [ul_ne (by omega)]; exact hI51.1 j g; rw [show j = z by omega, ul_eq, e77], fun q hq => by rw [ul_ne (by omega)]; exact hI51.2.1 q hq, by omega⟩
      exact ih51 (z + 1, vp_updL f (460 * m + z) v77) (hB51) (by omega) ls H locs (lv_sub hl [1, 0] rfl) hP hD hS
  · have c5 := (nI_eq (a := m) (b := 4) (by omega) (by omega)).mp c5
    subst c5
    refine lv_iconst (v := nI 0) hx hb dX4_save_8 (by decide) ?_
    refine lv_istore_n (lv' := [(1, .int (nI 0)), (0, .ref (b 0))]) hx hb dX4_save_9 rfl hl (by decide) rfl (fun ls hl => ?_)
    refine lpW (K := K) (A := A) (H0 := s.heap) (α := Nat × (Nat → Int64)) (fun (x9 : Nat × (Nat → Int64)) => (∀ q, q < x9.1 → x9.2 q = sv (q + 460)) ∧ (∀ q, x9.1 ≤ q → x9.2 q = sv q) ∧ x9.1 ≤ 1380) (fun (x9 : Nat × (Nat → Int64)) => 1380 - x9.1) (fun (x9 : Nat × (Nat → Int64)) => [(0, .ref (b 0)), (1, .int (nI x9.1))]) (fun (x9 : Nat × (Nat → Int64)) => [(b 0, .inr (6, [.ref (b 1), .ref (b 2), .int (nI 4), .int th])), (b 1, .inl (K.2.2.1, 460, .inr (.inl (al)))), (b 2, .inl (K.2.2.1, 1840, .inr (.inl (x9.2))))]) 2 10 (fun x9 hI10 ih10 ls H locs hl hP hD hS => ?_) (0, sv) (⟨fun q hq => absurd hq (Nat.not_lt_zero _), fun q hq => rfl, Nat.zero_le _⟩) ls _ _ (lv_sub hl [1, 0] rfl) hP hD hS
    obtain ⟨z, f0⟩ := x9
    have hI10 : (∀ q, q < z → f0 q = sv (q + 460)) ∧ (∀ q, z ≤ q → f0 q = sv q) ∧ z ≤ 1380 := hI10
    have hl : lv_has ls 2 [(0, .ref (b 0)), (1, .int (nI z))] := hl
    have hP : va_P K.1 vwCl [(b 0, .inr (6, [.ref (b 1), .ref (b 2), .int (nI 4), .int th])), (b 1, .inl (K.2.2.1, 460, .inr (.inl (al)))), (b 2, .inl (K.2.2.1, 1840, .inr (.inl (f0))))] H := hP
    have hD : va_D A [(b 0, .inr (6, [.ref (b 1), .ref (b 2), .int (nI 4), .int th])), (b 1, .inl (K.2.2.1, 460, .inr (.inl (al)))), (b 2, .inl (K.2.2.1, 1840, .inr (.inl (f0))))] := hD
    refine lv_iload_n hx hb dX4_save_10 rfl (lv_at hl 1 rfl) ?_
    refine lv_sipush (v := nI 1380) hx hb dX4_save_11 (by decide) ?_
    refine lv_icmp_ge (tgt := 39) hx hb dX4_save_14 (by decide) (fun c14 => ?_) (fun c14 => ?_)
    · have c14 := (nI_leI (a := 1380) (b := z) (by omega) (by omega)).mp c14
      refine lv_aload_n hx hb dX4_save_39 rfl (lv_at hl 0 rfl) ?_
      refine lv_dup hx hb dX4_save_40 rfl ?_
      refine va_get (D := K.1) (ci := 6) (v := .int (nI 4)) (C := RX4) (T := TX4) (N := 4) hx hb hts inX4 hown hE.1 hP 0 rfl rfl 2 (by decide) (hts _ kf_X4_20) (fun _ h9 => h9) rfl dX4_save_41 ?_
      refine lv_iconst (v := nI 1) hx hb dX4_save_44 (by decide) ?_
      refine lv_isub hx hb dX4_save_45 ?_
      rw [pk_sub (by decide : 1 ≤ 4)]
      rw [show 4 - 1 = 3 from rfl]
      refine va_put (D := K.1) (ci := 6) (v := .int (nI 3)) (ty := .int) (C := RX4) (T := TX4) (N := 4) hx hb hts inX4 tyX4 tyX4_ok nmX4 hown hE.1 hP hD hS 0 rfl rfl 2 (by decide) (hts _ kf_X4_20) (fun _ h9 => h9) rfl (by decide +kernel) rfl rfl (Nat.le_of_ble_eq_true rfl) dX4_save_46 (fun H locs hP hD hS => ?_)
      have hP : va_P K.1 vwCl [(b 0, .inr (6, [.ref (b 1), .ref (b 2), .int (nI 3), .int th])), (b 1, .inl (K.2.2.1, 460, .inr (.inl (al)))), (b 2, .inl (K.2.2.1, 1840, .inr (.inl (f0))))] H := hP
      have hD : va_D A [(b 0, .inr (6, [.ref (b 1), .ref (b 2), .int (nI 3), .int th])), (b 1, .inl (K.2.2.1, 460, .inr (.inl (al)))), (b 2, .inl (K.2.2.1, 1840, .inr (.inl (f0))))] := hD
      refine lv_iconst (v := nI 0) hx hb dX4_save_49 (by decide) ?_
      refine lv_istore_n (lv' := [(1, .int (nI 0)), (0, .ref (b 0))]) hx hb dX4_save_50 rfl hl (by decide) rfl (fun ls hl => ?_)
      refine lpW (K := K) (A := A) (H0 := s.heap) (α := Nat × (Nat → Int64)) (fun (x9 : Nat × (Nat → Int64)) => (∀ j, j < x9.1 → x9.2 (460 * 3 + j) = al j) ∧ (∀ q, q < 460 * 3 → x9.2 q = f0 q) ∧ x9.1 ≤ 460) (fun (x9 : Nat × (Nat → Int64)) => 460 - x9.1) (fun (x9 : Nat × (Nat → Int64)) => [(0, .ref (b 0)), (1, .int (nI x9.1))]) (fun (x9 : Nat × (Nat → Int64)) => [(b 0, .inr (6, [.ref (b 1), .ref (b 2), .int (nI 3), .int th])), (b 1, .inl (K.2.2.1, 460, .inr (.inl (al)))), (b 2, .inl (K.2.2.1, 1840, .inr (.inl (x9.2))))]) 2 51 (fun x9 hI51 ih51 ls H locs hl hP hD hS => ?_) (0, f0) (⟨fun j hj => absurd hj (Nat.not_lt_zero _), fun q hq => rfl, Nat.zero_le _⟩) ls _ _ (lv_sub hl [1, 0] rfl) hP hD hS
      obtain ⟨z, f⟩ := x9
      have hI51 : (∀ j, j < z → f (460 * 3 + j) = al j) ∧ (∀ q, q < 460 * 3 → f q = f0 q) ∧ z ≤ 460 := hI51
      have hl : lv_has ls 2 [(0, .ref (b 0)), (1, .int (nI z))] := hl
      have hP : va_P K.1 vwCl [(b 0, .inr (6, [.ref (b 1), .ref (b 2), .int (nI 3), .int th])), (b 1, .inl (K.2.2.1, 460, .inr (.inl (al)))), (b 2, .inl (K.2.2.1, 1840, .inr (.inl (f))))] H := hP
      have hD : va_D A [(b 0, .inr (6, [.ref (b 1), .ref (b 2), .int (nI 3), .int th])), (b 1, .inl (K.2.2.1, 460, .inr (.inl (al)))), (b 2, .inl (K.2.2.1, 1840, .inr (.inl (f))))] := hD
      refine lv_iload_n hx hb dX4_save_51 rfl (lv_at hl 1 rfl) ?_
      refine lv_sipush (v := nI 460) hx hb dX4_save_52 (by decide) ?_
      refine lv_icmp_ge (tgt := 85) hx hb dX4_save_55 (by decide) (fun c55 => ?_) (fun c55 => ?_)
      · have c55 := (nI_leI (a := 460) (b := z) (by omega) (by omega)).mp c55
        refine lv_aload_n hx hb dX4_save_85 rfl (lv_at hl 0 rfl) ?_
        refine lv_dup hx hb dX4_save_86 rfl ?_
        refine va_get (D := K.1) (ci := 6) (v := .int (nI 3)) (C := RX4) (T := TX4) (N := 4) hx hb hts inX4 hown hE.1 hP 0 rfl rfl 2 (by decide) (hts _ kf_X4_20) (fun _ h9 => h9) rfl dX4_save_87 ?_
        refine lv_iconst (v := nI 1) hx hb dX4_save_90 (by decide) ?_
        refine lv_iadd hx hb dX4_save_91 ?_
        rw [nI_add 3 1]
        refine va_put (D := K.1) (ci := 6) (v := .int (nI (3 + 1))) (ty := .int) (C := RX4) (T := TX4) (N := 4) hx hb hts inX4 tyX4 tyX4_ok nmX4 hown hE.1 hP hD hS 0 rfl rfl 2 (by decide) (hts _ kf_X4_20) (fun _ h9 => h9) rfl (by decide +kernel) rfl rfl (Nat.le_of_ble_eq_true rfl) dX4_save_92 (fun H locs hP hD hS => ?_)
        have hP : va_P K.1 vwCl [(b 0, .inr (6, [.ref (b 1), .ref (b 2), .int (nI (3 + 1)), .int th])), (b 1, .inl (K.2.2.1, 460, .inr (.inl (al)))), (b 2, .inl (K.2.2.1, 1840, .inr (.inl (f))))] H := hP
        have hD : va_D A [(b 0, .inr (6, [.ref (b 1), .ref (b 2), .int (nI (3 + 1)), .int th])), (b 1, .inl (K.2.2.1, 460, .inr (.inl (al)))), (b 2, .inl (K.2.2.1, 1840, .inr (.inl (f))))] := hD
        exact fV ((f, 3 + 1)) hx hb hr hlocks hAe hP hD hS [0, 1, 2] (by decide) rfl (⟨rfl, fun j hj => hI51.1 j (by omega), fun i j h1 h2 => by show f (460 * i + j) = _; rw [if_pos rfl, hI51.2.1 _ (by omega)]; exact (hI10.1 _ (by omega)).trans (congrArg sv (by omega))⟩) dX4_save_95
      · have c55 := mt (nI_leI (a := 460) (b := z) (by omega) (by omega)).mpr c55
        refine lv_aload_n hx hb dX4_save_58 rfl (lv_at hl 0 rfl) ?_
        refine va_get (D := K.1) (ci := 6) (v := .ref (b 2)) (C := RX4) (T := TX4) (N := 4) hx hb hts inX4 hown hE.1 hP 0 rfl rfl 1 (by decide) (hts _ kf_X4_13) (fun _ h9 => h9) rfl dX4_save_59 ?_
        refine lv_sipush (v := nI 460) hx hb dX4_save_62 (by decide) ?_
        refine lv_aload_n hx hb dX4_save_65 rfl (lv_at hl 0 rfl) ?_
        refine va_get (D := K.1) (ci := 6) (v := .int (nI 3)) (C := RX4) (T := TX4) (N := 4) hx hb hts inX4 hown hE.1 hP 0 rfl rfl 2 (by decide) (hts _ kf_X4_20) (fun _ h9 => h9) rfl dX4_save_66 ?_
        refine lv_imul hx hb dX4_save_69 ?_
        rw [pk_mul 460 3]
        refine lv_iload_n hx hb dX4_save_70 rfl (lv_at hl 1 rfl) ?_
        refine lv_iadd hx hb dX4_save_71 ?_
        rw [nI_add (460 * 3) z]
        refine lv_aload_n hx hb dX4_save_72 rfl (lv_at hl 0 rfl) ?_
        refine va_get (D := K.1) (ci := 6) (v := .ref (b 1)) (C := RX4) (T := TX4) (N := 4) hx hb hts inX4 hown hE.1 hP 0 rfl rfl 0 (by decide) (hts _ kf_X4_7) (fun _ h9 => h9) rfl dX4_save_73 ?_
        refine lv_iload_n hx hb dX4_save_76 rfl (lv_at hl 1 rfl) ?_
        have i77 : nI z = nI z := rfl
        have j77 : z < 460 := by omega
        refine va_lald hx hb hE.1 hP 1 1 rfl rfl (by rw [i77]; exact vp_in_nI j77 (by omega)) dX4_save_77 ?_
        rw [i77, nI_clamp (by omega)]
        refine lv_topl (fun v77 e77 => ?_)
        have i78 : nI (460 * 3 + z) = nI (460 * 3 + z) := rfl
        have j78 : 460 * 3 + z < 1840 := by omega
        refine va_last hx hb hE.1 hP hD hS 2 1 rfl rfl (by rw [i78]; exact vp_in_nI j78 (by omega)) dX4_save_78 (fun H locs hP hD hS => ?_)
        rw [i78, nI_clamp (by omega)] at hP hD
        have hP : va_P K.1 vwCl [(b 0, .inr (6, [.ref (b 1), .ref (b 2), .int (nI 3), .int th])), (b 1, .inl (K.2.2.1, 460, .inr (.inl (al)))), (b 2, .inl (K.2.2.1, 1840, .inr (.inl (vp_updL f (460 * 3 + z) v77))))] H := hP
        have hD : va_D A [(b 0, .inr (6, [.ref (b 1), .ref (b 2), .int (nI 3), .int th])), (b 1, .inl (K.2.2.1, 460, .inr (.inl (al)))), (b 2, .inl (K.2.2.1, 1840, .inr (.inl (vp_updL f (460 * 3 + z) v77))))] := hD
        refine lv_iinc (v := nI (z + 1)) (lv' := [(1, .int (nI (z + 1))), (0, .ref (b 0))]) hx hb dX4_save_79 hl (k := 1) rfl (nI_add z 1) (by decide) rfl (fun ls hl => ?_)
        refine lv_goto (tgt := 51) hx hb dX4_save_82 (by decide) ?_
        have hB51 : (∀ j, j < (z + 1) → (vp_updL f (460 * 3 + z) v77) (460 * 3 + j) = al j) ∧ (∀ q, q < 460 * 3 → (vp_updL f (460 * 3 + z) v77) q = f0 q) ∧ (z + 1) ≤ 460 := ⟨fun j hj => by rcases Nat.lt_or_ge j z with g | g; rw [ul_ne (by omega)]; exact hI51.1 j g; rw [show j = z by omega, ul_eq, e77], fun q hq => by rw [ul_ne (by omega)]; exact hI51.2.1 q hq, by omega⟩
        exact ih51 (z + 1, vp_updL f (460 * 3 + z) v77) (hB51) (by omega) ls H locs (lv_sub hl [1, 0] rfl) hP hD hS
    · have c14 := mt (nI_leI (a := 1380) (b := z) (by omega) (by omega)).mpr c14
      refine lv_aload_n hx hb dX4_save_17 rfl (lv_at hl 0 rfl) ?_
      refine va_get (D := K.1) (ci := 6) (v := .ref (b 2)) (C := RX4) (T := TX4) (N := 4) hx hb hts inX4 hown hE.1 hP 0 rfl rfl 1 (by decide) (hts _ kf_X4_13) (fun _ h9 => h9) rfl dX4_save_18 ?_
      refine lv_iload_n hx hb dX4_save_21 rfl (lv_at hl 1 rfl) ?_
      refine lv_aload_n hx hb dX4_save_22 rfl (lv_at hl 0 rfl) ?_
      refine va_get (D := K.1) (ci := 6) (v := .ref (b 2)) (C := RX4) (T := TX4) (N := 4) hx hb hts inX4 hown hE.1 hP 0 rfl rfl 1 (by decide) (hts _ kf_X4_13) (fun _ h9 => h9) rfl dX4_save_23 ?_
      refine lv_iload_n hx hb dX4_save_26 rfl (lv_at hl 1 rfl) ?_
      refine lv_sipush (v := nI 460) hx hb dX4_save_27 (by decide) ?_
      refine lv_iadd hx hb dX4_save_30 ?_
      rw [nI_add z 460]
      have i31 : nI (z + 460) = nI (z + 460) := rfl
      have j31 : z + 460 < 1840 := by omega
      refine va_lald hx hb hE.1 hP 2 1 rfl rfl (by rw [i31]; exact vp_in_nI j31 (by omega)) dX4_save_31 ?_
      rw [i31, nI_clamp (by omega)]
      refine lv_topl (fun v31 e31 => ?_)
      have i32 : nI z = nI z := rfl
      have j32 : z < 1840 := by omega
      refine va_last hx hb hE.1 hP hD hS 2 1 rfl rfl (by rw [i32]; exact vp_in_nI j32 (by omega)) dX4_save_32 (fun H locs hP hD hS => ?_)
      rw [i32, nI_clamp (by omega)] at hP hD
      have hP : va_P K.1 vwCl [(b 0, .inr (6, [.ref (b 1), .ref (b 2), .int (nI 4), .int th])), (b 1, .inl (K.2.2.1, 460, .inr (.inl (al)))), (b 2, .inl (K.2.2.1, 1840, .inr (.inl (vp_updL f0 z v31))))] H := hP
      have hD : va_D A [(b 0, .inr (6, [.ref (b 1), .ref (b 2), .int (nI 4), .int th])), (b 1, .inl (K.2.2.1, 460, .inr (.inl (al)))), (b 2, .inl (K.2.2.1, 1840, .inr (.inl (vp_updL f0 z v31))))] := hD
      refine lv_iinc (v := nI (z + 1)) (lv' := [(1, .int (nI (z + 1))), (0, .ref (b 0))]) hx hb dX4_save_33 hl (k := 1) rfl (nI_add z 1) (by decide) rfl (fun ls hl => ?_)
      refine lv_goto (tgt := 10) hx hb dX4_save_36 (by decide) ?_
      have hB10 : (∀ q, q < (z + 1) → (vp_updL f0 z v31) q = sv (q + 460)) ∧ (∀ q, (z + 1) ≤ q → (vp_updL f0 z v31) q = sv q) ∧ (z + 1) ≤ 1380 := ⟨fun q hq => by rcases Nat.lt_or_ge q z with g | g; rw [ul_ne (by omega)]; exact hI10.1 q g; rw [show q = z by omega, ul_eq, e31]; exact hI10.2.1 _ (by omega), fun q hq => by rw [ul_ne (by omega)]; exact hI10.2.1 q (by omega), by omega⟩
      exact ih10 (z + 1, vp_updL f0 z v31) (hB10) (by omega) ls H locs (lv_sub hl [1, 0] rfl) hP hD hS
theorem nodU {al : Nat → Int64} {kn k : Nat} {fn : Nat → Int32} {x : Int64} (h6 : kn ≤ 6) (hk : 38 ≤ k) (h : NodC al kn fn) : NodC (vp_updL al k x) kn fn := fun q hq => by rw [ul_ne (by omega)]; exact h q hq
theorem updL8 (f : Nat → Int64) (k : Nat) (x0 x1 x2 x3 x4 x5 x6 x7 : Int64) (F : Nat → Int64) (hF : F = vp_updL (vp_updL (vp_updL (vp_updL (vp_updL (vp_updL (vp_updL (vp_updL f k x0) (k + 1) x1) (k + 2) x2) (k + 3) x3) (k + 4) x4) (k + 5) x5) (k + 6) x6) (k + 7) x7) :
    (∀ q, q < k → F q = f q) ∧ (∀ q, k + 8 ≤ q → F q = f q) ∧ F k = x0 ∧ F (k + 1) = x1 ∧ F (k + 2) = x2 ∧ F (k + 3) = x3 ∧ F (k + 4) = x4 ∧ F (k + 5) = x5 ∧ F (k + 6) = x6 ∧ F (k + 7) = x7 := by
  subst hF
  refine ⟨fun q hq => ?_, fun q hq => ?_, ?_, ?_, ?_, ?_, ?_, ?_, ?_, ?_⟩
  · rw [ul_ne (by omega), ul_ne (by omega), ul_ne (by omega), ul_ne (by omega), ul_ne (by omega), ul_ne (by omega), ul_ne (by omega), ul_ne (by omega)]
  · rw [ul_ne (by omega), ul_ne (by omega), ul_ne (by omega), ul_ne (by omega), ul_ne (by omega), ul_ne (by omega), ul_ne (by omega), ul_ne (by omega)]
  · rw [ul_ne (by omega), ul_ne (by omega), ul_ne (by omega), ul_ne (by omega), ul_ne (by omega), ul_ne (by omega), ul_ne (by omega), ul_eq]
  · rw [ul_ne (by omega), ul_ne (by omega), ul_ne (by omega), ul_ne (by omega), ul_ne (by omega), ul_ne (by omega), ul_eq]
  · rw [ul_ne (by omega), ul_ne (by omega), ul_ne (by omega), ul_ne (by omega), ul_ne (by omega), ul_eq]
  · rw [ul_ne (by omega), ul_ne (by omega), ul_ne (by omega), ul_ne (by omega), ul_eq]
  · rw [ul_ne (by omega), ul_ne (by omega), ul_ne (by omega), ul_eq]
  · rw [ul_ne (by omega), ul_ne (by omega), ul_eq]
  · rw [ul_ne (by omega), ul_eq]
  · rw [ul_eq]
/-- what an exchange that is carried out changes in the reference -/
def outR (al u : Nat → Int64) (fn fr : Nat → Int32) (kr i j r1 r2 : Nat) (T : Int) : Prop := (∀ q, 1 ≤ q → q < 38 → u q = al q) ∧ u 38 = lN (kr + 1) ∧ (∀ q, 359 ≤ q → u q = al q) ∧ (u 0).toInt = T + way fn i j + r1 + way fn i j + r2 + way fn i j ∧ ∀ fr2, cSpec fn fr fr2 kr i j r1 r2 T (way fn i j) → RecC u (kr + 1) fr2
theorem outR_mk {al F u : Nat → Int64} {fn fr : Nat → Int32} {kr i j r1 r2 : Nat} {T : Int} {x2 x3 x4 x5 x6 x7 z : Int64} (hi : i < 2 ^ 31) (hj : j < 2 ^ 31) (hk : kr < 40) (hR : RecC al kr fr) (hF : F = vp_updL (vp_updL (vp_updL (vp_updL (vp_updL (vp_updL (vp_updL (vp_updL al (39 + 8 * kr) (lN i)) (39 + 8 * kr + 1) (lN j)) (39 + 8 * kr + 2) x2) (39 + 8 * kr + 3) x3) (39 + 8 * kr + 4) x4) (39 + 8 * kr + 5) x5) (39 + 8 * kr + 6) x6) (39 + 8 * kr + 7) x7) (hu : u = vp_updL (vp_updL F 38 (lN (kr + 1))) 0 z)
    (h2 : x2.toInt = ctr fn i T) (h3 : x3.toInt = ctr fn j (T + way fn i j)) (h4 : x4.toInt = ctr fn j (T + way fn i j + r1)) (h5 : x5.toInt = ctr fn i (T + way fn i j + r1 + way fn i j)) (h6 : x6.toInt = ctr fn i (T + way fn i j + r1 + way fn i j + r2)) (h7 : x7.toInt = ctr fn j (T + way fn i j + r1 + way fn i j + r2 + way fn i j)) (hz : z.toInt = T + way fn i j + r1 + way fn i j + r2 + way fn i j) : outR al u fn fr kr i j r1 r2 T := by
  obtain ⟨a, b, g0, g1, g2, g3, g4, g5, g6, g7⟩ := updL8 al (39 + 8 * kr) _ _ _ _ _ _ _ _ F hF
  have hq : ∀ q, q ≠ 0 → q ≠ 38 → u q = F q := fun q q0 q1 => by rw [hu, ul_ne q0, ul_ne q1]
  refine ⟨fun q w1 w2 => by rw [hq q (by omega) (by omega), a q (by omega)], by rw [hu, ul_ne (by decide), ul_eq], fun q w1 => by rw [hq q (by omega) (by omega), b q (by omega)], by rw [hu, ul_eq]; exact hz, fun fr2 hc q w1 => ?_⟩
  obtain ⟨c0, c1, c2, c3, c4, c5, c6, c7, c8⟩ := hc
  rw [hq _ (by omega) (by omega)]
  have tw : ∀ (x : Int64) (y : Int32), x.toInt = y.toInt → x = y.toInt64 := fun x y e => eqL (by rw [i64T, e])
  rcases Nat.lt_or_ge q (kr * 8) with w | w
  · rw [a _ (by omega), c0 q w]
    exact hR q w
  · obtain ⟨c, rfl⟩ : ∃ c, q = kr * 8 + c := ⟨q - kr * 8, by omega⟩
    unfold rd at c3 c4 c5 c6 c7 c8
    rcases c with _ | _ | _ | _ | _ | _ | _ | _ | c
    · rw [show 39 + (kr * 8 + 0) = 39 + 8 * kr by omega, g0, c1]; exact (nI_l hi).symm
    · rw [show 39 + (kr * 8 + (0 + 1)) = 39 + 8 * kr + 1 by omega, g1]; rw [show kr * 8 + (0 + 1) = kr * 8 + 1 from rfl, c2]; exact (nI_l hj).symm
    · rw [show 39 + (kr * 8 + (0 + 1 + 1)) = 39 + 8 * kr + 2 by omega, g2]; exact tw _ _ (h2.trans c3.symm)
    · rw [show 39 + (kr * 8 + (0 + 1 + 1 + 1)) = 39 + 8 * kr + 3 by omega, g3]; exact tw _ _ (h3.trans c4.symm)
    · rw [show 39 + (kr * 8 + (0 + 1 + 1 + 1 + 1)) = 39 + 8 * kr + 4 by omega, g4]; exact tw _ _ (h4.trans c5.symm)
    · rw [show 39 + (kr * 8 + (0 + 1 + 1 + 1 + 1 + 1)) = 39 + 8 * kr + 5 by omega, g5]; exact tw _ _ (h5.trans c6.symm)
    · rw [show 39 + (kr * 8 + (0 + 1 + 1 + 1 + 1 + 1 + 1)) = 39 + 8 * kr + 6 by omega, g6]; exact tw _ _ (h6.trans c7.symm)
    · rw [show 39 + (kr * 8 + (0 + 1 + 1 + 1 + 1 + 1 + 1 + 1)) = 39 + 8 * kr + 7 by omega, g7]; exact tw _ _ (h7.trans c8.symm)
    · omega
set_option maxHeartbeats 4000000 in
set_option maxRecDepth 100000 in
theorem m_carriesOut (l : Launch) (K : EK) (b : Nat → Nat) (sm th : Int32) (al : Nat → Int64) (kn : Nat) (fn : Nat → Int32) (h6 : kn ≤ 6) (hN : NodC al kn fn) (kr : Nat) (fr : Nat → Int32) (h40 : kr ≤ 40) (hR : RecC al kr fr) (hn : ∀ i, i < kn → nOk fn i) (h38 : al 38 = lN kr) (hk40 : kr < 40) (i j r1 r2 : Nat) (t0 : Int64) (sz : Nat) (hi : i < kn) (hj : j < kn) (g1 : r1 ≤ 400000) (g2 : r2 ≤ 400000) (hT : 0 ≤ t0.toInt ∧ t0.toInt ≤ 900000000000) : Met l yX4_carriesOut (wq yX4_carriesOut cX4_carriesOut 14 none) (rmL 3 0 0) (va_Pc [.ref (b 0), .long t0, .int (nI i), .int (nI j), .long (lN r1), .long (lN r2)] (PW K sz [(b 0, .inr (6, [.ref (b 1), .ref (b 2), .int sm, .int th])), (b 1, .inl (K.2.2.1, 460, .inr (.inl (al))))])) (va_Qv (fun (u : Nat → Int64) => outR al u fn fr kr i j r1 r2 t0.toInt) (Bw K sz [(b 0, .inr (6, [.ref (b 1), .ref (b 2), .int sm, .int th])), (b 1, .inl (K.2.2.1, 460, .inr (.inl (al))))] (fun (u : Nat → Int64) => [(b 0, .inr (6, [.ref (b 1), .ref (b 2), .int sm, .int th])), (b 1, .inl (K.2.2.1, 460, .inr (.inl (u))))])) (va_A [(b 0, .inr (6, [.ref (b 1), .ref (b 2), .int sm, .int th])), (b 1, .inl (K.2.2.1, 460, .inr (.inl (al))))] sz)) 0 0 (va_A [(b 0, .inr (6, [.ref (b 1), .ref (b 2), .int sm, .int th])), (b 1, .inl (K.2.2.1, 460, .inr (.inl (al))))] sz) := by
  refine hdW (by decide +kernel) (Nat.le_of_ble_eq_true rfl) ?_
  intro pp ee s mm bl9 me9 cd hx hb hr hlocks hml hown hin hts hE hP A hAe hsz hA hD hS ls hl
  have hown : s.vm.findClass RX4 = some mm.cls := hown
  have hP : va_P K.1 vwCl [(b 0, .inr (6, [.ref (b 1), .ref (b 2), .int sm, .int th])), (b 1, .inl (K.2.2.1, 460, .inr (.inl (al))))] s.heap := hP
  have hD : va_D A [(b 0, .inr (6, [.ref (b 1), .ref (b 2), .int sm, .int th])), (b 1, .inl (K.2.2.1, 460, .inr (.inl (al))))] := hD
  have hl : lv_has ls 14 [(0, .ref (b 0)), (1, .long t0), (3, .int (nI i)), (4, .int (nI j)), (5, .long (lN r1)), (7, .long (lN r2))] := hl
  have k1 := dst_lt (hn _ hi) (hn _ hj)
  have k2 := way_rng (hn _ hi) (hn _ hj)
  have k3 := (hn _ hi).2.2.2.2.1
  have k4 := (hn _ hj).2.2.2.2.1
  refine lv_aload_n hx hb dX4_carriesOut_0 rfl (lv_at hl 0 rfl) ?_
  refine lv_iload_n hx hb dX4_carriesOut_1 rfl (lv_at hl 2 rfl) ?_
  refine lv_iconst (v := nI 4) hx hb dX4_carriesOut_2 (by decide) ?_
  refine goL (rdV (As := [.int (nI i), .int (nI 4)]) (rest := []) (m_of l K b sm th al kn fn h6 hN i 4 hi (by decide)) ⟨hx, hb, hml, hown, hts⟩ (gV kl_X4_56 ki_X4_of ks_X4_of kn_X4 kc_X4_of) (by show okN yX4_of 2; decide +kernel) ⟨⟨Nat.le_of_ble_eq_true rfl, Nat.le_of_ble_eq_true rfl⟩, rfl, rfl⟩ hE hP [0, 1] rfl ⟨0, 6, _, _, rfl, rfl, rfl⟩ hl.1 rfl (Nat.le_of_ble_eq_true rfl) dX4_carriesOut_3 ⟨Nat.le_of_ble_eq_true rfl, Nat.le_of_ble_eq_true rfl⟩) (fun v3 e3 => ?_)
  refine lv_aload_n hx hb dX4_carriesOut_6 rfl (lv_at hl 0 rfl) ?_
  refine lv_iload_n hx hb dX4_carriesOut_7 rfl (lv_at hl 2 rfl) ?_
  refine lv_iload hx hb dX4_carriesOut_8 (lv_at hl 3 rfl) ?_
  refine goL (rdV (As := [.int (nI i), .int (nI j)]) (rest := [.long v3]) (m_distanceOf l K b sm th al kn fn h6 hN i j hi hj (hn _ hi) (hn _ hj)) ⟨hx, hb, hml, hown, hts⟩ (gV kl_X4_67 ki_X4_distanceOf ks_X4_distanceOf kn_X4 kc_X4_distanceOf) (by show okN yX4_distanceOf 2; decide +kernel) ⟨⟨Nat.le_of_ble_eq_true rfl, Nat.le_of_ble_eq_true rfl⟩, rfl, rfl⟩ hE hP [0, 1] rfl ⟨0, 6, _, _, rfl, rfl, rfl⟩ hl.1 rfl (Nat.le_of_ble_eq_true rfl) dX4_carriesOut_10 ⟨Nat.le_of_ble_eq_true rfl, Nat.le_of_ble_eq_true rfl⟩) (fun v10 e10 => ?_)
  refine lv_ladd hx hb dX4_carriesOut_13 ?_
  refine lv_topl (fun v13 e13 => ?_)
  have q13 : v13.toInt = nd fn i 4 + dst fn i j := by rw [e13, fb_addL (by rw [e3, e10, i64T, lN_T (by omega)]; unfold nd at k3; omega) (by rw [e3, e10, i64T, lN_T (by omega)]; unfold nd at k3; omega), e3, e10, i64T, lN_T (by omega)]; rfl
  refine lv_aload_n hx hb dX4_carriesOut_14 rfl (lv_at hl 0 rfl) ?_
  refine lv_iload hx hb dX4_carriesOut_15 (lv_at hl 3 rfl) ?_
  refine lv_iconst (v := nI 4) hx hb dX4_carriesOut_17 (by decide) ?_
  refine goL (rdV (As := [.int (nI j), .int (nI 4)]) (rest := [.long v13]) (m_of l K b sm th al kn fn h6 hN j 4 hj (by decide)) ⟨hx, hb, hml, hown, hts⟩ (gV kl_X4_56 ki_X4_of ks_X4_of kn_X4 kc_X4_of) (by show okN yX4_of 2; decide +kernel) ⟨⟨Nat.le_of_ble_eq_true rfl, Nat.le_of_ble_eq_true rfl⟩, rfl, rfl⟩ hE hP [0, 1] rfl ⟨0, 6, _, _, rfl, rfl, rfl⟩ hl.1 rfl (Nat.le_of_ble_eq_true rfl) dX4_carriesOut_18 ⟨Nat.le_of_ble_eq_true rfl, Nat.le_of_ble_eq_true rfl⟩) (fun v18 e18 => ?_)
  refine lv_ladd hx hb dX4_carriesOut_21 ?_
  refine lv_topl (fun v21 e21 => ?_)
  have q21 : v21.toInt = way fn i j := by rw [e21, fb_addL (by rw [q13, e18, i64T]; unfold nd at *; omega) (by rw [q13, e18, i64T]; unfold nd at *; omega), q13, e18, i64T]; rfl
  refine lv_lstore (lv' := [(9, .long v21), (0, .ref (b 0)), (1, .long t0), (3, .int (nI i)), (4, .int (nI j)), (5, .long (lN r1)), (7, .long (lN r2))]) hx hb dX4_carriesOut_22 hl (by decide) rfl (fun ls hl => ?_)
  refine lv_bipush (v := nI 39) hx hb dX4_carriesOut_24 (by decide) ?_
  refine lv_bipush (v := nI 8) hx hb dX4_carriesOut_26 (by decide) ?_
  refine lv_aload_n hx hb dX4_carriesOut_28 rfl (lv_at hl 1 rfl) ?_
  refine va_get (D := K.1) (ci := 6) (v := .ref (b 1)) (C := RX4) (T := TX4) (N := 4) hx hb hts inX4 hown hE.1 hP 0 rfl rfl 0 (by decide) (hts _ kf_X4_7) (fun _ h9 => h9) rfl dX4_carriesOut_29 ?_
  refine lv_bipush (v := nI 38) hx hb dX4_carriesOut_32 (by decide) ?_
  have i34 : nI 38 = nI 38 := rfl
  have j34 : 38 < 460 := by omega
  refine va_lald hx hb hE.1 hP 1 1 rfl rfl (by rw [i34]; exact vp_in_nI j34 (by omega)) dX4_carriesOut_34 ?_
  rw [i34, nI_clamp (by omega)]
  refine lv_topl (fun v34 e34 => ?_)
  rw [e34, h38]
  refine lv_l2i hx hb dX4_carriesOut_35 (l2iN (by omega)) ?_
  refine lv_imul hx hb dX4_carriesOut_36 ?_
  rw [pk_mul 8 kr]
  refine lv_iadd hx hb dX4_carriesOut_37 ?_
  rw [nI_add 39 (8 * kr)]
  refine lv_istore (lv' := [(11, .int (nI (39 + 8 * kr))), (9, .long v21), (0, .ref (b 0)), (1, .long t0), (3, .int (nI i)), (4, .int (nI j)), (5, .long (lN r1)), (7, .long (lN r2))]) hx hb dX4_carriesOut_38 hl (by decide) rfl (fun ls hl => ?_)
  refine lv_lload_n hx hb dX4_carriesOut_40 rfl (lv_at hl 3 rfl) ?_
  refine lv_lstore (lv' := [(12, .long t0), (11, .int (nI (39 + 8 * kr))), (9, .long v21), (0, .ref (b 0)), (1, .long t0), (3, .int (nI i)), (4, .int (nI j)), (5, .long (lN r1)), (7, .long (lN r2))]) hx hb dX4_carriesOut_41 hl (by decide) rfl (fun ls hl => ?_)
  refine lv_aload_n hx hb dX4_carriesOut_43 rfl (lv_at hl 3 rfl) ?_
  refine va_get (D := K.1) (ci := 6) (v := .ref (b 1)) (C := RX4) (T := TX4) (N := 4) hx hb hts inX4 hown hE.1 hP 0 rfl rfl 0 (by decide) (hts _ kf_X4_7) (fun _ h9 => h9) rfl dX4_carriesOut_44 ?_
  refine lv_iload hx hb dX4_carriesOut_47 (lv_at hl 1 rfl) ?_
  refine lv_iload_n hx hb dX4_carriesOut_49 rfl (lv_at hl 5 rfl) ?_
  refine lv_i2l hx hb dX4_carriesOut_50 (nI_l (by omega)) ?_
  have i51 : nI (39 + 8 * kr) = nI (39 + 8 * kr) := rfl
  have j51 : 39 + 8 * kr < 460 := by omega
  refine va_last hx hb hE.1 hP hD hS 1 1 rfl rfl (by rw [i51]; exact vp_in_nI j51 (by omega)) dX4_carriesOut_51 (fun H locs hP hD hS => ?_)
  rw [i51, nI_clamp (by omega)] at hP hD
  have hP : va_P K.1 vwCl [(b 0, .inr (6, [.ref (b 1), .ref (b 2), .int sm, .int th])), (b 1, .inl (K.2.2.1, 460, .inr (.inl (vp_updL al (39 + 8 * kr) (lN i)))))] H := hP
  have hD : va_D A [(b 0, .inr (6, [.ref (b 1), .ref (b 2), .int sm, .int th])), (b 1, .inl (K.2.2.1, 460, .inr (.inl (vp_updL al (39 + 8 * kr) (lN i)))))] := hD
  refine lv_aload_n hx hb dX4_carriesOut_52 rfl (lv_at hl 3 rfl) ?_
  refine va_get (D := K.1) (ci := 6) (v := .ref (b 1)) (C := RX4) (T := TX4) (N := 4) hx hb hts inX4 hown hE.1 hP 0 rfl rfl 0 (by decide) (hts _ kf_X4_7) (fun _ h9 => h9) rfl dX4_carriesOut_53 ?_
  refine lv_iload hx hb dX4_carriesOut_56 (lv_at hl 1 rfl) ?_
  refine lv_iconst (v := nI 1) hx hb dX4_carriesOut_58 (by decide) ?_
  refine lv_iadd hx hb dX4_carriesOut_59 ?_
  rw [nI_add (39 + 8 * kr) 1]
  refine lv_iload hx hb dX4_carriesOut_60 (lv_at hl 6 rfl) ?_
  refine lv_i2l hx hb dX4_carriesOut_62 (nI_l (by omega)) ?_
  have i63 : nI (39 + 8 * kr + 1) = nI (39 + 8 * kr + 1) := rfl
  have j63 : 39 + 8 * kr + 1 < 460 := by omega
  refine va_last hx hb hE.1 hP hD hS 1 1 rfl rfl (by rw [i63]; exact vp_in_nI j63 (by omega)) dX4_carriesOut_63 (fun H locs hP hD hS => ?_)
  rw [i63, nI_clamp (by omega)] at hP hD
  have hP : va_P K.1 vwCl [(b 0, .inr (6, [.ref (b 1), .ref (b 2), .int sm, .int th])), (b 1, .inl (K.2.2.1, 460, .inr (.inl (vp_updL (vp_updL al (39 + 8 * kr) (lN i)) (39 + 8 * kr + 1) (lN j)))))] H := hP
  have hD : va_D A [(b 0, .inr (6, [.ref (b 1), .ref (b 2), .int sm, .int th])), (b 1, .inl (K.2.2.1, 460, .inr (.inl (vp_updL (vp_updL al (39 + 8 * kr) (lN i)) (39 + 8 * kr + 1) (lN j)))))] := hD
  refine lv_aload_n hx hb dX4_carriesOut_64 rfl (lv_at hl 3 rfl) ?_
  refine va_get (D := K.1) (ci := 6) (v := .ref (b 1)) (C := RX4) (T := TX4) (N := 4) hx hb hts inX4 hown hE.1 hP 0 rfl rfl 0 (by decide) (hts _ kf_X4_7) (fun _ h9 => h9) rfl dX4_carriesOut_65 ?_
  refine lv_iload hx hb dX4_carriesOut_68 (lv_at hl 1 rfl) ?_
  refine lv_iconst (v := nI 2) hx hb dX4_carriesOut_70 (by decide) ?_
  refine lv_iadd hx hb dX4_carriesOut_71 ?_
  rw [nI_add (39 + 8 * kr) 2]
  refine lv_aload_n hx hb dX4_carriesOut_72 rfl (lv_at hl 3 rfl) ?_
  refine lv_iload_n hx hb dX4_carriesOut_73 rfl (lv_at hl 5 rfl) ?_
  refine lv_lload hx hb dX4_carriesOut_74 (lv_at hl 0 rfl) ?_
  refine goL (rdV (As := [.int (nI i), .long t0]) (rest := [.int (nI (39 + 8 * kr + 2)), .ref (b 1)]) (m_counterAt l K b sm th (vp_updL (vp_updL al (39 + 8 * kr) (lN i)) (39 + 8 * kr + 1) (lN j)) kn fn h6 (nodU h6 (by omega) (nodU h6 (by omega) hN)) i t0 hi (hn _ hi) (by omega)) ⟨hx, hb, hml, hown, hts⟩ (gV kl_X4_76 ki_X4_counterAt ks_X4_counterAt kn_X4 kc_X4_counterAt) (by show okN yX4_counterAt 2; decide +kernel) ⟨⟨Nat.le_of_ble_eq_true rfl, Nat.le_of_ble_eq_true rfl⟩, rfl, rfl⟩ hE hP [0, 1] rfl ⟨0, 6, _, _, rfl, rfl, rfl⟩ hl.1 rfl (Nat.le_of_ble_eq_true rfl) dX4_carriesOut_76 ⟨Nat.le_of_ble_eq_true rfl, Nat.le_of_ble_eq_true rfl⟩) (fun v76 e76 => ?_)
  have i79 : nI (39 + 8 * kr + 2) = nI (39 + 8 * kr + 2) := rfl
  have j79 : 39 + 8 * kr + 2 < 460 := by omega
  refine va_last hx hb hE.1 hP hD hS 1 1 rfl rfl (by rw [i79]; exact vp_in_nI j79 (by omega)) dX4_carriesOut_79 (fun H locs hP hD hS => ?_)
  rw [i79, nI_clamp (by omega)] at hP hD
  have hP : va_P K.1 vwCl [(b 0, .inr (6, [.ref (b 1), .ref (b 2), .int sm, .int th])), (b 1, .inl (K.2.2.1, 460, .inr (.inl (vp_updL (vp_updL (vp_updL al (39 + 8 * kr) (lN i)) (39 + 8 * kr + 1) (lN j)) (39 + 8 * kr + 2) v76))))] H := hP
  have hD : va_D A [(b 0, .inr (6, [.ref (b 1), .ref (b 2), .int sm, .int th])), (b 1, .inl (K.2.2.1, 460, .inr (.inl (vp_updL (vp_updL (vp_updL al (39 + 8 * kr) (lN i)) (39 + 8 * kr + 1) (lN j)) (39 + 8 * kr + 2) v76))))] := hD
  refine lv_lload hx hb dX4_carriesOut_80 (lv_at hl 0 rfl) ?_
  refine lv_lload hx hb dX4_carriesOut_82 (lv_at hl 2 rfl) ?_
  refine lv_ladd hx hb dX4_carriesOut_84 ?_
  refine lv_topl (fun v84 e84 => ?_)
  have q84 : v84.toInt = t0.toInt + way fn i j := by rw [e84, fb_addL (by rw [q21]; omega) (by rw [q21]; omega), q21]
  refine lv_lstore (lv' := [(12, .long v84), (11, .int (nI (39 + 8 * kr))), (9, .long v21), (0, .ref (b 0)), (1, .long t0), (3, .int (nI i)), (4, .int (nI j)), (5, .long (lN r1)), (7, .long (lN r2))]) hx hb dX4_carriesOut_85 hl (by decide) rfl (fun ls hl => ?_)
  refine lv_aload_n hx hb dX4_carriesOut_87 rfl (lv_at hl 3 rfl) ?_
  refine va_get (D := K.1) (ci := 6) (v := .ref (b 1)) (C := RX4) (T := TX4) (N := 4) hx hb hts inX4 hown hE.1 hP 0 rfl rfl 0 (by decide) (hts _ kf_X4_7) (fun _ h9 => h9) rfl dX4_carriesOut_88 ?_
  refine lv_iload hx hb dX4_carriesOut_91 (lv_at hl 1 rfl) ?_
  refine lv_iconst (v := nI 3) hx hb dX4_carriesOut_93 (by decide) ?_
  refine lv_iadd hx hb dX4_carriesOut_94 ?_
  rw [nI_add (39 + 8 * kr) 3]
  refine lv_aload_n hx hb dX4_carriesOut_95 rfl (lv_at hl 3 rfl) ?_
  refine lv_iload hx hb dX4_carriesOut_96 (lv_at hl 6 rfl) ?_
  refine lv_lload hx hb dX4_carriesOut_98 (lv_at hl 0 rfl) ?_
  refine goL (rdV (As := [.int (nI j), .long v84]) (rest := [.int (nI (39 + 8 * kr + 3)), .ref (b 1)]) (m_counterAt l K b sm th (vp_updL (vp_updL (vp_updL al (39 + 8 * kr) (lN i)) (39 + 8 * kr + 1) (lN j)) (39 + 8 * kr + 2) v76) kn fn h6 (nodU h6 (by omega) (nodU h6 (by omega) (nodU h6 (by omega) hN))) j v84 hj (hn _ hj) (by rw [q84]; omega)) ⟨hx, hb, hml, hown, hts⟩ (gV kl_X4_76 ki_X4_counterAt ks_X4_counterAt kn_X4 kc_X4_counterAt) (by show okN yX4_counterAt 2; decide +kernel) ⟨⟨Nat.le_of_ble_eq_true rfl, Nat.le_of_ble_eq_true rfl⟩, rfl, rfl⟩ hE hP [0, 1] rfl ⟨0, 6, _, _, rfl, rfl, rfl⟩ hl.1 rfl (Nat.le_of_ble_eq_true rfl) dX4_carriesOut_100 ⟨Nat.le_of_ble_eq_true rfl, Nat.le_of_ble_eq_true rfl⟩) (fun v100 e100 => ?_)
  have i103 : nI (39 + 8 * kr + 3) = nI (39 + 8 * kr + 3) := rfl
  have j103 : 39 + 8 * kr + 3 < 460 := by omega
  refine va_last hx hb hE.1 hP hD hS 1 1 rfl rfl (by rw [i103]; exact vp_in_nI j103 (by omega)) dX4_carriesOut_103 (fun H locs hP hD hS => ?_)
  rw [i103, nI_clamp (by omega)] at hP hD
  have hP : va_P K.1 vwCl [(b 0, .inr (6, [.ref (b 1), .ref (b 2), .int sm, .int th])), (b 1, .inl (K.2.2.1, 460, .inr (.inl (vp_updL (vp_updL (vp_updL (vp_updL al (39 + 8 * kr) (lN i)) (39 + 8 * kr + 1) (lN j)) (39 + 8 * kr + 2) v76) (39 + 8 * kr + 3) v100))))] H := hP
  have hD : va_D A [(b 0, .inr (6, [.ref (b 1), .ref (b 2), .int sm, .int th])), (b 1, .inl (K.2.2.1, 460, .inr (.inl (vp_updL (vp_updL (vp_updL (vp_updL al (39 + 8 * kr) (lN i)) (39 + 8 * kr + 1) (lN j)) (39 + 8 * kr + 2) v76) (39 + 8 * kr + 3) v100))))] := hD
  refine lv_lload hx hb dX4_carriesOut_104 (lv_at hl 0 rfl) ?_
  refine lv_lload hx hb dX4_carriesOut_106 (lv_at hl 7 rfl) ?_
  refine lv_ladd hx hb dX4_carriesOut_108 ?_
  refine lv_topl (fun v108 e108 => ?_)
  have q108 : v108.toInt = t0.toInt + way fn i j + r1 := by rw [e108, fb_addL (by rw [q84, lN_T (by omega)]; omega) (by rw [q84, lN_T (by omega)]; omega), q84, lN_T (by omega)]
  refine lv_lstore (lv' := [(12, .long v108), (11, .int (nI (39 + 8 * kr))), (9, .long v21), (0, .ref (b 0)), (1, .long t0), (3, .int (nI i)), (4, .int (nI j)), (5, .long (lN r1)), (7, .long (lN r2))]) hx hb dX4_carriesOut_109 hl (by decide) rfl (fun ls hl => ?_)
  refine lv_aload_n hx hb dX4_carriesOut_111 rfl (lv_at hl 3 rfl) ?_
  refine va_get (D := K.1) (ci := 6) (v := .ref (b 1)) (C := RX4) (T := TX4) (N := 4) hx hb hts inX4 hown hE.1 hP 0 rfl rfl 0 (by decide) (hts _ kf_X4_7) (fun _ h9 => h9) rfl dX4_carriesOut_112 ?_
  refine lv_iload hx hb dX4_carriesOut_115 (lv_at hl 1 rfl) ?_
  refine lv_iconst (v := nI 4) hx hb dX4_carriesOut_117 (by decide) ?_
  refine lv_iadd hx hb dX4_carriesOut_118 ?_
  rw [nI_add (39 + 8 * kr) 4]
  refine lv_aload_n hx hb dX4_carriesOut_119 rfl (lv_at hl 3 rfl) ?_
  refine lv_iload hx hb dX4_carriesOut_120 (lv_at hl 6 rfl) ?_
  refine lv_lload hx hb dX4_carriesOut_122 (lv_at hl 0 rfl) ?_
  refine goL (rdV (As := [.int (nI j), .long v108]) (rest := [.int (nI (39 + 8 * kr + 4)), .ref (b 1)]) (m_counterAt l K b sm th (vp_updL (vp_updL (vp_updL (vp_updL al (39 + 8 * kr) (lN i)) (39 + 8 * kr + 1) (lN j)) (39 + 8 * kr + 2) v76) (39 + 8 * kr + 3) v100) kn fn h6 (nodU h6 (by omega) (nodU h6 (by omega) (nodU h6 (by omega) (nodU h6 (by omega) hN)))) j v108 hj (hn _ hj) (by rw [q108]; omega)) ⟨hx, hb, hml, hown, hts⟩ (gV kl_X4_76 ki_X4_counterAt ks_X4_counterAt kn_X4 kc_X4_counterAt) (by show okN yX4_counterAt 2; decide +kernel) ⟨⟨Nat.le_of_ble_eq_true rfl, Nat.le_of_ble_eq_true rfl⟩, rfl, rfl⟩ hE hP [0, 1] rfl ⟨0, 6, _, _, rfl, rfl, rfl⟩ hl.1 rfl (Nat.le_of_ble_eq_true rfl) dX4_carriesOut_124 ⟨Nat.le_of_ble_eq_true rfl, Nat.le_of_ble_eq_true rfl⟩) (fun v124 e124 => ?_)
  have i127 : nI (39 + 8 * kr + 4) = nI (39 + 8 * kr + 4) := rfl
  have j127 : 39 + 8 * kr + 4 < 460 := by omega
  refine va_last hx hb hE.1 hP hD hS 1 1 rfl rfl (by rw [i127]; exact vp_in_nI j127 (by omega)) dX4_carriesOut_127 (fun H locs hP hD hS => ?_)
  rw [i127, nI_clamp (by omega)] at hP hD
  have hP : va_P K.1 vwCl [(b 0, .inr (6, [.ref (b 1), .ref (b 2), .int sm, .int th])), (b 1, .inl (K.2.2.1, 460, .inr (.inl (vp_updL (vp_updL (vp_updL (vp_updL (vp_updL al (39 + 8 * kr) (lN i)) (39 + 8 * kr + 1) (lN j)) (39 + 8 * kr + 2) v76) (39 + 8 * kr + 3) v100) (39 + 8 * kr + 4) v124))))] H := hP
  have hD : va_D A [(b 0, .inr (6, [.ref (b 1), .ref (b 2), .int sm, .int th])), (b 1, .inl (K.2.2.1, 460, .inr (.inl (vp_updL (vp_updL (vp_updL (vp_updL (vp_updL al (39 + 8 * kr) (lN i)) (39 + 8 * kr + 1) (lN j)) (39 + 8 * kr + 2) v76) (39 + 8 * kr + 3) v100) (39 + 8 * kr + 4) v124))))] := hD
  refine lv_lload hx hb dX4_carriesOut_128 (lv_at hl 0 rfl) ?_
  refine lv_lload hx hb dX4_carriesOut_130 (lv_at hl 2 rfl) ?_
  refine lv_ladd hx hb dX4_carriesOut_132 ?_
  refine lv_topl (fun v132 e132 => ?_)
  have q132 : v132.toInt = t0.toInt + way fn i j + r1 + way fn i j := by rw [e132, fb_addL (by rw [q108, q21]; omega) (by rw [q108, q21]; omega), q108, q21]
  refine lv_lstore (lv' := [(12, .long v132), (11, .int (nI (39 + 8 * kr))), (9, .long v21), (0, .ref (b 0)), (1, .long t0), (3, .int (nI i)), (4, .int (nI j)), (5, .long (lN r1)), (7, .long (lN r2))]) hx hb dX4_carriesOut_133 hl (by decide) rfl (fun ls hl => ?_)
  refine lv_aload_n hx hb dX4_carriesOut_135 rfl (lv_at hl 3 rfl) ?_
  refine va_get (D := K.1) (ci := 6) (v := .ref (b 1)) (C := RX4) (T := TX4) (N := 4) hx hb hts inX4 hown hE.1 hP 0 rfl rfl 0 (by decide) (hts _ kf_X4_7) (fun _ h9 => h9) rfl dX4_carriesOut_136 ?_
  refine lv_iload hx hb dX4_carriesOut_139 (lv_at hl 1 rfl) ?_
  refine lv_iconst (v := nI 5) hx hb dX4_carriesOut_141 (by decide) ?_
  refine lv_iadd hx hb dX4_carriesOut_142 ?_
  rw [nI_add (39 + 8 * kr) 5]
  refine lv_aload_n hx hb dX4_carriesOut_143 rfl (lv_at hl 3 rfl) ?_
  refine lv_iload_n hx hb dX4_carriesOut_144 rfl (lv_at hl 5 rfl) ?_
  refine lv_lload hx hb dX4_carriesOut_145 (lv_at hl 0 rfl) ?_
  refine goL (rdV (As := [.int (nI i), .long v132]) (rest := [.int (nI (39 + 8 * kr + 5)), .ref (b 1)]) (m_counterAt l K b sm th (vp_updL (vp_updL (vp_updL (vp_updL (vp_updL al (39 + 8 * kr) (lN i)) (39 + 8 * kr + 1) (lN j)) (39 + 8 * kr + 2) v76) (39 + 8 * kr + 3) v100) (39 + 8 * kr + 4) v124) kn fn h6 (nodU h6 (by omega) (nodU h6 (by omega) (nodU h6 (by omega) (nodU h6 (by omega) (nodU h6 (by omega) hN))))) i v132 hi (hn _ hi) (by rw [q132]; omega)) ⟨hx, hb, hml, hown, hts⟩ (gV kl_X4_76 ki_X4_counterAt ks_X4_counterAt kn_X4 kc_X4_counterAt) (by show okN yX4_counterAt 2; decide +kernel) ⟨⟨Nat.le_of_ble_eq_true rfl, Nat.le_of_ble_eq_true rfl⟩, rfl, rfl⟩ hE hP [0, 1] rfl ⟨0, 6, _, _, rfl, rfl, rfl⟩ hl.1 rfl (Nat.le_of_ble_eq_true rfl) dX4_carriesOut_147 ⟨Nat.le_of_ble_eq_true rfl, Nat.le_of_ble_eq_true rfl⟩) (fun v147 e147 => ?_)
  have i150 : nI (39 + 8 * kr + 5) = nI (39 + 8 * kr + 5) := rfl
  have j150 : 39 + 8 * kr + 5 < 460 := by omega
  refine va_last hx hb hE.1 hP hD hS 1 1 rfl rfl (by rw [i150]; exact vp_in_nI j150 (by omega)) dX4_carriesOut_150 (fun H locs hP hD hS => ?_)
  rw [i150, nI_clamp (by omega)] at hP hD
  have hP : va_P K.1 vwCl [(b 0, .inr (6, [.ref (b 1), .ref (b 2), .int sm, .int th])), (b 1, .inl (K.2.2.1, 460, .inr (.inl (vp_updL (vp_updL (vp_updL (vp_updL (vp_updL (vp_updL al (39 + 8 * kr) (lN i)) (39 + 8 * kr + 1) (lN j)) (39 + 8 * kr + 2) v76) (39 + 8 * kr + 3) v100) (39 + 8 * kr + 4) v124) (39 + 8 * kr + 5) v147))))] H := hP
  have hD : va_D A [(b 0, .inr (6, [.ref (b 1), .ref (b 2), .int sm, .int th])), (b 1, .inl (K.2.2.1, 460, .inr (.inl (vp_updL (vp_updL (vp_updL (vp_updL (vp_updL (vp_updL al (39 + 8 * kr) (lN i)) (39 + 8 * kr + 1) (lN j)) (39 + 8 * kr + 2) v76) (39 + 8 * kr + 3) v100) (39 + 8 * kr + 4) v124) (39 + 8 * kr + 5) v147))))] := hD
  refine lv_lload hx hb dX4_carriesOut_151 (lv_at hl 0 rfl) ?_
  refine lv_lload hx hb dX4_carriesOut_153 (lv_at hl 8 rfl) ?_
  refine lv_ladd hx hb dX4_carriesOut_155 ?_
  refine lv_topl (fun v155 e155 => ?_)
  have q155 : v155.toInt = t0.toInt + way fn i j + r1 + way fn i j + r2 := by rw [e155, fb_addL (by rw [q132, lN_T (by omega)]; omega) (by rw [q132, lN_T (by omega)]; omega), q132, lN_T (by omega)]
  refine lv_lstore (lv' := [(12, .long v155), (11, .int (nI (39 + 8 * kr))), (9, .long v21), (0, .ref (b 0)), (1, .long t0), (3, .int (nI i)), (4, .int (nI j)), (5, .long (lN r1)), (7, .long (lN r2))]) hx hb dX4_carriesOut_156 hl (by decide) rfl (fun ls hl => ?_)
  refine lv_aload_n hx hb dX4_carriesOut_158 rfl (lv_at hl 3 rfl) ?_
  refine va_get (D := K.1) (ci := 6) (v := .ref (b 1)) (C := RX4) (T := TX4) (N := 4) hx hb hts inX4 hown hE.1 hP 0 rfl rfl 0 (by decide) (hts _ kf_X4_7) (fun _ h9 => h9) rfl dX4_carriesOut_159 ?_
  refine lv_iload hx hb dX4_carriesOut_162 (lv_at hl 1 rfl) ?_
  refine lv_bipush (v := nI 6) hx hb dX4_carriesOut_164 (by decide) ?_
  refine lv_iadd hx hb dX4_carriesOut_166 ?_
  rw [nI_add (39 + 8 * kr) 6]
  refine lv_aload_n hx hb dX4_carriesOut_167 rfl (lv_at hl 3 rfl) ?_
  refine lv_iload_n hx hb dX4_carriesOut_168 rfl (lv_at hl 5 rfl) ?_
  refine lv_lload hx hb dX4_carriesOut_169 (lv_at hl 0 rfl) ?_
  refine goL (rdV (As := [.int (nI i), .long v155]) (rest := [.int (nI (39 + 8 * kr + 6)), .ref (b 1)]) (m_counterAt l K b sm th (vp_updL (vp_updL (vp_updL (vp_updL (vp_updL (vp_updL al (39 + 8 * kr) (lN i)) (39 + 8 * kr + 1) (lN j)) (39 + 8 * kr + 2) v76) (39 + 8 * kr + 3) v100) (39 + 8 * kr + 4) v124) (39 + 8 * kr + 5) v147) kn fn h6 (nodU h6 (by omega) (nodU h6 (by omega) (nodU h6 (by omega) (nodU h6 (by omega) (nodU h6 (by omega) (nodU h6 (by omega) hN)))))) i v155 hi (hn _ hi) (by rw [q155]; omega)) ⟨hx, hb, hml, hown, hts⟩ (gV kl_X4_76 ki_X4_counterAt ks_X4_counterAt kn_X4 kc_X4_counterAt) (by show okN yX4_counterAt 2; decide +kernel) ⟨⟨Nat.le_of_ble_eq_true rfl, Nat.le_of_ble_eq_true rfl⟩, rfl, rfl⟩ hE hP [0, 1] rfl ⟨0, 6, _, _, rfl, rfl, rfl⟩ hl.1 rfl (Nat.le_of_ble_eq_true rfl) dX4_carriesOut_171 ⟨Nat.le_of_ble_eq_true rfl, Nat.le_of_ble_eq_true rfl⟩) (fun v171 e171 => ?_)
  have i174 : nI (39 + 8 * kr + 6) = nI (39 + 8 * kr + 6) := rfl
  have j174 : 39 + 8 * kr + 6 < 460 := by omega
  refine va_last hx hb hE.1 hP hD hS 1 1 rfl rfl (by rw [i174]; exact vp_in_nI j174 (by omega)) dX4_carriesOut_174 (fun H locs hP hD hS => ?_)
  rw [i174, nI_clamp (by omega)] at hP hD
  have hP : va_P K.1 vwCl [(b 0, .inr (6, [.ref (b 1), .ref (b 2), .int sm, .int th])), (b 1, .inl (K.2.2.1, 460, .inr (.inl (vp_updL (vp_updL (vp_updL (vp_updL (vp_updL (vp_updL (vp_updL al (39 + 8 * kr) (lN i)) (39 + 8 * kr + 1) (lN j)) (39 + 8 * kr + 2) v76) (39 + 8 * kr + 3) v100) (39 + 8 * kr + 4) v124) (39 + 8 * kr + 5) v147) (39 + 8 * kr + 6) v171))))] H := hP
  have hD : va_D A [(b 0, .inr (6, [.ref (b 1), .ref (b 2), .int sm, .int th])), (b 1, .inl (K.2.2.1, 460, .inr (.inl (vp_updL (vp_updL (vp_updL (vp_updL (vp_updL (vp_updL (vp_updL al (39 + 8 * kr) (lN i)) (39 + 8 * kr + 1) (lN j)) (39 + 8 * kr + 2) v76) (39 + 8 * kr + 3) v100) (39 + 8 * kr + 4) v124) (39 + 8 * kr + 5) v147) (39 + 8 * kr + 6) v171))))] := hD
  refine lv_lload hx hb dX4_carriesOut_175 (lv_at hl 0 rfl) ?_
  refine lv_lload hx hb dX4_carriesOut_177 (lv_at hl 2 rfl) ?_
  refine lv_ladd hx hb dX4_carriesOut_179 ?_
  refine lv_topl (fun v179 e179 => ?_)
  have q179 : v179.toInt = t0.toInt + way fn i j + r1 + way fn i j + r2 + way fn i j := by rw [e179, fb_addL (by rw [q155, q21]; omega) (by rw [q155, q21]; omega), q155, q21]
  refine lv_lstore (lv' := [(12, .long v179), (11, .int (nI (39 + 8 * kr))), (9, .long v21), (0, .ref (b 0)), (1, .long t0), (3, .int (nI i)), (4, .int (nI j)), (5, .long (lN r1)), (7, .long (lN r2))]) hx hb dX4_carriesOut_180 hl (by decide) rfl (fun ls hl => ?_)
  refine lv_aload_n hx hb dX4_carriesOut_182 rfl (lv_at hl 3 rfl) ?_
  refine va_get (D := K.1) (ci := 6) (v := .ref (b 1)) (C := RX4) (T := TX4) (N := 4) hx hb hts inX4 hown hE.1 hP 0 rfl rfl 0 (by decide) (hts _ kf_X4_7) (fun _ h9 => h9) rfl dX4_carriesOut_183 ?_
  refine lv_iload hx hb dX4_carriesOut_186 (lv_at hl 1 rfl) ?_
  refine lv_bipush (v := nI 7) hx hb dX4_carriesOut_188 (by decide) ?_
  refine lv_iadd hx hb dX4_carriesOut_190 ?_
  rw [nI_add (39 + 8 * kr) 7]
  refine lv_aload_n hx hb dX4_carriesOut_191 rfl (lv_at hl 3 rfl) ?_
  refine lv_iload hx hb dX4_carriesOut_192 (lv_at hl 6 rfl) ?_
  refine lv_lload hx hb dX4_carriesOut_194 (lv_at hl 0 rfl) ?_
  refine goL (rdV (As := [.int (nI j), .long v179]) (rest := [.int (nI (39 + 8 * kr + 7)), .ref (b 1)]) (m_counterAt l K b sm th (vp_updL (vp_updL (vp_updL (vp_updL (vp_updL (vp_updL (vp_updL al (39 + 8 * kr) (lN i)) (39 + 8 * kr + 1) (lN j)) (39 + 8 * kr + 2) v76) (39 + 8 * kr + 3) v100) (39 + 8 * kr + 4) v124) (39 + 8 * kr + 5) v147) (39 + 8 * kr + 6) v171) kn fn h6 (nodU h6 (by omega) (nodU h6 (by omega) (nodU h6 (by omega) (nodU h6 (by omega) (nodU h6 (by omega) (nodU h6 (by omega) (nodU h6 (by omega) hN))))))) j v179 hj (hn _ hj) (by rw [q179]; omega)) ⟨hx, hb, hml, hown, hts⟩ (gV kl_X4_76 ki_X4_counterAt ks_X4_counterAt kn_X4 kc_X4_counterAt) (by show okN yX4_counterAt 2; decide +kernel) ⟨⟨Nat.le_of_ble_eq_true rfl, Nat.le_of_ble_eq_true rfl⟩, rfl, rfl⟩ hE hP [0, 1] rfl ⟨0, 6, _, _, rfl, rfl, rfl⟩ hl.1 rfl (Nat.le_of_ble_eq_true rfl) dX4_carriesOut_196 ⟨Nat.le_of_ble_eq_true rfl, Nat.le_of_ble_eq_true rfl⟩) (fun v196 e196 => ?_)
  have i199 : nI (39 + 8 * kr + 7) = nI (39 + 8 * kr + 7) := rfl
  have j199 : 39 + 8 * kr + 7 < 460 := by omega
  refine va_last hx hb hE.1 hP hD hS 1 1 rfl rfl (by rw [i199]; exact vp_in_nI j199 (by omega)) dX4_carriesOut_199 (fun H locs hP hD hS => ?_)
  rw [i199, nI_clamp (by omega)] at hP hD
  have hP : va_P K.1 vwCl [(b 0, .inr (6, [.ref (b 1), .ref (b 2), .int sm, .int th])), (b 1, .inl (K.2.2.1, 460, .inr (.inl (vp_updL (vp_updL (vp_updL (vp_updL (vp_updL (vp_updL (vp_updL (vp_updL al (39 + 8 * kr) (lN i)) (39 + 8 * kr + 1) (lN j)) (39 + 8 * kr + 2) v76) (39 + 8 * kr + 3) v100) (39 + 8 * kr + 4) v124) (39 + 8 * kr + 5) v147) (39 + 8 * kr + 6) v171) (39 + 8 * kr + 7) v196))))] H := hP
  have hD : va_D A [(b 0, .inr (6, [.ref (b 1), .ref (b 2), .int sm, .int th])), (b 1, .inl (K.2.2.1, 460, .inr (.inl (vp_updL (vp_updL (vp_updL (vp_updL (vp_updL (vp_updL (vp_updL (vp_updL al (39 + 8 * kr) (lN i)) (39 + 8 * kr + 1) (lN j)) (39 + 8 * kr + 2) v76) (39 + 8 * kr + 3) v100) (39 + 8 * kr + 4) v124) (39 + 8 * kr + 5) v147) (39 + 8 * kr + 6) v171) (39 + 8 * kr + 7) v196))))] := hD
  refine lv_aload_n hx hb dX4_carriesOut_200 rfl (lv_at hl 3 rfl) ?_
  refine va_get (D := K.1) (ci := 6) (v := .ref (b 1)) (C := RX4) (T := TX4) (N := 4) hx hb hts inX4 hown hE.1 hP 0 rfl rfl 0 (by decide) (hts _ kf_X4_7) (fun _ h9 => h9) rfl dX4_carriesOut_201 ?_
  refine lv_bipush (v := nI 38) hx hb dX4_carriesOut_204 (by decide) ?_
  refine lv_dup2_11 hx hb dX4_carriesOut_206 rfl rfl ?_
  have i207 : nI 38 = nI 38 := rfl
  have j207 : 38 < 460 := by omega
  refine va_lald hx hb hE.1 hP 1 1 rfl rfl (by rw [i207]; exact vp_in_nI j207 (by omega)) dX4_carriesOut_207 ?_
  rw [i207, nI_clamp (by omega)]
  refine lv_topl (fun v207 e207 => ?_)
  have q207 : v207 = lN kr := by rw [e207, ul_ne (by omega), ul_ne (by omega), ul_ne (by omega), ul_ne (by omega), ul_ne (by omega), ul_ne (by omega), ul_ne (by omega), ul_ne (by omega), h38]
  rw [q207]
  refine lv_lconst (v := lN 1) hx hb dX4_carriesOut_208 (by decide) ?_
  refine lv_ladd hx hb dX4_carriesOut_209 ?_
  rw [lN_add kr 1]
  have i210 : nI 38 = nI 38 := rfl
  have j210 : 38 < 460 := by omega
  refine va_last hx hb hE.1 hP hD hS 1 1 rfl rfl (by rw [i210]; exact vp_in_nI j210 (by omega)) dX4_carriesOut_210 (fun H locs hP hD hS => ?_)
  rw [i210, nI_clamp (by omega)] at hP hD
  have hP : va_P K.1 vwCl [(b 0, .inr (6, [.ref (b 1), .ref (b 2), .int sm, .int th])), (b 1, .inl (K.2.2.1, 460, .inr (.inl (vp_updL (vp_updL (vp_updL (vp_updL (vp_updL (vp_updL (vp_updL (vp_updL (vp_updL al (39 + 8 * kr) (lN i)) (39 + 8 * kr + 1) (lN j)) (39 + 8 * kr + 2) v76) (39 + 8 * kr + 3) v100) (39 + 8 * kr + 4) v124) (39 + 8 * kr + 5) v147) (39 + 8 * kr + 6) v171) (39 + 8 * kr + 7) v196) 38 (lN (kr + 1))))))] H := hP
  have hD : va_D A [(b 0, .inr (6, [.ref (b 1), .ref (b 2), .int sm, .int th])), (b 1, .inl (K.2.2.1, 460, .inr (.inl (vp_updL (vp_updL (vp_updL (vp_updL (vp_updL (vp_updL (vp_updL (vp_updL (vp_updL al (39 + 8 * kr) (lN i)) (39 + 8 * kr + 1) (lN j)) (39 + 8 * kr + 2) v76) (39 + 8 * kr + 3) v100) (39 + 8 * kr + 4) v124) (39 + 8 * kr + 5) v147) (39 + 8 * kr + 6) v171) (39 + 8 * kr + 7) v196) 38 (lN (kr + 1))))))] := hD
  refine lv_aload_n hx hb dX4_carriesOut_211 rfl (lv_at hl 3 rfl) ?_
  refine va_get (D := K.1) (ci := 6) (v := .ref (b 1)) (C := RX4) (T := TX4) (N := 4) hx hb hts inX4 hown hE.1 hP 0 rfl rfl 0 (by decide) (hts _ kf_X4_7) (fun _ h9 => h9) rfl dX4_carriesOut_212 ?_
  refine lv_iconst (v := nI 0) hx hb dX4_carriesOut_215 (by decide) ?_
  refine lv_lload hx hb dX4_carriesOut_216 (lv_at hl 0 rfl) ?_
  have i218 : nI 0 = nI 0 := rfl
  have j218 : 0 < 460 := by omega
  refine va_last hx hb hE.1 hP hD hS 1 1 rfl rfl (by rw [i218]; exact vp_in_nI j218 (by omega)) dX4_carriesOut_218 (fun H locs hP hD hS => ?_)
  rw [i218, nI_clamp (by omega)] at hP hD
  have hP : va_P K.1 vwCl [(b 0, .inr (6, [.ref (b 1), .ref (b 2), .int sm, .int th])), (b 1, .inl (K.2.2.1, 460, .inr (.inl (vp_updL (vp_updL (vp_updL (vp_updL (vp_updL (vp_updL (vp_updL (vp_updL (vp_updL (vp_updL al (39 + 8 * kr) (lN i)) (39 + 8 * kr + 1) (lN j)) (39 + 8 * kr + 2) v76) (39 + 8 * kr + 3) v100) (39 + 8 * kr + 4) v124) (39 + 8 * kr + 5) v147) (39 + 8 * kr + 6) v171) (39 + 8 * kr + 7) v196) 38 (lN (kr + 1))) 0 v179))))] H := hP
  have hD : va_D A [(b 0, .inr (6, [.ref (b 1), .ref (b 2), .int sm, .int th])), (b 1, .inl (K.2.2.1, 460, .inr (.inl (vp_updL (vp_updL (vp_updL (vp_updL (vp_updL (vp_updL (vp_updL (vp_updL (vp_updL (vp_updL al (39 + 8 * kr) (lN i)) (39 + 8 * kr + 1) (lN j)) (39 + 8 * kr + 2) v76) (39 + 8 * kr + 3) v100) (39 + 8 * kr + 4) v124) (39 + 8 * kr + 5) v147) (39 + 8 * kr + 6) v171) (39 + 8 * kr + 7) v196) 38 (lN (kr + 1))) 0 v179))))] := hD
  exact fV (vp_updL (vp_updL (vp_updL (vp_updL (vp_updL (vp_updL (vp_updL (vp_updL (vp_updL (vp_updL al (39 + 8 * kr) (lN i)) (39 + 8 * kr + 1) (lN j)) (39 + 8 * kr + 2) v76) (39 + 8 * kr + 3) v100) (39 + 8 * kr + 4) v124) (39 + 8 * kr + 5) v147) (39 + 8 * kr + 6) v171) (39 + 8 * kr + 7) v196) 38 (lN (kr + 1))) 0 v179) hx hb hr hlocks hAe hP hD hS [0, 1] (by decide) rfl (outR_mk (by omega) (by omega) (by omega) hR rfl rfl e76 (by rw [e100, q84]) (by rw [e124, q108]) (by rw [e147, q132]) (by rw [e171, q155]) (by rw [e196, q179]) q179) dX4_carriesOut_219
