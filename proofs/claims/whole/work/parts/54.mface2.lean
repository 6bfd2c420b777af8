/-! the reference's face: what changes its array -/
abbrev MD : Type := Int32 × (Nat → Int64) × (Nat → Int64) × Nat
theorem toL {v : Int64} {x : Int32} (h : v.toInt = x.toInt) : v = x.toInt64 := eqL (by rw [i64T, h])
theorem asI32 {v : Int64} (h1 : -2147483648 ≤ v.toInt) (h2 : v.toInt < 2147483648) : ∃ x : Int32, v = x.toInt64 := ⟨v.toInt32, toL (i32T h1 h2).symm⟩
theorem time_cp {al : Nat → Int64} {x u : SD} {v : Int64} (h : Cp al x) (h6 : x.2.1.1 ≤ 6) (e : u.2 = x.2) (ev : v = u.1) : Cp (vp_updL al 0 v) u := by
  obtain ⟨t, y⟩ := x
  obtain ⟨t2, y2⟩ := u
  dsimp only at e ev
  subst e; subst ev
  obtain ⟨c1, c2, c3, c4, c5, c6, c7⟩ := h
  dsimp only at c1 c2 c3 c4 c5 c6 c7 h6
  exact ⟨ul_eq, (ul_ne (by decide)).trans c2, fun q hq => (ul_ne (by omega)).trans (c3 q hq), (ul_ne (by decide)).trans c4, fun q hq => (ul_ne (by omega)).trans (c5 q hq), (ul_ne (by decide)).trans c6, PlnC_congr c7 (fun q h1 _ => ul_ne (by omega)) (fun _ _ => rfl)⟩
set_option maxHeartbeats 4000000 in
set_option maxRecDepth 100000 in
theorem n_addNode (l : Launch) (K : EK) (b : Nat → Nat) (m : Nat) (th : Int32) (al sv : Nat → Int64) (t : Int64) (kn : Nat) (fn : Nat → Int32) (kr : Nat) (fr : Nat → Int32) (kp : Nat) (fp : Nat → Int32) (p0 p1 p2 p3 p4 : Int32) (hC : Cp al (t, (kn, fn), (kr, fr), (kp, fp))) (hSI : SI (t, (kn, fn), (kr, fr), (kp, fp))) (hm : m ≤ 4) (sz : Nat) : Met l yX4_addNode (wq yX4_addNode cX4_addNode 8 (some .int)) (rmL 7 0 0) (va_Pc [.ref (b 0), .int p0, .int p1, .int p2, .int p3, .int p4] (PW K sz [(b 0, .inr (6, [.ref (b 1), .ref (b 2), .int (nI m), .int th])), (b 1, .inl (K.2.2.1, 460, .inr (.inl (al)))), (b 2, .inl (K.2.2.1, 1840, .inr (.inl (sv))))])) (va_Qi (fun r (u : MD) => Gs u.1 ((-1000 ≤ p0.toInt ∧ p0.toInt ≤ 1000) ∧ (-1000 ≤ p1.toInt ∧ p1.toInt ≤ 1000) ∧ (-100 ≤ p2.toInt ∧ p2.toInt ≤ 100) ∧ (0 ≤ p3.toInt ∧ p3.toInt ≤ 1048575) ∧ (0 ≤ p4.toInt ∧ p4.toInt ≤ 200)) (kn < 6) True ∧ (¬ u.1 = 0 → u.2 = (al, sv, m)) ∧ (u.1 = 0 → (savR al sv m u.2.2.1 u.2.2.2 ∧ (r = nI kn ∧ ∀ B, addR p0 p1 p2 p3 p4 (t, (kn, fn), (kr, fr), (kp, fp)) B → Cp u.2.1 B)))) (Bw K sz [(b 0, .inr (6, [.ref (b 1), .ref (b 2), .int (nI m), .int th])), (b 1, .inl (K.2.2.1, 460, .inr (.inl (al)))), (b 2, .inl (K.2.2.1, 1840, .inr (.inl (sv))))] (fun (u : MD) => [(b 0, .inr (6, [.ref (b 1), .ref (b 2), .int (nI u.2.2.2), .int u.1])), (b 1, .inl (K.2.2.1, 460, .inr (.inl (u.2.1)))), (b 2, .inl (K.2.2.1, 1840, .inr (.inl (u.2.2.1))))])) (va_A [(b 0, .inr (6, [.ref (b 1), .ref (b 2), .int (nI m), .int th])), (b 1, .inl (K.2.2.1, 460, .inr (.inl (al)))), (b 2, .inl (K.2.2.1, 1840, .inr (.inl (sv))))] sz)) 0 0 (va_A [(b 0, .inr (6, [.ref (b 1), .ref (b 2), .int (nI m), .int th])), (b 1, .inl (K.2.2.1, 460, .inr (.inl (al)))), (b 2, .inl (K.2.2.1, 1840, .inr (.inl (sv))))] sz) := by
  refine hdW (by decide +kernel) (Nat.le_of_ble_eq_true rfl) ?_
  intro pp ee s mm bl9 me9 cd hx hb hr hlocks hml hown hin hts hE hP A hAe hsz hA hD hS ls hl
  have hown : s.vm.findClass RX4 = some mm.cls := hown
  have hP : va_P K.1 vwCl [(b 0, .inr (6, [.ref (b 1), .ref (b 2), .int (nI m), .int th])), (b 1, .inl (K.2.2.1, 460, .inr (.inl (al)))), (b 2, .inl (K.2.2.1, 1840, .inr (.inl (sv))))] s.heap := hP
  have hD : va_D A [(b 0, .inr (6, [.ref (b 1), .ref (b 2), .int (nI m), .int th])), (b 1, .inl (K.2.2.1, 460, .inr (.inl (al)))), (b 2, .inl (K.2.2.1, 1840, .inr (.inl (sv))))] := hD
  have hl : lv_has ls 8 [(0, .ref (b 0)), (1, .int p0), (2, .int p1), (3, .int p2), (4, .int p3), (5, .int p4)] := hl
  have s1 : kn ≤ 6 := hSI.1
  have s2 : kr ≤ 40 := hSI.2.1
  have s3 : kp ≤ 20 := hSI.2.2.1
  have s4 : 0 ≤ t.toInt ∧ t.toInt ≤ 900000000 + 1000000 * (kr : Int) := hSI.2.2.2.1
  have hn : ∀ i, i < kn → nOk fn i := hSI.2.2.2.2.1
  have hrs : ∀ e, e < kr → rOk kn fr e := hSI.2.2.2.2.2.1
  have hps : ∀ k, k < kp → pOk kn fp k := hSI.2.2.2.2.2.2.1
  have h6 := s1
  have h40 := s2
  have h20 := s3
  have h0 : al 0 = t := hC.1
  have h1 : al 1 = lN kn := hC.2.1
  have hN : NodC al kn fn := hC.2.2.1
  have h38 : al 38 = lN kr := hC.2.2.2.1
  have hR : RecC al kr fr := hC.2.2.2.2.1
  have h359 : al 359 = lN kp := hC.2.2.2.2.2.1
  have hPl : PlnC al kp fp := hC.2.2.2.2.2.2
  refine jn (P := fun jv => Bo jv ((-1000 ≤ p0.toInt ∧ p0.toInt ≤ 1000) ∧ (-1000 ≤ p1.toInt ∧ p1.toInt ≤ 1000) ∧ (-100 ≤ p2.toInt ∧ p2.toInt ≤ 100) ∧ (0 ≤ p3.toInt ∧ p3.toInt ≤ 1048575) ∧ (0 ≤ p4.toInt ∧ p4.toInt ≤ 200))) 59 [] (fun j59 k59 => ?_) (fun hJ59 => ?_)
  · refine lv_istore (lv' := [(6, .int j59), (0, .ref (b 0)), (1, .int p0), (2, .int p1), (3, .int p2), (4, .int p3), (5, .int p4)]) hx hb dX4_addNode_59 hl (by decide) rfl (fun ls hl => ?_)
    refine lv_aload_n hx hb dX4_addNode_61 rfl (lv_at hl 1 rfl) ?_
    refine lv_iload hx hb dX4_addNode_62 (lv_at hl 0 rfl) ?_
    refine jn (P := fun jv => Bo jv (kn < 6)) 82 [.int j59, .ref (b 0)] (fun j82 k82 => ?_) (fun hJ82 => ?_)
    · refine lv_iconst (v := nI 1) hx hb dX4_addNode_82 (by decide) ?_
      refine woI (wrV (As := [.int j59, .int j82, .int (nI 1)]) (rest := []) (m_goes l K b (nI m) th j59 j82 (nI 1) ((-1000 ≤ p0.toInt ∧ p0.toInt ≤ 1000) ∧ (-1000 ≤ p1.toInt ∧ p1.toInt ≤ 1000) ∧ (-100 ≤ p2.toInt ∧ p2.toInt ≤ 100) ∧ (0 ≤ p3.toInt ∧ p3.toInt ≤ 1048575) ∧ (0 ≤ p4.toInt ∧ p4.toInt ≤ 200)) (kn < 6) True k59 k82 Bo.one _) ⟨hx, hb, hml, hown, hts⟩ (gV kl_X4_45 ki_X4_goes ks_X4_goes kn_X4 kc_X4_goes) (by show okN yX4_goes 3; decide +kernel) ⟨⟨Nat.le_of_ble_eq_true rfl, Nat.le_of_ble_eq_true rfl⟩, ⟨rfl, rfl⟩, Nat.le_of_ble_eq_true rfl, Nat.le_of_ble_eq_true rfl⟩ hE hP hD [0] (by decide) rfl ⟨0, 6, _, _, rfl, rfl, rfl⟩ hl.1 rfl (Nat.le_of_ble_eq_true rfl) dX4_addNode_83) hP hD hS hA [(b 1, .inl (K.2.2.1, 460, .inr (.inl (al)))), (b 2, .inl (K.2.2.1, 1840, .inr (.inl (sv))))] (fun u => [(b 0, .inr (6, [.ref (b 1), .ref (b 2), .int (nI m), .int u])), (b 1, .inl (K.2.2.1, 460, .inr (.inl (al)))), (b 2, .inl (K.2.2.1, 1840, .inr (.inl (sv))))]) [0] [1, 2] [2, 0, 1] ⟨rfl, rfl, by decide, by decide, by decide, fun _ => rfl⟩ (fun v83 u83 H locs e83 hP hD hS => ?_)
      have hP : va_P K.1 vwCl [(b 0, .inr (6, [.ref (b 1), .ref (b 2), .int (nI m), .int u83])), (b 1, .inl (K.2.2.1, 460, .inr (.inl (al)))), (b 2, .inl (K.2.2.1, 1840, .inr (.inl (sv))))] H := hP
      have hD : va_D A [(b 0, .inr (6, [.ref (b 1), .ref (b 2), .int (nI m), .int u83])), (b 1, .inl (K.2.2.1, 460, .inr (.inl (al)))), (b 2, .inl (K.2.2.1, 1840, .inr (.inl (sv))))] := hD
      obtain ⟨g83, e83⟩ := e83
      refine lv_if_ne (tgt := 91) hx hb dX4_addNode_86 (by decide) (fun c86 => ?_) (fun c86 => ?_)
      · have c86 := (e83).t c86
        refine lv_aload_n hx hb dX4_addNode_91 rfl (lv_at hl 1 rfl) ?_
        refine woV (wrV (As := []) (rest := []) (m_save l K b m u83 al sv _ hm) ⟨hx, hb, hml, hown, hts⟩ (gV kl_X4_49 ki_X4_save ks_X4_save kn_X4 kc_X4_save) (by show okN yX4_save 0; decide +kernel) ⟨⟨Nat.le_of_ble_eq_true rfl, Nat.le_of_ble_eq_true rfl⟩, ⟨rfl, rfl⟩, Nat.le_of_ble_eq_true rfl, Nat.le_of_ble_eq_true rfl⟩ hE hP hD [0, 1, 2] (by decide) rfl ⟨0, 6, _, _, rfl, rfl, rfl⟩ hl.1 rfl (Nat.le_of_ble_eq_true rfl) dX4_addNode_92) hP hD hS hA [] (fun u => [(b 0, .inr (6, [.ref (b 1), .ref (b 2), .int (nI u.2), .int u83])), (b 1, .inl (K.2.2.1, 460, .inr (.inl (al)))), (b 2, .inl (K.2.2.1, 1840, .inr (.inl (u.1))))]) [0, 1, 2] [] [0, 1, 2] ⟨rfl, rfl, by decide, by decide, by decide, fun _ => rfl⟩ (fun u92 H locs e92 hP hD hS => ?_)
        obtain ⟨sv92, sm92⟩ := u92
        have hP : va_P K.1 vwCl [(b 0, .inr (6, [.ref (b 1), .ref (b 2), .int (nI sm92), .int u83])), (b 1, .inl (K.2.2.1, 460, .inr (.inl (al)))), (b 2, .inl (K.2.2.1, 1840, .inr (.inl (sv92))))] H := hP
        have hD : va_D A [(b 0, .inr (6, [.ref (b 1), .ref (b 2), .int (nI sm92), .int u83])), (b 1, .inl (K.2.2.1, 460, .inr (.inl (al)))), (b 2, .inl (K.2.2.1, 1840, .inr (.inl (sv92))))] := hD
        have e92 : savR al sv m sv92 sm92 := e92
        refine lv_iconst (v := nI 2) hx hb dX4_addNode_95 (by decide) ?_
        refine lv_bipush (v := nI 6) hx hb dX4_addNode_96 (by decide) ?_
        refine lv_aload_n hx hb dX4_addNode_98 rfl (lv_at hl 1 rfl) ?_
        refine va_get (D := K.1) (ci := 6) (v := .ref (b 1)) (C := RX4) (T := TX4) (N := 4) hx hb hts inX4 hown hE.1 hP 0 rfl rfl 0 (by decide) (hts _ kf_X4_7) (fun _ h9 => h9) rfl dX4_addNode_99 ?_
        refine lv_iconst (v := nI 1) hx hb dX4_addNode_102 (by decide) ?_
        have i103 : nI 1 = nI 1 := rfl
        have j103 : 1 < 460 := by omega
        refine va_lald hx hb hE.1 hP 1 1 rfl rfl (by rw [i103]; exact vp_in_nI j103 (by omega)) dX4_addNode_103 ?_
        rw [i103, nI_clamp (by omega)]
        refine lv_topl (fun v103 e103 => ?_)
        rw [e103, h1]
        refine lv_l2i hx hb dX4_addNode_104 (l2iN (by omega)) ?_
        refine lv_imul hx hb dX4_addNode_105 ?_
        rw [pk_mul 6 kn]
        refine lv_iadd hx hb dX4_addNode_106 ?_
        rw [nI_add 2 (6 * kn)]
        refine lv_istore (lv' := [(7, .int (nI (2 + 6 * kn))), (6, .int j59), (0, .ref (b 0)), (1, .int p0), (2, .int p1), (3, .int p2), (4, .int p3), (5, .int p4)]) hx hb dX4_addNode_107 hl (by decide) rfl (fun ls hl => ?_)
        refine lv_aload_n hx hb dX4_addNode_109 rfl (lv_at hl 2 rfl) ?_
        refine va_get (D := K.1) (ci := 6) (v := .ref (b 1)) (C := RX4) (T := TX4) (N := 4) hx hb hts inX4 hown hE.1 hP 0 rfl rfl 0 (by decide) (hts _ kf_X4_7) (fun _ h9 => h9) rfl dX4_addNode_110 ?_
        refine lv_iload hx hb dX4_addNode_113 (lv_at hl 0 rfl) ?_
        refine lv_iconst (v := nI 0) hx hb dX4_addNode_115 (by decide) ?_
        refine lv_iadd hx hb dX4_addNode_116 ?_
        rw [nI_add (2 + 6 * kn) 0]
        refine lv_iload_n hx hb dX4_addNode_117 rfl (lv_at hl 3 rfl) ?_
        refine lv_i2l hx hb dX4_addNode_118 rfl ?_
        refine lv_topl (fun v118 e118 => ?_)
        have i119 : nI (2 + 6 * kn + 0) = nI (2 + 6 * kn + 0) := rfl
        have j119 : 2 + 6 * kn + 0 < 460 := by omega
        refine va_last hx hb hE.1 hP hD hS 1 1 rfl rfl (by rw [i119]; exact vp_in_nI j119 (by omega)) dX4_addNode_119 (fun H locs hP hD hS => ?_)
        rw [i119, nI_clamp (by omega)] at hP hD
        have hP : va_P K.1 vwCl [(b 0, .inr (6, [.ref (b 1), .ref (b 2), .int (nI sm92), .int u83])), (b 1, .inl (K.2.2.1, 460, .inr (.inl (vp_updL al (2 + 6 * kn + 0) v118)))), (b 2, .inl (K.2.2.1, 1840, .inr (.inl (sv92))))] H := hP
        have hD : va_D A [(b 0, .inr (6, [.ref (b 1), .ref (b 2), .int (nI sm92), .int u83])), (b 1, .inl (K.2.2.1, 460, .inr (.inl (vp_updL al (2 + 6 * kn + 0) v118)))), (b 2, .inl (K.2.2.1, 1840, .inr (.inl (sv92))))] := hD
        refine lv_aload_n hx hb dX4_addNode_120 rfl (lv_at hl 2 rfl) ?_
        refine va_get (D := K.1) (ci := 6) (v := .ref (b 1)) (C := RX4) (T := TX4) (N := 4) hx hb hts inX4 hown hE.1 hP 0 rfl rfl 0 (by decide) (hts _ kf_X4_7) (fun _ h9 => h9) rfl dX4_addNode_121 ?_
        refine lv_iload hx hb dX4_addNode_124 (lv_at hl 0 rfl) ?_
        refine lv_iconst (v := nI 1) hx hb dX4_addNode_126 (by decide) ?_
        refine lv_iadd hx hb dX4_addNode_127 ?_
        rw [nI_add (2 + 6 * kn) 1]
        refine lv_iload_n hx hb dX4_addNode_128 rfl (lv_at hl 4 rfl) ?_
        refine lv_i2l hx hb dX4_addNode_129 rfl ?_
        refine lv_topl (fun v129 e129 => ?_)
        have i130 : nI (2 + 6 * kn + 1) = nI (2 + 6 * kn + 1) := rfl
        have j130 : 2 + 6 * kn + 1 < 460 := by omega
        refine va_last hx hb hE.1 hP hD hS 1 1 rfl rfl (by rw [i130]; exact vp_in_nI j130 (by omega)) dX4_addNode_130 (fun H locs hP hD hS => ?_)
        rw [i130, nI_clamp (by omega)] at hP hD
        have hP : va_P K.1 vwCl [(b 0, .inr (6, [.ref (b 1), .ref (b 2), .int (nI sm92), .int u83])), (b 1, .inl (K.2.2.1, 460, .inr (.inl (vp_updL (vp_updL al (2 + 6 * kn + 0) v118) (2 + 6 * kn + 1) v129)))), (b 2, .inl (K.2.2.1, 1840, .inr (.inl (sv92))))] H := hP
        have hD : va_D A [(b 0, .inr (6, [.ref (b 1), .ref (b 2), .int (nI sm92), .int u83])), (b 1, .inl (K.2.2.1, 460, .inr (.inl (vp_updL (vp_updL al (2 + 6 * kn + 0) v118) (2 + 6 * kn + 1) v129)))), (b 2, .inl (K.2.2.1, 1840, .inr (.inl (sv92))))] := hD
        refine lv_aload_n hx hb dX4_addNode_131 rfl (lv_at hl 2 rfl) ?_
        refine va_get (D := K.1) (ci := 6) (v := .ref (b 1)) (C := RX4) (T := TX4) (N := 4) hx hb hts inX4 hown hE.1 hP 0 rfl rfl 0 (by decide) (hts _ kf_X4_7) (fun _ h9 => h9) rfl dX4_addNode_132 ?_
        refine lv_iload hx hb dX4_addNode_135 (lv_at hl 0 rfl) ?_
        refine lv_iconst (v := nI 2) hx hb dX4_addNode_137 (by decide) ?_
        refine lv_iadd hx hb dX4_addNode_138 ?_
        rw [nI_add (2 + 6 * kn) 2]
        refine lv_iload_n hx hb dX4_addNode_139 rfl (lv_at hl 5 rfl) ?_
        refine lv_i2l hx hb dX4_addNode_140 rfl ?_
        refine lv_topl (fun v140 e140 => ?_)
        have i141 : nI (2 + 6 * kn + 2) = nI (2 + 6 * kn + 2) := rfl
        have j141 : 2 + 6 * kn + 2 < 460 := by omega
        refine va_last hx hb hE.1 hP hD hS 1 1 rfl rfl (by rw [i141]; exact vp_in_nI j141 (by omega)) dX4_addNode_141 (fun H locs hP hD hS => ?_)
        rw [i141, nI_clamp (by omega)] at hP hD
        have hP : va_P K.1 vwCl [(b 0, .inr (6, [.ref (b 1), .ref (b 2), .int (nI sm92), .int u83])), (b 1, .inl (K.2.2.1, 460, .inr (.inl (vp_updL (vp_updL (vp_updL al (2 + 6 * kn + 0) v118) (2 + 6 * kn + 1) v129) (2 + 6 * kn + 2) v140)))), (b 2, .inl (K.2.2.1, 1840, .inr (.inl (sv92))))] H := hP
        have hD : va_D A [(b 0, .inr (6, [.ref (b 1), .ref (b 2), .int (nI sm92), .int u83])), (b 1, .inl (K.2.2.1, 460, .inr (.inl (vp_updL (vp_updL (vp_updL al (2 + 6 * kn + 0) v118) (2 + 6 * kn + 1) v129) (2 + 6 * kn + 2) v140)))), (b 2, .inl (K.2.2.1, 1840, .inr (.inl (sv92))))] := hD
        refine lv_aload_n hx hb dX4_addNode_142 rfl (lv_at hl 2 rfl) ?_
        refine va_get (D := K.1) (ci := 6) (v := .ref (b 1)) (C := RX4) (T := TX4) (N := 4) hx hb hts inX4 hown hE.1 hP 0 rfl rfl 0 (by decide) (hts _ kf_X4_7) (fun _ h9 => h9) rfl dX4_addNode_143 ?_
        refine lv_iload hx hb dX4_addNode_146 (lv_at hl 0 rfl) ?_
        refine lv_iconst (v := nI 3) hx hb dX4_addNode_148 (by decide) ?_
        refine lv_iadd hx hb dX4_addNode_149 ?_
        rw [nI_add (2 + 6 * kn) 3]
        refine lv_iload hx hb dX4_addNode_150 (lv_at hl 6 rfl) ?_
        refine lv_i2l hx hb dX4_addNode_152 rfl ?_
        refine lv_topl (fun v152 e152 => ?_)
        have i153 : nI (2 + 6 * kn + 3) = nI (2 + 6 * kn + 3) := rfl
        have j153 : 2 + 6 * kn + 3 < 460 := by omega
        refine va_last hx hb hE.1 hP hD hS 1 1 rfl rfl (by rw [i153]; exact vp_in_nI j153 (by omega)) dX4_addNode_153 (fun H locs hP hD hS => ?_)
        rw [i153, nI_clamp (by omega)] at hP hD
        have hP : va_P K.1 vwCl [(b 0, .inr (6, [.ref (b 1), .ref (b 2), .int (nI sm92), .int u83])), (b 1, .inl (K.2.2.1, 460, .inr (.inl (vp_updL (vp_updL (vp_updL (vp_updL al (2 + 6 * kn + 0) v118) (2 + 6 * kn + 1) v129) (2 + 6 * kn + 2) v140) (2 + 6 * kn + 3) v152)))), (b 2, .inl (K.2.2.1, 1840, .inr (.inl (sv92))))] H := hP
        have hD : va_D A [(b 0, .inr (6, [.ref (b 1), .ref (b 2), .int (nI sm92), .int u83])), (b 1, .inl (K.2.2.1, 460, .inr (.inl (vp_updL (vp_updL (vp_updL (vp_updL al (2 + 6 * kn + 0) v118) (2 + 6 * kn + 1) v129) (2 + 6 * kn + 2) v140) (2 + 6 * kn + 3) v152)))), (b 2, .inl (K.2.2.1, 1840, .inr (.inl (sv92))))] := hD
        refine lv_aload_n hx hb dX4_addNode_154 rfl (lv_at hl 2 rfl) ?_
        refine va_get (D := K.1) (ci := 6) (v := .ref (b 1)) (C := RX4) (T := TX4) (N := 4) hx hb hts inX4 hown hE.1 hP 0 rfl rfl 0 (by decide) (hts _ kf_X4_7) (fun _ h9 => h9) rfl dX4_addNode_155 ?_
        refine lv_iload hx hb dX4_addNode_158 (lv_at hl 0 rfl) ?_
        refine lv_iconst (v := nI 4) hx hb dX4_addNode_160 (by decide) ?_
        refine lv_iadd hx hb dX4_addNode_161 ?_
        rw [nI_add (2 + 6 * kn) 4]
        refine lv_iload hx hb dX4_addNode_162 (lv_at hl 7 rfl) ?_
        refine lv_i2l hx hb dX4_addNode_164 rfl ?_
        refine lv_topl (fun v164 e164 => ?_)
        have i165 : nI (2 + 6 * kn + 4) = nI (2 + 6 * kn + 4) := rfl
        have j165 : 2 + 6 * kn + 4 < 460 := by omega
        refine va_last hx hb hE.1 hP hD hS 1 1 rfl rfl (by rw [i165]; exact vp_in_nI j165 (by omega)) dX4_addNode_165 (fun H locs hP hD hS => ?_)
        rw [i165, nI_clamp (by omega)] at hP hD
        have hP : va_P K.1 vwCl [(b 0, .inr (6, [.ref (b 1), .ref (b 2), .int (nI sm92), .int u83])), (b 1, .inl (K.2.2.1, 460, .inr (.inl (vp_updL (vp_updL (vp_updL (vp_updL (vp_updL al (2 + 6 * kn + 0) v118) (2 + 6 * kn + 1) v129) (2 + 6 * kn + 2) v140) (2 + 6 * kn + 3) v152) (2 + 6 * kn + 4) v164)))), (b 2, .inl (K.2.2.1, 1840, .inr (.inl (sv92))))] H := hP
        have hD : va_D A [(b 0, .inr (6, [.ref (b 1), .ref (b 2), .int (nI sm92), .int u83])), (b 1, .inl (K.2.2.1, 460, .inr (.inl (vp_updL (vp_updL (vp_updL (vp_updL (vp_updL al (2 + 6 * kn + 0) v118) (2 + 6 * kn + 1) v129) (2 + 6 * kn + 2) v140) (2 + 6 * kn + 3) v152) (2 + 6 * kn + 4) v164)))), (b 2, .inl (K.2.2.1, 1840, .inr (.inl (sv92))))] := hD
        refine lv_aload_n hx hb dX4_addNode_166 rfl (lv_at hl 2 rfl) ?_
        refine va_get (D := K.1) (ci := 6) (v := .ref (b 1)) (C := RX4) (T := TX4) (N := 4) hx hb hts inX4 hown hE.1 hP 0 rfl rfl 0 (by decide) (hts _ kf_X4_7) (fun _ h9 => h9) rfl dX4_addNode_167 ?_
        refine lv_iload hx hb dX4_addNode_170 (lv_at hl 0 rfl) ?_
        refine lv_iconst (v := nI 5) hx hb dX4_addNode_172 (by decide) ?_
        refine lv_iadd hx hb dX4_addNode_173 ?_
        rw [nI_add (2 + 6 * kn) 5]
        refine lv_lconst (v := lN 0) hx hb dX4_addNode_174 (by decide) ?_
        have i175 : nI (2 + 6 * kn + 5) = nI (2 + 6 * kn + 5) := rfl
        have j175 : 2 + 6 * kn + 5 < 460 := by omega
        refine va_last hx hb hE.1 hP hD hS 1 1 rfl rfl (by rw [i175]; exact vp_in_nI j175 (by omega)) dX4_addNode_175 (fun H locs hP hD hS => ?_)
        rw [i175, nI_clamp (by omega)] at hP hD
        have hP : va_P K.1 vwCl [(b 0, .inr (6, [.ref (b 1), .ref (b 2), .int (nI sm92), .int u83])), (b 1, .inl (K.2.2.1, 460, .inr (.inl (vp_updL (vp_updL (vp_updL (vp_updL (vp_updL (vp_updL al (2 + 6 * kn + 0) v118) (2 + 6 * kn + 1) v129) (2 + 6 * kn + 2) v140) (2 + 6 * kn + 3) v152) (2 + 6 * kn + 4) v164) (2 + 6 * kn + 5) (lN 0))))), (b 2, .inl (K.2.2.1, 1840, .inr (.inl (sv92))))] H := hP
        have hD : va_D A [(b 0, .inr (6, [.ref (b 1), .ref (b 2), .int (nI sm92), .int u83])), (b 1, .inl (K.2.2.1, 460, .inr (.inl (vp_updL (vp_updL (vp_updL (vp_updL (vp_updL (vp_updL al (2 + 6 * kn + 0) v118) (2 + 6 * kn + 1) v129) (2 + 6 * kn + 2) v140) (2 + 6 * kn + 3) v152) (2 + 6 * kn + 4) v164) (2 + 6 * kn + 5) (lN 0))))), (b 2, .inl (K.2.2.1, 1840, .inr (.inl (sv92))))] := hD
        refine lv_aload_n hx hb dX4_addNode_176 rfl (lv_at hl 2 rfl) ?_
        refine va_get (D := K.1) (ci := 6) (v := .ref (b 1)) (C := RX4) (T := TX4) (N := 4) hx hb hts inX4 hown hE.1 hP 0 rfl rfl 0 (by decide) (hts _ kf_X4_7) (fun _ h9 => h9) rfl dX4_addNode_177 ?_
        refine lv_iconst (v := nI 1) hx hb dX4_addNode_180 (by decide) ?_
        refine lv_dup2_11 hx hb dX4_addNode_181 rfl rfl ?_
        have i182 : nI 1 = nI 1 := rfl
        have j182 : 1 < 460 := by omega
        refine va_lald hx hb hE.1 hP 1 1 rfl rfl (by rw [i182]; exact vp_in_nI j182 (by omega)) dX4_addNode_182 ?_
        rw [i182, nI_clamp (by omega)]
        refine lv_topl (fun v182 e182 => ?_)
        rw [e182, ul_ne (by omega), ul_ne (by omega), ul_ne (by omega), ul_ne (by omega), ul_ne (by omega), ul_ne (by omega), h1]
        refine lv_lconst (v := lN 1) hx hb dX4_addNode_183 (by decide) ?_
        refine lv_ladd hx hb dX4_addNode_184 ?_
        rw [lN_add kn 1]
        have i185 : nI 1 = nI 1 := rfl
        have j185 : 1 < 460 := by omega
        refine va_last hx hb hE.1 hP hD hS 1 1 rfl rfl (by rw [i185]; exact vp_in_nI j185 (by omega)) dX4_addNode_185 (fun H locs hP hD hS => ?_)
        rw [i185, nI_clamp (by omega)] at hP hD
        have hP : va_P K.1 vwCl [(b 0, .inr (6, [.ref (b 1), .ref (b 2), .int (nI sm92), .int u83])), (b 1, .inl (K.2.2.1, 460, .inr (.inl (vp_updL (vp_updL (vp_updL (vp_updL (vp_updL (vp_updL (vp_updL al (2 + 6 * kn + 0) v118) (2 + 6 * kn + 1) v129) (2 + 6 * kn + 2) v140) (2 + 6 * kn + 3) v152) (2 + 6 * kn + 4) v164) (2 + 6 * kn + 5) (lN 0)) 1 (lN (kn + 1)))))), (b 2, .inl (K.2.2.1, 1840, .inr (.inl (sv92))))] H := hP
        have hD : va_D A [(b 0, .inr (6, [.ref (b 1), .ref (b 2), .int (nI sm92), .int u83])), (b 1, .inl (K.2.2.1, 460, .inr (.inl (vp_updL (vp_updL (vp_updL (vp_updL (vp_updL (vp_updL (vp_updL al (2 + 6 * kn + 0) v118) (2 + 6 * kn + 1) v129) (2 + 6 * kn + 2) v140) (2 + 6 * kn + 3) v152) (2 + 6 * kn + 4) v164) (2 + 6 * kn + 5) (lN 0)) 1 (lN (kn + 1)))))), (b 2, .inl (K.2.2.1, 1840, .inr (.inl (sv92))))] := hD
        refine lv_aload_n hx hb dX4_addNode_186 rfl (lv_at hl 2 rfl) ?_
        refine va_get (D := K.1) (ci := 6) (v := .ref (b 1)) (C := RX4) (T := TX4) (N := 4) hx hb hts inX4 hown hE.1 hP 0 rfl rfl 0 (by decide) (hts _ kf_X4_7) (fun _ h9 => h9) rfl dX4_addNode_187 ?_
        refine lv_iconst (v := nI 1) hx hb dX4_addNode_190 (by decide) ?_
        have i191 : nI 1 = nI 1 := rfl
        have j191 : 1 < 460 := by omega
        refine va_lald hx hb hE.1 hP 1 1 rfl rfl (by rw [i191]; exact vp_in_nI j191 (by omega)) dX4_addNode_191 ?_
        rw [i191, nI_clamp (by omega)]
        refine lv_topl (fun v191 e191 => ?_)
        rw [e191, ul_eq]
        refine lv_l2i hx hb dX4_addNode_192 (l2iN (by omega)) ?_
        refine lv_iconst (v := nI 1) hx hb dX4_addNode_193 (by decide) ?_
        refine lv_isub hx hb dX4_addNode_194 ?_
        rw [pk_sub (by omega : 1 ≤ kn + 1)]
        rw [show (kn + 1) - 1 = kn from by omega]
        exact fI (v := nI kn) ((u83, vp_updL (vp_updL (vp_updL (vp_updL (vp_updL (vp_updL (vp_updL al (2 + 6 * kn + 0) v118) (2 + 6 * kn + 1) v129) (2 + 6 * kn + 2) v140) (2 + 6 * kn + 3) v152) (2 + 6 * kn + 4) v164) (2 + 6 * kn + 5) (lN 0)) 1 (lN (kn + 1)), sv92, sm92)) hx hb hr hlocks hAe hP hD hS [0, 1, 2] (by decide) rfl (⟨g83, fun q => absurd (g83.ok c86) q, fun _ => ⟨e92, rfl, fun B hB => add_cp hC hSI (g83.no (g83.ok c86)).2.1 hB (show vp_updL (vp_updL (vp_updL (vp_updL (vp_updL (vp_updL (vp_updL al (2 + 6 * kn + 0) v118) (2 + 6 * kn + 1) v129) (2 + 6 * kn + 2) v140) (2 + 6 * kn + 3) v152) (2 + 6 * kn + 4) v164) (2 + 6 * kn + 5) (lN 0)) 1 (lN (kn + 1)) = vp_updL (vp_updL (vp_updL (vp_updL (vp_updL (vp_updL (vp_updL al (2 + 6 * kn + 0) p0.toInt64) (2 + 6 * kn + 1) p1.toInt64) (2 + 6 * kn + 2) p2.toInt64) (2 + 6 * kn + 3) p3.toInt64) (2 + 6 * kn + 4) p4.toInt64) (2 + 6 * kn + 5) (lN 0)) 1 (lN (kn + 1)) from by rw [e118, e129, e140, e152, e164])⟩⟩) dX4_addNode_195
      · have c86 := (e83).f c86
        refine lv_iconst (v := nI 0) hx hb dX4_addNode_89 (by decide) ?_
        exact fI (v := nI 0) ((u83, al, sv, m)) hx hb hr hlocks hAe hP hD hS [0, 1, 2] (by decide) rfl (⟨g83, fun _ => rfl, fun g => absurd (g83.no g) c86⟩) dX4_addNode_90
    · refine lv_aload_n hx hb dX4_addNode_64 rfl (lv_at hl 1 rfl) ?_
      refine va_get (D := K.1) (ci := 6) (v := .ref (b 1)) (C := RX4) (T := TX4) (N := 4) hx hb hts inX4 hown hE.1 hP 0 rfl rfl 0 (by decide) (hts _ kf_X4_7) (fun _ h9 => h9) rfl dX4_addNode_65 ?_
      refine lv_iconst (v := nI 1) hx hb dX4_addNode_68 (by decide) ?_
      have i69 : nI 1 = nI 1 := rfl
      have j69 : 1 < 460 := by omega
      refine va_lald hx hb hE.1 hP 1 1 rfl rfl (by rw [i69]; exact vp_in_nI j69 (by omega)) dX4_addNode_69 ?_
      rw [i69, nI_clamp (by omega)]
      refine lv_topl (fun v69 e69 => ?_)
      rw [e69, h1]
      refine lv_ldc2 (v := lN 6) hx hb hown (hts _ kw_X4_43) dX4_addNode_70 ?_
      refine W.lcmp hx hb dX4_addNode_73 ?_
      refine lv_if_ge (tgt := 81) hx hb dX4_addNode_74 (by decide) (fun c74 => ?_) (fun c74 => ?_)
      · have c74 := (lg_cmp_ge _ _).mp c74
        have c74 := (pk_lLE (a := 6) (b := kn) (by omega) (by omega)).mp c74
        refine lv_iconst (v := nI 0) hx hb dX4_addNode_81 (by decide) ?_
        exact hJ82 (nI 0) (Or.inr ⟨rfl, by omega⟩)
      · have c74 := fun q => c74 ((lg_cmp_ge _ _).mpr q)
        have c74 := mt (pk_lLE (a := 6) (b := kn) (by omega) (by omega)).mpr c74
        refine lv_iconst (v := nI 1) hx hb dX4_addNode_77 (by decide) ?_
        refine lv_goto (tgt := 82) hx hb dX4_addNode_78 (by decide) ?_
        exact hJ82 (nI 1) (Or.inl ⟨rfl, by omega⟩)
  · refine lv_iload_n hx hb dX4_addNode_0 rfl (lv_at hl 1 rfl) ?_
    refine goI (rdS (As := [.int p0]) (rest := []) (m_isPlace l K p0) ⟨hx, hb, hml, hown, hts⟩ (gS kl_X4_31 kt_X4_isPlace kn_X4 kc_X4_isPlace) (by show okN yX4_isPlace 1; decide +kernel) ⟨⟨Nat.le_of_ble_eq_true rfl, Nat.le_of_ble_eq_true rfl⟩, rfl, rfl⟩ hE hP [] rfl hl.1 rfl (Nat.le_of_ble_eq_true rfl) dX4_addNode_1 ⟨Nat.le_of_ble_eq_true rfl, Nat.le_of_ble_eq_true rfl⟩) (fun v1 e1 => ?_)
    refine lv_if_eq (tgt := 58) hx hb dX4_addNode_4 (by decide) (fun c4 => ?_) (fun c4 => ?_)
    · have c4 := (e1).f c4
      refine lv_iconst (v := nI 0) hx hb dX4_addNode_58 (by decide) ?_
      exact hJ59 (nI 0) (Or.inr ⟨rfl, by omega⟩)
    · have c4 := (e1).t c4
      refine lv_iload_n hx hb dX4_addNode_7 rfl (lv_at hl 2 rfl) ?_
      refine goI (rdS (As := [.int p1]) (rest := []) (m_isPlace l K p1) ⟨hx, hb, hml, hown, hts⟩ (gS kl_X4_31 kt_X4_isPlace kn_X4 kc_X4_isPlace) (by show okN yX4_isPlace 1; decide +kernel) ⟨⟨Nat.le_of_ble_eq_true rfl, Nat.le_of_ble_eq_true rfl⟩, rfl, rfl⟩ hE hP [] rfl hl.1 rfl (Nat.le_of_ble_eq_true rfl) dX4_addNode_8 ⟨Nat.le_of_ble_eq_true rfl, Nat.le_of_ble_eq_true rfl⟩) (fun v8 e8 => ?_)
      refine lv_if_eq (tgt := 58) hx hb dX4_addNode_11 (by decide) (fun c11 => ?_) (fun c11 => ?_)
      · have c11 := (e8).f c11
        refine lv_iconst (v := nI 0) hx hb dX4_addNode_58 (by decide) ?_
        exact hJ59 (nI 0) (Or.inr ⟨rfl, by omega⟩)
      · have c11 := (e8).t c11
        refine lv_iload_n hx hb dX4_addNode_14 rfl (lv_at hl 3 rfl) ?_
        refine lv_i2l hx hb dX4_addNode_15 rfl ?_
        refine lv_topl (fun v15 e15 => ?_)
        refine lv_ldc2 (v := -100) hx hb hown (hts _ kw_X4_35) dX4_addNode_16 ?_
        refine lv_ldc2 (v := lN 100) hx hb hown (hts _ kw_X4_37) dX4_addNode_19 ?_
        refine goI (rdS (As := [.long v15, .long (-100), .long (lN 100)]) (rest := []) (m_in l K v15 (-100) (lN 100)) ⟨hx, hb, hml, hown, hts⟩ (gS kl_X4_23 kt_X4_in kn_X4 kc_X4_in) (by show okN yX4_in 3; decide +kernel) ⟨⟨Nat.le_of_ble_eq_true rfl, Nat.le_of_ble_eq_true rfl⟩, rfl, rfl⟩ hE hP [] rfl hl.1 rfl (Nat.le_of_ble_eq_true rfl) dX4_addNode_22 ⟨Nat.le_of_ble_eq_true rfl, Nat.le_of_ble_eq_true rfl⟩) (fun v22 e22 => ?_)
        have e22 : Bo v22 (-100 ≤ p2.toInt ∧ p2.toInt ≤ 100) := e22.c (by have h1 := i64T p2; rw [← e15] at h1; have y100m : (-100 : Int64).toInt = -100 := (by decide); have y100 : (lN 100 : Int64).toInt = 100 := (by decide); omega)
        refine lv_if_eq (tgt := 58) hx hb dX4_addNode_25 (by decide) (fun c25 => ?_) (fun c25 => ?_)
        · have c25 := (e22).f c25
          refine lv_iconst (v := nI 0) hx hb dX4_addNode_58 (by decide) ?_
          exact hJ59 (nI 0) (Or.inr ⟨rfl, by omega⟩)
        · have c25 := (e22).t c25
          refine lv_iload hx hb dX4_addNode_28 (lv_at hl 4 rfl) ?_
          refine lv_i2l hx hb dX4_addNode_30 rfl ?_
          refine lv_topl (fun v30 e30 => ?_)
          refine lv_lconst (v := lN 0) hx hb dX4_addNode_31 (by decide) ?_
          refine lv_ldc2 (v := lN 1048575) hx hb hown (hts _ kw_X4_39) dX4_addNode_32 ?_
          refine goI (rdS (As := [.long v30, .long (lN 0), .long (lN 1048575)]) (rest := []) (m_in l K v30 (lN 0) (lN 1048575)) ⟨hx, hb, hml, hown, hts⟩ (gS kl_X4_23 kt_X4_in kn_X4 kc_X4_in) (by show okN yX4_in 3; decide +kernel) ⟨⟨Nat.le_of_ble_eq_true rfl, Nat.le_of_ble_eq_true rfl⟩, rfl, rfl⟩ hE hP [] rfl hl.1 rfl (Nat.le_of_ble_eq_true rfl) dX4_addNode_35 ⟨Nat.le_of_ble_eq_true rfl, Nat.le_of_ble_eq_true rfl⟩) (fun v35 e35 => ?_)
          have e35 : Bo v35 (0 ≤ p3.toInt ∧ p3.toInt ≤ 1048575) := e35.c (by have h1 := i64T p3; rw [← e30] at h1; have y0 : (lN 0 : Int64).toInt = 0 := (by decide); have y1048575 : (lN 1048575 : Int64).toInt = 1048575 := (by decide); omega)
          refine lv_if_eq (tgt := 58) hx hb dX4_addNode_38 (by decide) (fun c38 => ?_) (fun c38 => ?_)
          · have c38 := (e35).f c38
            refine lv_iconst (v := nI 0) hx hb dX4_addNode_58 (by decide) ?_
            exact hJ59 (nI 0) (Or.inr ⟨rfl, by omega⟩)
          · have c38 := (e35).t c38
            refine lv_iload hx hb dX4_addNode_41 (lv_at hl 5 rfl) ?_
            refine lv_i2l hx hb dX4_addNode_43 rfl ?_
            refine lv_topl (fun v43 e43 => ?_)
            refine lv_lconst (v := lN 0) hx hb dX4_addNode_44 (by decide) ?_
            refine lv_ldc2 (v := lN 200) hx hb hown (hts _ kw_X4_41) dX4_addNode_45 ?_
            refine goI (rdS (As := [.long v43, .long (lN 0), .long (lN 200)]) (rest := []) (m_in l K v43 (lN 0) (lN 200)) ⟨hx, hb, hml, hown, hts⟩ (gS kl_X4_23 kt_X4_in kn_X4 kc_X4_in) (by show okN yX4_in 3; decide +kernel) ⟨⟨Nat.le_of_ble_eq_true rfl, Nat.le_of_ble_eq_true rfl⟩, rfl, rfl⟩ hE hP [] rfl hl.1 rfl (Nat.le_of_ble_eq_true rfl) dX4_addNode_48 ⟨Nat.le_of_ble_eq_true rfl, Nat.le_of_ble_eq_true rfl⟩) (fun v48 e48 => ?_)
            have e48 : Bo v48 (0 ≤ p4.toInt ∧ p4.toInt ≤ 200) := e48.c (by have h1 := i64T p4; rw [← e43] at h1; have y0 : (lN 0 : Int64).toInt = 0 := (by decide); have y200 : (lN 200 : Int64).toInt = 200 := (by decide); omega)
            refine lv_if_eq (tgt := 58) hx hb dX4_addNode_51 (by decide) (fun c51 => ?_) (fun c51 => ?_)
            · have c51 := (e48).f c51
              refine lv_iconst (v := nI 0) hx hb dX4_addNode_58 (by decide) ?_
              exact hJ59 (nI 0) (Or.inr ⟨rfl, by omega⟩)
            · have c51 := (e48).t c51
              refine lv_iconst (v := nI 1) hx hb dX4_addNode_54 (by decide) ?_
              refine lv_goto (tgt := 59) hx hb dX4_addNode_55 (by decide) ?_
              exact hJ59 (nI 1) (Or.inl ⟨rfl, by omega⟩)
set_option maxHeartbeats 4000000 in
set_option maxRecDepth 100000 in
theorem n_move (l : Launch) (K : EK) (b : Nat → Nat) (m : Nat) (th : Int32) (al sv : Nat → Int64) (t : Int64) (kn : Nat) (fn : Nat → Int32) (kr : Nat) (fr : Nat → Int32) (kp : Nat) (fp : Nat → Int32) (p0 p1 p2 : Int32) (hC : Cp al (t, (kn, fn), (kr, fr), (kp, fp))) (hSI : SI (t, (kn, fn), (kr, fr), (kp, fp))) (hm : m ≤ 4) (sz : Nat) : Met l yX4_move (wq yX4_move cX4_move 6 (some .int)) (rmL 7 0 0) (va_Pc [.ref (b 0), .int p0, .int p1, .int p2] (PW K sz [(b 0, .inr (6, [.ref (b 1), .ref (b 2), .int (nI m), .int th])), (b 1, .inl (K.2.2.1, 460, .inr (.inl (al)))), (b 2, .inl (K.2.2.1, 1840, .inr (.inl (sv))))])) (va_Qi (fun r (u : MD) => Gs u.1 (0 ≤ p0.toInt ∧ p0.toInt < kn) ((-1000 ≤ p1.toInt ∧ p1.toInt ≤ 1000) ∧ -1000 ≤ p2.toInt ∧ p2.toInt ≤ 1000) True ∧ (¬ u.1 = 0 → u.2 = (al, sv, m)) ∧ (u.1 = 0 → (savR al sv m u.2.2.1 u.2.2.2 ∧ (r = nI (isq ((p1.toInt - nd fn (ix p0) 0) * (p1.toInt - nd fn (ix p0) 0) + (p2.toInt - nd fn (ix p0) 1) * (p2.toInt - nd fn (ix p0) 1)).toNat) ∧ Cp u.2.1 (t, (kn, upd (upd fn (ix p0 * 6 + 0) p1) (ix p0 * 6 + 1) p2), (kr, fr), (kp, fp)))))) (Bw K sz [(b 0, .inr (6, [.ref (b 1), .ref (b 2), .int (nI m), .int th])), (b 1, .inl (K.2.2.1, 460, .inr (.inl (al)))), (b 2, .inl (K.2.2.1, 1840, .inr (.inl (sv))))] (fun (u : MD) => [(b 0, .inr (6, [.ref (b 1), .ref (b 2), .int (nI u.2.2.2), .int u.1])), (b 1, .inl (K.2.2.1, 460, .inr (.inl (u.2.1)))), (b 2, .inl (K.2.2.1, 1840, .inr (.inl (u.2.2.1))))])) (va_A [(b 0, .inr (6, [.ref (b 1), .ref (b 2), .int (nI m), .int th])), (b 1, .inl (K.2.2.1, 460, .inr (.inl (al)))), (b 2, .inl (K.2.2.1, 1840, .inr (.inl (sv))))] sz)) 0 0 (va_A [(b 0, .inr (6, [.ref (b 1), .ref (b 2), .int (nI m), .int th])), (b 1, .inl (K.2.2.1, 460, .inr (.inl (al)))), (b 2, .inl (K.2.2.1, 1840, .inr (.inl (sv))))] sz) := by
  refine hdW (by decide +kernel) (Nat.le_of_ble_eq_true rfl) ?_
  intro pp ee s mm bl9 me9 cd hx hb hr hlocks hml hown hin hts hE hP A hAe hsz hA hD hS ls hl
  have hown : s.vm.findClass RX4 = some mm.cls := hown
  have hP : va_P K.1 vwCl [(b 0, .inr (6, [.ref (b 1), .ref (b 2), .int (nI m), .int th])), (b 1, .inl (K.2.2.1, 460, .inr (.inl (al)))), (b 2, .inl (K.2.2.1, 1840, .inr (.inl (sv))))] s.heap := hP
  have hD : va_D A [(b 0, .inr (6, [.ref (b 1), .ref (b 2), .int (nI m), .int th])), (b 1, .inl (K.2.2.1, 460, .inr (.inl (al)))), (b 2, .inl (K.2.2.1, 1840, .inr (.inl (sv))))] := hD
  have hl : lv_has ls 6 [(0, .ref (b 0)), (1, .int p0), (2, .int p1), (3, .int p2)] := hl
  have s1 : kn ≤ 6 := hSI.1
  have s2 : kr ≤ 40 := hSI.2.1
  have s3 : kp ≤ 20 := hSI.2.2.1
  have s4 : 0 ≤ t.toInt ∧ t.toInt ≤ 900000000 + 1000000 * (kr : Int) := hSI.2.2.2.1
  have hn : ∀ i, i < kn → nOk fn i := hSI.2.2.2.2.1
  have hrs : ∀ e, e < kr → rOk kn fr e := hSI.2.2.2.2.2.1
  have hps : ∀ k, k < kp → pOk kn fp k := hSI.2.2.2.2.2.2.1
  have h6 := s1
  have h40 := s2
  have h20 := s3
  have h0 : al 0 = t := hC.1
  have h1 : al 1 = lN kn := hC.2.1
  have hN : NodC al kn fn := hC.2.2.1
  have h38 : al 38 = lN kr := hC.2.2.2.1
  have hR : RecC al kr fr := hC.2.2.2.2.1
  have h359 : al 359 = lN kp := hC.2.2.2.2.2.1
  have hPl : PlnC al kp fp := hC.2.2.2.2.2.2
  refine lv_aload_n hx hb dX4_move_0 rfl (lv_at hl 0 rfl) ?_
  refine lv_aload_n hx hb dX4_move_1 rfl (lv_at hl 0 rfl) ?_
  refine lv_iload_n hx hb dX4_move_2 rfl (lv_at hl 1 rfl) ?_
  refine goI (rdV (As := [.int p0]) (rest := [.ref (b 0)]) (m_isNode l K b (nI m) th al kn h6 h1 p0) ⟨hx, hb, hml, hown, hts⟩ (gV kl_X4_64 ki_X4_isNode ks_X4_isNode kn_X4 kc_X4_isNode) (by show okN yX4_isNode 1; decide +kernel) ⟨⟨Nat.le_of_ble_eq_true rfl, Nat.le_of_ble_eq_true rfl⟩, rfl, rfl⟩ hE hP [0, 1] rfl ⟨0, 6, _, _, rfl, rfl, rfl⟩ hl.1 rfl (Nat.le_of_ble_eq_true rfl) dX4_move_3 ⟨Nat.le_of_ble_eq_true rfl, Nat.le_of_ble_eq_true rfl⟩) (fun v3 e3 => ?_)
  refine jn (P := fun jv => Bo jv ((-1000 ≤ p1.toInt ∧ p1.toInt ≤ 1000) ∧ -1000 ≤ p2.toInt ∧ p2.toInt ≤ 1000)) 25 [.int v3, .ref (b 0)] (fun j25 k25 => ?_) (fun hJ25 => ?_)
  · refine lv_iconst (v := nI 1) hx hb dX4_move_25 (by decide) ?_
    refine woI (wrV (As := [.int v3, .int j25, .int (nI 1)]) (rest := []) (m_goes l K b (nI m) th v3 j25 (nI 1) (0 ≤ p0.toInt ∧ p0.toInt < kn) ((-1000 ≤ p1.toInt ∧ p1.toInt ≤ 1000) ∧ -1000 ≤ p2.toInt ∧ p2.toInt ≤ 1000) True e3 k25 Bo.one _) ⟨hx, hb, hml, hown, hts⟩ (gV kl_X4_45 ki_X4_goes ks_X4_goes kn_X4 kc_X4_goes) (by show okN yX4_goes 3; decide +kernel) ⟨⟨Nat.le_of_ble_eq_true rfl, Nat.le_of_ble_eq_true rfl⟩, ⟨rfl, rfl⟩, Nat.le_of_ble_eq_true rfl, Nat.le_of_ble_eq_true rfl⟩ hE hP hD [0] (by decide) rfl ⟨0, 6, _, _, rfl, rfl, rfl⟩ hl.1 rfl (Nat.le_of_ble_eq_true rfl) dX4_move_26) hP hD hS hA [(b 1, .inl (K.2.2.1, 460, .inr (.inl (al)))), (b 2, .inl (K.2.2.1, 1840, .inr (.inl (sv))))] (fun u => [(b 0, .inr (6, [.ref (b 1), .ref (b 2), .int (nI m), .int u])), (b 1, .inl (K.2.2.1, 460, .inr (.inl (al)))), (b 2, .inl (K.2.2.1, 1840, .inr (.inl (sv))))]) [0] [1, 2] [2, 0, 1] ⟨rfl, rfl, by decide, by decide, by decide, fun _ => rfl⟩ (fun v26 u26 H locs e26 hP hD hS => ?_)
    have hP : va_P K.1 vwCl [(b 0, .inr (6, [.ref (b 1), .ref (b 2), .int (nI m), .int u26])), (b 1, .inl (K.2.2.1, 460, .inr (.inl (al)))), (b 2, .inl (K.2.2.1, 1840, .inr (.inl (sv))))] H := hP
    have hD : va_D A [(b 0, .inr (6, [.ref (b 1), .ref (b 2), .int (nI m), .int u26])), (b 1, .inl (K.2.2.1, 460, .inr (.inl (al)))), (b 2, .inl (K.2.2.1, 1840, .inr (.inl (sv))))] := hD
    obtain ⟨g26, e26⟩ := e26
    refine lv_if_ne (tgt := 34) hx hb dX4_move_29 (by decide) (fun c29 => ?_) (fun c29 => ?_)
    · have c29 := (e26).t c29
      have w9 := c29.2.1
      obtain ⟨i, hi, rfl⟩ := ixOf (n := kn) c29.1 (by omega)
      have k1 := (hn i hi).1
      have k2 := (hn i hi).2.1
      refine lv_aload_n hx hb dX4_move_34 rfl (lv_at hl 0 rfl) ?_
      refine woV (wrV (As := []) (rest := []) (m_save l K b m u26 al sv _ hm) ⟨hx, hb, hml, hown, hts⟩ (gV kl_X4_49 ki_X4_save ks_X4_save kn_X4 kc_X4_save) (by show okN yX4_save 0; decide +kernel) ⟨⟨Nat.le_of_ble_eq_true rfl, Nat.le_of_ble_eq_true rfl⟩, ⟨rfl, rfl⟩, Nat.le_of_ble_eq_true rfl, Nat.le_of_ble_eq_true rfl⟩ hE hP hD [0, 1, 2] (by decide) rfl ⟨0, 6, _, _, rfl, rfl, rfl⟩ hl.1 rfl (Nat.le_of_ble_eq_true rfl) dX4_move_35) hP hD hS hA [] (fun u => [(b 0, .inr (6, [.ref (b 1), .ref (b 2), .int (nI u.2), .int u26])), (b 1, .inl (K.2.2.1, 460, .inr (.inl (al)))), (b 2, .inl (K.2.2.1, 1840, .inr (.inl (u.1))))]) [0, 1, 2] [] [0, 1, 2] ⟨rfl, rfl, by decide, by decide, by decide, fun _ => rfl⟩ (fun u35 H locs e35 hP hD hS => ?_)
      obtain ⟨sv35, sm35⟩ := u35
      have hP : va_P K.1 vwCl [(b 0, .inr (6, [.ref (b 1), .ref (b 2), .int (nI sm35), .int u26])), (b 1, .inl (K.2.2.1, 460, .inr (.inl (al)))), (b 2, .inl (K.2.2.1, 1840, .inr (.inl (sv35))))] H := hP
      have hD : va_D A [(b 0, .inr (6, [.ref (b 1), .ref (b 2), .int (nI sm35), .int u26])), (b 1, .inl (K.2.2.1, 460, .inr (.inl (al)))), (b 2, .inl (K.2.2.1, 1840, .inr (.inl (sv35))))] := hD
      have e35 : savR al sv m sv35 sm35 := e35
      refine lv_aload_n hx hb dX4_move_38 rfl (lv_at hl 0 rfl) ?_
      refine lv_iload_n hx hb dX4_move_39 rfl (lv_at hl 1 rfl) ?_
      refine lv_iconst (v := nI 0) hx hb dX4_move_40 (by decide) ?_
      refine goL (rdV (As := [.int (nI i), .int (nI 0)]) (rest := []) (m_of l K b (nI sm35) u26 al kn fn h6 hN i 0 hi (by decide)) ⟨hx, hb, hml, hown, hts⟩ (gV kl_X4_56 ki_X4_of ks_X4_of kn_X4 kc_X4_of) (by show okN yX4_of 2; decide +kernel) ⟨⟨Nat.le_of_ble_eq_true rfl, Nat.le_of_ble_eq_true rfl⟩, rfl, rfl⟩ hE hP [0, 1] rfl ⟨0, 6, _, _, rfl, rfl, rfl⟩ hl.1 rfl (Nat.le_of_ble_eq_true rfl) dX4_move_41 ⟨Nat.le_of_ble_eq_true rfl, Nat.le_of_ble_eq_true rfl⟩) (fun v41 e41 => ?_)
      refine lv_iload_n hx hb dX4_move_44 rfl (lv_at hl 2 rfl) ?_
      refine lv_i2l hx hb dX4_move_45 rfl ?_
      refine lv_topl (fun v45 e45 => ?_)
      refine lv_lsub hx hb dX4_move_46 ?_
      refine lv_topl (fun v46 e46 => ?_)
      have q46 : v46.toInt = nd fn i 0 - p1.toInt := by rw [e46, fb_subL (by rw [e41, e45, i64T, i64T]; unfold nd at k1; omega) (by rw [e41, e45, i64T, i64T]; unfold nd at k1; omega), e41, e45, i64T, i64T]; rfl
      refine lv_aload_n hx hb dX4_move_47 rfl (lv_at hl 0 rfl) ?_
      refine lv_iload_n hx hb dX4_move_48 rfl (lv_at hl 1 rfl) ?_
      refine lv_iconst (v := nI 1) hx hb dX4_move_49 (by decide) ?_
      refine goL (rdV (As := [.int (nI i), .int (nI 1)]) (rest := [.long v46]) (m_of l K b (nI sm35) u26 al kn fn h6 hN i 1 hi (by decide)) ⟨hx, hb, hml, hown, hts⟩ (gV kl_X4_56 ki_X4_of ks_X4_of kn_X4 kc_X4_of) (by show okN yX4_of 2; decide +kernel) ⟨⟨Nat.le_of_ble_eq_true rfl, Nat.le_of_ble_eq_true rfl⟩, rfl, rfl⟩ hE hP [0, 1] rfl ⟨0, 6, _, _, rfl, rfl, rfl⟩ hl.1 rfl (Nat.le_of_ble_eq_true rfl) dX4_move_50 ⟨Nat.le_of_ble_eq_true rfl, Nat.le_of_ble_eq_true rfl⟩) (fun v50 e50 => ?_)
      refine lv_iload_n hx hb dX4_move_53 rfl (lv_at hl 3 rfl) ?_
      refine lv_i2l hx hb dX4_move_54 rfl ?_
      refine lv_topl (fun v54 e54 => ?_)
      refine lv_lsub hx hb dX4_move_55 ?_
      refine lv_topl (fun v55 e55 => ?_)
      have q55 : v55.toInt = nd fn i 1 - p2.toInt := by rw [e55, fb_subL (by rw [e50, e54, i64T, i64T]; unfold nd at k2; omega) (by rw [e50, e54, i64T, i64T]; unfold nd at k2; omega), e50, e54, i64T, i64T]; rfl
      refine goL (rdS (As := [.long v46, .long v55]) (rest := []) (m_rootOf l K v46 v55 ⟨by rw [q46]; omega, by rw [q46]; omega⟩ ⟨by rw [q55]; omega, by rw [q55]; omega⟩) ⟨hx, hb, hml, hown, hts⟩ (gS kl_X4_60 kt_X4_rootOf kn_X4 kc_X4_rootOf) (by show okN yX4_rootOf 2; decide +kernel) ⟨⟨Nat.le_of_ble_eq_true rfl, Nat.le_of_ble_eq_true rfl⟩, rfl, rfl⟩ hE hP [] rfl hl.1 rfl (Nat.le_of_ble_eq_true rfl) dX4_move_56 ⟨Nat.le_of_ble_eq_true rfl, Nat.le_of_ble_eq_true rfl⟩) (fun v56 e56 => ?_)
      refine lv_lstore (lv' := [(4, .long v56), (0, .ref (b 0)), (1, .int (nI i)), (2, .int p1), (3, .int p2)]) hx hb dX4_move_59 hl (by decide) rfl (fun ls hl => ?_)
      refine lv_aload_n hx hb dX4_move_61 rfl (lv_at hl 1 rfl) ?_
      refine va_get (D := K.1) (ci := 6) (v := .ref (b 1)) (C := RX4) (T := TX4) (N := 4) hx hb hts inX4 hown hE.1 hP 0 rfl rfl 0 (by decide) (hts _ kf_X4_7) (fun _ h9 => h9) rfl dX4_move_62 ?_
      refine lv_iconst (v := nI 2) hx hb dX4_move_65 (by decide) ?_
      refine lv_bipush (v := nI 6) hx hb dX4_move_66 (by decide) ?_
      refine lv_iload_n hx hb dX4_move_68 rfl (lv_at hl 2 rfl) ?_
      refine lv_imul hx hb dX4_move_69 ?_
      rw [pk_mul 6 i]
      refine lv_iadd hx hb dX4_move_70 ?_
      rw [nI_add 2 (6 * i)]
      refine lv_iconst (v := nI 0) hx hb dX4_move_71 (by decide) ?_
      refine lv_iadd hx hb dX4_move_72 ?_
      rw [nI_add (2 + 6 * i) 0]
      refine lv_iload_n hx hb dX4_move_73 rfl (lv_at hl 3 rfl) ?_
      refine lv_i2l hx hb dX4_move_74 rfl ?_
      refine lv_topl (fun v74 e74 => ?_)
      have i75 : nI (2 + 6 * i + 0) = nI (2 + 6 * i + 0) := rfl
      have j75 : 2 + 6 * i + 0 < 460 := by omega
      refine va_last hx hb hE.1 hP hD hS 1 1 rfl rfl (by rw [i75]; exact vp_in_nI j75 (by omega)) dX4_move_75 (fun H locs hP hD hS => ?_)
      rw [i75, nI_clamp (by omega)] at hP hD
      have hP : va_P K.1 vwCl [(b 0, .inr (6, [.ref (b 1), .ref (b 2), .int (nI sm35), .int u26])), (b 1, .inl (K.2.2.1, 460, .inr (.inl (vp_updL al (2 + 6 * i + 0) v74)))), (b 2, .inl (K.2.2.1, 1840, .inr (.inl (sv35))))] H := hP
      have hD : va_D A [(b 0, .inr (6, [.ref (b 1), .ref (b 2), .int (nI sm35), .int u26])), (b 1, .inl (K.2.2.1, 460, .inr (.inl (vp_updL al (2 + 6 * i + 0) v74)))), (b 2, .inl (K.2.2.1, 1840, .inr (.inl (sv35))))] := hD
      refine lv_aload_n hx hb dX4_move_76 rfl (lv_at hl 1 rfl) ?_
      refine va_get (D := K.1) (ci := 6) (v := .ref (b 1)) (C := RX4) (T := TX4) (N := 4) hx hb hts inX4 hown hE.1 hP 0 rfl rfl 0 (by decide) (hts _ kf_X4_7) (fun _ h9 => h9) rfl dX4_move_77 ?_
      refine lv_iconst (v := nI 2) hx hb dX4_move_80 (by decide) ?_
      refine lv_bipush (v := nI 6) hx hb dX4_move_81 (by decide) ?_
      refine lv_iload_n hx hb dX4_move_83 rfl (lv_at hl 2 rfl) ?_
      refine lv_imul hx hb dX4_move_84 ?_
      rw [pk_mul 6 i]
      refine lv_iadd hx hb dX4_move_85 ?_
      rw [nI_add 2 (6 * i)]
      refine lv_iconst (v := nI 1) hx hb dX4_move_86 (by decide) ?_
      refine lv_iadd hx hb dX4_move_87 ?_
      rw [nI_add (2 + 6 * i) 1]
      refine lv_iload_n hx hb dX4_move_88 rfl (lv_at hl 4 rfl) ?_
      refine lv_i2l hx hb dX4_move_89 rfl ?_
      refine lv_topl (fun v89 e89 => ?_)
      have i90 : nI (2 + 6 * i + 1) = nI (2 + 6 * i + 1) := rfl
      have j90 : 2 + 6 * i + 1 < 460 := by omega
      refine va_last hx hb hE.1 hP hD hS 1 1 rfl rfl (by rw [i90]; exact vp_in_nI j90 (by omega)) dX4_move_90 (fun H locs hP hD hS => ?_)
      rw [i90, nI_clamp (by omega)] at hP hD
      have hP : va_P K.1 vwCl [(b 0, .inr (6, [.ref (b 1), .ref (b 2), .int (nI sm35), .int u26])), (b 1, .inl (K.2.2.1, 460, .inr (.inl (vp_updL (vp_updL al (2 + 6 * i + 0) v74) (2 + 6 * i + 1) v89)))), (b 2, .inl (K.2.2.1, 1840, .inr (.inl (sv35))))] H := hP
      have hD : va_D A [(b 0, .inr (6, [.ref (b 1), .ref (b 2), .int (nI sm35), .int u26])), (b 1, .inl (K.2.2.1, 460, .inr (.inl (vp_updL (vp_updL al (2 + 6 * i + 0) v74) (2 + 6 * i + 1) v89)))), (b 2, .inl (K.2.2.1, 1840, .inr (.inl (sv35))))] := hD
      refine lv_lload hx hb dX4_move_91 (lv_at hl 0 rfl) ?_
      refine lv_l2i hx hb dX4_move_93 rfl ?_
      refine lv_topi (fun v93 e93 => ?_)
      have k9 : isq (v46.toInt * v46.toInt + v55.toInt * v55.toInt).toNat < 3000 := isq_lt (by have := sq_le (x := v46.toInt) (n := 2000) (by omega) (by omega); have := sq_le (x := v55.toInt) (n := 2000) (by omega) (by omega); omega)
      exact fI (v := v93) ((u26, vp_updL (vp_updL al (2 + 6 * i + 0) v74) (2 + 6 * i + 1) v89, sv35, sm35)) hx hb hr hlocks hAe hP hD hS [0, 1, 2] (by decide) rfl (⟨g26, fun q => absurd (g26.ok c29) q, fun _ => ⟨e35, by rw [e93, e56, l2iN (by omega), q46, q55, ix_nI (by omega), ← Int.neg_mul_neg (nd fn i 0 - p1.toInt), ← Int.neg_mul_neg (nd fn i 1 - p2.toInt), Int.neg_sub, Int.neg_sub], by rw [ix_nI (by omega), e74, e89]; exact node_cp (node_cp hC h6 hi (by decide) p1) h6 hi (by decide) p2⟩⟩) dX4_move_94
    · have c29 := (e26).f c29
      refine lv_iconst (v := nI 0) hx hb dX4_move_32 (by decide) ?_
      exact fI (v := nI 0) ((u26, al, sv, m)) hx hb hr hlocks hAe hP hD hS [0, 1, 2] (by decide) rfl (⟨g26, fun _ => rfl, fun g => absurd (g26.no g) c29⟩) dX4_move_33
  · refine lv_iload_n hx hb dX4_move_6 rfl (lv_at hl 2 rfl) ?_
    refine goI (rdS (As := [.int p1]) (rest := [.int v3, .ref (b 0)]) (m_isPlace l K p1) ⟨hx, hb, hml, hown, hts⟩ (gS kl_X4_31 kt_X4_isPlace kn_X4 kc_X4_isPlace) (by show okN yX4_isPlace 1; decide +kernel) ⟨⟨Nat.le_of_ble_eq_true rfl, Nat.le_of_ble_eq_true rfl⟩, rfl, rfl⟩ hE hP [] rfl hl.1 rfl (Nat.le_of_ble_eq_true rfl) dX4_move_7 ⟨Nat.le_of_ble_eq_true rfl, Nat.le_of_ble_eq_true rfl⟩) (fun v7 e7 => ?_)
    refine lv_if_eq (tgt := 24) hx hb dX4_move_10 (by decide) (fun c10 => ?_) (fun c10 => ?_)
    · have c10 := (e7).f c10
      refine lv_iconst (v := nI 0) hx hb dX4_move_24 (by decide) ?_
      exact hJ25 (nI 0) (Or.inr ⟨rfl, by omega⟩)
    · have c10 := (e7).t c10
      refine lv_iload_n hx hb dX4_move_13 rfl (lv_at hl 3 rfl) ?_
      refine goI (rdS (As := [.int p2]) (rest := [.int v3, .ref (b 0)]) (m_isPlace l K p2) ⟨hx, hb, hml, hown, hts⟩ (gS kl_X4_31 kt_X4_isPlace kn_X4 kc_X4_isPlace) (by show okN yX4_isPlace 1; decide +kernel) ⟨⟨Nat.le_of_ble_eq_true rfl, Nat.le_of_ble_eq_true rfl⟩, rfl, rfl⟩ hE hP [] rfl hl.1 rfl (Nat.le_of_ble_eq_true rfl) dX4_move_14 ⟨Nat.le_of_ble_eq_true rfl, Nat.le_of_ble_eq_true rfl⟩) (fun v14 e14 => ?_)
      refine lv_if_eq (tgt := 24) hx hb dX4_move_17 (by decide) (fun c17 => ?_) (fun c17 => ?_)
      · have c17 := (e14).f c17
        refine lv_iconst (v := nI 0) hx hb dX4_move_24 (by decide) ?_
        exact hJ25 (nI 0) (Or.inr ⟨rfl, by omega⟩)
      · have c17 := (e14).t c17
        refine lv_iconst (v := nI 1) hx hb dX4_move_20 (by decide) ?_
        refine lv_goto (tgt := 25) hx hb dX4_move_21 (by decide) ?_
        exact hJ25 (nI 1) (Or.inl ⟨rfl, by omega⟩)
set_option maxHeartbeats 4000000 in
set_option maxRecDepth 100000 in
theorem n_assume (l : Launch) (K : EK) (b : Nat → Nat) (m : Nat) (th : Int32) (al sv : Nat → Int64) (t : Int64) (kn : Nat) (fn : Nat → Int32) (kr : Nat) (fr : Nat → Int32) (kp : Nat) (fp : Nat → Int32) (p0 p1 : Int32) (hC : Cp al (t, (kn, fn), (kr, fr), (kp, fp))) (hSI : SI (t, (kn, fn), (kr, fr), (kp, fp))) (hm : m ≤ 4) (sz : Nat) : Met l yX4_assume (wq yX4_assume cX4_assume 5 (some .int)) (rmL 7 0 0) (va_Pc [.ref (b 0), .int p0, .int p1] (PW K sz [(b 0, .inr (6, [.ref (b 1), .ref (b 2), .int (nI m), .int th])), (b 1, .inl (K.2.2.1, 460, .inr (.inl (al)))), (b 2, .inl (K.2.2.1, 1840, .inr (.inl (sv))))])) (va_Qi (fun r (u : MD) => Gs u.1 (0 ≤ p0.toInt ∧ p0.toInt < kn) (-1000 ≤ p1.toInt ∧ p1.toInt ≤ 1000) True ∧ (¬ u.1 = 0 → u.2 = (al, sv, m)) ∧ (u.1 = 0 → (savR al sv m u.2.2.1 u.2.2.2 ∧ (r = fn (ix p0 * 6 + 5) ∧ Cp u.2.1 (t, (kn, upd fn (ix p0 * 6 + 5) p1), (kr, fr), (kp, fp)))))) (Bw K sz [(b 0, .inr (6, [.ref (b 1), .ref (b 2), .int (nI m), .int th])), (b 1, .inl (K.2.2.1, 460, .inr (.inl (al)))), (b 2, .inl (K.2.2.1, 1840, .inr (.inl (sv))))] (fun (u : MD) => [(b 0, .inr (6, [.ref (b 1), .ref (b 2), .int (nI u.2.2.2), .int u.1])), (b 1, .inl (K.2.2.1, 460, .inr (.inl (u.2.1)))), (b 2, .inl (K.2.2.1, 1840, .inr (.inl (u.2.2.1))))])) (va_A [(b 0, .inr (6, [.ref (b 1), .ref (b 2), .int (nI m), .int th])), (b 1, .inl (K.2.2.1, 460, .inr (.inl (al)))), (b 2, .inl (K.2.2.1, 1840, .inr (.inl (sv))))] sz)) 0 0 (va_A [(b 0, .inr (6, [.ref (b 1), .ref (b 2), .int (nI m), .int th])), (b 1, .inl (K.2.2.1, 460, .inr (.inl (al)))), (b 2, .inl (K.2.2.1, 1840, .inr (.inl (sv))))] sz) := by
  refine hdW (by decide +kernel) (Nat.le_of_ble_eq_true rfl) ?_
  intro pp ee s mm bl9 me9 cd hx hb hr hlocks hml hown hin hts hE hP A hAe hsz hA hD hS ls hl
  have hown : s.vm.findClass RX4 = some mm.cls := hown
  have hP : va_P K.1 vwCl [(b 0, .inr (6, [.ref (b 1), .ref (b 2), .int (nI m), .int th])), (b 1, .inl (K.2.2.1, 460, .inr (.inl (al)))), (b 2, .inl (K.2.2.1, 1840, .inr (.inl (sv))))] s.heap := hP
  have hD : va_D A [(b 0, .inr (6, [.ref (b 1), .ref (b 2), .int (nI m), .int th])), (b 1, .inl (K.2.2.1, 460, .inr (.inl (al)))), (b 2, .inl (K.2.2.1, 1840, .inr (.inl (sv))))] := hD
  have hl : lv_has ls 5 [(0, .ref (b 0)), (1, .int p0), (2, .int p1)] := hl
  have s1 : kn ≤ 6 := hSI.1
  have s2 : kr ≤ 40 := hSI.2.1
  have s3 : kp ≤ 20 := hSI.2.2.1
  have s4 : 0 ≤ t.toInt ∧ t.toInt ≤ 900000000 + 1000000 * (kr : Int) := hSI.2.2.2.1
  have hn : ∀ i, i < kn → nOk fn i := hSI.2.2.2.2.1
  have hrs : ∀ e, e < kr → rOk kn fr e := hSI.2.2.2.2.2.1
  have hps : ∀ k, k < kp → pOk kn fp k := hSI.2.2.2.2.2.2.1
  have h6 := s1
  have h40 := s2
  have h20 := s3
  have h0 : al 0 = t := hC.1
  have h1 : al 1 = lN kn := hC.2.1
  have hN : NodC al kn fn := hC.2.2.1
  have h38 : al 38 = lN kr := hC.2.2.2.1
  have hR : RecC al kr fr := hC.2.2.2.2.1
  have h359 : al 359 = lN kp := hC.2.2.2.2.2.1
  have hPl : PlnC al kp fp := hC.2.2.2.2.2.2
  refine lv_aload_n hx hb dX4_assume_0 rfl (lv_at hl 0 rfl) ?_
  refine lv_aload_n hx hb dX4_assume_1 rfl (lv_at hl 0 rfl) ?_
  refine lv_iload_n hx hb dX4_assume_2 rfl (lv_at hl 1 rfl) ?_
  refine goI (rdV (As := [.int p0]) (rest := [.ref (b 0)]) (m_isNode l K b (nI m) th al kn h6 h1 p0) ⟨hx, hb, hml, hown, hts⟩ (gV kl_X4_64 ki_X4_isNode ks_X4_isNode kn_X4 kc_X4_isNode) (by show okN yX4_isNode 1; decide +kernel) ⟨⟨Nat.le_of_ble_eq_true rfl, Nat.le_of_ble_eq_true rfl⟩, rfl, rfl⟩ hE hP [0, 1] rfl ⟨0, 6, _, _, rfl, rfl, rfl⟩ hl.1 rfl (Nat.le_of_ble_eq_true rfl) dX4_assume_3 ⟨Nat.le_of_ble_eq_true rfl, Nat.le_of_ble_eq_true rfl⟩) (fun v3 e3 => ?_)
  refine lv_iload_n hx hb dX4_assume_6 rfl (lv_at hl 2 rfl) ?_
  refine lv_i2l hx hb dX4_assume_7 rfl ?_
  refine lv_topl (fun v7 e7 => ?_)
  refine lv_ldc2 (v := -1000) hx hb hown (hts _ kw_X4_27) dX4_assume_8 ?_
  refine lv_ldc2 (v := lN 1000) hx hb hown (hts _ kw_X4_29) dX4_assume_11 ?_
  refine goI (rdS (As := [.long v7, .long (-1000), .long (lN 1000)]) (rest := [.int v3, .ref (b 0)]) (m_in l K v7 (-1000) (lN 1000)) ⟨hx, hb, hml, hown, hts⟩ (gS kl_X4_23 kt_X4_in kn_X4 kc_X4_in) (by show okN yX4_in 3; decide +kernel) ⟨⟨Nat.le_of_ble_eq_true rfl, Nat.le_of_ble_eq_true rfl⟩, rfl, rfl⟩ hE hP [] rfl hl.1 rfl (Nat.le_of_ble_eq_true rfl) dX4_assume_14 ⟨Nat.le_of_ble_eq_true rfl, Nat.le_of_ble_eq_true rfl⟩) (fun v14 e14 => ?_)
  have e14 : Bo v14 (-1000 ≤ p1.toInt ∧ p1.toInt ≤ 1000) := e14.c (by have h1 := i64T p1; rw [← e7] at h1; have y1000m : (-1000 : Int64).toInt = -1000 := (by decide); have y1000 : (lN 1000 : Int64).toInt = 1000 := (by decide); omega)
  refine lv_iconst (v := nI 1) hx hb dX4_assume_17 (by decide) ?_
  refine woI (wrV (As := [.int v3, .int v14, .int (nI 1)]) (rest := []) (m_goes l K b (nI m) th v3 v14 (nI 1) (0 ≤ p0.toInt ∧ p0.toInt < kn) (-1000 ≤ p1.toInt ∧ p1.toInt ≤ 1000) True e3 e14 Bo.one _) ⟨hx, hb, hml, hown, hts⟩ (gV kl_X4_45 ki_X4_goes ks_X4_goes kn_X4 kc_X4_goes) (by show okN yX4_goes 3; decide +kernel) ⟨⟨Nat.le_of_ble_eq_true rfl, Nat.le_of_ble_eq_true rfl⟩, ⟨rfl, rfl⟩, Nat.le_of_ble_eq_true rfl, Nat.le_of_ble_eq_true rfl⟩ hE hP hD [0] (by decide) rfl ⟨0, 6, _, _, rfl, rfl, rfl⟩ hl.1 rfl (Nat.le_of_ble_eq_true rfl) dX4_assume_18) hP hD hS hA [(b 1, .inl (K.2.2.1, 460, .inr (.inl (al)))), (b 2, .inl (K.2.2.1, 1840, .inr (.inl (sv))))] (fun u => [(b 0, .inr (6, [.ref (b 1), .ref (b 2), .int (nI m), .int u])), (b 1, .inl (K.2.2.1, 460, .inr (.inl (al)))), (b 2, .inl (K.2.2.1, 1840, .inr (.inl (sv))))]) [0] [1, 2] [2, 0, 1] ⟨rfl, rfl, by decide, by decide, by decide, fun _ => rfl⟩ (fun v18 u18 H locs e18 hP hD hS => ?_)
  have hP : va_P K.1 vwCl [(b 0, .inr (6, [.ref (b 1), .ref (b 2), .int (nI m), .int u18])), (b 1, .inl (K.2.2.1, 460, .inr (.inl (al)))), (b 2, .inl (K.2.2.1, 1840, .inr (.inl (sv))))] H := hP
  have hD : va_D A [(b 0, .inr (6, [.ref (b 1), .ref (b 2), .int (nI m), .int u18])), (b 1, .inl (K.2.2.1, 460, .inr (.inl (al)))), (b 2, .inl (K.2.2.1, 1840, .inr (.inl (sv))))] := hD
  obtain ⟨g18, e18⟩ := e18
  refine lv_if_ne (tgt := 26) hx hb dX4_assume_21 (by decide) (fun c21 => ?_) (fun c21 => ?_)
  · have c21 := (e18).t c21
    obtain ⟨i, hi, rfl⟩ := ixOf (n := kn) c21.1 (by omega)
    refine lv_aload_n hx hb dX4_assume_26 rfl (lv_at hl 0 rfl) ?_
    refine woV (wrV (As := []) (rest := []) (m_save l K b m u18 al sv _ hm) ⟨hx, hb, hml, hown, hts⟩ (gV kl_X4_49 ki_X4_save ks_X4_save kn_X4 kc_X4_save) (by show okN yX4_save 0; decide +kernel) ⟨⟨Nat.le_of_ble_eq_true rfl, Nat.le_of_ble_eq_true rfl⟩, ⟨rfl, rfl⟩, Nat.le_of_ble_eq_true rfl, Nat.le_of_ble_eq_true rfl⟩ hE hP hD [0, 1, 2] (by decide) rfl ⟨0, 6, _, _, rfl, rfl, rfl⟩ hl.1 rfl (Nat.le_of_ble_eq_true rfl) dX4_assume_27) hP hD hS hA [] (fun u => [(b 0, .inr (6, [.ref (b 1), .ref (b 2), .int (nI u.2), .int u18])), (b 1, .inl (K.2.2.1, 460, .inr (.inl (al)))), (b 2, .inl (K.2.2.1, 1840, .inr (.inl (u.1))))]) [0, 1, 2] [] [0, 1, 2] ⟨rfl, rfl, by decide, by decide, by decide, fun _ => rfl⟩ (fun u27 H locs e27 hP hD hS => ?_)
    obtain ⟨sv27, sm27⟩ := u27
    have hP : va_P K.1 vwCl [(b 0, .inr (6, [.ref (b 1), .ref (b 2), .int (nI sm27), .int u18])), (b 1, .inl (K.2.2.1, 460, .inr (.inl (al)))), (b 2, .inl (K.2.2.1, 1840, .inr (.inl (sv27))))] H := hP
    have hD : va_D A [(b 0, .inr (6, [.ref (b 1), .ref (b 2), .int (nI sm27), .int u18])), (b 1, .inl (K.2.2.1, 460, .inr (.inl (al)))), (b 2, .inl (K.2.2.1, 1840, .inr (.inl (sv27))))] := hD
    have e27 : savR al sv m sv27 sm27 := e27
    refine lv_aload_n hx hb dX4_assume_30 rfl (lv_at hl 0 rfl) ?_
    refine lv_iload_n hx hb dX4_assume_31 rfl (lv_at hl 1 rfl) ?_
    refine lv_iconst (v := nI 5) hx hb dX4_assume_32 (by decide) ?_
    refine goL (rdV (As := [.int (nI i), .int (nI 5)]) (rest := []) (m_of l K b (nI sm27) u18 al kn fn h6 hN i 5 hi (by decide)) ⟨hx, hb, hml, hown, hts⟩ (gV kl_X4_56 ki_X4_of ks_X4_of kn_X4 kc_X4_of) (by show okN yX4_of 2; decide +kernel) ⟨⟨Nat.le_of_ble_eq_true rfl, Nat.le_of_ble_eq_true rfl⟩, rfl, rfl⟩ hE hP [0, 1] rfl ⟨0, 6, _, _, rfl, rfl, rfl⟩ hl.1 rfl (Nat.le_of_ble_eq_true rfl) dX4_assume_33 ⟨Nat.le_of_ble_eq_true rfl, Nat.le_of_ble_eq_true rfl⟩) (fun v33 e33 => ?_)
    refine lv_lstore_n (lv' := [(3, .long v33), (0, .ref (b 0)), (1, .int (nI i)), (2, .int p1)]) hx hb dX4_assume_36 rfl hl (by decide) rfl (fun ls hl => ?_)
    refine lv_aload_n hx hb dX4_assume_37 rfl (lv_at hl 1 rfl) ?_
    refine va_get (D := K.1) (ci := 6) (v := .ref (b 1)) (C := RX4) (T := TX4) (N := 4) hx hb hts inX4 hown hE.1 hP 0 rfl rfl 0 (by decide) (hts _ kf_X4_7) (fun _ h9 => h9) rfl dX4_assume_38 ?_
    refine lv_iconst (v := nI 2) hx hb dX4_assume_41 (by decide) ?_
    refine lv_bipush (v := nI 6) hx hb dX4_assume_42 (by decide) ?_
    refine lv_iload_n hx hb dX4_assume_44 rfl (lv_at hl 2 rfl) ?_
    refine lv_imul hx hb dX4_assume_45 ?_
    rw [pk_mul 6 i]
    refine lv_iadd hx hb dX4_assume_46 ?_
    rw [nI_add 2 (6 * i)]
    refine lv_iconst (v := nI 5) hx hb dX4_assume_47 (by decide) ?_
    refine lv_iadd hx hb dX4_assume_48 ?_
    rw [nI_add (2 + 6 * i) 5]
    refine lv_iload_n hx hb dX4_assume_49 rfl (lv_at hl 3 rfl) ?_
    refine lv_i2l hx hb dX4_assume_50 rfl ?_
    refine lv_topl (fun v50 e50 => ?_)
    have i51 : nI (2 + 6 * i + 5) = nI (2 + 6 * i + 5) := rfl
    have j51 : 2 + 6 * i + 5 < 460 := by omega
    refine va_last hx hb hE.1 hP hD hS 1 1 rfl rfl (by rw [i51]; exact vp_in_nI j51 (by omega)) dX4_assume_51 (fun H locs hP hD hS => ?_)
    rw [i51, nI_clamp (by omega)] at hP hD
    have hP : va_P K.1 vwCl [(b 0, .inr (6, [.ref (b 1), .ref (b 2), .int (nI sm27), .int u18])), (b 1, .inl (K.2.2.1, 460, .inr (.inl (vp_updL al (2 + 6 * i + 5) v50)))), (b 2, .inl (K.2.2.1, 1840, .inr (.inl (sv27))))] H := hP
    have hD : va_D A [(b 0, .inr (6, [.ref (b 1), .ref (b 2), .int (nI sm27), .int u18])), (b 1, .inl (K.2.2.1, 460, .inr (.inl (vp_updL al (2 + 6 * i + 5) v50)))), (b 2, .inl (K.2.2.1, 1840, .inr (.inl (sv27))))] := hD
    refine lv_lload_n hx hb dX4_assume_52 rfl (lv_at hl 0 rfl) ?_
    refine lv_l2i hx hb dX4_assume_53 rfl ?_
    refine lv_topi (fun v53 e53 => ?_)
    exact fI (v := v53) ((u18, vp_updL al (2 + 6 * i + 5) v50, sv27, sm27)) hx hb hr hlocks hAe hP hD hS [0, 1, 2] (by decide) rfl (⟨g18, fun q => absurd (g18.ok c21) q, fun _ => ⟨e27, by rw [e53, e33, l2iI, ix_nI (by omega)], by rw [ix_nI (by omega), e50]; exact node_cp hC h6 hi (by decide) p1⟩⟩) dX4_assume_54
  · have c21 := (e18).f c21
    refine lv_iconst (v := nI 0) hx hb dX4_assume_24 (by decide) ?_
    exact fI (v := nI 0) ((u18, al, sv, m)) hx hb hr hlocks hAe hP hD hS [0, 1, 2] (by decide) rfl (⟨g18, fun _ => rfl, fun g => absurd (g18.no g) c21⟩) dX4_assume_25
set_option maxHeartbeats 4000000 in
set_option maxRecDepth 100000 in
theorem n_exchange (l : Launch) (K : EK) (b : Nat → Nat) (m : Nat) (th : Int32) (al sv : Nat → Int64) (t : Int64) (kn : Nat) (fn : Nat → Int32) (kr : Nat) (fr : Nat → Int32) (kp : Nat) (fp : Nat → Int32) (p0 p1 p2 p3 : Int32) (hC : Cp al (t, (kn, fn), (kr, fr), (kp, fp))) (hSI : SI (t, (kn, fn), (kr, fr), (kp, fp))) (hm : m ≤ 4) (sz : Nat) : Met l yX4_exchange (wq yX4_exchange cX4_exchange 5 (some .int)) (rmL 7 0 0) (va_Pc [.ref (b 0), .int p0, .int p1, .int p2, .int p3] (PW K sz [(b 0, .inr (6, [.ref (b 1), .ref (b 2), .int (nI m), .int th])), (b 1, .inl (K.2.2.1, 460, .inr (.inl (al)))), (b 2, .inl (K.2.2.1, 1840, .inr (.inl (sv))))])) (va_Qi (fun r (u : MD) => Gs u.1 ((0 ≤ p0.toInt ∧ p0.toInt < kn) ∧ 0 ≤ p1.toInt ∧ p1.toInt < kn) (p0.toInt ≠ p1.toInt ∧ (0 ≤ p2.toInt ∧ p2.toInt ≤ 400000) ∧ 0 ≤ p3.toInt ∧ p3.toInt ≤ 400000) (kr < 40) ∧ (¬ u.1 = 0 → u.2 = (al, sv, m)) ∧ (u.1 = 0 → (savR al sv m u.2.2.1 u.2.2.2 ∧ (r = nI kr ∧ ∀ B : SD, B.2.1 = (kn, fn) → B.2.2.1.1 = kr + 1 → B.2.2.2 = (kp, fp) → B.1.toInt = t.toInt + way fn (ix p0) (ix p1) + ix p2 + way fn (ix p0) (ix p1) + ix p3 + way fn (ix p0) (ix p1) → cSpec fn fr B.2.2.1.2 kr (ix p0) (ix p1) (ix p2) (ix p3) t.toInt (way fn (ix p0) (ix p1)) → Cp u.2.1 B)))) (Bw K sz [(b 0, .inr (6, [.ref (b 1), .ref (b 2), .int (nI m), .int th])), (b 1, .inl (K.2.2.1, 460, .inr (.inl (al)))), (b 2, .inl (K.2.2.1, 1840, .inr (.inl (sv))))] (fun (u : MD) => [(b 0, .inr (6, [.ref (b 1), .ref (b 2), .int (nI u.2.2.2), .int u.1])), (b 1, .inl (K.2.2.1, 460, .inr (.inl (u.2.1)))), (b 2, .inl (K.2.2.1, 1840, .inr (.inl (u.2.2.1))))])) (va_A [(b 0, .inr (6, [.ref (b 1), .ref (b 2), .int (nI m), .int th])), (b 1, .inl (K.2.2.1, 460, .inr (.inl (al)))), (b 2, .inl (K.2.2.1, 1840, .inr (.inl (sv))))] sz)) 0 0 (va_A [(b 0, .inr (6, [.ref (b 1), .ref (b 2), .int (nI m), .int th])), (b 1, .inl (K.2.2.1, 460, .inr (.inl (al)))), (b 2, .inl (K.2.2.1, 1840, .inr (.inl (sv))))] sz) := by
  refine hdW (by decide +kernel) (Nat.le_of_ble_eq_true rfl) ?_
  intro pp ee s mm bl9 me9 cd hx hb hr hlocks hml hown hin hts hE hP A hAe hsz hA hD hS ls hl
  have hown : s.vm.findClass RX4 = some mm.cls := hown
  have hP : va_P K.1 vwCl [(b 0, .inr (6, [.ref (b 1), .ref (b 2), .int (nI m), .int th])), (b 1, .inl (K.2.2.1, 460, .inr (.inl (al)))), (b 2, .inl (K.2.2.1, 1840, .inr (.inl (sv))))] s.heap := hP
  have hD : va_D A [(b 0, .inr (6, [.ref (b 1), .ref (b 2), .int (nI m), .int th])), (b 1, .inl (K.2.2.1, 460, .inr (.inl (al)))), (b 2, .inl (K.2.2.1, 1840, .inr (.inl (sv))))] := hD
  have hl : lv_has ls 5 [(0, .ref (b 0)), (1, .int p0), (2, .int p1), (3, .int p2), (4, .int p3)] := hl
  have s1 : kn ≤ 6 := hSI.1
  have s2 : kr ≤ 40 := hSI.2.1
  have s3 : kp ≤ 20 := hSI.2.2.1
  have s4 : 0 ≤ t.toInt ∧ t.toInt ≤ 900000000 + 1000000 * (kr : Int) := hSI.2.2.2.1
  have hn : ∀ i, i < kn → nOk fn i := hSI.2.2.2.2.1
  have hrs : ∀ e, e < kr → rOk kn fr e := hSI.2.2.2.2.2.1
  have hps : ∀ k, k < kp → pOk kn fp k := hSI.2.2.2.2.2.2.1
  have h6 := s1
  have h40 := s2
  have h20 := s3
  have h0 : al 0 = t := hC.1
  have h1 : al 1 = lN kn := hC.2.1
  have hN : NodC al kn fn := hC.2.2.1
  have h38 : al 38 = lN kr := hC.2.2.2.1
  have hR : RecC al kr fr := hC.2.2.2.2.1
  have h359 : al 359 = lN kp := hC.2.2.2.2.2.1
  have hPl : PlnC al kp fp := hC.2.2.2.2.2.2
  refine lv_aload_n hx hb dX4_exchange_0 rfl (lv_at hl 0 rfl) ?_
  refine jn (P := fun jv => Bo jv ((0 ≤ p0.toInt ∧ p0.toInt < kn) ∧ 0 ≤ p1.toInt ∧ p1.toInt < kn)) 22 [.ref (b 0)] (fun j22 k22 => ?_) (fun hJ22 => ?_)
  · refine lv_iload_n hx hb dX4_exchange_22 rfl (lv_at hl 1 rfl) ?_
    refine lv_iload_n hx hb dX4_exchange_23 rfl (lv_at hl 2 rfl) ?_
    refine lv_iload_n hx hb dX4_exchange_24 rfl (lv_at hl 3 rfl) ?_
    refine lv_iload hx hb dX4_exchange_25 (lv_at hl 4 rfl) ?_
    refine goI (rdS (As := [.int p0, .int p1, .int p2, .int p3]) (rest := [.int j22, .ref (b 0)]) (m_areReplies l K p0 p1 p2 p3) ⟨hx, hb, hml, hown, hts⟩ (gS kl_X4_82 kt_X4_areReplies kn_X4 kc_X4_areReplies) (by show okN yX4_areReplies 4; decide +kernel) ⟨⟨Nat.le_of_ble_eq_true rfl, Nat.le_of_ble_eq_true rfl⟩, rfl, rfl⟩ hE hP [] rfl hl.1 rfl (Nat.le_of_ble_eq_true rfl) dX4_exchange_27 ⟨Nat.le_of_ble_eq_true rfl, Nat.le_of_ble_eq_true rfl⟩) (fun v27 e27 => ?_)
    refine jn (P := fun jv => Bo jv (kr < 40)) 49 [.int v27, .int j22, .ref (b 0)] (fun j49 k49 => ?_) (fun hJ49 => ?_)
    · refine woI (wrV (As := [.int j22, .int v27, .int j49]) (rest := []) (m_goes l K b (nI m) th j22 v27 j49 ((0 ≤ p0.toInt ∧ p0.toInt < kn) ∧ 0 ≤ p1.toInt ∧ p1.toInt < kn) (p0.toInt ≠ p1.toInt ∧ (0 ≤ p2.toInt ∧ p2.toInt ≤ 400000) ∧ 0 ≤ p3.toInt ∧ p3.toInt ≤ 400000) (kr < 40) k22 e27 k49 _) ⟨hx, hb, hml, hown, hts⟩ (gV kl_X4_45 ki_X4_goes ks_X4_goes kn_X4 kc_X4_goes) (by show okN yX4_goes 3; decide +kernel) ⟨⟨Nat.le_of_ble_eq_true rfl, Nat.le_of_ble_eq_true rfl⟩, ⟨rfl, rfl⟩, Nat.le_of_ble_eq_true rfl, Nat.le_of_ble_eq_true rfl⟩ hE hP hD [0] (by decide) rfl ⟨0, 6, _, _, rfl, rfl, rfl⟩ hl.1 rfl (Nat.le_of_ble_eq_true rfl) dX4_exchange_49) hP hD hS hA [(b 1, .inl (K.2.2.1, 460, .inr (.inl (al)))), (b 2, .inl (K.2.2.1, 1840, .inr (.inl (sv))))] (fun u => [(b 0, .inr (6, [.ref (b 1), .ref (b 2), .int (nI m), .int u])), (b 1, .inl (K.2.2.1, 460, .inr (.inl (al)))), (b 2, .inl (K.2.2.1, 1840, .inr (.inl (sv))))]) [0] [1, 2] [2, 0, 1] ⟨rfl, rfl, by decide, by decide, by decide, fun _ => rfl⟩ (fun v49 u49 H locs e49 hP hD hS => ?_)
      have hP : va_P K.1 vwCl [(b 0, .inr (6, [.ref (b 1), .ref (b 2), .int (nI m), .int u49])), (b 1, .inl (K.2.2.1, 460, .inr (.inl (al)))), (b 2, .inl (K.2.2.1, 1840, .inr (.inl (sv))))] H := hP
      have hD : va_D A [(b 0, .inr (6, [.ref (b 1), .ref (b 2), .int (nI m), .int u49])), (b 1, .inl (K.2.2.1, 460, .inr (.inl (al)))), (b 2, .inl (K.2.2.1, 1840, .inr (.inl (sv))))] := hD
      obtain ⟨g49, e49⟩ := e49
      refine lv_if_ne (tgt := 57) hx hb dX4_exchange_52 (by decide) (fun c52 => ?_) (fun c52 => ?_)
      · have c52 := (e49).t c52
        have w9 := c52.2
        obtain ⟨i, hi, rfl⟩ := ixOf (n := kn) c52.1.1 (by omega)
        obtain ⟨j, hj, rfl⟩ := ixOf (n := kn) c52.1.2 (by omega)
        obtain ⟨r1, hr1, rfl⟩ := ixLe (n := 400000) (show 0 ≤ p2.toInt ∧ p2.toInt ≤ (400000 : Nat) by omega) (by omega)
        obtain ⟨r2, hr2, rfl⟩ := ixLe (n := 400000) (show 0 ≤ p3.toInt ∧ p3.toInt ≤ (400000 : Nat) by omega) (by omega)
        refine lv_aload_n hx hb dX4_exchange_57 rfl (lv_at hl 0 rfl) ?_
        refine woV (wrV (As := []) (rest := []) (m_save l K b m u49 al sv _ hm) ⟨hx, hb, hml, hown, hts⟩ (gV kl_X4_49 ki_X4_save ks_X4_save kn_X4 kc_X4_save) (by show okN yX4_save 0; decide +kernel) ⟨⟨Nat.le_of_ble_eq_true rfl, Nat.le_of_ble_eq_true rfl⟩, ⟨rfl, rfl⟩, Nat.le_of_ble_eq_true rfl, Nat.le_of_ble_eq_true rfl⟩ hE hP hD [0, 1, 2] (by decide) rfl ⟨0, 6, _, _, rfl, rfl, rfl⟩ hl.1 rfl (Nat.le_of_ble_eq_true rfl) dX4_exchange_58) hP hD hS hA [] (fun u => [(b 0, .inr (6, [.ref (b 1), .ref (b 2), .int (nI u.2), .int u49])), (b 1, .inl (K.2.2.1, 460, .inr (.inl (al)))), (b 2, .inl (K.2.2.1, 1840, .inr (.inl (u.1))))]) [0, 1, 2] [] [0, 1, 2] ⟨rfl, rfl, by decide, by decide, by decide, fun _ => rfl⟩ (fun u58 H locs e58 hP hD hS => ?_)
        obtain ⟨sv58, sm58⟩ := u58
        have hP : va_P K.1 vwCl [(b 0, .inr (6, [.ref (b 1), .ref (b 2), .int (nI sm58), .int u49])), (b 1, .inl (K.2.2.1, 460, .inr (.inl (al)))), (b 2, .inl (K.2.2.1, 1840, .inr (.inl (sv58))))] H := hP
        have hD : va_D A [(b 0, .inr (6, [.ref (b 1), .ref (b 2), .int (nI sm58), .int u49])), (b 1, .inl (K.2.2.1, 460, .inr (.inl (al)))), (b 2, .inl (K.2.2.1, 1840, .inr (.inl (sv58))))] := hD
        have e58 : savR al sv m sv58 sm58 := e58
        refine lv_aload_n hx hb dX4_exchange_61 rfl (lv_at hl 0 rfl) ?_
        refine lv_aload_n hx hb dX4_exchange_62 rfl (lv_at hl 0 rfl) ?_
        refine va_get (D := K.1) (ci := 6) (v := .ref (b 1)) (C := RX4) (T := TX4) (N := 4) hx hb hts inX4 hown hE.1 hP 0 rfl rfl 0 (by decide) (hts _ kf_X4_7) (fun _ h9 => h9) rfl dX4_exchange_63 ?_
        refine lv_iconst (v := nI 0) hx hb dX4_exchange_66 (by decide) ?_
        have i67 : nI 0 = nI 0 := rfl
        have j67 : 0 < 460 := by omega
        refine va_lald hx hb hE.1 hP 1 1 rfl rfl (by rw [i67]; exact vp_in_nI j67 (by omega)) dX4_exchange_67 ?_
        rw [i67, nI_clamp (by omega)]
        refine lv_topl (fun v67 e67 => ?_)
        rw [e67, h0]
        refine lv_iload_n hx hb dX4_exchange_68 rfl (lv_at hl 1 rfl) ?_
        refine lv_iload_n hx hb dX4_exchange_69 rfl (lv_at hl 2 rfl) ?_
        refine lv_iload_n hx hb dX4_exchange_70 rfl (lv_at hl 3 rfl) ?_
        refine lv_i2l hx hb dX4_exchange_71 (nI_l (by omega)) ?_
        refine lv_iload hx hb dX4_exchange_72 (lv_at hl 4 rfl) ?_
        refine lv_i2l hx hb dX4_exchange_74 (nI_l (by omega)) ?_
        refine woV (wrV (As := [.long t, .int (nI i), .int (nI j), .long (lN r1), .long (lN r2)]) (rest := []) (m_carriesOut l K b (nI sm58) u49 al kn fn h6 hN kr fr h40 hR hn h38 w9.2 i j r1 r2 t _ hi hj (by omega) (by omega) (by omega)) ⟨hx, hb, hml, hown, hts⟩ (gV kl_X4_88 ki_X4_carriesOut ks_X4_carriesOut kn_X4 kc_X4_carriesOut) (by show okN yX4_carriesOut 5; decide +kernel) ⟨⟨Nat.le_of_ble_eq_true rfl, Nat.le_of_ble_eq_true rfl⟩, ⟨rfl, rfl⟩, Nat.le_of_ble_eq_true rfl, Nat.le_of_ble_eq_true rfl⟩ hE hP hD [0, 1] (by decide) rfl ⟨0, 6, _, _, rfl, rfl, rfl⟩ hl.1 rfl (Nat.le_of_ble_eq_true rfl) dX4_exchange_75) hP hD hS hA [(b 2, .inl (K.2.2.1, 1840, .inr (.inl (sv58))))] (fun u => [(b 0, .inr (6, [.ref (b 1), .ref (b 2), .int (nI sm58), .int u49])), (b 1, .inl (K.2.2.1, 460, .inr (.inl (u)))), (b 2, .inl (K.2.2.1, 1840, .inr (.inl (sv58))))]) [0, 1] [2] [1, 2, 0] ⟨rfl, rfl, by decide, by decide, by decide, fun _ => rfl⟩ (fun u75 H locs e75 hP hD hS => ?_)
        have hP : va_P K.1 vwCl [(b 0, .inr (6, [.ref (b 1), .ref (b 2), .int (nI sm58), .int u49])), (b 1, .inl (K.2.2.1, 460, .inr (.inl (u75)))), (b 2, .inl (K.2.2.1, 1840, .inr (.inl (sv58))))] H := hP
        have hD : va_D A [(b 0, .inr (6, [.ref (b 1), .ref (b 2), .int (nI sm58), .int u49])), (b 1, .inl (K.2.2.1, 460, .inr (.inl (u75)))), (b 2, .inl (K.2.2.1, 1840, .inr (.inl (sv58))))] := hD
        refine lv_aload_n hx hb dX4_exchange_78 rfl (lv_at hl 0 rfl) ?_
        refine va_get (D := K.1) (ci := 6) (v := .ref (b 1)) (C := RX4) (T := TX4) (N := 4) hx hb hts inX4 hown hE.1 hP 0 rfl rfl 0 (by decide) (hts _ kf_X4_7) (fun _ h9 => h9) rfl dX4_exchange_79 ?_
        refine lv_bipush (v := nI 38) hx hb dX4_exchange_82 (by decide) ?_
        have i84 : nI 38 = nI 38 := rfl
        have j84 : 38 < 460 := by omega
        refine va_lald hx hb hE.1 hP 1 1 rfl rfl (by rw [i84]; exact vp_in_nI j84 (by omega)) dX4_exchange_84 ?_
        rw [i84, nI_clamp (by omega)]
        refine lv_topl (fun v84 e84 => ?_)
        rw [e84, e75.2.1]
        refine lv_l2i hx hb dX4_exchange_85 (l2iN (by omega)) ?_
        refine lv_iconst (v := nI 1) hx hb dX4_exchange_86 (by decide) ?_
        refine lv_isub hx hb dX4_exchange_87 ?_
        rw [pk_sub (by omega : 1 ≤ kr + 1)]
        rw [show (kr + 1) - 1 = kr from by omega]
        exact fI (v := nI kr) ((u49, u75, sv58, sm58)) hx hb hr hlocks hAe hP hD hS [0, 1, 2] (by decide) rfl (⟨g49, fun q => absurd (g49.ok c52) q, fun _ => ⟨e58, rfl, by rw [ix_nI (by omega), ix_nI (by omega), ix_nI (by omega), ix_nI (by omega)]; exact fun B b2 b3 b4 b1 hs => out_cp hC e75 h6 b1 b2 b3 b4 hs⟩⟩) dX4_exchange_88
      · have c52 := (e49).f c52
        refine lv_iconst (v := nI 0) hx hb dX4_exchange_55 (by decide) ?_
        exact fI (v := nI 0) ((u49, al, sv, m)) hx hb hr hlocks hAe hP hD hS [0, 1, 2] (by decide) rfl (⟨g49, fun _ => rfl, fun g => absurd (g49.no g) c52⟩) dX4_exchange_56
    · refine lv_aload_n hx hb dX4_exchange_30 rfl (lv_at hl 0 rfl) ?_
      refine va_get (D := K.1) (ci := 6) (v := .ref (b 1)) (C := RX4) (T := TX4) (N := 4) hx hb hts inX4 hown hE.1 hP 0 rfl rfl 0 (by decide) (hts _ kf_X4_7) (fun _ h9 => h9) rfl dX4_exchange_31 ?_
      refine lv_bipush (v := nI 38) hx hb dX4_exchange_34 (by decide) ?_
      have i36 : nI 38 = nI 38 := rfl
      have j36 : 38 < 460 := by omega
      refine va_lald hx hb hE.1 hP 1 1 rfl rfl (by rw [i36]; exact vp_in_nI j36 (by omega)) dX4_exchange_36 ?_
      rw [i36, nI_clamp (by omega)]
      refine lv_topl (fun v36 e36 => ?_)
      rw [e36, h38]
      refine lv_ldc2 (v := lN 40) hx hb hown (hts _ kw_X4_86) dX4_exchange_37 ?_
      refine W.lcmp hx hb dX4_exchange_40 ?_
      refine lv_if_ge (tgt := 48) hx hb dX4_exchange_41 (by decide) (fun c41 => ?_) (fun c41 => ?_)
      · have c41 := (lg_cmp_ge _ _).mp c41
        have c41 := (pk_lLE (a := 40) (b := kr) (by omega) (by omega)).mp c41
        refine lv_iconst (v := nI 0) hx hb dX4_exchange_48 (by decide) ?_
        exact hJ49 (nI 0) (Or.inr ⟨rfl, by omega⟩)
      · have c41 := fun q => c41 ((lg_cmp_ge _ _).mpr q)
        have c41 := mt (pk_lLE (a := 40) (b := kr) (by omega) (by omega)).mpr c41
        refine lv_iconst (v := nI 1) hx hb dX4_exchange_44 (by decide) ?_
        refine lv_goto (tgt := 49) hx hb dX4_exchange_45 (by decide) ?_
        exact hJ49 (nI 1) (Or.inl ⟨rfl, by omega⟩)
  · refine lv_aload_n hx hb dX4_exchange_1 rfl (lv_at hl 0 rfl) ?_
    refine lv_iload_n hx hb dX4_exchange_2 rfl (lv_at hl 1 rfl) ?_
    refine goI (rdV (As := [.int p0]) (rest := [.ref (b 0)]) (m_isNode l K b (nI m) th al kn h6 h1 p0) ⟨hx, hb, hml, hown, hts⟩ (gV kl_X4_64 ki_X4_isNode ks_X4_isNode kn_X4 kc_X4_isNode) (by show okN yX4_isNode 1; decide +kernel) ⟨⟨Nat.le_of_ble_eq_true rfl, Nat.le_of_ble_eq_true rfl⟩, rfl, rfl⟩ hE hP [0, 1] rfl ⟨0, 6, _, _, rfl, rfl, rfl⟩ hl.1 rfl (Nat.le_of_ble_eq_true rfl) dX4_exchange_3 ⟨Nat.le_of_ble_eq_true rfl, Nat.le_of_ble_eq_true rfl⟩) (fun v3 e3 => ?_)
    refine lv_if_eq (tgt := 21) hx hb dX4_exchange_6 (by decide) (fun c6 => ?_) (fun c6 => ?_)
    · have c6 := (e3).f c6
      refine lv_iconst (v := nI 0) hx hb dX4_exchange_21 (by decide) ?_
      exact hJ22 (nI 0) (Or.inr ⟨rfl, by omega⟩)
    · have c6 := (e3).t c6
      refine lv_aload_n hx hb dX4_exchange_9 rfl (lv_at hl 0 rfl) ?_
      refine lv_iload_n hx hb dX4_exchange_10 rfl (lv_at hl 2 rfl) ?_
      refine goI (rdV (As := [.int p1]) (rest := [.ref (b 0)]) (m_isNode l K b (nI m) th al kn h6 h1 p1) ⟨hx, hb, hml, hown, hts⟩ (gV kl_X4_64 ki_X4_isNode ks_X4_isNode kn_X4 kc_X4_isNode) (by show okN yX4_isNode 1; decide +kernel) ⟨⟨Nat.le_of_ble_eq_true rfl, Nat.le_of_ble_eq_true rfl⟩, rfl, rfl⟩ hE hP [0, 1] rfl ⟨0, 6, _, _, rfl, rfl, rfl⟩ hl.1 rfl (Nat.le_of_ble_eq_true rfl) dX4_exchange_11 ⟨Nat.le_of_ble_eq_true rfl, Nat.le_of_ble_eq_true rfl⟩) (fun v11 e11 => ?_)
      refine lv_if_eq (tgt := 21) hx hb dX4_exchange_14 (by decide) (fun c14 => ?_) (fun c14 => ?_)
      · have c14 := (e11).f c14
        refine lv_iconst (v := nI 0) hx hb dX4_exchange_21 (by decide) ?_
        exact hJ22 (nI 0) (Or.inr ⟨rfl, by omega⟩)
      · have c14 := (e11).t c14
        refine lv_iconst (v := nI 1) hx hb dX4_exchange_17 (by decide) ?_
        refine lv_goto (tgt := 22) hx hb dX4_exchange_18 (by decide) ?_
        exact hJ22 (nI 1) (Or.inl ⟨rfl, by omega⟩)
set_option maxHeartbeats 4000000 in
set_option maxRecDepth 100000 in
theorem n_plan (l : Launch) (K : EK) (b : Nat → Nat) (m : Nat) (th : Int32) (al sv : Nat → Int64) (t : Int64) (kn : Nat) (fn : Nat → Int32) (kr : Nat) (fr : Nat → Int32) (kp : Nat) (fp : Nat → Int32) (p0 p1 p2 p3 p4 : Int32) (hC : Cp al (t, (kn, fn), (kr, fr), (kp, fp))) (hSI : SI (t, (kn, fn), (kr, fr), (kp, fp))) (hm : m ≤ 4) (sz : Nat) : Met l yX4_plan (wq yX4_plan cX4_plan 7 (some .int)) (rmL 7 0 0) (va_Pc [.ref (b 0), .int p0, .int p1, .int p2, .int p3, .int p4] (PW K sz [(b 0, .inr (6, [.ref (b 1), .ref (b 2), .int (nI m), .int th])), (b 1, .inl (K.2.2.1, 460, .inr (.inl (al)))), (b 2, .inl (K.2.2.1, 1840, .inr (.inl (sv))))])) (va_Qi (fun r (u : MD) => Gs u.1 ((0 ≤ p1.toInt ∧ p1.toInt < kn) ∧ 0 ≤ p2.toInt ∧ p2.toInt < kn) (p1.toInt ≠ p2.toInt ∧ (0 ≤ p0.toInt ∧ p0.toInt ≤ 900000000) ∧ (0 ≤ p3.toInt ∧ p3.toInt ≤ 400000) ∧ 0 ≤ p4.toInt ∧ p4.toInt ≤ 400000) (kp < 20) ∧ (¬ u.1 = 0 → u.2 = (al, sv, m)) ∧ (u.1 = 0 → (savR al sv m u.2.2.1 u.2.2.2 ∧ (r = nI (kp + 1) ∧ ∀ B, planR (ix p0) p1 p2 p3 p4 (t, (kn, fn), (kr, fr), (kp, fp)) B → Cp u.2.1 B)))) (Bw K sz [(b 0, .inr (6, [.ref (b 1), .ref (b 2), .int (nI m), .int th])), (b 1, .inl (K.2.2.1, 460, .inr (.inl (al)))), (b 2, .inl (K.2.2.1, 1840, .inr (.inl (sv))))] (fun (u : MD) => [(b 0, .inr (6, [.ref (b 1), .ref (b 2), .int (nI u.2.2.2), .int u.1])), (b 1, .inl (K.2.2.1, 460, .inr (.inl (u.2.1)))), (b 2, .inl (K.2.2.1, 1840, .inr (.inl (u.2.2.1))))])) (va_A [(b 0, .inr (6, [.ref (b 1), .ref (b 2), .int (nI m), .int th])), (b 1, .inl (K.2.2.1, 460, .inr (.inl (al)))), (b 2, .inl (K.2.2.1, 1840, .inr (.inl (sv))))] sz)) 0 0 (va_A [(b 0, .inr (6, [.ref (b 1), .ref (b 2), .int (nI m), .int th])), (b 1, .inl (K.2.2.1, 460, .inr (.inl (al)))), (b 2, .inl (K.2.2.1, 1840, .inr (.inl (sv))))] sz) := by
  refine hdW (by decide +kernel) (Nat.le_of_ble_eq_true rfl) ?_
  intro pp ee s mm bl9 me9 cd hx hb hr hlocks hml hown hin hts hE hP A hAe hsz hA hD hS ls hl
  have hown : s.vm.findClass RX4 = some mm.cls := hown
  have hP : va_P K.1 vwCl [(b 0, .inr (6, [.ref (b 1), .ref (b 2), .int (nI m), .int th])), (b 1, .inl (K.2.2.1, 460, .inr (.inl (al)))), (b 2, .inl (K.2.2.1, 1840, .inr (.inl (sv))))] s.heap := hP
  have hD : va_D A [(b 0, .inr (6, [.ref (b 1), .ref (b 2), .int (nI m), .int th])), (b 1, .inl (K.2.2.1, 460, .inr (.inl (al)))), (b 2, .inl (K.2.2.1, 1840, .inr (.inl (sv))))] := hD
  have hl : lv_has ls 7 [(0, .ref (b 0)), (1, .int p0), (2, .int p1), (3, .int p2), (4, .int p3), (5, .int p4)] := hl
  have s1 : kn ≤ 6 := hSI.1
  have s2 : kr ≤ 40 := hSI.2.1
  have s3 : kp ≤ 20 := hSI.2.2.1
  have s4 : 0 ≤ t.toInt ∧ t.toInt ≤ 900000000 + 1000000 * (kr : Int) := hSI.2.2.2.1
  have hn : ∀ i, i < kn → nOk fn i := hSI.2.2.2.2.1
  have hrs : ∀ e, e < kr → rOk kn fr e := hSI.2.2.2.2.2.1
  have hps : ∀ k, k < kp → pOk kn fp k := hSI.2.2.2.2.2.2.1
  have h6 := s1
  have h40 := s2
  have h20 := s3
  have h0 : al 0 = t := hC.1
  have h1 : al 1 = lN kn := hC.2.1
  have hN : NodC al kn fn := hC.2.2.1
  have h38 : al 38 = lN kr := hC.2.2.2.1
  have hR : RecC al kr fr := hC.2.2.2.2.1
  have h359 : al 359 = lN kp := hC.2.2.2.2.2.1
  have hPl : PlnC al kp fp := hC.2.2.2.2.2.2
  refine lv_aload_n hx hb dX4_plan_0 rfl (lv_at hl 0 rfl) ?_
  refine jn (P := fun jv => Bo jv ((0 ≤ p1.toInt ∧ p1.toInt < kn) ∧ 0 ≤ p2.toInt ∧ p2.toInt < kn)) 22 [.ref (b 0)] (fun j22 k22 => ?_) (fun hJ22 => ?_)
  · refine jn (P := fun jv => Bo jv (p1.toInt ≠ p2.toInt ∧ (0 ≤ p0.toInt ∧ p0.toInt ≤ 900000000) ∧ (0 ≤ p3.toInt ∧ p3.toInt ≤ 400000) ∧ 0 ≤ p4.toInt ∧ p4.toInt ≤ 400000)) 51 [.int j22, .ref (b 0)] (fun j51 k51 => ?_) (fun hJ51 => ?_)
    · refine jn (P := fun jv => Bo jv (kp < 20)) 71 [.int j51, .int j22, .ref (b 0)] (fun j71 k71 => ?_) (fun hJ71 => ?_)
      · refine woI (wrV (As := [.int j22, .int j51, .int j71]) (rest := []) (m_goes l K b (nI m) th j22 j51 j71 ((0 ≤ p1.toInt ∧ p1.toInt < kn) ∧ 0 ≤ p2.toInt ∧ p2.toInt < kn) (p1.toInt ≠ p2.toInt ∧ (0 ≤ p0.toInt ∧ p0.toInt ≤ 900000000) ∧ (0 ≤ p3.toInt ∧ p3.toInt ≤ 400000) ∧ 0 ≤ p4.toInt ∧ p4.toInt ≤ 400000) (kp < 20) k22 k51 k71 _) ⟨hx, hb, hml, hown, hts⟩ (gV kl_X4_45 ki_X4_goes ks_X4_goes kn_X4 kc_X4_goes) (by show okN yX4_goes 3; decide +kernel) ⟨⟨Nat.le_of_ble_eq_true rfl, Nat.le_of_ble_eq_true rfl⟩, ⟨rfl, rfl⟩, Nat.le_of_ble_eq_true rfl, Nat.le_of_ble_eq_true rfl⟩ hE hP hD [0] (by decide) rfl ⟨0, 6, _, _, rfl, rfl, rfl⟩ hl.1 rfl (Nat.le_of_ble_eq_true rfl) dX4_plan_71) hP hD hS hA [(b 1, .inl (K.2.2.1, 460, .inr (.inl (al)))), (b 2, .inl (K.2.2.1, 1840, .inr (.inl (sv))))] (fun u => [(b 0, .inr (6, [.ref (b 1), .ref (b 2), .int (nI m), .int u])), (b 1, .inl (K.2.2.1, 460, .inr (.inl (al)))), (b 2, .inl (K.2.2.1, 1840, .inr (.inl (sv))))]) [0] [1, 2] [2, 0, 1] ⟨rfl, rfl, by decide, by decide, by decide, fun _ => rfl⟩ (fun v71 u71 H locs e71 hP hD hS => ?_)
        have hP : va_P K.1 vwCl [(b 0, .inr (6, [.ref (b 1), .ref (b 2), .int (nI m), .int u71])), (b 1, .inl (K.2.2.1, 460, .inr (.inl (al)))), (b 2, .inl (K.2.2.1, 1840, .inr (.inl (sv))))] H := hP
        have hD : va_D A [(b 0, .inr (6, [.ref (b 1), .ref (b 2), .int (nI m), .int u71])), (b 1, .inl (K.2.2.1, 460, .inr (.inl (al)))), (b 2, .inl (K.2.2.1, 1840, .inr (.inl (sv))))] := hD
        obtain ⟨g71, e71⟩ := e71
        refine lv_if_ne (tgt := 79) hx hb dX4_plan_74 (by decide) (fun c74 => ?_) (fun c74 => ?_)
        · have c74 := (e71).t c74
          obtain ⟨T, hT, rfl⟩ := ixLe (n := 900000000) (show 0 ≤ p0.toInt ∧ p0.toInt ≤ (900000000 : Nat) by omega) (by omega)
          refine lv_aload_n hx hb dX4_plan_79 rfl (lv_at hl 0 rfl) ?_
          refine woV (wrV (As := []) (rest := []) (m_save l K b m u71 al sv _ hm) ⟨hx, hb, hml, hown, hts⟩ (gV kl_X4_49 ki_X4_save ks_X4_save kn_X4 kc_X4_save) (by show okN yX4_save 0; decide +kernel) ⟨⟨Nat.le_of_ble_eq_true rfl, Nat.le_of_ble_eq_true rfl⟩, ⟨rfl, rfl⟩, Nat.le_of_ble_eq_true rfl, Nat.le_of_ble_eq_true rfl⟩ hE hP hD [0, 1, 2] (by decide) rfl ⟨0, 6, _, _, rfl, rfl, rfl⟩ hl.1 rfl (Nat.le_of_ble_eq_true rfl) dX4_plan_80) hP hD hS hA [] (fun u => [(b 0, .inr (6, [.ref (b 1), .ref (b 2), .int (nI u.2), .int u71])), (b 1, .inl (K.2.2.1, 460, .inr (.inl (al)))), (b 2, .inl (K.2.2.1, 1840, .inr (.inl (u.1))))]) [0, 1, 2] [] [0, 1, 2] ⟨rfl, rfl, by decide, by decide, by decide, fun _ => rfl⟩ (fun u80 H locs e80 hP hD hS => ?_)
          obtain ⟨sv80, sm80⟩ := u80
          have hP : va_P K.1 vwCl [(b 0, .inr (6, [.ref (b 1), .ref (b 2), .int (nI sm80), .int u71])), (b 1, .inl (K.2.2.1, 460, .inr (.inl (al)))), (b 2, .inl (K.2.2.1, 1840, .inr (.inl (sv80))))] H := hP
          have hD : va_D A [(b 0, .inr (6, [.ref (b 1), .ref (b 2), .int (nI sm80), .int u71])), (b 1, .inl (K.2.2.1, 460, .inr (.inl (al)))), (b 2, .inl (K.2.2.1, 1840, .inr (.inl (sv80))))] := hD
          have e80 : savR al sv m sv80 sm80 := e80
          refine lv_sipush (v := nI 360) hx hb dX4_plan_83 (by decide) ?_
          refine lv_iconst (v := nI 5) hx hb dX4_plan_86 (by decide) ?_
          refine lv_aload_n hx hb dX4_plan_87 rfl (lv_at hl 0 rfl) ?_
          refine va_get (D := K.1) (ci := 6) (v := .ref (b 1)) (C := RX4) (T := TX4) (N := 4) hx hb hts inX4 hown hE.1 hP 0 rfl rfl 0 (by decide) (hts _ kf_X4_7) (fun _ h9 => h9) rfl dX4_plan_88 ?_
          refine lv_sipush (v := nI 359) hx hb dX4_plan_91 (by decide) ?_
          have i94 : nI 359 = nI 359 := rfl
          have j94 : 359 < 460 := by omega
          refine va_lald hx hb hE.1 hP 1 1 rfl rfl (by rw [i94]; exact vp_in_nI j94 (by omega)) dX4_plan_94 ?_
          rw [i94, nI_clamp (by omega)]
          refine lv_topl (fun v94 e94 => ?_)
          rw [e94, h359]
          refine lv_l2i hx hb dX4_plan_95 (l2iN (by omega)) ?_
          refine lv_imul hx hb dX4_plan_96 ?_
          rw [pk_mul 5 kp]
          refine lv_iadd hx hb dX4_plan_97 ?_
          rw [nI_add 360 (5 * kp)]
          refine lv_istore (lv' := [(6, .int (nI (360 + 5 * kp))), (0, .ref (b 0)), (1, .int (nI T)), (2, .int p1), (3, .int p2), (4, .int p3), (5, .int p4)]) hx hb dX4_plan_98 hl (by decide) rfl (fun ls hl => ?_)
          refine lv_aload_n hx hb dX4_plan_100 rfl (lv_at hl 1 rfl) ?_
          refine va_get (D := K.1) (ci := 6) (v := .ref (b 1)) (C := RX4) (T := TX4) (N := 4) hx hb hts inX4 hown hE.1 hP 0 rfl rfl 0 (by decide) (hts _ kf_X4_7) (fun _ h9 => h9) rfl dX4_plan_101 ?_
          refine lv_iload hx hb dX4_plan_104 (lv_at hl 0 rfl) ?_
          refine lv_iload_n hx hb dX4_plan_106 rfl (lv_at hl 2 rfl) ?_
          refine lv_i2l hx hb dX4_plan_107 (nI_l (by omega)) ?_
          have i108 : nI (360 + 5 * kp) = nI (360 + 5 * kp) := rfl
          have j108 : 360 + 5 * kp < 460 := by omega
          refine va_last hx hb hE.1 hP hD hS 1 1 rfl rfl (by rw [i108]; exact vp_in_nI j108 (by omega)) dX4_plan_108 (fun H locs hP hD hS => ?_)
          rw [i108, nI_clamp (by omega)] at hP hD
          have hP : va_P K.1 vwCl [(b 0, .inr (6, [.ref (b 1), .ref (b 2), .int (nI sm80), .int u71])), (b 1, .inl (K.2.2.1, 460, .inr (.inl (vp_updL al (360 + 5 * kp) (lN T))))), (b 2, .inl (K.2.2.1, 1840, .inr (.inl (sv80))))] H := hP
          have hD : va_D A [(b 0, .inr (6, [.ref (b 1), .ref (b 2), .int (nI sm80), .int u71])), (b 1, .inl (K.2.2.1, 460, .inr (.inl (vp_updL al (360 + 5 * kp) (lN T))))), (b 2, .inl (K.2.2.1, 1840, .inr (.inl (sv80))))] := hD
          refine lv_aload_n hx hb dX4_plan_109 rfl (lv_at hl 1 rfl) ?_
          refine va_get (D := K.1) (ci := 6) (v := .ref (b 1)) (C := RX4) (T := TX4) (N := 4) hx hb hts inX4 hown hE.1 hP 0 rfl rfl 0 (by decide) (hts _ kf_X4_7) (fun _ h9 => h9) rfl dX4_plan_110 ?_
          refine lv_iload hx hb dX4_plan_113 (lv_at hl 0 rfl) ?_
          refine lv_iconst (v := nI 1) hx hb dX4_plan_115 (by decide) ?_
          refine lv_iadd hx hb dX4_plan_116 ?_
          rw [nI_add (360 + 5 * kp) 1]
          refine lv_iload_n hx hb dX4_plan_117 rfl (lv_at hl 3 rfl) ?_
          refine lv_i2l hx hb dX4_plan_118 rfl ?_
          refine lv_topl (fun v118 e118 => ?_)
          have i119 : nI (360 + 5 * kp + 1) = nI (360 + 5 * kp + 1) := rfl
          have j119 : 360 + 5 * kp + 1 < 460 := by omega
          refine va_last hx hb hE.1 hP hD hS 1 1 rfl rfl (by rw [i119]; exact vp_in_nI j119 (by omega)) dX4_plan_119 (fun H locs hP hD hS => ?_)
          rw [i119, nI_clamp (by omega)] at hP hD
          have hP : va_P K.1 vwCl [(b 0, .inr (6, [.ref (b 1), .ref (b 2), .int (nI sm80), .int u71])), (b 1, .inl (K.2.2.1, 460, .inr (.inl (vp_updL (vp_updL al (360 + 5 * kp) (lN T)) (360 + 5 * kp + 1) v118)))), (b 2, .inl (K.2.2.1, 1840, .inr (.inl (sv80))))] H := hP
          have hD : va_D A [(b 0, .inr (6, [.ref (b 1), .ref (b 2), .int (nI sm80), .int u71])), (b 1, .inl (K.2.2.1, 460, .inr (.inl (vp_updL (vp_updL al (360 + 5 * kp) (lN T)) (360 + 5 * kp + 1) v118)))), (b 2, .inl (K.2.2.1, 1840, .inr (.inl (sv80))))] := hD
          refine lv_aload_n hx hb dX4_plan_120 rfl (lv_at hl 1 rfl) ?_
          refine va_get (D := K.1) (ci := 6) (v := .ref (b 1)) (C := RX4) (T := TX4) (N := 4) hx hb hts inX4 hown hE.1 hP 0 rfl rfl 0 (by decide) (hts _ kf_X4_7) (fun _ h9 => h9) rfl dX4_plan_121 ?_
          refine lv_iload hx hb dX4_plan_124 (lv_at hl 0 rfl) ?_
          refine lv_iconst (v := nI 2) hx hb dX4_plan_126 (by decide) ?_
          refine lv_iadd hx hb dX4_plan_127 ?_
          rw [nI_add (360 + 5 * kp) 2]
          refine lv_iload_n hx hb dX4_plan_128 rfl (lv_at hl 4 rfl) ?_
          refine lv_i2l hx hb dX4_plan_129 rfl ?_
          refine lv_topl (fun v129 e129 => ?_)
          have i130 : nI (360 + 5 * kp + 2) = nI (360 + 5 * kp + 2) := rfl
          have j130 : 360 + 5 * kp + 2 < 460 := by omega
          refine va_last hx hb hE.1 hP hD hS 1 1 rfl rfl (by rw [i130]; exact vp_in_nI j130 (by omega)) dX4_plan_130 (fun H locs hP hD hS => ?_)
          rw [i130, nI_clamp (by omega)] at hP hD
          have hP : va_P K.1 vwCl [(b 0, .inr (6, [.ref (b 1), .ref (b 2), .int (nI sm80), .int u71])), (b 1, .inl (K.2.2.1, 460, .inr (.inl (vp_updL (vp_updL (vp_updL al (360 + 5 * kp) (lN T)) (360 + 5 * kp + 1) v118) (360 + 5 * kp + 2) v129)))), (b 2, .inl (K.2.2.1, 1840, .inr (.inl (sv80))))] H := hP
          have hD : va_D A [(b 0, .inr (6, [.ref (b 1), .ref (b 2), .int (nI sm80), .int u71])), (b 1, .inl (K.2.2.1, 460, .inr (.inl (vp_updL (vp_updL (vp_updL al (360 + 5 * kp) (lN T)) (360 + 5 * kp + 1) v118) (360 + 5 * kp + 2) v129)))), (b 2, .inl (K.2.2.1, 1840, .inr (.inl (sv80))))] := hD
          refine lv_aload_n hx hb dX4_plan_131 rfl (lv_at hl 1 rfl) ?_
          refine va_get (D := K.1) (ci := 6) (v := .ref (b 1)) (C := RX4) (T := TX4) (N := 4) hx hb hts inX4 hown hE.1 hP 0 rfl rfl 0 (by decide) (hts _ kf_X4_7) (fun _ h9 => h9) rfl dX4_plan_132 ?_
          refine lv_iload hx hb dX4_plan_135 (lv_at hl 0 rfl) ?_
          refine lv_iconst (v := nI 3) hx hb dX4_plan_137 (by decide) ?_
          refine lv_iadd hx hb dX4_plan_138 ?_
          rw [nI_add (360 + 5 * kp) 3]
          refine lv_iload hx hb dX4_plan_139 (lv_at hl 5 rfl) ?_
          refine lv_i2l hx hb dX4_plan_141 rfl ?_
          refine lv_topl (fun v141 e141 => ?_)
          have i142 : nI (360 + 5 * kp + 3) = nI (360 + 5 * kp + 3) := rfl
          have j142 : 360 + 5 * kp + 3 < 460 := by omega
          refine va_last hx hb hE.1 hP hD hS 1 1 rfl rfl (by rw [i142]; exact vp_in_nI j142 (by omega)) dX4_plan_142 (fun H locs hP hD hS => ?_)
          rw [i142, nI_clamp (by omega)] at hP hD
          have hP : va_P K.1 vwCl [(b 0, .inr (6, [.ref (b 1), .ref (b 2), .int (nI sm80), .int u71])), (b 1, .inl (K.2.2.1, 460, .inr (.inl (vp_updL (vp_updL (vp_updL (vp_updL al (360 + 5 * kp) (lN T)) (360 + 5 * kp + 1) v118) (360 + 5 * kp + 2) v129) (360 + 5 * kp + 3) v141)))), (b 2, .inl (K.2.2.1, 1840, .inr (.inl (sv80))))] H := hP
          have hD : va_D A [(b 0, .inr (6, [.ref (b 1), .ref (b 2), .int (nI sm80), .int u71])), (b 1, .inl (K.2.2.1, 460, .inr (.inl (vp_updL (vp_updL (vp_updL (vp_updL al (360 + 5 * kp) (lN T)) (360 + 5 * kp + 1) v118) (360 + 5 * kp + 2) v129) (360 + 5 * kp + 3) v141)))), (b 2, .inl (K.2.2.1, 1840, .inr (.inl (sv80))))] := hD
          refine lv_aload_n hx hb dX4_plan_143 rfl (lv_at hl 1 rfl) ?_
          refine va_get (D := K.1) (ci := 6) (v := .ref (b 1)) (C := RX4) (T := TX4) (N := 4) hx hb hts inX4 hown hE.1 hP 0 rfl rfl 0 (by decide) (hts _ kf_X4_7) (fun _ h9 => h9) rfl dX4_plan_144 ?_
          refine lv_iload hx hb dX4_plan_147 (lv_at hl 0 rfl) ?_
          refine lv_iconst (v := nI 4) hx hb dX4_plan_149 (by decide) ?_
          refine lv_iadd hx hb dX4_plan_150 ?_
          rw [nI_add (360 + 5 * kp) 4]
          refine lv_iload hx hb dX4_plan_151 (lv_at hl 6 rfl) ?_
          refine lv_i2l hx hb dX4_plan_153 rfl ?_
          refine lv_topl (fun v153 e153 => ?_)
          have i154 : nI (360 + 5 * kp + 4) = nI (360 + 5 * kp + 4) := rfl
          have j154 : 360 + 5 * kp + 4 < 460 := by omega
          refine va_last hx hb hE.1 hP hD hS 1 1 rfl rfl (by rw [i154]; exact vp_in_nI j154 (by omega)) dX4_plan_154 (fun H locs hP hD hS => ?_)
          rw [i154, nI_clamp (by omega)] at hP hD
          have hP : va_P K.1 vwCl [(b 0, .inr (6, [.ref (b 1), .ref (b 2), .int (nI sm80), .int u71])), (b 1, .inl (K.2.2.1, 460, .inr (.inl (vp_updL (vp_updL (vp_updL (vp_updL (vp_updL al (360 + 5 * kp) (lN T)) (360 + 5 * kp + 1) v118) (360 + 5 * kp + 2) v129) (360 + 5 * kp + 3) v141) (360 + 5 * kp + 4) v153)))), (b 2, .inl (K.2.2.1, 1840, .inr (.inl (sv80))))] H := hP
          have hD : va_D A [(b 0, .inr (6, [.ref (b 1), .ref (b 2), .int (nI sm80), .int u71])), (b 1, .inl (K.2.2.1, 460, .inr (.inl (vp_updL (vp_updL (vp_updL (vp_updL (vp_updL al (360 + 5 * kp) (lN T)) (360 + 5 * kp + 1) v118) (360 + 5 * kp + 2) v129) (360 + 5 * kp + 3) v141) (360 + 5 * kp + 4) v153)))), (b 2, .inl (K.2.2.1, 1840, .inr (.inl (sv80))))] := hD
          refine lv_aload_n hx hb dX4_plan_155 rfl (lv_at hl 1 rfl) ?_
          refine va_get (D := K.1) (ci := 6) (v := .ref (b 1)) (C := RX4) (T := TX4) (N := 4) hx hb hts inX4 hown hE.1 hP 0 rfl rfl 0 (by decide) (hts _ kf_X4_7) (fun _ h9 => h9) rfl dX4_plan_156 ?_
          refine lv_sipush (v := nI 359) hx hb dX4_plan_159 (by decide) ?_
          refine lv_dup2_11 hx hb dX4_plan_162 rfl rfl ?_
          have i163 : nI 359 = nI 359 := rfl
          have j163 : 359 < 460 := by omega
          refine va_lald hx hb hE.1 hP 1 1 rfl rfl (by rw [i163]; exact vp_in_nI j163 (by omega)) dX4_plan_163 ?_
          rw [i163, nI_clamp (by omega)]
          refine lv_topl (fun v163 e163 => ?_)
          rw [e163, ul_ne (by omega), ul_ne (by omega), ul_ne (by omega), ul_ne (by omega), ul_ne (by omega), h359]
          refine lv_lconst (v := lN 1) hx hb dX4_plan_164 (by decide) ?_
          refine lv_ladd hx hb dX4_plan_165 ?_
          rw [lN_add kp 1]
          have i166 : nI 359 = nI 359 := rfl
          have j166 : 359 < 460 := by omega
          refine va_last hx hb hE.1 hP hD hS 1 1 rfl rfl (by rw [i166]; exact vp_in_nI j166 (by omega)) dX4_plan_166 (fun H locs hP hD hS => ?_)
          rw [i166, nI_clamp (by omega)] at hP hD
          have hP : va_P K.1 vwCl [(b 0, .inr (6, [.ref (b 1), .ref (b 2), .int (nI sm80), .int u71])), (b 1, .inl (K.2.2.1, 460, .inr (.inl (vp_updL (vp_updL (vp_updL (vp_updL (vp_updL (vp_updL al (360 + 5 * kp) (lN T)) (360 + 5 * kp + 1) v118) (360 + 5 * kp + 2) v129) (360 + 5 * kp + 3) v141) (360 + 5 * kp + 4) v153) 359 (lN (kp + 1)))))), (b 2, .inl (K.2.2.1, 1840, .inr (.inl (sv80))))] H := hP
          have hD : va_D A [(b 0, .inr (6, [.ref (b 1), .ref (b 2), .int (nI sm80), .int u71])), (b 1, .inl (K.2.2.1, 460, .inr (.inl (vp_updL (vp_updL (vp_updL (vp_updL (vp_updL (vp_updL al (360 + 5 * kp) (lN T)) (360 + 5 * kp + 1) v118) (360 + 5 * kp + 2) v129) (360 + 5 * kp + 3) v141) (360 + 5 * kp + 4) v153) 359 (lN (kp + 1)))))), (b 2, .inl (K.2.2.1, 1840, .inr (.inl (sv80))))] := hD
          refine lv_aload_n hx hb dX4_plan_167 rfl (lv_at hl 1 rfl) ?_
          refine va_get (D := K.1) (ci := 6) (v := .ref (b 1)) (C := RX4) (T := TX4) (N := 4) hx hb hts inX4 hown hE.1 hP 0 rfl rfl 0 (by decide) (hts _ kf_X4_7) (fun _ h9 => h9) rfl dX4_plan_168 ?_
          refine lv_sipush (v := nI 359) hx hb dX4_plan_171 (by decide) ?_
          have i174 : nI 359 = nI 359 := rfl
          have j174 : 359 < 460 := by omega
          refine va_lald hx hb hE.1 hP 1 1 rfl rfl (by rw [i174]; exact vp_in_nI j174 (by omega)) dX4_plan_174 ?_
          rw [i174, nI_clamp (by omega)]
          refine lv_topl (fun v174 e174 => ?_)
          rw [e174, ul_eq]
          refine lv_l2i hx hb dX4_plan_175 (l2iN (by omega)) ?_
          exact fI (v := nI (kp + 1)) ((u71, vp_updL (vp_updL (vp_updL (vp_updL (vp_updL (vp_updL al (360 + 5 * kp) (lN T)) (360 + 5 * kp + 1) v118) (360 + 5 * kp + 2) v129) (360 + 5 * kp + 3) v141) (360 + 5 * kp + 4) v153) 359 (lN (kp + 1)), sv80, sm80)) hx hb hr hlocks hAe hP hD hS [0, 1, 2] (by decide) rfl (⟨g71, fun q => absurd (g71.ok c74) q, fun _ => ⟨e80, rfl, by rw [ix_nI (by omega)]; exact fun B hB => plan_cp hC hSI (g71.no (g71.ok c74)).2.2 (by omega) hB (show vp_updL (vp_updL (vp_updL (vp_updL (vp_updL (vp_updL al (360 + 5 * kp) (lN T)) (360 + 5 * kp + 1) v118) (360 + 5 * kp + 2) v129) (360 + 5 * kp + 3) v141) (360 + 5 * kp + 4) v153) 359 (lN (kp + 1)) = vp_updL (vp_updL (vp_updL (vp_updL (vp_updL (vp_updL al (360 + 5 * kp) ((nI T).toInt64)) (360 + 5 * kp + 1) p1.toInt64) (360 + 5 * kp + 2) p2.toInt64) (360 + 5 * kp + 3) p3.toInt64) (360 + 5 * kp + 4) p4.toInt64) 359 (lN (kp + 1)) from by rw [e118, e129, e141, e153, nI_l (show T < 2 ^ 31 by omega)])⟩⟩) dX4_plan_176
        · have c74 := (e71).f c74
          refine lv_iconst (v := nI 0) hx hb dX4_plan_77 (by decide) ?_
          exact fI (v := nI 0) ((u71, al, sv, m)) hx hb hr hlocks hAe hP hD hS [0, 1, 2] (by decide) rfl (⟨g71, fun _ => rfl, fun g => absurd (g71.no g) c74⟩) dX4_plan_78
      · refine lv_aload_n hx hb dX4_plan_51 rfl (lv_at hl 0 rfl) ?_
        refine va_get (D := K.1) (ci := 6) (v := .ref (b 1)) (C := RX4) (T := TX4) (N := 4) hx hb hts inX4 hown hE.1 hP 0 rfl rfl 0 (by decide) (hts _ kf_X4_7) (fun _ h9 => h9) rfl dX4_plan_52 ?_
        refine lv_sipush (v := nI 359) hx hb dX4_plan_55 (by decide) ?_
        have i58 : nI 359 = nI 359 := rfl
        have j58 : 359 < 460 := by omega
        refine va_lald hx hb hE.1 hP 1 1 rfl rfl (by rw [i58]; exact vp_in_nI j58 (by omega)) dX4_plan_58 ?_
        rw [i58, nI_clamp (by omega)]
        refine lv_topl (fun v58 e58 => ?_)
        rw [e58, h359]
        refine lv_ldc2 (v := lN 20) hx hb hown (hts _ kw_X4_94) dX4_plan_59 ?_
        refine W.lcmp hx hb dX4_plan_62 ?_
        refine lv_if_ge (tgt := 70) hx hb dX4_plan_63 (by decide) (fun c63 => ?_) (fun c63 => ?_)
        · have c63 := (lg_cmp_ge _ _).mp c63
          have c63 := (pk_lLE (a := 20) (b := kp) (by omega) (by omega)).mp c63
          refine lv_iconst (v := nI 0) hx hb dX4_plan_70 (by decide) ?_
          exact hJ71 (nI 0) (Or.inr ⟨rfl, by omega⟩)
        · have c63 := fun q => c63 ((lg_cmp_ge _ _).mpr q)
          have c63 := mt (pk_lLE (a := 20) (b := kp) (by omega) (by omega)).mpr c63
          refine lv_iconst (v := nI 1) hx hb dX4_plan_66 (by decide) ?_
          refine lv_goto (tgt := 71) hx hb dX4_plan_67 (by decide) ?_
          exact hJ71 (nI 1) (Or.inl ⟨rfl, by omega⟩)
    · refine lv_iload_n hx hb dX4_plan_22 rfl (lv_at hl 2 rfl) ?_
      refine lv_iload_n hx hb dX4_plan_23 rfl (lv_at hl 3 rfl) ?_
      refine lv_iload hx hb dX4_plan_24 (lv_at hl 4 rfl) ?_
      refine lv_iload hx hb dX4_plan_26 (lv_at hl 5 rfl) ?_
      refine goI (rdS (As := [.int p1, .int p2, .int p3, .int p4]) (rest := [.int j22, .ref (b 0)]) (m_areReplies l K p1 p2 p3 p4) ⟨hx, hb, hml, hown, hts⟩ (gS kl_X4_82 kt_X4_areReplies kn_X4 kc_X4_areReplies) (by show okN yX4_areReplies 4; decide +kernel) ⟨⟨Nat.le_of_ble_eq_true rfl, Nat.le_of_ble_eq_true rfl⟩, rfl, rfl⟩ hE hP [] rfl hl.1 rfl (Nat.le_of_ble_eq_true rfl) dX4_plan_28 ⟨Nat.le_of_ble_eq_true rfl, Nat.le_of_ble_eq_true rfl⟩) (fun v28 e28 => ?_)
      refine lv_if_eq (tgt := 50) hx hb dX4_plan_31 (by decide) (fun c31 => ?_) (fun c31 => ?_)
      · have c31 := (e28).f c31
        refine lv_iconst (v := nI 0) hx hb dX4_plan_50 (by decide) ?_
        exact hJ51 (nI 0) (Or.inr ⟨rfl, by omega⟩)
      · have c31 := (e28).t c31
        refine lv_iload_n hx hb dX4_plan_34 rfl (lv_at hl 1 rfl) ?_
        refine lv_i2l hx hb dX4_plan_35 rfl ?_
        refine lv_topl (fun v35 e35 => ?_)
        refine lv_lconst (v := lN 0) hx hb dX4_plan_36 (by decide) ?_
        refine lv_ldc2 (v := lN 900000000) hx hb hown (hts _ kw_X4_92) dX4_plan_37 ?_
        refine goI (rdS (As := [.long v35, .long (lN 0), .long (lN 900000000)]) (rest := [.int j22, .ref (b 0)]) (m_in l K v35 (lN 0) (lN 900000000)) ⟨hx, hb, hml, hown, hts⟩ (gS kl_X4_23 kt_X4_in kn_X4 kc_X4_in) (by show okN yX4_in 3; decide +kernel) ⟨⟨Nat.le_of_ble_eq_true rfl, Nat.le_of_ble_eq_true rfl⟩, rfl, rfl⟩ hE hP [] rfl hl.1 rfl (Nat.le_of_ble_eq_true rfl) dX4_plan_40 ⟨Nat.le_of_ble_eq_true rfl, Nat.le_of_ble_eq_true rfl⟩) (fun v40 e40 => ?_)
        have e40 : Bo v40 (0 ≤ p0.toInt ∧ p0.toInt ≤ 900000000) := e40.c (by have h1 := i64T p0; rw [← e35] at h1; have y0 : (lN 0 : Int64).toInt = 0 := (by decide); have y900000000 : (lN 900000000 : Int64).toInt = 900000000 := (by decide); omega)
        refine lv_if_eq (tgt := 50) hx hb dX4_plan_43 (by decide) (fun c43 => ?_) (fun c43 => ?_)
        · have c43 := (e40).f c43
          refine lv_iconst (v := nI 0) hx hb dX4_plan_50 (by decide) ?_
          exact hJ51 (nI 0) (Or.inr ⟨rfl, by omega⟩)
        · have c43 := (e40).t c43
          refine lv_iconst (v := nI 1) hx hb dX4_plan_46 (by decide) ?_
          refine lv_goto (tgt := 51) hx hb dX4_plan_47 (by decide) ?_
          exact hJ51 (nI 1) (Or.inl ⟨rfl, by omega⟩)
  · refine lv_aload_n hx hb dX4_plan_1 rfl (lv_at hl 0 rfl) ?_
    refine lv_iload_n hx hb dX4_plan_2 rfl (lv_at hl 2 rfl) ?_
    refine goI (rdV (As := [.int p1]) (rest := [.ref (b 0)]) (m_isNode l K b (nI m) th al kn h6 h1 p1) ⟨hx, hb, hml, hown, hts⟩ (gV kl_X4_64 ki_X4_isNode ks_X4_isNode kn_X4 kc_X4_isNode) (by show okN yX4_isNode 1; decide +kernel) ⟨⟨Nat.le_of_ble_eq_true rfl, Nat.le_of_ble_eq_true rfl⟩, rfl, rfl⟩ hE hP [0, 1] rfl ⟨0, 6, _, _, rfl, rfl, rfl⟩ hl.1 rfl (Nat.le_of_ble_eq_true rfl) dX4_plan_3 ⟨Nat.le_of_ble_eq_true rfl, Nat.le_of_ble_eq_true rfl⟩) (fun v3 e3 => ?_)
    refine lv_if_eq (tgt := 21) hx hb dX4_plan_6 (by decide) (fun c6 => ?_) (fun c6 => ?_)
    · have c6 := (e3).f c6
      refine lv_iconst (v := nI 0) hx hb dX4_plan_21 (by decide) ?_
      exact hJ22 (nI 0) (Or.inr ⟨rfl, by omega⟩)
    · have c6 := (e3).t c6
      refine lv_aload_n hx hb dX4_plan_9 rfl (lv_at hl 0 rfl) ?_
      refine lv_iload_n hx hb dX4_plan_10 rfl (lv_at hl 3 rfl) ?_
      refine goI (rdV (As := [.int p2]) (rest := [.ref (b 0)]) (m_isNode l K b (nI m) th al kn h6 h1 p2) ⟨hx, hb, hml, hown, hts⟩ (gV kl_X4_64 ki_X4_isNode ks_X4_isNode kn_X4 kc_X4_isNode) (by show okN yX4_isNode 1; decide +kernel) ⟨⟨Nat.le_of_ble_eq_true rfl, Nat.le_of_ble_eq_true rfl⟩, rfl, rfl⟩ hE hP [0, 1] rfl ⟨0, 6, _, _, rfl, rfl, rfl⟩ hl.1 rfl (Nat.le_of_ble_eq_true rfl) dX4_plan_11 ⟨Nat.le_of_ble_eq_true rfl, Nat.le_of_ble_eq_true rfl⟩) (fun v11 e11 => ?_)
      refine lv_if_eq (tgt := 21) hx hb dX4_plan_14 (by decide) (fun c14 => ?_) (fun c14 => ?_)
      · have c14 := (e11).f c14
        refine lv_iconst (v := nI 0) hx hb dX4_plan_21 (by decide) ?_
        exact hJ22 (nI 0) (Or.inr ⟨rfl, by omega⟩)
      · have c14 := (e11).t c14
        refine lv_iconst (v := nI 1) hx hb dX4_plan_17 (by decide) ?_
        refine lv_goto (tgt := 22) hx hb dX4_plan_18 (by decide) ?_
        exact hJ22 (nI 1) (Or.inl ⟨rfl, by omega⟩)
set_option maxHeartbeats 4000000 in
set_option maxRecDepth 100000 in
theorem m_removes (l : Launch) (K : EK) (b : Nat → Nat) (sm th : Int32) (al : Nat → Int64) (k n : Nat) (hk : k ≤ 19) (hn20 : n < 20) (h359 : al 359 = lN (n + 1)) (sz : Nat) : Met l yX4_removes (wq yX4_removes cX4_removes 3 none) (rmL 2 0 0) (va_Pc [.ref (b 0), .int (nI k)] (PW K sz [(b 0, .inr (6, [.ref (b 1), .ref (b 2), .int sm, .int th])), (b 1, .inl (K.2.2.1, 460, .inr (.inl (al))))])) (va_Qv (fun (u : Nat → Int64) => (∀ q, q < 359 → u q = al q) ∧ (∀ q, 360 ≤ q → q < 360 + 5 * k → u q = al q) ∧ (∀ q, 360 + 5 * k ≤ q → q < 455 → u q = al (q + 5)) ∧ u 359 = lN n) (Bw K sz [(b 0, .inr (6, [.ref (b 1), .ref (b 2), .int sm, .int th])), (b 1, .inl (K.2.2.1, 460, .inr (.inl (al))))] (fun (u : Nat → Int64) => [(b 0, .inr (6, [.ref (b 1), .ref (b 2), .int sm, .int th])), (b 1, .inl (K.2.2.1, 460, .inr (.inl (u))))])) (va_A [(b 0, .inr (6, [.ref (b 1), .ref (b 2), .int sm, .int th])), (b 1, .inl (K.2.2.1, 460, .inr (.inl (al))))] sz)) 0 0 (va_A [(b 0, .inr (6, [.ref (b 1), .ref (b 2), .int sm, .int th])), (b 1, .inl (K.2.2.1, 460, .inr (.inl (al))))] sz) := by
  refine hdW (by decide +kernel) (Nat.le_of_ble_eq_true rfl) ?_
  intro pp ee s mm bl9 me9 cd hx hb hr hlocks hml hown hin hts hE hP A hAe hsz hA hD hS ls hl
  have hown : s.vm.findClass RX4 = some mm.cls := hown
  have hP : va_P K.1 vwCl [(b 0, .inr (6, [.ref (b 1), .ref (b 2), .int sm, .int th])), (b 1, .inl (K.2.2.1, 460, .inr (.inl (al))))] s.heap := hP
  have hD : va_D A [(b 0, .inr (6, [.ref (b 1), .ref (b 2), .int sm, .int th])), (b 1, .inl (K.2.2.1, 460, .inr (.inl (al))))] := hD
  have hl : lv_has ls 3 [(0, .ref (b 0)), (1, .int (nI k))] := hl
  refine lv_sipush (v := nI 360) hx hb dX4_removes_0 (by decide) ?_
  refine lv_iconst (v := nI 5) hx hb dX4_removes_3 (by decide) ?_
  refine lv_iload_n hx hb dX4_removes_4 rfl (lv_at hl 1 rfl) ?_
  refine lv_imul hx hb dX4_removes_5 ?_
  rw [pk_mul 5 k]
  refine lv_iadd hx hb dX4_removes_6 ?_
  rw [nI_add 360 (5 * k)]
  refine lv_istore_n (lv' := [(2, .int (nI (360 + 5 * k))), (0, .ref (b 0)), (1, .int (nI k))]) hx hb dX4_removes_7 rfl hl (by decide) rfl (fun ls hl => ?_)
  refine lpW (K := K) (A := A) (H0 := s.heap) (α := Nat × (Nat → Int64)) (fun (x9 : Nat × (Nat → Int64)) => (∀ q, q < 360 + 5 * k → x9.2 q = al q) ∧ (∀ q, 360 + 5 * k ≤ q → q < x9.1 → x9.2 q = al (q + 5)) ∧ (∀ q, x9.1 ≤ q → x9.2 q = al q) ∧ 360 + 5 * k ≤ x9.1 ∧ x9.1 ≤ 455) (fun (x9 : Nat × (Nat → Int64)) => 455 - x9.1) (fun (x9 : Nat × (Nat → Int64)) => [(0, .ref (b 0)), (2, .int (nI x9.1))]) (fun (x9 : Nat × (Nat → Int64)) => [(b 0, .inr (6, [.ref (b 1), .ref (b 2), .int sm, .int th])), (b 1, .inl (K.2.2.1, 460, .inr (.inl (x9.2))))]) 3 8 (fun x9 hI8 ih8 ls H locs hl hP hD hS => ?_) (360 + 5 * k, al) (⟨fun q _ => rfl, fun q h g => absurd g (by omega), fun q _ => rfl, Nat.le_refl _, by omega⟩) ls _ _ (lv_sub hl [1, 0] rfl) hP hD hS
  obtain ⟨z, f⟩ := x9
  have hI8 : (∀ q, q < 360 + 5 * k → f q = al q) ∧ (∀ q, 360 + 5 * k ≤ q → q < z → f q = al (q + 5)) ∧ (∀ q, z ≤ q → f q = al q) ∧ 360 + 5 * k ≤ z ∧ z ≤ 455 := hI8
  have hl : lv_has ls 3 [(0, .ref (b 0)), (2, .int (nI z))] := hl
  have hP : va_P K.1 vwCl [(b 0, .inr (6, [.ref (b 1), .ref (b 2), .int sm, .int th])), (b 1, .inl (K.2.2.1, 460, .inr (.inl (f))))] H := hP
  have hD : va_D A [(b 0, .inr (6, [.ref (b 1), .ref (b 2), .int sm, .int th])), (b 1, .inl (K.2.2.1, 460, .inr (.inl (f))))] := hD
  refine lv_iload_n hx hb dX4_removes_8 rfl (lv_at hl 1 rfl) ?_
  refine lv_sipush (v := nI 455) hx hb dX4_removes_9 (by decide) ?_
  refine lv_icmp_ge (tgt := 35) hx hb dX4_removes_12 (by decide) (fun c12 => ?_) (fun c12 => ?_)
  · have c12 := (nI_leI (a := 455) (b := z) (by omega) (by omega)).mp c12
    refine lv_aload_n hx hb dX4_removes_35 rfl (lv_at hl 0 rfl) ?_
    refine va_get (D := K.1) (ci := 6) (v := .ref (b 1)) (C := RX4) (T := TX4) (N := 4) hx hb hts inX4 hown hE.1 hP 0 rfl rfl 0 (by decide) (hts _ kf_X4_7) (fun _ h9 => h9) rfl dX4_removes_36 ?_
    refine lv_sipush (v := nI 359) hx hb dX4_removes_39 (by decide) ?_
    refine lv_dup2_11 hx hb dX4_removes_42 rfl rfl ?_
    have i43 : nI 359 = nI 359 := rfl
    have j43 : 359 < 460 := by omega
    refine va_lald hx hb hE.1 hP 1 1 rfl rfl (by rw [i43]; exact vp_in_nI j43 (by omega)) dX4_removes_43 ?_
    rw [i43, nI_clamp (by omega)]
    refine lv_topl (fun v43 e43 => ?_)
    rw [e43, hI8.1 359 (by omega), h359]
    refine lv_lconst (v := lN 1) hx hb dX4_removes_44 (by decide) ?_
    refine lv_lsub hx hb dX4_removes_45 ?_
    rw [lN_sub (by omega : 1 ≤ n + 1)]
    rw [show (n + 1) - 1 = n from by omega]
    have i46 : nI 359 = nI 359 := rfl
    have j46 : 359 < 460 := by omega
    refine va_last hx hb hE.1 hP hD hS 1 1 rfl rfl (by rw [i46]; exact vp_in_nI j46 (by omega)) dX4_removes_46 (fun H locs hP hD hS => ?_)
    rw [i46, nI_clamp (by omega)] at hP hD
    have hP : va_P K.1 vwCl [(b 0, .inr (6, [.ref (b 1), .ref (b 2), .int sm, .int th])), (b 1, .inl (K.2.2.1, 460, .inr (.inl (vp_updL f 359 (lN n)))))] H := hP
    have hD : va_D A [(b 0, .inr (6, [.ref (b 1), .ref (b 2), .int sm, .int th])), (b 1, .inl (K.2.2.1, 460, .inr (.inl (vp_updL f 359 (lN n)))))] := hD
    exact fV (vp_updL f 359 (lN n)) hx hb hr hlocks hAe hP hD hS [0, 1] (by decide) rfl (⟨fun q h => by rw [ul_ne (by omega)]; exact hI8.1 q (by omega), fun q h g => by rw [ul_ne (by omega)]; exact hI8.1 q g, fun q h g => by rw [ul_ne (by omega)]; exact hI8.2.1 q h (by omega), ul_eq⟩) dX4_removes_47
  · have c12 := mt (nI_leI (a := 455) (b := z) (by omega) (by omega)).mpr c12
    refine lv_aload_n hx hb dX4_removes_15 rfl (lv_at hl 0 rfl) ?_
    refine va_get (D := K.1) (ci := 6) (v := .ref (b 1)) (C := RX4) (T := TX4) (N := 4) hx hb hts inX4 hown hE.1 hP 0 rfl rfl 0 (by decide) (hts _ kf_X4_7) (fun _ h9 => h9) rfl dX4_removes_16 ?_
    refine lv_iload_n hx hb dX4_removes_19 rfl (lv_at hl 1 rfl) ?_
    refine lv_aload_n hx hb dX4_removes_20 rfl (lv_at hl 0 rfl) ?_
    refine va_get (D := K.1) (ci := 6) (v := .ref (b 1)) (C := RX4) (T := TX4) (N := 4) hx hb hts inX4 hown hE.1 hP 0 rfl rfl 0 (by decide) (hts _ kf_X4_7) (fun _ h9 => h9) rfl dX4_removes_21 ?_
    refine lv_iload_n hx hb dX4_removes_24 rfl (lv_at hl 1 rfl) ?_
    refine lv_iconst (v := nI 5) hx hb dX4_removes_25 (by decide) ?_
    refine lv_iadd hx hb dX4_removes_26 ?_
    rw [nI_add z 5]
    have i27 : nI (z + 5) = nI (z + 5) := rfl
    have j27 : z + 5 < 460 := by omega
    refine va_lald hx hb hE.1 hP 1 1 rfl rfl (by rw [i27]; exact vp_in_nI j27 (by omega)) dX4_removes_27 ?_
    rw [i27, nI_clamp (by omega)]
    refine lv_topl (fun v27 e27 => ?_)
    have i28 : nI z = nI z := rfl
    have j28 : z < 460 := by omega
    refine va_last hx hb hE.1 hP hD hS 1 1 rfl rfl (by rw [i28]; exact vp_in_nI j28 (by omega)) dX4_removes_28 (fun H locs hP hD hS => ?_)
    rw [i28, nI_clamp (by omega)] at hP hD
    have hP : va_P K.1 vwCl [(b 0, .inr (6, [.ref (b 1), .ref (b 2), .int sm, .int th])), (b 1, .inl (K.2.2.1, 460, .inr (.inl (vp_updL f z v27))))] H := hP
    have hD : va_D A [(b 0, .inr (6, [.ref (b 1), .ref (b 2), .int sm, .int th])), (b 1, .inl (K.2.2.1, 460, .inr (.inl (vp_updL f z v27))))] := hD
    refine lv_iinc (v := nI (z + 1)) (lv' := [(2, .int (nI (z + 1))), (0, .ref (b 0))]) hx hb dX4_removes_29 hl (k := 1) rfl (nI_add z 1) (by decide) rfl (fun ls hl => ?_)
    refine lv_goto (tgt := 8) hx hb dX4_removes_32 (by decide) ?_
    have hB8 : (∀ q, q < 360 + 5 * k → (vp_updL f z v27) q = al q) ∧ (∀ q, 360 + 5 * k ≤ q → q < (z + 1) → (vp_updL f z v27) q = al (q + 5)) ∧ (∀ q, (z + 1) ≤ q → (vp_updL f z v27) q = al q) ∧ 360 + 5 * k ≤ (z + 1) ∧ (z + 1) ≤ 455 := ⟨fun q h => by rw [ul_ne (by omega)]; exact hI8.1 q h, fun q h g => by rcases Nat.lt_or_ge q z with w9 | w9; rw [ul_ne (by omega)]; exact hI8.2.1 q h w9; rw [show q = z by omega, ul_eq, e27]; exact hI8.2.2.1 _ (by omega), fun q h => by rw [ul_ne (by omega)]; exact hI8.2.2.1 q (by omega), by omega, by omega⟩
    exact ih8 (z + 1, vp_updL f z v27) (hB8) (by omega) ls H locs (lv_sub hl [1, 0] rfl) hP hD hS
set_option maxHeartbeats 4000000 in
set_option maxRecDepth 100000 in
theorem n_run (l : Launch) (K : EK) (b : Nat → Nat) (m : Nat) (th : Int32) (al sv : Nat → Int64) (t : Int64) (kn : Nat) (fn : Nat → Int32) (kr : Nat) (fr : Nat → Int32) (kp : Nat) (fp : Nat → Int32) (p0 : Int32) (hC : Cp al (t, (kn, fn), (kr, fr), (kp, fp))) (hSI : SI (t, (kn, fn), (kr, fr), (kp, fp))) (hm : m ≤ 4) (sz : Nat) (B : SD) (hB : (0 ≤ p0.toInt ∧ p0.toInt ≤ 900000000) → (∃ j, runR (ix p0) j (t, (kn, fn), (kr, fr), (kp, fp)) B) ∧ ¬ canStep (ix p0) B) : Met l yX4_run (wq yX4_run cX4_run 7 (some .int)) (rmL 7 0 0) (va_Pc [.ref (b 0), .int p0] (PW K sz [(b 0, .inr (6, [.ref (b 1), .ref (b 2), .int (nI m), .int th])), (b 1, .inl (K.2.2.1, 460, .inr (.inl (al)))), (b 2, .inl (K.2.2.1, 1840, .inr (.inl (sv))))])) (va_Qi (fun r (u : MD) => Gs u.1 (0 ≤ p0.toInt ∧ p0.toInt ≤ 900000000) True True ∧ (¬ u.1 = 0 → u.2 = (al, sv, m)) ∧ (u.1 = 0 → (savR al sv m u.2.2.1 u.2.2.2 ∧ (∃ n, r = nI n ∧ B.2.2.1.1 = kr + n ∧ ∀ U : SD, U.2 = B.2 → U.1.toInt = max B.1.toInt (ix p0) → Cp u.2.1 U)))) (Bw K sz [(b 0, .inr (6, [.ref (b 1), .ref (b 2), .int (nI m), .int th])), (b 1, .inl (K.2.2.1, 460, .inr (.inl (al)))), (b 2, .inl (K.2.2.1, 1840, .inr (.inl (sv))))] (fun (u : MD) => [(b 0, .inr (6, [.ref (b 1), .ref (b 2), .int (nI u.2.2.2), .int u.1])), (b 1, .inl (K.2.2.1, 460, .inr (.inl (u.2.1)))), (b 2, .inl (K.2.2.1, 1840, .inr (.inl (u.2.2.1))))])) (va_A [(b 0, .inr (6, [.ref (b 1), .ref (b 2), .int (nI m), .int th])), (b 1, .inl (K.2.2.1, 460, .inr (.inl (al)))), (b 2, .inl (K.2.2.1, 1840, .inr (.inl (sv))))] sz)) 0 0 (va_A [(b 0, .inr (6, [.ref (b 1), .ref (b 2), .int (nI m), .int th])), (b 1, .inl (K.2.2.1, 460, .inr (.inl (al)))), (b 2, .inl (K.2.2.1, 1840, .inr (.inl (sv))))] sz) := by
  refine hdW (by decide +kernel) (Nat.le_of_ble_eq_true rfl) ?_
  intro pp ee s mm bl9 me9 cd hx hb hr hlocks hml hown hin hts hE hP A hAe hsz hA hD hS ls hl
  have hown : s.vm.findClass RX4 = some mm.cls := hown
  have hP : va_P K.1 vwCl [(b 0, .inr (6, [.ref (b 1), .ref (b 2), .int (nI m), .int th])), (b 1, .inl (K.2.2.1, 460, .inr (.inl (al)))), (b 2, .inl (K.2.2.1, 1840, .inr (.inl (sv))))] s.heap := hP
  have hD : va_D A [(b 0, .inr (6, [.ref (b 1), .ref (b 2), .int (nI m), .int th])), (b 1, .inl (K.2.2.1, 460, .inr (.inl (al)))), (b 2, .inl (K.2.2.1, 1840, .inr (.inl (sv))))] := hD
  have hl : lv_has ls 7 [(0, .ref (b 0)), (1, .int p0)] := hl
  have s1 : kn ≤ 6 := hSI.1
  have s2 : kr ≤ 40 := hSI.2.1
  have s3 : kp ≤ 20 := hSI.2.2.1
  have s4 : 0 ≤ t.toInt ∧ t.toInt ≤ 900000000 + 1000000 * (kr : Int) := hSI.2.2.2.1
  have hn : ∀ i, i < kn → nOk fn i := hSI.2.2.2.2.1
  have hrs : ∀ e, e < kr → rOk kn fr e := hSI.2.2.2.2.2.1
  have hps : ∀ k, k < kp → pOk kn fp k := hSI.2.2.2.2.2.2.1
  have h6 := s1
  have h40 := s2
  have h20 := s3
  have h0 : al 0 = t := hC.1
  have h1 : al 1 = lN kn := hC.2.1
  have hN : NodC al kn fn := hC.2.2.1
  have h38 : al 38 = lN kr := hC.2.2.2.1
  have hR : RecC al kr fr := hC.2.2.2.2.1
  have h359 : al 359 = lN kp := hC.2.2.2.2.2.1
  have hPl : PlnC al kp fp := hC.2.2.2.2.2.2
  refine lv_aload_n hx hb dX4_run_0 rfl (lv_at hl 0 rfl) ?_
  refine lv_iload_n hx hb dX4_run_1 rfl (lv_at hl 1 rfl) ?_
  refine lv_i2l hx hb dX4_run_2 rfl ?_
  refine lv_topl (fun v2 e2 => ?_)
  refine lv_lconst (v := lN 0) hx hb dX4_run_3 (by decide) ?_
  refine lv_ldc2 (v := lN 900000000) hx hb hown (hts _ kw_X4_92) dX4_run_4 ?_
  refine goI (rdS (As := [.long v2, .long (lN 0), .long (lN 900000000)]) (rest := [.ref (b 0)]) (m_in l K v2 (lN 0) (lN 900000000)) ⟨hx, hb, hml, hown, hts⟩ (gS kl_X4_23 kt_X4_in kn_X4 kc_X4_in) (by show okN yX4_in 3; decide +kernel) ⟨⟨Nat.le_of_ble_eq_true rfl, Nat.le_of_ble_eq_true rfl⟩, rfl, rfl⟩ hE hP [] rfl hl.1 rfl (Nat.le_of_ble_eq_true rfl) dX4_run_7 ⟨Nat.le_of_ble_eq_true rfl, Nat.le_of_ble_eq_true rfl⟩) (fun v7 e7 => ?_)
  have e7 : Bo v7 (0 ≤ p0.toInt ∧ p0.toInt ≤ 900000000) := e7.c (by have h1 := i64T p0; rw [← e2] at h1; have y0 : (lN 0 : Int64).toInt = 0 := (by decide); have y900000000 : (lN 900000000 : Int64).toInt = 900000000 := (by decide); omega)
  refine lv_iconst (v := nI 1) hx hb dX4_run_10 (by decide) ?_
  refine lv_iconst (v := nI 1) hx hb dX4_run_11 (by decide) ?_
  refine woI (wrV (As := [.int v7, .int (nI 1), .int (nI 1)]) (rest := []) (m_goes l K b (nI m) th v7 (nI 1) (nI 1) (0 ≤ p0.toInt ∧ p0.toInt ≤ 900000000) True True e7 Bo.one Bo.one _) ⟨hx, hb, hml, hown, hts⟩ (gV kl_X4_45 ki_X4_goes ks_X4_goes kn_X4 kc_X4_goes) (by show okN yX4_goes 3; decide +kernel) ⟨⟨Nat.le_of_ble_eq_true rfl, Nat.le_of_ble_eq_true rfl⟩, ⟨rfl, rfl⟩, Nat.le_of_ble_eq_true rfl, Nat.le_of_ble_eq_true rfl⟩ hE hP hD [0] (by decide) rfl ⟨0, 6, _, _, rfl, rfl, rfl⟩ hl.1 rfl (Nat.le_of_ble_eq_true rfl) dX4_run_12) hP hD hS hA [(b 1, .inl (K.2.2.1, 460, .inr (.inl (al)))), (b 2, .inl (K.2.2.1, 1840, .inr (.inl (sv))))] (fun u => [(b 0, .inr (6, [.ref (b 1), .ref (b 2), .int (nI m), .int u])), (b 1, .inl (K.2.2.1, 460, .inr (.inl (al)))), (b 2, .inl (K.2.2.1, 1840, .inr (.inl (sv))))]) [0] [1, 2] [2, 0, 1] ⟨rfl, rfl, by decide, by decide, by decide, fun _ => rfl⟩ (fun v12 u12 H locs e12 hP hD hS => ?_)
  have hP : va_P K.1 vwCl [(b 0, .inr (6, [.ref (b 1), .ref (b 2), .int (nI m), .int u12])), (b 1, .inl (K.2.2.1, 460, .inr (.inl (al)))), (b 2, .inl (K.2.2.1, 1840, .inr (.inl (sv))))] H := hP
  have hD : va_D A [(b 0, .inr (6, [.ref (b 1), .ref (b 2), .int (nI m), .int u12])), (b 1, .inl (K.2.2.1, 460, .inr (.inl (al)))), (b 2, .inl (K.2.2.1, 1840, .inr (.inl (sv))))] := hD
  obtain ⟨g12, e12⟩ := e12
  refine lv_if_ne (tgt := 20) hx hb dX4_run_15 (by decide) (fun c15 => ?_) (fun c15 => ?_)
  · have c15 := (e12).t c15
    obtain ⟨E0, hE0, rfl⟩ := ixLe (n := 900000000) (show 0 ≤ p0.toInt ∧ p0.toInt ≤ (900000000 : Nat) by omega) (by omega)
    obtain ⟨hB1, hB2⟩ := hB c15.1
    rw [ix_nI (by omega)] at hB1 hB2
    refine lv_aload_n hx hb dX4_run_20 rfl (lv_at hl 0 rfl) ?_
    refine woV (wrV (As := []) (rest := []) (m_save l K b m u12 al sv _ hm) ⟨hx, hb, hml, hown, hts⟩ (gV kl_X4_49 ki_X4_save ks_X4_save kn_X4 kc_X4_save) (by show okN yX4_save 0; decide +kernel) ⟨⟨Nat.le_of_ble_eq_true rfl, Nat.le_of_ble_eq_true rfl⟩, ⟨rfl, rfl⟩, Nat.le_of_ble_eq_true rfl, Nat.le_of_ble_eq_true rfl⟩ hE hP hD [0, 1, 2] (by decide) rfl ⟨0, 6, _, _, rfl, rfl, rfl⟩ hl.1 rfl (Nat.le_of_ble_eq_true rfl) dX4_run_21) hP hD hS hA [] (fun u => [(b 0, .inr (6, [.ref (b 1), .ref (b 2), .int (nI u.2), .int u12])), (b 1, .inl (K.2.2.1, 460, .inr (.inl (al)))), (b 2, .inl (K.2.2.1, 1840, .inr (.inl (u.1))))]) [0, 1, 2] [] [0, 1, 2] ⟨rfl, rfl, by decide, by decide, by decide, fun _ => rfl⟩ (fun u21 H locs e21 hP hD hS => ?_)
    obtain ⟨sv21, sm21⟩ := u21
    have hP : va_P K.1 vwCl [(b 0, .inr (6, [.ref (b 1), .ref (b 2), .int (nI sm21), .int u12])), (b 1, .inl (K.2.2.1, 460, .inr (.inl (al)))), (b 2, .inl (K.2.2.1, 1840, .inr (.inl (sv21))))] H := hP
    have hD : va_D A [(b 0, .inr (6, [.ref (b 1), .ref (b 2), .int (nI sm21), .int u12])), (b 1, .inl (K.2.2.1, 460, .inr (.inl (al)))), (b 2, .inl (K.2.2.1, 1840, .inr (.inl (sv21))))] := hD
    have e21 : savR al sv m sv21 sm21 := e21
    refine lv_iconst (v := nI 0) hx hb dX4_run_24 (by decide) ?_
    refine lv_istore_n (lv' := [(2, .int (nI 0)), (0, .ref (b 0)), (1, .int (nI E0))]) hx hb dX4_run_25 rfl hl (by decide) rfl (fun ls hl => ?_)
    refine lv_aload_n hx hb dX4_run_26 rfl (lv_at hl 1 rfl) ?_
    refine lv_iconst (v := nI 0) hx hb dX4_run_27 (by decide) ?_
    refine goI (rdV (As := [.int (nI 0)]) (rest := []) (m_waiting l K b (nI sm21) u12 al kp 0 h20 h359 (by omega)) ⟨hx, hb, hml, hown, hts⟩ (gV kl_X4_96 ki_X4_waiting ks_X4_waiting kn_X4 kc_X4_waiting) (by show okN yX4_waiting 1; decide +kernel) ⟨⟨Nat.le_of_ble_eq_true rfl, Nat.le_of_ble_eq_true rfl⟩, rfl, rfl⟩ hE hP [0, 1] rfl ⟨0, 6, _, _, rfl, rfl, rfl⟩ hl.1 rfl (Nat.le_of_ble_eq_true rfl) dX4_run_28 ⟨Nat.le_of_ble_eq_true rfl, Nat.le_of_ble_eq_true rfl⟩) (fun v28 e28 => ?_)
    refine lv_istore_n (lv' := [(3, .int v28), (2, .int (nI 0)), (0, .ref (b 0)), (1, .int (nI E0))]) hx hb dX4_run_31 rfl hl (by decide) rfl (fun ls hl => ?_)
    refine lpW (K := K) (A := A) (H0 := s.heap) (α := Nat × Int32 × (Nat → Int64) × Int64 × Nat × (Nat → Int32) × Nat × (Nat → Int32)) (fun (x9 : Nat × Int32 × (Nat → Int64) × Int64 × Nat × (Nat → Int32) × Nat × (Nat → Int32)) => (∃ j, runR E0 j (x9.2.2.2.1, (kn, fn), (x9.2.2.2.2.1, x9.2.2.2.2.2.1), (x9.2.2.2.2.2.2.1, x9.2.2.2.2.2.2.2)) B) ∧ x9.2.2.2.2.1 = kr + x9.1 ∧ SI (x9.2.2.2.1, (kn, fn), (x9.2.2.2.2.1, x9.2.2.2.2.2.1), (x9.2.2.2.2.2.2.1, x9.2.2.2.2.2.2.2)) ∧ Cp x9.2.2.1 (x9.2.2.2.1, (kn, fn), (x9.2.2.2.2.1, x9.2.2.2.2.2.1), (x9.2.2.2.2.2.2.1, x9.2.2.2.2.2.2.2)) ∧ ((x9.2.1 = -1 ∧ ∀ k, k < x9.2.2.2.2.2.2.1 → rnk x9.2.2.1 x9.2.2.2.2.2.2.1 k ≠ 0) ∨ ∃ k, k < x9.2.2.2.2.2.2.1 ∧ x9.2.1 = nI k ∧ rnk x9.2.2.1 x9.2.2.2.2.2.2.1 k = 0)) (fun (x9 : Nat × Int32 × (Nat → Int64) × Int64 × Nat × (Nat → Int32) × Nat × (Nat → Int32)) => x9.2.2.2.2.2.2.1) (fun (x9 : Nat × Int32 × (Nat → Int64) × Int64 × Nat × (Nat → Int32) × Nat × (Nat → Int32)) => [(0, .ref (b 0)), (1, .int (nI E0)), (2, .int (nI x9.1)), (3, .int x9.2.1)]) (fun (x9 : Nat × Int32 × (Nat → Int64) × Int64 × Nat × (Nat → Int32) × Nat × (Nat → Int32)) => [(b 0, .inr (6, [.ref (b 1), .ref (b 2), .int (nI sm21), .int u12])), (b 1, .inl (K.2.2.1, 460, .inr (.inl (x9.2.2.1)))), (b 2, .inl (K.2.2.1, 1840, .inr (.inl (sv21))))]) 7 32 (fun x9 hI32 ih32 ls H locs hl hP hD hS => ?_) (0, v28, al, t, kr, fr, kp, fp) (⟨hB1, rfl, hSI, hC, e28⟩) ls _ _ (lv_sub hl [2, 3, 1, 0] rfl) hP hD hS
    obtain ⟨n9, w3, al1, t1, kr1, fr1, kp1, fp1⟩ := x9
    have hI32 : (∃ j, runR E0 j (t1, (kn, fn), (kr1, fr1), (kp1, fp1)) B) ∧ kr1 = kr + n9 ∧ SI (t1, (kn, fn), (kr1, fr1), (kp1, fp1)) ∧ Cp al1 (t1, (kn, fn), (kr1, fr1), (kp1, fp1)) ∧ ((w3 = -1 ∧ ∀ k, k < kp1 → rnk al1 kp1 k ≠ 0) ∨ ∃ k, k < kp1 ∧ w3 = nI k ∧ rnk al1 kp1 k = 0) := hI32
    have hl : lv_has ls 7 [(0, .ref (b 0)), (1, .int (nI E0)), (2, .int (nI n9)), (3, .int w3)] := hl
    have hP : va_P K.1 vwCl [(b 0, .inr (6, [.ref (b 1), .ref (b 2), .int (nI sm21), .int u12])), (b 1, .inl (K.2.2.1, 460, .inr (.inl (al1)))), (b 2, .inl (K.2.2.1, 1840, .inr (.inl (sv21))))] H := hP
    have hD : va_D A [(b 0, .inr (6, [.ref (b 1), .ref (b 2), .int (nI sm21), .int u12])), (b 1, .inl (K.2.2.1, 460, .inr (.inl (al1)))), (b 2, .inl (K.2.2.1, 1840, .inr (.inl (sv21))))] := hD
    refine lv_iload_n hx hb dX4_run_32 rfl (lv_at hl 3 rfl) ?_
    refine lv_iconst (v := -1) hx hb dX4_run_33 (by decide) ?_
    refine lv_icmp_eq (tgt := 174) hx hb dX4_run_34 (by decide) (fun c34 => ?_) (fun c34 => ?_)
    · have hSY : SI (t1, (kn, fn), (kr1, fr1), (kp1, fp1)) := hI32.2.2.1
      have hCY : Cp al1 (t1, (kn, fn), (kr1, fr1), (kp1, fp1)) := hI32.2.2.2.1
      have h01 : al1 0 = t1 := hCY.1
      have y1 : kr1 ≤ 40 := hSY.2.1
      have y3 : 0 ≤ t1.toInt ∧ t1.toInt ≤ 900000000 + 1000000 * (kr1 : Int) := hSY.2.2.2.1
      have hno : ¬ canStep E0 (t1, (kn, fn), (kr1, fr1), (kp1, fp1)) := fun g => by
        have g1 : 0 < kp1 := g.1
        have y2 : kp1 ≤ 20 := hSY.2.2.1
        rcases hI32.2.2.2.2 with ⟨-, h⟩ | ⟨k, hk, h, -⟩
        · obtain ⟨i, hi, hr⟩ := rnk_onto (al := al1) (n := kp1) (y := 0) g1
          exact h i hi hr
        · have g2 := congrArg Int32.toInt (h.symm.trans c34)
          rw [nI_toInt (by omega)] at g2
          have g3 : (-1 : Int32).toInt = -1 := by decide
          omega
      have hYB : B = (t1, (kn, fn), (kr1, fr1), (kp1, fp1)) := by
        obtain ⟨j, hj⟩ := hI32.1
        cases j with
        | zero => exact hj
        | succ j => obtain ⟨z, z1, -⟩ := hj; exact absurd z1 hno
      refine lv_aload_n hx hb dX4_run_174 rfl (lv_at hl 0 rfl) ?_
      refine va_get (D := K.1) (ci := 6) (v := .ref (b 1)) (C := RX4) (T := TX4) (N := 4) hx hb hts inX4 hown hE.1 hP 0 rfl rfl 0 (by decide) (hts _ kf_X4_7) (fun _ h9 => h9) rfl dX4_run_175 ?_
      refine lv_iconst (v := nI 0) hx hb dX4_run_178 (by decide) ?_
      refine lv_aload_n hx hb dX4_run_179 rfl (lv_at hl 0 rfl) ?_
      refine va_get (D := K.1) (ci := 6) (v := .ref (b 1)) (C := RX4) (T := TX4) (N := 4) hx hb hts inX4 hown hE.1 hP 0 rfl rfl 0 (by decide) (hts _ kf_X4_7) (fun _ h9 => h9) rfl dX4_run_180 ?_
      refine lv_iconst (v := nI 0) hx hb dX4_run_183 (by decide) ?_
      have i184 : nI 0 = nI 0 := rfl
      have j184 : 0 < 460 := by omega
      refine va_lald hx hb hE.1 hP 1 1 rfl rfl (by rw [i184]; exact vp_in_nI j184 (by omega)) dX4_run_184 ?_
      rw [i184, nI_clamp (by omega)]
      refine lv_topl (fun v184 e184 => ?_)
      rw [e184, h01]
      refine lv_iload_n hx hb dX4_run_185 rfl (lv_at hl 1 rfl) ?_
      refine lv_i2l hx hb dX4_run_186 (nI_l (by omega)) ?_
      refine W.lcmp hx hb dX4_run_187 ?_
      refine lv_if_ge (tgt := 196) hx hb dX4_run_188 (by decide) (fun c188 => ?_) (fun c188 => ?_)
      · have c188 := (lg_cmp_ge _ _).mp c188
        refine lv_aload_n hx hb dX4_run_196 rfl (lv_at hl 0 rfl) ?_
        refine va_get (D := K.1) (ci := 6) (v := .ref (b 1)) (C := RX4) (T := TX4) (N := 4) hx hb hts inX4 hown hE.1 hP 0 rfl rfl 0 (by decide) (hts _ kf_X4_7) (fun _ h9 => h9) rfl dX4_run_197 ?_
        refine lv_iconst (v := nI 0) hx hb dX4_run_200 (by decide) ?_
        have i201 : nI 0 = nI 0 := rfl
        have j201 : 0 < 460 := by omega
        refine va_lald hx hb hE.1 hP 1 1 rfl rfl (by rw [i201]; exact vp_in_nI j201 (by omega)) dX4_run_201 ?_
        rw [i201, nI_clamp (by omega)]
        refine lv_topl (fun v201 e201 => ?_)
        rw [e201, h01]
        have i202 : nI 0 = nI 0 := rfl
        have j202 : 0 < 460 := by omega
        refine va_last hx hb hE.1 hP hD hS 1 1 rfl rfl (by rw [i202]; exact vp_in_nI j202 (by omega)) dX4_run_202 (fun H locs hP hD hS => ?_)
        rw [i202, nI_clamp (by omega)] at hP hD
        have hP : va_P K.1 vwCl [(b 0, .inr (6, [.ref (b 1), .ref (b 2), .int (nI sm21), .int u12])), (b 1, .inl (K.2.2.1, 460, .inr (.inl (vp_updL al1 0 t1)))), (b 2, .inl (K.2.2.1, 1840, .inr (.inl (sv21))))] H := hP
        have hD : va_D A [(b 0, .inr (6, [.ref (b 1), .ref (b 2), .int (nI sm21), .int u12])), (b 1, .inl (K.2.2.1, 460, .inr (.inl (vp_updL al1 0 t1)))), (b 2, .inl (K.2.2.1, 1840, .inr (.inl (sv21))))] := hD
        refine lv_iload_n hx hb dX4_run_203 rfl (lv_at hl 2 rfl) ?_
        exact fI (v := nI n9) ((u12, vp_updL al1 0 t1, sv21, sm21)) hx hb hr hlocks hAe hP hD hS [0, 1, 2] (by decide) rfl (⟨g12, fun q => absurd (g12.ok c15) q, fun _ => ⟨e21, ⟨n9, rfl, by rw [hYB]; exact hI32.2.1, by rw [ix_nI (by omega)]; exact fun U hu1 hu2 => time_cp hCY s1 (by rw [hu1, hYB]) (eqL (by rw [hu2, hYB]; have k9 := leL.mp c188; rw [lN_T (by omega)] at k9; dsimp only; omega))⟩⟩⟩) dX4_run_204
      · have c188 := fun q => c188 ((lg_cmp_ge _ _).mpr q)
        refine lv_iload_n hx hb dX4_run_191 rfl (lv_at hl 1 rfl) ?_
        refine lv_i2l hx hb dX4_run_192 (nI_l (by omega)) ?_
        refine lv_goto (tgt := 202) hx hb dX4_run_193 (by decide) ?_
        have i202 : nI 0 = nI 0 := rfl
        have j202 : 0 < 460 := by omega
        refine va_last hx hb hE.1 hP hD hS 1 1 rfl rfl (by rw [i202]; exact vp_in_nI j202 (by omega)) dX4_run_202 (fun H locs hP hD hS => ?_)
        rw [i202, nI_clamp (by omega)] at hP hD
        have hP : va_P K.1 vwCl [(b 0, .inr (6, [.ref (b 1), .ref (b 2), .int (nI sm21), .int u12])), (b 1, .inl (K.2.2.1, 460, .inr (.inl (vp_updL al1 0 (lN E0))))), (b 2, .inl (K.2.2.1, 1840, .inr (.inl (sv21))))] H := hP
        have hD : va_D A [(b 0, .inr (6, [.ref (b 1), .ref (b 2), .int (nI sm21), .int u12])), (b 1, .inl (K.2.2.1, 460, .inr (.inl (vp_updL al1 0 (lN E0))))), (b 2, .inl (K.2.2.1, 1840, .inr (.inl (sv21))))] := hD
        refine lv_iload_n hx hb dX4_run_203 rfl (lv_at hl 2 rfl) ?_
        exact fI (v := nI n9) ((u12, vp_updL al1 0 (lN E0), sv21, sm21)) hx hb hr hlocks hAe hP hD hS [0, 1, 2] (by decide) rfl (⟨g12, fun q => absurd (g12.ok c15) q, fun _ => ⟨e21, ⟨n9, rfl, by rw [hYB]; exact hI32.2.1, by rw [ix_nI (by omega)]; exact fun U hu1 hu2 => time_cp hCY s1 (by rw [hu1, hYB]) (eqL (by rw [lN_T (by omega), hu2, hYB]; have k9 := mt leL.mpr c188; rw [lN_T (by omega)] at k9; dsimp only; omega))⟩⟩⟩) dX4_run_204
    · obtain ⟨k9, hk9, rfl, hr9⟩ := hI32.2.2.2.2.resolve_left (fun g => c34 g.1)
      have hP : va_P K.1 vwCl [(b 0, .inr (6, [.ref (b 1), .ref (b 2), .int (nI sm21), .int u12])), (b 1, .inl (K.2.2.1, 460, .inr (.inl (al1)))), (b 2, .inl (K.2.2.1, 1840, .inr (.inl (sv21))))] H := hP
      have hD : va_D A [(b 0, .inr (6, [.ref (b 1), .ref (b 2), .int (nI sm21), .int u12])), (b 1, .inl (K.2.2.1, 460, .inr (.inl (al1)))), (b 2, .inl (K.2.2.1, 1840, .inr (.inl (sv21))))] := hD
      have hl : lv_has ls 7 [(0, .ref (b 0)), (1, .int (nI E0)), (2, .int (nI n9)), (3, .int (nI k9))] := hl
      have hSY : SI (t1, (kn, fn), (kr1, fr1), (kp1, fp1)) := hI32.2.2.1
      have hCY : Cp al1 (t1, (kn, fn), (kr1, fr1), (kp1, fp1)) := hI32.2.2.2.1
      have y1 : kr1 ≤ 40 := hSY.2.1
      have y2 : kp1 ≤ 20 := hSY.2.2.1
      have y3 : 0 ≤ t1.toInt ∧ t1.toInt ≤ 900000000 + 1000000 * (kr1 : Int) := hSY.2.2.2.1
      have hp := hSY.2.2.2.2.2.2.1 0 (show 0 < kp1 by omega)
      have hp : pOk kn fp1 0 := hp
      have p9 := hp.2
      have hh : ∀ c, c < 5 → al1 (360 + 5 * k9 + c) = lN (pn fp1 0 c) := fun c hc => by
        have h := hCY.2.2.2.2.2.2 k9 hk9 c hc
        dsimp only at h
        rw [h, hr9, hp.1 c hc]
        exact nI_l (by rcases (show c = 0 ∨ c = 1 ∨ c = 2 ∨ c = 3 ∨ c = 4 by omega) with rfl | rfl | rfl | rfl | rfl <;> omega)
      have hN1 : NodC al1 kn fn := hCY.2.2.1
      have h381 : al1 38 = lN kr1 := hCY.2.2.2.1
      have hR1 : RecC al1 kr1 fr1 := hCY.2.2.2.2.1
      have h01 : al1 0 = t1 := hCY.1
      refine lv_aload_n hx hb dX4_run_37 rfl (lv_at hl 0 rfl) ?_
      refine va_get (D := K.1) (ci := 6) (v := .ref (b 1)) (C := RX4) (T := TX4) (N := 4) hx hb hts inX4 hown hE.1 hP 0 rfl rfl 0 (by decide) (hts _ kf_X4_7) (fun _ h9 => h9) rfl dX4_run_38 ?_
      refine lv_sipush (v := nI 360) hx hb dX4_run_41 (by decide) ?_
      refine lv_iconst (v := nI 5) hx hb dX4_run_44 (by decide) ?_
      refine lv_iload_n hx hb dX4_run_45 rfl (lv_at hl 3 rfl) ?_
      refine lv_imul hx hb dX4_run_46 ?_
      rw [pk_mul 5 k9]
      refine lv_iadd hx hb dX4_run_47 ?_
      rw [nI_add 360 (5 * k9)]
      have i48 : nI (360 + 5 * k9) = nI (360 + 5 * k9) := rfl
      have j48 : 360 + 5 * k9 < 460 := by omega
      refine va_lald hx hb hE.1 hP 1 1 rfl rfl (by rw [i48]; exact vp_in_nI j48 (by omega)) dX4_run_48 ?_
      rw [i48, nI_clamp (by omega)]
      refine lv_topl (fun v48 e48 => ?_)
      rw [e48, show al1 (360 + 5 * k9) = _ from hh 0 (by decide)]
      refine lv_iload_n hx hb dX4_run_49 rfl (lv_at hl 1 rfl) ?_
      refine lv_i2l hx hb dX4_run_50 (nI_l (by omega)) ?_
      refine W.lcmp hx hb dX4_run_51 ?_
      refine lv_if_gt (tgt := 174) hx hb dX4_run_52 (by decide) (fun c52 => ?_) (fun c52 => ?_)
      · have c52 := (lg_cmp_gt _ _).mp c52
        have c52 := (pk_lLT (a := E0) (b := pn fp1 0 0) (by omega) (by omega)).mp c52
        have hno : ¬ canStep E0 (t1, (kn, fn), (kr1, fr1), (kp1, fp1)) := fun g => by have g1 := g.2; dsimp only at g1; omega
        have hYB : B = (t1, (kn, fn), (kr1, fr1), (kp1, fp1)) := by
          obtain ⟨j, hj⟩ := hI32.1
          cases j with
          | zero => exact hj
          | succ j => obtain ⟨z, z1, -⟩ := hj; exact absurd z1 hno
        refine lv_aload_n hx hb dX4_run_174 rfl (lv_at hl 0 rfl) ?_
        refine va_get (D := K.1) (ci := 6) (v := .ref (b 1)) (C := RX4) (T := TX4) (N := 4) hx hb hts inX4 hown hE.1 hP 0 rfl rfl 0 (by decide) (hts _ kf_X4_7) (fun _ h9 => h9) rfl dX4_run_175 ?_
        refine lv_iconst (v := nI 0) hx hb dX4_run_178 (by decide) ?_
        refine lv_aload_n hx hb dX4_run_179 rfl (lv_at hl 0 rfl) ?_
        refine va_get (D := K.1) (ci := 6) (v := .ref (b 1)) (C := RX4) (T := TX4) (N := 4) hx hb hts inX4 hown hE.1 hP 0 rfl rfl 0 (by decide) (hts _ kf_X4_7) (fun _ h9 => h9) rfl dX4_run_180 ?_
        refine lv_iconst (v := nI 0) hx hb dX4_run_183 (by decide) ?_
        have i184 : nI 0 = nI 0 := rfl
        have j184 : 0 < 460 := by omega
        refine va_lald hx hb hE.1 hP 1 1 rfl rfl (by rw [i184]; exact vp_in_nI j184 (by omega)) dX4_run_184 ?_
        rw [i184, nI_clamp (by omega)]
        refine lv_topl (fun v184 e184 => ?_)
        rw [e184, h01]
        refine lv_iload_n hx hb dX4_run_185 rfl (lv_at hl 1 rfl) ?_
        refine lv_i2l hx hb dX4_run_186 (nI_l (by omega)) ?_
        refine W.lcmp hx hb dX4_run_187 ?_
        refine lv_if_ge (tgt := 196) hx hb dX4_run_188 (by decide) (fun c188 => ?_) (fun c188 => ?_)
        · have c188 := (lg_cmp_ge _ _).mp c188
          refine lv_aload_n hx hb dX4_run_196 rfl (lv_at hl 0 rfl) ?_
          refine va_get (D := K.1) (ci := 6) (v := .ref (b 1)) (C := RX4) (T := TX4) (N := 4) hx hb hts inX4 hown hE.1 hP 0 rfl rfl 0 (by decide) (hts _ kf_X4_7) (fun _ h9 => h9) rfl dX4_run_197 ?_
          refine lv_iconst (v := nI 0) hx hb dX4_run_200 (by decide) ?_
          have i201 : nI 0 = nI 0 := rfl
          have j201 : 0 < 460 := by omega
          refine va_lald hx hb hE.1 hP 1 1 rfl rfl (by rw [i201]; exact vp_in_nI j201 (by omega)) dX4_run_201 ?_
          rw [i201, nI_clamp (by omega)]
          refine lv_topl (fun v201 e201 => ?_)
          rw [e201, h01]
          have i202 : nI 0 = nI 0 := rfl
          have j202 : 0 < 460 := by omega
          refine va_last hx hb hE.1 hP hD hS 1 1 rfl rfl (by rw [i202]; exact vp_in_nI j202 (by omega)) dX4_run_202 (fun H locs hP hD hS => ?_)
          rw [i202, nI_clamp (by omega)] at hP hD
          have hP : va_P K.1 vwCl [(b 0, .inr (6, [.ref (b 1), .ref (b 2), .int (nI sm21), .int u12])), (b 1, .inl (K.2.2.1, 460, .inr (.inl (vp_updL al1 0 t1)))), (b 2, .inl (K.2.2.1, 1840, .inr (.inl (sv21))))] H := hP
          have hD : va_D A [(b 0, .inr (6, [.ref (b 1), .ref (b 2), .int (nI sm21), .int u12])), (b 1, .inl (K.2.2.1, 460, .inr (.inl (vp_updL al1 0 t1)))), (b 2, .inl (K.2.2.1, 1840, .inr (.inl (sv21))))] := hD
          refine lv_iload_n hx hb dX4_run_203 rfl (lv_at hl 2 rfl) ?_
          exact fI (v := nI n9) ((u12, vp_updL al1 0 t1, sv21, sm21)) hx hb hr hlocks hAe hP hD hS [0, 1, 2] (by decide) rfl (⟨g12, fun q => absurd (g12.ok c15) q, fun _ => ⟨e21, ⟨n9, rfl, by rw [hYB]; exact hI32.2.1, by rw [ix_nI (by omega)]; exact fun U hu1 hu2 => time_cp hCY s1 (by rw [hu1, hYB]) (eqL (by rw [hu2, hYB]; have k9 := leL.mp c188; rw [lN_T (by omega)] at k9; dsimp only; omega))⟩⟩⟩) dX4_run_204
        · have c188 := fun q => c188 ((lg_cmp_ge _ _).mpr q)
          refine lv_iload_n hx hb dX4_run_191 rfl (lv_at hl 1 rfl) ?_
          refine lv_i2l hx hb dX4_run_192 (nI_l (by omega)) ?_
          refine lv_goto (tgt := 202) hx hb dX4_run_193 (by decide) ?_
          have i202 : nI 0 = nI 0 := rfl
          have j202 : 0 < 460 := by omega
          refine va_last hx hb hE.1 hP hD hS 1 1 rfl rfl (by rw [i202]; exact vp_in_nI j202 (by omega)) dX4_run_202 (fun H locs hP hD hS => ?_)
          rw [i202, nI_clamp (by omega)] at hP hD
          have hP : va_P K.1 vwCl [(b 0, .inr (6, [.ref (b 1), .ref (b 2), .int (nI sm21), .int u12])), (b 1, .inl (K.2.2.1, 460, .inr (.inl (vp_updL al1 0 (lN E0))))), (b 2, .inl (K.2.2.1, 1840, .inr (.inl (sv21))))] H := hP
          have hD : va_D A [(b 0, .inr (6, [.ref (b 1), .ref (b 2), .int (nI sm21), .int u12])), (b 1, .inl (K.2.2.1, 460, .inr (.inl (vp_updL al1 0 (lN E0))))), (b 2, .inl (K.2.2.1, 1840, .inr (.inl (sv21))))] := hD
          refine lv_iload_n hx hb dX4_run_203 rfl (lv_at hl 2 rfl) ?_
          exact fI (v := nI n9) ((u12, vp_updL al1 0 (lN E0), sv21, sm21)) hx hb hr hlocks hAe hP hD hS [0, 1, 2] (by decide) rfl (⟨g12, fun q => absurd (g12.ok c15) q, fun _ => ⟨e21, ⟨n9, rfl, by rw [hYB]; exact hI32.2.1, by rw [ix_nI (by omega)]; exact fun U hu1 hu2 => time_cp hCY s1 (by rw [hu1, hYB]) (eqL (by rw [lN_T (by omega), hu2, hYB]; have k9 := mt leL.mpr c188; rw [lN_T (by omega)] at k9; dsimp only; omega))⟩⟩⟩) dX4_run_204
      · have c52 := fun q => c52 ((lg_cmp_gt _ _).mpr q)
        have c52 := mt (pk_lLT (a := E0) (b := pn fp1 0 0) (by omega) (by omega)).mpr c52
        have hcs : canStep E0 (t1, (kn, fn), (kr1, fr1), (kp1, fp1)) := ⟨by dsimp only; omega, by dsimp only; omega⟩
        obtain ⟨j9, hj9⟩ := hI32.1
        rcases j9 with _ | j9
        · exact absurd (show canStep E0 B from hj9 ▸ hcs) hB2
        obtain ⟨⟨t3, ⟨kn3, fn3⟩, ⟨kr3, fr3⟩, ⟨kp3, fp3⟩⟩, z1, z2, z3⟩ := hj9
        have z4 := z2.1
        dsimp only at z4
        cases z4
        have z5 := z2.2.1
        dsimp only at z5
        subst z5
        have h3591 : al1 359 = lN (kp3 + 1) := hCY.2.2.2.2.2.1
        have hP : va_P K.1 vwCl [(b 0, .inr (6, [.ref (b 1), .ref (b 2), .int (nI sm21), .int u12])), (b 1, .inl (K.2.2.1, 460, .inr (.inl (al1)))), (b 2, .inl (K.2.2.1, 1840, .inr (.inl (sv21))))] H := hP
        have hD : va_D A [(b 0, .inr (6, [.ref (b 1), .ref (b 2), .int (nI sm21), .int u12])), (b 1, .inl (K.2.2.1, 460, .inr (.inl (al1)))), (b 2, .inl (K.2.2.1, 1840, .inr (.inl (sv21))))] := hD
        have hl : lv_has ls 7 [(0, .ref (b 0)), (1, .int (nI E0)), (2, .int (nI n9)), (3, .int (nI k9))] := hl
        have hSZ : SI (t3, (kn, fn), (kr3, fr3), (kp3, fp3)) := stepR_SI hSY z1 z2
        refine lv_sipush (v := nI 360) hx hb dX4_run_55 (by decide) ?_
        refine lv_iconst (v := nI 5) hx hb dX4_run_58 (by decide) ?_
        refine lv_iload_n hx hb dX4_run_59 rfl (lv_at hl 3 rfl) ?_
        refine lv_imul hx hb dX4_run_60 ?_
        rw [pk_mul 5 k9]
        refine lv_iadd hx hb dX4_run_61 ?_
        rw [nI_add 360 (5 * k9)]
        refine lv_istore (lv' := [(4, .int (nI (360 + 5 * k9))), (0, .ref (b 0)), (1, .int (nI E0)), (2, .int (nI n9)), (3, .int (nI k9))]) hx hb dX4_run_62 hl (by decide) rfl (fun ls hl => ?_)
        refine jnL (P := fun jv => jv.toInt = max t1.toInt (pn fp1 0 0 : Nat)) 97 [] (fun j97 k97 => ?_) (fun hJ97 => ?_)
        · refine lv_lstore (lv' := [(5, .long j97), (4, .int (nI (360 + 5 * k9))), (0, .ref (b 0)), (1, .int (nI E0)), (2, .int (nI n9)), (3, .int (nI k9))]) hx hb dX4_run_97 hl (by decide) rfl (fun ls hl => ?_)
          refine lv_aload_n hx hb dX4_run_99 rfl (lv_at hl 2 rfl) ?_
          refine va_get (D := K.1) (ci := 6) (v := .ref (b 1)) (C := RX4) (T := TX4) (N := 4) hx hb hts inX4 hown hE.1 hP 0 rfl rfl 0 (by decide) (hts _ kf_X4_7) (fun _ h9 => h9) rfl dX4_run_100 ?_
          refine lv_bipush (v := nI 38) hx hb dX4_run_103 (by decide) ?_
          have i105 : nI 38 = nI 38 := rfl
          have j105 : 38 < 460 := by omega
          refine va_lald hx hb hE.1 hP 1 1 rfl rfl (by rw [i105]; exact vp_in_nI j105 (by omega)) dX4_run_105 ?_
          rw [i105, nI_clamp (by omega)]
          refine lv_topl (fun v105 e105 => ?_)
          rw [e105, h381]
          refine lv_ldc2 (v := lN 40) hx hb hown (hts _ kw_X4_86) dX4_run_106 ?_
          refine W.lcmp hx hb dX4_run_109 ?_
          refine lv_if_ge (tgt := 160) hx hb dX4_run_110 (by decide) (fun c110 => ?_) (fun c110 => ?_)
          · have c110 := (lg_cmp_ge _ _).mp c110
            have c110 := (pk_lLE (a := 40) (b := kr1) (by omega) (by omega)).mp c110
            refine lv_aload_n hx hb dX4_run_160 rfl (lv_at hl 2 rfl) ?_
            refine lv_iload_n hx hb dX4_run_161 rfl (lv_at hl 5 rfl) ?_
            refine woV (wrV (As := [.int (nI k9)]) (rest := []) (m_removes l K b (nI sm21) u12 al1 k9 kp3 (by omega) (by omega) h3591 _) ⟨hx, hb, hml, hown, hts⟩ (gV kl_X4_100 ki_X4_removes ks_X4_removes kn_X4 kc_X4_removes) (by show okN yX4_removes 1; decide +kernel) ⟨⟨Nat.le_of_ble_eq_true rfl, Nat.le_of_ble_eq_true rfl⟩, ⟨rfl, rfl⟩, Nat.le_of_ble_eq_true rfl, Nat.le_of_ble_eq_true rfl⟩ hE hP hD [0, 1] (by decide) rfl ⟨0, 6, _, _, rfl, rfl, rfl⟩ hl.1 rfl (Nat.le_of_ble_eq_true rfl) dX4_run_162) hP hD hS hA [(b 2, .inl (K.2.2.1, 1840, .inr (.inl (sv21))))] (fun u => [(b 0, .inr (6, [.ref (b 1), .ref (b 2), .int (nI sm21), .int u12])), (b 1, .inl (K.2.2.1, 460, .inr (.inl (u)))), (b 2, .inl (K.2.2.1, 1840, .inr (.inl (sv21))))]) [0, 1] [2] [1, 2, 0] ⟨rfl, rfl, by decide, by decide, by decide, fun _ => rfl⟩ (fun u162 H locs e162 hP hD hS => ?_)
            have hP : va_P K.1 vwCl [(b 0, .inr (6, [.ref (b 1), .ref (b 2), .int (nI sm21), .int u12])), (b 1, .inl (K.2.2.1, 460, .inr (.inl (u162)))), (b 2, .inl (K.2.2.1, 1840, .inr (.inl (sv21))))] H := hP
            have hD : va_D A [(b 0, .inr (6, [.ref (b 1), .ref (b 2), .int (nI sm21), .int u12])), (b 1, .inl (K.2.2.1, 460, .inr (.inl (u162)))), (b 2, .inl (K.2.2.1, 1840, .inr (.inl (sv21))))] := hD
            have h359u : u162 359 = lN kp3 := e162.2.2.2
            have hCZ : Cp u162 (t3, (kn, fn), (kr3, fr3), (kp3, fp3)) := step_cp (r := k9) hCY hSY z2 hk9 hr9 (Or.inr ⟨by dsimp only; omega, rfl⟩) e162.1 e162.2.1 e162.2.2.1 e162.2.2.2
            refine lv_aload_n hx hb dX4_run_165 rfl (lv_at hl 2 rfl) ?_
            refine lv_iconst (v := nI 0) hx hb dX4_run_166 (by decide) ?_
            refine goI (rdV (As := [.int (nI 0)]) (rest := []) (m_waiting l K b (nI sm21) u12 u162 kp3 0 (by omega) h359u (by omega)) ⟨hx, hb, hml, hown, hts⟩ (gV kl_X4_96 ki_X4_waiting ks_X4_waiting kn_X4 kc_X4_waiting) (by show okN yX4_waiting 1; decide +kernel) ⟨⟨Nat.le_of_ble_eq_true rfl, Nat.le_of_ble_eq_true rfl⟩, rfl, rfl⟩ hE hP [0, 1] rfl ⟨0, 6, _, _, rfl, rfl, rfl⟩ hl.1 rfl (Nat.le_of_ble_eq_true rfl) dX4_run_167 ⟨Nat.le_of_ble_eq_true rfl, Nat.le_of_ble_eq_true rfl⟩) (fun v167 e167 => ?_)
            refine lv_istore_n (lv' := [(3, .int v167), (5, .long j97), (4, .int (nI (360 + 5 * k9))), (0, .ref (b 0)), (1, .int (nI E0)), (2, .int (nI n9))]) hx hb dX4_run_170 rfl hl (by decide) rfl (fun ls hl => ?_)
            refine lv_goto (tgt := 32) hx hb dX4_run_171 (by decide) ?_
            have hB32 : (∃ j, runR E0 j (t3, (kn, fn), (kr3, fr3), (kp3, fp3)) B) ∧ kr3 = kr + n9 ∧ SI (t3, (kn, fn), (kr3, fr3), (kp3, fp3)) ∧ Cp u162 (t3, (kn, fn), (kr3, fr3), (kp3, fp3)) ∧ ((v167 = -1 ∧ ∀ k, k < kp3 → rnk u162 kp3 k ≠ 0) ∨ ∃ k, k < kp3 ∧ v167 = nI k ∧ rnk u162 kp3 k = 0) := ⟨⟨j9, z3⟩, by rcases z2.2.2.2 with ⟨q1, q2, -⟩ | ⟨q1, q2, -⟩; dsimp only at q1 q2; omega; dsimp only at q1 q2; have q3 := congrArg Prod.fst q2; dsimp only at q3; omega, hSZ, hCZ, e167⟩
            exact ih32 (n9, v167, u162, t3, kr3, fr3, kp3, fp3) (hB32) (Nat.lt_succ_self kp3) ls H locs (lv_sub hl [3, 4, 5, 0] rfl) hP hD hS
          · have c110 := fun q => c110 ((lg_cmp_ge _ _).mpr q)
            have c110 := mt (pk_lLE (a := 40) (b := kr1) (by omega) (by omega)).mpr c110
            refine lv_aload_n hx hb dX4_run_113 rfl (lv_at hl 2 rfl) ?_
            refine lv_lload hx hb dX4_run_114 (lv_at hl 0 rfl) ?_
            refine lv_aload_n hx hb dX4_run_116 rfl (lv_at hl 2 rfl) ?_
            refine va_get (D := K.1) (ci := 6) (v := .ref (b 1)) (C := RX4) (T := TX4) (N := 4) hx hb hts inX4 hown hE.1 hP 0 rfl rfl 0 (by decide) (hts _ kf_X4_7) (fun _ h9 => h9) rfl dX4_run_117 ?_
            refine lv_iload hx hb dX4_run_120 (lv_at hl 1 rfl) ?_
            refine lv_iconst (v := nI 1) hx hb dX4_run_122 (by decide) ?_
            refine lv_iadd hx hb dX4_run_123 ?_
            rw [nI_add (360 + 5 * k9) 1]
            have i124 : nI (360 + 5 * k9 + 1) = nI (360 + 5 * k9 + 1) := rfl
            have j124 : 360 + 5 * k9 + 1 < 460 := by omega
            refine va_lald hx hb hE.1 hP 1 1 rfl rfl (by rw [i124]; exact vp_in_nI j124 (by omega)) dX4_run_124 ?_
            rw [i124, nI_clamp (by omega)]
            refine lv_topl (fun v124 e124 => ?_)
            rw [e124, hh 1 (by decide)]
            refine lv_l2i hx hb dX4_run_125 (l2iN (by omega)) ?_
            refine lv_aload_n hx hb dX4_run_126 rfl (lv_at hl 2 rfl) ?_
            refine va_get (D := K.1) (ci := 6) (v := .ref (b 1)) (C := RX4) (T := TX4) (N := 4) hx hb hts inX4 hown hE.1 hP 0 rfl rfl 0 (by decide) (hts _ kf_X4_7) (fun _ h9 => h9) rfl dX4_run_127 ?_
            refine lv_iload hx hb dX4_run_130 (lv_at hl 1 rfl) ?_
            refine lv_iconst (v := nI 2) hx hb dX4_run_132 (by decide) ?_
            refine lv_iadd hx hb dX4_run_133 ?_
            rw [nI_add (360 + 5 * k9) 2]
            have i134 : nI (360 + 5 * k9 + 2) = nI (360 + 5 * k9 + 2) := rfl
            have j134 : 360 + 5 * k9 + 2 < 460 := by omega
            refine va_lald hx hb hE.1 hP 1 1 rfl rfl (by rw [i134]; exact vp_in_nI j134 (by omega)) dX4_run_134 ?_
            rw [i134, nI_clamp (by omega)]
            refine lv_topl (fun v134 e134 => ?_)
            rw [e134, hh 2 (by decide)]
            refine lv_l2i hx hb dX4_run_135 (l2iN (by omega)) ?_
            refine lv_aload_n hx hb dX4_run_136 rfl (lv_at hl 2 rfl) ?_
            refine va_get (D := K.1) (ci := 6) (v := .ref (b 1)) (C := RX4) (T := TX4) (N := 4) hx hb hts inX4 hown hE.1 hP 0 rfl rfl 0 (by decide) (hts _ kf_X4_7) (fun _ h9 => h9) rfl dX4_run_137 ?_
            refine lv_iload hx hb dX4_run_140 (lv_at hl 1 rfl) ?_
            refine lv_iconst (v := nI 3) hx hb dX4_run_142 (by decide) ?_
            refine lv_iadd hx hb dX4_run_143 ?_
            rw [nI_add (360 + 5 * k9) 3]
            have i144 : nI (360 + 5 * k9 + 3) = nI (360 + 5 * k9 + 3) := rfl
            have j144 : 360 + 5 * k9 + 3 < 460 := by omega
            refine va_lald hx hb hE.1 hP 1 1 rfl rfl (by rw [i144]; exact vp_in_nI j144 (by omega)) dX4_run_144 ?_
            rw [i144, nI_clamp (by omega)]
            refine lv_topl (fun v144 e144 => ?_)
            rw [e144, hh 3 (by decide)]
            refine lv_aload_n hx hb dX4_run_145 rfl (lv_at hl 2 rfl) ?_
            refine va_get (D := K.1) (ci := 6) (v := .ref (b 1)) (C := RX4) (T := TX4) (N := 4) hx hb hts inX4 hown hE.1 hP 0 rfl rfl 0 (by decide) (hts _ kf_X4_7) (fun _ h9 => h9) rfl dX4_run_146 ?_
            refine lv_iload hx hb dX4_run_149 (lv_at hl 1 rfl) ?_
            refine lv_iconst (v := nI 4) hx hb dX4_run_151 (by decide) ?_
            refine lv_iadd hx hb dX4_run_152 ?_
            rw [nI_add (360 + 5 * k9) 4]
            have i153 : nI (360 + 5 * k9 + 4) = nI (360 + 5 * k9 + 4) := rfl
            have j153 : 360 + 5 * k9 + 4 < 460 := by omega
            refine va_lald hx hb hE.1 hP 1 1 rfl rfl (by rw [i153]; exact vp_in_nI j153 (by omega)) dX4_run_153 ?_
            rw [i153, nI_clamp (by omega)]
            refine lv_topl (fun v153 e153 => ?_)
            rw [e153, hh 4 (by decide)]
            refine woV (wrV (As := [.long j97, .int (nI (pn fp1 0 1)), .int (nI (pn fp1 0 2)), .long (lN (pn fp1 0 3)), .long (lN (pn fp1 0 4))]) (rest := []) (m_carriesOut l K b (nI sm21) u12 al1 kn fn h6 hN1 kr1 fr1 y1 hR1 hn h381 (by omega) (pn fp1 0 1) (pn fp1 0 2) (pn fp1 0 3) (pn fp1 0 4) j97 _ p9.2.1 p9.2.2.1 (by omega) (by omega) (by rw [k97]; omega)) ⟨hx, hb, hml, hown, hts⟩ (gV kl_X4_88 ki_X4_carriesOut ks_X4_carriesOut kn_X4 kc_X4_carriesOut) (by show okN yX4_carriesOut 5; decide +kernel) ⟨⟨Nat.le_of_ble_eq_true rfl, Nat.le_of_ble_eq_true rfl⟩, ⟨rfl, rfl⟩, Nat.le_of_ble_eq_true rfl, Nat.le_of_ble_eq_true rfl⟩ hE hP hD [0, 1] (by decide) rfl ⟨0, 6, _, _, rfl, rfl, rfl⟩ hl.1 rfl (Nat.le_of_ble_eq_true rfl) dX4_run_154) hP hD hS hA [(b 2, .inl (K.2.2.1, 1840, .inr (.inl (sv21))))] (fun u => [(b 0, .inr (6, [.ref (b 1), .ref (b 2), .int (nI sm21), .int u12])), (b 1, .inl (K.2.2.1, 460, .inr (.inl (u)))), (b 2, .inl (K.2.2.1, 1840, .inr (.inl (sv21))))]) [0, 1] [2] [1, 2, 0] ⟨rfl, rfl, by decide, by decide, by decide, fun _ => rfl⟩ (fun u154 H locs e154 hP hD hS => ?_)
            have hP : va_P K.1 vwCl [(b 0, .inr (6, [.ref (b 1), .ref (b 2), .int (nI sm21), .int u12])), (b 1, .inl (K.2.2.1, 460, .inr (.inl (u154)))), (b 2, .inl (K.2.2.1, 1840, .inr (.inl (sv21))))] H := hP
            have hD : va_D A [(b 0, .inr (6, [.ref (b 1), .ref (b 2), .int (nI sm21), .int u12])), (b 1, .inl (K.2.2.1, 460, .inr (.inl (u154)))), (b 2, .inl (K.2.2.1, 1840, .inr (.inl (sv21))))] := hD
            have h359w : u154 359 = lN (kp3 + 1) := (e154.2.2.1 359 (by decide)).trans h3591
            refine lv_iinc (v := nI (n9 + 1)) (lv' := [(2, .int (nI (n9 + 1))), (5, .long j97), (4, .int (nI (360 + 5 * k9))), (0, .ref (b 0)), (1, .int (nI E0)), (3, .int (nI k9))]) hx hb dX4_run_157 hl (k := 4) rfl (nI_add n9 1) (by decide) rfl (fun ls hl => ?_)
            refine lv_aload_n hx hb dX4_run_160 rfl (lv_at hl 3 rfl) ?_
            refine lv_iload_n hx hb dX4_run_161 rfl (lv_at hl 5 rfl) ?_
            refine woV (wrV (As := [.int (nI k9)]) (rest := []) (m_removes l K b (nI sm21) u12 u154 k9 kp3 (by omega) (by omega) h359w _) ⟨hx, hb, hml, hown, hts⟩ (gV kl_X4_100 ki_X4_removes ks_X4_removes kn_X4 kc_X4_removes) (by show okN yX4_removes 1; decide +kernel) ⟨⟨Nat.le_of_ble_eq_true rfl, Nat.le_of_ble_eq_true rfl⟩, ⟨rfl, rfl⟩, Nat.le_of_ble_eq_true rfl, Nat.le_of_ble_eq_true rfl⟩ hE hP hD [0, 1] (by decide) rfl ⟨0, 6, _, _, rfl, rfl, rfl⟩ hl.1 rfl (Nat.le_of_ble_eq_true rfl) dX4_run_162) hP hD hS hA [(b 2, .inl (K.2.2.1, 1840, .inr (.inl (sv21))))] (fun u => [(b 0, .inr (6, [.ref (b 1), .ref (b 2), .int (nI sm21), .int u12])), (b 1, .inl (K.2.2.1, 460, .inr (.inl (u)))), (b 2, .inl (K.2.2.1, 1840, .inr (.inl (sv21))))]) [0, 1] [2] [1, 2, 0] ⟨rfl, rfl, by decide, by decide, by decide, fun _ => rfl⟩ (fun u162 H locs e162 hP hD hS => ?_)
            have hP : va_P K.1 vwCl [(b 0, .inr (6, [.ref (b 1), .ref (b 2), .int (nI sm21), .int u12])), (b 1, .inl (K.2.2.1, 460, .inr (.inl (u162)))), (b 2, .inl (K.2.2.1, 1840, .inr (.inl (sv21))))] H := hP
            have hD : va_D A [(b 0, .inr (6, [.ref (b 1), .ref (b 2), .int (nI sm21), .int u12])), (b 1, .inl (K.2.2.1, 460, .inr (.inl (u162)))), (b 2, .inl (K.2.2.1, 1840, .inr (.inl (sv21))))] := hD
            have h359u : u162 359 = lN kp3 := e162.2.2.2
            have hCZ : Cp u162 (t3, (kn, fn), (kr3, fr3), (kp3, fp3)) := step_cp (r := k9) hCY hSY z2 hk9 hr9 (Or.inl ⟨by dsimp only; omega, by have e154 := e154; rw [k97] at e154; exact e154⟩) e162.1 e162.2.1 e162.2.2.1 e162.2.2.2
            refine lv_aload_n hx hb dX4_run_165 rfl (lv_at hl 3 rfl) ?_
            refine lv_iconst (v := nI 0) hx hb dX4_run_166 (by decide) ?_
            refine goI (rdV (As := [.int (nI 0)]) (rest := []) (m_waiting l K b (nI sm21) u12 u162 kp3 0 (by omega) h359u (by omega)) ⟨hx, hb, hml, hown, hts⟩ (gV kl_X4_96 ki_X4_waiting ks_X4_waiting kn_X4 kc_X4_waiting) (by show okN yX4_waiting 1; decide +kernel) ⟨⟨Nat.le_of_ble_eq_true rfl, Nat.le_of_ble_eq_true rfl⟩, rfl, rfl⟩ hE hP [0, 1] rfl ⟨0, 6, _, _, rfl, rfl, rfl⟩ hl.1 rfl (Nat.le_of_ble_eq_true rfl) dX4_run_167 ⟨Nat.le_of_ble_eq_true rfl, Nat.le_of_ble_eq_true rfl⟩) (fun v167 e167 => ?_)
            refine lv_istore_n (lv' := [(3, .int v167), (2, .int (nI (n9 + 1))), (5, .long j97), (4, .int (nI (360 + 5 * k9))), (0, .ref (b 0)), (1, .int (nI E0))]) hx hb dX4_run_170 rfl hl (by decide) rfl (fun ls hl => ?_)
            refine lv_goto (tgt := 32) hx hb dX4_run_171 (by decide) ?_
            have hB32 : (∃ j, runR E0 j (t3, (kn, fn), (kr3, fr3), (kp3, fp3)) B) ∧ kr3 = kr + (n9 + 1) ∧ SI (t3, (kn, fn), (kr3, fr3), (kp3, fp3)) ∧ Cp u162 (t3, (kn, fn), (kr3, fr3), (kp3, fp3)) ∧ ((v167 = -1 ∧ ∀ k, k < kp3 → rnk u162 kp3 k ≠ 0) ∨ ∃ k, k < kp3 ∧ v167 = nI k ∧ rnk u162 kp3 k = 0) := ⟨⟨j9, z3⟩, by rcases z2.2.2.2 with ⟨q1, q2, -⟩ | ⟨q1, q2, -⟩; dsimp only at q1 q2; omega; dsimp only at q1 q2; have q3 := congrArg Prod.fst q2; dsimp only at q3; omega, hSZ, hCZ, e167⟩
            exact ih32 (n9 + 1, v167, u162, t3, kr3, fr3, kp3, fp3) (hB32) (Nat.lt_succ_self kp3) ls H locs (lv_sub hl [4, 5, 1, 0] rfl) hP hD hS
        · refine lv_aload_n hx hb dX4_run_64 rfl (lv_at hl 1 rfl) ?_
          refine va_get (D := K.1) (ci := 6) (v := .ref (b 1)) (C := RX4) (T := TX4) (N := 4) hx hb hts inX4 hown hE.1 hP 0 rfl rfl 0 (by decide) (hts _ kf_X4_7) (fun _ h9 => h9) rfl dX4_run_65 ?_
          refine lv_iload hx hb dX4_run_68 (lv_at hl 0 rfl) ?_
          have i70 : nI (360 + 5 * k9) = nI (360 + 5 * k9) := rfl
          have j70 : 360 + 5 * k9 < 460 := by omega
          refine va_lald hx hb hE.1 hP 1 1 rfl rfl (by rw [i70]; exact vp_in_nI j70 (by omega)) dX4_run_70 ?_
          rw [i70, nI_clamp (by omega)]
          refine lv_topl (fun v70 e70 => ?_)
          rw [e70, show al1 (360 + 5 * k9) = _ from hh 0 (by decide)]
          refine lv_aload_n hx hb dX4_run_71 rfl (lv_at hl 1 rfl) ?_
          refine va_get (D := K.1) (ci := 6) (v := .ref (b 1)) (C := RX4) (T := TX4) (N := 4) hx hb hts inX4 hown hE.1 hP 0 rfl rfl 0 (by decide) (hts _ kf_X4_7) (fun _ h9 => h9) rfl dX4_run_72 ?_
          refine lv_iconst (v := nI 0) hx hb dX4_run_75 (by decide) ?_
          have i76 : nI 0 = nI 0 := rfl
          have j76 : 0 < 460 := by omega
          refine va_lald hx hb hE.1 hP 1 1 rfl rfl (by rw [i76]; exact vp_in_nI j76 (by omega)) dX4_run_76 ?_
          rw [i76, nI_clamp (by omega)]
          refine lv_topl (fun v76 e76 => ?_)
          rw [e76, h01]
          refine W.lcmp hx hb dX4_run_77 ?_
          refine lv_if_le (tgt := 91) hx hb dX4_run_78 (by decide) (fun c78 => ?_) (fun c78 => ?_)
          · have c78 := (lg_cmp_le _ _).mp c78
            refine lv_aload_n hx hb dX4_run_91 rfl (lv_at hl 1 rfl) ?_
            refine va_get (D := K.1) (ci := 6) (v := .ref (b 1)) (C := RX4) (T := TX4) (N := 4) hx hb hts inX4 hown hE.1 hP 0 rfl rfl 0 (by decide) (hts _ kf_X4_7) (fun _ h9 => h9) rfl dX4_run_92 ?_
            refine lv_iconst (v := nI 0) hx hb dX4_run_95 (by decide) ?_
            have i96 : nI 0 = nI 0 := rfl
            have j96 : 0 < 460 := by omega
            refine va_lald hx hb hE.1 hP 1 1 rfl rfl (by rw [i96]; exact vp_in_nI j96 (by omega)) dX4_run_96 ?_
            rw [i96, nI_clamp (by omega)]
            refine lv_topl (fun v96 e96 => ?_)
            rw [e96, h01]
            exact hJ97 t1 (by have k9 := leL.mp c78; rw [lN_T (by omega)] at k9; omega)
          · have c78 := fun q => c78 ((lg_cmp_le _ _).mpr q)
            refine lv_aload_n hx hb dX4_run_81 rfl (lv_at hl 1 rfl) ?_
            refine va_get (D := K.1) (ci := 6) (v := .ref (b 1)) (C := RX4) (T := TX4) (N := 4) hx hb hts inX4 hown hE.1 hP 0 rfl rfl 0 (by decide) (hts _ kf_X4_7) (fun _ h9 => h9) rfl dX4_run_82 ?_
            refine lv_iload hx hb dX4_run_85 (lv_at hl 0 rfl) ?_
            have i87 : nI (360 + 5 * k9) = nI (360 + 5 * k9) := rfl
            have j87 : 360 + 5 * k9 < 460 := by omega
            refine va_lald hx hb hE.1 hP 1 1 rfl rfl (by rw [i87]; exact vp_in_nI j87 (by omega)) dX4_run_87 ?_
            rw [i87, nI_clamp (by omega)]
            refine lv_topl (fun v87 e87 => ?_)
            rw [e87, show al1 (360 + 5 * k9) = _ from hh 0 (by decide)]
            refine lv_goto (tgt := 97) hx hb dX4_run_88 (by decide) ?_
            exact hJ97 (lN (pn fp1 0 0)) (by rw [lN_T (by omega)]; have k9 := mt leL.mpr c78; rw [lN_T (by omega)] at k9; omega)
  · have c15 := (e12).f c15
    refine lv_iconst (v := nI 0) hx hb dX4_run_18 (by decide) ?_
    exact fI (v := nI 0) ((u12, al, sv, m)) hx hb hr hlocks hAe hP hD hS [0, 1, 2] (by decide) rfl (⟨g12, fun _ => rfl, fun g => absurd (g12.no g) c15⟩) dX4_run_19
set_option maxHeartbeats 4000000 in
set_option maxRecDepth 100000 in
theorem n_calibrate (l : Launch) (K : EK) (b : Nat → Nat) (m : Nat) (th : Int32) (al sv : Nat → Int64) (t : Int64) (kn : Nat) (fn : Nat → Int32) (kr : Nat) (fr : Nat → Int32) (kp : Nat) (fp : Nat → Int32) (p0 p1 p2 : Int32) (hC : Cp al (t, (kn, fn), (kr, fr), (kp, fp))) (hSI : SI (t, (kn, fn), (kr, fr), (kp, fp))) (hm : m ≤ 4) (sz : Nat) : Met l yX4_calibrate (wq yX4_calibrate cX4_calibrate 12 (some .int)) (rmL 7 0 0) (va_Pc [.ref (b 0), .int p0, .int p1, .int p2] (PW K sz [(b 0, .inr (6, [.ref (b 1), .ref (b 2), .int (nI m), .int th])), (b 1, .inl (K.2.2.1, 460, .inr (.inl (al)))), (b 2, .inl (K.2.2.1, 1840, .inr (.inl (sv))))])) (va_Qi (fun r (u : MD) => Gs u.1 ((0 ≤ p0.toInt ∧ p0.toInt < kn) ∧ (0 ≤ p1.toInt ∧ p1.toInt < kn) ∧ 0 ≤ p2.toInt ∧ p2.toInt < kn) (p0.toInt ≠ p1.toInt ∧ p0.toInt ≠ p2.toInt ∧ p1.toInt ≠ p2.toInt) (¬ noLat fr (ix p0) (ix p1) kr ∧ ¬ noLat fr (ix p0) (ix p2) kr ∧ ¬ noLat fr (ix p1) (ix p2) kr) ∧ (¬ u.1 = 0 → u.2 = (al, sv, m)) ∧ (u.1 = 0 → (savR al sv m u.2.2.1 u.2.2.2 ∧ (∃ e1 e2 e3, isLat fr (ix p0) (ix p1) kr e1 ∧ isLat fr (ix p0) (ix p2) kr e2 ∧ isLat fr (ix p1) (ix p2) kr e3 ∧ r.toInt = (exs fn fr e1 + exs fn fr e2 - exs fn fr e3) / 2 + (exs fn fr e1 + exs fn fr e3 - exs fn fr e2) / 2 + (exs fn fr e2 + exs fn fr e3 - exs fn fr e1) / 2 ∧ ∀ x1 x2 x3 : Int32, x1.toInt = (exs fn fr e1 + exs fn fr e2 - exs fn fr e3) / 2 → x2.toInt = (exs fn fr e1 + exs fn fr e3 - exs fn fr e2) / 2 → x3.toInt = (exs fn fr e2 + exs fn fr e3 - exs fn fr e1) / 2 → Cp u.2.1 (t, (kn, upd (upd (upd fn (ix p0 * 6 + 5) x1) (ix p1 * 6 + 5) x2) (ix p2 * 6 + 5) x3), (kr, fr), (kp, fp)))))) (Bw K sz [(b 0, .inr (6, [.ref (b 1), .ref (b 2), .int (nI m), .int th])), (b 1, .inl (K.2.2.1, 460, .inr (.inl (al)))), (b 2, .inl (K.2.2.1, 1840, .inr (.inl (sv))))] (fun (u : MD) => [(b 0, .inr (6, [.ref (b 1), .ref (b 2), .int (nI u.2.2.2), .int u.1])), (b 1, .inl (K.2.2.1, 460, .inr (.inl (u.2.1)))), (b 2, .inl (K.2.2.1, 1840, .inr (.inl (u.2.2.1))))])) (va_A [(b 0, .inr (6, [.ref (b 1), .ref (b 2), .int (nI m), .int th])), (b 1, .inl (K.2.2.1, 460, .inr (.inl (al)))), (b 2, .inl (K.2.2.1, 1840, .inr (.inl (sv))))] sz)) 0 0 (va_A [(b 0, .inr (6, [.ref (b 1), .ref (b 2), .int (nI m), .int th])), (b 1, .inl (K.2.2.1, 460, .inr (.inl (al)))), (b 2, .inl (K.2.2.1, 1840, .inr (.inl (sv))))] sz) := by
  refine hdW (by decide +kernel) (Nat.le_of_ble_eq_true rfl) ?_
  intro pp ee s mm bl9 me9 cd hx hb hr hlocks hml hown hin hts hE hP A hAe hsz hA hD hS ls hl
  have hown : s.vm.findClass RX4 = some mm.cls := hown
  have hP : va_P K.1 vwCl [(b 0, .inr (6, [.ref (b 1), .ref (b 2), .int (nI m), .int th])), (b 1, .inl (K.2.2.1, 460, .inr (.inl (al)))), (b 2, .inl (K.2.2.1, 1840, .inr (.inl (sv))))] s.heap := hP
  have hD : va_D A [(b 0, .inr (6, [.ref (b 1), .ref (b 2), .int (nI m), .int th])), (b 1, .inl (K.2.2.1, 460, .inr (.inl (al)))), (b 2, .inl (K.2.2.1, 1840, .inr (.inl (sv))))] := hD
  have hl : lv_has ls 12 [(0, .ref (b 0)), (1, .int p0), (2, .int p1), (3, .int p2)] := hl
  have s1 : kn ≤ 6 := hSI.1
  have s2 : kr ≤ 40 := hSI.2.1
  have s3 : kp ≤ 20 := hSI.2.2.1
  have s4 : 0 ≤ t.toInt ∧ t.toInt ≤ 900000000 + 1000000 * (kr : Int) := hSI.2.2.2.1
  have hn : ∀ i, i < kn → nOk fn i := hSI.2.2.2.2.1
  have hrs : ∀ e, e < kr → rOk kn fr e := hSI.2.2.2.2.2.1
  have hps : ∀ k, k < kp → pOk kn fp k := hSI.2.2.2.2.2.2.1
  have h6 := s1
  have h40 := s2
  have h20 := s3
  have h0 : al 0 = t := hC.1
  have h1 : al 1 = lN kn := hC.2.1
  have hN : NodC al kn fn := hC.2.2.1
  have h38 : al 38 = lN kr := hC.2.2.2.1
  have hR : RecC al kr fr := hC.2.2.2.2.1
  have h359 : al 359 = lN kp := hC.2.2.2.2.2.1
  have hPl : PlnC al kp fp := hC.2.2.2.2.2.2
  refine jn (P := fun jv => Bo jv ((0 ≤ p0.toInt ∧ p0.toInt < kn) ∧ (0 ≤ p1.toInt ∧ p1.toInt < kn) ∧ 0 ≤ p2.toInt ∧ p2.toInt < kn)) 29 [] (fun j29 k29 => ?_) (fun hJ29 => ?_)
  · refine lv_istore (lv' := [(4, .int j29), (0, .ref (b 0)), (1, .int p0), (2, .int p1), (3, .int p2)]) hx hb dX4_calibrate_29 hl (by decide) rfl (fun ls hl => ?_)
    refine jn (P := fun jv => Bo jv (((0 ≤ p0.toInt ∧ p0.toInt < kn) ∧ (0 ≤ p1.toInt ∧ p1.toInt < kn) ∧ 0 ≤ p2.toInt ∧ p2.toInt < kn) ∧ ¬ noLat fr (ix p0) (ix p1) kr ∧ ¬ noLat fr (ix p0) (ix p2) kr ∧ ¬ noLat fr (ix p1) (ix p2) kr)) 71 [] (fun j71 k71 => ?_) (fun hJ71 => ?_)
    · refine lv_istore (lv' := [(5, .int j71), (4, .int j29), (0, .ref (b 0)), (1, .int p0), (2, .int p1), (3, .int p2)]) hx hb dX4_calibrate_71 hl (by decide) rfl (fun ls hl => ?_)
      refine lv_aload_n hx hb dX4_calibrate_73 rfl (lv_at hl 2 rfl) ?_
      refine lv_iload hx hb dX4_calibrate_74 (lv_at hl 1 rfl) ?_
      refine jn (P := fun jv => Bo jv (p0.toInt ≠ p1.toInt ∧ p0.toInt ≠ p2.toInt ∧ p1.toInt ≠ p2.toInt)) 96 [.int j29, .ref (b 0)] (fun j96 k96 => ?_) (fun hJ96 => ?_)
      · refine lv_iload hx hb dX4_calibrate_96 (lv_at hl 0 rfl) ?_
        refine woI (wrV (As := [.int j29, .int j96, .int j71]) (rest := []) (m_goes l K b (nI m) th j29 j96 j71 ((0 ≤ p0.toInt ∧ p0.toInt < kn) ∧ (0 ≤ p1.toInt ∧ p1.toInt < kn) ∧ 0 ≤ p2.toInt ∧ p2.toInt < kn) (p0.toInt ≠ p1.toInt ∧ p0.toInt ≠ p2.toInt ∧ p1.toInt ≠ p2.toInt) (((0 ≤ p0.toInt ∧ p0.toInt < kn) ∧ (0 ≤ p1.toInt ∧ p1.toInt < kn) ∧ 0 ≤ p2.toInt ∧ p2.toInt < kn) ∧ ¬ noLat fr (ix p0) (ix p1) kr ∧ ¬ noLat fr (ix p0) (ix p2) kr ∧ ¬ noLat fr (ix p1) (ix p2) kr) k29 k96 k71 _) ⟨hx, hb, hml, hown, hts⟩ (gV kl_X4_45 ki_X4_goes ks_X4_goes kn_X4 kc_X4_goes) (by show okN yX4_goes 3; decide +kernel) ⟨⟨Nat.le_of_ble_eq_true rfl, Nat.le_of_ble_eq_true rfl⟩, ⟨rfl, rfl⟩, Nat.le_of_ble_eq_true rfl, Nat.le_of_ble_eq_true rfl⟩ hE hP hD [0] (by decide) rfl ⟨0, 6, _, _, rfl, rfl, rfl⟩ hl.1 rfl (Nat.le_of_ble_eq_true rfl) dX4_calibrate_98) hP hD hS hA [(b 1, .inl (K.2.2.1, 460, .inr (.inl (al)))), (b 2, .inl (K.2.2.1, 1840, .inr (.inl (sv))))] (fun u => [(b 0, .inr (6, [.ref (b 1), .ref (b 2), .int (nI m), .int u])), (b 1, .inl (K.2.2.1, 460, .inr (.inl (al)))), (b 2, .inl (K.2.2.1, 1840, .inr (.inl (sv))))]) [0] [1, 2] [2, 0, 1] ⟨rfl, rfl, by decide, by decide, by decide, fun _ => rfl⟩ (fun v98 u98 H locs e98 hP hD hS => ?_)
        have hP : va_P K.1 vwCl [(b 0, .inr (6, [.ref (b 1), .ref (b 2), .int (nI m), .int u98])), (b 1, .inl (K.2.2.1, 460, .inr (.inl (al)))), (b 2, .inl (K.2.2.1, 1840, .inr (.inl (sv))))] H := hP
        have hD : va_D A [(b 0, .inr (6, [.ref (b 1), .ref (b 2), .int (nI m), .int u98])), (b 1, .inl (K.2.2.1, 460, .inr (.inl (al)))), (b 2, .inl (K.2.2.1, 1840, .inr (.inl (sv))))] := hD
        obtain ⟨g98, e98⟩ := e98
        have G98 : Gs u98 ((0 ≤ p0.toInt ∧ p0.toInt < kn) ∧ (0 ≤ p1.toInt ∧ p1.toInt < kn) ∧ 0 ≤ p2.toInt ∧ p2.toInt < kn) (p0.toInt ≠ p1.toInt ∧ p0.toInt ≠ p2.toInt ∧ p1.toInt ≠ p2.toInt) (¬ noLat fr (ix p0) (ix p1) kr ∧ ¬ noLat fr (ix p0) (ix p2) kr ∧ ¬ noLat fr (ix p1) (ix p2) kr) := g98.c Iff.rfl (fun _ => Iff.rfl) (fun w1 _ => ⟨fun h => h.2, fun h => ⟨w1, h⟩⟩)
        refine lv_if_ne (tgt := 106) hx hb dX4_calibrate_101 (by decide) (fun c101 => ?_) (fun c101 => ?_)
        · have c101 := (e98).t c101
          have Ww := G98.no (g98.ok c101)
          obtain ⟨i, hi, rfl⟩ := ixOf (n := kn) Ww.1.1 (by omega)
          obtain ⟨j, hj, rfl⟩ := ixOf (n := kn) Ww.1.2.1 (by omega)
          obtain ⟨k9, hk9, rfl⟩ := ixOf (n := kn) Ww.1.2.2 (by omega)
          have n1 : ix (nI i) = i := ix_nI (by omega)
          have n2 : ix (nI j) = j := ix_nI (by omega)
          have n3 : ix (nI k9) = k9 := ix_nI (by omega)
          have W3 := Ww.2.2
          rw [n1, n2, n3] at W3
          obtain ⟨e1, hL1⟩ := lat_ex W3.1
          obtain ⟨e2, hL2⟩ := lat_ex W3.2.1
          obtain ⟨e3, hL3⟩ := lat_ex W3.2.2
          have hne : i ≠ j ∧ i ≠ k9 ∧ j ≠ k9 := ⟨fun g => Ww.2.1.1 (by rw [g]), fun g => Ww.2.1.2.1 (by rw [g]), fun g => Ww.2.1.2.2 (by rw [g])⟩
          have r1 := exs2_rng hn (hrs _ hL1.1)
          have r2 := exs2_rng hn (hrs _ hL2.1)
          have r3 := exs2_rng hn (hrs _ hL3.1)
          refine lv_aload_n hx hb dX4_calibrate_106 rfl (lv_at hl 2 rfl) ?_
          refine woV (wrV (As := []) (rest := []) (m_save l K b m u98 al sv _ hm) ⟨hx, hb, hml, hown, hts⟩ (gV kl_X4_49 ki_X4_save ks_X4_save kn_X4 kc_X4_save) (by show okN yX4_save 0; decide +kernel) ⟨⟨Nat.le_of_ble_eq_true rfl, Nat.le_of_ble_eq_true rfl⟩, ⟨rfl, rfl⟩, Nat.le_of_ble_eq_true rfl, Nat.le_of_ble_eq_true rfl⟩ hE hP hD [0, 1, 2] (by decide) rfl ⟨0, 6, _, _, rfl, rfl, rfl⟩ hl.1 rfl (Nat.le_of_ble_eq_true rfl) dX4_calibrate_107) hP hD hS hA [] (fun u => [(b 0, .inr (6, [.ref (b 1), .ref (b 2), .int (nI u.2), .int u98])), (b 1, .inl (K.2.2.1, 460, .inr (.inl (al)))), (b 2, .inl (K.2.2.1, 1840, .inr (.inl (u.1))))]) [0, 1, 2] [] [0, 1, 2] ⟨rfl, rfl, by decide, by decide, by decide, fun _ => rfl⟩ (fun u107 H locs e107 hP hD hS => ?_)
          obtain ⟨sv107, sm107⟩ := u107
          have hP : va_P K.1 vwCl [(b 0, .inr (6, [.ref (b 1), .ref (b 2), .int (nI sm107), .int u98])), (b 1, .inl (K.2.2.1, 460, .inr (.inl (al)))), (b 2, .inl (K.2.2.1, 1840, .inr (.inl (sv107))))] H := hP
          have hD : va_D A [(b 0, .inr (6, [.ref (b 1), .ref (b 2), .int (nI sm107), .int u98])), (b 1, .inl (K.2.2.1, 460, .inr (.inl (al)))), (b 2, .inl (K.2.2.1, 1840, .inr (.inl (sv107))))] := hD
          have e107 : savR al sv m sv107 sm107 := e107
          refine lv_aload_n hx hb dX4_calibrate_110 rfl (lv_at hl 2 rfl) ?_
          refine lv_iload_n hx hb dX4_calibrate_111 rfl (lv_at hl 3 rfl) ?_
          refine lv_iload_n hx hb dX4_calibrate_112 rfl (lv_at hl 4 rfl) ?_
          refine goL (rdV (As := [.int (nI i), .int (nI j)]) (rest := []) (m_excess l K b (nI sm107) u98 al kn fn h6 hN kr fr h40 hR hn h38 hrs i j e1 hi hj hL1) ⟨hx, hb, hml, hown, hts⟩ (gV kl_X4_145 ki_X4_excess ks_X4_excess kn_X4 kc_X4_excess) (by show okN yX4_excess 2; decide +kernel) ⟨⟨Nat.le_of_ble_eq_true rfl, Nat.le_of_ble_eq_true rfl⟩, rfl, rfl⟩ hE hP [0, 1] rfl ⟨0, 6, _, _, rfl, rfl, rfl⟩ hl.1 rfl (Nat.le_of_ble_eq_true rfl) dX4_calibrate_113 ⟨Nat.le_of_ble_eq_true rfl, Nat.le_of_ble_eq_true rfl⟩) (fun v113 e113 => ?_)
          refine lv_lstore (lv' := [(6, .long v113), (5, .int j71), (4, .int j29), (0, .ref (b 0)), (1, .int (nI i)), (2, .int (nI j)), (3, .int (nI k9))]) hx hb dX4_calibrate_116 hl (by decide) rfl (fun ls hl => ?_)
          refine lv_aload_n hx hb dX4_calibrate_118 rfl (lv_at hl 3 rfl) ?_
          refine lv_iload_n hx hb dX4_calibrate_119 rfl (lv_at hl 4 rfl) ?_
          refine lv_iload_n hx hb dX4_calibrate_120 rfl (lv_at hl 6 rfl) ?_
          refine goL (rdV (As := [.int (nI i), .int (nI k9)]) (rest := []) (m_excess l K b (nI sm107) u98 al kn fn h6 hN kr fr h40 hR hn h38 hrs i k9 e2 hi hk9 hL2) ⟨hx, hb, hml, hown, hts⟩ (gV kl_X4_145 ki_X4_excess ks_X4_excess kn_X4 kc_X4_excess) (by show okN yX4_excess 2; decide +kernel) ⟨⟨Nat.le_of_ble_eq_true rfl, Nat.le_of_ble_eq_true rfl⟩, rfl, rfl⟩ hE hP [0, 1] rfl ⟨0, 6, _, _, rfl, rfl, rfl⟩ hl.1 rfl (Nat.le_of_ble_eq_true rfl) dX4_calibrate_121 ⟨Nat.le_of_ble_eq_true rfl, Nat.le_of_ble_eq_true rfl⟩) (fun v121 e121 => ?_)
          refine lv_lstore (lv' := [(8, .long v121), (6, .long v113), (5, .int j71), (4, .int j29), (0, .ref (b 0)), (1, .int (nI i)), (2, .int (nI j)), (3, .int (nI k9))]) hx hb dX4_calibrate_124 hl (by decide) rfl (fun ls hl => ?_)
          refine lv_aload_n hx hb dX4_calibrate_126 rfl (lv_at hl 4 rfl) ?_
          refine lv_iload_n hx hb dX4_calibrate_127 rfl (lv_at hl 6 rfl) ?_
          refine lv_iload_n hx hb dX4_calibrate_128 rfl (lv_at hl 7 rfl) ?_
          refine goL (rdV (As := [.int (nI j), .int (nI k9)]) (rest := []) (m_excess l K b (nI sm107) u98 al kn fn h6 hN kr fr h40 hR hn h38 hrs j k9 e3 hj hk9 hL3) ⟨hx, hb, hml, hown, hts⟩ (gV kl_X4_145 ki_X4_excess ks_X4_excess kn_X4 kc_X4_excess) (by show okN yX4_excess 2; decide +kernel) ⟨⟨Nat.le_of_ble_eq_true rfl, Nat.le_of_ble_eq_true rfl⟩, rfl, rfl⟩ hE hP [0, 1] rfl ⟨0, 6, _, _, rfl, rfl, rfl⟩ hl.1 rfl (Nat.le_of_ble_eq_true rfl) dX4_calibrate_129 ⟨Nat.le_of_ble_eq_true rfl, Nat.le_of_ble_eq_true rfl⟩) (fun v129 e129 => ?_)
          refine lv_lstore (lv' := [(10, .long v129), (8, .long v121), (6, .long v113), (5, .int j71), (4, .int j29), (0, .ref (b 0)), (1, .int (nI i)), (2, .int (nI j)), (3, .int (nI k9))]) hx hb dX4_calibrate_132 hl (by decide) rfl (fun ls hl => ?_)
          refine lv_aload_n hx hb dX4_calibrate_134 rfl (lv_at hl 5 rfl) ?_
          refine va_get (D := K.1) (ci := 6) (v := .ref (b 1)) (C := RX4) (T := TX4) (N := 4) hx hb hts inX4 hown hE.1 hP 0 rfl rfl 0 (by decide) (hts _ kf_X4_7) (fun _ h9 => h9) rfl dX4_calibrate_135 ?_
          refine lv_iconst (v := nI 2) hx hb dX4_calibrate_138 (by decide) ?_
          refine lv_bipush (v := nI 6) hx hb dX4_calibrate_139 (by decide) ?_
          refine lv_iload_n hx hb dX4_calibrate_141 rfl (lv_at hl 6 rfl) ?_
          refine lv_imul hx hb dX4_calibrate_142 ?_
          rw [pk_mul 6 i]
          refine lv_iadd hx hb dX4_calibrate_143 ?_
          rw [nI_add 2 (6 * i)]
          refine lv_iconst (v := nI 5) hx hb dX4_calibrate_144 (by decide) ?_
          refine lv_iadd hx hb dX4_calibrate_145 ?_
          rw [nI_add (2 + 6 * i) 5]
          refine lv_lload hx hb dX4_calibrate_146 (lv_at hl 2 rfl) ?_
          refine lv_lload hx hb dX4_calibrate_148 (lv_at hl 1 rfl) ?_
          refine lv_ladd hx hb dX4_calibrate_150 ?_
          refine lv_topl (fun v150 e150 => ?_)
          have q150 : v150.toInt = exs fn fr e1 + exs fn fr e2 := by rw [e150, fb_addL (by rw [e113, e121]; omega) (by rw [e113, e121]; omega), e113, e121]
          refine lv_lload hx hb dX4_calibrate_151 (lv_at hl 0 rfl) ?_
          refine lv_lsub hx hb dX4_calibrate_153 ?_
          refine lv_topl (fun v153 e153 => ?_)
          have q153 : v153.toInt = exs fn fr e1 + exs fn fr e2 - exs fn fr e3 := by rw [e153, fb_subL (by rw [q150, e129]; omega) (by rw [q150, e129]; omega), q150, e129]
          refine lv_ldc2 (v := lN 2) hx hb hown (hts _ kw_X4_54) dX4_calibrate_154 ?_
          refine goL (rdS (As := [.long v153, .long (lN 2)]) (rest := [.int (nI (2 + 6 * i + 5)), .ref (b 1)]) (m_floor l K v153 (lN 2) (by rw [q153]; omega) (by rw [lN_T (by decide)]; decide)) ⟨hx, hb, hml, hown, hts⟩ (gS kl_X4_114 kt_X4_floor kn_X4 kc_X4_floor) (by show okN yX4_floor 2; decide +kernel) ⟨⟨Nat.le_of_ble_eq_true rfl, Nat.le_of_ble_eq_true rfl⟩, rfl, rfl⟩ hE hP [] rfl hl.1 rfl (Nat.le_of_ble_eq_true rfl) dX4_calibrate_157 ⟨Nat.le_of_ble_eq_true rfl, Nat.le_of_ble_eq_true rfl⟩) (fun v157 e157 => ?_)
          have q157 : v157.toInt = (exs fn fr e1 + exs fn fr e2 - exs fn fr e3) / 2 := by rw [e157, Int.fdiv_eq_ediv_of_nonneg _ (by rw [lN_T (by decide)]; decide), q153, lN_T (by decide)]; rfl
          obtain ⟨x1, rfl⟩ := asI32 (v := v157) (by omega) (by omega)
          rw [i64T] at q157
          have hB157 : -1000000 ≤ x1.toInt ∧ x1.toInt ≤ 1000000 := by omega
          have i160 : nI (2 + 6 * i + 5) = nI (2 + 6 * i + 5) := rfl
          have j160 : 2 + 6 * i + 5 < 460 := by omega
          refine va_last hx hb hE.1 hP hD hS 1 1 rfl rfl (by rw [i160]; exact vp_in_nI j160 (by omega)) dX4_calibrate_160 (fun H locs hP hD hS => ?_)
          rw [i160, nI_clamp (by omega)] at hP hD
          have hP : va_P K.1 vwCl [(b 0, .inr (6, [.ref (b 1), .ref (b 2), .int (nI sm107), .int u98])), (b 1, .inl (K.2.2.1, 460, .inr (.inl (vp_updL al (2 + 6 * i + 5) x1.toInt64)))), (b 2, .inl (K.2.2.1, 1840, .inr (.inl (sv107))))] H := hP
          have hD : va_D A [(b 0, .inr (6, [.ref (b 1), .ref (b 2), .int (nI sm107), .int u98])), (b 1, .inl (K.2.2.1, 460, .inr (.inl (vp_updL al (2 + 6 * i + 5) x1.toInt64)))), (b 2, .inl (K.2.2.1, 1840, .inr (.inl (sv107))))] := hD
          refine lv_aload_n hx hb dX4_calibrate_161 rfl (lv_at hl 5 rfl) ?_
          refine va_get (D := K.1) (ci := 6) (v := .ref (b 1)) (C := RX4) (T := TX4) (N := 4) hx hb hts inX4 hown hE.1 hP 0 rfl rfl 0 (by decide) (hts _ kf_X4_7) (fun _ h9 => h9) rfl dX4_calibrate_162 ?_
          refine lv_iconst (v := nI 2) hx hb dX4_calibrate_165 (by decide) ?_
          refine lv_bipush (v := nI 6) hx hb dX4_calibrate_166 (by decide) ?_
          refine lv_iload_n hx hb dX4_calibrate_168 rfl (lv_at hl 7 rfl) ?_
          refine lv_imul hx hb dX4_calibrate_169 ?_
          rw [pk_mul 6 j]
          refine lv_iadd hx hb dX4_calibrate_170 ?_
          rw [nI_add 2 (6 * j)]
          refine lv_iconst (v := nI 5) hx hb dX4_calibrate_171 (by decide) ?_
          refine lv_iadd hx hb dX4_calibrate_172 ?_
          rw [nI_add (2 + 6 * j) 5]
          refine lv_lload hx hb dX4_calibrate_173 (lv_at hl 2 rfl) ?_
          refine lv_lload hx hb dX4_calibrate_175 (lv_at hl 0 rfl) ?_
          refine lv_ladd hx hb dX4_calibrate_177 ?_
          refine lv_topl (fun v177 e177 => ?_)
          have q177 : v177.toInt = exs fn fr e1 + exs fn fr e3 := by rw [e177, fb_addL (by rw [e113, e129]; omega) (by rw [e113, e129]; omega), e113, e129]
          refine lv_lload hx hb dX4_calibrate_178 (lv_at hl 1 rfl) ?_
          refine lv_lsub hx hb dX4_calibrate_180 ?_
          refine lv_topl (fun v180 e180 => ?_)
          have q180 : v180.toInt = exs fn fr e1 + exs fn fr e3 - exs fn fr e2 := by rw [e180, fb_subL (by rw [q177, e121]; omega) (by rw [q177, e121]; omega), q177, e121]
          refine lv_ldc2 (v := lN 2) hx hb hown (hts _ kw_X4_54) dX4_calibrate_181 ?_
          refine goL (rdS (As := [.long v180, .long (lN 2)]) (rest := [.int (nI (2 + 6 * j + 5)), .ref (b 1)]) (m_floor l K v180 (lN 2) (by rw [q180]; omega) (by rw [lN_T (by decide)]; decide)) ⟨hx, hb, hml, hown, hts⟩ (gS kl_X4_114 kt_X4_floor kn_X4 kc_X4_floor) (by show okN yX4_floor 2; decide +kernel) ⟨⟨Nat.le_of_ble_eq_true rfl, Nat.le_of_ble_eq_true rfl⟩, rfl, rfl⟩ hE hP [] rfl hl.1 rfl (Nat.le_of_ble_eq_true rfl) dX4_calibrate_184 ⟨Nat.le_of_ble_eq_true rfl, Nat.le_of_ble_eq_true rfl⟩) (fun v184 e184 => ?_)
          have q184 : v184.toInt = (exs fn fr e1 + exs fn fr e3 - exs fn fr e2) / 2 := by rw [e184, Int.fdiv_eq_ediv_of_nonneg _ (by rw [lN_T (by decide)]; decide), q180, lN_T (by decide)]; rfl
          obtain ⟨x2, rfl⟩ := asI32 (v := v184) (by omega) (by omega)
          rw [i64T] at q184
          have hB184 : -1000000 ≤ x2.toInt ∧ x2.toInt ≤ 1000000 := by omega
          have i187 : nI (2 + 6 * j + 5) = nI (2 + 6 * j + 5) := rfl
          have j187 : 2 + 6 * j + 5 < 460 := by omega
          refine va_last hx hb hE.1 hP hD hS 1 1 rfl rfl (by rw [i187]; exact vp_in_nI j187 (by omega)) dX4_calibrate_187 (fun H locs hP hD hS => ?_)
          rw [i187, nI_clamp (by omega)] at hP hD
          have hP : va_P K.1 vwCl [(b 0, .inr (6, [.ref (b 1), .ref (b 2), .int (nI sm107), .int u98])), (b 1, .inl (K.2.2.1, 460, .inr (.inl (vp_updL (vp_updL al (2 + 6 * i + 5) x1.toInt64) (2 + 6 * j + 5) x2.toInt64)))), (b 2, .inl (K.2.2.1, 1840, .inr (.inl (sv107))))] H := hP
          have hD : va_D A [(b 0, .inr (6, [.ref (b 1), .ref (b 2), .int (nI sm107), .int u98])), (b 1, .inl (K.2.2.1, 460, .inr (.inl (vp_updL (vp_updL al (2 + 6 * i + 5) x1.toInt64) (2 + 6 * j + 5) x2.toInt64)))), (b 2, .inl (K.2.2.1, 1840, .inr (.inl (sv107))))] := hD
          refine lv_aload_n hx hb dX4_calibrate_188 rfl (lv_at hl 5 rfl) ?_
          refine va_get (D := K.1) (ci := 6) (v := .ref (b 1)) (C := RX4) (T := TX4) (N := 4) hx hb hts inX4 hown hE.1 hP 0 rfl rfl 0 (by decide) (hts _ kf_X4_7) (fun _ h9 => h9) rfl dX4_calibrate_189 ?_
          refine lv_iconst (v := nI 2) hx hb dX4_calibrate_192 (by decide) ?_
          refine lv_bipush (v := nI 6) hx hb dX4_calibrate_193 (by decide) ?_
          refine lv_iload_n hx hb dX4_calibrate_195 rfl (lv_at hl 8 rfl) ?_
          refine lv_imul hx hb dX4_calibrate_196 ?_
          rw [pk_mul 6 k9]
          refine lv_iadd hx hb dX4_calibrate_197 ?_
          rw [nI_add 2 (6 * k9)]
          refine lv_iconst (v := nI 5) hx hb dX4_calibrate_198 (by decide) ?_
          refine lv_iadd hx hb dX4_calibrate_199 ?_
          rw [nI_add (2 + 6 * k9) 5]
          refine lv_lload hx hb dX4_calibrate_200 (lv_at hl 1 rfl) ?_
          refine lv_lload hx hb dX4_calibrate_202 (lv_at hl 0 rfl) ?_
          refine lv_ladd hx hb dX4_calibrate_204 ?_
          refine lv_topl (fun v204 e204 => ?_)
          have q204 : v204.toInt = exs fn fr e2 + exs fn fr e3 := by rw [e204, fb_addL (by rw [e121, e129]; omega) (by rw [e121, e129]; omega), e121, e129]
          refine lv_lload hx hb dX4_calibrate_205 (lv_at hl 2 rfl) ?_
          refine lv_lsub hx hb dX4_calibrate_207 ?_
          refine lv_topl (fun v207 e207 => ?_)
          have q207 : v207.toInt = exs fn fr e2 + exs fn fr e3 - exs fn fr e1 := by rw [e207, fb_subL (by rw [q204, e113]; omega) (by rw [q204, e113]; omega), q204, e113]
          refine lv_ldc2 (v := lN 2) hx hb hown (hts _ kw_X4_54) dX4_calibrate_208 ?_
          refine goL (rdS (As := [.long v207, .long (lN 2)]) (rest := [.int (nI (2 + 6 * k9 + 5)), .ref (b 1)]) (m_floor l K v207 (lN 2) (by rw [q207]; omega) (by rw [lN_T (by decide)]; decide)) ⟨hx, hb, hml, hown, hts⟩ (gS kl_X4_114 kt_X4_floor kn_X4 kc_X4_floor) (by show okN yX4_floor 2; decide +kernel) ⟨⟨Nat.le_of_ble_eq_true rfl, Nat.le_of_ble_eq_true rfl⟩, rfl, rfl⟩ hE hP [] rfl hl.1 rfl (Nat.le_of_ble_eq_true rfl) dX4_calibrate_211 ⟨Nat.le_of_ble_eq_true rfl, Nat.le_of_ble_eq_true rfl⟩) (fun v211 e211 => ?_)
          have q211 : v211.toInt = (exs fn fr e2 + exs fn fr e3 - exs fn fr e1) / 2 := by rw [e211, Int.fdiv_eq_ediv_of_nonneg _ (by rw [lN_T (by decide)]; decide), q207, lN_T (by decide)]; rfl
          obtain ⟨x3, rfl⟩ := asI32 (v := v211) (by omega) (by omega)
          rw [i64T] at q211
          have hB211 : -1000000 ≤ x3.toInt ∧ x3.toInt ≤ 1000000 := by omega
          have i214 : nI (2 + 6 * k9 + 5) = nI (2 + 6 * k9 + 5) := rfl
          have j214 : 2 + 6 * k9 + 5 < 460 := by omega
          refine va_last hx hb hE.1 hP hD hS 1 1 rfl rfl (by rw [i214]; exact vp_in_nI j214 (by omega)) dX4_calibrate_214 (fun H locs hP hD hS => ?_)
          rw [i214, nI_clamp (by omega)] at hP hD
          have hP : va_P K.1 vwCl [(b 0, .inr (6, [.ref (b 1), .ref (b 2), .int (nI sm107), .int u98])), (b 1, .inl (K.2.2.1, 460, .inr (.inl (vp_updL (vp_updL (vp_updL al (2 + 6 * i + 5) x1.toInt64) (2 + 6 * j + 5) x2.toInt64) (2 + 6 * k9 + 5) x3.toInt64)))), (b 2, .inl (K.2.2.1, 1840, .inr (.inl (sv107))))] H := hP
          have hD : va_D A [(b 0, .inr (6, [.ref (b 1), .ref (b 2), .int (nI sm107), .int u98])), (b 1, .inl (K.2.2.1, 460, .inr (.inl (vp_updL (vp_updL (vp_updL al (2 + 6 * i + 5) x1.toInt64) (2 + 6 * j + 5) x2.toInt64) (2 + 6 * k9 + 5) x3.toInt64)))), (b 2, .inl (K.2.2.1, 1840, .inr (.inl (sv107))))] := hD
          have hCx : Cp (vp_updL (vp_updL (vp_updL al (2 + 6 * i + 5) x1.toInt64) (2 + 6 * j + 5) x2.toInt64) (2 + 6 * k9 + 5) x3.toInt64) (t, (kn, (upd (upd (upd fn (i * 6 + 5) x1) (j * 6 + 5) x2) (k9 * 6 + 5) x3)), (kr, fr), (kp, fp)) := node_cp (node_cp (node_cp hC h6 hi (by decide) x1) h6 hj (by decide) x2) h6 hk9 (by decide) x3
          have hNx : NodC (vp_updL (vp_updL (vp_updL al (2 + 6 * i + 5) x1.toInt64) (2 + 6 * j + 5) x2.toInt64) (2 + 6 * k9 + 5) x3.toInt64) kn (upd (upd (upd fn (i * 6 + 5) x1) (j * 6 + 5) x2) (k9 * 6 + 5) x3) := hCx.2.2.1
          have f1 : (upd (upd (upd fn (i * 6 + 5) x1) (j * 6 + 5) x2) (k9 * 6 + 5) x3) (i * 6 + 5) = x1 := by rw [pk_un (by omega), pk_un (by omega), pk_us]
          have f2 : (upd (upd (upd fn (i * 6 + 5) x1) (j * 6 + 5) x2) (k9 * 6 + 5) x3) (j * 6 + 5) = x2 := by rw [pk_un (by omega), pk_us]
          have f3 : (upd (upd (upd fn (i * 6 + 5) x1) (j * 6 + 5) x2) (k9 * 6 + 5) x3) (k9 * 6 + 5) = x3 := pk_us
          refine lv_aload_n hx hb dX4_calibrate_215 rfl (lv_at hl 5 rfl) ?_
          refine lv_iload_n hx hb dX4_calibrate_216 rfl (lv_at hl 6 rfl) ?_
          refine lv_iconst (v := nI 5) hx hb dX4_calibrate_217 (by decide) ?_
          refine goL (rdV (As := [.int (nI i), .int (nI 5)]) (rest := []) (m_of l K b (nI sm107) u98 (vp_updL (vp_updL (vp_updL al (2 + 6 * i + 5) x1.toInt64) (2 + 6 * j + 5) x2.toInt64) (2 + 6 * k9 + 5) x3.toInt64) kn (upd (upd (upd fn (i * 6 + 5) x1) (j * 6 + 5) x2) (k9 * 6 + 5) x3) h6 hNx i 5 hi (by decide)) ⟨hx, hb, hml, hown, hts⟩ (gV kl_X4_56 ki_X4_of ks_X4_of kn_X4 kc_X4_of) (by show okN yX4_of 2; decide +kernel) ⟨⟨Nat.le_of_ble_eq_true rfl, Nat.le_of_ble_eq_true rfl⟩, rfl, rfl⟩ hE hP [0, 1] rfl ⟨0, 6, _, _, rfl, rfl, rfl⟩ hl.1 rfl (Nat.le_of_ble_eq_true rfl) dX4_calibrate_218 ⟨Nat.le_of_ble_eq_true rfl, Nat.le_of_ble_eq_true rfl⟩) (fun v218 e218 => ?_)
          refine lv_aload_n hx hb dX4_calibrate_221 rfl (lv_at hl 5 rfl) ?_
          refine lv_iload_n hx hb dX4_calibrate_222 rfl (lv_at hl 7 rfl) ?_
          refine lv_iconst (v := nI 5) hx hb dX4_calibrate_223 (by decide) ?_
          refine goL (rdV (As := [.int (nI j), .int (nI 5)]) (rest := [.long v218]) (m_of l K b (nI sm107) u98 (vp_updL (vp_updL (vp_updL al (2 + 6 * i + 5) x1.toInt64) (2 + 6 * j + 5) x2.toInt64) (2 + 6 * k9 + 5) x3.toInt64) kn (upd (upd (upd fn (i * 6 + 5) x1) (j * 6 + 5) x2) (k9 * 6 + 5) x3) h6 hNx j 5 hj (by decide)) ⟨hx, hb, hml, hown, hts⟩ (gV kl_X4_56 ki_X4_of ks_X4_of kn_X4 kc_X4_of) (by show okN yX4_of 2; decide +kernel) ⟨⟨Nat.le_of_ble_eq_true rfl, Nat.le_of_ble_eq_true rfl⟩, rfl, rfl⟩ hE hP [0, 1] rfl ⟨0, 6, _, _, rfl, rfl, rfl⟩ hl.1 rfl (Nat.le_of_ble_eq_true rfl) dX4_calibrate_224 ⟨Nat.le_of_ble_eq_true rfl, Nat.le_of_ble_eq_true rfl⟩) (fun v224 e224 => ?_)
          refine lv_ladd hx hb dX4_calibrate_227 ?_
          refine lv_topl (fun v227 e227 => ?_)
          have q227 : v227.toInt = (exs fn fr e1 + exs fn fr e2 - exs fn fr e3) / 2 + (exs fn fr e1 + exs fn fr e3 - exs fn fr e2) / 2 := by rw [e227, e218, e224, f1, f2, fb_addL (by rw [i64T, i64T]; omega) (by rw [i64T, i64T]; omega), i64T, i64T, q157, q184]
          refine lv_aload_n hx hb dX4_calibrate_228 rfl (lv_at hl 5 rfl) ?_
          refine lv_iload_n hx hb dX4_calibrate_229 rfl (lv_at hl 8 rfl) ?_
          refine lv_iconst (v := nI 5) hx hb dX4_calibrate_230 (by decide) ?_
          refine goL (rdV (As := [.int (nI k9), .int (nI 5)]) (rest := [.long v227]) (m_of l K b (nI sm107) u98 (vp_updL (vp_updL (vp_updL al (2 + 6 * i + 5) x1.toInt64) (2 + 6 * j + 5) x2.toInt64) (2 + 6 * k9 + 5) x3.toInt64) kn (upd (upd (upd fn (i * 6 + 5) x1) (j * 6 + 5) x2) (k9 * 6 + 5) x3) h6 hNx k9 5 hk9 (by decide)) ⟨hx, hb, hml, hown, hts⟩ (gV kl_X4_56 ki_X4_of ks_X4_of kn_X4 kc_X4_of) (by show okN yX4_of 2; decide +kernel) ⟨⟨Nat.le_of_ble_eq_true rfl, Nat.le_of_ble_eq_true rfl⟩, rfl, rfl⟩ hE hP [0, 1] rfl ⟨0, 6, _, _, rfl, rfl, rfl⟩ hl.1 rfl (Nat.le_of_ble_eq_true rfl) dX4_calibrate_231 ⟨Nat.le_of_ble_eq_true rfl, Nat.le_of_ble_eq_true rfl⟩) (fun v231 e231 => ?_)
          refine lv_ladd hx hb dX4_calibrate_234 ?_
          refine lv_topl (fun v234 e234 => ?_)
          have q234 : v234.toInt = (exs fn fr e1 + exs fn fr e2 - exs fn fr e3) / 2 + (exs fn fr e1 + exs fn fr e3 - exs fn fr e2) / 2 + (exs fn fr e2 + exs fn fr e3 - exs fn fr e1) / 2 := by rw [e234, e231, f3, fb_addL (by rw [q227, i64T]; omega) (by rw [q227, i64T]; omega), q227, i64T, q211]
          refine lv_l2i hx hb dX4_calibrate_235 rfl ?_
          refine lv_topi (fun v235 e235 => ?_)
          exact fI (v := v235) ((u98, vp_updL (vp_updL (vp_updL al (2 + 6 * i + 5) x1.toInt64) (2 + 6 * j + 5) x2.toInt64) (2 + 6 * k9 + 5) x3.toInt64, sv107, sm107)) hx hb hr hlocks hAe hP hD hS [0, 1, 2] (by decide) rfl (⟨G98, fun q => absurd (g98.ok c101) q, fun _ => ⟨e107, by
      rw [n1, n2, n3]
      refine ⟨e1, e2, e3, hL1, hL2, hL3, by rw [e235, i32T (by rw [q234]; omega) (by rw [q234]; omega), q234], fun y1 y2 y3 g1 g2 g3 => ?_⟩
      rw [show y1 = x1 from eqI (g1.trans q157.symm), show y2 = x2 from eqI (g2.trans q184.symm), show y3 = x3 from eqI (g3.trans q211.symm)]
      exact hCx⟩⟩) dX4_calibrate_236
        · have c101 := (e98).f c101
          refine lv_iconst (v := nI 0) hx hb dX4_calibrate_104 (by decide) ?_
          exact fI (v := nI 0) ((u98, al, sv, m)) hx hb hr hlocks hAe hP hD hS [0, 1, 2] (by decide) rfl (⟨G98, fun _ => rfl, fun g => absurd (g98.no g) c101⟩) dX4_calibrate_105
      · refine lv_iload_n hx hb dX4_calibrate_76 rfl (lv_at hl 3 rfl) ?_
        refine lv_iload_n hx hb dX4_calibrate_77 rfl (lv_at hl 4 rfl) ?_
        refine lv_icmp_eq (tgt := 95) hx hb dX4_calibrate_78 (by decide) (fun c78 => ?_) (fun c78 => ?_)
        · refine lv_iconst (v := nI 0) hx hb dX4_calibrate_95 (by decide) ?_
          exact hJ96 (nI 0) (Or.inr ⟨rfl, fun g => by first | exact g.1 (by rw [c78]) | exact g.2.1 (by rw [c83]) | exact g.2.2 (by rw [c88])⟩)
        · refine lv_iload_n hx hb dX4_calibrate_81 rfl (lv_at hl 3 rfl) ?_
          refine lv_iload_n hx hb dX4_calibrate_82 rfl (lv_at hl 5 rfl) ?_
          refine lv_icmp_eq (tgt := 95) hx hb dX4_calibrate_83 (by decide) (fun c83 => ?_) (fun c83 => ?_)
          · refine lv_iconst (v := nI 0) hx hb dX4_calibrate_95 (by decide) ?_
            exact hJ96 (nI 0) (Or.inr ⟨rfl, fun g => by first | exact g.1 (by rw [c78]) | exact g.2.1 (by rw [c83]) | exact g.2.2 (by rw [c88])⟩)
          · refine lv_iload_n hx hb dX4_calibrate_86 rfl (lv_at hl 4 rfl) ?_
            refine lv_iload_n hx hb dX4_calibrate_87 rfl (lv_at hl 5 rfl) ?_
            refine lv_icmp_eq (tgt := 95) hx hb dX4_calibrate_88 (by decide) (fun c88 => ?_) (fun c88 => ?_)
            · refine lv_iconst (v := nI 0) hx hb dX4_calibrate_95 (by decide) ?_
              exact hJ96 (nI 0) (Or.inr ⟨rfl, fun g => by first | exact g.1 (by rw [c78]) | exact g.2.1 (by rw [c83]) | exact g.2.2 (by rw [c88])⟩)
            · refine lv_iconst (v := nI 1) hx hb dX4_calibrate_91 (by decide) ?_
              refine lv_goto (tgt := 96) hx hb dX4_calibrate_92 (by decide) ?_
              exact hJ96 (nI 1) (Or.inl ⟨rfl, neT c78, neT c83, neT c88⟩)
    · refine lv_iload hx hb dX4_calibrate_31 (lv_at hl 0 rfl) ?_
      refine lv_if_eq (tgt := 70) hx hb dX4_calibrate_33 (by decide) (fun c33 => ?_) (fun c33 => ?_)
      · have c33 := (k29).f c33
        refine lv_iconst (v := nI 0) hx hb dX4_calibrate_70 (by decide) ?_
        exact hJ71 (nI 0) (Or.inr ⟨rfl, fun g => by first | exact c33 g.1 | exact (latI_iff h6 h40 hrs c33.1 c33.2.1 e39).mpr g.2.1 c43 | exact (latI_iff h6 h40 hrs c33.1 c33.2.2 e49).mpr g.2.2.1 c53 | exact (latI_iff h6 h40 hrs c33.2.1 c33.2.2 e59).mpr g.2.2.2 c63⟩)
      · have c33 := (k29).t c33
        refine lv_aload_n hx hb dX4_calibrate_36 rfl (lv_at hl 1 rfl) ?_
        refine lv_iload_n hx hb dX4_calibrate_37 rfl (lv_at hl 2 rfl) ?_
        refine lv_iload_n hx hb dX4_calibrate_38 rfl (lv_at hl 3 rfl) ?_
        refine goI (rdV (As := [.int p0, .int p1]) (rest := []) (m_latestOf l K b (nI m) th al kr fr h40 hR kn h6 h38 hrs p0 p1) ⟨hx, hb, hml, hown, hts⟩ (gV kl_X4_134 ki_X4_latestOf ks_X4_latestOf kn_X4 kc_X4_latestOf) (by show okN yX4_latestOf 2; decide +kernel) ⟨⟨Nat.le_of_ble_eq_true rfl, Nat.le_of_ble_eq_true rfl⟩, rfl, rfl⟩ hE hP [0, 1] rfl ⟨0, 6, _, _, rfl, rfl, rfl⟩ hl.1 rfl (Nat.le_of_ble_eq_true rfl) dX4_calibrate_39 ⟨Nat.le_of_ble_eq_true rfl, Nat.le_of_ble_eq_true rfl⟩) (fun v39 e39 => ?_)
        refine lv_iconst (v := -1) hx hb dX4_calibrate_42 (by decide) ?_
        refine lv_icmp_eq (tgt := 70) hx hb dX4_calibrate_43 (by decide) (fun c43 => ?_) (fun c43 => ?_)
        · refine lv_iconst (v := nI 0) hx hb dX4_calibrate_70 (by decide) ?_
          exact hJ71 (nI 0) (Or.inr ⟨rfl, fun g => by first | exact c33 g.1 | exact (latI_iff h6 h40 hrs c33.1 c33.2.1 e39).mpr g.2.1 c43 | exact (latI_iff h6 h40 hrs c33.1 c33.2.2 e49).mpr g.2.2.1 c53 | exact (latI_iff h6 h40 hrs c33.2.1 c33.2.2 e59).mpr g.2.2.2 c63⟩)
        · refine lv_aload_n hx hb dX4_calibrate_46 rfl (lv_at hl 1 rfl) ?_
          refine lv_iload_n hx hb dX4_calibrate_47 rfl (lv_at hl 2 rfl) ?_
          refine lv_iload_n hx hb dX4_calibrate_48 rfl (lv_at hl 4 rfl) ?_
          refine goI (rdV (As := [.int p0, .int p2]) (rest := []) (m_latestOf l K b (nI m) th al kr fr h40 hR kn h6 h38 hrs p0 p2) ⟨hx, hb, hml, hown, hts⟩ (gV kl_X4_134 ki_X4_latestOf ks_X4_latestOf kn_X4 kc_X4_latestOf) (by show okN yX4_latestOf 2; decide +kernel) ⟨⟨Nat.le_of_ble_eq_true rfl, Nat.le_of_ble_eq_true rfl⟩, rfl, rfl⟩ hE hP [0, 1] rfl ⟨0, 6, _, _, rfl, rfl, rfl⟩ hl.1 rfl (Nat.le_of_ble_eq_true rfl) dX4_calibrate_49 ⟨Nat.le_of_ble_eq_true rfl, Nat.le_of_ble_eq_true rfl⟩) (fun v49 e49 => ?_)
          refine lv_iconst (v := -1) hx hb dX4_calibrate_52 (by decide) ?_
          refine lv_icmp_eq (tgt := 70) hx hb dX4_calibrate_53 (by decide) (fun c53 => ?_) (fun c53 => ?_)
          · refine lv_iconst (v := nI 0) hx hb dX4_calibrate_70 (by decide) ?_
            exact hJ71 (nI 0) (Or.inr ⟨rfl, fun g => by first | exact c33 g.1 | exact (latI_iff h6 h40 hrs c33.1 c33.2.1 e39).mpr g.2.1 c43 | exact (latI_iff h6 h40 hrs c33.1 c33.2.2 e49).mpr g.2.2.1 c53 | exact (latI_iff h6 h40 hrs c33.2.1 c33.2.2 e59).mpr g.2.2.2 c63⟩)
          · refine lv_aload_n hx hb dX4_calibrate_56 rfl (lv_at hl 1 rfl) ?_
            refine lv_iload_n hx hb dX4_calibrate_57 rfl (lv_at hl 3 rfl) ?_
            refine lv_iload_n hx hb dX4_calibrate_58 rfl (lv_at hl 4 rfl) ?_
            refine goI (rdV (As := [.int p1, .int p2]) (rest := []) (m_latestOf l K b (nI m) th al kr fr h40 hR kn h6 h38 hrs p1 p2) ⟨hx, hb, hml, hown, hts⟩ (gV kl_X4_134 ki_X4_latestOf ks_X4_latestOf kn_X4 kc_X4_latestOf) (by show okN yX4_latestOf 2; decide +kernel) ⟨⟨Nat.le_of_ble_eq_true rfl, Nat.le_of_ble_eq_true rfl⟩, rfl, rfl⟩ hE hP [0, 1] rfl ⟨0, 6, _, _, rfl, rfl, rfl⟩ hl.1 rfl (Nat.le_of_ble_eq_true rfl) dX4_calibrate_59 ⟨Nat.le_of_ble_eq_true rfl, Nat.le_of_ble_eq_true rfl⟩) (fun v59 e59 => ?_)
            refine lv_iconst (v := -1) hx hb dX4_calibrate_62 (by decide) ?_
            refine lv_icmp_eq (tgt := 70) hx hb dX4_calibrate_63 (by decide) (fun c63 => ?_) (fun c63 => ?_)
            · refine lv_iconst (v := nI 0) hx hb dX4_calibrate_70 (by decide) ?_
              exact hJ71 (nI 0) (Or.inr ⟨rfl, fun g => by first | exact c33 g.1 | exact (latI_iff h6 h40 hrs c33.1 c33.2.1 e39).mpr g.2.1 c43 | exact (latI_iff h6 h40 hrs c33.1 c33.2.2 e49).mpr g.2.2.1 c53 | exact (latI_iff h6 h40 hrs c33.2.1 c33.2.2 e59).mpr g.2.2.2 c63⟩)
            · refine lv_iconst (v := nI 1) hx hb dX4_calibrate_66 (by decide) ?_
              refine lv_goto (tgt := 71) hx hb dX4_calibrate_67 (by decide) ?_
              exact hJ71 (nI 1) (Or.inl ⟨rfl, c33, (latI_iff h6 h40 hrs c33.1 c33.2.1 e39).mp c43, (latI_iff h6 h40 hrs c33.1 c33.2.2 e49).mp c53, (latI_iff h6 h40 hrs c33.2.1 c33.2.2 e59).mp c63⟩)
  · refine lv_aload_n hx hb dX4_calibrate_0 rfl (lv_at hl 0 rfl) ?_
    refine lv_iload_n hx hb dX4_calibrate_1 rfl (lv_at hl 1 rfl) ?_
    refine goI (rdV (As := [.int p0]) (rest := []) (m_isNode l K b (nI m) th al kn h6 h1 p0) ⟨hx, hb, hml, hown, hts⟩ (gV kl_X4_64 ki_X4_isNode ks_X4_isNode kn_X4 kc_X4_isNode) (by show okN yX4_isNode 1; decide +kernel) ⟨⟨Nat.le_of_ble_eq_true rfl, Nat.le_of_ble_eq_true rfl⟩, rfl, rfl⟩ hE hP [0, 1] rfl ⟨0, 6, _, _, rfl, rfl, rfl⟩ hl.1 rfl (Nat.le_of_ble_eq_true rfl) dX4_calibrate_2 ⟨Nat.le_of_ble_eq_true rfl, Nat.le_of_ble_eq_true rfl⟩) (fun v2 e2 => ?_)
    refine lv_if_eq (tgt := 28) hx hb dX4_calibrate_5 (by decide) (fun c5 => ?_) (fun c5 => ?_)
    · have c5 := (e2).f c5
      refine lv_iconst (v := nI 0) hx hb dX4_calibrate_28 (by decide) ?_
      exact hJ29 (nI 0) (Or.inr ⟨rfl, by omega⟩)
    · have c5 := (e2).t c5
      refine lv_aload_n hx hb dX4_calibrate_8 rfl (lv_at hl 0 rfl) ?_
      refine lv_iload_n hx hb dX4_calibrate_9 rfl (lv_at hl 2 rfl) ?_
      refine goI (rdV (As := [.int p1]) (rest := []) (m_isNode l K b (nI m) th al kn h6 h1 p1) ⟨hx, hb, hml, hown, hts⟩ (gV kl_X4_64 ki_X4_isNode ks_X4_isNode kn_X4 kc_X4_isNode) (by show okN yX4_isNode 1; decide +kernel) ⟨⟨Nat.le_of_ble_eq_true rfl, Nat.le_of_ble_eq_true rfl⟩, rfl, rfl⟩ hE hP [0, 1] rfl ⟨0, 6, _, _, rfl, rfl, rfl⟩ hl.1 rfl (Nat.le_of_ble_eq_true rfl) dX4_calibrate_10 ⟨Nat.le_of_ble_eq_true rfl, Nat.le_of_ble_eq_true rfl⟩) (fun v10 e10 => ?_)
      refine lv_if_eq (tgt := 28) hx hb dX4_calibrate_13 (by decide) (fun c13 => ?_) (fun c13 => ?_)
      · have c13 := (e10).f c13
        refine lv_iconst (v := nI 0) hx hb dX4_calibrate_28 (by decide) ?_
        exact hJ29 (nI 0) (Or.inr ⟨rfl, by omega⟩)
      · have c13 := (e10).t c13
        refine lv_aload_n hx hb dX4_calibrate_16 rfl (lv_at hl 0 rfl) ?_
        refine lv_iload_n hx hb dX4_calibrate_17 rfl (lv_at hl 3 rfl) ?_
        refine goI (rdV (As := [.int p2]) (rest := []) (m_isNode l K b (nI m) th al kn h6 h1 p2) ⟨hx, hb, hml, hown, hts⟩ (gV kl_X4_64 ki_X4_isNode ks_X4_isNode kn_X4 kc_X4_isNode) (by show okN yX4_isNode 1; decide +kernel) ⟨⟨Nat.le_of_ble_eq_true rfl, Nat.le_of_ble_eq_true rfl⟩, rfl, rfl⟩ hE hP [0, 1] rfl ⟨0, 6, _, _, rfl, rfl, rfl⟩ hl.1 rfl (Nat.le_of_ble_eq_true rfl) dX4_calibrate_18 ⟨Nat.le_of_ble_eq_true rfl, Nat.le_of_ble_eq_true rfl⟩) (fun v18 e18 => ?_)
        refine lv_if_eq (tgt := 28) hx hb dX4_calibrate_21 (by decide) (fun c21 => ?_) (fun c21 => ?_)
        · have c21 := (e18).f c21
          refine lv_iconst (v := nI 0) hx hb dX4_calibrate_28 (by decide) ?_
          exact hJ29 (nI 0) (Or.inr ⟨rfl, by omega⟩)
        · have c21 := (e18).t c21
          refine lv_iconst (v := nI 1) hx hb dX4_calibrate_24 (by decide) ?_
          refine lv_goto (tgt := 29) hx hb dX4_calibrate_25 (by decide) ?_
          exact hJ29 (nI 1) (Or.inl ⟨rfl, by omega⟩)
set_option maxHeartbeats 4000000 in
set_option maxRecDepth 100000 in
theorem n_undo (l : Launch) (K : EK) (b : Nat → Nat) (m : Nat) (th : Int32) (al sv : Nat → Int64) (hm : m ≤ 4) (sz : Nat) : Met l yX4_undo (wq yX4_undo cX4_undo 2 (some .int)) (rmL 7 0 0) (va_Pc [.ref (b 0)] (PW K sz [(b 0, .inr (6, [.ref (b 1), .ref (b 2), .int (nI m), .int th])), (b 1, .inl (K.2.2.1, 460, .inr (.inl (al)))), (b 2, .inl (K.2.2.1, 1840, .inr (.inl (sv))))])) (va_Qi (fun r (u : MD) => Gs u.1 (0 < m) True True ∧ (¬ u.1 = 0 → u.2 = (al, sv, m)) ∧ (u.1 = 0 → ∃ c, m = c + 1 ∧ r = nI c ∧ u.2.2.1 = sv ∧ u.2.2.2 = c ∧ ∀ q, q < 460 → u.2.1 q = sv (460 * c + q))) (Bw K sz [(b 0, .inr (6, [.ref (b 1), .ref (b 2), .int (nI m), .int th])), (b 1, .inl (K.2.2.1, 460, .inr (.inl (al)))), (b 2, .inl (K.2.2.1, 1840, .inr (.inl (sv))))] (fun (u : MD) => [(b 0, .inr (6, [.ref (b 1), .ref (b 2), .int (nI u.2.2.2), .int u.1])), (b 1, .inl (K.2.2.1, 460, .inr (.inl (u.2.1)))), (b 2, .inl (K.2.2.1, 1840, .inr (.inl (u.2.2.1))))])) (va_A [(b 0, .inr (6, [.ref (b 1), .ref (b 2), .int (nI m), .int th])), (b 1, .inl (K.2.2.1, 460, .inr (.inl (al)))), (b 2, .inl (K.2.2.1, 1840, .inr (.inl (sv))))] sz)) 0 0 (va_A [(b 0, .inr (6, [.ref (b 1), .ref (b 2), .int (nI m), .int th])), (b 1, .inl (K.2.2.1, 460, .inr (.inl (al)))), (b 2, .inl (K.2.2.1, 1840, .inr (.inl (sv))))] sz) := by
  refine hdW (by decide +kernel) (Nat.le_of_ble_eq_true rfl) ?_
  intro pp ee s mm bl9 me9 cd hx hb hr hlocks hml hown hin hts hE hP A hAe hsz hA hD hS ls hl
  have hown : s.vm.findClass RX4 = some mm.cls := hown
  have hP : va_P K.1 vwCl [(b 0, .inr (6, [.ref (b 1), .ref (b 2), .int (nI m), .int th])), (b 1, .inl (K.2.2.1, 460, .inr (.inl (al)))), (b 2, .inl (K.2.2.1, 1840, .inr (.inl (sv))))] s.heap := hP
  have hD : va_D A [(b 0, .inr (6, [.ref (b 1), .ref (b 2), .int (nI m), .int th])), (b 1, .inl (K.2.2.1, 460, .inr (.inl (al)))), (b 2, .inl (K.2.2.1, 1840, .inr (.inl (sv))))] := hD
  have hl : lv_has ls 2 [(0, .ref (b 0))] := hl
  refine lv_aload_n hx hb dX4_undo_0 rfl (lv_at hl 0 rfl) ?_
  refine jn (P := fun jv => Bo jv (0 < m)) 13 [.ref (b 0)] (fun j13 k13 => ?_) (fun hJ13 => ?_)
  · refine lv_iconst (v := nI 1) hx hb dX4_undo_13 (by decide) ?_
    refine lv_iconst (v := nI 1) hx hb dX4_undo_14 (by decide) ?_
    refine woI (wrV (As := [.int j13, .int (nI 1), .int (nI 1)]) (rest := []) (m_goes l K b (nI m) th j13 (nI 1) (nI 1) (0 < m) True True k13 Bo.one Bo.one _) ⟨hx, hb, hml, hown, hts⟩ (gV kl_X4_45 ki_X4_goes ks_X4_goes kn_X4 kc_X4_goes) (by show okN yX4_goes 3; decide +kernel) ⟨⟨Nat.le_of_ble_eq_true rfl, Nat.le_of_ble_eq_true rfl⟩, ⟨rfl, rfl⟩, Nat.le_of_ble_eq_true rfl, Nat.le_of_ble_eq_true rfl⟩ hE hP hD [0] (by decide) rfl ⟨0, 6, _, _, rfl, rfl, rfl⟩ hl.1 rfl (Nat.le_of_ble_eq_true rfl) dX4_undo_15) hP hD hS hA [(b 1, .inl (K.2.2.1, 460, .inr (.inl (al)))), (b 2, .inl (K.2.2.1, 1840, .inr (.inl (sv))))] (fun u => [(b 0, .inr (6, [.ref (b 1), .ref (b 2), .int (nI m), .int u])), (b 1, .inl (K.2.2.1, 460, .inr (.inl (al)))), (b 2, .inl (K.2.2.1, 1840, .inr (.inl (sv))))]) [0] [1, 2] [2, 0, 1] ⟨rfl, rfl, by decide, by decide, by decide, fun _ => rfl⟩ (fun v15 u15 H locs e15 hP hD hS => ?_)
    have hP : va_P K.1 vwCl [(b 0, .inr (6, [.ref (b 1), .ref (b 2), .int (nI m), .int u15])), (b 1, .inl (K.2.2.1, 460, .inr (.inl (al)))), (b 2, .inl (K.2.2.1, 1840, .inr (.inl (sv))))] H := hP
    have hD : va_D A [(b 0, .inr (6, [.ref (b 1), .ref (b 2), .int (nI m), .int u15])), (b 1, .inl (K.2.2.1, 460, .inr (.inl (al)))), (b 2, .inl (K.2.2.1, 1840, .inr (.inl (sv))))] := hD
    obtain ⟨g15, e15⟩ := e15
    refine lv_if_ne (tgt := 23) hx hb dX4_undo_18 (by decide) (fun c18 => ?_) (fun c18 => ?_)
    · have c18 := (e15).t c18
      have w9 := c18.1
      obtain ⟨c9, rfl⟩ : ∃ z, m = z + 1 := ⟨m - 1, by omega⟩
      refine lv_aload_n hx hb dX4_undo_23 rfl (lv_at hl 0 rfl) ?_
      refine lv_dup hx hb dX4_undo_24 rfl ?_
      refine va_get (D := K.1) (ci := 6) (v := .int (nI (c9 + 1))) (C := RX4) (T := TX4) (N := 4) hx hb hts inX4 hown hE.1 hP 0 rfl rfl 2 (by decide) (hts _ kf_X4_20) (fun _ h9 => h9) rfl dX4_undo_25 ?_
      refine lv_iconst (v := nI 1) hx hb dX4_undo_28 (by decide) ?_
      refine lv_isub hx hb dX4_undo_29 ?_
      rw [pk_sub (by omega : 1 ≤ c9 + 1)]
      rw [show (c9 + 1) - 1 = c9 from by omega]
      refine va_put (D := K.1) (ci := 6) (v := .int (nI c9)) (ty := .int) (C := RX4) (T := TX4) (N := 4) hx hb hts inX4 tyX4 tyX4_ok nmX4 hown hE.1 hP hD hS 0 rfl rfl 2 (by decide) (hts _ kf_X4_20) (fun _ h9 => h9) rfl (by decide +kernel) rfl rfl (Nat.le_of_ble_eq_true rfl) dX4_undo_30 (fun H locs hP hD hS => ?_)
      have hP : va_P K.1 vwCl [(b 0, .inr (6, [.ref (b 1), .ref (b 2), .int (nI c9), .int u15])), (b 1, .inl (K.2.2.1, 460, .inr (.inl (al)))), (b 2, .inl (K.2.2.1, 1840, .inr (.inl (sv))))] H := hP
      have hD : va_D A [(b 0, .inr (6, [.ref (b 1), .ref (b 2), .int (nI c9), .int u15])), (b 1, .inl (K.2.2.1, 460, .inr (.inl (al)))), (b 2, .inl (K.2.2.1, 1840, .inr (.inl (sv))))] := hD
      refine lv_iconst (v := nI 0) hx hb dX4_undo_33 (by decide) ?_
      refine lv_istore_n (lv' := [(1, .int (nI 0)), (0, .ref (b 0))]) hx hb dX4_undo_34 rfl hl (by decide) rfl (fun ls hl => ?_)
      refine lpW (K := K) (A := A) (H0 := s.heap) (α := Nat × (Nat → Int64)) (fun (x9 : Nat × (Nat → Int64)) => (∀ q, q < x9.1 → x9.2 q = sv (460 * c9 + q)) ∧ x9.1 ≤ 460) (fun (x9 : Nat × (Nat → Int64)) => 460 - x9.1) (fun (x9 : Nat × (Nat → Int64)) => [(0, .ref (b 0)), (1, .int (nI x9.1))]) (fun (x9 : Nat × (Nat → Int64)) => [(b 0, .inr (6, [.ref (b 1), .ref (b 2), .int (nI c9), .int u15])), (b 1, .inl (K.2.2.1, 460, .inr (.inl (x9.2)))), (b 2, .inl (K.2.2.1, 1840, .inr (.inl (sv))))]) 2 35 (fun x9 hI35 ih35 ls H locs hl hP hD hS => ?_) (0, al) (⟨fun q h => absurd h (Nat.not_lt_zero _), Nat.zero_le _⟩) ls _ _ (lv_sub hl [1, 0] rfl) hP hD hS
      obtain ⟨z, f⟩ := x9
      have hI35 : (∀ q, q < z → f q = sv (460 * c9 + q)) ∧ z ≤ 460 := hI35
      have hl : lv_has ls 2 [(0, .ref (b 0)), (1, .int (nI z))] := hl
      have hP : va_P K.1 vwCl [(b 0, .inr (6, [.ref (b 1), .ref (b 2), .int (nI c9), .int u15])), (b 1, .inl (K.2.2.1, 460, .inr (.inl (f)))), (b 2, .inl (K.2.2.1, 1840, .inr (.inl (sv))))] H := hP
      have hD : va_D A [(b 0, .inr (6, [.ref (b 1), .ref (b 2), .int (nI c9), .int u15])), (b 1, .inl (K.2.2.1, 460, .inr (.inl (f)))), (b 2, .inl (K.2.2.1, 1840, .inr (.inl (sv))))] := hD
      refine lv_iload_n hx hb dX4_undo_35 rfl (lv_at hl 1 rfl) ?_
      refine lv_sipush (v := nI 460) hx hb dX4_undo_36 (by decide) ?_
      refine lv_icmp_ge (tgt := 69) hx hb dX4_undo_39 (by decide) (fun c39 => ?_) (fun c39 => ?_)
      · have c39 := (nI_leI (a := 460) (b := z) (by omega) (by omega)).mp c39
        refine lv_aload_n hx hb dX4_undo_69 rfl (lv_at hl 0 rfl) ?_
        refine va_get (D := K.1) (ci := 6) (v := .int (nI c9)) (C := RX4) (T := TX4) (N := 4) hx hb hts inX4 hown hE.1 hP 0 rfl rfl 2 (by decide) (hts _ kf_X4_20) (fun _ h9 => h9) rfl dX4_undo_70 ?_
        exact fI (v := nI c9) ((u15, f, sv, c9)) hx hb hr hlocks hAe hP hD hS [0, 1, 2] (by decide) rfl (⟨g15, fun q => absurd (g15.ok c18) q, fun _ => ⟨c9, rfl, rfl, rfl, rfl, fun q h => hI35.1 q (by omega)⟩⟩) dX4_undo_73
      · have c39 := mt (nI_leI (a := 460) (b := z) (by omega) (by omega)).mpr c39
        refine lv_aload_n hx hb dX4_undo_42 rfl (lv_at hl 0 rfl) ?_
        refine va_get (D := K.1) (ci := 6) (v := .ref (b 1)) (C := RX4) (T := TX4) (N := 4) hx hb hts inX4 hown hE.1 hP 0 rfl rfl 0 (by decide) (hts _ kf_X4_7) (fun _ h9 => h9) rfl dX4_undo_43 ?_
        refine lv_iload_n hx hb dX4_undo_46 rfl (lv_at hl 1 rfl) ?_
        refine lv_aload_n hx hb dX4_undo_47 rfl (lv_at hl 0 rfl) ?_
        refine va_get (D := K.1) (ci := 6) (v := .ref (b 2)) (C := RX4) (T := TX4) (N := 4) hx hb hts inX4 hown hE.1 hP 0 rfl rfl 1 (by decide) (hts _ kf_X4_13) (fun _ h9 => h9) rfl dX4_undo_48 ?_
        refine lv_sipush (v := nI 460) hx hb dX4_undo_51 (by decide) ?_
        refine lv_aload_n hx hb dX4_undo_54 rfl (lv_at hl 0 rfl) ?_
        refine va_get (D := K.1) (ci := 6) (v := .int (nI c9)) (C := RX4) (T := TX4) (N := 4) hx hb hts inX4 hown hE.1 hP 0 rfl rfl 2 (by decide) (hts _ kf_X4_20) (fun _ h9 => h9) rfl dX4_undo_55 ?_
        refine lv_imul hx hb dX4_undo_58 ?_
        rw [pk_mul 460 c9]
        refine lv_iload_n hx hb dX4_undo_59 rfl (lv_at hl 1 rfl) ?_
        refine lv_iadd hx hb dX4_undo_60 ?_
        rw [nI_add (460 * c9) z]
        have i61 : nI (460 * c9 + z) = nI (460 * c9 + z) := rfl
        have j61 : 460 * c9 + z < 1840 := by omega
        refine va_lald hx hb hE.1 hP 2 1 rfl rfl (by rw [i61]; exact vp_in_nI j61 (by omega)) dX4_undo_61 ?_
        rw [i61, nI_clamp (by omega)]
        refine lv_topl (fun v61 e61 => ?_)
        have i62 : nI z = nI z := rfl
        have j62 : z < 460 := by omega
        refine va_last hx hb hE.1 hP hD hS 1 1 rfl rfl (by rw [i62]; exact vp_in_nI j62 (by omega)) dX4_undo_62 (fun H locs hP hD hS => ?_)
        rw [i62, nI_clamp (by omega)] at hP hD
        have hP : va_P K.1 vwCl [(b 0, .inr (6, [.ref (b 1), .ref (b 2), .int (nI c9), .int u15])), (b 1, .inl (K.2.2.1, 460, .inr (.inl (vp_updL f z v61)))), (b 2, .inl (K.2.2.1, 1840, .inr (.inl (sv))))] H := hP
        have hD : va_D A [(b 0, .inr (6, [.ref (b 1), .ref (b 2), .int (nI c9), .int u15])), (b 1, .inl (K.2.2.1, 460, .inr (.inl (vp_updL f z v61)))), (b 2, .inl (K.2.2.1, 1840, .inr (.inl (sv))))] := hD
        refine lv_iinc (v := nI (z + 1)) (lv' := [(1, .int (nI (z + 1))), (0, .ref (b 0))]) hx hb dX4_undo_63 hl (k := 1) rfl (nI_add z 1) (by decide) rfl (fun ls hl => ?_)
        refine lv_goto (tgt := 35) hx hb dX4_undo_66 (by decide) ?_
        have hB35 : (∀ q, q < (z + 1) → (vp_updL f z v61) q = sv (460 * c9 + q)) ∧ (z + 1) ≤ 460 := ⟨fun q h => by rcases Nat.lt_or_ge q z with g | g; rw [ul_ne (by omega)]; exact hI35.1 q g; rw [show q = z by omega, ul_eq, e61], by omega⟩
        exact ih35 (z + 1, vp_updL f z v61) (hB35) (by omega) ls H locs (lv_sub hl [1, 0] rfl) hP hD hS
    · have c18 := (e15).f c18
      refine lv_iconst (v := nI 0) hx hb dX4_undo_21 (by decide) ?_
      exact fI (v := nI 0) ((u15, al, sv, m)) hx hb hr hlocks hAe hP hD hS [0, 1, 2] (by decide) rfl (⟨g15, fun _ => rfl, fun g => absurd (g15.no g) c18⟩) dX4_undo_22
  · refine lv_aload_n hx hb dX4_undo_1 rfl (lv_at hl 0 rfl) ?_
    refine va_get (D := K.1) (ci := 6) (v := .int (nI m)) (C := RX4) (T := TX4) (N := 4) hx hb hts inX4 hown hE.1 hP 0 rfl rfl 2 (by decide) (hts _ kf_X4_20) (fun _ h9 => h9) rfl dX4_undo_2 ?_
    refine lv_if_le (tgt := 12) hx hb dX4_undo_5 (by decide) (fun c5 => ?_) (fun c5 => ?_)
    · have c5 := (nI_lz (n := m) (by omega)).mp c5
      refine lv_iconst (v := nI 0) hx hb dX4_undo_12 (by decide) ?_
      exact hJ13 (nI 0) (Or.inr ⟨rfl, by omega⟩)
    · have c5 := mt (nI_lz (n := m) (by omega)).mpr c5
      refine lv_iconst (v := nI 1) hx hb dX4_undo_8 (by decide) ?_
      refine lv_goto (tgt := 13) hx hb dX4_undo_9 (by decide) ?_
      exact hJ13 (nI 1) (Or.inl ⟨rfl, by omega⟩)
