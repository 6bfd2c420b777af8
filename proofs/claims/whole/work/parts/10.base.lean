/-! rows of our own: one list of words, one environment, calls by what they read and write -/
def wq (y : MethodName) (b : ByteArray) (mL : Nat) (rt : Option FieldType) : List Cond := Cond.code y b mL rt :: WA
def wqW (y : MethodName) (b : ByteArray) (mL : Nat) (rt : Option FieldType) (hh : List (Nat × Nat × Nat × Nat)) : List Cond := Cond.codeWith y b mL rt hh :: WA
theorem gV {own : String} {idx : Nat} {y : MethodName} {C : String} {b : ByteArray} {mL : Nat} {rt : Option FieldType} (h1 : Cond.methodLink own idx y ∈ WA) (h2 : Cond.instanceMethod y ∈ WA) (h3 : Cond.selects C y y ∈ WA) (h4 : Cond.initialized C ∈ WA) (h5 : Cond.code y b mL rt ∈ WA) : GoodIn WA (wsV own idx C y (wq y b mL rt)) := by
  refine wa_good fun w h => ?_
  simp only [wsV, wq, List.cons_append, List.nil_append, List.mem_cons] at h
  rcases h with rfl | rfl | rfl | rfl | rfl | h
  · exact h1
  · exact h2
  · exact h3
  · exact h4
  · exact h5
  · exact h
theorem gS {own : String} {idx : Nat} {y : MethodName} {b : ByteArray} {mL : Nat} {rt : Option FieldType} (h1 : Cond.methodLink own idx y ∈ WA) (h2 : Cond.static y ∈ WA) (h4 : Cond.initialized y.cls ∈ WA) (h5 : Cond.code y b mL rt ∈ WA) : GoodIn WA (va_wsS own idx y (wq y b mL rt)) := by
  refine wa_good fun w h => ?_
  simp only [va_wsS, wq, List.cons_append, List.nil_append, List.mem_cons] at h
  rcases h with rfl | rfl | rfl | rfl | h
  · exact h1
  · exact h2
  · exact h4
  · exact h5
  · exact h
theorem gC {y : MethodName} {b : ByteArray} {mL : Nat} {rt : Option FieldType} (h5 : Cond.code y b mL rt ∈ WA) : GoodIn WA (wq y b mL rt) := by
  refine wa_good fun w h => ?_
  simp only [wq, List.mem_cons] at h
  rcases h with rfl | h
  · exact h5
  · exact h
/-! the environment: classes and array classes, private members of nest mates, what is cast to what, the texts -/
abbrev EK : Type := va_G × ClassId × ClassId × ClassId × ClassId
def tyA (K : EK) : List (ClassId × FieldType) := [(K.2.1, .int), (K.2.2.1, .long), (K.2.2.2.1, .object "RangingNet$State"), (K.2.2.2.2, .double)]
def nsF : List (String × Nat × String × String × String × String) := [(RX3, 49, "RangingNet$Table", "count", "I", "RangingNet"), (RX1, 59, "RangingNet$Table", "count", "I", "RangingNet"), (RX3, 105, "RangingNet$State", "time", "J", "RangingNet"), (RX3, 28, "RangingNet$State", "nodes", "LRangingNet$Table;", "RangingNet"), (RX3, 84, "RangingNet$State", "records", "LRangingNet$Table;", "RangingNet"), (RX3, 94, "RangingNet$State", "plans", "LRangingNet$Table;", "RangingNet"), (RX3, 169, "RangingNet$History", "count", "I", "RangingNet")]
def nsM : List (String × Nat × MethodName × String) := [(RX1, 115, yX3_mix, "RangingNet"), (RX1, 38, yX3_floorLength, "RangingNet"), (RX1, 41, yX3_squareOf, "RangingNet")]
def xIA : String := "java/lang/IllegalArgumentException"
def xIS : String := "java/lang/IllegalStateException"
def xIO : String := "java/lang/IndexOutOfBoundsException"
def xAR : String := "java/lang/ArithmeticException"
def xcC : List String := [xIA, xIS, xIO, xAR]
def xcN : List (String × String) := [(xIA, xIS), (xIA, xIO), (xIA, xAR), (xIS, xIA), (xIS, xIO), (xIS, xAR), (xIO, xIA), (xIO, xIS), (xIO, xAR), (xAR, xIA), (xAR, xIS), (xAR, xIO)]
def xcS : List (Nat × String) := [(193, "an argument is out of range"), (40, "no room for another node"), (198, "no such node"), (196, "the nodes are not all different"), (87, "no room for another exchange"), (97, "no room for another plan"), (200, "no such exchange"), (205, "no exchange between these nodes"), (138, "no time passed on the responder's counter"), (151, "anchors are written with three digits"), (209, "the anchors stand in one line"), (213, "the coordinate does not fit into an int"), (170, "no saved state")]
def xcD : List MethodName := [⟨"java/lang/RuntimeException", "<init>", "(Ljava/lang/String;)V"⟩, ⟨"java/lang/Exception", "<init>", "(Ljava/lang/String;)V"⟩, ⟨"java/lang/Throwable", "<init>", "(Ljava/lang/String;)V"⟩]
def EV (K : EK) (U : State) : Prop := va_K K.1 vwCl (tyA K) U ∧ (∀ q ∈ nsF, va_Nw (.fieldLinkNest q.1 q.2.1 q.2.2.1 q.2.2.2.1 q.2.2.2.2.1 q.2.2.2.2.2) U) ∧ (∀ q ∈ nsM, va_Nw (.methodLinkNest q.1 q.2.1 q.2.2.1 q.2.2.2) U) ∧ va_AO "RangingNet$State" U ∧ (∀ q ∈ xcC, va_Nw (.castable q q) U) ∧ (∀ q ∈ xcS, ∃ a : Nat, vk_R RX3 q.1 q.2 a U) ∧ (∀ q ∈ xcN, va_Nc q.1 q.2 U) ∧ ∀ q ∈ xcD, va_Nw (.declares q) U
theorem EV_warm {K : EK} {s U : State} (hW : s.WarmedH U.vm) (h : EV K s) : EV K U :=
  ⟨va_K.moved hW.alike h.1, fun q hq => va_Nw.warmF hW (h.2.1 q hq), fun q hq => va_Nw.warmM hW (h.2.2.1 q hq), va_AO.moved hW.alike h.2.2.2.1, fun q hq => va_Nw.warmC hW (h.2.2.2.2.1 q hq), fun q hq => by
    obtain ⟨a, ha⟩ := h.2.2.2.2.2.1 q hq
    exact ⟨a, vk_R.warm hW ha⟩, fun q hq => va_Nc.moved hW.alike (h.2.2.2.2.2.2.1 q hq), fun q hq => va_Nw.warmD hW (h.2.2.2.2.2.2.2 q hq)⟩
theorem EV_same {K : EK} {u U : State} (hv : u.vm = U.vm) (h : EV K u) : EV K U := by
  have hA : u.vm.Alike U.vm := by rw [hv]; exact Vm.Alike.refl U.vm
  exact ⟨va_K.moved hA h.1, fun q hq => va_Nw.same rfl hv (h.2.1 q hq), fun q hq => va_Nw.same rfl hv (h.2.2.1 q hq), va_AO.moved hA h.2.2.2.1, fun q hq => va_Nw.same rfl hv (h.2.2.2.2.1 q hq), fun q hq => by
    obtain ⟨a, ha⟩ := h.2.2.2.2.2.1 q hq
    exact ⟨a, vk_R.same hv.symm ha⟩, fun q hq => va_Nc.moved hA (h.2.2.2.2.2.2.1 q hq), fun q hq => va_Nw.same rfl hv (h.2.2.2.2.2.2.2 q hq)⟩
/-! rooms by levels -/
abbrev rmL (L mc ms : Nat) : Room := { frames := L, cells := mc, slots := ms, locals := 40 * L }
/-! what a method starts from -/
def NF : Nat → Prop := fun _ => False
def ZS (A : Nat → Prop) (U : State) (H : Heap) : Prop := vx_Zq Bundle.tN "UNASSIGNED_STACK" Bundle.steD A U H ∧ vx_Zq Bundle.tN "SUPPRESSED_SENTINEL" Bundle.listD A U H
def PR (K : EK) (ws : va_W) (U : State) : Prop := EV K U ∧ va_P K.1 vwCl ws U.heap
def PX (K : EK) (ws : va_W) (U : State) : Prop := EV K U ∧ va_P K.1 vwCl ws U.heap ∧ ZS (fun q => U.heap.size ≤ q) U U.heap
def PW (K : EK) (sz : Nat) (ws : va_W) (U : State) : Prop := EV K U ∧ U.heap.size = sz ∧ va_P K.1 vwCl ws U.heap ∧ va_D (fun _ => True) ws
def PY (K : EK) (sz : Nat) (ws : va_W) (U : State) : Prop := PW K sz ws U ∧ ZS (va_A ws sz) U U.heap
def Bw {S : Type} (K : EK) (sz : Nat) (ws : va_W) (w1 : S → va_W) : S → State → Prop := fun u t => va_P K.1 vwCl (w1 u) t.heap ∧ va_D (va_A ws sz) (w1 u)
def XX (bx : String → Prop) : String → State → State → Prop := vx_X (fun _ : Unit => True) (fun E _ _ => bx E) NF
def SV (post : Prop) : Array Value → State → Outcome → State → Prop := fun _ st o t => o = .returned none ∧ post ∧ t.heap = st.heap
/-- no new heap at an answer: the answer is a cell that is there -/
def SA (post : Nat → Prop) : Array Value → State → Outcome → State → Prop := fun _ st o t => ∃ r : Nat, o = .returned (some (.ref r)) ∧ post r ∧ t.heap = st.heap
def RC (C : String) (o : Nat) (wc : va_W) : Prop := ∃ (k ci : Nat) (fs : List Value) (q : vw_C), wc[k]? = some (o, .inr (ci, fs)) ∧ vwCl[ci]? = some q ∧ q.1 = C
theorem PR_blind {K : EK} {ws : va_W} {av : List Value} : FrameBlind (va_Pc av (PR K ws)) := fun _ _ _ _ q => ⟨q.1, EV_same rfl q.2.1, q.2.2⟩
theorem PW_blind {K : EK} {sz : Nat} {ws : va_W} {av : List Value} : FrameBlind (va_Pc av (PW K sz ws)) := fun _ _ _ _ q => ⟨q.1, EV_same rfl q.2.1, q.2.2⟩
theorem ZS_moved {A : Nat → Prop} {u U : State} {H : Heap} (hvm : u.vm.Alike U.vm) (h : ZS A u H) : ZS A U H := ⟨vx_Zq.moved hvm h.1, vx_Zq.moved hvm h.2⟩
theorem ZS_kept {A : Nat → Prop} {U : State} {H H1 : Heap} (h : ZS A U H) (hq : ∀ a : Nat, a < H.size → ¬ A a → H1[a]? = H[a]?) : ZS A U H1 := ⟨vx_Zq.kept h.1 hq, vx_Zq.kept h.2 hq⟩
theorem ZS_narrow {A B : Nat → Prop} {U : State} {H : Heap} (h : ZS A U H) (hAB : ∀ q, B q → A q) : ZS B U H := ⟨vx_Zq.narrow h.1 hAB, vx_Zq.narrow h.2 hAB⟩
theorem PX_blind {K : EK} {ws : va_W} {av : List Value} : FrameBlind (va_Pc av (PX K ws)) := fun _ U _ _ q => ⟨q.1, EV_same rfl q.2.1, q.2.2.1, ZS_moved (Vm.Alike.refl U.vm) q.2.2.2⟩
theorem PY_blind {K : EK} {sz : Nat} {ws : va_W} {av : List Value} : FrameBlind (va_Pc av (PY K sz ws)) := fun _ U _ _ q => ⟨q.1, ⟨EV_same rfl q.2.1.1, q.2.1.2⟩, ZS_moved (Vm.Alike.refl U.vm) q.2.2⟩
theorem ms_fm {α β : Type} {f : α → Option β} : ∀ {is : List α} {l : List β}, is.map f = l.map some → is.filterMap f = l
  | [], [], _ => rfl
  | [], _ :: _, h => by cases h
  | _ :: _, [], h => by cases h
  | i :: is, x :: l, h => by
    simp only [List.map_cons, List.cons.injEq] at h
    rw [List.filterMap_cons, h.1, ms_fm h.2]
/-! heads of bodies -/
theorem ofWF {l : Launch} {y : MethodName} {ws ws' : List Cond} {rm : Room} {Pc : Array Value → State → Prop} {Qc : Array Value → State → Outcome → State → Prop} {mc ms : Nat} {free : Addr → Prop} {cc : ByteArray} {maxL : Nat} {ret : Option FieldType}
    (hy : plainFor y = true) (hw : ws = Cond.code y cc maxL ret :: ws')
    (body : ∀ p e s m args below meth c s₁, BodyLoose p l y (headSpec ws rm) cc maxL ret e s m args below meth c s₁ → c.maxLocals = maxL → Pc args s →
      W p l e (headSpec ws rm).room s m args below meth c s.heap [] 0 0 (MQ below Qc args s mc ms free) (entryFrame m args maxL)) : Met l y ws rm Pc Qc mc ms free := by
  refine MetFree.of_bodySF (code := cc) (maxLocals := maxL) (ret := ret) hy ?_ ?_
  · intro args s m h hn
    obtain ⟨meth, c, h1, h2, h3, h4, h5, h6, -, -⟩ := Cond.code_spec hn (atoms_spec (ws := ws) h _ (by rw [hw]; exact List.mem_cons_self))
    exact ⟨meth, c, h1, h2, h3, h4, h5, h6⟩
  · intro p e s m args below meth c s₁ B hml hP _
    have hh0 : s₁.heap = s.heap := by rw [B.state]; rfl
    obtain ⟨t, a1, o, b1, b2, b3⟩ := body p e s m args below meth c s₁ B hml hP s₁ hh0 (Stand.of_body B)
    exact ⟨t, o, a1, b1, b2, ⟨b3.1, b3.2⟩⟩
section HD
variable {l : Launch} {y : MethodName} {b : ByteArray} {mL : Nat} {rt : Option FieldType} {rm : Room} {K : EK} {ws : va_W} {av : List Value} {Qc : Array Value → State → Outcome → State → Prop}
theorem hdR (hy : plainFor y = true) (hav : (lg_sl av).length ≤ mL)
    (body : ∀ (p : Program) (e : Env) (s : State) (m : MethodId) (below : List Frame) (meth : Method) (c : Code), p.tables.exec = Jvm.exec → c.code = b → meth.sig.returnType = rt → meth.locks = false → c.maxLocals = mL → s.vm.findClass y.cls = some m.cls → (∀ w ∈ WA, w.before av.toArray s = true) → EV K s → va_P K.1 vwCl ws s.heap →
      ∀ ls : Array Slot, lv_has ls mL (lv_args 0 av) → W p l e rm s m av.toArray below meth c s.heap [] 0 0 (MQ below Qc av.toArray s 0 0 NF) (F0 m 0 ls [])) : Met l y (wq y b mL rt) rm (va_Pc av (PR K ws)) Qc 0 0 NF := by
  refine ofWF (cc := b) (maxL := mL) (ret := rt) hy rfl ?_
  intro p e s m args below meth c s₁ B hml hv
  obtain ⟨rfl, hE, hP⟩ := hv
  have hts := atoms_spec (ws := wq y b mL rt) B.pre
  have hl := lv_entry av (n := mL) hav
  rw [lg_entry_eq]
  generalize (lg_sl av ++ List.replicate (mL - (lg_sl av).length) Slot.unset).toArray = ls at hl ⊢
  exact body p e s m below meth c B.exec B.bytes B.returns B.notSynchronized hml (findClass_of_methodNamed B.named) (fun w h => hts w (List.mem_cons_of_mem _ h)) hE hP ls hl
theorem hdW {sz mc ms : Nat} (hy : plainFor y = true) (hav : (lg_sl av).length ≤ mL)
    (body : ∀ (p : Program) (e : Env) (s : State) (m : MethodId) (below : List Frame) (meth : Method) (c : Code), p.tables.exec = Jvm.exec → c.code = b → meth.sig.returnType = rt → meth.locks = false → c.maxLocals = mL → s.vm.findClass y.cls = some m.cls → meth.name = y.name → (∀ w ∈ WA, w.before av.toArray s = true) → EV K s → va_P K.1 vwCl ws s.heap →
      ∀ A : Nat → Prop, A = va_A ws sz → s.heap.size = sz → (∀ q : Nat, s.heap.size ≤ q → A q) → va_D A ws → va_S A s.heap s.heap [] →
      ∀ ls : Array Slot, lv_has ls mL (lv_args 0 av) → W p l e rm s m av.toArray below meth c s.heap [] 0 0 (MQ below Qc av.toArray s mc ms A) (F0 m 0 ls [])) : Met l y (wq y b mL rt) rm (va_Pc av (PW K sz ws)) Qc mc ms (va_A ws sz) := by
  refine ofWF (cc := b) (maxL := mL) (ret := rt) hy rfl ?_
  intro p e s m args below meth c s₁ B hml hv
  obtain ⟨rfl, hE, hz, hP, hD⟩ := hv
  have hts := atoms_spec (ws := wq y b mL rt) B.pre
  have hl := lv_entry av (n := mL) hav
  rw [lg_entry_eq]
  generalize (lg_sl av ++ List.replicate (mL - (lg_sl av).length) Slot.unset).toArray = ls at hl ⊢
  exact body p e s m below meth c B.exec B.bytes B.returns B.notSynchronized hml (findClass_of_methodNamed B.named) (name_of_methodNamed B.named B.method).1 (fun w h => hts w (List.mem_cons_of_mem _ h)) hE hP _ rfl hz (fun q h => Or.inr (by rw [← hz]; exact h)) hD.self va_S.rf ls hl
theorem hdX {mc ms : Nat} {XC : String → State → State → Prop} (hy : plainName y.cls = true) (hav : (lg_sl av).length ≤ mL)
    (body : ∀ (p : Program) (e : Env) (s : State) (m : MethodId) (below : List Frame) (meth : Method) (c : Code), p.tables.exec = Jvm.exec → c.code = b → meth.sig.returnType = rt → meth.locks = false → c.maxLocals = mL → s.vm.findClass y.cls = some m.cls → (∀ w ∈ WA, w.before av.toArray s = true) → (∀ x ∈ c.exceptionTable.toList, False) → EV K s → va_P K.1 vwCl ws s.heap →
      ∀ A : Nat → Prop, (∀ q : Nat, s.heap.size ≤ q → A q) → ZS A s s.heap →
      ∀ ls : Array Slot, lv_has ls mL (lv_args 0 av) → W p l e rm s m av.toArray below meth c s.heap [] 0 0 (vx_MQ below Qc XC av.toArray s mc ms NF) (F0 m 0 ls [])) : vx_Met l y (wq y b mL rt) rm (va_Pc av (PX K ws)) Qc XC mc ms NF := by
  refine vx_ofW (cc := b) (maxL := mL) (ret := rt) hy rfl ?_
  intro p e s m args below meth c s₁ B hml htab hv
  obtain ⟨rfl, hE, hP, hZ⟩ := hv
  have hts := atoms_spec (ws := wq y b mL rt) B.pre
  have hl := lv_entry av (n := mL) hav
  rw [lg_entry_eq]
  generalize (lg_sl av ++ List.replicate (mL - (lg_sl av).length) Slot.unset).toArray = ls at hl ⊢
  exact body p e s m below meth c B.exec B.bytes B.returns B.notSynchronized hml (findClass_of_methodNamed B.named) (fun w h => hts w (List.mem_cons_of_mem _ h)) htab hE hP _ (fun q h => h) hZ ls hl
theorem hdY {sz mc ms : Nat} {XC : String → State → State → Prop} (hy : plainName y.cls = true) (hav : (lg_sl av).length ≤ mL)
    (body : ∀ (p : Program) (e : Env) (s : State) (m : MethodId) (below : List Frame) (meth : Method) (c : Code), p.tables.exec = Jvm.exec → c.code = b → meth.sig.returnType = rt → meth.locks = false → c.maxLocals = mL → s.vm.findClass y.cls = some m.cls → (∀ w ∈ WA, w.before av.toArray s = true) → (∀ x ∈ c.exceptionTable.toList, False) → EV K s → va_P K.1 vwCl ws s.heap →
      ∀ A : Nat → Prop, A = va_A ws sz → s.heap.size = sz → (∀ q : Nat, s.heap.size ≤ q → A q) → va_D A ws → va_S A s.heap s.heap [] → ZS A s s.heap →
      ∀ ls : Array Slot, lv_has ls mL (lv_args 0 av) → W p l e rm s m av.toArray below meth c s.heap [] 0 0 (vx_MQ below Qc XC av.toArray s mc ms A) (F0 m 0 ls [])) : vx_Met l y (wq y b mL rt) rm (va_Pc av (PY K sz ws)) Qc XC mc ms (va_A ws sz) := by
  refine vx_ofW (cc := b) (maxL := mL) (ret := rt) hy rfl ?_
  intro p e s m args below meth c s₁ B hml htab hv
  obtain ⟨rfl, ⟨hE, hz, hP, hD⟩, hZ⟩ := hv
  have hts := atoms_spec (ws := wq y b mL rt) B.pre
  have hl := lv_entry av (n := mL) hav
  rw [lg_entry_eq]
  generalize (lg_sl av ++ List.replicate (mL - (lg_sl av).length) Slot.unset).toArray = ls at hl ⊢
  exact body p e s m below meth c B.exec B.bytes B.returns B.notSynchronized hml (findClass_of_methodNamed B.named) (fun w h => hts w (List.mem_cons_of_mem _ h)) htab hE hP _ rfl hz (fun q h => Or.inr (by rw [← hz]; exact h)) hD.self va_S.rf hZ ls hl
end HD
