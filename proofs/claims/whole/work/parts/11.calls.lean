/-! ends, and calls: readers, writers, checkers -/
section EC
variable {p : Program} {l : Launch} {e : Env} {R : Room} {s : State} {m : MethodId} {args : Array Value} {below : List Frame} {meth : Method} {c : Code} {H : Heap} {locs : List Loc} {cells slots mc ms : Nat} {Q : State → Prop} {cc : ByteArray} {pc : Nat} {ls : Array Slot} {free : Addr → Prop}
theorem eI {post : Int32 → Prop} {v : Int32} (hx : p.tables.exec = Jvm.exec) (hb : c.code = cc) (hr : meth.sig.returnType = some .int) (hlocks : meth.locks = false) (hp : post v) (hdg : decode cc pc = .ok (.ireturn, 1)) : W p l e R s m args below meth c s.heap [] cells slots (MQ below (vp_Si post) args s cells slots free) (F0 m pc ls [.int v]) :=
  W.iret (v := v) hx hb hr (fun _ ht _ => ⟨v, rfl, hp, ht⟩) (fun _ h => nomatch h) hdg hlocks
theorem eZ {post : Int32 → Prop} {v : Int32} (hx : p.tables.exec = Jvm.exec) (hb : c.code = cc) (hr : meth.sig.returnType = some .boolean) (hlocks : meth.locks = false) (h01 : v = 0 ∨ v = 1) (hp : post v) (hdg : decode cc pc = .ok (.ireturn, 1)) : W p l e R s m args below meth c s.heap [] cells slots (MQ below (vp_Si post) args s cells slots free) (F0 m pc ls [.int v]) :=
  W.zret (v := v) hx hb hr (by rcases h01 with rfl | rfl <;> rfl) (fun _ ht _ => ⟨v, rfl, hp, ht⟩) (fun _ h => nomatch h) hdg hlocks
theorem eL {post : Int64 → Prop} {v : Int64} (hx : p.tables.exec = Jvm.exec) (hb : c.code = cc) (hr : meth.sig.returnType = some .long) (hlocks : meth.locks = false) (hp : post v) (hdg : decode cc pc = .ok (.lreturn, 1)) : W p l e R s m args below meth c s.heap [] cells slots (MQ below (vp_Sl post) args s cells slots free) (F0 m pc ls [.long v]) :=
  W.lret (v := v) hx hb hr (fun _ ht _ => ⟨v, rfl, hp, ht⟩) (fun _ h => nomatch h) hdg hlocks
theorem eD {post : UInt64 → Prop} {v : UInt64} (hx : p.tables.exec = Jvm.exec) (hb : c.code = cc) (hr : meth.sig.returnType = some .double) (hlocks : meth.locks = false) (hp : post v) (hdg : decode cc pc = .ok (.dreturn, 1)) : W p l e R s m args below meth c s.heap [] cells slots (MQ below (vp_Sd post) args s cells slots free) (F0 m pc ls [.double v]) :=
  W.dret (v := v) hx hb hr (fun _ ht _ => ⟨v, rfl, hp, ht⟩) (fun _ h => nomatch h) hdg hlocks
theorem eV {post : Prop} (hx : p.tables.exec = Jvm.exec) (hb : c.code = cc) (hr : meth.sig.returnType = none) (hlocks : meth.locks = false) (hp : post) (hdg : decode cc pc = .ok (.return_, 1)) : W p l e R s m args below meth c s.heap [] cells slots (MQ below (SV post) args s cells slots free) (F0 m pc ls []) :=
  W.vret hx hb hr (fun _ ht _ => ⟨rfl, hp, ht⟩) (fun _ h => nomatch h) hdg hlocks
theorem eA {post : Nat → Prop} {v : Nat} {C : String} (hx : p.tables.exec = Jvm.exec) (hb : c.code = cc) (hr : meth.sig.returnType = some (.object C)) (hlocks : meth.locks = false) (hp : post v) (hdg : decode cc pc = .ok (.areturn, 1)) : W p l e R s m args below meth c s.heap [] cells slots (MQ below (SA post) args s cells slots free) (F0 m pc ls [.ref v]) :=
  W.aret (v := .ref v) hx hb hr (Or.inl ⟨C, rfl⟩) (Or.inr ⟨v, rfl⟩) (fun _ ht _ => ⟨v, rfl, hp, ht⟩) (fun _ h => nomatch h) hdg hlocks
/-- ends of writers: the world behind, in the order of the contract -/
theorem fI {S : Type} {post : Int32 → S → Prop} {K : EK} {sz : Nat} {ws wf : va_W} {w1 : S → va_W} {A : Nat → Prop} {v : Int32} (u : S) (hx : p.tables.exec = Jvm.exec) (hb : c.code = cc) (hr : meth.sig.returnType = some .int) (hlocks : meth.locks = false) (hAe : A = va_A ws sz) (hP : va_P K.1 vwCl wf H) (hD : va_D A wf) (hS : va_S A s.heap H locs) (is : List Nat) (hn : va_nd is = true) (hs : is.map (fun i => wf[i]?) = (w1 u).map some) (hp : post v u) (hdg : decode cc pc = .ok (.ireturn, 1)) :
    W p l e R s m args below meth c H locs cells slots (MQ below (va_Qi post (Bw K sz ws w1) (va_A ws sz)) args s cells slots A) (F0 m pc ls [.int v]) := by
  subst hAe
  exact W.iret (v := v) hx hb hr (fun t ht _ => ⟨⟨v, u, rfl, hp, by rw [ht]; exact hP.sub is (ms_fm hs), hD.sub is hn hs⟩, hS.F ht⟩) hS.2.2 hdg hlocks
theorem fZ {S : Type} {post : Int32 → S → Prop} {K : EK} {sz : Nat} {ws wf : va_W} {w1 : S → va_W} {A : Nat → Prop} {v : Int32} (u : S) (hx : p.tables.exec = Jvm.exec) (hb : c.code = cc) (hr : meth.sig.returnType = some .boolean) (hlocks : meth.locks = false) (hAe : A = va_A ws sz) (hP : va_P K.1 vwCl wf H) (hD : va_D A wf) (hS : va_S A s.heap H locs) (is : List Nat) (hn : va_nd is = true) (hs : is.map (fun i => wf[i]?) = (w1 u).map some) (h01 : v = 0 ∨ v = 1) (hp : post v u) (hdg : decode cc pc = .ok (.ireturn, 1)) :
    W p l e R s m args below meth c H locs cells slots (MQ below (va_Qi post (Bw K sz ws w1) (va_A ws sz)) args s cells slots A) (F0 m pc ls [.int v]) := by
  subst hAe
  exact W.zret (v := v) hx hb hr (by rcases h01 with rfl | rfl <;> rfl) (fun t ht _ => ⟨⟨v, u, rfl, hp, by rw [ht]; exact hP.sub is (ms_fm hs), hD.sub is hn hs⟩, hS.F ht⟩) hS.2.2 hdg hlocks
theorem fL {S : Type} {post : Int64 → S → Prop} {K : EK} {sz : Nat} {ws wf : va_W} {w1 : S → va_W} {A : Nat → Prop} {v : Int64} (u : S) (hx : p.tables.exec = Jvm.exec) (hb : c.code = cc) (hr : meth.sig.returnType = some .long) (hlocks : meth.locks = false) (hAe : A = va_A ws sz) (hP : va_P K.1 vwCl wf H) (hD : va_D A wf) (hS : va_S A s.heap H locs) (is : List Nat) (hn : va_nd is = true) (hs : is.map (fun i => wf[i]?) = (w1 u).map some) (hp : post v u) (hdg : decode cc pc = .ok (.lreturn, 1)) :
    W p l e R s m args below meth c H locs cells slots (MQ below (va_Ql post (Bw K sz ws w1) (va_A ws sz)) args s cells slots A) (F0 m pc ls [.long v]) := by
  subst hAe
  exact W.lret (v := v) hx hb hr (fun t ht _ => ⟨⟨v, u, rfl, hp, by rw [ht]; exact hP.sub is (ms_fm hs), hD.sub is hn hs⟩, hS.F ht⟩) hS.2.2 hdg hlocks
theorem fD {S : Type} {post : UInt64 → S → Prop} {K : EK} {sz : Nat} {ws wf : va_W} {w1 : S → va_W} {A : Nat → Prop} {v : UInt64} (u : S) (hx : p.tables.exec = Jvm.exec) (hb : c.code = cc) (hr : meth.sig.returnType = some .double) (hlocks : meth.locks = false) (hAe : A = va_A ws sz) (hP : va_P K.1 vwCl wf H) (hD : va_D A wf) (hS : va_S A s.heap H locs) (is : List Nat) (hn : va_nd is = true) (hs : is.map (fun i => wf[i]?) = (w1 u).map some) (hp : post v u) (hdg : decode cc pc = .ok (.dreturn, 1)) :
    W p l e R s m args below meth c H locs cells slots (MQ below (va_Qd post (Bw K sz ws w1) (va_A ws sz)) args s cells slots A) (F0 m pc ls [.double v]) := by
  subst hAe
  exact W.dret (v := v) hx hb hr (fun t ht _ => ⟨⟨v, u, rfl, hp, by rw [ht]; exact hP.sub is (ms_fm hs), hD.sub is hn hs⟩, hS.F ht⟩) hS.2.2 hdg hlocks
theorem fV {S : Type} {post : S → Prop} {K : EK} {sz : Nat} {ws wf : va_W} {w1 : S → va_W} {A : Nat → Prop} (u : S) (hx : p.tables.exec = Jvm.exec) (hb : c.code = cc) (hr : meth.sig.returnType = none) (hlocks : meth.locks = false) (hAe : A = va_A ws sz) (hP : va_P K.1 vwCl wf H) (hD : va_D A wf) (hS : va_S A s.heap H locs) (is : List Nat) (hn : va_nd is = true) (hs : is.map (fun i => wf[i]?) = (w1 u).map some) (hp : post u) (hdg : decode cc pc = .ok (.return_, 1)) :
    W p l e R s m args below meth c H locs cells slots (MQ below (va_Qv post (Bw K sz ws w1) (va_A ws sz)) args s cells slots A) (F0 m pc ls []) := by
  subst hAe
  exact W.vret hx hb hr (fun t ht _ => ⟨⟨u, rfl, hp, by rw [ht]; exact hP.sub is (ms_fm hs), hD.sub is hn hs⟩, hS.F ht⟩) hS.2.2 hdg hlocks
/-- a join: what comes behind, once for all values on top -/
theorem jn {P : Int32 → Prop} (pcJ : Nat) (rest : List Value) {st0 : List Value} (h1 : ∀ v, P v → W p l e R s m args below meth c H locs cells slots Q (F0 m pcJ ls (.int v :: rest))) (h2 : (∀ v, P v → W p l e R s m args below meth c H locs cells slots Q (F0 m pcJ ls (.int v :: rest))) → W p l e R s m args below meth c H locs cells slots Q (F0 m pc ls st0)) : W p l e R s m args below meth c H locs cells slots Q (F0 m pc ls st0) := h2 h1
theorem jnL {P : Int64 → Prop} (pcJ : Nat) (rest : List Value) {st0 : List Value} (h1 : ∀ v, P v → W p l e R s m args below meth c H locs cells slots Q (F0 m pcJ ls (.long v :: rest))) (h2 : (∀ v, P v → W p l e R s m args below meth c H locs cells slots Q (F0 m pcJ ls (.long v :: rest))) → W p l e R s m args below meth c H locs cells slots Q (F0 m pc ls st0)) : W p l e R s m args below meth c H locs cells slots Q (F0 m pc ls st0) := h2 h1
/-- a join without a value -/
theorem jn0 (pcJ : Nat) {st1 st0 : List Value} (h1 : W p l e R s m args below meth c H locs cells slots Q (F0 m pcJ ls st1)) (h2 : W p l e R s m args below meth c H locs cells slots Q (F0 m pcJ ls st1) → W p l e R s m args below meth c H locs cells slots Q (F0 m pc ls st0)) : W p l e R s m args below meth c H locs cells slots Q (F0 m pc ls st0) := h2 h1
/-- a loop that only reads: its locals by a list, a measure that falls -/
theorem lpR {α : Type} (I : α → Prop) (μ : α → Nat) (LV : α → List (Nat × Value)) (nL pcH : Nat)
    (body : ∀ a : α, I a → (∀ b : α, I b → μ b < μ a → ∀ ls : Array Slot, lv_has ls nL (LV b) → W p l e R s m args below meth c H locs cells slots Q (F0 m pcH ls [])) → ∀ ls : Array Slot, lv_has ls nL (LV a) → W p l e R s m args below meth c H locs cells slots Q (F0 m pcH ls [])) :
    ∀ a : α, I a → ∀ ls : Array Slot, lv_has ls nL (LV a) → W p l e R s m args below meth c H locs cells slots Q (F0 m pcH ls []) := by
  have key : ∀ (n : Nat) (a : α), μ a < n → I a → ∀ ls : Array Slot, lv_has ls nL (LV a) → W p l e R s m args below meth c H locs cells slots Q (F0 m pcH ls []) := by
    intro n
    induction n with
    | zero => intro a h; exact absurd h (Nat.not_lt_zero _)
    | succ n ih => intro a h ha; exact body a ha (fun b hb hm => ih b (by omega) hb)
  exact fun a ha => key (μ a + 1) a (Nat.lt_succ_self _) ha
/-- a loop that writes its world -/
theorem lpW {α : Type} {K : EK} {A : Nat → Prop} {H0 : Heap} (I : α → Prop) (μ : α → Nat) (LV : α → List (Nat × Value)) (WS : α → va_W) (nL pcH : Nat)
    (body : ∀ a : α, I a → (∀ b : α, I b → μ b < μ a → ∀ (ls : Array Slot) (H : Heap) (locs : List Loc), lv_has ls nL (LV b) → va_P K.1 vwCl (WS b) H → va_D A (WS b) → va_S A H0 H locs → W p l e R s m args below meth c H locs cells slots Q (F0 m pcH ls [])) → ∀ (ls : Array Slot) (H : Heap) (locs : List Loc), lv_has ls nL (LV a) → va_P K.1 vwCl (WS a) H → va_D A (WS a) → va_S A H0 H locs → W p l e R s m args below meth c H locs cells slots Q (F0 m pcH ls [])) :
    ∀ a : α, I a → ∀ (ls : Array Slot) (H : Heap) (locs : List Loc), lv_has ls nL (LV a) → va_P K.1 vwCl (WS a) H → va_D A (WS a) → va_S A H0 H locs → W p l e R s m args below meth c H locs cells slots Q (F0 m pcH ls []) := by
  have key : ∀ (n : Nat) (a : α), μ a < n → I a → ∀ (ls : Array Slot) (H : Heap) (locs : List Loc), lv_has ls nL (LV a) → va_P K.1 vwCl (WS a) H → va_D A (WS a) → va_S A H0 H locs → W p l e R s m args below meth c H locs cells slots Q (F0 m pcH ls []) := by
    intro n
    induction n with
    | zero => intro a h; exact absurd h (Nat.not_lt_zero _)
    | succ n ih => intro a h ha; exact body a ha (fun b hb hm => ih b (by omega) hb)
  exact fun a ha => key (μ a + 1) a (Nat.lt_succ_self _) ha
end EC
theorem run_call {p : Program} {l : Launch} {e : Env} {R : Room} {s : State} {m : MethodId} {args : Array Value} {below : List Frame} {meth : Method} {c : Code} {H : Heap} {locs : List Loc} {cells slots mc ms : Nat} {g : JFrame} {rest : List Value} {Qa : State → Outcome → State → Prop} {free : Addr → Prop} (h : va_Run p l e R s m args below meth c H locs cells slots mc ms g rest Qa free) : CallRun p l e R s m args below meth c H locs cells slots mc ms g rest Qa free := by
  intro T hT X
  obtain ⟨v, st₀, t, T', L, h0, X', hL, e1, -, hq, st⟩ := h T hT X
  exact ⟨v, st₀, t, T', L, h0, X', hL, e1, hq, st⟩
section RD
variable {p : Program} {l : Launch} {e : Env} {R : Room} {s : State} {m : MethodId} {args : Array Value} {below : List Frame} {meth : Method} {c : Code} {H : Heap} {locs : List Loc} {cells slots : Nat} {Q : State → Prop} {cc : ByteArray} {pc : Nat} {ls : Array Slot} {st0 : List Value}
variable {y : MethodName} {b : ByteArray} {mL nL idx o : Nat} {rt : Option FieldType} {rm : Room} {K : EK} {ws wc : va_W} {own : String}
abbrev okN (y : MethodName) (n : Nat) : Prop := y.cls ≠ "java/lang/invoke/MethodHandle" ∧ y.cls ≠ "java/lang/invoke/VarHandle" ∧ (parseMethodDescriptor y.desc).map (fun d => d.parameters.length) = some n
abbrev okR (R rm : Room) (mL : Nat) : Prop := (rm.frames + 1 ≤ R.frames ∧ 8 + (mL + 11) + rm.locals ≤ R.locals) ∧ rm.cells = 0 ∧ rm.slots = 0
theorem rd_recv {C : String} {H : Heap} (hE : EV K s) (hP : va_P K.1 vwCl wc H) (h : RC C o wc) : ∃ cellB : Cell, H[o]? = some cellB ∧ cellB.vm.isStatics = false ∧ s.vm.findClass C = some cellB.cls := by
  obtain ⟨k, ci, fs, q, h1, h2, rfl⟩ := h
  exact va_recv hE.1 hP (ci := ci) (q0 := k) h2 h1
/-- a reader, called on an object -/
theorem rdV {Qc : Array Value → State → Outcome → State → Prop} {As rest : List Value} (hM : Met l y (wq y b mL rt) rm (va_Pc (.ref o :: As) (PR K wc)) Qc 0 0 NF) (S : CallFix p m c cc nL s args WA own) (hg : GoodIn WA (wsV own idx y.cls y (wq y b mL rt))) (hd : okN y As.length) (hR : okR R rm mL) (hE : EV K s) (hP : va_P K.1 vwCl ws H) (is : List Nat) (hs : is.map (fun i => ws[i]?) = wc.map some) (hrc : RC y.cls o wc)
    (hsize : ls.size = nL) (hst : st0 = As.reverse ++ .ref o :: rest) (hcat : (rest.map fun v => v.category).sum ≤ 8) (hdg : decode cc pc = .ok (.invokevirtual idx, 3)) (hc : cells ≤ R.cells ∧ slots ≤ R.slots) : CallRun p l e R s m args below meth c H locs cells slots 0 0 (F0 m pc ls st0) rest (Qc (Value.ref o :: As).toArray) NF := by
  have hP2 := hP.sub is (ms_fm hs)
  exact W.runV (As := As) (rest := rest) S hM (cwV As.length S.2.2.2.2 hg rfl hR.2.1 hR.2.2 ⟨rfl, hd⟩ hR.1) ⟨PR_blind, rd_recv hE hP2 hrc, fun U hU hW => ⟨rfl, EV_warm hW hE, by rw [hU]; exact hP2⟩⟩ rfl rfl hsize hst (lv_room hcat) hdg hc
theorem rdS {Qc : Array Value → State → Outcome → State → Prop} {As rest : List Value} (hM : Met l y (wq y b mL rt) rm (va_Pc As (PR K wc)) Qc 0 0 NF) (S : CallFix p m c cc nL s args WA own) (hg : GoodIn WA (va_wsS own idx y (wq y b mL rt))) (hd : okN y As.length) (hR : okR R rm mL) (hE : EV K s) (hP : va_P K.1 vwCl ws H) (is : List Nat) (hs : is.map (fun i => ws[i]?) = wc.map some)
    (hsize : ls.size = nL) (hst : st0 = As.reverse ++ rest) (hcat : (rest.map fun v => v.category).sum ≤ 8) (hdg : decode cc pc = .ok (.invokestatic idx, 3)) (hc : cells ≤ R.cells ∧ slots ≤ R.slots) : CallRun p l e R s m args below meth c H locs cells slots 0 0 (F0 m pc ls st0) rest (Qc As.toArray) NF := by
  have hP2 := hP.sub is (ms_fm hs)
  exact W.runS (As := As) (rest := rest) S hM (va_cwS As.length S.2.2.2.2 hg rfl hR.2.1 hR.2.2 hd hR.1) ⟨PR_blind, fun U hU hW => ⟨rfl, EV_warm hW hE, by rw [hU]; exact hP2⟩⟩ rfl rfl hsize hst (lv_room hcat) hdg hc
theorem rdN {Qc : Array Value → State → Outcome → State → Prop} {host : String} {As rest : List Value} (hM : Met l y (wq y b mL rt) rm (va_Pc As (PR K wc)) Qc 0 0 NF) (S : CallFix p m c cc nL s args WA own) (hg : Cond.code y b mL rt ∈ WA ∧ Cond.static y ∈ WA ∧ Cond.initialized y.cls ∈ WA ∧ (own, idx, y, host) ∈ nsM) (hd : okN y As.length) (hR : okR R rm mL) (hE : EV K s) (hP : va_P K.1 vwCl ws H) (is : List Nat) (hs : is.map (fun i => ws[i]?) = wc.map some)
    (hsize : ls.size = nL) (hst : st0 = As.reverse ++ rest) (hcat : (rest.map fun v => v.category).sum ≤ 8) (hdg : decode cc pc = .ok (.invokestatic idx, 3)) (hc : cells ≤ R.cells ∧ slots ≤ R.slots) : CallRun p l e R s m args below meth c H locs cells slots 0 0 (F0 m pc ls st0) rest (Qc As.toArray) NF := by
  have hP2 := hP.sub is (ms_fm hs)
  exact run_call (va_runSN (As := As) (rest := rest) (host := host) S hM ⟨va_cnB As.length S.2.2.2.2 (gC hg.1) rfl hR.2.1 hR.2.2 (hE.2.2.1 _ hg.2.2.2) (S.2.2.2.2 _ hg.2.2.1) hd hR.1, S.2.2.2.2 _ hg.2.1, trivial⟩ ⟨PR_blind, fun U hU hW => ⟨rfl, EV_warm hW hE, by rw [hU]; exact hP2⟩⟩ rfl rfl hsize hst (lv_room hcat) hdg hc)
theorem goI {post : Int32 → Prop} {a : Array Value} {rest : List Value} (hr : CallRun p l e R s m args below meth c H locs cells slots 0 0 (F0 m pc ls st0) rest (vp_Si post a) NF) (kk : ∀ r : Int32, post r → W p l e R s m args below meth c H locs cells slots Q (F0 m (pc + 3) ls (.int r :: rest))) : W p l e R s m args below meth c H locs cells slots Q (F0 m pc ls st0) := vp_callSi hr kk
theorem goL {post : Int64 → Prop} {a : Array Value} {rest : List Value} (hr : CallRun p l e R s m args below meth c H locs cells slots 0 0 (F0 m pc ls st0) rest (vp_Sl post a) NF) (kk : ∀ r : Int64, post r → W p l e R s m args below meth c H locs cells slots Q (F0 m (pc + 3) ls (.long r :: rest))) : W p l e R s m args below meth c H locs cells slots Q (F0 m pc ls st0) := vp_callSl hr kk
theorem goV {post : Prop} {a : Array Value} {rest : List Value} (hr : CallRun p l e R s m args below meth c H locs cells slots 0 0 (F0 m pc ls st0) rest (SV post a) NF) (kk : post → W p l e R s m args below meth c H locs cells slots Q (F0 m (pc + 3) ls rest)) : W p l e R s m args below meth c H locs cells slots Q (F0 m pc ls st0) := by
  intro T hT X
  obtain ⟨v, st₀, t, T', L, h0, X', hL, e1, ⟨hv, hp, hh⟩, st⟩ := hr T hT X
  cases hv
  obtain ⟨t2, a1, b1⟩ := kk hp T' (by rw [e1, hh, h0]) (Stand.forget X' (fun q h => (hL q h).elim))
  exact ⟨t2, st t2 a1, b1⟩
theorem goA {post : Nat → Prop} {a : Array Value} {rest : List Value} (hr : CallRun p l e R s m args below meth c H locs cells slots 0 0 (F0 m pc ls st0) rest (SA post a) NF) (kk : ∀ r : Nat, post r → W p l e R s m args below meth c H locs cells slots Q (F0 m (pc + 3) ls (.ref r :: rest))) : W p l e R s m args below meth c H locs cells slots Q (F0 m pc ls st0) := by
  intro T hT X
  obtain ⟨v, st₀, t, T', L, h0, X', hL, e1, ⟨r, hv, hp, hh⟩, st⟩ := hr T hT X
  cases hv
  obtain ⟨t2, a1, b1⟩ := kk r hp T' (by rw [e1, hh, h0]) (Stand.forget X' (fun q h => (hL q h).elim))
  exact ⟨t2, st t2 a1, b1⟩
end RD
section WR
variable {p : Program} {l : Launch} {e : Env} {R : Room} {s : State} {m : MethodId} {args : Array Value} {below : List Frame} {meth : Method} {c : Code} {H : Heap} {locs : List Loc} {cells slots : Nat} {Q : State → Prop} {cc : ByteArray} {pc : Nat} {ls : Array Slot} {st0 : List Value}
variable {y : MethodName} {b : ByteArray} {mL nL idx o mc ms : Nat} {rt : Option FieldType} {rm : Room} {K : EK} {ws wc wr : va_W} {own : String} {A : Nat → Prop}
abbrev okW (R rm : Room) (mL mc ms cells slots : Nat) : Prop := (rm.frames + 1 ≤ R.frames ∧ 8 + (mL + 11) + rm.locals ≤ R.locals) ∧ (rm.cells = mc ∧ rm.slots = ms) ∧ cells + mc ≤ R.cells ∧ slots + ms ≤ R.slots
theorem wrV {Qc : Array Value → State → Outcome → State → Prop} {As rest : List Value} (hM : Met l y (wq y b mL rt) rm (va_Pc (.ref o :: As) (PW K H.size wc)) Qc mc ms (va_A wc H.size)) (S : CallFix p m c cc nL s args WA own) (hg : GoodIn WA (wsV own idx y.cls y (wq y b mL rt))) (hd : okN y As.length) (hR : okW R rm mL mc ms cells slots) (hE : EV K s) (hP : va_P K.1 vwCl ws H) (hD : va_D A ws) (is : List Nat) (hn : va_nd is = true) (hs : is.map (fun i => ws[i]?) = wc.map some) (hrc : RC y.cls o wc)
    (hsize : ls.size = nL) (hst : st0 = As.reverse ++ .ref o :: rest) (hcat : (rest.map fun v => v.category).sum ≤ 8) (hdg : decode cc pc = .ok (.invokevirtual idx, 3)) : va_Run p l e R s m args below meth c H locs cells slots mc ms (F0 m pc ls st0) rest (Qc (Value.ref o :: As).toArray) (va_A wc H.size) := by
  have hP2 := hP.sub is (ms_fm hs)
  have hD2 := hD.sub is hn hs
  exact va_runV (As := As) (rest := rest) S hM (cwV As.length S.2.2.2.2 hg rfl hR.2.1.1 hR.2.1.2 ⟨rfl, hd⟩ hR.1) ⟨PW_blind, rd_recv hE hP2 hrc, fun U hU hW => ⟨rfl, EV_warm hW hE, by rw [hU], by rw [hU]; exact hP2, hD2.weaken (fun _ _ _ _ => trivial)⟩⟩ rfl rfl hsize hst (lv_room hcat) hdg hR.2.2
/-- .. a constructor -/
theorem wrI {Qc : Array Value → State → Outcome → State → Prop} {As rest : List Value} (hM : Met l y (wq y b mL none) rm (va_Pc (.ref o :: As) (PW K H.size wc)) Qc mc ms (va_A wc H.size)) (S : CallFix p m c cc nL s args WA own) (hg : Cond.methodLink own idx y ∈ WA ∧ Cond.instanceMethod y ∈ WA ∧ Cond.initialized y.cls ∈ WA ∧ Cond.code y b mL none ∈ WA ∧ y.name = "<init>") (hd : okN y As.length) (hR : okW R rm mL mc ms cells slots) (hE : EV K s) (hP : va_P K.1 vwCl ws H) (hD : va_D A ws) (is : List Nat) (hn : va_nd is = true) (hs : is.map (fun i => ws[i]?) = wc.map some)
    (hsize : ls.size = nL) (hst : st0 = As.reverse ++ .ref o :: rest) (hcat : (rest.map fun v => v.category).sum ≤ 8) (hdg : decode cc pc = .ok (.invokespecial idx, 3)) : va_Run p l e R s m args below meth c H locs cells slots mc ms (F0 m pc ls st0) rest (Qc (Value.ref o :: As).toArray) (va_A wc H.size) := by
  have hP2 := hP.sub is (ms_fm hs)
  have hD2 := hD.sub is hn hs
  exact va_runI (As := As) (rest := rest) S hM (cwI As.length S.2.2.2.2 (gC hg.2.2.2.1) rfl hR.2.1.1 hR.2.1.2 (S.2.2.2.2 _ hg.2.2.1) (S.2.2.2.2 _ hg.1) (S.2.2.2.2 _ hg.2.1) hg.2.2.2.2 hd hR.1) ⟨PW_blind, fun U hU hW => ⟨rfl, EV_warm hW hE, by rw [hU], by rw [hU]; exact hP2, hD2.weaken (fun _ _ _ _ => trivial)⟩⟩ rfl rfl hsize hst (lv_room hcat) hdg hR.2.2
/-- the world behind a writer: the rest and what came back, in an order of the caller's -/
theorem wr_join {S : Type} {w1 : S → va_W} {H1 : Heap} {u : S} {t : State} (hP : va_P K.1 vwCl ws H) (hD : va_D A ws) (hF : ∀ q, va_A wc H.size q → A q) (isC isR : List Nat) (hC : isC.map (fun i => ws[i]?) = wc.map some) (hRr : isR.map (fun i => ws[i]?) = wr.map some) (hn : va_nd isR = true) (hdis : ∀ i ∈ isR, i ∉ isC) (hk : ∀ q : Nat, q < H.size → ¬ va_A wc H.size q → H1[q]? = H[q]?) (ht : t.heap = H1) (hB : Bw K H.size wc w1 u t) (ip : List Nat) {wf : va_W} (hip : va_nd ip = true) (hf : ip.map (fun i => (wr ++ w1 u)[i]?) = wf.map some) : va_P K.1 vwCl wf H1 ∧ va_D A wf := by
  obtain ⟨h1, h2⟩ := hB
  rw [ht] at h1
  obtain ⟨g1, g2⟩ := va_join hP hD isC isR hC hRr hn hdis hk hF h1 h2
  exact ⟨g1.sub ip (ms_fm hf), g2.sub ip hip hf⟩
abbrev okJ {S : Type} (ws wc wr : va_W) (w1 wf : S → va_W) (isC isR ip : List Nat) : Prop := isC.map (fun i => ws[i]?) = wc.map some ∧ isR.map (fun i => ws[i]?) = wr.map some ∧ va_nd isR = true ∧ (∀ i ∈ isR, i ∉ isC) ∧ va_nd ip = true ∧ ∀ u : S, ip.map (fun i => (wr ++ w1 u)[i]?) = (wf u).map some
theorem woI {S : Type} {post : Int32 → S → Prop} {w1 : S → va_W} {a : Array Value} {rest : List Value} (hr : va_Run p l e R s m args below meth c H locs cells slots mc ms (F0 m pc ls st0) rest (va_Qi post (Bw K H.size wc w1) (va_A wc H.size) a) (va_A wc H.size)) (hP : va_P K.1 vwCl ws H) (hD : va_D A ws) (hS : va_S A s.heap H locs) (hA : ∀ q : Nat, s.heap.size ≤ q → A q) (wr : va_W) (wf : S → va_W) (isC isR ip : List Nat) (J : okJ ws wc wr w1 wf isC isR ip)
    (kk : ∀ (r : Int32) (u : S) (H1 : Heap) (locs1 : List Loc), post r u → va_P K.1 vwCl (wf u) H1 → va_D A (wf u) → va_S A s.heap H1 locs1 → W p l e R s m args below meth c H1 locs1 (cells + mc) (slots + ms) Q (F0 m (pc + 3) ls (.int r :: rest))) : W p l e R s m args below meth c H locs cells slots Q (F0 m pc ls st0) := by
  have hF := va_free (wc := wc) hD hS hA isC J.1
  refine va_calli hr hS (fun q _ h => hF q h) hF (fun r u t H1 locs1 ht hvm hp hB hz hk hS1 => ?_)
  obtain ⟨g1, g2⟩ := wr_join hP hD hF isC isR J.1 J.2.1 J.2.2.1 J.2.2.2.1 hk ht hB ip J.2.2.2.2.1 (J.2.2.2.2.2 u)
  exact kk r u H1 locs1 hp g1 g2 hS1
theorem woL {S : Type} {post : Int64 → S → Prop} {w1 : S → va_W} {a : Array Value} {rest : List Value} (hr : va_Run p l e R s m args below meth c H locs cells slots mc ms (F0 m pc ls st0) rest (va_Ql post (Bw K H.size wc w1) (va_A wc H.size) a) (va_A wc H.size)) (hP : va_P K.1 vwCl ws H) (hD : va_D A ws) (hS : va_S A s.heap H locs) (hA : ∀ q : Nat, s.heap.size ≤ q → A q) (wr : va_W) (wf : S → va_W) (isC isR ip : List Nat) (J : okJ ws wc wr w1 wf isC isR ip)
    (kk : ∀ (r : Int64) (u : S) (H1 : Heap) (locs1 : List Loc), post r u → va_P K.1 vwCl (wf u) H1 → va_D A (wf u) → va_S A s.heap H1 locs1 → W p l e R s m args below meth c H1 locs1 (cells + mc) (slots + ms) Q (F0 m (pc + 3) ls (.long r :: rest))) : W p l e R s m args below meth c H locs cells slots Q (F0 m pc ls st0) := by
  have hF := va_free (wc := wc) hD hS hA isC J.1
  refine va_calll hr hS (fun q _ h => hF q h) hF (fun r u t H1 locs1 ht hvm hp hB hz hk hS1 => ?_)
  obtain ⟨g1, g2⟩ := wr_join hP hD hF isC isR J.1 J.2.1 J.2.2.1 J.2.2.2.1 hk ht hB ip J.2.2.2.2.1 (J.2.2.2.2.2 u)
  exact kk r u H1 locs1 hp g1 g2 hS1
theorem woD {S : Type} {post : UInt64 → S → Prop} {w1 : S → va_W} {a : Array Value} {rest : List Value} (hr : va_Run p l e R s m args below meth c H locs cells slots mc ms (F0 m pc ls st0) rest (va_Qd post (Bw K H.size wc w1) (va_A wc H.size) a) (va_A wc H.size)) (hP : va_P K.1 vwCl ws H) (hD : va_D A ws) (hS : va_S A s.heap H locs) (hA : ∀ q : Nat, s.heap.size ≤ q → A q) (wr : va_W) (wf : S → va_W) (isC isR ip : List Nat) (J : okJ ws wc wr w1 wf isC isR ip)
    (kk : ∀ (r : UInt64) (u : S) (H1 : Heap) (locs1 : List Loc), post r u → va_P K.1 vwCl (wf u) H1 → va_D A (wf u) → va_S A s.heap H1 locs1 → W p l e R s m args below meth c H1 locs1 (cells + mc) (slots + ms) Q (F0 m (pc + 3) ls (.double r :: rest))) : W p l e R s m args below meth c H locs cells slots Q (F0 m pc ls st0) := by
  have hF := va_free (wc := wc) hD hS hA isC J.1
  refine va_calld hr hS (fun q _ h => hF q h) hF (fun r u t H1 locs1 ht hvm hp hB hz hk hS1 => ?_)
  obtain ⟨g1, g2⟩ := wr_join hP hD hF isC isR J.1 J.2.1 J.2.2.1 J.2.2.2.1 hk ht hB ip J.2.2.2.2.1 (J.2.2.2.2.2 u)
  exact kk r u H1 locs1 hp g1 g2 hS1
theorem woV {S : Type} {post : S → Prop} {w1 : S → va_W} {a : Array Value} {rest : List Value} (hr : va_Run p l e R s m args below meth c H locs cells slots mc ms (F0 m pc ls st0) rest (va_Qv post (Bw K H.size wc w1) (va_A wc H.size) a) (va_A wc H.size)) (hP : va_P K.1 vwCl ws H) (hD : va_D A ws) (hS : va_S A s.heap H locs) (hA : ∀ q : Nat, s.heap.size ≤ q → A q) (wr : va_W) (wf : S → va_W) (isC isR ip : List Nat) (J : okJ ws wc wr w1 wf isC isR ip)
    (kk : ∀ (u : S) (H1 : Heap) (locs1 : List Loc), post u → va_P K.1 vwCl (wf u) H1 → va_D A (wf u) → va_S A s.heap H1 locs1 → W p l e R s m args below meth c H1 locs1 (cells + mc) (slots + ms) Q (F0 m (pc + 3) ls rest)) : W p l e R s m args below meth c H locs cells slots Q (F0 m pc ls st0) := by
  have hF := va_free (wc := wc) hD hS hA isC J.1
  refine va_callv hr hS (fun q _ h => hF q h) hF (fun u t H1 locs1 ht hvm hp hB hz hk hS1 => ?_)
  obtain ⟨g1, g2⟩ := wr_join hP hD hF isC isR J.1 J.2.1 J.2.2.1 J.2.2.2.1 hk ht hB ip J.2.2.2.2.1 (J.2.2.2.2.2 u)
  exact kk u H1 locs1 hp g1 g2 hS1
end WR
section CK
variable {p : Program} {l : Launch} {e : Env} {R : Room} {s : State} {m : MethodId} {args : Array Value} {below : List Frame} {meth : Method} {c : Code} {cells slots : Nat} {cc : ByteArray} {pc : Nat} {ls : Array Slot} {st0 : List Value}
variable {y : MethodName} {b : ByteArray} {mL nL idx o mc ms mc0 ms0 : Nat} {rt : Option FieldType} {rm : Room} {K : EK} {ws wc : va_W} {own : String} {A : Nat → Prop} {Qc Qc0 : Array Value → State → Outcome → State → Prop} {bx bx0 : String → Prop} {free : Addr → Prop}
theorem ck_pre {av : List Value} (hE : EV K s) (hP : va_P K.1 vwCl wc s.heap) (hA : ∀ q : Nat, s.heap.size ≤ q → A q) (hZ : ZS A s s.heap) (U : State) (hU : U.heap = s.heap) (hW : s.WarmedH U.vm) : va_Pc av (PX K wc) av.toArray U :=
  ⟨rfl, EV_warm hW hE, by rw [hU]; exact hP, by rw [hU]; exact ZS_narrow (ZS_moved hW.alike hZ) hA⟩
theorem ckV {As rest : List Value} (hM : vx_Met l y (wq y b mL rt) rm (va_Pc (.ref o :: As) (PX K wc)) Qc (XX bx) mc ms NF) (S : CallFix p m c cc nL s args WA own) (hg : GoodIn WA (wsV own idx y.cls y (wq y b mL rt))) (hd : okN y As.length) (hR : okW R rm mL mc ms cells slots) (hE : EV K s) (hP : va_P K.1 vwCl ws s.heap) (hA : ∀ q : Nat, s.heap.size ≤ q → A q) (hZ : ZS A s s.heap) (is : List Nat) (hs : is.map (fun i => ws[i]?) = wc.map some) (hrc : RC y.cls o wc)
    (hsize : ls.size = nL) (hst : st0 = As.reverse ++ .ref o :: rest) (hcat : (rest.map fun v => v.category).sum ≤ 8) (hdg : decode cc pc = .ok (.invokevirtual idx, 3)) : vx_Run p l e R s m args below meth c s.heap [] cells slots mc ms (F0 m pc ls st0) rest (Qc (Value.ref o :: As).toArray) (XX bx) NF := by
  have hP2 := hP.sub is (ms_fm hs)
  exact vx_runV (As := As) (rest := rest) S hM (cwV As.length S.2.2.2.2 hg rfl hR.2.1.1 hR.2.1.2 ⟨rfl, hd⟩ hR.1) ⟨PX_blind, rd_recv hE hP2 hrc, fun U hU hW => ck_pre hE hP2 hA hZ U hU hW⟩ rfl rfl hsize hst (lv_room hcat) hdg hR.2.2
theorem ckS {As rest : List Value} (hM : vx_Met l y (wq y b mL rt) rm (va_Pc As (PX K wc)) Qc (XX bx) mc ms NF) (S : CallFix p m c cc nL s args WA own) (hg : GoodIn WA (va_wsS own idx y (wq y b mL rt))) (hd : okN y As.length) (hR : okW R rm mL mc ms cells slots) (hE : EV K s) (hP : va_P K.1 vwCl ws s.heap) (hA : ∀ q : Nat, s.heap.size ≤ q → A q) (hZ : ZS A s s.heap) (is : List Nat) (hs : is.map (fun i => ws[i]?) = wc.map some)
    (hsize : ls.size = nL) (hst : st0 = As.reverse ++ rest) (hcat : (rest.map fun v => v.category).sum ≤ 8) (hdg : decode cc pc = .ok (.invokestatic idx, 3)) : vx_Run p l e R s m args below meth c s.heap [] cells slots mc ms (F0 m pc ls st0) rest (Qc As.toArray) (XX bx) NF := by
  have hP2 := hP.sub is (ms_fm hs)
  exact vx_runS (As := As) (rest := rest) S hM (va_cwS As.length S.2.2.2.2 hg rfl hR.2.1.1 hR.2.1.2 hd hR.1) ⟨PX_blind, fun U hU hW => ck_pre hE hP2 hA hZ U hU hW⟩ rfl rfl hsize hst (lv_room hcat) hdg hR.2.2
/-- it throws: so do we -/
theorem ck_out {rest : List Value} {T' : State} {q : Addr} {L : List Loc} {E : String} {ce : Cell} {st₀ t : State} {k n : Nat} (htab : ∀ x ∈ c.exceptionTable.toList, False) (hlocks : meth.locks = false) (h0 : st₀.heap = s.heap) (X' : Stand p l e R s m args below meth c T' ([] ++ L) k n) (hL : ∀ z ∈ L, NF z.base) (e1 : T'.heap = t.heap) (hX : XX bx E st₀ t) (hce : t.heap[q]? = some ce) (hcv : ce.vm = .none) (hcl : s.vm.findClass E = some ce.cls) (hb0 : ∀ E, bx E → bx0 E) (hk : k ≤ mc0) (hn : n ≤ ms0) :
    ∃ t2, Steps p.tables e below ((T'.setTop (F0 m pc ls rest)).pushFrame (.throwing q)) t2 ∧ vx_MQ below Qc0 (XX bx0) args s mc0 ms0 free t2 := by
  obtain ⟨u, -, hb, hF⟩ := hX
  have K1 : vx_W p l e R s m args below meth c T'.heap [] k n (vx_MQ below Qc0 (XX bx0) args s mc0 ms0 free) (F0 m pc ls rest) q := by
    refine vx_out (fun x hx => (htab x hx).elim) hlocks (by rw [e1]; exact hce) hcv hcl (fun t9 ht9 _ => ⟨(), trivial, hb0 _ hb, ?_⟩) (fun _ h => nomatch h) hk hn
    refine ⟨?_, fun z hz hN => ?_⟩
    · rw [ht9, e1, ← h0]; exact hF.1
    · rw [ht9, e1, ← h0]; exact hF.2 z (by rw [h0]; exact hz) hN
  exact K1 T' rfl (Stand.forget X' (fun z h => (hL z (by simpa using h)).elim))
theorem coV {post : Prop} {a : Array Value} {rest : List Value} (hr : vx_Run p l e R s m args below meth c s.heap [] cells slots mc ms (F0 m pc ls st0) rest (SV post a) (XX bx) NF) (htab : ∀ x ∈ c.exceptionTable.toList, False) (hlocks : meth.locks = false) (hc : cells + mc ≤ mc0 ∧ slots + ms ≤ ms0) (hb0 : ∀ E, bx E → bx0 E)
    (kk : post → W p l e R s m args below meth c s.heap [] (cells + mc) (slots + ms) (vx_MQ below Qc0 (XX bx0) args s mc0 ms0 free) (F0 m (pc + 3) ls rest)) : W p l e R s m args below meth c s.heap [] cells slots (vx_MQ below Qc0 (XX bx0) args s mc0 ms0 free) (F0 m pc ls st0) := by
  intro T hT X
  rcases hr T hT X with ⟨v, st₀, t, T', L, h0, X', hL, e1, e2, ⟨hv, hp, hh⟩, st⟩ | ⟨q, st₀, t, T', L, E, ce, h0, X', hL, e1, e2, hX, hce, hcv, hcl, st⟩
  · cases hv
    obtain ⟨t2, a1, b1⟩ := kk hp T' (by rw [e1, hh, h0]) (Stand.forget X' (fun q h => (hL q (by simpa using h)).elim))
    exact ⟨t2, st t2 a1, b1⟩
  · obtain ⟨t2, a1, b1⟩ := ck_out (rest := rest) (pc := pc) (ls := ls) (Qc0 := Qc0) (free := free) htab hlocks h0 X' hL e1 hX hce hcv hcl hb0 hc.1 hc.2
    exact ⟨t2, st.trans a1, b1⟩
theorem coI {post : Int32 → Prop} {a : Array Value} {rest : List Value} (hr : vx_Run p l e R s m args below meth c s.heap [] cells slots mc ms (F0 m pc ls st0) rest (vp_Si post a) (XX bx) NF) (htab : ∀ x ∈ c.exceptionTable.toList, False) (hlocks : meth.locks = false) (hc : cells + mc ≤ mc0 ∧ slots + ms ≤ ms0) (hb0 : ∀ E, bx E → bx0 E)
    (kk : ∀ r : Int32, post r → W p l e R s m args below meth c s.heap [] (cells + mc) (slots + ms) (vx_MQ below Qc0 (XX bx0) args s mc0 ms0 free) (F0 m (pc + 3) ls (.int r :: rest))) : W p l e R s m args below meth c s.heap [] cells slots (vx_MQ below Qc0 (XX bx0) args s mc0 ms0 free) (F0 m pc ls st0) := by
  intro T hT X
  rcases hr T hT X with ⟨v, st₀, t, T', L, h0, X', hL, e1, e2, ⟨r, hv, hp, hh⟩, st⟩ | ⟨q, st₀, t, T', L, E, ce, h0, X', hL, e1, e2, hX, hce, hcv, hcl, st⟩
  · cases hv
    obtain ⟨t2, a1, b1⟩ := kk r hp T' (by rw [e1, hh, h0]) (Stand.forget X' (fun q h => (hL q (by simpa using h)).elim))
    exact ⟨t2, st t2 a1, b1⟩
  · obtain ⟨t2, a1, b1⟩ := ck_out (rest := rest) (pc := pc) (ls := ls) (Qc0 := Qc0) (free := free) htab hlocks h0 X' hL e1 hX hce hcv hcl hb0 hc.1 hc.2
    exact ⟨t2, st.trans a1, b1⟩
/-- throw new E(text), of the class RangingNet -/
theorem thr {E text : String} {ik is ic : Nat} {rest : List Value} (hx : p.tables.exec = Jvm.exec) (hb : c.code = cc) (hl : l.stackTraces = false) (hown : s.vm.findClass RX3 = some m.cls) (hts : ∀ w ∈ WA, w.before args s = true) (hE : EV K s) (hA : ∀ q : Nat, s.heap.size ≤ q → A q) (hZ : ZS A s s.heap)
    (hfit : Bundle.fit E = true) (hlk : Cond.classLink RX3 ik E ∈ WA) (hini : Cond.initialized E ∈ WA) (hstr : (is, text) ∈ xcS) (hcas : E ∈ xcC) (hat : ∀ w ∈ (vx_atS RX3 ic E ["java/lang/RuntimeException", "java/lang/Exception"]).filter goodWord, w ∈ WA) (hat2 : ∀ w ∈ (vx_atS RX3 ic E ["java/lang/RuntimeException", "java/lang/Exception"]).filter (fun w => !goodWord w), w ∈ [Cond.castable E E] ++ xcD.map Cond.declares) (hgood : ∀ w ∈ Cond.classLink RX3 ik E :: Cond.initialized E :: vx_atS RX3 ic E ["java/lang/RuntimeException", "java/lang/Exception"], vx_ot w = true)
    (hsize : ls.size = c.maxLocals) (d0 : decode cc pc = .ok (.new ik, 3)) (d3 : decode cc (pc + 3) = .ok (.dup, 1)) (d4 : decode cc (pc + 4) = .ok (.ldc is, 2)) (d6 : decode cc (pc + 6) = .ok (.invokespecial ic, 3)) (d9 : decode cc (pc + 9) = .ok (.athrow, 1)) (htab : ∀ x ∈ c.exceptionTable.toList, False) (hlocks : meth.locks = false)
    (hR : 5 < R.frames ∧ (rest.map fun v => v.category).sum + 82 ≤ R.locals ∧ cells + 1 ≤ R.cells ∧ slots + 6 ≤ R.slots) (hc : cells + 1 ≤ mc0 ∧ slots + 6 ≤ ms0) (hbx : bx0 E) : W p l e R s m args below meth c s.heap [] cells slots (vx_MQ below Qc0 (XX bx0) args s mc0 ms0 free) (F0 m pc ls rest) := by
  obtain ⟨sa, hsa⟩ := hE.2.2.2.2.2.1 _ hstr
  refine vx_throwS (A := A) (names := ["java/lang/RuntimeException", "java/lang/Exception"]) (cls := E) (own := RX3) hx hb hl hown hfit (by decide +kernel) (hts _ hlk) (hts _ hini) hsa ?_ hgood hZ.1 hZ.2 va_S.rf hsize d0 d3 d4 d6 d9 (fun x h => (htab x h).elim) hR.1 hR.2.1 hR.2.2.1 hR.2.2.2 hlocks (fun t _ hz hk => ⟨(), trivial, hbx, hz, fun q h _ => hk q h⟩) (fun _ h => nomatch h) hc.1 hc.2
  refine vx_hat (B := [Cond.castable E E] ++ xcD.map Cond.declares) (fun w h => hts w (hat w h)) hat2 (vx_c (va_Nw.use rfl (hE.2.2.2.2.1 _ hcas)) (fun w hw => ?_))
  obtain ⟨q, hq, rfl⟩ := List.mem_map.mp hw
  exact va_Nw.use rfl (hE.2.2.2.2.2.2.2 q hq)
theorem thr_IAE {text : String} {ik is : Nat} {rest : List Value} (hx : p.tables.exec = Jvm.exec) (hb : c.code = cc) (hl : l.stackTraces = false) (hown : s.vm.findClass RX3 = some m.cls) (hts : ∀ w ∈ WA, w.before args s = true) (hE : EV K s) (hA : ∀ q : Nat, s.heap.size ≤ q → A q) (hZ : ZS A s s.heap) (hlk : Cond.classLink RX3 ik "java/lang/IllegalArgumentException" ∈ WA) (hstr : (is, text) ∈ xcS)
    (hsize : ls.size = c.maxLocals) (d0 : decode cc pc = .ok (.new ik, 3)) (d3 : decode cc (pc + 3) = .ok (.dup, 1)) (d4 : decode cc (pc + 4) = .ok (.ldc is, 2)) (d6 : decode cc (pc + 6) = .ok (.invokespecial 195, 3)) (d9 : decode cc (pc + 9) = .ok (.athrow, 1)) (htab : ∀ x ∈ c.exceptionTable.toList, False) (hlocks : meth.locks = false)
    (hR : 5 < R.frames ∧ (rest.map fun v => v.category).sum + 82 ≤ R.locals ∧ cells + 1 ≤ R.cells ∧ slots + 6 ≤ R.slots) (hc : cells + 1 ≤ mc0 ∧ slots + 6 ≤ ms0) (hbx : bx0 xIA) : W p l e R s m args below meth c s.heap [] cells slots (vx_MQ below Qc0 (XX bx0) args s mc0 ms0 free) (F0 m pc ls rest) :=
  thr (E := xIA) hx hb hl hown hts hE hA hZ (by decide +kernel) hlk kn_IllegalArgumentException hstr (List.mem_of_getElem? (i := 0) rfl) at_IAE (by decide +kernel) (List.forall_mem_cons.mpr ⟨rfl, by decide +kernel⟩) hsize d0 d3 d4 d6 d9 htab hlocks hR hc hbx
theorem thr_ISE {text : String} {ik is : Nat} {rest : List Value} (hx : p.tables.exec = Jvm.exec) (hb : c.code = cc) (hl : l.stackTraces = false) (hown : s.vm.findClass RX3 = some m.cls) (hts : ∀ w ∈ WA, w.before args s = true) (hE : EV K s) (hA : ∀ q : Nat, s.heap.size ≤ q → A q) (hZ : ZS A s s.heap) (hlk : Cond.classLink RX3 ik "java/lang/IllegalStateException" ∈ WA) (hstr : (is, text) ∈ xcS)
    (hsize : ls.size = c.maxLocals) (d0 : decode cc pc = .ok (.new ik, 3)) (d3 : decode cc (pc + 3) = .ok (.dup, 1)) (d4 : decode cc (pc + 4) = .ok (.ldc is, 2)) (d6 : decode cc (pc + 6) = .ok (.invokespecial 42, 3)) (d9 : decode cc (pc + 9) = .ok (.athrow, 1)) (htab : ∀ x ∈ c.exceptionTable.toList, False) (hlocks : meth.locks = false)
    (hR : 5 < R.frames ∧ (rest.map fun v => v.category).sum + 82 ≤ R.locals ∧ cells + 1 ≤ R.cells ∧ slots + 6 ≤ R.slots) (hc : cells + 1 ≤ mc0 ∧ slots + 6 ≤ ms0) (hbx : bx0 xIS) : W p l e R s m args below meth c s.heap [] cells slots (vx_MQ below Qc0 (XX bx0) args s mc0 ms0 free) (F0 m pc ls rest) :=
  thr (E := xIS) hx hb hl hown hts hE hA hZ (by decide +kernel) hlk kn_IllegalStateException hstr (List.mem_of_getElem? (i := 1) rfl) at_ISE (by decide +kernel) (List.forall_mem_cons.mpr ⟨rfl, by decide +kernel⟩) hsize d0 d3 d4 d6 d9 htab hlocks hR hc hbx
theorem thr_IOE {text : String} {ik is : Nat} {rest : List Value} (hx : p.tables.exec = Jvm.exec) (hb : c.code = cc) (hl : l.stackTraces = false) (hown : s.vm.findClass RX3 = some m.cls) (hts : ∀ w ∈ WA, w.before args s = true) (hE : EV K s) (hA : ∀ q : Nat, s.heap.size ≤ q → A q) (hZ : ZS A s s.heap) (hlk : Cond.classLink RX3 ik "java/lang/IndexOutOfBoundsException" ∈ WA) (hstr : (is, text) ∈ xcS)
    (hsize : ls.size = c.maxLocals) (d0 : decode cc pc = .ok (.new ik, 3)) (d3 : decode cc (pc + 3) = .ok (.dup, 1)) (d4 : decode cc (pc + 4) = .ok (.ldc is, 2)) (d6 : decode cc (pc + 6) = .ok (.invokespecial 153, 3)) (d9 : decode cc (pc + 9) = .ok (.athrow, 1)) (htab : ∀ x ∈ c.exceptionTable.toList, False) (hlocks : meth.locks = false)
    (hR : 5 < R.frames ∧ (rest.map fun v => v.category).sum + 82 ≤ R.locals ∧ cells + 1 ≤ R.cells ∧ slots + 6 ≤ R.slots) (hc : cells + 1 ≤ mc0 ∧ slots + 6 ≤ ms0) (hbx : bx0 xIO) : W p l e R s m args below meth c s.heap [] cells slots (vx_MQ below Qc0 (XX bx0) args s mc0 ms0 free) (F0 m pc ls rest) :=
  thr (E := xIO) hx hb hl hown hts hE hA hZ (by decide +kernel) hlk kn_IndexOutOfBoundsException hstr (List.mem_of_getElem? (i := 2) rfl) at_IOE (by decide +kernel) (List.forall_mem_cons.mpr ⟨rfl, by decide +kernel⟩) hsize d0 d3 d4 d6 d9 htab hlocks hR hc hbx
theorem thr_AE {text : String} {ik is : Nat} {rest : List Value} (hx : p.tables.exec = Jvm.exec) (hb : c.code = cc) (hl : l.stackTraces = false) (hown : s.vm.findClass RX3 = some m.cls) (hts : ∀ w ∈ WA, w.before args s = true) (hE : EV K s) (hA : ∀ q : Nat, s.heap.size ≤ q → A q) (hZ : ZS A s s.heap) (hlk : Cond.classLink RX3 ik "java/lang/ArithmeticException" ∈ WA) (hstr : (is, text) ∈ xcS)
    (hsize : ls.size = c.maxLocals) (d0 : decode cc pc = .ok (.new ik, 3)) (d3 : decode cc (pc + 3) = .ok (.dup, 1)) (d4 : decode cc (pc + 4) = .ok (.ldc is, 2)) (d6 : decode cc (pc + 6) = .ok (.invokespecial 140, 3)) (d9 : decode cc (pc + 9) = .ok (.athrow, 1)) (htab : ∀ x ∈ c.exceptionTable.toList, False) (hlocks : meth.locks = false)
    (hR : 5 < R.frames ∧ (rest.map fun v => v.category).sum + 82 ≤ R.locals ∧ cells + 1 ≤ R.cells ∧ slots + 6 ≤ R.slots) (hc : cells + 1 ≤ mc0 ∧ slots + 6 ≤ ms0) (hbx : bx0 xAR) : W p l e R s m args below meth c s.heap [] cells slots (vx_MQ below Qc0 (XX bx0) args s mc0 ms0 free) (F0 m pc ls rest) :=
  thr (E := xAR) hx hb hl hown hts hE hA hZ (by decide +kernel) hlk kn_ArithmeticException hstr (List.mem_of_getElem? (i := 3) rfl) at_AE (by decide +kernel) (List.forall_mem_cons.mpr ⟨rfl, by decide +kernel⟩) hsize d0 d3 d4 d6 d9 htab hlocks hR hc hbx
end CK
