section
-- ===== PART A: goes FIRST, ahead of the names: the tables' words, and 'selects' of the private methods out of them =====
/-- a private method of a class that the tables say can be made, by its rows of tables_1 -/
def lw_okq (q : MethodName × Nat) : Prop := (q.1.cls ≠ "java/lang/invoke/MethodHandle" ∧ q.1.cls ≠ "java/lang/invoke/VarHandle") ∧ Cond.instantiable q.1.cls q.2 ∈ tables_1 ∧ Cond.privateMethod q.1 ∈ tables_1 ∧ Cond.instanceMethod q.1 ∈ tables_1
theorem lw_p0 : lw_okq (⟨"java/lang/Throwable", "fillInStackTrace", "(I)Ljava/lang/Throwable;"⟩, 6) := ⟨⟨by decide +kernel, by decide +kernel⟩, List.mem_of_getElem? (i := 217) (by decide +kernel), List.mem_of_getElem? (i := 215) (by decide +kernel), List.mem_of_getElem? (i := 216) (by decide +kernel)⟩
theorem lw_p1 : lw_okq (⟨"RangingNet$History", "newestSlot", "()LRangingNet$State;"⟩, 3) := ⟨⟨by decide +kernel, by decide +kernel⟩, List.mem_of_getElem? (i := 68) (by decide +kernel), List.mem_of_getElem? (i := 273) (by decide +kernel), List.mem_of_getElem? (i := 274) (by decide +kernel)⟩
theorem lw_p2 : lw_okq (⟨"RangingNet", "requireNode", "(I)V"⟩, 2) := ⟨⟨by decide +kernel, by decide +kernel⟩, List.mem_of_getElem? (i := 18) (by decide +kernel), List.mem_of_getElem? (i := 331) (by decide +kernel), List.mem_of_getElem? (i := 332) (by decide +kernel)⟩
theorem lw_p3 : lw_okq (⟨"RangingNet$State", "carryOutFirstPlan", "()V"⟩, 4) := ⟨⟨by decide +kernel, by decide +kernel⟩, List.mem_of_getElem? (i := 26) (by decide +kernel), List.mem_of_getElem? (i := 431) (by decide +kernel), List.mem_of_getElem? (i := 432) (by decide +kernel)⟩
theorem lw_p4 : lw_okq (⟨"RangingNet", "requireExchange", "(I)V"⟩, 2) := ⟨⟨by decide +kernel, by decide +kernel⟩, List.mem_of_getElem? (i := 18) (by decide +kernel), List.mem_of_getElem? (i := 450) (by decide +kernel), List.mem_of_getElem? (i := 451) (by decide +kernel)⟩
theorem lw_p5 : lw_okq (⟨"RangingNet", "requireLatest", "(II)I"⟩, 2) := ⟨⟨by decide +kernel, by decide +kernel⟩, List.mem_of_getElem? (i := 18) (by decide +kernel), List.mem_of_getElem? (i := 480) (by decide +kernel), List.mem_of_getElem? (i := 481) (by decide +kernel)⟩
theorem lw_p6 : lw_okq (⟨"RangingNet$State", "lengthOf", "(I)I"⟩, 4) := ⟨⟨by decide +kernel, by decide +kernel⟩, List.mem_of_getElem? (i := 26) (by decide +kernel), List.mem_of_getElem? (i := 500) (by decide +kernel), List.mem_of_getElem? (i := 501) (by decide +kernel)⟩
theorem lw_p7 : lw_okq (⟨"RangingNet", "solve", "(IIIJJI)I"⟩, 2) := ⟨⟨by decide +kernel, by decide +kernel⟩, List.mem_of_getElem? (i := 18) (by decide +kernel), List.mem_of_getElem? (i := 576) (by decide +kernel), List.mem_of_getElem? (i := 577) (by decide +kernel)⟩
theorem lw_p8 : lw_okq (⟨"RangingNetModel", "goes", "(ZZZ)Z"⟩, 4) := ⟨⟨by decide +kernel, by decide +kernel⟩, List.mem_of_getElem? (i := 598) (by decide +kernel), List.mem_of_getElem? (i := 639) (by decide +kernel), List.mem_of_getElem? (i := 640) (by decide +kernel)⟩
theorem lw_p9 : lw_okq (⟨"RangingNetModel", "save", "()V"⟩, 4) := ⟨⟨by decide +kernel, by decide +kernel⟩, List.mem_of_getElem? (i := 598) (by decide +kernel), List.mem_of_getElem? (i := 643) (by decide +kernel), List.mem_of_getElem? (i := 644) (by decide +kernel)⟩
theorem lw_p10 : lw_okq (⟨"RangingNetModel", "isNode", "(I)Z"⟩, 4) := ⟨⟨by decide +kernel, by decide +kernel⟩, List.mem_of_getElem? (i := 598) (by decide +kernel), List.mem_of_getElem? (i := 651) (by decide +kernel), List.mem_of_getElem? (i := 652) (by decide +kernel)⟩
theorem lw_p11 : lw_okq (⟨"RangingNetModel", "of", "(II)J"⟩, 4) := ⟨⟨by decide +kernel, by decide +kernel⟩, List.mem_of_getElem? (i := 598) (by decide +kernel), List.mem_of_getElem? (i := 655) (by decide +kernel), List.mem_of_getElem? (i := 656) (by decide +kernel)⟩
theorem lw_p12 : lw_okq (⟨"RangingNetModel", "distanceOf", "(II)J"⟩, 4) := ⟨⟨by decide +kernel, by decide +kernel⟩, List.mem_of_getElem? (i := 598) (by decide +kernel), List.mem_of_getElem? (i := 676) (by decide +kernel), List.mem_of_getElem? (i := 677) (by decide +kernel)⟩
theorem lw_p13 : lw_okq (⟨"RangingNetModel", "counterAt", "(IJ)J"⟩, 4) := ⟨⟨by decide +kernel, by decide +kernel⟩, List.mem_of_getElem? (i := 598) (by decide +kernel), List.mem_of_getElem? (i := 685) (by decide +kernel), List.mem_of_getElem? (i := 686) (by decide +kernel)⟩
theorem lw_p14 : lw_okq (⟨"RangingNetModel", "carriesOut", "(JIIJJ)V"⟩, 4) := ⟨⟨by decide +kernel, by decide +kernel⟩, List.mem_of_getElem? (i := 598) (by decide +kernel), List.mem_of_getElem? (i := 700) (by decide +kernel), List.mem_of_getElem? (i := 701) (by decide +kernel)⟩
theorem lw_p15 : lw_okq (⟨"RangingNetModel", "waiting", "(I)I"⟩, 4) := ⟨⟨by decide +kernel, by decide +kernel⟩, List.mem_of_getElem? (i := 598) (by decide +kernel), List.mem_of_getElem? (i := 714) (by decide +kernel), List.mem_of_getElem? (i := 715) (by decide +kernel)⟩
def lw_privs_1 : List (MethodName × Nat) := [(⟨"java/lang/Throwable", "fillInStackTrace", "(I)Ljava/lang/Throwable;"⟩, 6), (⟨"RangingNet$History", "newestSlot", "()LRangingNet$State;"⟩, 3), (⟨"RangingNet", "requireNode", "(I)V"⟩, 2), (⟨"RangingNet$State", "carryOutFirstPlan", "()V"⟩, 4), (⟨"RangingNet", "requireExchange", "(I)V"⟩, 2), (⟨"RangingNet", "requireLatest", "(II)I"⟩, 2), (⟨"RangingNet$State", "lengthOf", "(I)I"⟩, 4), (⟨"RangingNet", "solve", "(IIIJJI)I"⟩, 2), (⟨"RangingNetModel", "goes", "(ZZZ)Z"⟩, 4), (⟨"RangingNetModel", "save", "()V"⟩, 4), (⟨"RangingNetModel", "isNode", "(I)Z"⟩, 4), (⟨"RangingNetModel", "of", "(II)J"⟩, 4), (⟨"RangingNetModel", "distanceOf", "(II)J"⟩, 4), (⟨"RangingNetModel", "counterAt", "(IJ)J"⟩, 4), (⟨"RangingNetModel", "carriesOut", "(JIIJJ)V"⟩, 4), (⟨"RangingNetModel", "waiting", "(I)I"⟩, 4)]
theorem lw_r1 : ∀ q ∈ lw_privs_1, lw_okq q := List.forall_mem_cons.mpr ⟨lw_p0, List.forall_mem_cons.mpr ⟨lw_p1, List.forall_mem_cons.mpr ⟨lw_p2, List.forall_mem_cons.mpr ⟨lw_p3, List.forall_mem_cons.mpr ⟨lw_p4, List.forall_mem_cons.mpr ⟨lw_p5, List.forall_mem_cons.mpr ⟨lw_p6, List.forall_mem_cons.mpr ⟨lw_p7, List.forall_mem_cons.mpr ⟨lw_p8, List.forall_mem_cons.mpr ⟨lw_p9, List.forall_mem_cons.mpr ⟨lw_p10, List.forall_mem_cons.mpr ⟨lw_p11, List.forall_mem_cons.mpr ⟨lw_p12, List.forall_mem_cons.mpr ⟨lw_p13, List.forall_mem_cons.mpr ⟨lw_p14, List.forall_mem_cons.mpr ⟨lw_p15, fun _ h => absurd h List.not_mem_nil⟩⟩⟩⟩⟩⟩⟩⟩⟩⟩⟩⟩⟩⟩⟩⟩
theorem lw_p16 : lw_okq (⟨"RangingNetModel", "removes", "(I)V"⟩, 4) := ⟨⟨by decide +kernel, by decide +kernel⟩, List.mem_of_getElem? (i := 598) (by decide +kernel), List.mem_of_getElem? (i := 722) (by decide +kernel), List.mem_of_getElem? (i := 723) (by decide +kernel)⟩
theorem lw_p17 : lw_okq (⟨"RangingNetModel", "isExchange", "(I)Z"⟩, 4) := ⟨⟨by decide +kernel, by decide +kernel⟩, List.mem_of_getElem? (i := 598) (by decide +kernel), List.mem_of_getElem? (i := 738) (by decide +kernel), List.mem_of_getElem? (i := 739) (by decide +kernel)⟩
theorem lw_p18 : lw_okq (⟨"RangingNetModel", "inExchange", "(II)J"⟩, 4) := ⟨⟨by decide +kernel, by decide +kernel⟩, List.mem_of_getElem? (i := 598) (by decide +kernel), List.mem_of_getElem? (i := 742) (by decide +kernel), List.mem_of_getElem? (i := 743) (by decide +kernel)⟩
theorem lw_p19 : lw_okq (⟨"RangingNetModel", "rangeOf", "(II)J"⟩, 4) := ⟨⟨by decide +kernel, by decide +kernel⟩, List.mem_of_getElem? (i := 598) (by decide +kernel), List.mem_of_getElem? (i := 757) (by decide +kernel), List.mem_of_getElem? (i := 758) (by decide +kernel)⟩
theorem lw_p20 : lw_okq (⟨"RangingNetModel", "rawOf", "(II)J"⟩, 4) := ⟨⟨by decide +kernel, by decide +kernel⟩, List.mem_of_getElem? (i := 598) (by decide +kernel), List.mem_of_getElem? (i := 761) (by decide +kernel), List.mem_of_getElem? (i := 762) (by decide +kernel)⟩
theorem lw_p21 : lw_okq (⟨"RangingNetModel", "span", "(III)J"⟩, 4) := ⟨⟨by decide +kernel, by decide +kernel⟩, List.mem_of_getElem? (i := 598) (by decide +kernel), List.mem_of_getElem? (i := 765) (by decide +kernel), List.mem_of_getElem? (i := 766) (by decide +kernel)⟩
theorem lw_p22 : lw_okq (⟨"RangingNetModel", "first", "(I)I"⟩, 4) := ⟨⟨by decide +kernel, by decide +kernel⟩, List.mem_of_getElem? (i := 598) (by decide +kernel), List.mem_of_getElem? (i := 773) (by decide +kernel), List.mem_of_getElem? (i := 774) (by decide +kernel)⟩
theorem lw_p23 : lw_okq (⟨"RangingNetModel", "second", "(I)I"⟩, 4) := ⟨⟨by decide +kernel, by decide +kernel⟩, List.mem_of_getElem? (i := 598) (by decide +kernel), List.mem_of_getElem? (i := 777) (by decide +kernel), List.mem_of_getElem? (i := 778) (by decide +kernel)⟩
theorem lw_p24 : lw_okq (⟨"RangingNetModel", "latestOf", "(II)I"⟩, 4) := ⟨⟨by decide +kernel, by decide +kernel⟩, List.mem_of_getElem? (i := 598) (by decide +kernel), List.mem_of_getElem? (i := 785) (by decide +kernel), List.mem_of_getElem? (i := 786) (by decide +kernel)⟩
theorem lw_p25 : lw_okq (⟨"RangingNetModel", "errorOf", "(II)J"⟩, 4) := ⟨⟨by decide +kernel, by decide +kernel⟩, List.mem_of_getElem? (i := 598) (by decide +kernel), List.mem_of_getElem? (i := 794) (by decide +kernel), List.mem_of_getElem? (i := 795) (by decide +kernel)⟩
theorem lw_p26 : lw_okq (⟨"RangingNetModel", "excess", "(II)J"⟩, 4) := ⟨⟨by decide +kernel, by decide +kernel⟩, List.mem_of_getElem? (i := 598) (by decide +kernel), List.mem_of_getElem? (i := 811) (by decide +kernel), List.mem_of_getElem? (i := 812) (by decide +kernel)⟩
theorem lw_p27 : lw_okq (⟨"RangingNetModel", "right", "(IIII)J"⟩, 4) := ⟨⟨by decide +kernel, by decide +kernel⟩, List.mem_of_getElem? (i := 598) (by decide +kernel), List.mem_of_getElem? (i := 820) (by decide +kernel), List.mem_of_getElem? (i := 821) (by decide +kernel)⟩
theorem lw_p28 : lw_okq (⟨"RangingNetModel", "sums", "(JII)J"⟩, 4) := ⟨⟨by decide +kernel, by decide +kernel⟩, List.mem_of_getElem? (i := 598) (by decide +kernel), List.mem_of_getElem? (i := 835) (by decide +kernel), List.mem_of_getElem? (i := 836) (by decide +kernel)⟩
def lw_privs_2 : List (MethodName × Nat) := [(⟨"RangingNetModel", "removes", "(I)V"⟩, 4), (⟨"RangingNetModel", "isExchange", "(I)Z"⟩, 4), (⟨"RangingNetModel", "inExchange", "(II)J"⟩, 4), (⟨"RangingNetModel", "rangeOf", "(II)J"⟩, 4), (⟨"RangingNetModel", "rawOf", "(II)J"⟩, 4), (⟨"RangingNetModel", "span", "(III)J"⟩, 4), (⟨"RangingNetModel", "first", "(I)I"⟩, 4), (⟨"RangingNetModel", "second", "(I)I"⟩, 4), (⟨"RangingNetModel", "latestOf", "(II)I"⟩, 4), (⟨"RangingNetModel", "errorOf", "(II)J"⟩, 4), (⟨"RangingNetModel", "excess", "(II)J"⟩, 4), (⟨"RangingNetModel", "right", "(IIII)J"⟩, 4), (⟨"RangingNetModel", "sums", "(JII)J"⟩, 4)]
theorem lw_r2 : ∀ q ∈ lw_privs_2, lw_okq q := List.forall_mem_cons.mpr ⟨lw_p16, List.forall_mem_cons.mpr ⟨lw_p17, List.forall_mem_cons.mpr ⟨lw_p18, List.forall_mem_cons.mpr ⟨lw_p19, List.forall_mem_cons.mpr ⟨lw_p20, List.forall_mem_cons.mpr ⟨lw_p21, List.forall_mem_cons.mpr ⟨lw_p22, List.forall_mem_cons.mpr ⟨lw_p23, List.forall_mem_cons.mpr ⟨lw_p24, List.forall_mem_cons.mpr ⟨lw_p25, List.forall_mem_cons.mpr ⟨lw_p26, List.forall_mem_cons.mpr ⟨lw_p27, List.forall_mem_cons.mpr ⟨lw_p28, fun _ h => absurd h List.not_mem_nil⟩⟩⟩⟩⟩⟩⟩⟩⟩⟩⟩⟩⟩
def lw_privs : List (MethodName × Nat) := lw_privs_1 ++ (lw_privs_2)
def lw_tbl : List Cond := k2_sels lw_privs ++ tables_1
theorem lw_privs_ok : ∀ q ∈ lw_privs, lw_okq q := by
  show ∀ q ∈ lw_privs_1 ++ (lw_privs_2), lw_okq q
  exact List.forall_mem_append.mpr ⟨lw_r1, lw_r2⟩
/-- the streams that the claim lets the run draw from -/
abbrev lw_cs : List Choice := [Jvm.Choice.named "NaN.bits"]
theorem lw_bits : nanBits ∈ lw_cs := by first | decide | exact List.mem_cons_self | simp [lw_cs, nanBits]
-- ===== end of PART A; then your names; then what follows =====
end
section
/-! ===== BEGIN words of one list among another's, by their places ===== -/
theorem goodIn_r {big : List Cond} (ws : List Cond) (ps : List Nat) (hp : ws = ps.filterMap (fun i => big[i]?)) (h : ws.all goodWord = true) : GoodIn big ws := by
  intro w hw
  have h1 := List.all_eq_true.mp h w hw
  rw [hp] at hw
  obtain ⟨i, -, hi⟩ := List.mem_filterMap.mp hw
  have hm : w ∈ big := by first | exact List.mem_of_getElem? hi | exact List.getElem?_mem hi
  exact ⟨hm, good_of_word h1⟩
theorem goodIn_app {big a b : List Cond} (ha : GoodIn big a) (hb : GoodIn big b) : GoodIn big (a ++ b) := fun w h => (List.mem_append.mp h).elim (ha w) (hb w)
theorem goodIn_ca {big a b : List Cond} {c : Cond} (ha : GoodIn big (c :: a)) (hb : GoodIn big b) : GoodIn big (c :: (a ++ b)) := fun w h => (List.mem_cons.mp h).elim (fun e => ha w (List.mem_cons.mpr (Or.inl e))) (fun h => (List.mem_append.mp h).elim (fun h => ha w (List.mem_cons.mpr (Or.inr h))) (hb w))
theorem goodIn_sub {big ws : List Cond} (hm : ∀ w ∈ ws, w ∈ big) (h : ws.all goodWord = true) : GoodIn big ws := fun w hw => ⟨hm w hw, good_of_word (List.all_eq_true.mp h w hw)⟩
/-! ===== END ===== -/

/-! ===== BEGIN exceptions that leave a method, and their catching by the caller (launches without stack traces) ===== -/
section VXA
/-! The laws vx_back, vx_callV, vx_callS, vx_callSW, vx_throw0, vx_throwS follow proofs of the library, with one case more: JvmDerived/Free/Laws.lean (Back.of_free), Shelf42/LK1.lean (callV, callS), Shelf/KitTraced.lean (throwNew0V, throwNewS). -/
/-- where a method has thrown q: the class by its name, the cell, what was written, the world -/
def vx_T (XC : String → State → State → Prop) (st : State) (q : Addr) (t : State) (mc ms : Nat) (free : Addr → Prop) : Prop :=
  ∃ (E : String) (ce : Cell) (L : List Loc), XC E st t ∧ t.heap[q]? = some ce ∧ ce.vm = .none ∧ st.vm.findClass E = some ce.cls ∧ st.WarmedH t.vm ∧ st.sameButNew ({ t with vm := st.vm } : State) L mc ms ∧ ∀ z ∈ L, free z.base
def vx_Q (Qc : Array Value → State → Outcome → State → Prop) (XC : String → State → State → Prop) (mc ms : Nat) (free : Addr → Prop) : Array Value → State → Outcome → State → Prop := fun a st o t =>
  (Qc a st o t ∧ ∃ L, FrameEnd st o t L mc ms ∧ ∀ q ∈ L, free q.base) ∨ ∃ q, o = .threw q ∧ vx_T XC st q t mc ms free
/-- a callee that returns or throws -/
def vx_Met (l : Launch) (y : MethodName) (ws : List Cond) (rm : Room) (Pc : Array Value → State → Prop) (Qc : Array Value → State → Outcome → State → Prop) (XC : String → State → State → Prop) (mc ms : Nat) (free : Addr → Prop) : Prop :=
  MetFree l y (headSpec ws rm) Pc (fun _ _ _ _ _ => True) (vx_Q Qc XC mc ms free)
def vx_Post (XC : String → State → State → Prop) (mc ms : Nat) (free : Addr → Prop) : Pt → Array Value → Addr → Pt → Prop := fun A a q B =>
  ∃ (g : JFrame) (mk : MethodId) (t : State) (L : List Loc) (E : String) (ce : Cell), B.U.heap = t.heap ∧ B.U.vm = t.vm ∧ XC E (A.U.calling g mk a) t ∧ t.heap[q]? = some ce ∧ ce.vm = .none ∧ A.U.vm.findClass E = some ce.cls ∧ B.locs = A.locs ++ L ∧ (∀ z ∈ L, free z.base) ∧ B.cells = A.cells + mc ∧ B.slots = A.slots + ms
def vx_Back (l : Launch) (R : Room) (p : Program) (e : Env) (below : List Frame) (s : State) (sargs : Array Value) (y : MethodName) (len W9 : Nat)
    (Pre : Pt → Array Value → Prop) (Post : Pt → Array Value → Option Value → Pt → Prop) (PostX : Pt → Array Value → Addr → Pt → Prop) : Prop :=
  ∀ (m : MethodId) (meth : Method) (c : Code) (A : Pt) (g : JFrame) (ig : Instr) (mk : MethodId) (a : Array Value),
    Stand p l e R s m sargs below meth c A.U A.locs A.cells A.slots → g.method = m → g.locals.size = c.maxLocals → decode c.code g.pc = .ok (ig, len) →
    2 * g.monitorRoom + (g.stack.map fun v => v.category).sum ≤ W9 → A.U.methodNamed? y = some mk → Pre A a →
    (∃ (v : Option Value) (B : Pt), Stand p l e R s m sargs below meth c B.U B.locs B.cells B.slots ∧ Post A a v B ∧
      Steps p.tables e below (doInvoke e (A.U.setTop g) [] mk a).1 (B.U.setTop { g with pc := g.pc + len, stack := v.toList ++ g.stack })) ∨
    (∃ (q : Addr) (B : Pt), Stand p l e R s m sargs below meth c B.U B.locs B.cells B.slots ∧ PostX A a q B ∧
      Steps p.tables e below (doInvoke e (A.U.setTop g) [] mk a).1 ((B.U.setTop g).pushFrame (.throwing q)))
section Payer
variable {l : Launch} {R : Room} {p : Program} {e : Env} {below : List Frame} {s : State} {sargs : Array Value} {y : MethodName} {len W9 : Nat}
theorem vx_back {ws : List Cond} {rm : Room} {Pc : Array Value → State → Prop} {Qc : Array Value → State → Outcome → State → Prop} {XC : String → State → State → Prop} {mc ms : Nat} {free : Addr → Prop} {bytes : ByteArray} {maxL : Nat} {ret : Option FieldType}
    (hM : vx_Met l y ws rm Pc Qc XC mc ms free) (hblind : FrameBlind Pc) (hrc : rm.cells = mc) (hrs : rm.slots = ms)
    (hframes : rm.frames + 1 ≤ R.frames) (hlocals : W9 + (maxL + 11) + rm.locals ≤ R.locals)
    (hws : ∀ w ∈ ws, ∀ a' U, s.WarmedH U.vm → w.before a' U = true) (hcode : Cond.code y bytes maxL ret ∈ ws) (hinit : ∀ a' U, s.WarmedH U.vm → (Cond.initialized y.cls).before a' U = true) :
    vx_Back l R p e below s sargs y len W9 (PreOf R mc ms Pc) (PostOf Qc mc ms free) (vx_Post XC mc ms free) := by
  intro m meth c A g ig mk a X hg hsize hdg hW hn hp
  have h1 : (headSpec ws rm).pre.before a A.U = true := atoms_intro fun w hw => hws w hw _ _ X.warmed
  have h2 : (Cond.code y bytes maxL ret).before a A.U = true := hws _ hcode _ _ X.warmed
  have h3 : (Cond.initialized y.cls).before a A.U = true := hinit _ _ X.warmed
  have h4 : A.cells + (headSpec ws rm).room.cells ≤ R.cells := by rw [show (headSpec ws rm).room.cells = mc from hrc]; exact hp.1
  have h5 : A.slots + (headSpec ws rm).room.slots ≤ R.slots := by rw [show (headSpec ws rm).room.slots = ms from hrs]; exact hp.2.1
  have hPc : Pc a (A.U.calling g mk a) := hblind _ _ _ _ hp.2.2
  obtain ⟨U, Ls, c0, s0⟩ := A
  dsimp only [Pt.U, Pt.locs, Pt.cells, Pt.slots] at h1 h2 h3 h4 h5 X hn hPc ⊢
  obtain ⟨methY, cY, hmY, hcY, -, hlY, -, -, -, -⟩ := Cond.code_spec hn h2
  obtain ⟨kY, hkY, -⟩ := className_of_methodNamed hn
  have hinitY : kY.init = .initialized := Cond.initialized_spec (findClass_of_methodNamed hn) hkY h3
  have h : At U g.method c below := by rw [hg]; exact X.here
  have hlocals9 : W9 + (maxL + 11) + (headSpec ws rm).room.locals ≤ R.locals := hlocals
  have happ : (headSpec ws rm).appliesLoose y e.platform (U.calling g mk a) = true :=
    Spec.appliesLoose_calling (g := g) h hdg hn hkY hinitY
      (X.room_calling (g := g) (R' := (headSpec ws rm).room) hsize hmY hcY hframes (by rw [hlY]; omega) h4 h5) h1
  obtain ⟨mid, hmid⟩ := h.above
  have hfr : (U.setTop g).frames = (.java g :: mid) ++ below := by rw [State.frames_setTop' g h.top, hmid]; rfl
  obtain ⟨o, s₂, hsteps, -, hend, hq⟩ := Steps.callFree hM p X.admits X.cas X.clock (acts := []) hfr happ hPc trivial
  have hq' : vx_Q Qc XC mc ms free a (U.calling g mk a) o s₂ := hq
  rw [State.frames_setTop' g h.top] at hend
  obtain ⟨g₀, hg0⟩ := Option.isSome_iff_exists.mp h.top
  obtain ⟨r, hr⟩ := State.topJava?_eq_some.mp hg0
  have hr' : (({ U with heap := s₂.heap, slotsUsed := s₂.slotsUsed } : State).setVm s₂.vm).frames = .java g₀ :: r := hr
  rcases hq' with ⟨hqc, L, hfe, hL⟩ | ⟨q, rfl, E, ce, L, hx, hce, hcv, hcl, hW₂, hsm, hL⟩
  · obtain ⟨⟨v, rfl⟩, hW₂, e2, q2, q3, q4, q5, q6⟩ := id hfe
    have e3 : s₂ = ({ (U.calling g mk a).setFrames s₂.frames with heap := s₂.heap, slotsUsed := s₂.slotsUsed } : State).setVm s₂.vm := by
      have : s₂ = ({ s₂ with vm := (U.calling g mk a).vm } : State).setVm s₂.vm := rfl
      rw [e2] at this
      exact this
    obtain ⟨c₂, i₂, len₂, hc₂, hd₂, hf₂⟩ := hend
    have hW' : U.WarmedH s₂.vm := hW₂
    have hcc : c₂ = c := by
      have h1 : s₂.code? g.method = U.code? g.method := by
        rw [State.code?_eq, State.code?_eq, hW'.alike.method?]
      exact Option.some.inj (hc₂.symm.trans (h1.trans h.code))
    subst hcc
    have hlen : len₂ = len := by rw [hdg] at hd₂; cases hd₂; rfl
    subst hlen
    have hs₂ : s₂ = (({ U with heap := s₂.heap, slotsUsed := s₂.slotsUsed } : State).setVm s₂.vm).setTop { g with pc := g.pc + len₂, stack := v.toList ++ g.stack } := by
      refine e3.trans ?_
      rw [hf₂, State.calling_eq h.top, State.setFrames_setFrames, State.setTop_of_frames _ hr', hr]
      rfl
    have hsame : U.sameButNew ({ U with heap := s₂.heap, slotsUsed := s₂.slotsUsed } : State) L mc ms := by
      refine ⟨?_, q2, q3, q4, q5, q6⟩
      obtain ⟨t, ht, -⟩ := State.frames_cons hr
      show ({ U with heap := s₂.heap, slotsUsed := s₂.slotsUsed } : State) = { U.setFrames U.frames with heap := s₂.heap, slotsUsed := s₂.slotsUsed }
      rw [State.setFrames_self ht]
    subst hg
    refine Or.inl ⟨v, ⟨(({ U with heap := s₂.heap, slotsUsed := s₂.slotsUsed } : State).setVm s₂.vm), Ls ++ L, c0 + mc, s0 + ms⟩,
      ⟨X.admits, X.cas, X.clock, X.frames, X.room, X.hears, X.method, X.code, (X.here.setHeapUsed s₂.heap s₂.slotsUsed).setVm hW'.alike, X.tail, State.WarmedH.trans X.warmed hW', X.limits, X.bytes, X.same.trans (hsame.setVm s.vm)⟩,
      ⟨g, mk, s₂, L, rfl, rfl, hqc, rfl, hL, rfl, rfl⟩, ?_⟩
    show Steps p.tables e below _ ((({ U with heap := s₂.heap, slotsUsed := s₂.slotsUsed } : State).setVm s₂.vm).setTop { g with pc := g.pc + len₂, stack := v.toList ++ g.stack })
    rw [← hs₂]
    exact hsteps
  · obtain ⟨e2, q2, q3, q4, q5, q6⟩ := id hsm
    have e3 : s₂ = ({ (U.calling g mk a).setFrames s₂.frames with heap := s₂.heap, slotsUsed := s₂.slotsUsed } : State).setVm s₂.vm := by
      have : s₂ = ({ s₂ with vm := (U.calling g mk a).vm } : State).setVm s₂.vm := rfl
      rw [e2] at this
      exact this
    have hf₂ : s₂.frames = .throwing q :: .java g :: U.frames.tail := hend
    have hW' : U.WarmedH s₂.vm := hW₂
    have hs₂ : s₂ = ((({ U with heap := s₂.heap, slotsUsed := s₂.slotsUsed } : State).setVm s₂.vm).setTop g).pushFrame (.throwing q) := by
      refine e3.trans ?_
      rw [hf₂, State.calling_eq h.top, State.setFrames_setFrames, State.pushFrame, State.frames_setTop _ hr', State.setTop_of_frames _ hr', State.setFrames_setFrames, hr]
      rfl
    have hsame : U.sameButNew ({ U with heap := s₂.heap, slotsUsed := s₂.slotsUsed } : State) L mc ms := by
      refine ⟨?_, q2, q3, q4, q5, q6⟩
      obtain ⟨t, ht, -⟩ := State.frames_cons hr
      show ({ U with heap := s₂.heap, slotsUsed := s₂.slotsUsed } : State) = { U.setFrames U.frames with heap := s₂.heap, slotsUsed := s₂.slotsUsed }
      rw [State.setFrames_self ht]
    subst hg
    refine Or.inr ⟨q, ⟨(({ U with heap := s₂.heap, slotsUsed := s₂.slotsUsed } : State).setVm s₂.vm), Ls ++ L, c0 + mc, s0 + ms⟩,
      ⟨X.admits, X.cas, X.clock, X.frames, X.room, X.hears, X.method, X.code, (X.here.setHeapUsed s₂.heap s₂.slotsUsed).setVm hW'.alike, X.tail, State.WarmedH.trans X.warmed hW', X.limits, X.bytes, X.same.trans (hsame.setVm s.vm)⟩,
      ⟨g, mk, s₂, L, E, ce, rfl, rfl, hx, hce, hcv, hcl, rfl, hL, rfl, rfl⟩, ?_⟩
    show Steps p.tables e below _ (((({ U with heap := s₂.heap, slotsUsed := s₂.slotsUsed } : State).setVm s₂.vm).setTop g).pushFrame (.throwing q))
    rw [← hs₂]
    exact hsteps
end Payer
section Calls
variable {p : Program} {l : Launch} {e : Env} {R : Room} {s : State} {m : MethodId} {args : Array Value} {below : List Frame} {meth : Method} {c : Code} {T : State} {locs : List Loc} {cells slots : Nat}
theorem vx_callV (X : Stand p l e R s m args below meth c T locs cells slots) (hexec : p.tables.exec = Jvm.exec) {own C : String} {index : Nat} {y : MethodName} {bytes : ByteArray} {maxL : Nat} {ret : Option FieldType}
    (hown : s.vm.findClass own = some m.cls) (hlink : (Cond.methodLink own index y).before args s = true) (hinst : (Cond.instanceMethod y).before args s = true) (hsel : (Cond.selects C y y).before args s = true)
    (hcode : (Cond.code y bytes maxL ret).before args s = true) (hy : y.cls ≠ "java/lang/invoke/MethodHandle" ∧ y.cls ≠ "java/lang/invoke/VarHandle")
    {W9 : Nat} {Pre : Pt → Array Value → Prop} {Post : Pt → Array Value → Option Value → Pt → Prop} {PostX : Pt → Array Value → Addr → Pt → Prop} (hK : vx_Back l R p e below s args y 3 W9 Pre Post PostX)
    {b : Addr} {cellB : Cell} (hcell : T.heap[b]? = some cellB) (hobj : cellB.vm.isStatics = false) (hcls : s.vm.findClass C = some cellB.cls)
    {g : JFrame} (hg : g.method = m) (hsize : g.locals.size = c.maxLocals) {argsL rest : List Value} (hlen : ∀ sig, parseMethodDescriptor y.desc = some sig → argsL.length = sig.parameters.length)
    (hstack : g.stack = argsL.reverse ++ .ref b :: rest) (hW : 2 * g.monitorRoom + (rest.map fun v => v.category).sum ≤ W9) (hdg : decode c.code g.pc = .ok (.invokevirtual index, 3))
    (hpre : ∀ vm₁, s.WarmedH vm₁ → Pre ⟨T.setVm vm₁, locs, cells, slots⟩ (Value.ref b :: argsL).toArray) :
    (∃ (v : Option Value) (vm₁ : Vm) (B : Pt), s.WarmedH vm₁ ∧ Stand p l e R s m args below meth c B.U B.locs B.cells B.slots ∧ Post ⟨T.setVm vm₁, locs, cells, slots⟩ (Value.ref b :: argsL).toArray v B ∧
      ∀ target, Steps p.tables e below (B.U.setTop { g with pc := g.pc + 3, stack := v.toList ++ rest }) target → Steps p.tables e below (T.setTop g) target) ∨
    (∃ (q : Addr) (vm₁ : Vm) (B : Pt), s.WarmedH vm₁ ∧ Stand p l e R s m args below meth c B.U B.locs B.cells B.slots ∧ PostX ⟨T.setVm vm₁, locs, cells, slots⟩ (Value.ref b :: argsL).toArray q B ∧
      Steps p.tables e below (T.setTop g) ((B.U.setTop { g with stack := rest }).pushFrame (.throwing q))) := by
  obtain ⟨mk, methM, hnamed, hmethM, hstM, habM⟩ := Cond.instanceMethod_spec hinst
  obtain ⟨methM', cM, hmethM', -, -, -, -, -, -, hsigM⟩ := Cond.code_spec hnamed hcode
  cases hmethM.symm.trans hmethM'
  obtain ⟨c2, r2, m2, q1, q2, q3, q4, kP, hkP, hkPi⟩ := Cond.selects_spec hsel
  cases hcls.symm.trans q1
  cases (State.methodFound?_of_named hnamed hy).symm.trans q2
  cases hnamed.symm.trans q3
  have hselP : selectMethod e.platform s.vm cellB.cls mk = .method mk := by rw [Launch.admits_selectMethod X.admits]; exact q4
  obtain ⟨vm₁, X₁, hstep₁⟩ := X.invokevirtual hexec hown hlink hnamed hmethM hstM hkP hkPi hy (a := b) (cell := cellB) hcell
    (fun z h => by rw [h] at hobj; cases hobj) hselP hmethM habM hkP hkPi (g := g) hg (argsL := argsL) (rest := rest) (hlen _ hsigM) hstack hdg
  rcases hK m meth c ⟨T.setVm vm₁, locs, cells, slots⟩ { g with stack := rest } (.invokevirtual index) mk (Value.ref b :: argsL).toArray X₁ hg hsize hdg hW (X₁.named hnamed) (hpre vm₁ X₁.warmed) with ⟨v, B, X', hpost, hsteps⟩ | ⟨q, B, X', hpost, hsteps⟩
  · exact Or.inl ⟨v, vm₁, B, X₁.warmed, X', hpost, fun target h => hstep₁ _ fun acts => by rw [doInvoke_state]; exact hsteps.trans h⟩
  · exact Or.inr ⟨q, vm₁, B, X₁.warmed, X', hpost, hstep₁ _ fun acts => by rw [doInvoke_state]; exact hsteps⟩
theorem vx_callS (X : Stand p l e R s m args below meth c T locs cells slots) (hexec : p.tables.exec = Jvm.exec) {own : String} {index : Nat} {y : MethodName} {bytes : ByteArray} {maxL : Nat} {ret : Option FieldType}
    (hown : s.vm.findClass own = some m.cls) (hlink : (Cond.methodLink own index y).before args s = true) (hstat : (Cond.static y).before args s = true) (hinit : (Cond.initialized y.cls).before args s = true)
    (hcode : (Cond.code y bytes maxL ret).before args s = true) (hy : y.cls ≠ "java/lang/invoke/MethodHandle" ∧ y.cls ≠ "java/lang/invoke/VarHandle")
    {W9 : Nat} {Pre : Pt → Array Value → Prop} {Post : Pt → Array Value → Option Value → Pt → Prop} {PostX : Pt → Array Value → Addr → Pt → Prop} (hK : vx_Back l R p e below s args y 3 W9 Pre Post PostX)
    {g : JFrame} (hg : g.method = m) (hsize : g.locals.size = c.maxLocals) {argsL rest : List Value} (hlen : ∀ sig, parseMethodDescriptor y.desc = some sig → argsL.length = sig.parameters.length)
    (hstack : g.stack = argsL.reverse ++ rest) (hW : 2 * g.monitorRoom + (rest.map fun v => v.category).sum ≤ W9) (hdg : decode c.code g.pc = .ok (.invokestatic index, 3))
    (hpre : ∀ vm₁, s.WarmedH vm₁ → Pre ⟨T.setVm vm₁, locs, cells, slots⟩ argsL.toArray) :
    (∃ (v : Option Value) (vm₁ : Vm) (B : Pt), s.WarmedH vm₁ ∧ Stand p l e R s m args below meth c B.U B.locs B.cells B.slots ∧ Post ⟨T.setVm vm₁, locs, cells, slots⟩ argsL.toArray v B ∧
      ∀ target, Steps p.tables e below (B.U.setTop { g with pc := g.pc + 3, stack := v.toList ++ rest }) target → Steps p.tables e below (T.setTop g) target) ∨
    (∃ (q : Addr) (vm₁ : Vm) (B : Pt), s.WarmedH vm₁ ∧ Stand p l e R s m args below meth c B.U B.locs B.cells B.slots ∧ PostX ⟨T.setVm vm₁, locs, cells, slots⟩ argsL.toArray q B ∧
      Steps p.tables e below (T.setTop g) ((B.U.setTop { g with stack := rest }).pushFrame (.throwing q))) := by
  obtain ⟨mk, hnamed⟩ := Cond.code_named hcode
  obtain ⟨methM, cM, hmethM, -, -, -, -, -, -, hsigM⟩ := Cond.code_spec hnamed hcode
  have hstatic : methM.isStatic = true := Cond.static_spec hnamed hmethM hstat
  obtain ⟨kP, hkP, -⟩ := className_of_methodNamed hnamed
  have hinitP : kP.init = .initialized := Cond.initialized_spec (findClass_of_methodNamed hnamed) hkP hinit
  obtain ⟨vm₁, X₁, hstep₁⟩ := X.invokestatic hexec hown hlink hnamed hmethM hstatic hkP hinitP hy (g := g) hg (argsL := argsL) (rest := rest) (hlen _ hsigM) hstack hdg
  rcases hK m meth c ⟨T.setVm vm₁, locs, cells, slots⟩ { g with stack := rest } (.invokestatic index) mk argsL.toArray X₁ hg hsize hdg hW (X₁.named hnamed) (hpre vm₁ X₁.warmed) with ⟨v, B, X', hpost, hsteps⟩ | ⟨q, B, X', hpost, hsteps⟩
  · exact Or.inl ⟨v, vm₁, B, X₁.warmed, X', hpost, fun target h => hstep₁ _ fun acts => by rw [doInvoke_state]; exact hsteps.trans h⟩
  · exact Or.inr ⟨q, vm₁, B, X₁.warmed, X', hpost, hstep₁ _ fun acts => by rw [doInvoke_state]; exact hsteps⟩
end Calls
theorem vx_cls {s : State} {T : State} {vm₁ : Vm} {E : String} {k : ClassId} (hW : s.WarmedH vm₁) (h : (T.setVm vm₁).vm.findClass E = some k) : s.vm.findClass E = some k := by
  have h1 : vm₁.findClass E = some k := h
  rw [hW.alike.findClass] at h1
  exact h1
/-- the method's frame g, with q thrown over it -/
def vx_W (p : Program) (l : Launch) (e : Env) (R : Room) (s : State) (m : MethodId) (args : Array Value) (below : List Frame) (meth : Method) (c : Code) (H : Heap) (locs : List Loc) (cells slots : Nat) (Q : State → Prop) (g : JFrame) (q : Addr) : Prop :=
  ∀ T : State, T.heap = H → Stand p l e R s m args below meth c T locs cells slots → ∃ t, Steps p.tables e below ((T.setTop g).pushFrame (.throwing q)) t ∧ Q t
def vx_Run (p : Program) (l : Launch) (e : Env) (R : Room) (s : State) (m : MethodId) (args : Array Value) (below : List Frame) (meth : Method) (c : Code) (H : Heap) (locs : List Loc) (cells slots mc ms : Nat) (g : JFrame) (rest : List Value) (Qa : State → Outcome → State → Prop) (XC : String → State → State → Prop) (free : Addr → Prop) : Prop :=
  ∀ T : State, T.heap = H → Stand p l e R s m args below meth c T locs cells slots →
    (∃ (v : Option Value) (st₀ t T' : State) (L : List Loc), st₀.heap = H ∧ Stand p l e R s m args below meth c T' (locs ++ L) (cells + mc) (slots + ms) ∧ (∀ q ∈ L, free q.base) ∧ T'.heap = t.heap ∧ T'.vm = t.vm ∧ Qa st₀ (.returned v) t ∧
      Goes p e below T g T' { g with pc := g.pc + 3, stack := v.toList ++ rest }) ∨
    (∃ (q : Addr) (st₀ t T' : State) (L : List Loc) (E : String) (ce : Cell), st₀.heap = H ∧ Stand p l e R s m args below meth c T' (locs ++ L) (cells + mc) (slots + ms) ∧ (∀ z ∈ L, free z.base) ∧ T'.heap = t.heap ∧ T'.vm = t.vm ∧ XC E st₀ t ∧ t.heap[q]? = some ce ∧ ce.vm = .none ∧ s.vm.findClass E = some ce.cls ∧
      Steps p.tables e below (T.setTop g) ((T'.setTop { g with stack := rest }).pushFrame (.throwing q)))
def vx_X {S : Type} (px : S → Prop) (B : String → S → State → Prop) (A : Nat → Prop) : String → State → State → Prop := fun E st t => ∃ u : S, px u ∧ B E u t ∧ va_F A st t
section Runs
variable {p : Program} {l : Launch} {e : Env} {R : Room} {s : State} {m : MethodId} {args : Array Value} {below : List Frame} {meth : Method} {c : Code} {H : Heap} {locs : List Loc} {cells slots : Nat}
variable {y : MethodName} {bytes cc : ByteArray} {maxL nL mc ms n index : Nat} {ret : Option FieldType} {ws : List Cond} {rm : Room} {Pc : Array Value → State → Prop} {Qc : Array Value → State → Outcome → State → Prop} {XC : String → State → State → Prop} {free : Addr → Prop} {Ts : List Cond} {own C : String} {b : Addr} {As rest : List Value} {g : JFrame}
theorem vx_callBack (cb : CallB R s args own index y bytes maxL ret ws rm mc ms n) (hM : vx_Met l y ws rm Pc Qc XC mc ms free) (hbl : FrameBlind Pc) : vx_Back l R p e below s args y 3 8 (PreOf R mc ms Pc) (PostOf Qc mc ms free) (vx_Post XC mc ms free) := by
  obtain ⟨hrc, hrs, hfr, hlo, hws, hcw, -, hini, -⟩ := cb
  exact vx_back (bytes := bytes) (maxL := maxL) (ret := ret) hM hbl hrc hrs hfr hlo hws hcw (fun a' U hW => word_at hW (Or.inl (by first | rfl | simp [Cond.onTables, Cond.keeps, Cond.steady])) hini)
theorem vx_runV (S : CallFix p m c cc nL s args Ts own) (hM : vx_Met l y ws rm Pc Qc XC mc ms free) (cw : CallW R s args own C index y bytes maxL ret ws rm mc ms n) (hp : PreV s H C b Pc As)
    (hg : g.method = m) (hn : As.length = n) (hsize : g.locals.size = nL) (hstack : g.stack = As.reverse ++ .ref b :: rest) (hW : 2 * g.monitorRoom + (rest.map fun v => v.category).sum ≤ 8) (hdg : decode cc g.pc = .ok (.invokevirtual index, 3)) (hf : cells + mc ≤ R.cells ∧ slots + ms ≤ R.slots) :
    vx_Run p l e R s m args below meth c H locs cells slots mc ms g rest (Qc (Value.ref b :: As).toArray) XC free := by
  have hK : vx_Back l R p e below s args y 3 8 (PreOf R mc ms Pc) (PostOf Qc mc ms free) (vx_Post XC mc ms free) := vx_callBack cw.1 hM hp.1
  obtain ⟨⟨-, -, -, -, -, -, hcode, -, hy, hlen, hl⟩, hin, hse⟩ := cw
  obtain ⟨hx, hb, hml, ho, -⟩ := S
  obtain ⟨-, ⟨cellB, hcB, hoB, hclB⟩, hPc⟩ := hp
  intro T hT X
  rcases vx_callV X hx (C := C) (bytes := bytes) (maxL := maxL) (ret := ret) ho hl hin hse hcode hy hK (by rw [hT]; exact hcB) hoB hclB hg (hsize.trans hml.symm) (argsL := As) (rest := rest) (fun sig h => hn.trans (hlen sig h)) hstack hW (by rw [hb]; exact hdg)
    (fun vm₁ hW₁ => ⟨hf.1, hf.2, hPc (T.setVm vm₁) hT hW₁⟩) with ⟨v, vm₁, ⟨U', l2, c2, s2⟩, hW₁, X', ⟨g', mk, t, L, e1, e2, hq, h1, hL, h2, h3⟩, st⟩ | ⟨q, vm₁, ⟨U', l2, c2, s2⟩, hW₁, X', ⟨g', mk, t, L, E, ce, e1, e2, hq, hce, hcv, hcl, h1, hL, h2, h3⟩, st⟩
  · dsimp only [Pt.U, Pt.locs, Pt.cells, Pt.slots] at X' e1 e2 h1 h2 h3 st
    subst h1; subst h2; subst h3
    exact Or.inl ⟨v, (T.setVm vm₁).calling g' mk (Value.ref b :: As).toArray, t, U', L, hT, X', hL, e1, e2, hq, st⟩
  · dsimp only [Pt.U, Pt.locs, Pt.cells, Pt.slots] at X' e1 e2 h1 h2 h3 st hcl
    subst h1; subst h2; subst h3
    exact Or.inr ⟨q, (T.setVm vm₁).calling g' mk (Value.ref b :: As).toArray, t, U', L, E, ce, hT, X', hL, e1, e2, hq, hce, hcv, vx_cls hW₁ hcl, st⟩
theorem vx_runS (S : CallFix p m c cc nL s args Ts own) (hM : vx_Met l y ws rm Pc Qc XC mc ms free) (cw : CallB R s args own index y bytes maxL ret ws rm mc ms n ∧ (Cond.static y).before args s = true) (hp : PreS s H Pc As)
    (hg : g.method = m) (hn : As.length = n) (hsize : g.locals.size = nL) (hstack : g.stack = As.reverse ++ rest) (hW : 2 * g.monitorRoom + (rest.map fun v => v.category).sum ≤ 8) (hdg : decode cc g.pc = .ok (.invokestatic index, 3)) (hf : cells + mc ≤ R.cells ∧ slots + ms ≤ R.slots) :
    vx_Run p l e R s m args below meth c H locs cells slots mc ms g rest (Qc As.toArray) XC free := by
  have hK : vx_Back l R p e below s args y 3 8 (PreOf R mc ms Pc) (PostOf Qc mc ms free) (vx_Post XC mc ms free) := vx_callBack cw.1 hM hp.1
  obtain ⟨⟨-, -, -, -, -, -, hcode, hini, hy, hlen, hl⟩, hstt⟩ := cw
  obtain ⟨hx, hb, hml, ho, -⟩ := S
  intro T hT X
  rcases vx_callS X hx (bytes := bytes) (maxL := maxL) (ret := ret) ho hl hstt hini hcode hy hK hg (hsize.trans hml.symm) (argsL := As) (rest := rest) (fun sig h => hn.trans (hlen sig h)) hstack hW (by rw [hb]; exact hdg)
    (fun vm₁ hW₁ => ⟨hf.1, hf.2, hp.2 (T.setVm vm₁) hT hW₁⟩) with ⟨v, vm₁, ⟨U', l2, c2, s2⟩, hW₁, X', ⟨g', mk, t, L, e1, e2, hq, h1, hL, h2, h3⟩, st⟩ | ⟨q, vm₁, ⟨U', l2, c2, s2⟩, hW₁, X', ⟨g', mk, t, L, E, ce, e1, e2, hq, hce, hcv, hcl, h1, hL, h2, h3⟩, st⟩
  · dsimp only [Pt.U, Pt.locs, Pt.cells, Pt.slots] at X' e1 e2 h1 h2 h3 st
    subst h1; subst h2; subst h3
    exact Or.inl ⟨v, (T.setVm vm₁).calling g' mk As.toArray, t, U', L, hT, X', hL, e1, e2, hq, st⟩
  · dsimp only [Pt.U, Pt.locs, Pt.cells, Pt.slots] at X' e1 e2 h1 h2 h3 st hcl
    subst h1; subst h2; subst h3
    exact Or.inr ⟨q, (T.setVm vm₁).calling g' mk As.toArray, t, U', L, E, ce, hT, X', hL, e1, e2, hq, hce, hcv, vx_cls hW₁ hcl, st⟩
end Runs
section Rows
variable {p : Program} {l : Launch} {e : Env} {R : Room} {s : State} {m : MethodId} {args : Array Value} {below : List Frame} {meth : Method} {c : Code} {H : Heap} {locs : List Loc} {cells slots : Nat} {Q : State → Prop}
variable {mc ms : Nat} {free : Addr → Prop} {A0 A1 : Nat → Prop} {H0 : Heap} {a : Array Value} {pc : Nat} {ls : Array Slot} {st0 rest : List Value}
theorem vx_keep {st₀ t T' : State} {L : List Loc} (h0 : st₀.heap = H) (e1 : T'.heap = t.heap) (hS : va_S A0 H0 H locs) (hA : ∀ q, q < H.size → A1 q → A0 q) (hf : ∀ q, free q → A0 q) (hL : ∀ q ∈ L, free q.base) (hF : va_F A1 st₀ t) :
    H.size ≤ T'.heap.size ∧ (∀ q : Nat, q < H.size → ¬ A1 q → T'.heap[q]? = H[q]?) ∧ va_S A0 H0 T'.heap (locs ++ L) := by
  obtain ⟨hz, hk⟩ := hF
  rw [h0] at hz hk
  exact ⟨by rw [e1]; exact hz, fun q h1 h2 => by rw [e1]; exact hk q h1 h2,
    ⟨Nat.le_trans hS.1 (by rw [e1]; exact hz), fun q h1 h2 => by rw [e1, hk q (Nat.lt_of_lt_of_le h1 hS.1) (fun z => h2 (hA q (Nat.lt_of_lt_of_le h1 hS.1) z))]; exact hS.2.1 q h1 h2, fun q hq => by
      rcases List.mem_append.mp hq with h | h
      · exact hS.2.2 q h
      · exact hf _ (hL q h)⟩⟩
theorem vx_calli {S SX : Type} {post : Int32 → S → Prop} {px : SX → Prop} {B : S → State → Prop} {BX : String → SX → State → Prop} {AX : Nat → Prop} (hr : vx_Run p l e R s m args below meth c H locs cells slots mc ms (F0 m pc ls st0) rest (va_Qi post B A1 a) (vx_X px BX AX) free) (hS : va_S A0 H0 H locs) (hA : ∀ q, q < H.size → A1 q → A0 q) (hf : ∀ q, free q → A0 q) (hAX : ∀ q, q < H.size → AX q → A0 q)
    (kx : ∀ (E : String) (ce : Cell) (q9 : Addr) (u : SX) (t : State) (H1 : Heap) (locs1 : List Loc), t.heap = H1 → s.vm.Alike t.vm → px u → BX E u t → H.size ≤ H1.size → (∀ q : Nat, q < H.size → ¬ AX q → H1[q]? = H[q]?) → va_S A0 H0 H1 locs1 → H1[q9]? = some ce → ce.vm = .none → s.vm.findClass E = some ce.cls → vx_W p l e R s m args below meth c H1 locs1 (cells + mc) (slots + ms) Q (F0 m pc ls rest) q9)
    (kk : ∀ (r : Int32) (u : S) (t : State) (H1 : Heap) (locs1 : List Loc), t.heap = H1 → s.vm.Alike t.vm → post r u → B u t → H.size ≤ H1.size → (∀ q : Nat, q < H.size → ¬ A1 q → H1[q]? = H[q]?) → va_S A0 H0 H1 locs1 → W p l e R s m args below meth c H1 locs1 (cells + mc) (slots + ms) Q (F0 m (pc + 3) ls (.int r :: rest))) : W p l e R s m args below meth c H locs cells slots Q (F0 m pc ls st0) := by
  intro T hT X
  rcases hr T hT X with ⟨v, st₀, t, T', L, h0, X', hL, e1, e2, ⟨⟨r, u, hv, hp, hb⟩, hF⟩, st⟩ | ⟨q, st₀, t, T', L, E, ce, h0, X', hL, e1, e2, ⟨u, hp, hb, hF⟩, hce, hcv, hcl, st⟩
  · cases hv
    obtain ⟨k1, k2, k3⟩ := vx_keep h0 e1 hS hA hf hL hF
    obtain ⟨t2, a1, b1⟩ := kk r u t T'.heap (locs ++ L) e1.symm (by rw [← e2]; exact X'.warmed.alike) hp hb k1 k2 k3 T' rfl X'
    exact ⟨t2, st t2 a1, b1⟩
  · obtain ⟨k1, k2, k3⟩ := vx_keep h0 e1 hS hAX hf hL hF
    obtain ⟨t2, a1, b1⟩ := kx E ce q u t T'.heap (locs ++ L) e1.symm (by rw [← e2]; exact X'.warmed.alike) hp hb k1 k2 k3 (by rw [e1]; exact hce) hcv hcl T' rfl X'
    exact ⟨t2, st.trans a1, b1⟩
theorem vx_calll {S SX : Type} {post : Int64 → S → Prop} {px : SX → Prop} {B : S → State → Prop} {BX : String → SX → State → Prop} {AX : Nat → Prop} (hr : vx_Run p l e R s m args below meth c H locs cells slots mc ms (F0 m pc ls st0) rest (va_Ql post B A1 a) (vx_X px BX AX) free) (hS : va_S A0 H0 H locs) (hA : ∀ q, q < H.size → A1 q → A0 q) (hf : ∀ q, free q → A0 q) (hAX : ∀ q, q < H.size → AX q → A0 q)
    (kx : ∀ (E : String) (ce : Cell) (q9 : Addr) (u : SX) (t : State) (H1 : Heap) (locs1 : List Loc), t.heap = H1 → s.vm.Alike t.vm → px u → BX E u t → H.size ≤ H1.size → (∀ q : Nat, q < H.size → ¬ AX q → H1[q]? = H[q]?) → va_S A0 H0 H1 locs1 → H1[q9]? = some ce → ce.vm = .none → s.vm.findClass E = some ce.cls → vx_W p l e R s m args below meth c H1 locs1 (cells + mc) (slots + ms) Q (F0 m pc ls rest) q9)
    (kk : ∀ (r : Int64) (u : S) (t : State) (H1 : Heap) (locs1 : List Loc), t.heap = H1 → s.vm.Alike t.vm → post r u → B u t → H.size ≤ H1.size → (∀ q : Nat, q < H.size → ¬ A1 q → H1[q]? = H[q]?) → va_S A0 H0 H1 locs1 → W p l e R s m args below meth c H1 locs1 (cells + mc) (slots + ms) Q (F0 m (pc + 3) ls (.long r :: rest))) : W p l e R s m args below meth c H locs cells slots Q (F0 m pc ls st0) := by
  intro T hT X
  rcases hr T hT X with ⟨v, st₀, t, T', L, h0, X', hL, e1, e2, ⟨⟨r, u, hv, hp, hb⟩, hF⟩, st⟩ | ⟨q, st₀, t, T', L, E, ce, h0, X', hL, e1, e2, ⟨u, hp, hb, hF⟩, hce, hcv, hcl, st⟩
  · cases hv
    obtain ⟨k1, k2, k3⟩ := vx_keep h0 e1 hS hA hf hL hF
    obtain ⟨t2, a1, b1⟩ := kk r u t T'.heap (locs ++ L) e1.symm (by rw [← e2]; exact X'.warmed.alike) hp hb k1 k2 k3 T' rfl X'
    exact ⟨t2, st t2 a1, b1⟩
  · obtain ⟨k1, k2, k3⟩ := vx_keep h0 e1 hS hAX hf hL hF
    obtain ⟨t2, a1, b1⟩ := kx E ce q u t T'.heap (locs ++ L) e1.symm (by rw [← e2]; exact X'.warmed.alike) hp hb k1 k2 k3 (by rw [e1]; exact hce) hcv hcl T' rfl X'
    exact ⟨t2, st.trans a1, b1⟩
theorem vx_callf {S SX : Type} {post : UInt32 → S → Prop} {px : SX → Prop} {B : S → State → Prop} {BX : String → SX → State → Prop} {AX : Nat → Prop} (hr : vx_Run p l e R s m args below meth c H locs cells slots mc ms (F0 m pc ls st0) rest (va_Qf post B A1 a) (vx_X px BX AX) free) (hS : va_S A0 H0 H locs) (hA : ∀ q, q < H.size → A1 q → A0 q) (hf : ∀ q, free q → A0 q) (hAX : ∀ q, q < H.size → AX q → A0 q)
    (kx : ∀ (E : String) (ce : Cell) (q9 : Addr) (u : SX) (t : State) (H1 : Heap) (locs1 : List Loc), t.heap = H1 → s.vm.Alike t.vm → px u → BX E u t → H.size ≤ H1.size → (∀ q : Nat, q < H.size → ¬ AX q → H1[q]? = H[q]?) → va_S A0 H0 H1 locs1 → H1[q9]? = some ce → ce.vm = .none → s.vm.findClass E = some ce.cls → vx_W p l e R s m args below meth c H1 locs1 (cells + mc) (slots + ms) Q (F0 m pc ls rest) q9)
    (kk : ∀ (r : UInt32) (u : S) (t : State) (H1 : Heap) (locs1 : List Loc), t.heap = H1 → s.vm.Alike t.vm → post r u → B u t → H.size ≤ H1.size → (∀ q : Nat, q < H.size → ¬ A1 q → H1[q]? = H[q]?) → va_S A0 H0 H1 locs1 → W p l e R s m args below meth c H1 locs1 (cells + mc) (slots + ms) Q (F0 m (pc + 3) ls (.float r :: rest))) : W p l e R s m args below meth c H locs cells slots Q (F0 m pc ls st0) := by
  intro T hT X
  rcases hr T hT X with ⟨v, st₀, t, T', L, h0, X', hL, e1, e2, ⟨⟨r, u, hv, hp, hb⟩, hF⟩, st⟩ | ⟨q, st₀, t, T', L, E, ce, h0, X', hL, e1, e2, ⟨u, hp, hb, hF⟩, hce, hcv, hcl, st⟩
  · cases hv
    obtain ⟨k1, k2, k3⟩ := vx_keep h0 e1 hS hA hf hL hF
    obtain ⟨t2, a1, b1⟩ := kk r u t T'.heap (locs ++ L) e1.symm (by rw [← e2]; exact X'.warmed.alike) hp hb k1 k2 k3 T' rfl X'
    exact ⟨t2, st t2 a1, b1⟩
  · obtain ⟨k1, k2, k3⟩ := vx_keep h0 e1 hS hAX hf hL hF
    obtain ⟨t2, a1, b1⟩ := kx E ce q u t T'.heap (locs ++ L) e1.symm (by rw [← e2]; exact X'.warmed.alike) hp hb k1 k2 k3 (by rw [e1]; exact hce) hcv hcl T' rfl X'
    exact ⟨t2, st.trans a1, b1⟩
theorem vx_calld {S SX : Type} {post : UInt64 → S → Prop} {px : SX → Prop} {B : S → State → Prop} {BX : String → SX → State → Prop} {AX : Nat → Prop} (hr : vx_Run p l e R s m args below meth c H locs cells slots mc ms (F0 m pc ls st0) rest (va_Qd post B A1 a) (vx_X px BX AX) free) (hS : va_S A0 H0 H locs) (hA : ∀ q, q < H.size → A1 q → A0 q) (hf : ∀ q, free q → A0 q) (hAX : ∀ q, q < H.size → AX q → A0 q)
    (kx : ∀ (E : String) (ce : Cell) (q9 : Addr) (u : SX) (t : State) (H1 : Heap) (locs1 : List Loc), t.heap = H1 → s.vm.Alike t.vm → px u → BX E u t → H.size ≤ H1.size → (∀ q : Nat, q < H.size → ¬ AX q → H1[q]? = H[q]?) → va_S A0 H0 H1 locs1 → H1[q9]? = some ce → ce.vm = .none → s.vm.findClass E = some ce.cls → vx_W p l e R s m args below meth c H1 locs1 (cells + mc) (slots + ms) Q (F0 m pc ls rest) q9)
    (kk : ∀ (r : UInt64) (u : S) (t : State) (H1 : Heap) (locs1 : List Loc), t.heap = H1 → s.vm.Alike t.vm → post r u → B u t → H.size ≤ H1.size → (∀ q : Nat, q < H.size → ¬ A1 q → H1[q]? = H[q]?) → va_S A0 H0 H1 locs1 → W p l e R s m args below meth c H1 locs1 (cells + mc) (slots + ms) Q (F0 m (pc + 3) ls (.double r :: rest))) : W p l e R s m args below meth c H locs cells slots Q (F0 m pc ls st0) := by
  intro T hT X
  rcases hr T hT X with ⟨v, st₀, t, T', L, h0, X', hL, e1, e2, ⟨⟨r, u, hv, hp, hb⟩, hF⟩, st⟩ | ⟨q, st₀, t, T', L, E, ce, h0, X', hL, e1, e2, ⟨u, hp, hb, hF⟩, hce, hcv, hcl, st⟩
  · cases hv
    obtain ⟨k1, k2, k3⟩ := vx_keep h0 e1 hS hA hf hL hF
    obtain ⟨t2, a1, b1⟩ := kk r u t T'.heap (locs ++ L) e1.symm (by rw [← e2]; exact X'.warmed.alike) hp hb k1 k2 k3 T' rfl X'
    exact ⟨t2, st t2 a1, b1⟩
  · obtain ⟨k1, k2, k3⟩ := vx_keep h0 e1 hS hAX hf hL hF
    obtain ⟨t2, a1, b1⟩ := kx E ce q u t T'.heap (locs ++ L) e1.symm (by rw [← e2]; exact X'.warmed.alike) hp hb k1 k2 k3 (by rw [e1]; exact hce) hcv hcl T' rfl X'
    exact ⟨t2, st.trans a1, b1⟩
theorem vx_callv {S SX : Type} {post : S → Prop} {px : SX → Prop} {B : S → State → Prop} {BX : String → SX → State → Prop} {AX : Nat → Prop} (hr : vx_Run p l e R s m args below meth c H locs cells slots mc ms (F0 m pc ls st0) rest (va_Qv post B A1 a) (vx_X px BX AX) free) (hS : va_S A0 H0 H locs) (hA : ∀ q, q < H.size → A1 q → A0 q) (hf : ∀ q, free q → A0 q) (hAX : ∀ q, q < H.size → AX q → A0 q)
    (kx : ∀ (E : String) (ce : Cell) (q9 : Addr) (u : SX) (t : State) (H1 : Heap) (locs1 : List Loc), t.heap = H1 → s.vm.Alike t.vm → px u → BX E u t → H.size ≤ H1.size → (∀ q : Nat, q < H.size → ¬ AX q → H1[q]? = H[q]?) → va_S A0 H0 H1 locs1 → H1[q9]? = some ce → ce.vm = .none → s.vm.findClass E = some ce.cls → vx_W p l e R s m args below meth c H1 locs1 (cells + mc) (slots + ms) Q (F0 m pc ls rest) q9)
    (kk : ∀ (u : S) (t : State) (H1 : Heap) (locs1 : List Loc), t.heap = H1 → s.vm.Alike t.vm → post u → B u t → H.size ≤ H1.size → (∀ q : Nat, q < H.size → ¬ A1 q → H1[q]? = H[q]?) → va_S A0 H0 H1 locs1 → W p l e R s m args below meth c H1 locs1 (cells + mc) (slots + ms) Q (F0 m (pc + 3) ls (rest))) : W p l e R s m args below meth c H locs cells slots Q (F0 m pc ls st0) := by
  intro T hT X
  rcases hr T hT X with ⟨v, st₀, t, T', L, h0, X', hL, e1, e2, ⟨⟨u, hv, hp, hb⟩, hF⟩, st⟩ | ⟨q, st₀, t, T', L, E, ce, h0, X', hL, e1, e2, ⟨u, hp, hb, hF⟩, hce, hcv, hcl, st⟩
  · cases hv
    obtain ⟨k1, k2, k3⟩ := vx_keep h0 e1 hS hA hf hL hF
    obtain ⟨t2, a1, b1⟩ := kk u t T'.heap (locs ++ L) e1.symm (by rw [← e2]; exact X'.warmed.alike) hp hb k1 k2 k3 T' rfl X'
    exact ⟨t2, st t2 a1, b1⟩
  · obtain ⟨k1, k2, k3⟩ := vx_keep h0 e1 hS hAX hf hL hF
    obtain ⟨t2, a1, b1⟩ := kx E ce q u t T'.heap (locs ++ L) e1.symm (by rw [← e2]; exact X'.warmed.alike) hp hb k1 k2 k3 (by rw [e1]; exact hce) hcv hcl T' rfl X'
    exact ⟨t2, st.trans a1, b1⟩
/-- caught by the row x of this method's table; the rows ahead don't take it -/
theorem vx_catch {own name : String} {E : String} {ce : Cell} {q : Addr} (hown : s.vm.findClass own = some m.cls) (pre : List ExceptionTableEntry) (x : ExceptionTableEntry) (suf : List ExceptionTableEntry) (hsplit : c.exceptionTable.toList = pre ++ x :: suf)
    (hpass : ∀ z ∈ pre, covers z pc = false ∨ (z.catchType ≠ 0 ∧ ∃ nm : String, (Cond.classLink own z.catchType nm).before args s = true ∧ va_Nc E nm s)) (hx : covers x pc = true) (h0 : x.catchType ≠ 0)
    (hlink : (Cond.classLink own x.catchType name).before args s = true) (hcast : (Cond.castable E name).before args s = true) (hcell : H[q]? = some ce) (hv : ce.vm = .none) (hcl : s.vm.findClass E = some ce.cls)
    (kk : W p l e R s m args below meth c H locs cells slots Q (F0 m x.handlerPc ls [.ref q])) : vx_W p l e R s m args below meth c H locs cells slots Q (F0 m pc ls rest) q := by
  intro T hT X
  have hpl : e.platform.magicAccessors = ({} : Platform).magicAccessors := by rw [X.admits.platform]
  obtain ⟨c3, c4, hc3, hc4, hasg⟩ := Cond.castable_spec hcast
  cases Option.some.inj (hc3.symm.trans hcl)
  obtain ⟨c5, hc5, hcl5⟩ := Cond.classLink_spec hown hlink e.platform hpl
  cases Option.some.inj (hc4.symm.trans hc5)
  obtain ⟨vm', X', st⟩ := X.thenCaughtThrough q (g := F0 m pc ls rest) rfl (Steps.refl _) (by rw [hT]; exact hcell) (by rw [hv]; rfl) (by obtain ⟨k9, h9, -⟩ := Vm.findClass_spec hcl; exact ⟨k9, h9⟩) pre x suf hsplit
    (fun z hz => by
      rcases hpass z hz with h | ⟨hz0, nm, hl1, hn1⟩
      · exact Or.inl h
      · obtain ⟨c6, hc6, hcl6⟩ := Cond.classLink_spec hown hl1 e.platform hpl
        obtain ⟨a8, b8, h1, h2, h3⟩ := hn1
        cases Option.some.inj (h1.symm.trans hcl)
        cases Option.some.inj (h2.symm.trans hc6)
        exact Or.inr ⟨hz0, _, hcl6, h3⟩) hx (Or.inr ⟨h0, c4, hcl5, hasg⟩)
  obtain ⟨t, a1, b1⟩ := kk (T.setVm vm') hT X'
  exact ⟨t, st.trans a1, b1⟩
end Rows
section Ends
variable {p : Program} {l : Launch} {e : Env} {R : Room} {s : State} {m : MethodId} {args : Array Value} {below : List Frame} {meth : Method} {c : Code} {H : Heap} {locs : List Loc} {cells slots : Nat} {Q : State → Prop}
variable {mc ms : Nat} {free : Addr → Prop} {A0 A1 : Nat → Prop} {H0 : Heap} {a : Array Value} {ls : Array Slot} {st0 rest : List Value}
variable {Qc : Array Value → State → Outcome → State → Prop} {XC : String → State → State → Prop}
/-- what a body that may throw owes at its end -/
def vx_MQ (below : List Frame) (Qc : Array Value → State → Outcome → State → Prop) (XC : String → State → State → Prop) (a : Array Value) (s : State) (mc ms : Nat) (free : Addr → Prop) : State → Prop := fun t =>
  ∃ o, t.status = .running ∧ Ended t below o ∧ vx_Q Qc XC mc ms free a s o t
theorem vx_ret {g : JFrame} {mc ms : Nat} (k : W p l e R s m args below meth c H locs cells slots (MQ below Qc args s mc ms free) g) : W p l e R s m args below meth c H locs cells slots (vx_MQ below Qc XC args s mc ms free) g := by
  intro T hT X
  obtain ⟨t, a1, o, b1, b2, b3, b4⟩ := k T hT X
  exact ⟨t, a1, o, b1, b2, Or.inl ⟨b3, b4⟩⟩
/-- not caught here: it goes on to the caller -/
theorem vx_widen {g : JFrame} {q : Addr} {k n : Nat} (h1 : cells ≤ k) (h2 : slots ≤ n) (kk : vx_W p l e R s m args below meth c H locs k n Q g q) : vx_W p l e R s m args below meth c H locs cells slots Q g q := fun T hT X => kk T hT (stand_widen X h1 h2)
theorem vx_out {pc : Nat} {E : String} {ce : Cell} {q : Addr} {mc ms : Nat} (hout : ∀ x ∈ c.exceptionTable.toList, covers x pc = false) (hlocks : meth.locks = false) (hcell : H[q]? = some ce) (hv : ce.vm = .none) (hcl : s.vm.findClass E = some ce.cls)
    (hx : ∀ t : State, t.heap = H → s.vm.Alike t.vm → XC E s t) (hf : ∀ z ∈ locs, free z.base) (hc : cells ≤ mc) (hs : slots ≤ ms) :
    vx_W p l e R s m args below meth c H locs cells slots (vx_MQ below Qc XC args s mc ms free) (F0 m pc ls rest) q := by
  intro T hT X
  obtain ⟨st1, hrun, hend, hW, hsm⟩ := X.leaveThrown q (g := F0 m pc ls rest) rfl rfl rfl hout hlocks
  have hcell9 : (T.setFrames (.throwing q :: below)).heap[q]? = some ce := by
    show T.heap[q]? = some ce
    rw [hT]; exact hcell
  exact ⟨_, st1, .threw q, hrun, hend, Or.inr ⟨q, rfl, E, ce, locs, hx _ hT hW.alike, hcell9, hv, hcl, hW, hsm.mono hc hs, hf⟩⟩
theorem vx_frame {U : State} {k n : Nat} (h : s.sameButNew ({ U with vm := s.vm } : State) locs k n) : s.heap.size ≤ U.heap.size ∧ ∀ q : Nat, q < s.heap.size → (∀ z ∈ locs, z.base ≠ q) → U.heap[q]? = s.heap[q]? := by
  obtain ⟨-, h2, -, -, -, h6⟩ := h
  refine ⟨h2, fun q hq hz => ?_⟩
  obtain ⟨c9, e1, e2, e3, e4⟩ := h6 q _ (Array.getElem?_eq_getElem hq)
  have hs : c9.slots = (s.heap[q]).slots := Array.ext_getElem? fun i => e4 i fun hm => hz _ hm rfl
  have h9 : c9 = s.heap[q] := by
    rw [hs] at e2
    exact e2
  have e5 : U.heap[q]? = some c9 := e1
  rw [e5, h9, Array.getElem?_eq_getElem hq]
/-- the words of a throw but the four that speak of the heap -/
def vx_no (w : Cond) : Bool := decide (w ≠ .isRef (.static Bundle.tN "UNASSIGNED_STACK" Bundle.steD)) && decide (w ≠ .isRef (.static Bundle.tN "SUPPRESSED_SENTINEL" Bundle.listD)) && decide (w ≠ .laysStatic Bundle.tN "UNASSIGNED_STACK" Bundle.steD) && decide (w ≠ .laysStatic Bundle.tN "SUPPRESSED_SENTINEL" Bundle.listD)
def vx_at0 (own : String) (ic : Nat) (X : String) (names : List String) : List Cond := (Bundle.ownAtoms0 own ic X names).filter vx_no
def vx_atS (own : String) (ic : Nat) (X : String) (names : List String) : List Cond := (Bundle.ownAtoms own ic X names).filter vx_no
/-- a word that the tables alone decide, or a good one -/
def vx_ot (w : Cond) : Bool := w.onTables || goodWord w
theorem vx_ot_at {args a' : Array Value} {s U : State} {w : Cond} (hW : s.WarmedH U.vm) (hvm : s.vm = U.vm) (hg : vx_ot w = true) (h : w.before args s = true) : w.before a' U = true := by
  simp only [vx_ot, Bool.or_eq_true] at hg
  rcases hg with hg | hg
  · exact va_tabs hg hvm h
  · exact word_at hW (good_of_word hg) h
/-- a list's words: the good ones out of the method's own list, the others by premises of their own -/
theorem vx_hat {args : Array Value} {s : State} {L B : List Cond} (h1 : ∀ w ∈ L.filter goodWord, w.before args s = true) (h2 : ∀ w ∈ L.filter (fun w => !goodWord w), w ∈ B) (h3 : ∀ w ∈ B, w.before args s = true) : ∀ w ∈ L, w.before args s = true := by
  intro w hw
  by_cases g : goodWord w = true
  · exact h1 w (List.mem_filter.mpr ⟨hw, g⟩)
  · refine h3 w (h2 w (List.mem_filter.mpr ⟨hw, ?_⟩))
    show (!goodWord w) = true
    cases hgw : goodWord w
    · rfl
    · exact absurd hgw g
theorem vx_c {args : Array Value} {s : State} {w : Cond} {B : List Cond} (h : w.before args s = true) (t : ∀ w ∈ B, w.before args s = true) : ∀ w' ∈ w :: B, w'.before args s = true := fun w' h' => (List.mem_cons.mp h').elim (fun e => by rw [e]; exact h) (t w')
theorem vx_n {args : Array Value} {s : State} : ∀ w ∈ ([] : List Cond), w.before args s = true := fun _ h => nomatch h
theorem vx_own {args : Array Value} {s : State} {L : List Cond} (h1 : ∀ w ∈ L.filter vx_no, w.before args s = true)
    (hU : (Cond.isRef (.static Bundle.tN "UNASSIGNED_STACK" Bundle.steD)).before args s = true) (hN : (Cond.isRef (.static Bundle.tN "SUPPRESSED_SENTINEL" Bundle.listD)).before args s = true)
    (lU : (Cond.laysStatic Bundle.tN "UNASSIGNED_STACK" Bundle.steD).before args s = true) (lN : (Cond.laysStatic Bundle.tN "SUPPRESSED_SENTINEL" Bundle.listD).before args s = true) : ∀ w ∈ L, w.before args s = true := by
  intro w hw
  by_cases e1 : w = .isRef (.static Bundle.tN "UNASSIGNED_STACK" Bundle.steD)
  · rw [e1]; exact hU
  · by_cases e2 : w = .isRef (.static Bundle.tN "SUPPRESSED_SENTINEL" Bundle.listD)
    · rw [e2]; exact hN
    · by_cases e3 : w = .laysStatic Bundle.tN "UNASSIGNED_STACK" Bundle.steD
      · rw [e3]; exact lU
      · by_cases e4 : w = .laysStatic Bundle.tN "SUPPRESSED_SENTINEL" Bundle.listD
        · rw [e4]; exact lN
        · exact h1 w (List.mem_filter.mpr ⟨hw, by unfold vx_no; rw [decide_eq_true e1, decide_eq_true e2, decide_eq_true e3, decide_eq_true e4]; rfl⟩)
/-- where a static field lies, its class's statics cell in H -/
def vx_L (C n d : String) (A : Nat → Prop) (U : State) (H : Heap) : Prop := ∃ (c : ClassId) (k : Class) (i : Nat) (f : Field) (a : Nat) (cell : Cell), U.vm.findClass C = some c ∧ U.fieldFound? C n d = some (c, k, i, f) ∧ f.isStatic = true ∧ k.statics = some a ∧ H[a]? = some cell ∧ cell.vm.isStatics = true ∧ cell.cls = c ∧ f.slot < cell.slots.size ∧ k.staticTypes[f.slot]? = some f.type ∧ ¬ A a
theorem vx_L.moved {C n d : String} {A : Nat → Prop} {u U : State} {H : Heap} (hvm : u.vm.Alike U.vm) (h : vx_L C n d A u H) : vx_L C n d A U H := by
  obtain ⟨c, k, i, f, a, cell, h1, h2, h3, h4, h5, h6, h7, h8, h9, h10⟩ := h
  obtain ⟨k', hi', he⟩ := State.fieldFound?_setVm hvm h2
  exact ⟨c, k', i, f, a, cell, by rw [hvm.findClass]; exact h1, hi', h3, by rw [he]; exact h4, h5, h6, h7, h8, by rw [he]; exact h9, h10⟩
theorem vx_L.kept {C n d : String} {A : Nat → Prop} {U : State} {H H1 : Heap} (h : vx_L C n d A U H) (hq : ∀ a : Nat, a < H.size → ¬ A a → H1[a]? = H[a]?) : vx_L C n d A U H1 := by
  obtain ⟨c, k, i, f, a, cell, h1, h2, h3, h4, h5, h6, h7, h8, h9, h10⟩ := h
  exact ⟨c, k, i, f, a, cell, h1, h2, h3, h4, by rw [hq a (Array.getElem?_eq_some_iff.mp h5).1 h10]; exact h5, h6, h7, h8, h9, h10⟩
theorem vx_L.narrow {C n d : String} {A B : Nat → Prop} {U : State} {H : Heap} (h : vx_L C n d A U H) (hAB : ∀ q, B q → A q) : vx_L C n d B U H := by
  obtain ⟨c, k, i, f, a, cell, h1, h2, h3, h4, h5, h6, h7, h8, h9, h10⟩ := h
  exact ⟨c, k, i, f, a, cell, h1, h2, h3, h4, h5, h6, h7, h8, h9, fun z => h10 (hAB _ z)⟩
theorem vx_L.word {C n d : String} {A : Nat → Prop} {s : State} {args : Array Value} (h : vx_L C n d A s s.heap) : (Cond.laysStatic C n d).before args s = true := by
  obtain ⟨c, k, i, f, a, cell, h1, h2, h3, h4, h5, h6, h7, h8, h9, -⟩ := h
  show (Cond.laysStatic C n d).holds args s none s [] = true
  exact Cond.laysStatic_of h1 h2 h3 h4 h5 h6 h7 h8 h9
/-- .. and what it holds: null or some reference -/
def vx_Zq (C n d : String) (A : Nat → Prop) (U : State) (H : Heap) : Prop := va_Zq C n d A U H ∧ vx_L C n d A U H
theorem vx_Zq.moved {C n d : String} {A : Nat → Prop} {u U : State} {H : Heap} (hvm : u.vm.Alike U.vm) (h : vx_Zq C n d A u H) : vx_Zq C n d A U H := ⟨va_Zq.moved hvm h.1, vx_L.moved hvm h.2⟩
theorem vx_Zq.kept {C n d : String} {A : Nat → Prop} {U : State} {H H1 : Heap} (h : vx_Zq C n d A U H) (hq : ∀ a : Nat, a < H.size → ¬ A a → H1[a]? = H[a]?) : vx_Zq C n d A U H1 := ⟨va_Zq.kept h.1 hq, vx_L.kept h.2 hq⟩
theorem vx_Zq.narrow {C n d : String} {A B : Nat → Prop} {U : State} {H : Heap} (h : vx_Zq C n d A U H) (hAB : ∀ q, B q → A q) : vx_Zq C n d B U H := ⟨va_Zq.narrow h.1 hAB, vx_L.narrow h.2 hAB⟩
theorem vx_Zqof {args : Array Value} {s : State} {C n d : String} {A : Nat → Prop} (hl : (Cond.laysStatic C n d).before args s = true) (hini : (Cond.initialized C).before args s = true) (h : (Cond.isRef (.static C n d)).before args s = true) (hA : ∀ a : Nat, a < s.heap.size → ¬ A a) : vx_Zq C n d A s s.heap := by
  refine ⟨va_Zqof hl hini h hA, ?_⟩
  obtain ⟨c, k, i, f, a, cell, h1, h2, h3, h4, h5, h6, h7, h8, h9⟩ := Cond.laysStatic_spec hl
  exact ⟨c, k, i, f, a, cell, h1, h2, h3, h4, h5, h6, h7, h8, h9, hA a (Array.getElem?_eq_some_iff.mp h5).1⟩
theorem vx_isRef {C n d : String} {v : Value} {A : Nat → Prop} {s : State} {args : Array Value} (h : va_Z C n d v A s s.heap) (hv : v.isRef = true) : (Cond.isRef (.static C n d)).before args s = true := by
  obtain ⟨cf, kf, fi, f, a, cell, h1, h2, h3, h4, h5, h6, h7, -⟩ := h
  have he : (Term.static C n d).eval args s none [] s = some v := by
    simp [Term.eval, State.fieldNamed?, h1, h2, h4, h5, h6, h7]
  simp only [Cond.before, Cond.holds, Cond.value, he]
  cases v <;> simp_all [Value.isRef]
theorem vx_isRefq {C n d : String} {A : Nat → Prop} {s : State} {args : Array Value} (h : va_Zq C n d A s s.heap) : (Cond.isRef (.static C n d)).before args s = true := by
  rcases h with h | ⟨t, h⟩
  · exact vx_isRef h rfl
  · exact vx_isRef h rfl
/-- the same frame, seen from here: as if the method were called anew in this heap -/
theorem vx_rebase {T : State} (X : Stand p l e R s m args below meth c T locs cells slots) {R' : Room} (hf : R'.frames ≤ R.frames) (hl : R'.locals ≤ R.locals) (hc : cells + R'.cells ≤ R.cells) (hs : slots + R'.slots ≤ R.slots) :
    Stand p l e R' ((T.setVm s.vm).setFrames (.invoking m args :: below)) m args below meth c T [] 0 0 := by
  have htop : (T.setVm s.vm).topJava?.isSome := X.here.top
  have hF : ((T.setVm s.vm).setFrames (.invoking m args :: below)).frames = .invoking m args :: below := State.frames_setFrames _ (State.cur_lt_of_top htop)
  obtain ⟨g₀, hg0⟩ := Option.isSome_iff_exists.mp htop
  obtain ⟨r, hr⟩ := State.topJava?_eq_some.mp hg0
  have hl9 : e.platform.stackLimits (T.setVm s.vm).me = e.platform.stackLimits s.me := X.limits
  have hb9 : (T.setVm s.vm).me.stackBytes = s.me.stackBytes := X.bytes
  refine ⟨X.admits, X.cas, X.clock, hF, ?_, X.hears, X.method, X.code, X.here, X.tail, X.warmed, ?_, ?_, ?_⟩
  · have h := X.room
    have hU : ((T.setVm s.vm).setFrames (.invoking m args :: below)).localsInUse = s.localsInUse := by
      rw [State.localsInUse_invoking hF (meth := meth) (c := c) X.method X.code, State.localsInUse_invoking X.frames X.method X.code]
    simp only [State.hasRoom, Bool.and_eq_true, decide_eq_true_eq] at h ⊢
    obtain ⟨⟨⟨⟨h1, h2, h3, h4, h5, h6⟩, h7⟩, h8⟩, h9⟩ := h
    rw [X.frames, List.length_cons] at h2 h3
    have q1 := X.heapSize
    have q2 := X.used
    simp only [hF, hU, List.length_cons, State.stackLimits_setFrames, State.stackBytes_setFrames, hl9, hb9]
    refine ⟨⟨⟨⟨by omega, by omega, by omega, by omega, by omega, h6⟩, ?_⟩, ?_⟩, X.book⟩
    · show T.heap.size + R'.cells ≤ e.platform.maxCells
      omega
    · show T.slotsUsed + R'.slots ≤ e.platform.maxSlots
      omega
  · rw [State.stackLimits_setFrames]; rfl
  · rw [State.stackBytes_setFrames]; rfl
  · refine ⟨?_, Nat.le_refl _, Nat.le_refl _, ?_, ?_, fun a c9 h9 => ⟨c9, h9, rfl, rfl, fun _ _ => rfl⟩⟩
    · obtain ⟨t, ht, -⟩ := State.frames_cons hr
      show T.setVm s.vm = { ((T.setVm s.vm).setFrames (.invoking m args :: below)).setFrames (T.setVm s.vm).frames with heap := T.heap, slotsUsed := T.slotsUsed }
      rw [State.setFrames_setFrames, State.setFrames_self ht]
      rfl
    · show T.slotsUsed = T.slotsUsed + ((T.heap.toList.drop T.heap.size).map (·.slots.size)).sum
      rw [List.drop_eq_nil_of_le (Nat.le_of_eq Array.length_toList)]
      rfl
    · show ((T.heap.toList.drop T.heap.size).map (·.slots.size)).sum ≤ 0
      rw [List.drop_eq_nil_of_le (Nat.le_of_eq Array.length_toList)]
      exact Nat.le_refl _
/-- 'throw new E()': new; dup; invokespecial; athrow -/
theorem vx_throw0 {cc : ByteArray} {pc : Nat} (hexec : p.tables.exec = Jvm.exec) (hb : c.code = cc) (hl : l.stackTraces = false) {own cls : String} {names : List String} {ik ic mc ms : Nat} {A : Nat → Prop}
    (hown : s.vm.findClass own = some m.cls) (hcls : Bundle.fit cls = true) (hnames : ∀ n ∈ names, Bundle.fit n = true)
    (hk : (Cond.classLink own ik cls).before args s = true) (hini : (Cond.initialized cls).before args s = true) (hat : ∀ w ∈ vx_at0 own ic cls names, w.before args s = true)
    (hgood : ∀ w ∈ Cond.classLink own ik cls :: Cond.initialized cls :: vx_at0 own ic cls names, vx_ot w = true)
    (hU : vx_Zq Bundle.tN "UNASSIGNED_STACK" Bundle.steD A s s.heap) (hN : vx_Zq Bundle.tN "SUPPRESSED_SENTINEL" Bundle.listD A s s.heap) (hS : va_S A s.heap H locs) (hsize : ls.size = c.maxLocals)
    (d0 : decode cc pc = .ok (.new ik, 3)) (d3 : decode cc (pc + 3) = .ok (.dup, 1)) (d4 : decode cc (pc + 4) = .ok (.invokespecial ic, 3)) (d7 : decode cc (pc + 7) = .ok (.athrow, 1))
    (hout : ∀ x ∈ c.exceptionTable.toList, covers x (pc + 7) = false)
    (hRframes : names.length + 3 < R.frames) (hRlocals : (rest.map fun v => v.category).sum + (13 * (names.length + 1) + 42) ≤ R.locals) (hRcells : cells + 1 ≤ R.cells) (hRslots : slots + 6 ≤ R.slots) (hlocks : meth.locks = false)
    (hx : ∀ t : State, s.vm.Alike t.vm → H.size ≤ t.heap.size → (∀ q : Nat, q < H.size → t.heap[q]? = H[q]?) → XC cls s t)
    (hf : ∀ z ∈ locs, free z.base) (hc : cells + 1 ≤ mc) (hs : slots + 6 ≤ ms) :
    W p l e R s m args below meth c H locs cells slots (vx_MQ below Qc XC args s mc ms free) (F0 m pc ls rest) := by
  intro T hT X
  have htr : e.platform.stackTraces = false := (show e.platform.stackTraces = l.stackTraces by rw [X.admits.platform]).trans hl
  have Y := vx_rebase X (R' := { frames := R.frames, locals := R.locals, cells := 1, slots := 6 }) (Nat.le_refl _) (Nat.le_refl _) hRcells hRslots
  obtain ⟨s', hA⟩ : ∃ z, z = (T.setVm s.vm).setFrames (.invoking m args :: below) := ⟨_, rfl⟩
  rw [← hA] at Y
  have hvm : s'.vm = s.vm := by rw [hA]; rfl
  have hhp : s'.heap = H := by rw [hA]; exact hT
  have hW0 : s.WarmedH s'.vm := by rw [hvm]; exact State.WarmedH.refl s
  have hat' : ∀ w ∈ vx_at0 own ic cls names, w.before args s' = true := fun w hw => vx_ot_at hW0 hvm.symm (hgood w (List.mem_cons_of_mem _ (List.mem_cons_of_mem _ hw))) (hat w hw)
  have hk' : (Cond.classLink own ik cls).before args s' = true := vx_ot_at hW0 hvm.symm (hgood _ List.mem_cons_self) hk
  have hini' : (Cond.initialized cls).before args s' = true := vx_ot_at hW0 hvm.symm (hgood _ (List.mem_cons_of_mem _ List.mem_cons_self)) hini
  have hU' : vx_Zq Bundle.tN "UNASSIGNED_STACK" Bundle.steD A s' s'.heap := by rw [hhp]; exact vx_Zq.moved hW0.alike (hU.kept hS.2.1)
  have hN' : vx_Zq Bundle.tN "SUPPRESSED_SENTINEL" Bundle.listD A s' s'.heap := by rw [hhp]; exact vx_Zq.moved hW0.alike (hN.kept hS.2.1)
  have h : ∀ w ∈ Bundle.ownAtoms0 own ic cls names, w.before args s' = true := vx_own hat' (vx_isRefq hU'.1) (vx_isRefq hN'.1) hU'.2.word hN'.2.word
  have hown' : s'.vm.findClass own = some m.cls := by rw [hvm]; exact hown
  have hins : (Cond.instantiable cls 6).before args s' = true := h _ (by simp [Bundle.ownAtoms0])
  obtain ⟨vm₁, cX, kX, hfX, hkX, -, -, X₁, st1⟩ := Y.newCold hexec (own := own) (C := cls) (index := ik) (n := 6) hown' hk' hins hini'
    (g := F0 m pc ls rest) rfl (by rw [hb]; exact d0) (Nat.le_refl _) (Nat.le_refl _)
  generalize hT1 : (T.setVm vm₁).pushCell { cls := cX, slots := kX.instanceTypes.map defaultValue, vm := .none } = T1 at X₁ st1
  have hcat : (Value.ref T.heap.size).category = 1 := rfl
  have hcellA : T1.heap[T.heap.size]? = some (freshCell cX kX) := by rw [← hT1]; exact State.heap_pushCell_size _ _
  have d3' : decode c.code (pc + 3) = .ok (.dup, 1) := by rw [hb]; exact d3
  obtain ⟨U, hsteps, hrun, hend, hW, hsame, ce, hce, hO⟩ := X₁.ctorThrow0 hexec htr (own := own) (cls := cls) (names := names) (ic := ic) hown' hcls hnames h (fun x hx => nomatch hx) hfX hkX hcellA (by rw [hhp, hT]; exact Nat.le_refl _)
    (g := { method := m, pc := pc + 4, locals := ls, stack := .ref T.heap.size :: .ref T.heap.size :: rest, locked := none }) rfl hsize rfl rfl (rest := rest) rfl
    (by rw [hb]; exact d4) (by rw [hb]; exact d7) hout hRframes (by simp only [List.map_cons, List.sum_cons, hcat]; omega) hlocks
  obtain ⟨f1, f2⟩ := vx_frame hsame
  rw [hhp] at f1 f2
  have hWs : s.WarmedH U.vm := State.WarmedH.trans hW0 hW
  have hcl : s.vm.findClass cls = some ce.cls := by
    have h9 := hO.cls
    rw [hvm] at h9
    exact h9
  have hall : s.sameButNew ({ U with vm := s.vm } : State) locs mc ms := by
    subst hA
    obtain ⟨e1, e2⟩ := hsame
    rw [State.setFrames_setFrames] at e1
    have h2 : (T.setVm s.vm).sameButNew ({ U with vm := s.vm } : State) [] (0 + 1) (0 + 6) := ⟨e1, e2⟩
    have h3 := X.same.trans h2
    rw [List.append_nil] at h3
    exact h3.mono hc hs
  refine ⟨U, ?_, .threw T.heap.size, hrun, hend, Or.inr ⟨T.heap.size, rfl, cls, ce, locs, hx U hWs.alike f1 (fun q hq => f2 q hq (fun z hz => nomatch hz)), hce, hO.vm, hcl, hWs, hall, hf⟩⟩
  refine st1 _ ?_
  show Steps p.tables e below (T1.setTop { method := m, pc := pc + 3, locals := ls, stack := .ref T.heap.size :: rest, locked := none }) _
  jvm_step X₁.here [X₁.here.top, hexec, d3', Value.category]
  exact hsteps
/-- 'throw new E("text")': new; dup; ldc; invokespecial; athrow -/
theorem vx_throwS {cc : ByteArray} {pc : Nat} (hexec : p.tables.exec = Jvm.exec) (hb : c.code = cc) (hl : l.stackTraces = false) {own cls text : String} {names : List String} {ik is ic mc ms sa : Nat} {A : Nat → Prop}
    (hown : s.vm.findClass own = some m.cls) (hcls : Bundle.fit cls = true) (hnames : ∀ n ∈ names, Bundle.fit n = true)
    (hk : (Cond.classLink own ik cls).before args s = true) (hini : (Cond.initialized cls).before args s = true) (hstr : vk_R own is text sa s) (hat : ∀ w ∈ vx_atS own ic cls names, w.before args s = true)
    (hgood : ∀ w ∈ Cond.classLink own ik cls :: Cond.initialized cls :: vx_atS own ic cls names, vx_ot w = true)
    (hU : vx_Zq Bundle.tN "UNASSIGNED_STACK" Bundle.steD A s s.heap) (hN : vx_Zq Bundle.tN "SUPPRESSED_SENTINEL" Bundle.listD A s s.heap) (hS : va_S A s.heap H locs) (hsize : ls.size = c.maxLocals)
    (d0 : decode cc pc = .ok (.new ik, 3)) (d3 : decode cc (pc + 3) = .ok (.dup, 1)) (d4 : decode cc (pc + 4) = .ok (.ldc is, 2)) (d6 : decode cc (pc + 6) = .ok (.invokespecial ic, 3)) (d9 : decode cc (pc + 9) = .ok (.athrow, 1))
    (hout : ∀ x ∈ c.exceptionTable.toList, covers x (pc + 9) = false)
    (hRframes : names.length + 3 < R.frames) (hRlocals : (rest.map fun v => v.category).sum + (13 * (names.length + 1) + 43) ≤ R.locals) (hRcells : cells + 1 ≤ R.cells) (hRslots : slots + 6 ≤ R.slots) (hlocks : meth.locks = false)
    (hx : ∀ t : State, s.vm.Alike t.vm → H.size ≤ t.heap.size → (∀ q : Nat, q < H.size → t.heap[q]? = H[q]?) → XC cls s t)
    (hf : ∀ z ∈ locs, free z.base) (hc : cells + 1 ≤ mc) (hs : slots + 6 ≤ ms) :
    W p l e R s m args below meth c H locs cells slots (vx_MQ below Qc XC args s mc ms free) (F0 m pc ls rest) := by
  intro T hT X
  have htr : e.platform.stackTraces = false := (show e.platform.stackTraces = l.stackTraces by rw [X.admits.platform]).trans hl
  have Y := vx_rebase X (R' := { frames := R.frames, locals := R.locals, cells := 1, slots := 6 }) (Nat.le_refl _) (Nat.le_refl _) hRcells hRslots
  obtain ⟨s', hA⟩ : ∃ z, z = (T.setVm s.vm).setFrames (.invoking m args :: below) := ⟨_, rfl⟩
  rw [← hA] at Y
  have hvm : s'.vm = s.vm := by rw [hA]; rfl
  have hhp : s'.heap = H := by rw [hA]; exact hT
  have hW0 : s.WarmedH s'.vm := by rw [hvm]; exact State.WarmedH.refl s
  have hat' : ∀ w ∈ vx_atS own ic cls names, w.before args s' = true := fun w hw => vx_ot_at hW0 hvm.symm (hgood w (List.mem_cons_of_mem _ (List.mem_cons_of_mem _ hw))) (hat w hw)
  have hk' : (Cond.classLink own ik cls).before args s' = true := vx_ot_at hW0 hvm.symm (hgood _ List.mem_cons_self) hk
  have hini' : (Cond.initialized cls).before args s' = true := vx_ot_at hW0 hvm.symm (hgood _ (List.mem_cons_of_mem _ List.mem_cons_self)) hini
  have hU' : vx_Zq Bundle.tN "UNASSIGNED_STACK" Bundle.steD A s' s'.heap := by rw [hhp]; exact vx_Zq.moved hW0.alike (hU.kept hS.2.1)
  have hN' : vx_Zq Bundle.tN "SUPPRESSED_SENTINEL" Bundle.listD A s' s'.heap := by rw [hhp]; exact vx_Zq.moved hW0.alike (hN.kept hS.2.1)
  have h : ∀ w ∈ Bundle.ownAtoms own ic cls names, w.before args s' = true := vx_own hat' (vx_isRefq hU'.1) (vx_isRefq hN'.1) hU'.2.word hN'.2.word
  have hown' : s'.vm.findClass own = some m.cls := by rw [hvm]; exact hown
  have hins : (Cond.instantiable cls 6).before args s' = true := h _ (by simp [Bundle.ownAtoms])
  obtain ⟨vm₁, cX, kX, hfX, hkX, -, -, X₁, st1⟩ := Y.newCold hexec (own := own) (C := cls) (index := ik) (n := 6) hown' hk' hins hini'
    (g := F0 m pc ls rest) rfl (by rw [hb]; exact d0) (Nat.le_refl _) (Nat.le_refl _)
  generalize hT1 : (T.setVm vm₁).pushCell { cls := cX, slots := kX.instanceTypes.map defaultValue, vm := .none } = T1 at X₁ st1
  have hcat : (Value.ref T.heap.size).category = 1 := rfl
  have hcellA : T1.heap[T.heap.size]? = some (freshCell cX kX) := by rw [← hT1]; exact State.heap_pushCell_size _ _
  have d3' : decode c.code (pc + 3) = .ok (.dup, 1) := by rw [hb]; exact d3
  have d4' : decode c.code (pc + 4) = .ok (.ldc is, 2) := by rw [hb]; exact d4
  have hstr' : vk_R own is text sa s' := vk_R.warm hW0 hstr
  obtain ⟨U, hsteps, hrun, hend, hW, hsame, ce, hce, hO⟩ := X₁.ctorThrowS hexec htr (own := own) (cls := cls) (names := names) (ic := ic) hown' hcls hnames h (fun x hx => nomatch hx) hfX hkX hcellA (by rw [hhp, hT]; exact Nat.le_refl _) (msg := .ref sa) rfl
    (g := { method := m, pc := pc + 6, locals := ls, stack := .ref sa :: .ref T.heap.size :: .ref T.heap.size :: rest, locked := none }) rfl hsize rfl rfl (rest := rest) rfl
    (by rw [hb]; exact d6) (by rw [hb]; exact d9) hout hRframes (by simp only [List.map_cons, List.sum_cons, hcat]; omega) hlocks
  obtain ⟨f1, f2⟩ := vx_frame hsame
  rw [hhp] at f1 f2
  have hWs : s.WarmedH U.vm := State.WarmedH.trans hW0 hW
  have hcl : s.vm.findClass cls = some ce.cls := by
    have h9 := hO.cls
    rw [hvm] at h9
    exact h9
  have hall : s.sameButNew ({ U with vm := s.vm } : State) locs mc ms := by
    subst hA
    obtain ⟨e1, e2⟩ := hsame
    rw [State.setFrames_setFrames] at e1
    have h2 : (T.setVm s.vm).sameButNew ({ U with vm := s.vm } : State) [] (0 + 1) (0 + 6) := ⟨e1, e2⟩
    have h3 := X.same.trans h2
    rw [List.append_nil] at h3
    exact h3.mono hc hs
  refine ⟨U, ?_, .threw T.heap.size, hrun, hend, Or.inr ⟨T.heap.size, rfl, cls, ce, locs, hx U hWs.alike f1 (fun q hq => f2 q hq (fun z hz => nomatch hz)), hce, hO.vm, hcl, hWs, hall, hf⟩⟩
  refine st1 _ ?_
  show Steps p.tables e below (T1.setTop { method := m, pc := pc + 3, locals := ls, stack := .ref T.heap.size :: rest, locked := none }) _
  jvm_step X₁.here [X₁.here.top, hexec, d3', Value.category]
  exact X₁.ldcString hexec (own := own) (text := text) (index := is) (a := sa) hown' hstr'.1 hstr'.2
    (g := { method := m, pc := pc + 4, locals := ls, stack := .ref T.heap.size :: .ref T.heap.size :: rest, locked := none }) rfl d4' _ hsteps
/-- 'throw new E("text")', the text by a wide index -/
theorem vx_throwSW {cc : ByteArray} {pc : Nat} (hexec : p.tables.exec = Jvm.exec) (hb : c.code = cc) (hl : l.stackTraces = false) {own cls text : String} {names : List String} {ik is ic mc ms sa : Nat} {A : Nat → Prop}
    (hown : s.vm.findClass own = some m.cls) (hcls : Bundle.fit cls = true) (hnames : ∀ n ∈ names, Bundle.fit n = true)
    (hk : (Cond.classLink own ik cls).before args s = true) (hini : (Cond.initialized cls).before args s = true) (hstr : vk_R own is text sa s) (hat : ∀ w ∈ vx_atS own ic cls names, w.before args s = true)
    (hgood : ∀ w ∈ Cond.classLink own ik cls :: Cond.initialized cls :: vx_atS own ic cls names, vx_ot w = true)
    (hU : vx_Zq Bundle.tN "UNASSIGNED_STACK" Bundle.steD A s s.heap) (hN : vx_Zq Bundle.tN "SUPPRESSED_SENTINEL" Bundle.listD A s s.heap) (hS : va_S A s.heap H locs) (hsize : ls.size = c.maxLocals)
    (d0 : decode cc pc = .ok (.new ik, 3)) (d3 : decode cc (pc + 3) = .ok (.dup, 1)) (d4 : decode cc (pc + 4) = .ok (.ldc_w is, 3)) (d7 : decode cc (pc + 7) = .ok (.invokespecial ic, 3)) (d10 : decode cc (pc + 10) = .ok (.athrow, 1))
    (hout : ∀ x ∈ c.exceptionTable.toList, covers x (pc + 10) = false)
    (hRframes : names.length + 3 < R.frames) (hRlocals : (rest.map fun v => v.category).sum + (13 * (names.length + 1) + 43) ≤ R.locals) (hRcells : cells + 1 ≤ R.cells) (hRslots : slots + 6 ≤ R.slots) (hlocks : meth.locks = false)
    (hx : ∀ t : State, s.vm.Alike t.vm → H.size ≤ t.heap.size → (∀ q : Nat, q < H.size → t.heap[q]? = H[q]?) → XC cls s t)
    (hf : ∀ z ∈ locs, free z.base) (hc : cells + 1 ≤ mc) (hs : slots + 6 ≤ ms) :
    W p l e R s m args below meth c H locs cells slots (vx_MQ below Qc XC args s mc ms free) (F0 m pc ls rest) := by
  intro T hT X
  have htr : e.platform.stackTraces = false := (show e.platform.stackTraces = l.stackTraces by rw [X.admits.platform]).trans hl
  have Y := vx_rebase X (R' := { frames := R.frames, locals := R.locals, cells := 1, slots := 6 }) (Nat.le_refl _) (Nat.le_refl _) hRcells hRslots
  obtain ⟨s', hA⟩ : ∃ z, z = (T.setVm s.vm).setFrames (.invoking m args :: below) := ⟨_, rfl⟩
  rw [← hA] at Y
  have hvm : s'.vm = s.vm := by rw [hA]; rfl
  have hhp : s'.heap = H := by rw [hA]; exact hT
  have hW0 : s.WarmedH s'.vm := by rw [hvm]; exact State.WarmedH.refl s
  have hat' : ∀ w ∈ vx_atS own ic cls names, w.before args s' = true := fun w hw => vx_ot_at hW0 hvm.symm (hgood w (List.mem_cons_of_mem _ (List.mem_cons_of_mem _ hw))) (hat w hw)
  have hk' : (Cond.classLink own ik cls).before args s' = true := vx_ot_at hW0 hvm.symm (hgood _ List.mem_cons_self) hk
  have hini' : (Cond.initialized cls).before args s' = true := vx_ot_at hW0 hvm.symm (hgood _ (List.mem_cons_of_mem _ List.mem_cons_self)) hini
  have hU' : vx_Zq Bundle.tN "UNASSIGNED_STACK" Bundle.steD A s' s'.heap := by rw [hhp]; exact vx_Zq.moved hW0.alike (hU.kept hS.2.1)
  have hN' : vx_Zq Bundle.tN "SUPPRESSED_SENTINEL" Bundle.listD A s' s'.heap := by rw [hhp]; exact vx_Zq.moved hW0.alike (hN.kept hS.2.1)
  have h : ∀ w ∈ Bundle.ownAtoms own ic cls names, w.before args s' = true := vx_own hat' (vx_isRefq hU'.1) (vx_isRefq hN'.1) hU'.2.word hN'.2.word
  have hown' : s'.vm.findClass own = some m.cls := by rw [hvm]; exact hown
  have hins : (Cond.instantiable cls 6).before args s' = true := h _ (by simp [Bundle.ownAtoms])
  obtain ⟨vm₁, cX, kX, hfX, hkX, -, -, X₁, st1⟩ := Y.newCold hexec (own := own) (C := cls) (index := ik) (n := 6) hown' hk' hins hini'
    (g := F0 m pc ls rest) rfl (by rw [hb]; exact d0) (Nat.le_refl _) (Nat.le_refl _)
  generalize hT1 : (T.setVm vm₁).pushCell { cls := cX, slots := kX.instanceTypes.map defaultValue, vm := .none } = T1 at X₁ st1
  have hcat : (Value.ref T.heap.size).category = 1 := rfl
  have hcellA : T1.heap[T.heap.size]? = some (freshCell cX kX) := by rw [← hT1]; exact State.heap_pushCell_size _ _
  have d3' : decode c.code (pc + 3) = .ok (.dup, 1) := by rw [hb]; exact d3
  have d4' : decode c.code (pc + 4) = .ok (.ldc_w is, 3) := by rw [hb]; exact d4
  have hstr' : vk_R own is text sa s' := vk_R.warm hW0 hstr
  obtain ⟨U, hsteps, hrun, hend, hW, hsame, ce, hce, hO⟩ := X₁.ctorThrowS hexec htr (own := own) (cls := cls) (names := names) (ic := ic) hown' hcls hnames h (fun x hx => nomatch hx) hfX hkX hcellA (by rw [hhp, hT]; exact Nat.le_refl _) (msg := .ref sa) rfl
    (g := { method := m, pc := pc + 7, locals := ls, stack := .ref sa :: .ref T.heap.size :: .ref T.heap.size :: rest, locked := none }) rfl hsize rfl rfl (rest := rest) rfl
    (by rw [hb]; exact d7) (by rw [hb]; exact d10) hout hRframes (by simp only [List.map_cons, List.sum_cons, hcat]; omega) hlocks
  obtain ⟨f1, f2⟩ := vx_frame hsame
  rw [hhp] at f1 f2
  have hWs : s.WarmedH U.vm := State.WarmedH.trans hW0 hW
  have hcl : s.vm.findClass cls = some ce.cls := by
    have h9 := hO.cls
    rw [hvm] at h9
    exact h9
  have hall : s.sameButNew ({ U with vm := s.vm } : State) locs mc ms := by
    subst hA
    obtain ⟨e1, e2⟩ := hsame
    rw [State.setFrames_setFrames] at e1
    have h2 : (T.setVm s.vm).sameButNew ({ U with vm := s.vm } : State) [] (0 + 1) (0 + 6) := ⟨e1, e2⟩
    have h3 := X.same.trans h2
    rw [List.append_nil] at h3
    exact h3.mono hc hs
  refine ⟨U, ?_, .threw T.heap.size, hrun, hend, Or.inr ⟨T.heap.size, rfl, cls, ce, locs, hx U hWs.alike f1 (fun q hq => f2 q hq (fun z hz => nomatch hz)), hce, hO.vm, hcl, hWs, hall, hf⟩⟩
  refine st1 _ ?_
  show Steps p.tables e below (T1.setTop { method := m, pc := pc + 3, locals := ls, stack := .ref T.heap.size :: rest, locked := none }) _
  jvm_step X₁.here [X₁.here.top, hexec, d3', Value.category]
  exact X₁.ldcStringW hexec (own := own) (text := text) (index := is) (a := sa) hown' hstr'.1 hstr'.2
    (g := { method := m, pc := pc + 4, locals := ls, stack := .ref T.heap.size :: .ref T.heap.size :: rest, locked := none }) rfl d4' _ hsteps
end Ends
section Bodies
variable {l : Launch}
theorem vx_ofW {y : MethodName} {ws ws' : List Cond} {rm : Room} {Pc : Array Value → State → Prop} {Qc : Array Value → State → Outcome → State → Prop} {XC : String → State → State → Prop} {mc ms : Nat} {free : Addr → Prop} {cc : ByteArray} {maxL : Nat} {ret : Option FieldType}
    (hy : plainName y.cls = true) (hw : ws = Cond.code y cc maxL ret :: ws')
    (body : ∀ p e s m args below meth c s₁, BodyLoose p l y (headSpec ws rm) cc maxL ret e s m args below meth c s₁ → c.maxLocals = maxL → (∀ x ∈ c.exceptionTable.toList, False) → Pc args s →
      W p l e (headSpec ws rm).room s m args below meth c s.heap [] 0 0 (vx_MQ below Qc XC args s mc ms free) (entryFrame m args maxL)) : vx_Met l y ws rm Pc Qc XC mc ms free := by
  refine MetFree.of_bodyS (code := cc) (maxLocals := maxL) (ret := ret) hy ?_ ?_
  · intro args s m h hn
    obtain ⟨meth, c, h1, h2, h3, h4, h5, h6, -, -⟩ := Cond.code_spec hn (atoms_spec (ws := ws) h _ (by rw [hw]; exact List.mem_cons_self))
    exact ⟨meth, c, h1, h2, h3, h4, h5, h6⟩
  · intro p e s m args below meth c s₁ B hml hP _
    have hh0 : s₁.heap = s.heap := by rw [B.state]; rfl
    have ht : ∀ x ∈ c.exceptionTable.toList, False := by
      obtain ⟨meth9, c9, h1, h2, -, -, -, -, h7, -⟩ := Cond.code_spec B.named (atoms_spec (ws := ws) B.pre _ (by rw [hw]; exact List.mem_cons_self))
      cases Option.some.inj (h1.symm.trans B.method)
      cases Option.some.inj (h2.symm.trans (Stand.of_body B).code)
      intro x hx
      rw [Array.isEmpty_iff.mp h7] at hx
      cases hx
    obtain ⟨t, a1, o, b1, b2, b3⟩ := body p e s m args below meth c s₁ B hml ht hP s₁ hh0 (Stand.of_body B)
    exact ⟨t, o, a1, b1, b2, b3⟩
/-- the table of a body with handlers -/
theorem vx_table {p : Program} {x y : MethodName} {S : Spec} {cc bytes : ByteArray} {maxL maxL' : Nat} {ret ret' : Option FieldType} {e : Env} {s s₁ : State} {m : MethodId} {args : Array Value} {below : List Frame} {meth : Method} {c : Code} {hh : List (Nat × Nat × Nat × Nat)}
    (B : BodyLoose p l y S cc maxL ret e s m args below meth c s₁) (h : (Cond.codeWith y bytes maxL' ret' hh).before args s = true) : c.exceptionTable.toList = tableOf hh := by
  obtain ⟨m9, meth9, c9, hn9, h1, h2, -, -, h6, -⟩ := Cond.codeWith_spec h
  cases Option.some.inj (hn9.symm.trans B.named)
  cases Option.some.inj (h1.symm.trans B.method)
  cases Option.some.inj (h2.symm.trans (Stand.of_body B).code)
  rw [← h6, table_eq]
end Bodies
end VXA
/-! ===== END ===== -/
/-! ===== BEGIN a static call of a method with an exception table ===== -/
section VXS
variable {p : Program} {l : Launch} {e : Env} {R : Room} {s : State} {m : MethodId} {args : Array Value} {below : List Frame} {meth : Method} {c : Code} {T : State} {H : Heap} {locs : List Loc} {cells slots : Nat}
abbrev vx_CSW (R : Room) (s : State) (args : Array Value) (own : String) (index : Nat) (y : MethodName) (bytes : ByteArray) (maxL : Nat) (ret : Option FieldType) (hh : List (Nat × Nat × Nat × Nat)) (ws : List Cond) (rm : Room) (mc ms n : Nat) : Prop :=
  (rm.cells = mc ∧ rm.slots = ms ∧ rm.frames + 1 ≤ R.frames ∧ 8 + (maxL + 11) + rm.locals ≤ R.locals ∧ (∀ w ∈ ws, ∀ (a' : Array Value) (U : State), s.WarmedH U.vm → w.before a' U = true) ∧ Cond.codeWith y bytes maxL ret hh ∈ ws) ∧
  (Cond.codeWith y bytes maxL ret hh).before args s = true ∧ (Cond.initialized y.cls).before args s = true ∧ (y.cls ≠ "java/lang/invoke/MethodHandle" ∧ y.cls ≠ "java/lang/invoke/VarHandle") ∧
  (∀ sig, parseMethodDescriptor y.desc = some sig → n = sig.parameters.length) ∧ (Cond.methodLink own index y).before args s = true ∧ (Cond.static y).before args s = true
theorem vx_cwSW {own : String} {index maxL mc ms : Nat} {y : MethodName} {bytes : ByteArray} {ret : Option FieldType} {hh : List (Nat × Nat × Nat × Nat)} {Ts ws ws' : List Cond} {rm : Room} (n : Nat) (ht : ∀ w ∈ Ts, w.before args s = true) (hT : GoodIn Ts (va_wsS own index y ws)) (hw : ws = Cond.codeWith y bytes maxL ret hh :: ws') (hrc : rm.cells = mc) (hrs : rm.slots = ms)
    (hd : y.cls ≠ "java/lang/invoke/MethodHandle" ∧ y.cls ≠ "java/lang/invoke/VarHandle" ∧ (parseMethodDescriptor y.desc).map (fun d => d.parameters.length) = some n) (hR : rm.frames + 1 ≤ R.frames ∧ 8 + (maxL + 11) + rm.locals ≤ R.locals) :
    vx_CSW R s args own index y bytes maxL ret hh ws rm mc ms n := by
  have ok : ∀ w ∈ va_wsS own index y ws, w.before args s = true := fun w h => ht w (hT w h).1
  have hG : GoodIn Ts ws := fun w h => hT w (by unfold va_wsS; exact List.mem_append_right _ h)
  have hc : Cond.codeWith y bytes maxL ret hh ∈ ws := by rw [hw]; exact List.mem_cons_self
  refine ⟨⟨hrc, hrs, hR.1, hR.2, pay_in ht hG, hc⟩, ht _ (hG _ hc).1, ok _ (by simp [va_wsS]), ⟨hd.1, hd.2.1⟩, fun sig h => ?_, ok _ (by simp [va_wsS]), ok _ (by simp [va_wsS])⟩
  have h2 := hd.2.2
  rw [h] at h2
  exact (Option.some.inj h2).symm
theorem vx_callSW (X : Stand p l e R s m args below meth c T locs cells slots) (hexec : p.tables.exec = Jvm.exec) {own : String} {index : Nat} {y : MethodName} {bytes : ByteArray} {maxL : Nat} {ret : Option FieldType} {hh : List (Nat × Nat × Nat × Nat)}
    (hown : s.vm.findClass own = some m.cls) (hlink : (Cond.methodLink own index y).before args s = true) (hstat : (Cond.static y).before args s = true) (hinit : (Cond.initialized y.cls).before args s = true)
    (hcode : (Cond.codeWith y bytes maxL ret hh).before args s = true) (hy : y.cls ≠ "java/lang/invoke/MethodHandle" ∧ y.cls ≠ "java/lang/invoke/VarHandle")
    {W9 : Nat} {Pre : Pt → Array Value → Prop} {Post : Pt → Array Value → Option Value → Pt → Prop} (hK : Back l R p e below s args y 3 W9 Pre Post)
    {g : JFrame} (hg : g.method = m) (hsize : g.locals.size = c.maxLocals) {argsL rest : List Value} (hlen : ∀ sig, parseMethodDescriptor y.desc = some sig → argsL.length = sig.parameters.length)
    (hstack : g.stack = argsL.reverse ++ rest) (hW : 2 * g.monitorRoom + (rest.map fun v => v.category).sum ≤ W9) (hdg : decode c.code g.pc = .ok (.invokestatic index, 3))
    (hpre : ∀ vm₁, s.WarmedH vm₁ → Pre ⟨T.setVm vm₁, locs, cells, slots⟩ argsL.toArray) :
    ∃ (v : Option Value) (vm₁ : Vm) (B : Pt), s.WarmedH vm₁ ∧ Stand p l e R s m args below meth c B.U B.locs B.cells B.slots ∧ Post ⟨T.setVm vm₁, locs, cells, slots⟩ argsL.toArray v B ∧
      ∀ target, Steps p.tables e below (B.U.setTop { g with pc := g.pc + 3, stack := v.toList ++ rest }) target → Steps p.tables e below (T.setTop g) target := by
  obtain ⟨mk, methM, cM, hnamed, hmethM, -, -, -, -, -, -, hsigM⟩ := Cond.codeWith_spec hcode
  have hstatic : methM.isStatic = true := Cond.static_spec hnamed hmethM hstat
  obtain ⟨kP, hkP, -⟩ := className_of_methodNamed hnamed
  have hinitP : kP.init = .initialized := Cond.initialized_spec (findClass_of_methodNamed hnamed) hkP hinit
  obtain ⟨vm₁, X₁, hstep₁⟩ := X.invokestatic hexec hown hlink hnamed hmethM hstatic hkP hinitP hy (g := g) hg (argsL := argsL) (rest := rest) (hlen _ hsigM) hstack hdg
  obtain ⟨v, B, X', hpost, hsteps⟩ := hK m meth c ⟨T.setVm vm₁, locs, cells, slots⟩ { g with stack := rest } (.invokestatic index) mk argsL.toArray X₁ hg hsize hdg hW (X₁.named hnamed) (hpre vm₁ X₁.warmed)
  exact ⟨v, vm₁, B, X₁.warmed, X', hpost, fun target h => hstep₁ _ fun acts => by rw [doInvoke_state]; exact hsteps.trans h⟩
theorem vx_runSW {y : MethodName} {bytes cc : ByteArray} {maxL nL mc ms n index : Nat} {ret : Option FieldType} {hh : List (Nat × Nat × Nat × Nat)} {ws : List Cond} {rm : Room} {Pc : Array Value → State → Prop} {Qc : Array Value → State → Outcome → State → Prop} {free : Addr → Prop} {Ts : List Cond} {own : String} {As rest : List Value} {g : JFrame}
    (S : CallFix p m c cc nL s args Ts own) (hM : Met l y ws rm Pc Qc mc ms free) (cw : vx_CSW R s args own index y bytes maxL ret hh ws rm mc ms n) (hp : PreS s H Pc As)
    (hg : g.method = m) (hn : As.length = n) (hsize : g.locals.size = nL) (hstack : g.stack = As.reverse ++ rest) (hW : 2 * g.monitorRoom + (rest.map fun v => v.category).sum ≤ 8) (hdg : decode cc g.pc = .ok (.invokestatic index, 3)) (hf : cells + mc ≤ R.cells ∧ slots + ms ≤ R.slots) :
    va_Run p l e R s m args below meth c H locs cells slots mc ms g rest (Qc As.toArray) (free) := by
  obtain ⟨⟨hrc, hrs, hfr, hlo, hws, hcw⟩, hcode, hini, hy, hlen, hl, hstt⟩ := cw
  have hK : Back l R p e below s args y 3 8 (PreOf R mc ms Pc) (PostOf Qc mc ms free) := va_backW (hh := hh) (bytes := bytes) (maxL := maxL) (ret := ret) hM hp.1 hrc hrs hfr hlo hws hcw (fun a' U hW => word_at hW (Or.inl (by first | rfl | simp [Cond.onTables, Cond.keeps, Cond.steady])) hini)
  obtain ⟨hx, hb, hml, ho, -⟩ := S
  intro T hT X
  obtain ⟨v, vm₁, ⟨U', l2, c2, s2⟩, hW₁, X', ⟨g', mk, t, L, e1, e2, hq, h1, hL, h2, h3⟩, st⟩ := vx_callSW X hx (hh := hh) (bytes := bytes) (maxL := maxL) (ret := ret) ho hl hstt hini hcode hy hK hg (hsize.trans hml.symm) (argsL := As) (rest := rest) (fun sig h => hn.trans (hlen sig h)) hstack hW (by rw [hb]; exact hdg)
    (fun vm₁ hW₁ => ⟨hf.1, hf.2, hp.2 (T.setVm vm₁) hT hW₁⟩)
  dsimp only [Pt.U, Pt.locs, Pt.cells, Pt.slots] at X' e1 e2 h1 h2 h3 st
  subst h1; subst h2; subst h3
  exact ⟨v, (T.setVm vm₁).calling g' mk As.toArray, t, U', L, hT, X', hL, e1, e2, hq, st⟩
/-- not caught here, past rows that name other classes: it goes on to the caller -/
theorem vx_outP {p : Program} {l : Launch} {e : Env} {R : Room} {s : State} {m : MethodId} {args : Array Value} {below : List Frame} {meth : Method} {c : Code} {H : Heap} {locs : List Loc} {cells slots : Nat} {free : Addr → Prop} {ls : Array Slot} {rest : List Value} {Qc : Array Value → State → Outcome → State → Prop} {XC : String → State → State → Prop}
    {pc : Nat} {own E : String} {ce : Cell} {q : Addr} {mc ms : Nat} (hown : s.vm.findClass own = some m.cls) (hlocks : meth.locks = false)
    (hpass : ∀ z ∈ c.exceptionTable.toList, covers z pc = false ∨ (z.catchType ≠ 0 ∧ ∃ nm : String, (Cond.classLink own z.catchType nm).before args s = true ∧ va_Nc E nm s)) (hcell : H[q]? = some ce) (hv : ce.vm = .none) (hcl : s.vm.findClass E = some ce.cls)
    (hx : ∀ t : State, t.heap = H → s.vm.Alike t.vm → XC E s t) (hf : ∀ z ∈ locs, free z.base) (hc : cells ≤ mc) (hs : slots ≤ ms) :
    vx_W p l e R s m args below meth c H locs cells slots (vx_MQ below Qc XC args s mc ms free) (F0 m pc ls rest) q := by
  intro T hT X
  have hpl : e.platform.magicAccessors = ({} : Platform).magicAccessors := by rw [X.admits.platform]
  obtain ⟨vm', hW', X', st⟩ := X.outThrough hlocks q (g := F0 m pc ls rest) rfl rfl rfl (cell := ce) (by rw [hT]; exact hcell) (by rw [hv]; rfl)
    (by obtain ⟨k9, h9, -⟩ := Vm.findClass_spec hcl; exact ⟨k9, h9⟩) (fun z hz => by
      rcases hpass z hz with h | ⟨hz0, nm, hl1, hn1⟩
      · exact Or.inl h
      · obtain ⟨c6, hc6, hcl6⟩ := Cond.classLink_spec hown hl1 e.platform hpl
        obtain ⟨a8, b8, h1, h2, h3⟩ := hn1
        cases Option.some.inj (h1.symm.trans hcl)
        cases Option.some.inj (h2.symm.trans hc6)
        exact Or.inr ⟨hz0, _, hcl6, h3⟩)
  obtain ⟨g₀, hfr⟩ := X'.frames_eq
  have hcell9 : ((T.setVm vm').setFrames (.throwing q :: below)).heap[q]? = some ce := by
    show T.heap[q]? = some ce
    rw [hT]; exact hcell
  have hend : Ended ((T.setVm vm').setFrames (.throwing q :: below)) below (.threw q) := State.frames_setFrames _ (State.cur_lt_of_frames hfr)
  refine ⟨(T.setVm vm').setFrames (.throwing q :: below), ?_, .threw q, X'.here.running, hend, Or.inr ⟨q, rfl, E, ce, locs, hx _ hT (X'.ends _).1.alike, hcell9, hv, hcl, (X'.ends _).1, (X'.ends _).2.mono hc hs, hf⟩⟩
  rw [X.pushThrowing_eq]
  exact st
/-- a thing of a world lies in the heap -/
theorem vx_lt {D : va_G} {cl : List vw_C} {ws : va_W} {H1 : Heap} (h : va_P D cl ws H1) {k : Nat} {q : Nat × va_E} (hk : ws[k]? = some q) : q.1 < H1.size := (h k q hk).lt
end VXS
/-! ===== END ===== -/
/-! ===== BEGIN methods with a table of their own: called by a name, returning or throwing ===== -/
section VXH
/-! vx_backW, vx_callVX, vx_callSX, vx_callVW, vx_runVW, vx_runVX, vx_runSX, vx_ofWH follow the same proofs as their sisters above (Free/Laws.lean, Shelf42/LK1.lean); vx_outP calls Shelf42/NT130.lean (outThrough). -/
section
variable {l : Launch} {R : Room} {p : Program} {e : Env} {below : List Frame} {s : State} {sargs : Array Value} {y : MethodName} {len W9 : Nat}
theorem vx_backW {ws : List Cond} {rm : Room} {Pc : Array Value → State → Prop} {Qc : Array Value → State → Outcome → State → Prop} {XC : String → State → State → Prop} {mc ms : Nat} {free : Addr → Prop} {bytes : ByteArray} {maxL : Nat} {ret : Option FieldType} {hh : List (Nat × Nat × Nat × Nat)}
    (hM : vx_Met l y ws rm Pc Qc XC mc ms free) (hblind : FrameBlind Pc) (hrc : rm.cells = mc) (hrs : rm.slots = ms)
    (hframes : rm.frames + 1 ≤ R.frames) (hlocals : W9 + (maxL + 11) + rm.locals ≤ R.locals)
    (hws : ∀ w ∈ ws, ∀ a' U, s.WarmedH U.vm → w.before a' U = true) (hcode : Cond.codeWith y bytes maxL ret hh ∈ ws) (hinit : ∀ a' U, s.WarmedH U.vm → (Cond.initialized y.cls).before a' U = true) :
    vx_Back l R p e below s sargs y len W9 (PreOf R mc ms Pc) (PostOf Qc mc ms free) (vx_Post XC mc ms free) := by
  intro m meth c A g ig mk a X hg hsize hdg hW hn hp
  have h1 : (headSpec ws rm).pre.before a A.U = true := atoms_intro fun w hw => hws w hw _ _ X.warmed
  have h2 : (Cond.codeWith y bytes maxL ret hh).before a A.U = true := hws _ hcode _ _ X.warmed
  have h3 : (Cond.initialized y.cls).before a A.U = true := hinit _ _ X.warmed
  have h4 : A.cells + (headSpec ws rm).room.cells ≤ R.cells := by rw [show (headSpec ws rm).room.cells = mc from hrc]; exact hp.1
  have h5 : A.slots + (headSpec ws rm).room.slots ≤ R.slots := by rw [show (headSpec ws rm).room.slots = ms from hrs]; exact hp.2.1
  have hPc : Pc a (A.U.calling g mk a) := hblind _ _ _ _ hp.2.2
  obtain ⟨U, Ls, c0, s0⟩ := A
  dsimp only [Pt.U, Pt.locs, Pt.cells, Pt.slots] at h1 h2 h3 h4 h5 X hn hPc ⊢
  obtain ⟨m9, methY, cY, hn9, hmY, hcY, -, hlY, -⟩ := Cond.codeWith_spec h2
  cases Option.some.inj (hn9.symm.trans hn)
  obtain ⟨kY, hkY, -⟩ := className_of_methodNamed hn
  have hinitY : kY.init = .initialized := Cond.initialized_spec (findClass_of_methodNamed hn) hkY h3
  have h : At U g.method c below := by rw [hg]; exact X.here
  have hlocals9 : W9 + (maxL + 11) + (headSpec ws rm).room.locals ≤ R.locals := hlocals
  have happ : (headSpec ws rm).appliesLoose y e.platform (U.calling g mk a) = true :=
    Spec.appliesLoose_calling (g := g) h hdg hn hkY hinitY
      (X.room_calling (g := g) (R' := (headSpec ws rm).room) hsize hmY hcY hframes (by rw [hlY]; omega) h4 h5) h1
  obtain ⟨mid, hmid⟩ := h.above
  have hfr : (U.setTop g).frames = (.java g :: mid) ++ below := by rw [State.frames_setTop' g h.top, hmid]; rfl
  obtain ⟨o, s₂, hsteps, -, hend, hq⟩ := Steps.callFree hM p X.admits X.cas X.clock (acts := []) hfr happ hPc trivial
  have hq' : vx_Q Qc XC mc ms free a (U.calling g mk a) o s₂ := hq
  rw [State.frames_setTop' g h.top] at hend
  obtain ⟨g₀, hg0⟩ := Option.isSome_iff_exists.mp h.top
  obtain ⟨r, hr⟩ := State.topJava?_eq_some.mp hg0
  have hr' : (({ U with heap := s₂.heap, slotsUsed := s₂.slotsUsed } : State).setVm s₂.vm).frames = .java g₀ :: r := hr
  rcases hq' with ⟨hqc, L, hfe, hL⟩ | ⟨q, rfl, E, ce, L, hx, hce, hcv, hcl, hW₂, hsm, hL⟩
  · obtain ⟨⟨v, rfl⟩, hW₂, e2, q2, q3, q4, q5, q6⟩ := id hfe
    have e3 : s₂ = ({ (U.calling g mk a).setFrames s₂.frames with heap := s₂.heap, slotsUsed := s₂.slotsUsed } : State).setVm s₂.vm := by
      have : s₂ = ({ s₂ with vm := (U.calling g mk a).vm } : State).setVm s₂.vm := rfl
      rw [e2] at this
      exact this
    obtain ⟨c₂, i₂, len₂, hc₂, hd₂, hf₂⟩ := hend
    have hW' : U.WarmedH s₂.vm := hW₂
    have hcc : c₂ = c := by
      have h1 : s₂.code? g.method = U.code? g.method := by
        rw [State.code?_eq, State.code?_eq, hW'.alike.method?]
      exact Option.some.inj (hc₂.symm.trans (h1.trans h.code))
    subst hcc
    have hlen : len₂ = len := by rw [hdg] at hd₂; cases hd₂; rfl
    subst hlen
    have hs₂ : s₂ = (({ U with heap := s₂.heap, slotsUsed := s₂.slotsUsed } : State).setVm s₂.vm).setTop { g with pc := g.pc + len₂, stack := v.toList ++ g.stack } := by
      refine e3.trans ?_
      rw [hf₂, State.calling_eq h.top, State.setFrames_setFrames, State.setTop_of_frames _ hr', hr]
      rfl
    have hsame : U.sameButNew ({ U with heap := s₂.heap, slotsUsed := s₂.slotsUsed } : State) L mc ms := by
      refine ⟨?_, q2, q3, q4, q5, q6⟩
      obtain ⟨t, ht, -⟩ := State.frames_cons hr
      show ({ U with heap := s₂.heap, slotsUsed := s₂.slotsUsed } : State) = { U.setFrames U.frames with heap := s₂.heap, slotsUsed := s₂.slotsUsed }
      rw [State.setFrames_self ht]
    subst hg
    refine Or.inl ⟨v, ⟨(({ U with heap := s₂.heap, slotsUsed := s₂.slotsUsed } : State).setVm s₂.vm), Ls ++ L, c0 + mc, s0 + ms⟩,
      ⟨X.admits, X.cas, X.clock, X.frames, X.room, X.hears, X.method, X.code, (X.here.setHeapUsed s₂.heap s₂.slotsUsed).setVm hW'.alike, X.tail, State.WarmedH.trans X.warmed hW', X.limits, X.bytes, X.same.trans (hsame.setVm s.vm)⟩,
      ⟨g, mk, s₂, L, rfl, rfl, hqc, rfl, hL, rfl, rfl⟩, ?_⟩
    show Steps p.tables e below _ ((({ U with heap := s₂.heap, slotsUsed := s₂.slotsUsed } : State).setVm s₂.vm).setTop { g with pc := g.pc + len₂, stack := v.toList ++ g.stack })
    rw [← hs₂]
    exact hsteps
  · obtain ⟨e2, q2, q3, q4, q5, q6⟩ := id hsm
    have e3 : s₂ = ({ (U.calling g mk a).setFrames s₂.frames with heap := s₂.heap, slotsUsed := s₂.slotsUsed } : State).setVm s₂.vm := by
      have : s₂ = ({ s₂ with vm := (U.calling g mk a).vm } : State).setVm s₂.vm := rfl
      rw [e2] at this
      exact this
    have hf₂ : s₂.frames = .throwing q :: .java g :: U.frames.tail := hend
    have hW' : U.WarmedH s₂.vm := hW₂
    have hs₂ : s₂ = ((({ U with heap := s₂.heap, slotsUsed := s₂.slotsUsed } : State).setVm s₂.vm).setTop g).pushFrame (.throwing q) := by
      refine e3.trans ?_
      rw [hf₂, State.calling_eq h.top, State.setFrames_setFrames, State.pushFrame, State.frames_setTop _ hr', State.setTop_of_frames _ hr', State.setFrames_setFrames, hr]
      rfl
    have hsame : U.sameButNew ({ U with heap := s₂.heap, slotsUsed := s₂.slotsUsed } : State) L mc ms := by
      refine ⟨?_, q2, q3, q4, q5, q6⟩
      obtain ⟨t, ht, -⟩ := State.frames_cons hr
      show ({ U with heap := s₂.heap, slotsUsed := s₂.slotsUsed } : State) = { U.setFrames U.frames with heap := s₂.heap, slotsUsed := s₂.slotsUsed }
      rw [State.setFrames_self ht]
    subst hg
    refine Or.inr ⟨q, ⟨(({ U with heap := s₂.heap, slotsUsed := s₂.slotsUsed } : State).setVm s₂.vm), Ls ++ L, c0 + mc, s0 + ms⟩,
      ⟨X.admits, X.cas, X.clock, X.frames, X.room, X.hears, X.method, X.code, (X.here.setHeapUsed s₂.heap s₂.slotsUsed).setVm hW'.alike, X.tail, State.WarmedH.trans X.warmed hW', X.limits, X.bytes, X.same.trans (hsame.setVm s.vm)⟩,
      ⟨g, mk, s₂, L, E, ce, rfl, rfl, hx, hce, hcv, hcl, rfl, hL, rfl, rfl⟩, ?_⟩
    show Steps p.tables e below _ (((({ U with heap := s₂.heap, slotsUsed := s₂.slotsUsed } : State).setVm s₂.vm).setTop g).pushFrame (.throwing q))
    rw [← hs₂]
    exact hsteps
end
variable {p : Program} {l : Launch} {e : Env} {R : Room} {s : State} {m : MethodId} {args : Array Value} {below : List Frame} {meth : Method} {c : Code} {T : State} {H : Heap} {locs : List Loc} {cells slots : Nat}
theorem vx_callVX (X : Stand p l e R s m args below meth c T locs cells slots) (hexec : p.tables.exec = Jvm.exec) {own C : String} {index : Nat} {y : MethodName} {bytes : ByteArray} {maxL : Nat} {ret : Option FieldType} {hh : List (Nat × Nat × Nat × Nat)}
    (hown : s.vm.findClass own = some m.cls) (hlink : (Cond.methodLink own index y).before args s = true) (hinst : (Cond.instanceMethod y).before args s = true) (hsel : (Cond.selects C y y).before args s = true)
    (hcode : (Cond.codeWith y bytes maxL ret hh).before args s = true) (hy : y.cls ≠ "java/lang/invoke/MethodHandle" ∧ y.cls ≠ "java/lang/invoke/VarHandle")
    {W9 : Nat} {Pre : Pt → Array Value → Prop} {Post : Pt → Array Value → Option Value → Pt → Prop} {PostX : Pt → Array Value → Addr → Pt → Prop} (hK : vx_Back l R p e below s args y 3 W9 Pre Post PostX)
    {b : Addr} {cellB : Cell} (hcell : T.heap[b]? = some cellB) (hobj : cellB.vm.isStatics = false) (hcls : s.vm.findClass C = some cellB.cls)
    {g : JFrame} (hg : g.method = m) (hsize : g.locals.size = c.maxLocals) {argsL rest : List Value} (hlen : ∀ sig, parseMethodDescriptor y.desc = some sig → argsL.length = sig.parameters.length)
    (hstack : g.stack = argsL.reverse ++ .ref b :: rest) (hW : 2 * g.monitorRoom + (rest.map fun v => v.category).sum ≤ W9) (hdg : decode c.code g.pc = .ok (.invokevirtual index, 3))
    (hpre : ∀ vm₁, s.WarmedH vm₁ → Pre ⟨T.setVm vm₁, locs, cells, slots⟩ (Value.ref b :: argsL).toArray) :
    (∃ (v : Option Value) (vm₁ : Vm) (B : Pt), s.WarmedH vm₁ ∧ Stand p l e R s m args below meth c B.U B.locs B.cells B.slots ∧ Post ⟨T.setVm vm₁, locs, cells, slots⟩ (Value.ref b :: argsL).toArray v B ∧
      ∀ target, Steps p.tables e below (B.U.setTop { g with pc := g.pc + 3, stack := v.toList ++ rest }) target → Steps p.tables e below (T.setTop g) target) ∨
    (∃ (q : Addr) (vm₁ : Vm) (B : Pt), s.WarmedH vm₁ ∧ Stand p l e R s m args below meth c B.U B.locs B.cells B.slots ∧ PostX ⟨T.setVm vm₁, locs, cells, slots⟩ (Value.ref b :: argsL).toArray q B ∧
      Steps p.tables e below (T.setTop g) ((B.U.setTop { g with stack := rest }).pushFrame (.throwing q))) := by
  obtain ⟨mk, methM, hnamed, hmethM, hstM, habM⟩ := Cond.instanceMethod_spec hinst
  obtain ⟨m8, methM', cM, hn8, hmethM', -, -, -, -, -, -, hsigM⟩ := Cond.codeWith_spec hcode
  cases Option.some.inj (hn8.symm.trans hnamed)
  cases hmethM.symm.trans hmethM'
  obtain ⟨c2, r2, m2, q1, q2, q3, q4, kP, hkP, hkPi⟩ := Cond.selects_spec hsel
  cases hcls.symm.trans q1
  cases (State.methodFound?_of_named hnamed hy).symm.trans q2
  cases hnamed.symm.trans q3
  have hselP : selectMethod e.platform s.vm cellB.cls mk = .method mk := by rw [Launch.admits_selectMethod X.admits]; exact q4
  obtain ⟨vm₁, X₁, hstep₁⟩ := X.invokevirtual hexec hown hlink hnamed hmethM hstM hkP hkPi hy (a := b) (cell := cellB) hcell
    (fun z h => by rw [h] at hobj; cases hobj) hselP hmethM habM hkP hkPi (g := g) hg (argsL := argsL) (rest := rest) (hlen _ hsigM) hstack hdg
  rcases hK m meth c ⟨T.setVm vm₁, locs, cells, slots⟩ { g with stack := rest } (.invokevirtual index) mk (Value.ref b :: argsL).toArray X₁ hg hsize hdg hW (X₁.named hnamed) (hpre vm₁ X₁.warmed) with ⟨v, B, X', hpost, hsteps⟩ | ⟨q, B, X', hpost, hsteps⟩
  · exact Or.inl ⟨v, vm₁, B, X₁.warmed, X', hpost, fun target h => hstep₁ _ fun acts => by rw [doInvoke_state]; exact hsteps.trans h⟩
  · exact Or.inr ⟨q, vm₁, B, X₁.warmed, X', hpost, hstep₁ _ fun acts => by rw [doInvoke_state]; exact hsteps⟩
theorem vx_callSX (X : Stand p l e R s m args below meth c T locs cells slots) (hexec : p.tables.exec = Jvm.exec) {own : String} {index : Nat} {y : MethodName} {bytes : ByteArray} {maxL : Nat} {ret : Option FieldType} {hh : List (Nat × Nat × Nat × Nat)}
    (hown : s.vm.findClass own = some m.cls) (hlink : (Cond.methodLink own index y).before args s = true) (hstat : (Cond.static y).before args s = true) (hinit : (Cond.initialized y.cls).before args s = true)
    (hcode : (Cond.codeWith y bytes maxL ret hh).before args s = true) (hy : y.cls ≠ "java/lang/invoke/MethodHandle" ∧ y.cls ≠ "java/lang/invoke/VarHandle")
    {W9 : Nat} {Pre : Pt → Array Value → Prop} {Post : Pt → Array Value → Option Value → Pt → Prop} {PostX : Pt → Array Value → Addr → Pt → Prop} (hK : vx_Back l R p e below s args y 3 W9 Pre Post PostX)
    {g : JFrame} (hg : g.method = m) (hsize : g.locals.size = c.maxLocals) {argsL rest : List Value} (hlen : ∀ sig, parseMethodDescriptor y.desc = some sig → argsL.length = sig.parameters.length)
    (hstack : g.stack = argsL.reverse ++ rest) (hW : 2 * g.monitorRoom + (rest.map fun v => v.category).sum ≤ W9) (hdg : decode c.code g.pc = .ok (.invokestatic index, 3))
    (hpre : ∀ vm₁, s.WarmedH vm₁ → Pre ⟨T.setVm vm₁, locs, cells, slots⟩ argsL.toArray) :
    (∃ (v : Option Value) (vm₁ : Vm) (B : Pt), s.WarmedH vm₁ ∧ Stand p l e R s m args below meth c B.U B.locs B.cells B.slots ∧ Post ⟨T.setVm vm₁, locs, cells, slots⟩ argsL.toArray v B ∧
      ∀ target, Steps p.tables e below (B.U.setTop { g with pc := g.pc + 3, stack := v.toList ++ rest }) target → Steps p.tables e below (T.setTop g) target) ∨
    (∃ (q : Addr) (vm₁ : Vm) (B : Pt), s.WarmedH vm₁ ∧ Stand p l e R s m args below meth c B.U B.locs B.cells B.slots ∧ PostX ⟨T.setVm vm₁, locs, cells, slots⟩ argsL.toArray q B ∧
      Steps p.tables e below (T.setTop g) ((B.U.setTop { g with stack := rest }).pushFrame (.throwing q))) := by
  obtain ⟨mk, methM, cM, hnamed, hmethM, -, -, -, -, -, -, hsigM⟩ := Cond.codeWith_spec hcode
  have hstatic : methM.isStatic = true := Cond.static_spec hnamed hmethM hstat
  obtain ⟨kP, hkP, -⟩ := className_of_methodNamed hnamed
  have hinitP : kP.init = .initialized := Cond.initialized_spec (findClass_of_methodNamed hnamed) hkP hinit
  obtain ⟨vm₁, X₁, hstep₁⟩ := X.invokestatic hexec hown hlink hnamed hmethM hstatic hkP hinitP hy (g := g) hg (argsL := argsL) (rest := rest) (hlen _ hsigM) hstack hdg
  rcases hK m meth c ⟨T.setVm vm₁, locs, cells, slots⟩ { g with stack := rest } (.invokestatic index) mk argsL.toArray X₁ hg hsize hdg hW (X₁.named hnamed) (hpre vm₁ X₁.warmed) with ⟨v, B, X', hpost, hsteps⟩ | ⟨q, B, X', hpost, hsteps⟩
  · exact Or.inl ⟨v, vm₁, B, X₁.warmed, X', hpost, fun target h => hstep₁ _ fun acts => by rw [doInvoke_state]; exact hsteps.trans h⟩
  · exact Or.inr ⟨q, vm₁, B, X₁.warmed, X', hpost, hstep₁ _ fun acts => by rw [doInvoke_state]; exact hsteps⟩
theorem vx_callVW (X : Stand p l e R s m args below meth c T locs cells slots) (hexec : p.tables.exec = Jvm.exec) {own C : String} {index : Nat} {y : MethodName} {bytes : ByteArray} {maxL : Nat} {ret : Option FieldType} {hh : List (Nat × Nat × Nat × Nat)}
    (hown : s.vm.findClass own = some m.cls) (hlink : (Cond.methodLink own index y).before args s = true) (hinst : (Cond.instanceMethod y).before args s = true) (hsel : (Cond.selects C y y).before args s = true)
    (hcode : (Cond.codeWith y bytes maxL ret hh).before args s = true) (hy : y.cls ≠ "java/lang/invoke/MethodHandle" ∧ y.cls ≠ "java/lang/invoke/VarHandle")
    {W9 : Nat} {Pre : Pt → Array Value → Prop} {Post : Pt → Array Value → Option Value → Pt → Prop} (hK : Back l R p e below s args y 3 W9 Pre Post)
    {b : Addr} {cellB : Cell} (hcell : T.heap[b]? = some cellB) (hobj : cellB.vm.isStatics = false) (hcls : s.vm.findClass C = some cellB.cls)
    {g : JFrame} (hg : g.method = m) (hsize : g.locals.size = c.maxLocals) {argsL rest : List Value} (hlen : ∀ sig, parseMethodDescriptor y.desc = some sig → argsL.length = sig.parameters.length)
    (hstack : g.stack = argsL.reverse ++ .ref b :: rest) (hW : 2 * g.monitorRoom + (rest.map fun v => v.category).sum ≤ W9) (hdg : decode c.code g.pc = .ok (.invokevirtual index, 3))
    (hpre : ∀ vm₁, s.WarmedH vm₁ → Pre ⟨T.setVm vm₁, locs, cells, slots⟩ (Value.ref b :: argsL).toArray) :
    ∃ (v : Option Value) (vm₁ : Vm) (B : Pt), s.WarmedH vm₁ ∧ Stand p l e R s m args below meth c B.U B.locs B.cells B.slots ∧ Post ⟨T.setVm vm₁, locs, cells, slots⟩ (Value.ref b :: argsL).toArray v B ∧
      ∀ target, Steps p.tables e below (B.U.setTop { g with pc := g.pc + 3, stack := v.toList ++ rest }) target → Steps p.tables e below (T.setTop g) target := by
  obtain ⟨mk, methM, hnamed, hmethM, hstM, habM⟩ := Cond.instanceMethod_spec hinst
  obtain ⟨m8, methM', cM, hn8, hmethM', -, -, -, -, -, -, hsigM⟩ := Cond.codeWith_spec hcode
  cases Option.some.inj (hn8.symm.trans hnamed)
  cases hmethM.symm.trans hmethM'
  obtain ⟨c2, r2, m2, q1, q2, q3, q4, kP, hkP, hkPi⟩ := Cond.selects_spec hsel
  cases hcls.symm.trans q1
  cases (State.methodFound?_of_named hnamed hy).symm.trans q2
  cases hnamed.symm.trans q3
  have hselP : selectMethod e.platform s.vm cellB.cls mk = .method mk := by rw [Launch.admits_selectMethod X.admits]; exact q4
  obtain ⟨vm₁, X₁, hstep₁⟩ := X.invokevirtual hexec hown hlink hnamed hmethM hstM hkP hkPi hy (a := b) (cell := cellB) hcell
    (fun z h => by rw [h] at hobj; cases hobj) hselP hmethM habM hkP hkPi (g := g) hg (argsL := argsL) (rest := rest) (hlen _ hsigM) hstack hdg
  obtain ⟨v, B, X', hpost, hsteps⟩ := hK m meth c ⟨T.setVm vm₁, locs, cells, slots⟩ { g with stack := rest } (.invokevirtual index) mk (Value.ref b :: argsL).toArray X₁ hg hsize hdg hW (X₁.named hnamed) (hpre vm₁ X₁.warmed)
  exact ⟨v, vm₁, B, X₁.warmed, X', hpost, fun target h => hstep₁ _ fun acts => by rw [doInvoke_state]; exact hsteps.trans h⟩
abbrev vx_CVW (R : Room) (s : State) (args : Array Value) (own C : String) (index : Nat) (y : MethodName) (bytes : ByteArray) (maxL : Nat) (ret : Option FieldType) (hh : List (Nat × Nat × Nat × Nat)) (ws : List Cond) (rm : Room) (mc ms n : Nat) : Prop :=
  (rm.cells = mc ∧ rm.slots = ms ∧ rm.frames + 1 ≤ R.frames ∧ 8 + (maxL + 11) + rm.locals ≤ R.locals ∧ (∀ w ∈ ws, ∀ (a' : Array Value) (U : State), s.WarmedH U.vm → w.before a' U = true) ∧ Cond.codeWith y bytes maxL ret hh ∈ ws) ∧
  (Cond.codeWith y bytes maxL ret hh).before args s = true ∧ (Cond.initialized y.cls).before args s = true ∧ (y.cls ≠ "java/lang/invoke/MethodHandle" ∧ y.cls ≠ "java/lang/invoke/VarHandle") ∧
  (∀ sig, parseMethodDescriptor y.desc = some sig → n = sig.parameters.length) ∧ (Cond.methodLink own index y).before args s = true ∧ (Cond.instanceMethod y).before args s = true ∧ (Cond.selects C y y).before args s = true
theorem vx_cwVW {own C : String} {index maxL mc ms : Nat} {y : MethodName} {bytes : ByteArray} {ret : Option FieldType} {hh : List (Nat × Nat × Nat × Nat)} {Ts ws ws' : List Cond} {rm : Room} (n : Nat) (ht : ∀ w ∈ Ts, w.before args s = true) (hT : GoodIn Ts (wsV own index C y ws)) (hw : ws = Cond.codeWith y bytes maxL ret hh :: ws') (hrc : rm.cells = mc) (hrs : rm.slots = ms)
    (hd : y.cls = C ∧ y.cls ≠ "java/lang/invoke/MethodHandle" ∧ y.cls ≠ "java/lang/invoke/VarHandle" ∧ (parseMethodDescriptor y.desc).map (fun d => d.parameters.length) = some n) (hR : rm.frames + 1 ≤ R.frames ∧ 8 + (maxL + 11) + rm.locals ≤ R.locals) :
    vx_CVW R s args own C index y bytes maxL ret hh ws rm mc ms n := by
  obtain ⟨hC, hd⟩ := hd
  subst hC
  have ok : ∀ w ∈ wsV own index y.cls y ws, w.before args s = true := fun w h => ht w (hT w h).1
  have hG : GoodIn Ts ws := fun w h => hT w (by unfold wsV; exact List.mem_append_right _ h)
  have hc : Cond.codeWith y bytes maxL ret hh ∈ ws := by rw [hw]; exact List.mem_cons_self
  refine ⟨⟨hrc, hrs, hR.1, hR.2, pay_in ht hG, hc⟩, ht _ (hG _ hc).1, ok _ (by simp [wsV]), ⟨hd.1, hd.2.1⟩, fun sig h => ?_, ok _ (by simp [wsV]), ok _ (by simp [wsV]), ok _ (by simp [wsV])⟩
  have h2 := hd.2.2
  rw [h] at h2
  exact (Option.some.inj h2).symm
theorem vx_runVW {y : MethodName} {bytes cc : ByteArray} {maxL nL mc ms n index : Nat} {ret : Option FieldType} {hh : List (Nat × Nat × Nat × Nat)} {ws : List Cond} {rm : Room} {Pc : Array Value → State → Prop} {Qc : Array Value → State → Outcome → State → Prop} {free : Addr → Prop} {Ts : List Cond} {own C : String} {b : Addr} {As rest : List Value} {g : JFrame}
    (S : CallFix p m c cc nL s args Ts own) (hM : Met l y ws rm Pc Qc mc ms free) (cw : vx_CVW R s args own C index y bytes maxL ret hh ws rm mc ms n) (hp : PreV s H C b Pc As)
    (hg : g.method = m) (hn : As.length = n) (hsize : g.locals.size = nL) (hstack : g.stack = As.reverse ++ .ref b :: rest) (hW : 2 * g.monitorRoom + (rest.map fun v => v.category).sum ≤ 8) (hdg : decode cc g.pc = .ok (.invokevirtual index, 3)) (hf : cells + mc ≤ R.cells ∧ slots + ms ≤ R.slots) :
    va_Run p l e R s m args below meth c H locs cells slots mc ms g rest (Qc (Value.ref b :: As).toArray) free := by
  obtain ⟨⟨hrc, hrs, hfr, hlo, hws, hcw⟩, hcode, hini, hy, hlen, hl, hin, hse⟩ := cw
  have hK : Back l R p e below s args y 3 8 (PreOf R mc ms Pc) (PostOf Qc mc ms free) := va_backW (hh := hh) (bytes := bytes) (maxL := maxL) (ret := ret) hM hp.1 hrc hrs hfr hlo hws hcw (fun a' U hW => word_at hW (Or.inl (by first | rfl | simp [Cond.onTables, Cond.keeps, Cond.steady])) hini)
  obtain ⟨hx, hb, hml, ho, -⟩ := S
  obtain ⟨-, ⟨cellB, hcB, hoB, hclB⟩, hPc⟩ := hp
  intro T hT X
  obtain ⟨v, vm₁, ⟨U', l2, c2, s2⟩, hW₁, X', ⟨g', mk, t, L, e1, e2, hq, h1, hL, h2, h3⟩, st⟩ := vx_callVW X hx (C := C) (hh := hh) (bytes := bytes) (maxL := maxL) (ret := ret) ho hl hin hse hcode hy hK (by rw [hT]; exact hcB) hoB hclB hg (hsize.trans hml.symm) (argsL := As) (rest := rest) (fun sig h => hn.trans (hlen sig h)) hstack hW (by rw [hb]; exact hdg)
    (fun vm₁ hW₁ => ⟨hf.1, hf.2, hPc (T.setVm vm₁) hT hW₁⟩)
  dsimp only [Pt.U, Pt.locs, Pt.cells, Pt.slots] at X' e1 e2 h1 h2 h3 st
  subst h1; subst h2; subst h3
  exact ⟨v, (T.setVm vm₁).calling g' mk (Value.ref b :: As).toArray, t, U', L, hT, X', hL, e1, e2, hq, st⟩
section
variable {y : MethodName} {bytes cc : ByteArray} {maxL nL mc ms n index : Nat} {ret : Option FieldType} {ws : List Cond} {rm : Room} {Pc : Array Value → State → Prop} {Qc : Array Value → State → Outcome → State → Prop} {XC : String → State → State → Prop} {free : Addr → Prop} {Ts : List Cond} {own C : String} {b : Addr} {As rest : List Value} {g : JFrame}
theorem vx_runVX {hh : List (Nat × Nat × Nat × Nat)} (S : CallFix p m c cc nL s args Ts own) (hM : vx_Met l y ws rm Pc Qc XC mc ms free) (cw : vx_CVW R s args own C index y bytes maxL ret hh ws rm mc ms n) (hp : PreV s H C b Pc As)
    (hg : g.method = m) (hn : As.length = n) (hsize : g.locals.size = nL) (hstack : g.stack = As.reverse ++ .ref b :: rest) (hW : 2 * g.monitorRoom + (rest.map fun v => v.category).sum ≤ 8) (hdg : decode cc g.pc = .ok (.invokevirtual index, 3)) (hf : cells + mc ≤ R.cells ∧ slots + ms ≤ R.slots) :
    vx_Run p l e R s m args below meth c H locs cells slots mc ms g rest (Qc (Value.ref b :: As).toArray) XC free := by
  obtain ⟨⟨hrc, hrs, hfr, hlo, hws, hcw⟩, hcode, hini, hy, hlen, hl, hin, hse⟩ := cw
  have hK : vx_Back l R p e below s args y 3 8 (PreOf R mc ms Pc) (PostOf Qc mc ms free) (vx_Post XC mc ms free) := vx_backW (hh := hh) (bytes := bytes) (maxL := maxL) (ret := ret) hM hp.1 hrc hrs hfr hlo hws hcw (fun a' U hW => word_at hW (Or.inl (by first | rfl | simp [Cond.onTables, Cond.keeps, Cond.steady])) hini)
  obtain ⟨hx, hb, hml, ho, -⟩ := S
  obtain ⟨-, ⟨cellB, hcB, hoB, hclB⟩, hPc⟩ := hp
  intro T hT X
  rcases vx_callVX X hx (C := C) (hh := hh) (bytes := bytes) (maxL := maxL) (ret := ret) ho hl hin hse hcode hy hK (by rw [hT]; exact hcB) hoB hclB hg (hsize.trans hml.symm) (argsL := As) (rest := rest) (fun sig h => hn.trans (hlen sig h)) hstack hW (by rw [hb]; exact hdg)
    (fun vm₁ hW₁ => ⟨hf.1, hf.2, hPc (T.setVm vm₁) hT hW₁⟩) with ⟨v, vm₁, ⟨U', l2, c2, s2⟩, hW₁, X', ⟨g', mk, t, L, e1, e2, hq, h1, hL, h2, h3⟩, st⟩ | ⟨q, vm₁, ⟨U', l2, c2, s2⟩, hW₁, X', ⟨g', mk, t, L, E, ce, e1, e2, hq, hce, hcv, hcl, h1, hL, h2, h3⟩, st⟩
  · dsimp only [Pt.U, Pt.locs, Pt.cells, Pt.slots] at X' e1 e2 h1 h2 h3 st
    subst h1; subst h2; subst h3
    exact Or.inl ⟨v, (T.setVm vm₁).calling g' mk (Value.ref b :: As).toArray, t, U', L, hT, X', hL, e1, e2, hq, st⟩
  · dsimp only [Pt.U, Pt.locs, Pt.cells, Pt.slots] at X' e1 e2 h1 h2 h3 st hcl
    subst h1; subst h2; subst h3
    exact Or.inr ⟨q, (T.setVm vm₁).calling g' mk (Value.ref b :: As).toArray, t, U', L, E, ce, hT, X', hL, e1, e2, hq, hce, hcv, vx_cls hW₁ hcl, st⟩
theorem vx_runSX {hh : List (Nat × Nat × Nat × Nat)} (S : CallFix p m c cc nL s args Ts own) (hM : vx_Met l y ws rm Pc Qc XC mc ms free) (cw : vx_CSW R s args own index y bytes maxL ret hh ws rm mc ms n) (hp : PreS s H Pc As)
    (hg : g.method = m) (hn : As.length = n) (hsize : g.locals.size = nL) (hstack : g.stack = As.reverse ++ rest) (hW : 2 * g.monitorRoom + (rest.map fun v => v.category).sum ≤ 8) (hdg : decode cc g.pc = .ok (.invokestatic index, 3)) (hf : cells + mc ≤ R.cells ∧ slots + ms ≤ R.slots) :
    vx_Run p l e R s m args below meth c H locs cells slots mc ms g rest (Qc As.toArray) XC free := by
  obtain ⟨⟨hrc, hrs, hfr, hlo, hws, hcw⟩, hcode, hini, hy, hlen, hl, hstt⟩ := cw
  have hK : vx_Back l R p e below s args y 3 8 (PreOf R mc ms Pc) (PostOf Qc mc ms free) (vx_Post XC mc ms free) := vx_backW (hh := hh) (bytes := bytes) (maxL := maxL) (ret := ret) hM hp.1 hrc hrs hfr hlo hws hcw (fun a' U hW => word_at hW (Or.inl (by first | rfl | simp [Cond.onTables, Cond.keeps, Cond.steady])) hini)
  obtain ⟨hx, hb, hml, ho, -⟩ := S
  intro T hT X
  rcases vx_callSX X hx (hh := hh) (bytes := bytes) (maxL := maxL) (ret := ret) ho hl hstt hini hcode hy hK hg (hsize.trans hml.symm) (argsL := As) (rest := rest) (fun sig h => hn.trans (hlen sig h)) hstack hW (by rw [hb]; exact hdg)
    (fun vm₁ hW₁ => ⟨hf.1, hf.2, hp.2 (T.setVm vm₁) hT hW₁⟩) with ⟨v, vm₁, ⟨U', l2, c2, s2⟩, hW₁, X', ⟨g', mk, t, L, e1, e2, hq, h1, hL, h2, h3⟩, st⟩ | ⟨q, vm₁, ⟨U', l2, c2, s2⟩, hW₁, X', ⟨g', mk, t, L, E, ce, e1, e2, hq, hce, hcv, hcl, h1, hL, h2, h3⟩, st⟩
  · dsimp only [Pt.U, Pt.locs, Pt.cells, Pt.slots] at X' e1 e2 h1 h2 h3 st
    subst h1; subst h2; subst h3
    exact Or.inl ⟨v, (T.setVm vm₁).calling g' mk As.toArray, t, U', L, hT, X', hL, e1, e2, hq, st⟩
  · dsimp only [Pt.U, Pt.locs, Pt.cells, Pt.slots] at X' e1 e2 h1 h2 h3 st hcl
    subst h1; subst h2; subst h3
    exact Or.inr ⟨q, (T.setVm vm₁).calling g' mk As.toArray, t, U', L, E, ce, hT, X', hL, e1, e2, hq, hce, hcv, vx_cls hW₁ hcl, st⟩
end
end VXH
theorem vx_ofWH {l : Launch} {y : MethodName} {ws ws' : List Cond} {rm : Room} {Pc : Array Value → State → Prop} {Qc : Array Value → State → Outcome → State → Prop} {XC : String → State → State → Prop} {mc ms : Nat} {free : Addr → Prop} {cc : ByteArray} {maxL : Nat} {ret : Option FieldType} {hh : List (Nat × Nat × Nat × Nat)}
    (hy : plainName y.cls = true) (hw : ws = Cond.codeWith y cc maxL ret hh :: ws')
    (body : ∀ p e s m args below meth c s₁, BodyLoose p l y (headSpec ws rm) cc maxL ret e s m args below meth c s₁ → c.maxLocals = maxL → Pc args s →
      W p l e (headSpec ws rm).room s m args below meth c s.heap [] 0 0 (vx_MQ below Qc XC args s mc ms free) (entryFrame m args maxL)) : vx_Met l y ws rm Pc Qc XC mc ms free := by
  refine MetFree.of_bodyS (code := cc) (maxLocals := maxL) (ret := ret) hy ?_ ?_
  · intro args s m h hn
    obtain ⟨m9, meth, c, hn9, h1, h2, h3, h4, -, h5, h6, -⟩ := Cond.codeWith_spec (atoms_spec (ws := ws) h _ (by rw [hw]; exact List.mem_cons_self))
    cases hn.symm.trans hn9
    exact ⟨meth, c, h1, h2, h3, h4, h5, h6⟩
  · intro p e s m args below meth c s₁ B hml hP _
    have hh0 : s₁.heap = s.heap := by rw [B.state]; rfl
    obtain ⟨t, a1, o, b1, b2, b3⟩ := body p e s m args below meth c s₁ B hml hP s₁ hh0 (Stand.of_body B)
    exact ⟨t, o, a1, b1, b2, b3⟩
/-! ===== END ===== -/
end
section
/-! ===== BEGIN printed: names, fields, word lists, decode rows ===== -/
def RX0 : String := "RangingNet$History"
def TX0 : u_T := fun k => match k with
  | 0 => ("RangingNet$History", "states", "[LRangingNet$State;", true)
  | 1 => ("RangingNet$History", "newest", "I", false)
  | _ => ("RangingNet$History", "count", "I", false)
def tyX0 : Nat → FieldType := fun k => match k with
  | 0 => .array (.object "RangingNet$State")
  | 1 => .int
  | _ => .int
abbrev wsX00 : List Cond := u_ws RX0 TX0 3
theorem nmX0 : ∀ a, a < 3 → ∀ b, b < 3 → a ≠ b → (TX0 a).2.1 ≠ (TX0 b).2.1 := by decide +kernel
theorem tyX0_ok : ∀ k, k < 3 → parseFieldDescriptor (TX0 k).2.2.1 = some (tyX0 k) := by decide +kernel
abbrev cX0_init : ByteArray := prog_2_method_1_code
def yX0_init : MethodName := ⟨RX0, "<init>", "()V"⟩
abbrev cX0_save : ByteArray := prog_2_method_2_code
def yX0_save : MethodName := ⟨RX0, "save", "(LRangingNet$State;)V"⟩
abbrev cX0_restore : ByteArray := prog_2_method_3_code
def yX0_restore : MethodName := ⟨RX0, "restore", "(LRangingNet$State;)V"⟩
abbrev cX0_newestSlot : ByteArray := prog_2_method_4_code
def yX0_newestSlot : MethodName := ⟨RX0, "newestSlot", "()LRangingNet$State;"⟩
def RX1 : String := "RangingNet$State"
def TX1 : u_T := fun k => match k with
  | 0 => ("RangingNet$State", "time", "J", false)
  | 1 => ("RangingNet$State", "nodes", "LRangingNet$Table;", true)
  | 2 => ("RangingNet$State", "records", "LRangingNet$Table;", true)
  | _ => ("RangingNet$State", "plans", "LRangingNet$Table;", true)
def tyX1 : Nat → FieldType := fun k => match k with
  | 0 => .long
  | 1 => .object "RangingNet$Table"
  | 2 => .object "RangingNet$Table"
  | _ => .object "RangingNet$Table"
abbrev wsX10 : List Cond := u_ws RX1 TX1 4
theorem nmX1 : ∀ a, a < 4 → ∀ b, b < 4 → a ≠ b → (TX1 a).2.1 ≠ (TX1 b).2.1 := by decide +kernel
theorem tyX1_ok : ∀ k, k < 4 → parseFieldDescriptor (TX1 k).2.2.1 = some (tyX1 k) := by decide +kernel
abbrev cX1_init : ByteArray := prog_3_method_1_code
def yX1_init : MethodName := ⟨RX1, "<init>", "()V"⟩
abbrev cX1_copyFrom : ByteArray := prog_3_method_2_code
def yX1_copyFrom : MethodName := ⟨RX1, "copyFrom", "(LRangingNet$State;)V"⟩
abbrev cX1_lengthBetween : ByteArray := prog_3_method_3_code
def yX1_lengthBetween : MethodName := ⟨RX1, "lengthBetween", "(II)I"⟩
abbrev cX1_squareFromOrigin : ByteArray := prog_3_method_4_code
def yX1_squareFromOrigin : MethodName := ⟨RX1, "squareFromOrigin", "(I)J"⟩
abbrev cX1_counterAt : ByteArray := prog_3_method_5_code
def yX1_counterAt : MethodName := ⟨RX1, "counterAt", "(IJ)I"⟩
abbrev cX1_carryOut : ByteArray := prog_3_method_6_code
def yX1_carryOut : MethodName := ⟨RX1, "carryOut", "(IIII)I"⟩
abbrev cX1_rowForPlan : ByteArray := prog_3_method_7_code
def yX1_rowForPlan : MethodName := ⟨RX1, "rowForPlan", "(I)I"⟩
abbrev cX1_runUntil : ByteArray := prog_3_method_8_code
def yX1_runUntil : MethodName := ⟨RX1, "runUntil", "(I)I"⟩
abbrev cX1_carryOutFirstPlan : ByteArray := prog_3_method_9_code
def yX1_carryOutFirstPlan : MethodName := ⟨RX1, "carryOutFirstPlan", "()V"⟩
abbrev cX1_elapsed : ByteArray := prog_3_method_10_code
def yX1_elapsed : MethodName := ⟨RX1, "elapsed", "(III)I"⟩
abbrev cX1_rawRangeOf : ByteArray := prog_3_method_11_code
def yX1_rawRangeOf : MethodName := ⟨RX1, "rawRangeOf", "(II)I"⟩
abbrev cX1_rangeOf : ByteArray := prog_3_method_12_code
def yX1_rangeOf : MethodName := ⟨RX1, "rangeOf", "(II)I"⟩
abbrev cX1_errorOf : ByteArray := prog_3_method_13_code
def yX1_errorOf : MethodName := ⟨RX1, "errorOf", "(II)I"⟩
abbrev cX1_excessOf : ByteArray := prog_3_method_14_code
def yX1_excessOf : MethodName := ⟨RX1, "excessOf", "(I)I"⟩
abbrev cX1_lengthOf : ByteArray := prog_3_method_15_code
def yX1_lengthOf : MethodName := ⟨RX1, "lengthOf", "(I)I"⟩
abbrev cX1_latestBetween : ByteArray := prog_3_method_16_code
def yX1_latestBetween : MethodName := ⟨RX1, "latestBetween", "(II)I"⟩
abbrev cX1_mixNodes : ByteArray := prog_3_method_17_code
def yX1_mixNodes : MethodName := ⟨RX1, "mixNodes", "(J)J"⟩
abbrev cX1_mixRecords : ByteArray := prog_3_method_18_code
def yX1_mixRecords : MethodName := ⟨RX1, "mixRecords", "(J)J"⟩
abbrev cX1_mixPlans : ByteArray := prog_3_method_19_code
def yX1_mixPlans : MethodName := ⟨RX1, "mixPlans", "(J)J"⟩
def RX2 : String := "RangingNet$Table"
def TX2 : u_T := fun k => match k with
  | 0 => ("RangingNet$Table", "cells", "[I", true)
  | 1 => ("RangingNet$Table", "width", "I", true)
  | _ => ("RangingNet$Table", "count", "I", false)
def tyX2 : Nat → FieldType := fun k => match k with
  | 0 => .array .int
  | 1 => .int
  | _ => .int
abbrev wsX20 : List Cond := u_ws RX2 TX2 3
theorem nmX2 : ∀ a, a < 3 → ∀ b, b < 3 → a ≠ b → (TX2 a).2.1 ≠ (TX2 b).2.1 := by decide +kernel
theorem tyX2_ok : ∀ k, k < 3 → parseFieldDescriptor (TX2 k).2.2.1 = some (tyX2 k) := by decide +kernel
abbrev cX2_init : ByteArray := prog_4_method_1_code
def yX2_init : MethodName := ⟨RX2, "<init>", "([II)V"⟩
abbrev cX2_isFull : ByteArray := prog_4_method_2_code
def yX2_isFull : MethodName := ⟨RX2, "isFull", "()Z"⟩
abbrev cX2_get : ByteArray := prog_4_method_3_code
def yX2_get : MethodName := ⟨RX2, "get", "(II)I"⟩
abbrev cX2_set : ByteArray := prog_4_method_4_code
def yX2_set : MethodName := ⟨RX2, "set", "(III)V"⟩
abbrev cX2_openRow : ByteArray := prog_4_method_5_code
def yX2_openRow : MethodName := ⟨RX2, "openRow", "(I)I"⟩
abbrev cX2_removeFirstRow : ByteArray := prog_4_method_6_code
def yX2_removeFirstRow : MethodName := ⟨RX2, "removeFirstRow", "()V"⟩
abbrev cX2_copyFrom : ByteArray := prog_4_method_7_code
def yX2_copyFrom : MethodName := ⟨RX2, "copyFrom", "(LRangingNet$Table;)V"⟩
def RX3 : String := "RangingNet"
def TX3 : u_T := fun k => match k with
  | 0 => ("RangingNet", "state", "LRangingNet$State;", true)
  | _ => ("RangingNet", "history", "LRangingNet$History;", true)
def tyX3 : Nat → FieldType := fun k => match k with
  | 0 => .object "RangingNet$State"
  | _ => .object "RangingNet$History"
abbrev wsX30 : List Cond := u_ws RX3 TX3 2
theorem nmX3 : ∀ a, a < 2 → ∀ b, b < 2 → a ≠ b → (TX3 a).2.1 ≠ (TX3 b).2.1 := by decide +kernel
theorem tyX3_ok : ∀ k, k < 2 → parseFieldDescriptor (TX3 k).2.2.1 = some (tyX3 k) := by decide +kernel
abbrev cX3_init : ByteArray := prog_1_method_1_code
def yX3_init : MethodName := ⟨RX3, "<init>", "()V"⟩
abbrev cX3_addNode : ByteArray := prog_1_method_2_code
def yX3_addNode : MethodName := ⟨RX3, "addNode", "(IIIII)I"⟩
abbrev cX3_move : ByteArray := prog_1_method_3_code
def yX3_move : MethodName := ⟨RX3, "move", "(III)I"⟩
abbrev cX3_assume : ByteArray := prog_1_method_4_code
def yX3_assume : MethodName := ⟨RX3, "assume", "(II)I"⟩
abbrev cX3_assumed : ByteArray := prog_1_method_5_code
def yX3_assumed : MethodName := ⟨RX3, "assumed", "(I)I"⟩
abbrev cX3_distance : ByteArray := prog_1_method_6_code
def yX3_distance : MethodName := ⟨RX3, "distance", "(II)I"⟩
abbrev cX3_counter : ByteArray := prog_1_method_7_code
def yX3_counter : MethodName := ⟨RX3, "counter", "(II)I"⟩
abbrev cX3_exchange : ByteArray := prog_1_method_8_code
def yX3_exchange : MethodName := ⟨RX3, "exchange", "(IIII)I"⟩
abbrev cX3_plan : ByteArray := prog_1_method_9_code
def yX3_plan : MethodName := ⟨RX3, "plan", "(IIIII)I"⟩
abbrev cX3_nextPlanned : ByteArray := prog_1_method_10_code
def yX3_nextPlanned : MethodName := ⟨RX3, "nextPlanned", "()I"⟩
abbrev cX3_run : ByteArray := prog_1_method_11_code
def yX3_run : MethodName := ⟨RX3, "run", "(I)I"⟩
abbrev cX3_now : ByteArray := prog_1_method_12_code
def yX3_now : MethodName := ⟨RX3, "now", "()J"⟩
abbrev cX3_exchanges : ByteArray := prog_1_method_13_code
def yX3_exchanges : MethodName := ⟨RX3, "exchanges", "()I"⟩
abbrev cX3_stamp : ByteArray := prog_1_method_14_code
def yX3_stamp : MethodName := ⟨RX3, "stamp", "(II)I"⟩
abbrev cX3_party : ByteArray := prog_1_method_15_code
def yX3_party : MethodName := ⟨RX3, "party", "(II)I"⟩
abbrev cX3_range : ByteArray := prog_1_method_16_code
def yX3_range : MethodName := ⟨RX3, "range", "(II)I"⟩
abbrev cX3_latestRange : ByteArray := prog_1_method_17_code
def yX3_latestRange : MethodName := ⟨RX3, "latestRange", "(III)I"⟩
abbrev cX3_worstError : ByteArray := prog_1_method_18_code
def yX3_worstError : MethodName := ⟨RX3, "worstError", "(I)I"⟩
abbrev cX3_meanError : ByteArray := prog_1_method_19_code
def yX3_meanError : MethodName := ⟨RX3, "meanError", "(I)D"⟩
abbrev cX3_relativeDrift : ByteArray := prog_1_method_20_code
def yX3_relativeDrift : MethodName := ⟨RX3, "relativeDrift", "(I)D"⟩
abbrev cX3_calibrate : ByteArray := prog_1_method_21_code
def yX3_calibrate : MethodName := ⟨RX3, "calibrate", "(III)I"⟩
abbrev cX3_fix : ByteArray := prog_1_method_22_code
def yX3_fix : MethodName := ⟨RX3, "fix", "(IIII)I"⟩
abbrev cX3_undo : ByteArray := prog_1_method_23_code
def yX3_undo : MethodName := ⟨RX3, "undo", "()I"⟩
abbrev cX3_digest : ByteArray := prog_1_method_24_code
def yX3_digest : MethodName := ⟨RX3, "digest", "()J"⟩
abbrev cX3_requireWithin : ByteArray := prog_1_method_25_code
def yX3_requireWithin : MethodName := ⟨RX3, "requireWithin", "(III)V"⟩
abbrev cX3_requireMethod : ByteArray := prog_1_method_26_code
def yX3_requireMethod : MethodName := ⟨RX3, "requireMethod", "(I)V"⟩
abbrev cX3_requirePair : ByteArray := prog_1_method_27_code
def yX3_requirePair : MethodName := ⟨RX3, "requirePair", "(II)V"⟩
abbrev cX3_requireFourNodes : ByteArray := prog_1_method_28_code
def yX3_requireFourNodes : MethodName := ⟨RX3, "requireFourNodes", "(IIII)V"⟩
abbrev cX3_requireNode : ByteArray := prog_1_method_29_code
def yX3_requireNode : MethodName := ⟨RX3, "requireNode", "(I)V"⟩
abbrev cX3_requireExchange : ByteArray := prog_1_method_30_code
def yX3_requireExchange : MethodName := ⟨RX3, "requireExchange", "(I)V"⟩
abbrev cX3_requireLatest : ByteArray := prog_1_method_31_code
def yX3_requireLatest : MethodName := ⟨RX3, "requireLatest", "(II)I"⟩
abbrev cX3_solve : ByteArray := prog_1_method_32_code
def yX3_solve : MethodName := ⟨RX3, "solve", "(IIIJJI)I"⟩
abbrev cX3_squareOf : ByteArray := prog_1_method_33_code
def yX3_squareOf : MethodName := ⟨RX3, "squareOf", "(I)J"⟩
abbrev cX3_mix : ByteArray := prog_1_method_34_code
def yX3_mix : MethodName := ⟨RX3, "mix", "(JJ)J"⟩
abbrev cX3_floorLength : ByteArray := prog_1_method_35_code
def yX3_floorLength : MethodName := ⟨RX3, "floorLength", "(II)I"⟩
def RX4 : String := "RangingNetModel"
def TX4 : u_T := fun k => match k with
  | 0 => ("RangingNetModel", "all", "[J", true)
  | 1 => ("RangingNetModel", "saved", "[J", true)
  | 2 => ("RangingNetModel", "savedMany", "I", false)
  | _ => ("RangingNetModel", "thrown", "I", false)
def tyX4 : Nat → FieldType := fun k => match k with
  | 0 => .array .long
  | 1 => .array .long
  | 2 => .int
  | _ => .int
abbrev wsX40 : List Cond := u_ws RX4 TX4 4
theorem nmX4 : ∀ a, a < 4 → ∀ b, b < 4 → a ≠ b → (TX4 a).2.1 ≠ (TX4 b).2.1 := by decide +kernel
theorem tyX4_ok : ∀ k, k < 4 → parseFieldDescriptor (TX4 k).2.2.1 = some (tyX4 k) := by decide +kernel
abbrev cX4_init : ByteArray := prog_6_method_1_code
def yX4_init : MethodName := ⟨RX4, "<init>", "()V"⟩
abbrev cX4_thrown : ByteArray := prog_6_method_2_code
def yX4_thrown : MethodName := ⟨RX4, "thrown", "()I"⟩
abbrev cX4_in : ByteArray := prog_6_method_3_code
def yX4_in : MethodName := ⟨RX4, "in", "(JJJ)Z"⟩
abbrev cX4_goes : ByteArray := prog_6_method_4_code
def yX4_goes : MethodName := ⟨RX4, "goes", "(ZZZ)Z"⟩
abbrev cX4_save : ByteArray := prog_6_method_5_code
def yX4_save : MethodName := ⟨RX4, "save", "()V"⟩
abbrev cX4_isNode : ByteArray := prog_6_method_6_code
def yX4_isNode : MethodName := ⟨RX4, "isNode", "(I)Z"⟩
abbrev cX4_of : ByteArray := prog_6_method_7_code
def yX4_of : MethodName := ⟨RX4, "of", "(II)J"⟩
abbrev cX4_isPlace : ByteArray := prog_6_method_8_code
def yX4_isPlace : MethodName := ⟨RX4, "isPlace", "(I)Z"⟩
abbrev cX4_addNode : ByteArray := prog_6_method_9_code
def yX4_addNode : MethodName := ⟨RX4, "addNode", "(IIIII)I"⟩
abbrev cX4_rootOf : ByteArray := prog_6_method_10_code
def yX4_rootOf : MethodName := ⟨RX4, "rootOf", "(JJ)J"⟩
abbrev cX4_distanceOf : ByteArray := prog_6_method_11_code
def yX4_distanceOf : MethodName := ⟨RX4, "distanceOf", "(II)J"⟩
abbrev cX4_move : ByteArray := prog_6_method_12_code
def yX4_move : MethodName := ⟨RX4, "move", "(III)I"⟩
abbrev cX4_assume : ByteArray := prog_6_method_13_code
def yX4_assume : MethodName := ⟨RX4, "assume", "(II)I"⟩
abbrev cX4_assumed : ByteArray := prog_6_method_14_code
def yX4_assumed : MethodName := ⟨RX4, "assumed", "(I)I"⟩
abbrev cX4_distance : ByteArray := prog_6_method_15_code
def yX4_distance : MethodName := ⟨RX4, "distance", "(II)I"⟩
abbrev cX4_counterAt : ByteArray := prog_6_method_16_code
def yX4_counterAt : MethodName := ⟨RX4, "counterAt", "(IJ)J"⟩
abbrev cX4_counter : ByteArray := prog_6_method_17_code
def yX4_counter : MethodName := ⟨RX4, "counter", "(II)I"⟩
abbrev cX4_carriesOut : ByteArray := prog_6_method_18_code
def yX4_carriesOut : MethodName := ⟨RX4, "carriesOut", "(JIIJJ)V"⟩
abbrev cX4_areReplies : ByteArray := prog_6_method_19_code
def yX4_areReplies : MethodName := ⟨RX4, "areReplies", "(IIII)Z"⟩
abbrev cX4_exchange : ByteArray := prog_6_method_20_code
def yX4_exchange : MethodName := ⟨RX4, "exchange", "(IIII)I"⟩
abbrev cX4_plan : ByteArray := prog_6_method_21_code
def yX4_plan : MethodName := ⟨RX4, "plan", "(IIIII)I"⟩
abbrev cX4_waiting : ByteArray := prog_6_method_22_code
def yX4_waiting : MethodName := ⟨RX4, "waiting", "(I)I"⟩
abbrev cX4_nextPlanned : ByteArray := prog_6_method_23_code
def yX4_nextPlanned : MethodName := ⟨RX4, "nextPlanned", "()I"⟩
abbrev cX4_removes : ByteArray := prog_6_method_24_code
def yX4_removes : MethodName := ⟨RX4, "removes", "(I)V"⟩
abbrev cX4_run : ByteArray := prog_6_method_25_code
def yX4_run : MethodName := ⟨RX4, "run", "(I)I"⟩
abbrev cX4_now : ByteArray := prog_6_method_26_code
def yX4_now : MethodName := ⟨RX4, "now", "()J"⟩
abbrev cX4_exchanges : ByteArray := prog_6_method_27_code
def yX4_exchanges : MethodName := ⟨RX4, "exchanges", "()I"⟩
abbrev cX4_isExchange : ByteArray := prog_6_method_28_code
def yX4_isExchange : MethodName := ⟨RX4, "isExchange", "(I)Z"⟩
abbrev cX4_inExchange : ByteArray := prog_6_method_29_code
def yX4_inExchange : MethodName := ⟨RX4, "inExchange", "(II)J"⟩
abbrev cX4_stamp : ByteArray := prog_6_method_30_code
def yX4_stamp : MethodName := ⟨RX4, "stamp", "(II)I"⟩
abbrev cX4_party : ByteArray := prog_6_method_31_code
def yX4_party : MethodName := ⟨RX4, "party", "(II)I"⟩
abbrev cX4_floor : ByteArray := prog_6_method_32_code
def yX4_floor : MethodName := ⟨RX4, "floor", "(JJ)J"⟩
abbrev cX4_span : ByteArray := prog_6_method_33_code
def yX4_span : MethodName := ⟨RX4, "span", "(III)J"⟩
abbrev cX4_rawOf : ByteArray := prog_6_method_34_code
def yX4_rawOf : MethodName := ⟨RX4, "rawOf", "(II)J"⟩
abbrev cX4_first : ByteArray := prog_6_method_35_code
def yX4_first : MethodName := ⟨RX4, "first", "(I)I"⟩
abbrev cX4_second : ByteArray := prog_6_method_36_code
def yX4_second : MethodName := ⟨RX4, "second", "(I)I"⟩
abbrev cX4_rangeOf : ByteArray := prog_6_method_37_code
def yX4_rangeOf : MethodName := ⟨RX4, "rangeOf", "(II)J"⟩
abbrev cX4_isMethod : ByteArray := prog_6_method_38_code
def yX4_isMethod : MethodName := ⟨RX4, "isMethod", "(I)Z"⟩
abbrev cX4_range : ByteArray := prog_6_method_39_code
def yX4_range : MethodName := ⟨RX4, "range", "(II)I"⟩
abbrev cX4_latestOf : ByteArray := prog_6_method_40_code
def yX4_latestOf : MethodName := ⟨RX4, "latestOf", "(II)I"⟩
abbrev cX4_latestRange : ByteArray := prog_6_method_41_code
def yX4_latestRange : MethodName := ⟨RX4, "latestRange", "(III)I"⟩
abbrev cX4_errorOf : ByteArray := prog_6_method_42_code
def yX4_errorOf : MethodName := ⟨RX4, "errorOf", "(II)J"⟩
abbrev cX4_worstError : ByteArray := prog_6_method_43_code
def yX4_worstError : MethodName := ⟨RX4, "worstError", "(I)I"⟩
abbrev cX4_meanError : ByteArray := prog_6_method_44_code
def yX4_meanError : MethodName := ⟨RX4, "meanError", "(I)D"⟩
abbrev cX4_relativeDrift : ByteArray := prog_6_method_45_code
def yX4_relativeDrift : MethodName := ⟨RX4, "relativeDrift", "(I)D"⟩
abbrev cX4_excess : ByteArray := prog_6_method_46_code
def yX4_excess : MethodName := ⟨RX4, "excess", "(II)J"⟩
abbrev cX4_calibrate : ByteArray := prog_6_method_47_code
def yX4_calibrate : MethodName := ⟨RX4, "calibrate", "(III)I"⟩
abbrev cX4_right : ByteArray := prog_6_method_48_code
def yX4_right : MethodName := ⟨RX4, "right", "(IIII)J"⟩
abbrev cX4_fix : ByteArray := prog_6_method_49_code
def yX4_fix : MethodName := ⟨RX4, "fix", "(IIII)I"⟩
abbrev cX4_undo : ByteArray := prog_6_method_50_code
def yX4_undo : MethodName := ⟨RX4, "undo", "()I"⟩
abbrev cX4_sums : ByteArray := prog_6_method_51_code
def yX4_sums : MethodName := ⟨RX4, "sums", "(JII)J"⟩
abbrev cX4_digest : ByteArray := prog_6_method_52_code
def yX4_digest : MethodName := ⟨RX4, "digest", "()J"⟩
def RJx00060 : String := "java/lang/ArrayIndexOutOfBoundsException"
def TJx00060 : u_T := fun k => match k with
  | 0 => ("java/lang/Throwable", "backtrace", "Ljava/lang/Object;", false)
  | 1 => ("java/lang/Throwable", "detailMessage", "Ljava/lang/String;", false)
  | 2 => ("java/lang/Throwable", "cause", "Ljava/lang/Throwable;", false)
  | 3 => ("java/lang/Throwable", "stackTrace", "[Ljava/lang/StackTraceElement;", false)
  | 4 => ("java/lang/Throwable", "depth", "I", false)
  | _ => ("java/lang/Throwable", "suppressedExceptions", "Ljava/util/List;", false)
def tyJx00060 : Nat → FieldType := fun k => match k with
  | 0 => .object "java/lang/Object"
  | 1 => .object "java/lang/String"
  | 2 => .object "java/lang/Throwable"
  | 3 => .array (.object "java/lang/StackTraceElement")
  | 4 => .int
  | _ => .object "java/util/List"
abbrev wsJx000600 : List Cond := u_ws RJx00060 TJx00060 6
theorem nmJx00060 : ∀ a, a < 6 → ∀ b, b < 6 → a ≠ b → (TJx00060 a).2.1 ≠ (TJx00060 b).2.1 := by decide +kernel
theorem tyJx00060_ok : ∀ k, k < 6 → parseFieldDescriptor (TJx00060 k).2.2.1 = some (tyJx00060 k) := by decide +kernel
abbrev cJx00060_init_a7421 : ByteArray := prog_8_method_2_code
def yJx00060_init_a7421 : MethodName := ⟨RJx00060, "<init>", "(Ljava/lang/String;)V"⟩
def RJ9 : String := "java/lang/Math"
def TJ9 : u_T := fun k => match k with
  | _ => ("", "", "", false)
def tyJ9 : Nat → FieldType := fun k => match k with
  | _ => .int
abbrev wsJ90 : List Cond := u_ws RJ9 TJ9 0
theorem nmJ9 : ∀ a, a < 0 → ∀ b, b < 0 → a ≠ b → (TJ9 a).2.1 ≠ (TJ9 b).2.1 := by decide +kernel
theorem tyJ9_ok : ∀ k, k < 0 → parseFieldDescriptor (TJ9 k).2.2.1 = some (tyJ9 k) := by decide +kernel
abbrev cJ9_floorDiv_7cf53 : ByteArray := prog_13_method_47_code
def yJ9_floorDiv_7cf53 : MethodName := ⟨RJ9, "floorDiv", "(II)I"⟩
abbrev cJ9_floorDiv_f86c9 : ByteArray := prog_13_method_49_code
def yJ9_floorDiv_f86c9 : MethodName := ⟨RJ9, "floorDiv", "(JJ)J"⟩
abbrev cJ9_floorMod_7cf53 : ByteArray := prog_13_method_50_code
def yJ9_floorMod_7cf53 : MethodName := ⟨RJ9, "floorMod", "(II)I"⟩
abbrev cJ9_floorMod_f86c9 : ByteArray := prog_13_method_52_code
def yJ9_floorMod_f86c9 : MethodName := ⟨RJ9, "floorMod", "(JJ)J"⟩
abbrev cJ9_abs_0f7a4 : ByteArray := prog_13_method_59_code
def yJ9_abs_0f7a4 : MethodName := ⟨RJ9, "abs", "(I)I"⟩
abbrev cJ9_max_7cf53 : ByteArray := prog_13_method_65_code
def yJ9_max_7cf53 : MethodName := ⟨RJ9, "max", "(II)I"⟩
abbrev cJ9_max_f86c9 : ByteArray := prog_13_method_66_code
def yJ9_max_f86c9 : MethodName := ⟨RJ9, "max", "(JJ)J"⟩
abbrev cJ9_min_7cf53 : ByteArray := prog_13_method_69_code
def yJ9_min_7cf53 : MethodName := ⟨RJ9, "min", "(II)I"⟩
def RJ0 : String := "java/lang/String"
def TJ0 : u_T := fun k => match k with
  | 0 => ("java/lang/String", "value", "[B", true)
  | _ => ("java/lang/String", "coder", "B", true)
def tyJ0 : Nat → FieldType := fun k => match k with
  | 0 => .array .byte
  | _ => .byte
abbrev wsJ00 : List Cond := u_ws RJ0 TJ0 2
theorem nmJ0 : ∀ a, a < 2 → ∀ b, b < 2 → a ≠ b → (TJ0 a).2.1 ≠ (TJ0 b).2.1 := by decide +kernel
theorem tyJ0_ok : ∀ k, k < 2 → parseFieldDescriptor (TJ0 k).2.2.1 = some (tyJ0 k) := by decide +kernel
def RJ10 : String := "java/lang/System"
def TJ10 : u_T := fun k => match k with
  | _ => ("", "", "", false)
def tyJ10 : Nat → FieldType := fun k => match k with
  | _ => .int
abbrev wsJ100 : List Cond := u_ws RJ10 TJ10 0
theorem nmJ10 : ∀ a, a < 0 → ∀ b, b < 0 → a ≠ b → (TJ10 a).2.1 ≠ (TJ10 b).2.1 := by decide +kernel
theorem tyJ10_ok : ∀ k, k < 0 → parseFieldDescriptor (TJ10 k).2.2.1 = some (tyJ10 k) := by decide +kernel
def RL : String := "RangingNetLaw"
abbrev cL_addNode : ByteArray := method_3_code
def yL_addNode : MethodName := ⟨RL, "addNode", "(LRangingNet;IIIII[J)I"⟩
abbrev cL_move : ByteArray := method_4_code
def yL_move : MethodName := ⟨RL, "move", "(LRangingNet;III[J)I"⟩
abbrev cL_assume : ByteArray := method_5_code
def yL_assume : MethodName := ⟨RL, "assume", "(LRangingNet;II[J)I"⟩
abbrev cL_assumed : ByteArray := method_6_code
def yL_assumed : MethodName := ⟨RL, "assumed", "(LRangingNet;I[J)I"⟩
abbrev cL_distance : ByteArray := method_7_code
def yL_distance : MethodName := ⟨RL, "distance", "(LRangingNet;II[J)I"⟩
abbrev cL_counter : ByteArray := method_8_code
def yL_counter : MethodName := ⟨RL, "counter", "(LRangingNet;II[J)I"⟩
abbrev cL_exchange : ByteArray := method_9_code
def yL_exchange : MethodName := ⟨RL, "exchange", "(LRangingNet;IIII[J)I"⟩
abbrev cL_plan : ByteArray := method_10_code
def yL_plan : MethodName := ⟨RL, "plan", "(LRangingNet;IIIII[J)I"⟩
abbrev cL_run : ByteArray := method_11_code
def yL_run : MethodName := ⟨RL, "run", "(LRangingNet;I[J)I"⟩
abbrev cL_stamp : ByteArray := method_12_code
def yL_stamp : MethodName := ⟨RL, "stamp", "(LRangingNet;II[J)I"⟩
abbrev cL_party : ByteArray := method_13_code
def yL_party : MethodName := ⟨RL, "party", "(LRangingNet;II[J)I"⟩
abbrev cL_range : ByteArray := method_14_code
def yL_range : MethodName := ⟨RL, "range", "(LRangingNet;II[J)I"⟩
abbrev cL_latestRange : ByteArray := method_15_code
def yL_latestRange : MethodName := ⟨RL, "latestRange", "(LRangingNet;III[J)I"⟩
abbrev cL_worstError : ByteArray := method_16_code
def yL_worstError : MethodName := ⟨RL, "worstError", "(LRangingNet;I[J)I"⟩
abbrev cL_meanError : ByteArray := method_17_code
def yL_meanError : MethodName := ⟨RL, "meanError", "(LRangingNet;I[D)I"⟩
abbrev cL_relativeDrift : ByteArray := method_18_code
def yL_relativeDrift : MethodName := ⟨RL, "relativeDrift", "(LRangingNet;I[D)I"⟩
abbrev cL_calibrate : ByteArray := method_19_code
def yL_calibrate : MethodName := ⟨RL, "calibrate", "(LRangingNet;III[J)I"⟩
abbrev cL_fix : ByteArray := method_20_code
def yL_fix : MethodName := ⟨RL, "fix", "(LRangingNet;IIII[J)I"⟩
abbrev cL_undo : ByteArray := method_21_code
def yL_undo : MethodName := ⟨RL, "undo", "(LRangingNet;[J)I"⟩
abbrev cL_law : ByteArray := code
def yL_law : MethodName := ⟨RL, "law", "([I)Z"⟩
abbrev vwCl : List vw_C := [(RJ0, TJ0, 2), (RJx00060, TJx00060, 6), (RX0, TX0, 3), (RX1, TX1, 4), (RX2, TX2, 3), (RX3, TX3, 2), (RX4, TX4, 4)]
end
section
/-! the good words of the tables, one list for every method -/
def WA : List Cond := lw_tbl.filter goodWord
theorem wa_of {i : Nat} {w : Cond} (h : lw_tbl[i]? = some w) (g : goodWord w = true) : w ∈ WA := List.mem_filter.mpr ⟨List.mem_of_getElem? h, g⟩
theorem wa_in {w : Cond} (h : w ∈ WA) : w ∈ lw_tbl := (List.mem_filter.mp h).1
theorem wa_good {ws : List Cond} (h : ∀ w ∈ ws, w ∈ WA) : GoodIn WA ws := fun w hw => ⟨h w hw, good_of_word (List.mem_filter.mp (h w hw)).2⟩
theorem wa_sub {ws : List Cond} (h : ∀ w ∈ ws, w ∈ lw_tbl) (g : ws.all goodWord = true) : ∀ w ∈ ws, w ∈ WA := fun w hw => List.mem_filter.mpr ⟨h w hw, List.all_eq_true.mp g w hw⟩

theorem kn_L : Cond.initialized RL ∈ WA := wa_of (i := 29) (by decide +kernel) rfl
theorem kn_X3 : Cond.initialized RX3 ∈ WA := wa_of (i := 30) (by decide +kernel) rfl
theorem kn_X1 : Cond.initialized RX1 ∈ WA := wa_of (i := 31) (by decide +kernel) rfl
theorem kn_X2 : Cond.initialized RX2 ∈ WA := wa_of (i := 32) (by decide +kernel) rfl
theorem kn_X0 : Cond.initialized RX0 ∈ WA := wa_of (i := 33) (by decide +kernel) rfl
theorem kn_X4 : Cond.initialized RX4 ∈ WA := wa_of (i := 34) (by decide +kernel) rfl
theorem kn_Throwable : Cond.initialized "java/lang/Throwable" ∈ WA := wa_of (i := 35) (by decide +kernel) rfl
theorem kn_Exception : Cond.initialized "java/lang/Exception" ∈ WA := wa_of (i := 36) (by decide +kernel) rfl
theorem kn_RuntimeException : Cond.initialized "java/lang/RuntimeException" ∈ WA := wa_of (i := 37) (by decide +kernel) rfl
theorem kn_IllegalArgumentException : Cond.initialized "java/lang/IllegalArgumentException" ∈ WA := wa_of (i := 38) (by decide +kernel) rfl
theorem kn_IllegalStateException : Cond.initialized "java/lang/IllegalStateException" ∈ WA := wa_of (i := 39) (by decide +kernel) rfl
theorem kn_J9 : Cond.initialized RJ9 ∈ WA := wa_of (i := 40) (by decide +kernel) rfl
theorem kn_J10 : Cond.initialized RJ10 ∈ WA := wa_of (i := 41) (by decide +kernel) rfl
theorem kn_IndexOutOfBoundsException : Cond.initialized "java/lang/IndexOutOfBoundsException" ∈ WA := wa_of (i := 42) (by decide +kernel) rfl
theorem kn_Jx00060 : Cond.initialized RJx00060 ∈ WA := wa_of (i := 43) (by decide +kernel) rfl
theorem kn_J0 : Cond.initialized RJ0 ∈ WA := wa_of (i := 44) (by decide +kernel) rfl
theorem kn_ArithmeticException : Cond.initialized "java/lang/ArithmeticException" ∈ WA := wa_of (i := 45) (by decide +kernel) rfl
theorem kk_L_8 : Cond.classLink RL 8 RX3 ∈ WA := wa_of (i := 46) (by decide +kernel) rfl
theorem ko_X3 : Cond.instantiable RX3 2 ∈ WA := wa_of (i := 47) (by decide +kernel) rfl
theorem kl_L_81 : Cond.methodLink RL 81 yX3_init ∈ WA := wa_of (i := 48) (by decide +kernel) rfl
theorem ki_X3_init : Cond.instanceMethod yX3_init ∈ WA := wa_of (i := 49) (by decide +kernel) rfl
theorem kc_X3_init : Cond.code yX3_init cX3_init 1 none ∈ WA := wa_of (i := 50) (by decide +kernel) rfl
theorem kl_X3_1 : Cond.methodLink RX3 1 objectInit ∈ WA := wa_of (i := 51) (by decide +kernel) rfl
theorem ki_objectInit : Cond.instanceMethod objectInit ∈ WA := wa_of (i := 52) (by decide +kernel) rfl
theorem kc_objectInit : Cond.code objectInit ⟨#[0xb1]⟩ 1 none ∈ WA := wa_of (i := 53) (by decide +kernel) rfl
theorem kk_X3_7 : Cond.classLink RX3 7 RX1 ∈ WA := wa_of (i := 54) (by decide +kernel) rfl
theorem ko_X1 : Cond.instantiable RX1 4 ∈ WA := wa_of (i := 55) (by decide +kernel) rfl
theorem kl_X3_9 : Cond.methodLink RX3 9 yX1_init ∈ WA := wa_of (i := 56) (by decide +kernel) rfl
theorem ki_X1_init : Cond.instanceMethod yX1_init ∈ WA := wa_of (i := 57) (by decide +kernel) rfl
theorem kc_X1_init : Cond.code yX1_init cX1_init 1 none ∈ WA := wa_of (i := 58) (by decide +kernel) rfl
theorem kl_X1_3 : Cond.methodLink RX1 3 objectInit ∈ WA := wa_of (i := 59) (by decide +kernel) rfl
theorem kk_X1_9 : Cond.classLink RX1 9 RX2 ∈ WA := wa_of (i := 60) (by decide +kernel) rfl
theorem ko_X2 : Cond.instantiable RX2 3 ∈ WA := wa_of (i := 61) (by decide +kernel) rfl
theorem kl_X1_11 : Cond.methodLink RX1 11 yX2_init ∈ WA := wa_of (i := 62) (by decide +kernel) rfl
theorem ki_X2_init : Cond.instanceMethod yX2_init ∈ WA := wa_of (i := 63) (by decide +kernel) rfl
theorem kc_X2_init : Cond.code yX2_init cX2_init 3 none ∈ WA := wa_of (i := 64) (by decide +kernel) rfl
theorem kl_X2_3 : Cond.methodLink RX2 3 objectInit ∈ WA := wa_of (i := 65) (by decide +kernel) rfl
theorem kf_X2_9 : Cond.fieldLink RX2 9 "RangingNet$Table" "cells" "[I" ∈ WA := wa_of (i := 66) (by decide +kernel) rfl
theorem kf_X2_15 : Cond.fieldLink RX2 15 "RangingNet$Table" "width" "I" ∈ WA := wa_of (i := 67) (by decide +kernel) rfl
theorem kf_X2_19 : Cond.fieldLink RX2 19 "RangingNet$Table" "count" "I" ∈ WA := wa_of (i := 68) (by decide +kernel) rfl
theorem ka_int : Cond.arrayClass .int ∈ WA := wa_of (i := 78) (by decide +kernel) rfl
theorem kf_X1_26 : Cond.fieldLink RX1 26 "RangingNet$State" "time" "J" ∈ WA := wa_of (i := 79) (by decide +kernel) rfl
theorem kf_X1_14 : Cond.fieldLink RX1 14 "RangingNet$State" "nodes" "LRangingNet$Table;" ∈ WA := wa_of (i := 81) (by decide +kernel) rfl
theorem kf_X1_20 : Cond.fieldLink RX1 20 "RangingNet$State" "records" "LRangingNet$Table;" ∈ WA := wa_of (i := 83) (by decide +kernel) rfl
theorem kf_X1_23 : Cond.fieldLink RX1 23 "RangingNet$State" "plans" "LRangingNet$Table;" ∈ WA := wa_of (i := 85) (by decide +kernel) rfl
theorem kk_X3_16 : Cond.classLink RX3 16 RX0 ∈ WA := wa_of (i := 96) (by decide +kernel) rfl
theorem ko_X0 : Cond.instantiable RX0 3 ∈ WA := wa_of (i := 97) (by decide +kernel) rfl
theorem kl_X3_18 : Cond.methodLink RX3 18 yX0_init ∈ WA := wa_of (i := 98) (by decide +kernel) rfl
theorem ki_X0_init : Cond.instanceMethod yX0_init ∈ WA := wa_of (i := 99) (by decide +kernel) rfl
theorem kc_X0_init : Cond.code yX0_init cX0_init 2 none ∈ WA := wa_of (i := 100) (by decide +kernel) rfl
theorem kl_X0_3 : Cond.methodLink RX0 3 objectInit ∈ WA := wa_of (i := 101) (by decide +kernel) rfl
theorem kk_X0_9 : Cond.classLink RX0 9 RX1 ∈ WA := wa_of (i := 102) (by decide +kernel) rfl
theorem kl_X0_17 : Cond.methodLink RX0 17 yX1_init ∈ WA := wa_of (i := 104) (by decide +kernel) rfl
theorem kf_X0_11 : Cond.fieldLink RX0 11 "RangingNet$History" "states" "[LRangingNet$State;" ∈ WA := wa_of (i := 105) (by decide +kernel) rfl
theorem kf_X0_18 : Cond.fieldLink RX0 18 "RangingNet$History" "newest" "I" ∈ WA := wa_of (i := 106) (by decide +kernel) rfl
theorem kf_X0_36 : Cond.fieldLink RX0 36 "RangingNet$History" "count" "I" ∈ WA := wa_of (i := 107) (by decide +kernel) rfl
theorem kf_X3_10 : Cond.fieldLink RX3 10 "RangingNet" "state" "LRangingNet$State;" ∈ WA := wa_of (i := 116) (by decide +kernel) rfl
theorem kf_X3_19 : Cond.fieldLink RX3 19 "RangingNet" "history" "LRangingNet$History;" ∈ WA := wa_of (i := 117) (by decide +kernel) rfl
theorem kl_L_119 : Cond.methodLink RL 119 yX3_nextPlanned ∈ WA := wa_of (i := 123) (by decide +kernel) rfl
theorem ki_X3_nextPlanned : Cond.instanceMethod yX3_nextPlanned ∈ WA := wa_of (i := 124) (by decide +kernel) rfl
theorem ks_X3_nextPlanned : Cond.selects RX3 yX3_nextPlanned yX3_nextPlanned ∈ WA := wa_of (i := 125) (by decide +kernel) rfl
theorem kc_X3_nextPlanned : Cond.code yX3_nextPlanned cX3_nextPlanned 1 (some .int) ∈ WA := wa_of (i := 126) (by decide +kernel) rfl
theorem kl_X3_64 : Cond.methodLink RX3 64 yX2_get ∈ WA := wa_of (i := 127) (by decide +kernel) rfl
theorem ki_X2_get : Cond.instanceMethod yX2_get ∈ WA := wa_of (i := 128) (by decide +kernel) rfl
theorem ks_X2_get : Cond.selects RX2 yX2_get yX2_get ∈ WA := wa_of (i := 129) (by decide +kernel) rfl
theorem kc_X2_get : Cond.code yX2_get cX2_get 4 (some .int) ∈ WA := wa_of (i := 130) (by decide +kernel) rfl
theorem kl_L_126 : Cond.methodLink RL 126 yX3_now ∈ WA := wa_of (i := 131) (by decide +kernel) rfl
theorem ki_X3_now : Cond.instanceMethod yX3_now ∈ WA := wa_of (i := 132) (by decide +kernel) rfl
theorem ks_X3_now : Cond.selects RX3 yX3_now yX3_now ∈ WA := wa_of (i := 133) (by decide +kernel) rfl
theorem kc_X3_now : Cond.code yX3_now cX3_now 1 (some .long) ∈ WA := wa_of (i := 134) (by decide +kernel) rfl
theorem kl_L_131 : Cond.methodLink RL 131 yX3_exchanges ∈ WA := wa_of (i := 135) (by decide +kernel) rfl
theorem ki_X3_exchanges : Cond.instanceMethod yX3_exchanges ∈ WA := wa_of (i := 136) (by decide +kernel) rfl
theorem ks_X3_exchanges : Cond.selects RX3 yX3_exchanges yX3_exchanges ∈ WA := wa_of (i := 137) (by decide +kernel) rfl
theorem kc_X3_exchanges : Cond.code yX3_exchanges cX3_exchanges 1 (some .int) ∈ WA := wa_of (i := 138) (by decide +kernel) rfl
theorem kl_L_167 : Cond.methodLink RL 167 yX3_digest ∈ WA := wa_of (i := 139) (by decide +kernel) rfl
theorem ki_X3_digest : Cond.instanceMethod yX3_digest ∈ WA := wa_of (i := 140) (by decide +kernel) rfl
theorem ks_X3_digest : Cond.selects RX3 yX3_digest yX3_digest ∈ WA := wa_of (i := 141) (by decide +kernel) rfl
theorem kc_X3_digest : Cond.code yX3_digest cX3_digest 3 (some .long) ∈ WA := wa_of (i := 142) (by decide +kernel) rfl
theorem kw_X3_175 : Cond.constantLong RX3 175 (2797) ∈ WA := wa_of (i := 143) (by decide +kernel) rfl
theorem kl_X3_177 : Cond.methodLink RX3 177 yX3_mix ∈ WA := wa_of (i := 144) (by decide +kernel) rfl
theorem kt_X3_mix : Cond.static yX3_mix ∈ WA := wa_of (i := 145) (by decide +kernel) rfl
theorem kc_X3_mix : Cond.code yX3_mix cX3_mix 4 (some .long) ∈ WA := wa_of (i := 146) (by decide +kernel) rfl
theorem kw_X3_221 : Cond.constantLong RX3 221 (31) ∈ WA := wa_of (i := 147) (by decide +kernel) rfl
theorem kl_X3_181 : Cond.methodLink RX3 181 yX1_mixNodes ∈ WA := wa_of (i := 148) (by decide +kernel) rfl
theorem ki_X1_mixNodes : Cond.instanceMethod yX1_mixNodes ∈ WA := wa_of (i := 149) (by decide +kernel) rfl
theorem ks_X1_mixNodes : Cond.selects RX1 yX1_mixNodes yX1_mixNodes ∈ WA := wa_of (i := 150) (by decide +kernel) rfl
theorem kc_X1_mixNodes : Cond.code yX1_mixNodes cX1_mixNodes 7 (some .long) ∈ WA := wa_of (i := 151) (by decide +kernel) rfl
theorem kl_X1_34 : Cond.methodLink RX1 34 yX2_get ∈ WA := wa_of (i := 153) (by decide +kernel) rfl
theorem kl_X1_71 : Cond.methodLink RX1 71 yX1_counterAt ∈ WA := wa_of (i := 154) (by decide +kernel) rfl
theorem ki_X1_counterAt : Cond.instanceMethod yX1_counterAt ∈ WA := wa_of (i := 155) (by decide +kernel) rfl
theorem ks_X1_counterAt : Cond.selects RX1 yX1_counterAt yX1_counterAt ∈ WA := wa_of (i := 156) (by decide +kernel) rfl
theorem kc_X1_counterAt : Cond.code yX1_counterAt cX1_counterAt 6 (some .int) ∈ WA := wa_of (i := 157) (by decide +kernel) rfl
theorem kv_X1_45 : Cond.constant RX1 45 (1000000) ∈ WA := wa_of (i := 158) (by decide +kernel) rfl
theorem kw_X1_46 : Cond.constantLong RX1 46 (1000000) ∈ WA := wa_of (i := 159) (by decide +kernel) rfl
theorem kw_X1_48 : Cond.constantLong RX1 48 (1048576) ∈ WA := wa_of (i := 160) (by decide +kernel) rfl
theorem kl_X1_50 : Cond.methodLink RX1 50 yJ9_floorMod_f86c9 ∈ WA := wa_of (i := 161) (by decide +kernel) rfl
theorem kt_J9_floorMod_f86c9 : Cond.static yJ9_floorMod_f86c9 ∈ WA := wa_of (i := 162) (by decide +kernel) rfl
theorem kc_J9_floorMod_f86c9 : Cond.code yJ9_floorMod_f86c9 cJ9_floorMod_f86c9 6 (some .long) ∈ WA := wa_of (i := 163) (by decide +kernel) rfl
theorem kl_X3_185 : Cond.methodLink RX3 185 yX1_mixRecords ∈ WA := wa_of (i := 164) (by decide +kernel) rfl
theorem ki_X1_mixRecords : Cond.instanceMethod yX1_mixRecords ∈ WA := wa_of (i := 165) (by decide +kernel) rfl
theorem ks_X1_mixRecords : Cond.selects RX1 yX1_mixRecords yX1_mixRecords ∈ WA := wa_of (i := 166) (by decide +kernel) rfl
theorem kc_X1_mixRecords : Cond.code yX1_mixRecords cX1_mixRecords 7 (some .long) ∈ WA := wa_of (i := 167) (by decide +kernel) rfl
theorem kl_X1_109 : Cond.methodLink RX1 109 yX1_rangeOf ∈ WA := wa_of (i := 168) (by decide +kernel) rfl
theorem ki_X1_rangeOf : Cond.instanceMethod yX1_rangeOf ∈ WA := wa_of (i := 169) (by decide +kernel) rfl
theorem ks_X1_rangeOf : Cond.selects RX1 yX1_rangeOf yX1_rangeOf ∈ WA := wa_of (i := 170) (by decide +kernel) rfl
theorem kc_X1_rangeOf : Cond.code yX1_rangeOf cX1_rangeOf 3 (some .int) ∈ WA := wa_of (i := 171) (by decide +kernel) rfl
theorem kl_X1_106 : Cond.methodLink RX1 106 yX1_rawRangeOf ∈ WA := wa_of (i := 172) (by decide +kernel) rfl
theorem ki_X1_rawRangeOf : Cond.instanceMethod yX1_rawRangeOf ∈ WA := wa_of (i := 173) (by decide +kernel) rfl
theorem ks_X1_rawRangeOf : Cond.selects RX1 yX1_rawRangeOf yX1_rawRangeOf ∈ WA := wa_of (i := 174) (by decide +kernel) rfl
theorem kc_X1_rawRangeOf : Cond.code yX1_rawRangeOf cX1_rawRangeOf 13 (some .int) ∈ WA := wa_of (i := 175) (by decide +kernel) rfl
theorem kl_X1_95 : Cond.methodLink RX1 95 yX1_elapsed ∈ WA := wa_of (i := 176) (by decide +kernel) rfl
theorem ki_X1_elapsed : Cond.instanceMethod yX1_elapsed ∈ WA := wa_of (i := 177) (by decide +kernel) rfl
theorem ks_X1_elapsed : Cond.selects RX1 yX1_elapsed yX1_elapsed ∈ WA := wa_of (i := 178) (by decide +kernel) rfl
theorem kc_X1_elapsed : Cond.code yX1_elapsed cX1_elapsed 4 (some .int) ∈ WA := wa_of (i := 179) (by decide +kernel) rfl
theorem kv_X1_92 : Cond.constant RX1 92 (1048576) ∈ WA := wa_of (i := 180) (by decide +kernel) rfl
theorem kl_X1_93 : Cond.methodLink RX1 93 yJ9_floorMod_7cf53 ∈ WA := wa_of (i := 181) (by decide +kernel) rfl
theorem kt_J9_floorMod_7cf53 : Cond.static yJ9_floorMod_7cf53 ∈ WA := wa_of (i := 182) (by decide +kernel) rfl
theorem kc_J9_floorMod_7cf53 : Cond.code yJ9_floorMod_7cf53 cJ9_floorMod_7cf53 3 (some .int) ∈ WA := wa_of (i := 183) (by decide +kernel) rfl
theorem kw_X1_99 : Cond.constantLong RX1 99 (2) ∈ WA := wa_of (i := 184) (by decide +kernel) rfl
theorem kl_X1_101 : Cond.methodLink RX1 101 yJ9_floorDiv_f86c9 ∈ WA := wa_of (i := 185) (by decide +kernel) rfl
theorem kt_J9_floorDiv_f86c9 : Cond.static yJ9_floorDiv_f86c9 ∈ WA := wa_of (i := 186) (by decide +kernel) rfl
theorem kc_J9_floorDiv_f86c9 : Cond.code yJ9_floorDiv_f86c9 cJ9_floorDiv_f86c9 6 (some .long) ∈ WA := wa_of (i := 187) (by decide +kernel) rfl
theorem kw_X1_104 : Cond.constantLong RX1 104 (4) ∈ WA := wa_of (i := 188) (by decide +kernel) rfl
theorem kl_X3_188 : Cond.methodLink RX3 188 yX1_mixPlans ∈ WA := wa_of (i := 189) (by decide +kernel) rfl
theorem ki_X1_mixPlans : Cond.instanceMethod yX1_mixPlans ∈ WA := wa_of (i := 190) (by decide +kernel) rfl
theorem ks_X1_mixPlans : Cond.selects RX1 yX1_mixPlans yX1_mixPlans ∈ WA := wa_of (i := 191) (by decide +kernel) rfl
theorem kc_X1_mixPlans : Cond.code yX1_mixPlans cX1_mixPlans 7 (some .long) ∈ WA := wa_of (i := 192) (by decide +kernel) rfl
theorem kl_L_85 : Cond.methodLink RL 85 yL_addNode ∈ WA := wa_of (i := 193) (by decide +kernel) rfl
theorem kt_L_addNode : Cond.static yL_addNode ∈ WA := wa_of (i := 194) (by decide +kernel) rfl
theorem kc_L_addNode : Cond.codeWith yL_addNode cL_addNode 8 (some .int) [(0, 16, 19, 13), (0, 16, 23, 15)] ∈ WA := wa_of (i := 195) (by decide +kernel) rfl
theorem kk_L_13 : Cond.classLink RL 13 "java/lang/IllegalArgumentException" ∈ WA := wa_of (i := 196) (by decide +kernel) rfl
theorem kk_L_15 : Cond.classLink RL 15 "java/lang/IllegalStateException" ∈ WA := wa_of (i := 197) (by decide +kernel) rfl
theorem kl_L_7 : Cond.methodLink RL 7 yX3_addNode ∈ WA := wa_of (i := 198) (by decide +kernel) rfl
theorem ki_X3_addNode : Cond.instanceMethod yX3_addNode ∈ WA := wa_of (i := 199) (by decide +kernel) rfl
theorem ks_X3_addNode : Cond.selects RX3 yX3_addNode yX3_addNode ∈ WA := wa_of (i := 200) (by decide +kernel) rfl
theorem kc_X3_addNode : Cond.code yX3_addNode cX3_addNode 7 (some .int) ∈ WA := wa_of (i := 201) (by decide +kernel) rfl
theorem kl_X3_23 : Cond.methodLink RX3 23 yX3_requireWithin ∈ WA := wa_of (i := 202) (by decide +kernel) rfl
theorem kt_X3_requireWithin : Cond.static yX3_requireWithin ∈ WA := wa_of (i := 203) (by decide +kernel) rfl
theorem kc_X3_requireWithin : Cond.code yX3_requireWithin cX3_requireWithin 3 none ∈ WA := wa_of (i := 204) (by decide +kernel) rfl
theorem kk_X3_191 : Cond.classLink RX3 191 "java/lang/IllegalArgumentException" ∈ WA := wa_of (i := 205) (by decide +kernel) rfl
theorem ko_IllegalArgumentException : Cond.instantiable "java/lang/IllegalArgumentException" 6 ∈ WA := wa_of (i := 206) (by decide +kernel) rfl
theorem ko_Throwable : Cond.instantiable "java/lang/Throwable" 6 ∈ WA := wa_of (i := 246) (by decide +kernel) rfl
theorem ka_byte : Cond.arrayClass .byte ∈ WA := wa_of (i := 274) (by decide +kernel) rfl
theorem kv_X3_27 : Cond.constant RX3 27 (1048575) ∈ WA := wa_of (i := 275) (by decide +kernel) rfl
theorem kl_X3_32 : Cond.methodLink RX3 32 yX2_isFull ∈ WA := wa_of (i := 276) (by decide +kernel) rfl
theorem ki_X2_isFull : Cond.instanceMethod yX2_isFull ∈ WA := wa_of (i := 277) (by decide +kernel) rfl
theorem ks_X2_isFull : Cond.selects RX2 yX2_isFull yX2_isFull ∈ WA := wa_of (i := 278) (by decide +kernel) rfl
theorem kc_X2_isFull : Cond.code yX2_isFull cX2_isFull 1 (some .boolean) ∈ WA := wa_of (i := 279) (by decide +kernel) rfl
theorem kk_X3_38 : Cond.classLink RX3 38 "java/lang/IllegalStateException" ∈ WA := wa_of (i := 280) (by decide +kernel) rfl
theorem ko_IllegalStateException : Cond.instantiable "java/lang/IllegalStateException" 6 ∈ WA := wa_of (i := 281) (by decide +kernel) rfl
theorem kl_X3_45 : Cond.methodLink RX3 45 yX0_save ∈ WA := wa_of (i := 296) (by decide +kernel) rfl
theorem ki_X0_save : Cond.instanceMethod yX0_save ∈ WA := wa_of (i := 297) (by decide +kernel) rfl
theorem ks_X0_save : Cond.selects RX0 yX0_save yX0_save ∈ WA := wa_of (i := 298) (by decide +kernel) rfl
theorem kc_X0_save : Cond.code yX0_save cX0_save 3 none ∈ WA := wa_of (i := 299) (by decide +kernel) rfl
theorem kl_X0_22 : Cond.methodLink RX0 22 yJ9_floorMod_7cf53 ∈ WA := wa_of (i := 300) (by decide +kernel) rfl
theorem kl_X0_28 : Cond.methodLink RX0 28 yX0_newestSlot ∈ WA := wa_of (i := 301) (by decide +kernel) rfl
theorem ki_X0_newestSlot : Cond.instanceMethod yX0_newestSlot ∈ WA := wa_of (i := 303) (by decide +kernel) rfl
theorem kc_X0_newestSlot : Cond.code yX0_newestSlot cX0_newestSlot 1 (some (.object "RangingNet$State")) ∈ WA := wa_of (i := 304) (by decide +kernel) rfl
theorem kl_X0_32 : Cond.methodLink RX0 32 yX1_copyFrom ∈ WA := wa_of (i := 305) (by decide +kernel) rfl
theorem ki_X1_copyFrom : Cond.instanceMethod yX1_copyFrom ∈ WA := wa_of (i := 306) (by decide +kernel) rfl
theorem ks_X1_copyFrom : Cond.selects RX1 yX1_copyFrom yX1_copyFrom ∈ WA := wa_of (i := 307) (by decide +kernel) rfl
theorem kc_X1_copyFrom : Cond.code yX1_copyFrom cX1_copyFrom 2 none ∈ WA := wa_of (i := 308) (by decide +kernel) rfl
theorem kl_X1_30 : Cond.methodLink RX1 30 yX2_copyFrom ∈ WA := wa_of (i := 309) (by decide +kernel) rfl
theorem ki_X2_copyFrom : Cond.instanceMethod yX2_copyFrom ∈ WA := wa_of (i := 310) (by decide +kernel) rfl
theorem ks_X2_copyFrom : Cond.selects RX2 yX2_copyFrom yX2_copyFrom ∈ WA := wa_of (i := 311) (by decide +kernel) rfl
theorem kc_X2_copyFrom : Cond.code yX2_copyFrom cX2_copyFrom 3 none ∈ WA := wa_of (i := 312) (by decide +kernel) rfl
theorem kl_X2_26 : Cond.methodLink RX2 26 arraycopyName ∈ WA := wa_of (i := 313) (by decide +kernel) rfl
theorem kt_arraycopyName : Cond.static arraycopyName ∈ WA := wa_of (i := 314) (by decide +kernel) rfl
theorem kx_arraycopyName : Cond.native arraycopyName ∈ WA := wa_of (i := 315) (by decide +kernel) rfl
theorem kl_X0_39 : Cond.methodLink RX0 39 yJ9_min_7cf53 ∈ WA := wa_of (i := 316) (by decide +kernel) rfl
theorem kt_J9_min_7cf53 : Cond.static yJ9_min_7cf53 ∈ WA := wa_of (i := 317) (by decide +kernel) rfl
theorem kc_J9_min_7cf53 : Cond.code yJ9_min_7cf53 cJ9_min_7cf53 2 (some .int) ∈ WA := wa_of (i := 318) (by decide +kernel) rfl
theorem kl_X3_53 : Cond.methodLink RX3 53 yX2_openRow ∈ WA := wa_of (i := 319) (by decide +kernel) rfl
theorem ki_X2_openRow : Cond.instanceMethod yX2_openRow ∈ WA := wa_of (i := 320) (by decide +kernel) rfl
theorem ks_X2_openRow : Cond.selects RX2 yX2_openRow yX2_openRow ∈ WA := wa_of (i := 321) (by decide +kernel) rfl
theorem kc_X2_openRow : Cond.code yX2_openRow cX2_openRow 2 (some .int) ∈ WA := wa_of (i := 322) (by decide +kernel) rfl
theorem kl_X2_22 : Cond.methodLink RX2 22 yX2_isFull ∈ WA := wa_of (i := 323) (by decide +kernel) rfl
theorem kl_X3_57 : Cond.methodLink RX3 57 yX2_set ∈ WA := wa_of (i := 324) (by decide +kernel) rfl
theorem ki_X2_set : Cond.instanceMethod yX2_set ∈ WA := wa_of (i := 325) (by decide +kernel) rfl
theorem ks_X2_set : Cond.selects RX2 yX2_set yX2_set ∈ WA := wa_of (i := 326) (by decide +kernel) rfl
theorem kc_X2_set : Cond.code yX2_set cX2_set 5 none ∈ WA := wa_of (i := 327) (by decide +kernel) rfl
theorem kl_L_94 : Cond.methodLink RL 94 yL_move ∈ WA := wa_of (i := 328) (by decide +kernel) rfl
theorem kt_L_move : Cond.static yL_move ∈ WA := wa_of (i := 329) (by decide +kernel) rfl
theorem kc_L_move : Cond.codeWith yL_move cL_move 6 (some .int) [(0, 12, 15, 21), (0, 12, 19, 13)] ∈ WA := wa_of (i := 330) (by decide +kernel) rfl
theorem kk_L_21 : Cond.classLink RL 21 "java/lang/IndexOutOfBoundsException" ∈ WA := wa_of (i := 331) (by decide +kernel) rfl
theorem ko_Jx00060 : Cond.instantiable RJx00060 6 ∈ WA := wa_of (i := 332) (by decide +kernel) rfl
theorem ki_Jx00060_init_a7421 : Cond.instanceMethod yJx00060_init_a7421 ∈ WA := wa_of (i := 333) (by decide +kernel) rfl
theorem kc_Jx00060_init_a7421 : Cond.code yJx00060_init_a7421 cJx00060_init_a7421 2 none ∈ WA := wa_of (i := 334) (by decide +kernel) rfl
theorem ko_J0 : Cond.instantiable RJ0 4 ∈ WA := wa_of (i := 350) (by decide +kernel) rfl
theorem kl_L_17 : Cond.methodLink RL 17 yX3_move ∈ WA := wa_of (i := 355) (by decide +kernel) rfl
theorem ki_X3_move : Cond.instanceMethod yX3_move ∈ WA := wa_of (i := 356) (by decide +kernel) rfl
theorem ks_X3_move : Cond.selects RX3 yX3_move yX3_move ∈ WA := wa_of (i := 357) (by decide +kernel) rfl
theorem kc_X3_move : Cond.code yX3_move cX3_move 5 (some .int) ∈ WA := wa_of (i := 358) (by decide +kernel) rfl
theorem kl_X3_60 : Cond.methodLink RX3 60 yX3_requireNode ∈ WA := wa_of (i := 359) (by decide +kernel) rfl
theorem ki_X3_requireNode : Cond.instanceMethod yX3_requireNode ∈ WA := wa_of (i := 361) (by decide +kernel) rfl
theorem kc_X3_requireNode : Cond.code yX3_requireNode cX3_requireNode 2 none ∈ WA := wa_of (i := 362) (by decide +kernel) rfl
theorem kk_X3_149 : Cond.classLink RX3 149 "java/lang/IndexOutOfBoundsException" ∈ WA := wa_of (i := 363) (by decide +kernel) rfl
theorem ko_IndexOutOfBoundsException : Cond.instantiable "java/lang/IndexOutOfBoundsException" 6 ∈ WA := wa_of (i := 364) (by decide +kernel) rfl
theorem kl_X3_68 : Cond.methodLink RX3 68 yX3_floorLength ∈ WA := wa_of (i := 376) (by decide +kernel) rfl
theorem kt_X3_floorLength : Cond.static yX3_floorLength ∈ WA := wa_of (i := 377) (by decide +kernel) rfl
theorem kc_X3_floorLength : Cond.code yX3_floorLength cX3_floorLength 6 (some .int) ∈ WA := wa_of (i := 378) (by decide +kernel) rfl
theorem kl_L_98 : Cond.methodLink RL 98 yL_assume ∈ WA := wa_of (i := 379) (by decide +kernel) rfl
theorem kt_L_assume : Cond.static yL_assume ∈ WA := wa_of (i := 380) (by decide +kernel) rfl
theorem kc_L_assume : Cond.codeWith yL_assume cL_assume 5 (some .int) [(0, 10, 13, 21), (0, 10, 17, 13)] ∈ WA := wa_of (i := 381) (by decide +kernel) rfl
theorem kl_L_23 : Cond.methodLink RL 23 yX3_assume ∈ WA := wa_of (i := 382) (by decide +kernel) rfl
theorem ki_X3_assume : Cond.instanceMethod yX3_assume ∈ WA := wa_of (i := 383) (by decide +kernel) rfl
theorem ks_X3_assume : Cond.selects RX3 yX3_assume yX3_assume ∈ WA := wa_of (i := 384) (by decide +kernel) rfl
theorem kc_X3_assume : Cond.code yX3_assume cX3_assume 4 (some .int) ∈ WA := wa_of (i := 385) (by decide +kernel) rfl
theorem kl_L_102 : Cond.methodLink RL 102 yL_assumed ∈ WA := wa_of (i := 386) (by decide +kernel) rfl
theorem kt_L_assumed : Cond.static yL_assumed ∈ WA := wa_of (i := 387) (by decide +kernel) rfl
theorem kc_L_assumed : Cond.codeWith yL_assumed cL_assumed 4 (some .int) [(0, 9, 12, 21)] ∈ WA := wa_of (i := 388) (by decide +kernel) rfl
theorem kl_L_27 : Cond.methodLink RL 27 yX3_assumed ∈ WA := wa_of (i := 389) (by decide +kernel) rfl
theorem ki_X3_assumed : Cond.instanceMethod yX3_assumed ∈ WA := wa_of (i := 390) (by decide +kernel) rfl
theorem ks_X3_assumed : Cond.selects RX3 yX3_assumed yX3_assumed ∈ WA := wa_of (i := 391) (by decide +kernel) rfl
theorem kc_X3_assumed : Cond.code yX3_assumed cX3_assumed 2 (some .int) ∈ WA := wa_of (i := 392) (by decide +kernel) rfl
theorem kl_L_106 : Cond.methodLink RL 106 yL_distance ∈ WA := wa_of (i := 393) (by decide +kernel) rfl
theorem kt_L_distance : Cond.static yL_distance ∈ WA := wa_of (i := 394) (by decide +kernel) rfl
theorem kc_L_distance : Cond.codeWith yL_distance cL_distance 5 (some .int) [(0, 10, 13, 21)] ∈ WA := wa_of (i := 395) (by decide +kernel) rfl
theorem kl_L_31 : Cond.methodLink RL 31 yX3_distance ∈ WA := wa_of (i := 396) (by decide +kernel) rfl
theorem ki_X3_distance : Cond.instanceMethod yX3_distance ∈ WA := wa_of (i := 397) (by decide +kernel) rfl
theorem ks_X3_distance : Cond.selects RX3 yX3_distance yX3_distance ∈ WA := wa_of (i := 398) (by decide +kernel) rfl
theorem kc_X3_distance : Cond.code yX3_distance cX3_distance 3 (some .int) ∈ WA := wa_of (i := 399) (by decide +kernel) rfl
theorem kl_X3_71 : Cond.methodLink RX3 71 yX1_lengthBetween ∈ WA := wa_of (i := 400) (by decide +kernel) rfl
theorem ki_X1_lengthBetween : Cond.instanceMethod yX1_lengthBetween ∈ WA := wa_of (i := 401) (by decide +kernel) rfl
theorem ks_X1_lengthBetween : Cond.selects RX1 yX1_lengthBetween yX1_lengthBetween ∈ WA := wa_of (i := 402) (by decide +kernel) rfl
theorem kc_X1_lengthBetween : Cond.code yX1_lengthBetween cX1_lengthBetween 3 (some .int) ∈ WA := wa_of (i := 403) (by decide +kernel) rfl
theorem kl_L_109 : Cond.methodLink RL 109 yL_counter ∈ WA := wa_of (i := 405) (by decide +kernel) rfl
theorem kt_L_counter : Cond.static yL_counter ∈ WA := wa_of (i := 406) (by decide +kernel) rfl
theorem kc_L_counter : Cond.codeWith yL_counter cL_counter 5 (some .int) [(0, 10, 13, 21), (0, 10, 17, 13)] ∈ WA := wa_of (i := 407) (by decide +kernel) rfl
theorem kl_L_34 : Cond.methodLink RL 34 yX3_counter ∈ WA := wa_of (i := 408) (by decide +kernel) rfl
theorem ki_X3_counter : Cond.instanceMethod yX3_counter ∈ WA := wa_of (i := 409) (by decide +kernel) rfl
theorem ks_X3_counter : Cond.selects RX3 yX3_counter yX3_counter ∈ WA := wa_of (i := 410) (by decide +kernel) rfl
theorem kc_X3_counter : Cond.code yX3_counter cX3_counter 3 (some .int) ∈ WA := wa_of (i := 411) (by decide +kernel) rfl
theorem kv_X3_74 : Cond.constant RX3 74 (1000000000) ∈ WA := wa_of (i := 412) (by decide +kernel) rfl
theorem kl_X3_75 : Cond.methodLink RX3 75 yX1_counterAt ∈ WA := wa_of (i := 413) (by decide +kernel) rfl
theorem kl_L_112 : Cond.methodLink RL 112 yL_exchange ∈ WA := wa_of (i := 414) (by decide +kernel) rfl
theorem kt_L_exchange : Cond.static yL_exchange ∈ WA := wa_of (i := 415) (by decide +kernel) rfl
theorem kc_L_exchange : Cond.codeWith yL_exchange cL_exchange 7 (some .int) [(0, 14, 17, 21), (0, 14, 21, 13), (0, 14, 25, 15)] ∈ WA := wa_of (i := 416) (by decide +kernel) rfl
theorem kl_L_37 : Cond.methodLink RL 37 yX3_exchange ∈ WA := wa_of (i := 417) (by decide +kernel) rfl
theorem ki_X3_exchange : Cond.instanceMethod yX3_exchange ∈ WA := wa_of (i := 418) (by decide +kernel) rfl
theorem ks_X3_exchange : Cond.selects RX3 yX3_exchange yX3_exchange ∈ WA := wa_of (i := 419) (by decide +kernel) rfl
theorem kc_X3_exchange : Cond.code yX3_exchange cX3_exchange 5 (some .int) ∈ WA := wa_of (i := 420) (by decide +kernel) rfl
theorem kl_X3_79 : Cond.methodLink RX3 79 yX3_requirePair ∈ WA := wa_of (i := 421) (by decide +kernel) rfl
theorem kt_X3_requirePair : Cond.static yX3_requirePair ∈ WA := wa_of (i := 422) (by decide +kernel) rfl
theorem kc_X3_requirePair : Cond.code yX3_requirePair cX3_requirePair 2 none ∈ WA := wa_of (i := 423) (by decide +kernel) rfl
theorem kv_X3_83 : Cond.constant RX3 83 (400000) ∈ WA := wa_of (i := 425) (by decide +kernel) rfl
theorem kl_X3_89 : Cond.methodLink RX3 89 yX1_carryOut ∈ WA := wa_of (i := 427) (by decide +kernel) rfl
theorem ki_X1_carryOut : Cond.instanceMethod yX1_carryOut ∈ WA := wa_of (i := 428) (by decide +kernel) rfl
theorem ks_X1_carryOut : Cond.selects RX1 yX1_carryOut yX1_carryOut ∈ WA := wa_of (i := 429) (by decide +kernel) rfl
theorem kc_X1_carryOut : Cond.code yX1_carryOut cX1_carryOut 17 (some .int) ∈ WA := wa_of (i := 430) (by decide +kernel) rfl
theorem kl_X1_56 : Cond.methodLink RX1 56 yX1_lengthBetween ∈ WA := wa_of (i := 431) (by decide +kernel) rfl
theorem kl_X1_63 : Cond.methodLink RX1 63 yX2_openRow ∈ WA := wa_of (i := 432) (by decide +kernel) rfl
theorem kl_X1_67 : Cond.methodLink RX1 67 yX2_set ∈ WA := wa_of (i := 433) (by decide +kernel) rfl
theorem kl_L_116 : Cond.methodLink RL 116 yL_plan ∈ WA := wa_of (i := 434) (by decide +kernel) rfl
theorem kt_L_plan : Cond.static yL_plan ∈ WA := wa_of (i := 435) (by decide +kernel) rfl
theorem kc_L_plan : Cond.codeWith yL_plan cL_plan 8 (some .int) [(0, 16, 19, 21), (0, 16, 23, 13), (0, 16, 27, 15)] ∈ WA := wa_of (i := 436) (by decide +kernel) rfl
theorem kl_L_41 : Cond.methodLink RL 41 yX3_plan ∈ WA := wa_of (i := 437) (by decide +kernel) rfl
theorem ki_X3_plan : Cond.instanceMethod yX3_plan ∈ WA := wa_of (i := 438) (by decide +kernel) rfl
theorem ks_X3_plan : Cond.selects RX3 yX3_plan yX3_plan ∈ WA := wa_of (i := 439) (by decide +kernel) rfl
theorem kc_X3_plan : Cond.code yX3_plan cX3_plan 7 (some .int) ∈ WA := wa_of (i := 440) (by decide +kernel) rfl
theorem kv_X3_93 : Cond.constant RX3 93 (900000000) ∈ WA := wa_of (i := 441) (by decide +kernel) rfl
theorem kl_X3_99 : Cond.methodLink RX3 99 yX1_rowForPlan ∈ WA := wa_of (i := 443) (by decide +kernel) rfl
theorem ki_X1_rowForPlan : Cond.instanceMethod yX1_rowForPlan ∈ WA := wa_of (i := 444) (by decide +kernel) rfl
theorem ks_X1_rowForPlan : Cond.selects RX1 yX1_rowForPlan yX1_rowForPlan ∈ WA := wa_of (i := 445) (by decide +kernel) rfl
theorem kc_X1_rowForPlan : Cond.code yX1_rowForPlan cX1_rowForPlan 3 (some .int) ∈ WA := wa_of (i := 446) (by decide +kernel) rfl
theorem kl_L_123 : Cond.methodLink RL 123 yL_run ∈ WA := wa_of (i := 447) (by decide +kernel) rfl
theorem kt_L_run : Cond.static yL_run ∈ WA := wa_of (i := 448) (by decide +kernel) rfl
theorem kc_L_run : Cond.codeWith yL_run cL_run 4 (some .int) [(0, 9, 12, 13)] ∈ WA := wa_of (i := 449) (by decide +kernel) rfl
theorem kl_L_44 : Cond.methodLink RL 44 yX3_run ∈ WA := wa_of (i := 450) (by decide +kernel) rfl
theorem ki_X3_run : Cond.instanceMethod yX3_run ∈ WA := wa_of (i := 451) (by decide +kernel) rfl
theorem ks_X3_run : Cond.selects RX3 yX3_run yX3_run ∈ WA := wa_of (i := 452) (by decide +kernel) rfl
theorem kc_X3_run : Cond.code yX3_run cX3_run 2 (some .int) ∈ WA := wa_of (i := 453) (by decide +kernel) rfl
theorem kl_X3_102 : Cond.methodLink RX3 102 yX1_runUntil ∈ WA := wa_of (i := 454) (by decide +kernel) rfl
theorem ki_X1_runUntil : Cond.instanceMethod yX1_runUntil ∈ WA := wa_of (i := 455) (by decide +kernel) rfl
theorem ks_X1_runUntil : Cond.selects RX1 yX1_runUntil yX1_runUntil ∈ WA := wa_of (i := 456) (by decide +kernel) rfl
theorem kc_X1_runUntil : Cond.code yX1_runUntil cX1_runUntil 5 (some .int) ∈ WA := wa_of (i := 457) (by decide +kernel) rfl
theorem kl_X1_75 : Cond.methodLink RX1 75 yX2_isFull ∈ WA := wa_of (i := 458) (by decide +kernel) rfl
theorem kl_X1_79 : Cond.methodLink RX1 79 yX1_carryOutFirstPlan ∈ WA := wa_of (i := 459) (by decide +kernel) rfl
theorem ki_X1_carryOutFirstPlan : Cond.instanceMethod yX1_carryOutFirstPlan ∈ WA := wa_of (i := 461) (by decide +kernel) rfl
theorem kc_X1_carryOutFirstPlan : Cond.code yX1_carryOutFirstPlan cX1_carryOutFirstPlan 1 none ∈ WA := wa_of (i := 462) (by decide +kernel) rfl
theorem kl_X1_85 : Cond.methodLink RX1 85 yJ9_max_f86c9 ∈ WA := wa_of (i := 463) (by decide +kernel) rfl
theorem kt_J9_max_f86c9 : Cond.static yJ9_max_f86c9 ∈ WA := wa_of (i := 464) (by decide +kernel) rfl
theorem kc_J9_max_f86c9 : Cond.code yJ9_max_f86c9 cJ9_max_f86c9 4 (some .long) ∈ WA := wa_of (i := 465) (by decide +kernel) rfl
theorem kl_X1_88 : Cond.methodLink RX1 88 yX1_carryOut ∈ WA := wa_of (i := 466) (by decide +kernel) rfl
theorem kl_X1_82 : Cond.methodLink RX1 82 yX2_removeFirstRow ∈ WA := wa_of (i := 467) (by decide +kernel) rfl
theorem ki_X2_removeFirstRow : Cond.instanceMethod yX2_removeFirstRow ∈ WA := wa_of (i := 468) (by decide +kernel) rfl
theorem ks_X2_removeFirstRow : Cond.selects RX2 yX2_removeFirstRow yX2_removeFirstRow ∈ WA := wa_of (i := 469) (by decide +kernel) rfl
theorem kc_X2_removeFirstRow : Cond.code yX2_removeFirstRow cX2_removeFirstRow 1 none ∈ WA := wa_of (i := 470) (by decide +kernel) rfl
theorem kl_L_135 : Cond.methodLink RL 135 yL_stamp ∈ WA := wa_of (i := 471) (by decide +kernel) rfl
theorem kt_L_stamp : Cond.static yL_stamp ∈ WA := wa_of (i := 472) (by decide +kernel) rfl
theorem kc_L_stamp : Cond.codeWith yL_stamp cL_stamp 5 (some .int) [(0, 10, 13, 21), (0, 10, 17, 13)] ∈ WA := wa_of (i := 473) (by decide +kernel) rfl
theorem kl_L_47 : Cond.methodLink RL 47 yX3_stamp ∈ WA := wa_of (i := 474) (by decide +kernel) rfl
theorem ki_X3_stamp : Cond.instanceMethod yX3_stamp ∈ WA := wa_of (i := 475) (by decide +kernel) rfl
theorem ks_X3_stamp : Cond.selects RX3 yX3_stamp yX3_stamp ∈ WA := wa_of (i := 476) (by decide +kernel) rfl
theorem kc_X3_stamp : Cond.code yX3_stamp cX3_stamp 3 (some .int) ∈ WA := wa_of (i := 477) (by decide +kernel) rfl
theorem kl_X3_109 : Cond.methodLink RX3 109 yX3_requireExchange ∈ WA := wa_of (i := 478) (by decide +kernel) rfl
theorem ki_X3_requireExchange : Cond.instanceMethod yX3_requireExchange ∈ WA := wa_of (i := 480) (by decide +kernel) rfl
theorem kc_X3_requireExchange : Cond.code yX3_requireExchange cX3_requireExchange 2 none ∈ WA := wa_of (i := 481) (by decide +kernel) rfl
theorem kl_L_138 : Cond.methodLink RL 138 yL_party ∈ WA := wa_of (i := 483) (by decide +kernel) rfl
theorem kt_L_party : Cond.static yL_party ∈ WA := wa_of (i := 484) (by decide +kernel) rfl
theorem kc_L_party : Cond.codeWith yL_party cL_party 5 (some .int) [(0, 10, 13, 21), (0, 10, 17, 13)] ∈ WA := wa_of (i := 485) (by decide +kernel) rfl
theorem kl_L_50 : Cond.methodLink RL 50 yX3_party ∈ WA := wa_of (i := 486) (by decide +kernel) rfl
theorem ki_X3_party : Cond.instanceMethod yX3_party ∈ WA := wa_of (i := 487) (by decide +kernel) rfl
theorem ks_X3_party : Cond.selects RX3 yX3_party yX3_party ∈ WA := wa_of (i := 488) (by decide +kernel) rfl
theorem kc_X3_party : Cond.code yX3_party cX3_party 3 (some .int) ∈ WA := wa_of (i := 489) (by decide +kernel) rfl
theorem kl_L_141 : Cond.methodLink RL 141 yL_range ∈ WA := wa_of (i := 490) (by decide +kernel) rfl
theorem kt_L_range : Cond.static yL_range ∈ WA := wa_of (i := 491) (by decide +kernel) rfl
theorem kc_L_range : Cond.codeWith yL_range cL_range 5 (some .int) [(0, 10, 13, 21), (0, 10, 17, 13)] ∈ WA := wa_of (i := 492) (by decide +kernel) rfl
theorem kl_L_53 : Cond.methodLink RL 53 yX3_range ∈ WA := wa_of (i := 493) (by decide +kernel) rfl
theorem ki_X3_range : Cond.instanceMethod yX3_range ∈ WA := wa_of (i := 494) (by decide +kernel) rfl
theorem ks_X3_range : Cond.selects RX3 yX3_range yX3_range ∈ WA := wa_of (i := 495) (by decide +kernel) rfl
theorem kc_X3_range : Cond.code yX3_range cX3_range 3 (some .int) ∈ WA := wa_of (i := 496) (by decide +kernel) rfl
theorem kl_X3_112 : Cond.methodLink RX3 112 yX3_requireMethod ∈ WA := wa_of (i := 497) (by decide +kernel) rfl
theorem kt_X3_requireMethod : Cond.static yX3_requireMethod ∈ WA := wa_of (i := 498) (by decide +kernel) rfl
theorem kc_X3_requireMethod : Cond.code yX3_requireMethod cX3_requireMethod 1 none ∈ WA := wa_of (i := 499) (by decide +kernel) rfl
theorem kl_X3_115 : Cond.methodLink RX3 115 yX1_rangeOf ∈ WA := wa_of (i := 500) (by decide +kernel) rfl
theorem kl_L_144 : Cond.methodLink RL 144 yL_latestRange ∈ WA := wa_of (i := 501) (by decide +kernel) rfl
theorem kt_L_latestRange : Cond.static yL_latestRange ∈ WA := wa_of (i := 502) (by decide +kernel) rfl
theorem kc_L_latestRange : Cond.codeWith yL_latestRange cL_latestRange 6 (some .int) [(0, 12, 15, 21), (0, 12, 19, 13), (0, 12, 23, 15)] ∈ WA := wa_of (i := 503) (by decide +kernel) rfl
theorem kl_L_56 : Cond.methodLink RL 56 yX3_latestRange ∈ WA := wa_of (i := 504) (by decide +kernel) rfl
theorem ki_X3_latestRange : Cond.instanceMethod yX3_latestRange ∈ WA := wa_of (i := 505) (by decide +kernel) rfl
theorem ks_X3_latestRange : Cond.selects RX3 yX3_latestRange yX3_latestRange ∈ WA := wa_of (i := 506) (by decide +kernel) rfl
theorem kc_X3_latestRange : Cond.code yX3_latestRange cX3_latestRange 4 (some .int) ∈ WA := wa_of (i := 507) (by decide +kernel) rfl
theorem kl_X3_118 : Cond.methodLink RX3 118 yX3_requireLatest ∈ WA := wa_of (i := 508) (by decide +kernel) rfl
theorem ki_X3_requireLatest : Cond.instanceMethod yX3_requireLatest ∈ WA := wa_of (i := 510) (by decide +kernel) rfl
theorem kc_X3_requireLatest : Cond.code yX3_requireLatest cX3_requireLatest 4 (some .int) ∈ WA := wa_of (i := 511) (by decide +kernel) rfl
theorem kl_X3_202 : Cond.methodLink RX3 202 yX1_latestBetween ∈ WA := wa_of (i := 512) (by decide +kernel) rfl
theorem ki_X1_latestBetween : Cond.instanceMethod yX1_latestBetween ∈ WA := wa_of (i := 513) (by decide +kernel) rfl
theorem ks_X1_latestBetween : Cond.selects RX1 yX1_latestBetween yX1_latestBetween ∈ WA := wa_of (i := 514) (by decide +kernel) rfl
theorem kc_X1_latestBetween : Cond.code yX1_latestBetween cX1_latestBetween 6 (some .int) ∈ WA := wa_of (i := 515) (by decide +kernel) rfl
theorem kl_L_147 : Cond.methodLink RL 147 yL_worstError ∈ WA := wa_of (i := 517) (by decide +kernel) rfl
theorem kt_L_worstError : Cond.static yL_worstError ∈ WA := wa_of (i := 518) (by decide +kernel) rfl
theorem kc_L_worstError : Cond.codeWith yL_worstError cL_worstError 4 (some .int) [(0, 9, 12, 13)] ∈ WA := wa_of (i := 519) (by decide +kernel) rfl
theorem kl_L_59 : Cond.methodLink RL 59 yX3_worstError ∈ WA := wa_of (i := 520) (by decide +kernel) rfl
theorem ki_X3_worstError : Cond.instanceMethod yX3_worstError ∈ WA := wa_of (i := 521) (by decide +kernel) rfl
theorem ks_X3_worstError : Cond.selects RX3 yX3_worstError yX3_worstError ∈ WA := wa_of (i := 522) (by decide +kernel) rfl
theorem kc_X3_worstError : Cond.code yX3_worstError cX3_worstError 4 (some .int) ∈ WA := wa_of (i := 523) (by decide +kernel) rfl
theorem kl_X3_121 : Cond.methodLink RX3 121 yX1_errorOf ∈ WA := wa_of (i := 524) (by decide +kernel) rfl
theorem ki_X1_errorOf : Cond.instanceMethod yX1_errorOf ∈ WA := wa_of (i := 525) (by decide +kernel) rfl
theorem ks_X1_errorOf : Cond.selects RX1 yX1_errorOf yX1_errorOf ∈ WA := wa_of (i := 526) (by decide +kernel) rfl
theorem kc_X1_errorOf : Cond.code yX1_errorOf cX1_errorOf 3 (some .int) ∈ WA := wa_of (i := 527) (by decide +kernel) rfl
theorem kl_X1_112 : Cond.methodLink RX1 112 yX1_lengthOf ∈ WA := wa_of (i := 528) (by decide +kernel) rfl
theorem ki_X1_lengthOf : Cond.instanceMethod yX1_lengthOf ∈ WA := wa_of (i := 530) (by decide +kernel) rfl
theorem kc_X1_lengthOf : Cond.code yX1_lengthOf cX1_lengthOf 2 (some .int) ∈ WA := wa_of (i := 531) (by decide +kernel) rfl
theorem kl_X3_124 : Cond.methodLink RX3 124 yJ9_abs_0f7a4 ∈ WA := wa_of (i := 532) (by decide +kernel) rfl
theorem kt_J9_abs_0f7a4 : Cond.static yJ9_abs_0f7a4 ∈ WA := wa_of (i := 533) (by decide +kernel) rfl
theorem kc_J9_abs_0f7a4 : Cond.code yJ9_abs_0f7a4 cJ9_abs_0f7a4 1 (some .int) ∈ WA := wa_of (i := 534) (by decide +kernel) rfl
theorem kl_X3_129 : Cond.methodLink RX3 129 yJ9_max_7cf53 ∈ WA := wa_of (i := 535) (by decide +kernel) rfl
theorem kt_J9_max_7cf53 : Cond.static yJ9_max_7cf53 ∈ WA := wa_of (i := 536) (by decide +kernel) rfl
theorem kc_J9_max_7cf53 : Cond.code yJ9_max_7cf53 cJ9_max_7cf53 2 (some .int) ∈ WA := wa_of (i := 537) (by decide +kernel) rfl
theorem kl_L_150 : Cond.methodLink RL 150 yL_meanError ∈ WA := wa_of (i := 538) (by decide +kernel) rfl
theorem kt_L_meanError : Cond.static yL_meanError ∈ WA := wa_of (i := 539) (by decide +kernel) rfl
theorem kc_L_meanError : Cond.codeWith yL_meanError cL_meanError 4 (some .int) [(0, 8, 11, 13)] ∈ WA := wa_of (i := 540) (by decide +kernel) rfl
theorem kl_L_62 : Cond.methodLink RL 62 yX3_meanError ∈ WA := wa_of (i := 541) (by decide +kernel) rfl
theorem ki_X3_meanError : Cond.instanceMethod yX3_meanError ∈ WA := wa_of (i := 542) (by decide +kernel) rfl
theorem ks_X3_meanError : Cond.selects RX3 yX3_meanError yX3_meanError ∈ WA := wa_of (i := 543) (by decide +kernel) rfl
theorem kc_X3_meanError : Cond.code yX3_meanError cX3_meanError 5 (some .double) ∈ WA := wa_of (i := 544) (by decide +kernel) rfl
theorem kl_L_154 : Cond.methodLink RL 154 yL_relativeDrift ∈ WA := wa_of (i := 545) (by decide +kernel) rfl
theorem kt_L_relativeDrift : Cond.static yL_relativeDrift ∈ WA := wa_of (i := 546) (by decide +kernel) rfl
theorem kc_L_relativeDrift : Cond.codeWith yL_relativeDrift cL_relativeDrift 4 (some .int) [(0, 8, 11, 21), (0, 8, 14, 69)] ∈ WA := wa_of (i := 547) (by decide +kernel) rfl
theorem kk_L_69 : Cond.classLink RL 69 "java/lang/ArithmeticException" ∈ WA := wa_of (i := 548) (by decide +kernel) rfl
theorem ko_ArithmeticException : Cond.instantiable "java/lang/ArithmeticException" 6 ∈ WA := wa_of (i := 549) (by decide +kernel) rfl
theorem kl_L_66 : Cond.methodLink RL 66 yX3_relativeDrift ∈ WA := wa_of (i := 562) (by decide +kernel) rfl
theorem ki_X3_relativeDrift : Cond.instanceMethod yX3_relativeDrift ∈ WA := wa_of (i := 563) (by decide +kernel) rfl
theorem ks_X3_relativeDrift : Cond.selects RX3 yX3_relativeDrift yX3_relativeDrift ∈ WA := wa_of (i := 564) (by decide +kernel) rfl
theorem kc_X3_relativeDrift : Cond.code yX3_relativeDrift cX3_relativeDrift 4 (some .double) ∈ WA := wa_of (i := 565) (by decide +kernel) rfl
theorem kl_X3_132 : Cond.methodLink RX3 132 yX1_elapsed ∈ WA := wa_of (i := 566) (by decide +kernel) rfl
theorem kk_X3_136 : Cond.classLink RX3 136 "java/lang/ArithmeticException" ∈ WA := wa_of (i := 567) (by decide +kernel) rfl
theorem kd_X3_141 : Cond.constantDouble RX3 141 (4696837146684686336) ∈ WA := wa_of (i := 570) (by decide +kernel) rfl
theorem kl_L_157 : Cond.methodLink RL 157 yL_calibrate ∈ WA := wa_of (i := 571) (by decide +kernel) rfl
theorem kt_L_calibrate : Cond.static yL_calibrate ∈ WA := wa_of (i := 572) (by decide +kernel) rfl
theorem kc_L_calibrate : Cond.codeWith yL_calibrate cL_calibrate 6 (some .int) [(0, 12, 15, 21), (0, 12, 19, 13), (0, 12, 23, 15)] ∈ WA := wa_of (i := 573) (by decide +kernel) rfl
theorem kl_L_71 : Cond.methodLink RL 71 yX3_calibrate ∈ WA := wa_of (i := 574) (by decide +kernel) rfl
theorem ki_X3_calibrate : Cond.instanceMethod yX3_calibrate ∈ WA := wa_of (i := 575) (by decide +kernel) rfl
theorem ks_X3_calibrate : Cond.selects RX3 yX3_calibrate yX3_calibrate ∈ WA := wa_of (i := 576) (by decide +kernel) rfl
theorem kc_X3_calibrate : Cond.code yX3_calibrate cX3_calibrate 10 (some .int) ∈ WA := wa_of (i := 577) (by decide +kernel) rfl
theorem kl_X3_143 : Cond.methodLink RX3 143 yX1_excessOf ∈ WA := wa_of (i := 578) (by decide +kernel) rfl
theorem ki_X1_excessOf : Cond.instanceMethod yX1_excessOf ∈ WA := wa_of (i := 579) (by decide +kernel) rfl
theorem ks_X1_excessOf : Cond.selects RX1 yX1_excessOf yX1_excessOf ∈ WA := wa_of (i := 580) (by decide +kernel) rfl
theorem kc_X1_excessOf : Cond.code yX1_excessOf cX1_excessOf 2 (some .int) ∈ WA := wa_of (i := 581) (by decide +kernel) rfl
theorem kl_X3_146 : Cond.methodLink RX3 146 yJ9_floorDiv_7cf53 ∈ WA := wa_of (i := 582) (by decide +kernel) rfl
theorem kt_J9_floorDiv_7cf53 : Cond.static yJ9_floorDiv_7cf53 ∈ WA := wa_of (i := 583) (by decide +kernel) rfl
theorem kc_J9_floorDiv_7cf53 : Cond.code yJ9_floorDiv_7cf53 cJ9_floorDiv_7cf53 3 (some .int) ∈ WA := wa_of (i := 584) (by decide +kernel) rfl
theorem kl_L_160 : Cond.methodLink RL 160 yL_fix ∈ WA := wa_of (i := 585) (by decide +kernel) rfl
theorem kt_L_fix : Cond.static yL_fix ∈ WA := wa_of (i := 586) (by decide +kernel) rfl
theorem kc_L_fix : Cond.codeWith yL_fix cL_fix 7 (some .int) [(0, 14, 17, 21), (0, 14, 21, 13), (0, 14, 25, 15), (0, 14, 29, 69)] ∈ WA := wa_of (i := 587) (by decide +kernel) rfl
theorem kl_L_74 : Cond.methodLink RL 74 yX3_fix ∈ WA := wa_of (i := 588) (by decide +kernel) rfl
theorem ki_X3_fix : Cond.instanceMethod yX3_fix ∈ WA := wa_of (i := 589) (by decide +kernel) rfl
theorem ks_X3_fix : Cond.selects RX3 yX3_fix yX3_fix ∈ WA := wa_of (i := 590) (by decide +kernel) rfl
theorem kc_X3_fix : Cond.code yX3_fix cX3_fix 18 (some .int) ∈ WA := wa_of (i := 591) (by decide +kernel) rfl
theorem kl_X3_154 : Cond.methodLink RX3 154 yX3_requireFourNodes ∈ WA := wa_of (i := 593) (by decide +kernel) rfl
theorem kt_X3_requireFourNodes : Cond.static yX3_requireFourNodes ∈ WA := wa_of (i := 594) (by decide +kernel) rfl
theorem kc_X3_requireFourNodes : Cond.code yX3_requireFourNodes cX3_requireFourNodes 4 none ∈ WA := wa_of (i := 595) (by decide +kernel) rfl
theorem kl_X3_158 : Cond.methodLink RX3 158 yX3_squareOf ∈ WA := wa_of (i := 596) (by decide +kernel) rfl
theorem kt_X3_squareOf : Cond.static yX3_squareOf ∈ WA := wa_of (i := 597) (by decide +kernel) rfl
theorem kc_X3_squareOf : Cond.code yX3_squareOf cX3_squareOf 1 (some .long) ∈ WA := wa_of (i := 598) (by decide +kernel) rfl
theorem kl_X3_162 : Cond.methodLink RX3 162 yX1_squareFromOrigin ∈ WA := wa_of (i := 599) (by decide +kernel) rfl
theorem ki_X1_squareFromOrigin : Cond.instanceMethod yX1_squareFromOrigin ∈ WA := wa_of (i := 600) (by decide +kernel) rfl
theorem ks_X1_squareFromOrigin : Cond.selects RX1 yX1_squareFromOrigin yX1_squareFromOrigin ∈ WA := wa_of (i := 601) (by decide +kernel) rfl
theorem kc_X1_squareFromOrigin : Cond.code yX1_squareFromOrigin cX1_squareFromOrigin 2 (some .long) ∈ WA := wa_of (i := 602) (by decide +kernel) rfl
theorem kl_X3_165 : Cond.methodLink RX3 165 yX3_solve ∈ WA := wa_of (i := 604) (by decide +kernel) rfl
theorem ki_X3_solve : Cond.instanceMethod yX3_solve ∈ WA := wa_of (i := 606) (by decide +kernel) rfl
theorem kc_X3_solve : Cond.code yX3_solve cX3_solve 23 (some .int) ∈ WA := wa_of (i := 607) (by decide +kernel) rfl
theorem kw_X3_207 : Cond.constantLong RX3 207 (2) ∈ WA := wa_of (i := 608) (by decide +kernel) rfl
theorem kl_X3_211 : Cond.methodLink RX3 211 yJ9_floorDiv_f86c9 ∈ WA := wa_of (i := 610) (by decide +kernel) rfl
theorem kw_X3_215 : Cond.constantLong RX3 215 (-2147483648) ∈ WA := wa_of (i := 611) (by decide +kernel) rfl
theorem kw_X3_217 : Cond.constantLong RX3 217 (2147483647) ∈ WA := wa_of (i := 612) (by decide +kernel) rfl
theorem kl_L_163 : Cond.methodLink RL 163 yL_undo ∈ WA := wa_of (i := 614) (by decide +kernel) rfl
theorem kt_L_undo : Cond.static yL_undo ∈ WA := wa_of (i := 615) (by decide +kernel) rfl
theorem kc_L_undo : Cond.codeWith yL_undo cL_undo 3 (some .int) [(0, 8, 11, 15)] ∈ WA := wa_of (i := 616) (by decide +kernel) rfl
theorem kl_L_77 : Cond.methodLink RL 77 yX3_undo ∈ WA := wa_of (i := 617) (by decide +kernel) rfl
theorem ki_X3_undo : Cond.instanceMethod yX3_undo ∈ WA := wa_of (i := 618) (by decide +kernel) rfl
theorem ks_X3_undo : Cond.selects RX3 yX3_undo yX3_undo ∈ WA := wa_of (i := 619) (by decide +kernel) rfl
theorem kc_X3_undo : Cond.code yX3_undo cX3_undo 1 (some .int) ∈ WA := wa_of (i := 620) (by decide +kernel) rfl
theorem kl_X3_172 : Cond.methodLink RX3 172 yX0_restore ∈ WA := wa_of (i := 622) (by decide +kernel) rfl
theorem ki_X0_restore : Cond.instanceMethod yX0_restore ∈ WA := wa_of (i := 623) (by decide +kernel) rfl
theorem ks_X0_restore : Cond.selects RX0 yX0_restore yX0_restore ∈ WA := wa_of (i := 624) (by decide +kernel) rfl
theorem kc_X0_restore : Cond.code yX0_restore cX0_restore 3 none ∈ WA := wa_of (i := 625) (by decide +kernel) rfl
theorem kk_L_82 : Cond.classLink RL 82 RX4 ∈ WA := wa_of (i := 626) (by decide +kernel) rfl
theorem ko_X4 : Cond.instantiable RX4 4 ∈ WA := wa_of (i := 627) (by decide +kernel) rfl
theorem kl_L_84 : Cond.methodLink RL 84 yX4_init ∈ WA := wa_of (i := 628) (by decide +kernel) rfl
theorem ki_X4_init : Cond.instanceMethod yX4_init ∈ WA := wa_of (i := 629) (by decide +kernel) rfl
theorem kc_X4_init : Cond.code yX4_init cX4_init 1 none ∈ WA := wa_of (i := 630) (by decide +kernel) rfl
theorem kl_X4_1 : Cond.methodLink RX4 1 objectInit ∈ WA := wa_of (i := 631) (by decide +kernel) rfl
theorem kf_X4_7 : Cond.fieldLink RX4 7 "RangingNetModel" "all" "[J" ∈ WA := wa_of (i := 632) (by decide +kernel) rfl
theorem kf_X4_13 : Cond.fieldLink RX4 13 "RangingNetModel" "saved" "[J" ∈ WA := wa_of (i := 633) (by decide +kernel) rfl
theorem kf_X4_20 : Cond.fieldLink RX4 20 "RangingNetModel" "savedMany" "I" ∈ WA := wa_of (i := 634) (by decide +kernel) rfl
theorem kf_X4_16 : Cond.fieldLink RX4 16 "RangingNetModel" "thrown" "I" ∈ WA := wa_of (i := 635) (by decide +kernel) rfl
theorem ka_long : Cond.arrayClass .long ∈ WA := wa_of (i := 645) (by decide +kernel) rfl
theorem kl_L_91 : Cond.methodLink RL 91 yX4_thrown ∈ WA := wa_of (i := 646) (by decide +kernel) rfl
theorem ki_X4_thrown : Cond.instanceMethod yX4_thrown ∈ WA := wa_of (i := 647) (by decide +kernel) rfl
theorem ks_X4_thrown : Cond.selects RX4 yX4_thrown yX4_thrown ∈ WA := wa_of (i := 648) (by decide +kernel) rfl
theorem kc_X4_thrown : Cond.code yX4_thrown cX4_thrown 1 (some .int) ∈ WA := wa_of (i := 649) (by decide +kernel) rfl
theorem kl_L_90 : Cond.methodLink RL 90 yX4_addNode ∈ WA := wa_of (i := 650) (by decide +kernel) rfl
theorem ki_X4_addNode : Cond.instanceMethod yX4_addNode ∈ WA := wa_of (i := 651) (by decide +kernel) rfl
theorem ks_X4_addNode : Cond.selects RX4 yX4_addNode yX4_addNode ∈ WA := wa_of (i := 652) (by decide +kernel) rfl
theorem kc_X4_addNode : Cond.code yX4_addNode cX4_addNode 8 (some .int) ∈ WA := wa_of (i := 653) (by decide +kernel) rfl
theorem kl_X4_31 : Cond.methodLink RX4 31 yX4_isPlace ∈ WA := wa_of (i := 654) (by decide +kernel) rfl
theorem kt_X4_isPlace : Cond.static yX4_isPlace ∈ WA := wa_of (i := 655) (by decide +kernel) rfl
theorem kc_X4_isPlace : Cond.code yX4_isPlace cX4_isPlace 1 (some .boolean) ∈ WA := wa_of (i := 656) (by decide +kernel) rfl
theorem kw_X4_27 : Cond.constantLong RX4 27 (-1000) ∈ WA := wa_of (i := 657) (by decide +kernel) rfl
theorem kw_X4_29 : Cond.constantLong RX4 29 (1000) ∈ WA := wa_of (i := 658) (by decide +kernel) rfl
theorem kl_X4_23 : Cond.methodLink RX4 23 yX4_in ∈ WA := wa_of (i := 659) (by decide +kernel) rfl
theorem kt_X4_in : Cond.static yX4_in ∈ WA := wa_of (i := 660) (by decide +kernel) rfl
theorem kc_X4_in : Cond.code yX4_in cX4_in 6 (some .boolean) ∈ WA := wa_of (i := 661) (by decide +kernel) rfl
theorem kw_X4_35 : Cond.constantLong RX4 35 (-100) ∈ WA := wa_of (i := 662) (by decide +kernel) rfl
theorem kw_X4_37 : Cond.constantLong RX4 37 (100) ∈ WA := wa_of (i := 663) (by decide +kernel) rfl
theorem kw_X4_39 : Cond.constantLong RX4 39 (1048575) ∈ WA := wa_of (i := 664) (by decide +kernel) rfl
theorem kw_X4_41 : Cond.constantLong RX4 41 (200) ∈ WA := wa_of (i := 665) (by decide +kernel) rfl
theorem kw_X4_43 : Cond.constantLong RX4 43 (6) ∈ WA := wa_of (i := 666) (by decide +kernel) rfl
theorem kl_X4_45 : Cond.methodLink RX4 45 yX4_goes ∈ WA := wa_of (i := 667) (by decide +kernel) rfl
theorem ki_X4_goes : Cond.instanceMethod yX4_goes ∈ WA := wa_of (i := 669) (by decide +kernel) rfl
theorem kc_X4_goes : Cond.code yX4_goes cX4_goes 4 (some .boolean) ∈ WA := wa_of (i := 670) (by decide +kernel) rfl
theorem kl_X4_49 : Cond.methodLink RX4 49 yX4_save ∈ WA := wa_of (i := 671) (by decide +kernel) rfl
theorem ki_X4_save : Cond.instanceMethod yX4_save ∈ WA := wa_of (i := 673) (by decide +kernel) rfl
theorem kc_X4_save : Cond.code yX4_save cX4_save 2 none ∈ WA := wa_of (i := 674) (by decide +kernel) rfl
theorem kl_L_97 : Cond.methodLink RL 97 yX4_move ∈ WA := wa_of (i := 675) (by decide +kernel) rfl
theorem ki_X4_move : Cond.instanceMethod yX4_move ∈ WA := wa_of (i := 676) (by decide +kernel) rfl
theorem ks_X4_move : Cond.selects RX4 yX4_move yX4_move ∈ WA := wa_of (i := 677) (by decide +kernel) rfl
theorem kc_X4_move : Cond.code yX4_move cX4_move 6 (some .int) ∈ WA := wa_of (i := 678) (by decide +kernel) rfl
theorem kl_X4_64 : Cond.methodLink RX4 64 yX4_isNode ∈ WA := wa_of (i := 679) (by decide +kernel) rfl
theorem ki_X4_isNode : Cond.instanceMethod yX4_isNode ∈ WA := wa_of (i := 681) (by decide +kernel) rfl
theorem kc_X4_isNode : Cond.code yX4_isNode cX4_isNode 2 (some .boolean) ∈ WA := wa_of (i := 682) (by decide +kernel) rfl
theorem kl_X4_56 : Cond.methodLink RX4 56 yX4_of ∈ WA := wa_of (i := 683) (by decide +kernel) rfl
theorem ki_X4_of : Cond.instanceMethod yX4_of ∈ WA := wa_of (i := 685) (by decide +kernel) rfl
theorem kc_X4_of : Cond.code yX4_of cX4_of 3 (some .long) ∈ WA := wa_of (i := 686) (by decide +kernel) rfl
theorem kl_X4_60 : Cond.methodLink RX4 60 yX4_rootOf ∈ WA := wa_of (i := 687) (by decide +kernel) rfl
theorem kt_X4_rootOf : Cond.static yX4_rootOf ∈ WA := wa_of (i := 688) (by decide +kernel) rfl
theorem kc_X4_rootOf : Cond.code yX4_rootOf cX4_rootOf 12 (some .long) ∈ WA := wa_of (i := 689) (by decide +kernel) rfl
theorem kw_X4_52 : Cond.constantLong RX4 52 (4096) ∈ WA := wa_of (i := 690) (by decide +kernel) rfl
theorem kw_X4_54 : Cond.constantLong RX4 54 (2) ∈ WA := wa_of (i := 691) (by decide +kernel) rfl
theorem kl_L_101 : Cond.methodLink RL 101 yX4_assume ∈ WA := wa_of (i := 692) (by decide +kernel) rfl
theorem ki_X4_assume : Cond.instanceMethod yX4_assume ∈ WA := wa_of (i := 693) (by decide +kernel) rfl
theorem ks_X4_assume : Cond.selects RX4 yX4_assume yX4_assume ∈ WA := wa_of (i := 694) (by decide +kernel) rfl
theorem kc_X4_assume : Cond.code yX4_assume cX4_assume 5 (some .int) ∈ WA := wa_of (i := 695) (by decide +kernel) rfl
theorem kl_L_105 : Cond.methodLink RL 105 yX4_assumed ∈ WA := wa_of (i := 696) (by decide +kernel) rfl
theorem ki_X4_assumed : Cond.instanceMethod yX4_assumed ∈ WA := wa_of (i := 697) (by decide +kernel) rfl
theorem ks_X4_assumed : Cond.selects RX4 yX4_assumed yX4_assumed ∈ WA := wa_of (i := 698) (by decide +kernel) rfl
theorem kc_X4_assumed : Cond.code yX4_assumed cX4_assumed 2 (some .int) ∈ WA := wa_of (i := 699) (by decide +kernel) rfl
theorem kl_L_108 : Cond.methodLink RL 108 yX4_distance ∈ WA := wa_of (i := 700) (by decide +kernel) rfl
theorem ki_X4_distance : Cond.instanceMethod yX4_distance ∈ WA := wa_of (i := 701) (by decide +kernel) rfl
theorem ks_X4_distance : Cond.selects RX4 yX4_distance yX4_distance ∈ WA := wa_of (i := 702) (by decide +kernel) rfl
theorem kc_X4_distance : Cond.code yX4_distance cX4_distance 3 (some .int) ∈ WA := wa_of (i := 703) (by decide +kernel) rfl
theorem kl_X4_67 : Cond.methodLink RX4 67 yX4_distanceOf ∈ WA := wa_of (i := 704) (by decide +kernel) rfl
theorem ki_X4_distanceOf : Cond.instanceMethod yX4_distanceOf ∈ WA := wa_of (i := 706) (by decide +kernel) rfl
theorem kc_X4_distanceOf : Cond.code yX4_distanceOf cX4_distanceOf 3 (some .long) ∈ WA := wa_of (i := 707) (by decide +kernel) rfl
theorem kl_L_111 : Cond.methodLink RL 111 yX4_counter ∈ WA := wa_of (i := 708) (by decide +kernel) rfl
theorem ki_X4_counter : Cond.instanceMethod yX4_counter ∈ WA := wa_of (i := 709) (by decide +kernel) rfl
theorem ks_X4_counter : Cond.selects RX4 yX4_counter yX4_counter ∈ WA := wa_of (i := 710) (by decide +kernel) rfl
theorem kc_X4_counter : Cond.code yX4_counter cX4_counter 3 (some .int) ∈ WA := wa_of (i := 711) (by decide +kernel) rfl
theorem kw_X4_74 : Cond.constantLong RX4 74 (1000000000) ∈ WA := wa_of (i := 712) (by decide +kernel) rfl
theorem kl_X4_76 : Cond.methodLink RX4 76 yX4_counterAt ∈ WA := wa_of (i := 713) (by decide +kernel) rfl
theorem ki_X4_counterAt : Cond.instanceMethod yX4_counterAt ∈ WA := wa_of (i := 715) (by decide +kernel) rfl
theorem kc_X4_counterAt : Cond.code yX4_counterAt cX4_counterAt 4 (some .long) ∈ WA := wa_of (i := 716) (by decide +kernel) rfl
theorem kw_X4_70 : Cond.constantLong RX4 70 (1000000) ∈ WA := wa_of (i := 717) (by decide +kernel) rfl
theorem kw_X4_72 : Cond.constantLong RX4 72 (1048576) ∈ WA := wa_of (i := 718) (by decide +kernel) rfl
theorem kl_L_115 : Cond.methodLink RL 115 yX4_exchange ∈ WA := wa_of (i := 719) (by decide +kernel) rfl
theorem ki_X4_exchange : Cond.instanceMethod yX4_exchange ∈ WA := wa_of (i := 720) (by decide +kernel) rfl
theorem ks_X4_exchange : Cond.selects RX4 yX4_exchange yX4_exchange ∈ WA := wa_of (i := 721) (by decide +kernel) rfl
theorem kc_X4_exchange : Cond.code yX4_exchange cX4_exchange 5 (some .int) ∈ WA := wa_of (i := 722) (by decide +kernel) rfl
theorem kl_X4_82 : Cond.methodLink RX4 82 yX4_areReplies ∈ WA := wa_of (i := 723) (by decide +kernel) rfl
theorem kt_X4_areReplies : Cond.static yX4_areReplies ∈ WA := wa_of (i := 724) (by decide +kernel) rfl
theorem kc_X4_areReplies : Cond.code yX4_areReplies cX4_areReplies 4 (some .boolean) ∈ WA := wa_of (i := 725) (by decide +kernel) rfl
theorem kw_X4_80 : Cond.constantLong RX4 80 (400000) ∈ WA := wa_of (i := 726) (by decide +kernel) rfl
theorem kw_X4_86 : Cond.constantLong RX4 86 (40) ∈ WA := wa_of (i := 727) (by decide +kernel) rfl
theorem kl_X4_88 : Cond.methodLink RX4 88 yX4_carriesOut ∈ WA := wa_of (i := 728) (by decide +kernel) rfl
theorem ki_X4_carriesOut : Cond.instanceMethod yX4_carriesOut ∈ WA := wa_of (i := 730) (by decide +kernel) rfl
theorem kc_X4_carriesOut : Cond.code yX4_carriesOut cX4_carriesOut 14 none ∈ WA := wa_of (i := 731) (by decide +kernel) rfl
theorem kl_L_118 : Cond.methodLink RL 118 yX4_plan ∈ WA := wa_of (i := 732) (by decide +kernel) rfl
theorem ki_X4_plan : Cond.instanceMethod yX4_plan ∈ WA := wa_of (i := 733) (by decide +kernel) rfl
theorem ks_X4_plan : Cond.selects RX4 yX4_plan yX4_plan ∈ WA := wa_of (i := 734) (by decide +kernel) rfl
theorem kc_X4_plan : Cond.code yX4_plan cX4_plan 7 (some .int) ∈ WA := wa_of (i := 735) (by decide +kernel) rfl
theorem kw_X4_92 : Cond.constantLong RX4 92 (900000000) ∈ WA := wa_of (i := 736) (by decide +kernel) rfl
theorem kw_X4_94 : Cond.constantLong RX4 94 (20) ∈ WA := wa_of (i := 737) (by decide +kernel) rfl
theorem kl_L_122 : Cond.methodLink RL 122 yX4_nextPlanned ∈ WA := wa_of (i := 738) (by decide +kernel) rfl
theorem ki_X4_nextPlanned : Cond.instanceMethod yX4_nextPlanned ∈ WA := wa_of (i := 739) (by decide +kernel) rfl
theorem ks_X4_nextPlanned : Cond.selects RX4 yX4_nextPlanned yX4_nextPlanned ∈ WA := wa_of (i := 740) (by decide +kernel) rfl
theorem kc_X4_nextPlanned : Cond.code yX4_nextPlanned cX4_nextPlanned 2 (some .int) ∈ WA := wa_of (i := 741) (by decide +kernel) rfl
theorem kl_X4_96 : Cond.methodLink RX4 96 yX4_waiting ∈ WA := wa_of (i := 742) (by decide +kernel) rfl
theorem ki_X4_waiting : Cond.instanceMethod yX4_waiting ∈ WA := wa_of (i := 744) (by decide +kernel) rfl
theorem kc_X4_waiting : Cond.code yX4_waiting cX4_waiting 10 (some .int) ∈ WA := wa_of (i := 745) (by decide +kernel) rfl
theorem kl_L_125 : Cond.methodLink RL 125 yX4_run ∈ WA := wa_of (i := 746) (by decide +kernel) rfl
theorem ki_X4_run : Cond.instanceMethod yX4_run ∈ WA := wa_of (i := 747) (by decide +kernel) rfl
theorem ks_X4_run : Cond.selects RX4 yX4_run yX4_run ∈ WA := wa_of (i := 748) (by decide +kernel) rfl
theorem kc_X4_run : Cond.code yX4_run cX4_run 7 (some .int) ∈ WA := wa_of (i := 749) (by decide +kernel) rfl
theorem kl_X4_100 : Cond.methodLink RX4 100 yX4_removes ∈ WA := wa_of (i := 750) (by decide +kernel) rfl
theorem ki_X4_removes : Cond.instanceMethod yX4_removes ∈ WA := wa_of (i := 752) (by decide +kernel) rfl
theorem kc_X4_removes : Cond.code yX4_removes cX4_removes 3 none ∈ WA := wa_of (i := 753) (by decide +kernel) rfl
theorem kl_L_130 : Cond.methodLink RL 130 yX4_now ∈ WA := wa_of (i := 754) (by decide +kernel) rfl
theorem ki_X4_now : Cond.instanceMethod yX4_now ∈ WA := wa_of (i := 755) (by decide +kernel) rfl
theorem ks_X4_now : Cond.selects RX4 yX4_now yX4_now ∈ WA := wa_of (i := 756) (by decide +kernel) rfl
theorem kc_X4_now : Cond.code yX4_now cX4_now 1 (some .long) ∈ WA := wa_of (i := 757) (by decide +kernel) rfl
theorem kl_L_134 : Cond.methodLink RL 134 yX4_exchanges ∈ WA := wa_of (i := 758) (by decide +kernel) rfl
theorem ki_X4_exchanges : Cond.instanceMethod yX4_exchanges ∈ WA := wa_of (i := 759) (by decide +kernel) rfl
theorem ks_X4_exchanges : Cond.selects RX4 yX4_exchanges yX4_exchanges ∈ WA := wa_of (i := 760) (by decide +kernel) rfl
theorem kc_X4_exchanges : Cond.code yX4_exchanges cX4_exchanges 1 (some .int) ∈ WA := wa_of (i := 761) (by decide +kernel) rfl
theorem kl_L_137 : Cond.methodLink RL 137 yX4_stamp ∈ WA := wa_of (i := 762) (by decide +kernel) rfl
theorem ki_X4_stamp : Cond.instanceMethod yX4_stamp ∈ WA := wa_of (i := 763) (by decide +kernel) rfl
theorem ks_X4_stamp : Cond.selects RX4 yX4_stamp yX4_stamp ∈ WA := wa_of (i := 764) (by decide +kernel) rfl
theorem kc_X4_stamp : Cond.code yX4_stamp cX4_stamp 3 (some .int) ∈ WA := wa_of (i := 765) (by decide +kernel) rfl
theorem kl_X4_104 : Cond.methodLink RX4 104 yX4_isExchange ∈ WA := wa_of (i := 766) (by decide +kernel) rfl
theorem ki_X4_isExchange : Cond.instanceMethod yX4_isExchange ∈ WA := wa_of (i := 768) (by decide +kernel) rfl
theorem kc_X4_isExchange : Cond.code yX4_isExchange cX4_isExchange 2 (some .boolean) ∈ WA := wa_of (i := 769) (by decide +kernel) rfl
theorem kl_X4_107 : Cond.methodLink RX4 107 yX4_inExchange ∈ WA := wa_of (i := 770) (by decide +kernel) rfl
theorem ki_X4_inExchange : Cond.instanceMethod yX4_inExchange ∈ WA := wa_of (i := 772) (by decide +kernel) rfl
theorem kc_X4_inExchange : Cond.code yX4_inExchange cX4_inExchange 3 (some .long) ∈ WA := wa_of (i := 773) (by decide +kernel) rfl
theorem kl_L_140 : Cond.methodLink RL 140 yX4_party ∈ WA := wa_of (i := 774) (by decide +kernel) rfl
theorem ki_X4_party : Cond.instanceMethod yX4_party ∈ WA := wa_of (i := 775) (by decide +kernel) rfl
theorem ks_X4_party : Cond.selects RX4 yX4_party yX4_party ∈ WA := wa_of (i := 776) (by decide +kernel) rfl
theorem kc_X4_party : Cond.code yX4_party cX4_party 3 (some .int) ∈ WA := wa_of (i := 777) (by decide +kernel) rfl
theorem kl_L_143 : Cond.methodLink RL 143 yX4_range ∈ WA := wa_of (i := 778) (by decide +kernel) rfl
theorem ki_X4_range : Cond.instanceMethod yX4_range ∈ WA := wa_of (i := 779) (by decide +kernel) rfl
theorem ks_X4_range : Cond.selects RX4 yX4_range yX4_range ∈ WA := wa_of (i := 780) (by decide +kernel) rfl
theorem kc_X4_range : Cond.code yX4_range cX4_range 3 (some .int) ∈ WA := wa_of (i := 781) (by decide +kernel) rfl
theorem kl_X4_128 : Cond.methodLink RX4 128 yX4_isMethod ∈ WA := wa_of (i := 782) (by decide +kernel) rfl
theorem kt_X4_isMethod : Cond.static yX4_isMethod ∈ WA := wa_of (i := 783) (by decide +kernel) rfl
theorem kc_X4_isMethod : Cond.code yX4_isMethod cX4_isMethod 1 (some .boolean) ∈ WA := wa_of (i := 784) (by decide +kernel) rfl
theorem kl_X4_131 : Cond.methodLink RX4 131 yX4_rangeOf ∈ WA := wa_of (i := 785) (by decide +kernel) rfl
theorem ki_X4_rangeOf : Cond.instanceMethod yX4_rangeOf ∈ WA := wa_of (i := 787) (by decide +kernel) rfl
theorem kc_X4_rangeOf : Cond.code yX4_rangeOf cX4_rangeOf 3 (some .long) ∈ WA := wa_of (i := 788) (by decide +kernel) rfl
theorem kl_X4_119 : Cond.methodLink RX4 119 yX4_rawOf ∈ WA := wa_of (i := 789) (by decide +kernel) rfl
theorem ki_X4_rawOf : Cond.instanceMethod yX4_rawOf ∈ WA := wa_of (i := 791) (by decide +kernel) rfl
theorem kc_X4_rawOf : Cond.code yX4_rawOf cX4_rawOf 13 (some .long) ∈ WA := wa_of (i := 792) (by decide +kernel) rfl
theorem kl_X4_110 : Cond.methodLink RX4 110 yX4_span ∈ WA := wa_of (i := 793) (by decide +kernel) rfl
theorem ki_X4_span : Cond.instanceMethod yX4_span ∈ WA := wa_of (i := 795) (by decide +kernel) rfl
theorem kc_X4_span : Cond.code yX4_span cX4_span 4 (some .long) ∈ WA := wa_of (i := 796) (by decide +kernel) rfl
theorem kl_X4_114 : Cond.methodLink RX4 114 yX4_floor ∈ WA := wa_of (i := 797) (by decide +kernel) rfl
theorem kt_X4_floor : Cond.static yX4_floor ∈ WA := wa_of (i := 798) (by decide +kernel) rfl
theorem kc_X4_floor : Cond.code yX4_floor cX4_floor 6 (some .long) ∈ WA := wa_of (i := 799) (by decide +kernel) rfl
theorem kw_X4_117 : Cond.constantLong RX4 117 (4) ∈ WA := wa_of (i := 800) (by decide +kernel) rfl
theorem kl_X4_122 : Cond.methodLink RX4 122 yX4_first ∈ WA := wa_of (i := 801) (by decide +kernel) rfl
theorem ki_X4_first : Cond.instanceMethod yX4_first ∈ WA := wa_of (i := 803) (by decide +kernel) rfl
theorem kc_X4_first : Cond.code yX4_first cX4_first 2 (some .int) ∈ WA := wa_of (i := 804) (by decide +kernel) rfl
theorem kl_X4_125 : Cond.methodLink RX4 125 yX4_second ∈ WA := wa_of (i := 805) (by decide +kernel) rfl
theorem ki_X4_second : Cond.instanceMethod yX4_second ∈ WA := wa_of (i := 807) (by decide +kernel) rfl
theorem kc_X4_second : Cond.code yX4_second cX4_second 2 (some .int) ∈ WA := wa_of (i := 808) (by decide +kernel) rfl
theorem kl_L_146 : Cond.methodLink RL 146 yX4_latestRange ∈ WA := wa_of (i := 809) (by decide +kernel) rfl
theorem ki_X4_latestRange : Cond.instanceMethod yX4_latestRange ∈ WA := wa_of (i := 810) (by decide +kernel) rfl
theorem ks_X4_latestRange : Cond.selects RX4 yX4_latestRange yX4_latestRange ∈ WA := wa_of (i := 811) (by decide +kernel) rfl
theorem kc_X4_latestRange : Cond.code yX4_latestRange cX4_latestRange 4 (some .int) ∈ WA := wa_of (i := 812) (by decide +kernel) rfl
theorem kl_X4_134 : Cond.methodLink RX4 134 yX4_latestOf ∈ WA := wa_of (i := 813) (by decide +kernel) rfl
theorem ki_X4_latestOf : Cond.instanceMethod yX4_latestOf ∈ WA := wa_of (i := 815) (by decide +kernel) rfl
theorem kc_X4_latestOf : Cond.code yX4_latestOf cX4_latestOf 5 (some .int) ∈ WA := wa_of (i := 816) (by decide +kernel) rfl
theorem kl_L_149 : Cond.methodLink RL 149 yX4_worstError ∈ WA := wa_of (i := 817) (by decide +kernel) rfl
theorem ki_X4_worstError : Cond.instanceMethod yX4_worstError ∈ WA := wa_of (i := 818) (by decide +kernel) rfl
theorem ks_X4_worstError : Cond.selects RX4 yX4_worstError yX4_worstError ∈ WA := wa_of (i := 819) (by decide +kernel) rfl
theorem kc_X4_worstError : Cond.code yX4_worstError cX4_worstError 9 (some .int) ∈ WA := wa_of (i := 820) (by decide +kernel) rfl
theorem kw_X4_138 : Cond.constantLong RX4 138 (-1) ∈ WA := wa_of (i := 821) (by decide +kernel) rfl
theorem kl_X4_140 : Cond.methodLink RX4 140 yX4_errorOf ∈ WA := wa_of (i := 822) (by decide +kernel) rfl
theorem ki_X4_errorOf : Cond.instanceMethod yX4_errorOf ∈ WA := wa_of (i := 824) (by decide +kernel) rfl
theorem kc_X4_errorOf : Cond.code yX4_errorOf cX4_errorOf 3 (some .long) ∈ WA := wa_of (i := 825) (by decide +kernel) rfl
theorem kl_L_153 : Cond.methodLink RL 153 yX4_meanError ∈ WA := wa_of (i := 826) (by decide +kernel) rfl
theorem ki_X4_meanError : Cond.instanceMethod yX4_meanError ∈ WA := wa_of (i := 827) (by decide +kernel) rfl
theorem ks_X4_meanError : Cond.selects RX4 yX4_meanError yX4_meanError ∈ WA := wa_of (i := 828) (by decide +kernel) rfl
theorem kc_X4_meanError : Cond.code yX4_meanError cX4_meanError 8 (some .double) ∈ WA := wa_of (i := 829) (by decide +kernel) rfl
theorem kl_L_156 : Cond.methodLink RL 156 yX4_relativeDrift ∈ WA := wa_of (i := 830) (by decide +kernel) rfl
theorem ki_X4_relativeDrift : Cond.instanceMethod yX4_relativeDrift ∈ WA := wa_of (i := 831) (by decide +kernel) rfl
theorem ks_X4_relativeDrift : Cond.selects RX4 yX4_relativeDrift yX4_relativeDrift ∈ WA := wa_of (i := 832) (by decide +kernel) rfl
theorem kc_X4_relativeDrift : Cond.code yX4_relativeDrift cX4_relativeDrift 9 (some .double) ∈ WA := wa_of (i := 833) (by decide +kernel) rfl
theorem kd_X4_143 : Cond.constantDouble RX4 143 (4696837146684686336) ∈ WA := wa_of (i := 834) (by decide +kernel) rfl
theorem kl_L_159 : Cond.methodLink RL 159 yX4_calibrate ∈ WA := wa_of (i := 835) (by decide +kernel) rfl
theorem ki_X4_calibrate : Cond.instanceMethod yX4_calibrate ∈ WA := wa_of (i := 836) (by decide +kernel) rfl
theorem ks_X4_calibrate : Cond.selects RX4 yX4_calibrate yX4_calibrate ∈ WA := wa_of (i := 837) (by decide +kernel) rfl
theorem kc_X4_calibrate : Cond.code yX4_calibrate cX4_calibrate 12 (some .int) ∈ WA := wa_of (i := 838) (by decide +kernel) rfl
theorem kl_X4_145 : Cond.methodLink RX4 145 yX4_excess ∈ WA := wa_of (i := 839) (by decide +kernel) rfl
theorem ki_X4_excess : Cond.instanceMethod yX4_excess ∈ WA := wa_of (i := 841) (by decide +kernel) rfl
theorem kc_X4_excess : Cond.code yX4_excess cX4_excess 3 (some .long) ∈ WA := wa_of (i := 842) (by decide +kernel) rfl
theorem kl_L_162 : Cond.methodLink RL 162 yX4_fix ∈ WA := wa_of (i := 843) (by decide +kernel) rfl
theorem ki_X4_fix : Cond.instanceMethod yX4_fix ∈ WA := wa_of (i := 844) (by decide +kernel) rfl
theorem ks_X4_fix : Cond.selects RX4 yX4_fix yX4_fix ∈ WA := wa_of (i := 845) (by decide +kernel) rfl
theorem kc_X4_fix : Cond.code yX4_fix cX4_fix 29 (some .int) ∈ WA := wa_of (i := 846) (by decide +kernel) rfl
theorem kw_X4_148 : Cond.constantLong RX4 148 (999) ∈ WA := wa_of (i := 847) (by decide +kernel) rfl
theorem kl_X4_150 : Cond.methodLink RX4 150 yX4_right ∈ WA := wa_of (i := 848) (by decide +kernel) rfl
theorem ki_X4_right : Cond.instanceMethod yX4_right ∈ WA := wa_of (i := 850) (by decide +kernel) rfl
theorem kc_X4_right : Cond.code yX4_right cX4_right 9 (some .long) ∈ WA := wa_of (i := 851) (by decide +kernel) rfl
theorem kw_X4_154 : Cond.constantLong RX4 154 (-2147483648) ∈ WA := wa_of (i := 852) (by decide +kernel) rfl
theorem kw_X4_156 : Cond.constantLong RX4 156 (2147483647) ∈ WA := wa_of (i := 853) (by decide +kernel) rfl
theorem kl_L_166 : Cond.methodLink RL 166 yX4_undo ∈ WA := wa_of (i := 854) (by decide +kernel) rfl
theorem ki_X4_undo : Cond.instanceMethod yX4_undo ∈ WA := wa_of (i := 855) (by decide +kernel) rfl
theorem ks_X4_undo : Cond.selects RX4 yX4_undo yX4_undo ∈ WA := wa_of (i := 856) (by decide +kernel) rfl
theorem kc_X4_undo : Cond.code yX4_undo cX4_undo 2 (some .int) ∈ WA := wa_of (i := 857) (by decide +kernel) rfl
theorem kl_L_170 : Cond.methodLink RL 170 yX4_digest ∈ WA := wa_of (i := 858) (by decide +kernel) rfl
theorem ki_X4_digest : Cond.instanceMethod yX4_digest ∈ WA := wa_of (i := 859) (by decide +kernel) rfl
theorem ks_X4_digest : Cond.selects RX4 yX4_digest yX4_digest ∈ WA := wa_of (i := 860) (by decide +kernel) rfl
theorem kc_X4_digest : Cond.code yX4_digest cX4_digest 5 (some .long) ∈ WA := wa_of (i := 861) (by decide +kernel) rfl
theorem kw_X4_160 : Cond.constantLong RX4 160 (2797) ∈ WA := wa_of (i := 862) (by decide +kernel) rfl
theorem kl_X4_162 : Cond.methodLink RX4 162 yX4_sums ∈ WA := wa_of (i := 863) (by decide +kernel) rfl
theorem ki_X4_sums : Cond.instanceMethod yX4_sums ∈ WA := wa_of (i := 865) (by decide +kernel) rfl
theorem kc_X4_sums : Cond.code yX4_sums cX4_sums 8 (some .long) ∈ WA := wa_of (i := 866) (by decide +kernel) rfl
theorem kw_X4_158 : Cond.constantLong RX4 158 (31) ∈ WA := wa_of (i := 867) (by decide +kernel) rfl
theorem ka_double : Cond.arrayClass .double ∈ WA := wa_of (i := 868) (by decide +kernel) rfl
theorem ks_X0_newestSlot : Cond.selects RX0 yX0_newestSlot yX0_newestSlot ∈ WA := wa_of (i := 1) (by decide +kernel) rfl
theorem ks_X3_requireNode : Cond.selects RX3 yX3_requireNode yX3_requireNode ∈ WA := wa_of (i := 2) (by decide +kernel) rfl
theorem ks_X1_carryOutFirstPlan : Cond.selects RX1 yX1_carryOutFirstPlan yX1_carryOutFirstPlan ∈ WA := wa_of (i := 3) (by decide +kernel) rfl
theorem ks_X3_requireExchange : Cond.selects RX3 yX3_requireExchange yX3_requireExchange ∈ WA := wa_of (i := 4) (by decide +kernel) rfl
theorem ks_X3_requireLatest : Cond.selects RX3 yX3_requireLatest yX3_requireLatest ∈ WA := wa_of (i := 5) (by decide +kernel) rfl
theorem ks_X1_lengthOf : Cond.selects RX1 yX1_lengthOf yX1_lengthOf ∈ WA := wa_of (i := 6) (by decide +kernel) rfl
theorem ks_X3_solve : Cond.selects RX3 yX3_solve yX3_solve ∈ WA := wa_of (i := 7) (by decide +kernel) rfl
theorem ks_X4_goes : Cond.selects RX4 yX4_goes yX4_goes ∈ WA := wa_of (i := 8) (by decide +kernel) rfl
theorem ks_X4_save : Cond.selects RX4 yX4_save yX4_save ∈ WA := wa_of (i := 9) (by decide +kernel) rfl
theorem ks_X4_isNode : Cond.selects RX4 yX4_isNode yX4_isNode ∈ WA := wa_of (i := 10) (by decide +kernel) rfl
theorem ks_X4_of : Cond.selects RX4 yX4_of yX4_of ∈ WA := wa_of (i := 11) (by decide +kernel) rfl
theorem ks_X4_distanceOf : Cond.selects RX4 yX4_distanceOf yX4_distanceOf ∈ WA := wa_of (i := 12) (by decide +kernel) rfl
theorem ks_X4_counterAt : Cond.selects RX4 yX4_counterAt yX4_counterAt ∈ WA := wa_of (i := 13) (by decide +kernel) rfl
theorem ks_X4_carriesOut : Cond.selects RX4 yX4_carriesOut yX4_carriesOut ∈ WA := wa_of (i := 14) (by decide +kernel) rfl
theorem ks_X4_waiting : Cond.selects RX4 yX4_waiting yX4_waiting ∈ WA := wa_of (i := 15) (by decide +kernel) rfl
theorem ks_X4_removes : Cond.selects RX4 yX4_removes yX4_removes ∈ WA := wa_of (i := 16) (by decide +kernel) rfl
theorem ks_X4_isExchange : Cond.selects RX4 yX4_isExchange yX4_isExchange ∈ WA := wa_of (i := 17) (by decide +kernel) rfl
theorem ks_X4_inExchange : Cond.selects RX4 yX4_inExchange yX4_inExchange ∈ WA := wa_of (i := 18) (by decide +kernel) rfl
theorem ks_X4_rangeOf : Cond.selects RX4 yX4_rangeOf yX4_rangeOf ∈ WA := wa_of (i := 19) (by decide +kernel) rfl
theorem ks_X4_rawOf : Cond.selects RX4 yX4_rawOf yX4_rawOf ∈ WA := wa_of (i := 20) (by decide +kernel) rfl
theorem ks_X4_span : Cond.selects RX4 yX4_span yX4_span ∈ WA := wa_of (i := 21) (by decide +kernel) rfl
theorem ks_X4_first : Cond.selects RX4 yX4_first yX4_first ∈ WA := wa_of (i := 22) (by decide +kernel) rfl
theorem ks_X4_second : Cond.selects RX4 yX4_second yX4_second ∈ WA := wa_of (i := 23) (by decide +kernel) rfl
theorem ks_X4_latestOf : Cond.selects RX4 yX4_latestOf yX4_latestOf ∈ WA := wa_of (i := 24) (by decide +kernel) rfl
theorem ks_X4_errorOf : Cond.selects RX4 yX4_errorOf yX4_errorOf ∈ WA := wa_of (i := 25) (by decide +kernel) rfl
theorem ks_X4_excess : Cond.selects RX4 yX4_excess yX4_excess ∈ WA := wa_of (i := 26) (by decide +kernel) rfl
theorem ks_X4_right : Cond.selects RX4 yX4_right yX4_right ∈ WA := wa_of (i := 27) (by decide +kernel) rfl
theorem ks_X4_sums : Cond.selects RX4 yX4_sums yX4_sums ∈ WA := wa_of (i := 28) (by decide +kernel) rfl
theorem inX0 : ∀ w ∈ wsX00, w ∈ WA := wa_sub (by decide +kernel) (by decide +kernel)
theorem inX1 : ∀ w ∈ wsX10, w ∈ WA := wa_sub (by decide +kernel) (by decide +kernel)
theorem inX2 : ∀ w ∈ wsX20, w ∈ WA := wa_sub (by decide +kernel) (by decide +kernel)
theorem inX3 : ∀ w ∈ wsX30, w ∈ WA := wa_sub (by decide +kernel) (by decide +kernel)
theorem inX4 : ∀ w ∈ wsX40, w ∈ WA := wa_sub (by decide +kernel) (by decide +kernel)
theorem at_ISE : ∀ w ∈ (vx_atS RX3 42 "java/lang/IllegalStateException" ["java/lang/RuntimeException", "java/lang/Exception"]).filter goodWord, w ∈ WA := wa_sub (by decide +kernel) (by simp only [List.all_filter]; exact List.all_eq_true.mpr (fun w _ => by cases goodWord w <;> rfl))
theorem at_IAE : ∀ w ∈ (vx_atS RX3 195 "java/lang/IllegalArgumentException" ["java/lang/RuntimeException", "java/lang/Exception"]).filter goodWord, w ∈ WA := wa_sub (by decide +kernel) (by simp only [List.all_filter]; exact List.all_eq_true.mpr (fun w _ => by cases goodWord w <;> rfl))
theorem at_IOE : ∀ w ∈ (vx_atS RX3 153 "java/lang/IndexOutOfBoundsException" ["java/lang/RuntimeException", "java/lang/Exception"]).filter goodWord, w ∈ WA := wa_sub (by decide +kernel) (by simp only [List.all_filter]; exact List.all_eq_true.mpr (fun w _ => by cases goodWord w <;> rfl))
theorem at_AE : ∀ w ∈ (vx_atS RX3 140 "java/lang/ArithmeticException" ["java/lang/RuntimeException", "java/lang/Exception"]).filter goodWord, w ∈ WA := wa_sub (by decide +kernel) (by simp only [List.all_filter]; exact List.all_eq_true.mpr (fun w _ => by cases goodWord w <;> rfl))
end
