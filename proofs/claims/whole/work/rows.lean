section
-- ===== PART A: goes FIRST, ahead of the names: the tables' words, and 'selects' of the private methods out of them =====
/-- a private method of a class that the tables say can be made, by its rows of tables_1 -/
def lw_okq (q : MethodName × Nat) : Prop := (q.1.cls ≠ "java/lang/invoke/MethodHandle" ∧ q.1.cls ≠ "java/lang/invoke/VarHandle") ∧ Cond.instantiable q.1.cls q.2 ∈ tables_1 ∧ Cond.privateMethod q.1 ∈ tables_1 ∧ Cond.instanceMethod q.1 ∈ tables_1
theorem lw_p0 : lw_okq (⟨"java/lang/Throwable", "fillInStackTrace", "(I)Ljava/lang/Throwable;"⟩, 6) := ⟨⟨by decide +kernel, by decide +kernel⟩, List.mem_of_getElem? (i := 217) (by decide +kernel), List.mem_of_getElem? (i := 215) (by decide +kernel), List.mem_of_getElem? (i := 216) (by decide +kernel)⟩
theorem lw_p1 : lw_okq (⟨"RangingNet$History", "newestSlot", "()LRangingNet$State;"⟩, 3) := ⟨⟨by decide +kernel, by decide +kernel⟩, List.mem_of_getElem? (i := 68) (by decide +kernel), List.mem_of_getElem? (i := 273) (by decide +kernel), List.mem_of_getElem? (i := 274) (by decide +kernel)⟩
theorem lw_p2 : lw_okq (⟨"RangingNet", "requireNode", "(I)V"⟩, 2) := ⟨⟨by decide +kernel, by decide +kernel⟩, List.mem_of_getElem? (i := 18) (by decide +kernel), List.mem_of_getElem? (i := 331) (by decide +kernel), List.mem_of_getElem? (i := 332) (by decide +kernel)⟩
theorem lw_p3 : lw_okq (⟨"RangingNet$State", "carryOutFirstPlan", "()V"⟩, 4) := ⟨⟨by decide +kernel, by decide +kernel⟩, List.mem_of_getElem? (i := 26) (by decide +kernel), List.mem_of_getElem? (i := 431) (by decide +kernel), List.mem_of_getElem? (i := 432) (by decide +kernel)⟩
theorem lw_p4 : lw_okq (⟨"RangingNet", "requireExchange", "(I)V"⟩, 2) := ⟨⟨by decide +kernel, by decide +kernel⟩, List.mem_of_getElem? (i := 18) (by decide +kernel), List.mem_of_getElem? (i := 450) (by decide +kernel), List.mem_of_getElem? (i := 451) (by decide +kernel)⟩
theorem lw_p5 : lw_okq (⟨"RangingNet", "requireLatest", "(II)I"⟩, 2) := ⟨⟨by decide +kernel, by decide +kernel⟩, List.mem_of_getElem? (i := 18) (by decide +kernel), List.mem_of_getElem? (i := 480) (by decide +kernel), List.mem_of_getElem? (i := 481) (by decide +kernel)⟩
theorem lw_p6 : lw_okq (⟨"RangingNet$State", "lengthOf", "(I)I"⟩, 4) := ⟨⟨by decide +kernel, by decide +kernel⟩, List.mem_of_getElem? (i := 26) (by decide +kernel), List.mem_of_getElem? (i := 500) (by decide +kernel), List.mem_of_getElem? (i := 501) (by decide +kernel)⟩
theorem lw_p7 : lw_okq (⟨"RangingNet", "solve", "(IIIJJI)I"⟩, 2) := ⟨⟨by decide +kernel, by decide +kernel⟩, List.mem_of_getElem? (i := 18) (by decide +kernel), List.mem_of_getElem? (i := 576) (by decide +kernel), List.mem_of_getElem? (i := 577) (by decide +kernel)⟩
theorem lw_p8 : lw_okq (⟨"RangingNetModel", "goes", "(ZZZ)Z"⟩, 4) := ⟨⟨by decide +kernel, by decide +kernel⟩, List.mem_of_getElem? (i := 598) (by decide +kernel), List.mem_of_getElem? (i := 639) (by decide +kernel), List.mem_of_getElem? (i := 640) (by decide +kernel)⟩
theorem lw_p9 : lw_okq (⟨"RangingNetModel", "save", "()V"⟩, 4) := ⟨⟨by decide +kernel, by decide +kernel⟩, List.mem_of_getElem? (i := 598) (by decide +kernel), List.mem_of_getElem? (i := 643) (by decide +kernel), List.mem_of_getElem? (i := 644) (by decide +kernel)⟩
theorem lw_p10 : lw_okq (⟨"RangingNetModel", "isNode", "(I)Z"⟩, 4) := ⟨⟨by decide +kernel, by decide +kernel⟩, List.mem_of_getElem? (i := 598) (by decide +kernel), List.mem_of_getElem? (i := 651) (by decide +kernel), List.mem_of_getElem? (i := 652) (by decide +kernel)⟩
theorem lw_p11 : lw_okq (⟨"RangingNetModel", "of", "(II)J"⟩, 4) := ⟨⟨by decide +kernel, by decide +kernel⟩, List.mem_of_getElem? (i := 598) (by decide +kernel), List.mem_of_getElem? (i := 655) (by decide +kernel), List.mem_of_getElem? (i := 656) (by decide +kernel)⟩
theorem lw_p12 : lw_okq (⟨"RangingNetModel", "distanceOf", "(II)J"⟩, 4) := ⟨⟨by decide +kernel, by decide +kernel⟩, List.mem_of_getElem? (i := 598) (by decide +kernel), List.mem_of_getElem? (i := 676) (by decide +kernel), List.mem_of_getElem? (i := 677) (by decide +kernel)⟩
theorem lw_p13 : lw_okq (⟨"RangingNetModel", "counterAt", "(IJ)J"⟩, 4) := ⟨⟨by decide +kernel, by decide +kernel⟩, List.mem_of_getElem? (i := 598) (by decide +kernel), List.mem_of_getElem? (i := 685) (by decide +kernel), List.mem_of_getElem? (i := 686) (by decide +kernel)⟩
theorem lw_p14 : lw_okq (⟨"RangingNetModel", "carriesOut", "(JIIJJ)V"⟩, 4) := ⟨⟨by decide +kernel, by decide +kernel⟩, List.mem_of_getElem? (i := 598) (by decide +kernel), List.mem_of_getElem? (i := 700) (by decide +kernel), List.mem_of_getElem? (i := 701) (by decide +kernel)⟩
theorem lw_p15 : lw_okq (⟨"RangingNetModel", "waiting", "(I)I"⟩, 4) := ⟨⟨by decide +kernel, by decide +kernel⟩, List.mem_of_getElem? (i := 598) (by decide +kernel), List.mem_of_getElem? (i := 714) (by decide +kernel), List.mem_of_getElem? (i := 715) (by decide +kernel)⟩
def lw_privs_1 : List (MethodName × Nat) := [(⟨"java/lang/Throwable", "fillInStackTrace", "(I)Ljava/lang/Throwable;"⟩, 6), (⟨"RangingNet$History", "newestSlot", "()LRangingNet$State;"⟩, 3), (⟨"RangingNet", "requireNode", "(I)V"⟩, 2), (⟨"RangingNet$State", "carryOutFirstPlan", "()V"⟩, 4), (⟨"RangingNet", "requireExchange", "(I)V"⟩, 2), (⟨"RangingNet", "requireLatest", "(II)I"⟩, 2), (⟨"RangingNet$State", "lengthOf", "(I)I"⟩, 4), (⟨"RangingNet", "solve", "(IIIJJI)I"⟩, 2), (⟨"RangingNetModel", "goes", "(ZZZ)Z"⟩, 4), (⟨"RangingNetModel", "save", "()V"⟩, 4), (⟨"RangingNetModel", "isNode", "(I)Z"⟩, 4), (⟨"RangingNetModel", "of", "(II)J"⟩, 4), (⟨"RangingNetModel", "distanceOf", "(II)J"⟩, 4), (⟨"RangingNetModel", "counterAt", "(IJ)J"⟩, 4), (⟨"RangingNetModel", "carriesOut", "(JIIJJ)V"⟩, 4), (⟨"RangingNetModel", "waiting", "(I)I"⟩, 4)]
theorem lw_r1 : ∀ q ∈ lw_privs_1, lw_okq q := List.forall_mem_cons.mpr ⟨lw_p0, List.forall_mem_cons.mpr ⟨lw_p1, List.forall_mem_cons.mpr ⟨lw_p2, List.forall_mem_cons.mpr ⟨lw_p3, List.forall_mem_cons.mpr ⟨lw_p4, List.forall_mem_cons.mpr ⟨lw_p5, List.forall_mem_cons.mpr ⟨lw_p6, List.forall_mem_cons.mpr ⟨lw_p7, List.forall_mem_cons.mpr ⟨lw_p8, List.forall_mem_cons.mpr ⟨lw_p9, List.forall_mem_cons.mpr ⟨lw_p10, List.forall_mem_cons.mpr ⟨lw_p11, List.forall_mem_cons.mpr ⟨lw_p12, List.forall_mem_cons.mpr ⟨lw_p13, List.forall_mem_cons.mpr ⟨lw_p14, List.forall_mem_cons.mpr ⟨lw_p15, fun _ h => absurd h List.not_mem_nil⟩⟩⟩⟩⟩⟩⟩⟩⟩⟩⟩⟩⟩⟩⟩⟩
theorem lw_p16 : lw_okq (⟨"RangingNetModel", "removes", "(I)V"⟩, 4) := ⟨⟨by decide +kernel, by decide +kernel⟩, List.mem_of_getElem? (i := 598) (by decide +kernel), List.mem_of_getElem? (i := 722) (by decide +kernel), List.mem_of_getElem? (i := 723) (by decide +kernel)⟩
theorem lw_p17 : lw_okq (⟨"RangingNetModel", "isExchange", "(I)Z"⟩, 4) := ⟨⟨by decide +kernel, by decide +kernel⟩, List.mem_of_getElem? (i := 598) (by decide +kernel), List.mem_of_getElem? (i := 738) (by decide +kernel), List.mem_of_getElem? (i := 739) (by decide +kernel)⟩
theorem lw_p18 : lw_okq (⟨"RangingNetModel", "inExchange", "(II)J"⟩, 4) := ⟨⟨by decide +kernel, by decide +kernel⟩, List.mem_of_getElem? (i := 598) (by decide +kernel), List.mem_of_getElem? (i := 742) (by decide +kernel), List.mem_of_getElem? (i := 743) (by decide +kernel)⟩
theorem lw_p19 : lw_okq (⟨"RangingNetModel", "rangeOf", "(II)J"⟩, 4) := ⟨⟨by decide +kernel, by decide +kernel⟩, List.mem_of_getElem? (i := 598) (by decide +kernel), List.mem_of_getElem? (i := 757) (by decide +kernel), List.mem_of_getElem? (i := 758) (by decide +kernel)⟩
theorem lw_p20 : lw_okq (⟨"RangingNetModel", "rawOf", "(II)J"⟩, 4) := ⟨⟨by decide +kernel, by decide +kernel⟩, List.mem_of_getElem? (i := 598) (by decide +kernel), List.mem_of_getElem? (i := 761) (by decide +kernel), List.mem_of_getElem? (i := 762) (by decide +kernel)⟩
theorem lw_p21 : lw_okq (⟨"RangingNetModel", "span", "(III)J"⟩, 4) := ⟨⟨by decide +kernel, by decide +kernel⟩, List.mem_of_getElem? (i := 598) (by decide +kernel), List.mem_of_getElem? (i := 765) (by decide +kernel), List.mem_of_getElem? (i := 766) (by decide +kernel)⟩
theorem lw_p22 : lw_okq (⟨"RangingNetModel", "first", "(I)I"⟩, 4) := ⟨⟨by decide +kernel, by decide +kernel⟩, List.mem_of_getElem? (i := 598) (by decide +kernel), List.mem_of_getElem? (i := 773) (by decide +kernel), List.mem_of_getElem? (i := 774) (by decide +kernel)⟩
theorem lw_p23 : lw_okq (⟨"RangingNetModel", "second", "(I)I"⟩, 4) := ⟨⟨by decide +kernel, by decide +kernel⟩, List.mem_of_getElem? (i := 598) (by decide +kernel), List.mem_of_getElem? (i := 777) (by decide +kernel), List.mem_of_getElem? (i := 778) (by decide +kernel)⟩
theorem lw_p24 : lw_okq (⟨"RangingNetModel", "latestOf", "(II)I"⟩, 4) := ⟨⟨by decide +kernel, by decide +kernel⟩, List.mem_of_getElem? (i := 598) (by decide +kernel), List.mem_of_getElem? (i := 785) (by decide +kernel), List.mem_of_getElem? (i := 786) (by decide +kernel)⟩
theorem lw_p25 : lw_okq (⟨"RangingNetModel", "errorOf", "(II)J"⟩, 4) := ⟨⟨by decide +kernel, by decide +kernel⟩, List.mem_of_getElem? (i := 598) (by decide +kernel), List.mem_of_getElem? (i := 794) (by decide +kernel), List.mem_of_getElem? (i := 795) (by decide +kernel)⟩
theorem lw_p26 : lw_okq (⟨"RangingNetModel", "excess", "(II)J"⟩, 4) := ⟨⟨by decide +kernel, by decide +kernel⟩, List.mem_of_getElem? (i := 598) (by decide +kernel), List.mem_of_getElem? (i := 811) (by decide +kernel), List.mem_of_getElem? (i := 812) (by decide +kernel)⟩
theorem lw_p27 : lw_okq (⟨"RangingNetModel", "right", "(IIII)J"⟩, 4) := ⟨⟨by decide +kernel, by decide +kernel⟩, List.mem_of_getElem? (i := 598) (by decide +kernel), List.mem_of_getElem? (i := 820) (by decide +kernel), List.mem_of_getElem? (i := 821) (by decide +kernel)⟩
theorem lw_p28 : lw_okq (⟨"RangingNetModel", "sums", "(JII)J"⟩, 4) := ⟨⟨by decide +kernel, by decide +kernel⟩, List.mem_of_getElem? (i := 598) (by decide +kernel), List.mem_of_getElem? (i := 835) (by decide +kernel), List.mem_of_getElem? (i := 836) (by decide +kernel)⟩
def lw_privs_2 : List (MethodName × Nat) := [(⟨"RangingNetModel", "removes", "(I)V"⟩, 4), (⟨"RangingNetModel", "isExchange", "(I)Z"⟩, 4), (⟨"RangingNetModel", "inExchange", "(II)J"⟩, 4), (⟨"RangingNetModel", "rangeOf", "(II)J"⟩, 4), (⟨"RangingNetModel", "rawOf", "(II)J"⟩, 4), (⟨"RangingNetModel", "span", "(III)J"⟩, 4), (⟨"RangingNetModel", "first", "(I)I"⟩, 4), (⟨"RangingNetModel", "second", "(I)I"⟩, 4), (⟨"RangingNetModel", "latestOf", "(II)I"⟩, 4), (⟨"RangingNetModel", "errorOf", "(II)J"⟩, 4), (⟨"RangingNetModel", "excess", "(II)J"⟩, 4), (⟨"RangingNetModel", "right", "(IIII)J"⟩, 4), (⟨"RangingNetModel", "sums", "(JII)J"⟩, 4)]
theorem lw_r2 : ∀ q ∈ lw_privs_2, lw_okq q := List.forall_mem_cons.mpr ⟨lw_p16, List.forall_mem_cons.mpr ⟨lw_p17, List.forall_mem_cons.mpr ⟨lw_p18, List.forall_mem_cons.mpr ⟨lw_p19, List.forall_mem_cons.mpr ⟨lw_p20, List.forall_mem_cons.mpr ⟨lw_p21, List.forall_mem_cons.mpr ⟨lw_p22, List.forall_mem_cons.mpr ⟨lw_p23, List.forall_mem_cons.mpr ⟨lw_p24, List.forall_mem_cons.mpr ⟨lw_p25, List.forall_mem_cons.mpr ⟨lw_p26, List.forall_mem_cons.mpr ⟨lw_p27, List.forall_mem_cons.mpr ⟨lw_p28, fun _ h => absurd h List.not_mem_nil⟩⟩⟩⟩⟩⟩⟩⟩⟩⟩⟩⟩⟩
def lw_privs : List (MethodName × Nat) := lw_privs_1 ++ (lw_privs_2)
def lw_tbl : List Cond := k2_sels lw_privs ++ tables_1
theorem lw_privs_ok : ∀ q ∈ lw_privs, lw_okq q := by
  show ∀ q ∈ lw_privs_1 ++ (lw_privs_2), lw_okq q
  exact List.forall_mem_append.mpr ⟨lw_r1, lw_r2⟩
/-- the streams that the claim lets the run draw from -/
abbrev lw_cs : List Choice := [Jvm.Choice.named "NaN.bits"]
theorem lw_bits : nanBits ∈ lw_cs := by first | decide | exact List.mem_cons_self | simp [lw_cs, nanBits]
-- ===== end of PART A; then your names; then what follows =====
end
section
/-! ===== BEGIN words of one list among another's, by their places ===== -/
theorem goodIn_r {big : List Cond} (ws : List Cond) (ps : List Nat) (hp : ws = ps.filterMap (fun i => big[i]?)) (h : ws.all goodWord = true) : GoodIn big ws := by
  intro w hw
  have h1 := List.all_eq_true.mp h w hw
  rw [hp] at hw
  obtain ⟨i, -, hi⟩ := List.mem_filterMap.mp hw
  have hm : w ∈ big := by first | exact List.mem_of_getElem? hi | exact List.getElem?_mem hi
  exact ⟨hm, good_of_word h1⟩
theorem goodIn_app {big a b : List Cond} (ha : GoodIn big a) (hb : GoodIn big b) : GoodIn big (a ++ b) := fun w h => (List.mem_append.mp h).elim (ha w) (hb w)
theorem goodIn_ca {big a b : List Cond} {c : Cond} (ha : GoodIn big (c :: a)) (hb : GoodIn big b) : GoodIn big (c :: (a ++ b)) := fun w h => (List.mem_cons.mp h).elim (fun e => ha w (List.mem_cons.mpr (Or.inl e))) (fun h => (List.mem_append.mp h).elim (fun h => ha w (List.mem_cons.mpr (Or.inr h))) (hb w))
theorem goodIn_sub {big ws : List Cond} (hm : ∀ w ∈ ws, w ∈ big) (h : ws.all goodWord = true) : GoodIn big ws := fun w hw => ⟨hm w hw, good_of_word (List.all_eq_true.mp h w hw)⟩
/-! ===== END ===== -/

/-! ===== BEGIN exceptions that leave a method, and their catching by the caller (launches without stack traces) ===== -/
section VXA
/-! The laws vx_back, vx_callV, vx_callS, vx_callSW, vx_throw0, vx_throwS follow proofs of the library, with one case more: JvmDerived/Free/Laws.lean (Back.of_free), Shelf42/LK1.lean (callV, callS), Shelf/KitTraced.lean (throwNew0V, throwNewS). -/
/-- where a method has thrown q: the class by its name, the cell, what was written, the world -/
def vx_T (XC : String → State → State → Prop) (st : State) (q : Addr) (t : State) (mc ms : Nat) (free : Addr → Prop) : Prop :=
  ∃ (E : String) (ce : Cell) (L : List Loc), XC E st t ∧ t.heap[q]? = some ce ∧ ce.vm = .none ∧ st.vm.findClass E = some ce.cls ∧ st.WarmedH t.vm ∧ st.sameButNew ({ t with vm := st.vm } : State) L mc ms ∧ ∀ z ∈ L, free z.base
def vx_Q (Qc : Array Value → State → Outcome → State → Prop) (XC : String → State → State → Prop) (mc ms : Nat) (free : Addr → Prop) : Array Value → State → Outcome → State → Prop := fun a st o t =>
  (Qc a st o t ∧ ∃ L, FrameEnd st o t L mc ms ∧ ∀ q ∈ L, free q.base) ∨ ∃ q, o = .threw q ∧ vx_T XC st q t mc ms free
/-- a callee that returns or throws -/
def vx_Met (l : Launch) (y : MethodName) (ws : List Cond) (rm : Room) (Pc : Array Value → State → Prop) (Qc : Array Value → State → Outcome → State → Prop) (XC : String → State → State → Prop) (mc ms : Nat) (free : Addr → Prop) : Prop :=
  MetFree l y (headSpec ws rm) Pc (fun _ _ _ _ _ => True) (vx_Q Qc XC mc ms free)
def vx_Post (XC : String → State → State → Prop) (mc ms : Nat) (free : Addr → Prop) : Pt → Array Value → Addr → Pt → Prop := fun A a q B =>
  ∃ (g : JFrame) (mk : MethodId) (t : State) (L : List Loc) (E : String) (ce : Cell), B.U.heap = t.heap ∧ B.U.vm = t.vm ∧ XC E (A.U.calling g mk a) t ∧ t.heap[q]? = some ce ∧ ce.vm = .none ∧ A.U.vm.findClass E = some ce.cls ∧ B.locs = A.locs ++ L ∧ (∀ z ∈ L, free z.base) ∧ B.cells = A.cells + mc ∧ B.slots = A.slots + ms
def vx_Back (l : Launch) (R : Room) (p : Program) (e : Env) (below : List Frame) (s : State) (sargs : Array Value) (y : MethodName) (len W9 : Nat)
    (Pre : Pt → Array Value → Prop) (Post : Pt → Array Value → Option Value → Pt → Prop) (PostX : Pt → Array Value → Addr → Pt → Prop) : Prop :=
  ∀ (m : MethodId) (meth : Method) (c : Code) (A : Pt) (g : JFrame) (ig : Instr) (mk : MethodId) (a : Array Value),
    Stand p l e R s m sargs below meth c A.U A.locs A.cells A.slots → g.method = m → g.locals.size = c.maxLocals → decode c.code g.pc = .ok (ig, len) →
    2 * g.monitorRoom + (g.stack.map fun v => v.category).sum ≤ W9 → A.U.methodNamed? y = some mk → Pre A a →
    (∃ (v : Option Value) (B : Pt), Stand p l e R s m sargs below meth c B.U B.locs B.cells B.slots ∧ Post A a v B ∧
      Steps p.tables e below (doInvoke e (A.U.setTop g) [] mk a).1 (B.U.setTop { g with pc := g.pc + len, stack := v.toList ++ g.stack })) ∨
    (∃ (q : Addr) (B : Pt), Stand p l e R s m sargs below meth c B.U B.locs B.cells B.slots ∧ PostX A a q B ∧
      Steps p.tables e below (doInvoke e (A.U.setTop g) [] mk a).1 ((B.U.setTop g).pushFrame (.throwing q)))
section Payer
variable {l : Launch} {R : Room} {p : Program} {e : Env} {below : List Frame} {s : State} {sargs : Array Value} {y : MethodName} {len W9 : Nat}
theorem vx_back {ws : List Cond} {rm : Room} {Pc : Array Value → State → Prop} {Qc : Array Value → State → Outcome → State → Prop} {XC : String → State → State → Prop} {mc ms : Nat} {free : Addr → Prop} {bytes : ByteArray} {maxL : Nat} {ret : Option FieldType}
    (hM : vx_Met l y ws rm Pc Qc XC mc ms free) (hblind : FrameBlind Pc) (hrc : rm.cells = mc) (hrs : rm.slots = ms)
    (hframes : rm.frames + 1 ≤ R.frames) (hlocals : W9 + (maxL + 11) + rm.locals ≤ R.locals)
    (hws : ∀ w ∈ ws, ∀ a' U, s.WarmedH U.vm → w.before a' U = true) (hcode : Cond.code y bytes maxL ret ∈ ws) (hinit : ∀ a' U, s.WarmedH U.vm → (Cond.initialized y.cls).before a' U = true) :
    vx_Back l R p e below s sargs y len W9 (PreOf R mc ms Pc) (PostOf Qc mc ms free) (vx_Post XC mc ms free) := by
  intro m meth c A g ig mk a X hg hsize hdg hW hn hp
  have h1 : (headSpec ws rm).pre.before a A.U = true := atoms_intro fun w hw => hws w hw _ _ X.warmed
  have h2 : (Cond.code y bytes maxL ret).before a A.U = true := hws _ hcode _ _ X.warmed
  have h3 : (Cond.initialized y.cls).before a A.U = true := hinit _ _ X.warmed
  have h4 : A.cells + (headSpec ws rm).room.cells ≤ R.cells := by rw [show (headSpec ws rm).room.cells = mc from hrc]; exact hp.1
  have h5 : A.slots + (headSpec ws rm).room.slots ≤ R.slots := by rw [show (headSpec ws rm).room.slots = ms from hrs]; exact hp.2.1
  have hPc : Pc a (A.U.calling g mk a) := hblind _ _ _ _ hp.2.2
  obtain ⟨U, Ls, c0, s0⟩ := A
  dsimp only [Pt.U, Pt.locs, Pt.cells, Pt.slots] at h1 h2 h3 h4 h5 X hn hPc ⊢
  obtain ⟨methY, cY, hmY, hcY, -, hlY, -, -, -, -⟩ := Cond.code_spec hn h2
  obtain ⟨kY, hkY, -⟩ := className_of_methodNamed hn
  have hinitY : kY.init = .initialized := Cond.initialized_spec (findClass_of_methodNamed hn) hkY h3
  have h : At U g.method c below := by rw [hg]; exact X.here
  have hlocals9 : W9 + (maxL + 11) + (headSpec ws rm).room.locals ≤ R.locals := hlocals
  have happ : (headSpec ws rm).appliesLoose y e.platform (U.calling g mk a) = true :=
    Spec.appliesLoose_calling (g := g) h hdg hn hkY hinitY
      (X.room_calling (g := g) (R' := (headSpec ws rm).room) hsize hmY hcY hframes (by rw [hlY]; omega) h4 h5) h1
  obtain ⟨mid, hmid⟩ := h.above
  have hfr : (U.setTop g).frames = (.java g :: mid) ++ below := by rw [State.frames_setTop' g h.top, hmid]; rfl
  obtain ⟨o, s₂, hsteps, -, hend, hq⟩ := Steps.callFree hM p X.admits X.cas X.clock (acts := []) hfr happ hPc trivial
  have hq' : vx_Q Qc XC mc ms free a (U.calling g mk a) o s₂ := hq
  rw [State.frames_setTop' g h.top] at hend
  obtain ⟨g₀, hg0⟩ := Option.isSome_iff_exists.mp h.top
  obtain ⟨r, hr⟩ := State.topJava?_eq_some.mp hg0
  have hr' : (({ U with heap := s₂.heap, slotsUsed := s₂.slotsUsed } : State).setVm s₂.vm).frames = .java g₀ :: r := hr
  rcases hq' with ⟨hqc, L, hfe, hL⟩ | ⟨q, rfl, E, ce, L, hx, hce, hcv, hcl, hW₂, hsm, hL⟩
  · obtain ⟨⟨v, rfl⟩, hW₂, e2, q2, q3, q4, q5, q6⟩ := id hfe
    have e3 : s₂ = ({ (U.calling g mk a).setFrames s₂.frames with heap := s₂.heap, slotsUsed := s₂.slotsUsed } : State).setVm s₂.vm := by
      have : s₂ = ({ s₂ with vm := (U.calling g mk a).vm } : State).setVm s₂.vm := rfl
      rw [e2] at this
      exact this
    obtain ⟨c₂, i₂, len₂, hc₂, hd₂, hf₂⟩ := hend
    have hW' : U.WarmedH s₂.vm := hW₂
    have hcc : c₂ = c := by
      have h1 : s₂.code? g.method = U.code? g.method := by
        rw [State.code?_eq, State.code?_eq, hW'.alike.method?]
      exact Option.some.inj (hc₂.symm.trans (h1.trans h.code))
    subst hcc
    have hlen : len₂ = len := by rw [hdg] at hd₂; cases hd₂; rfl
    subst hlen
    have hs₂ : s₂ = (({ U with heap := s₂.heap, slotsUsed := s₂.slotsUsed } : State).setVm s₂.vm).setTop { g with pc := g.pc + len₂, stack := v.toList ++ g.stack } := by
      refine e3.trans ?_
      rw [hf₂, State.calling_eq h.top, State.setFrames_setFrames, State.setTop_of_frames _ hr', hr]
      rfl
    have hsame : U.sameButNew ({ U with heap := s₂.heap, slotsUsed := s₂.slotsUsed } : State) L mc ms := by
      refine ⟨?_, q2, q3, q4, q5, q6⟩
      obtain ⟨t, ht, -⟩ := State.frames_cons hr
      show ({ U with heap := s₂.heap, slotsUsed := s₂.slotsUsed } : State) = { U.setFrames U.frames with heap := s₂.heap, slotsUsed := s₂.slotsUsed }
      rw [State.setFrames_self ht]
    subst hg
    refine Or.inl ⟨v, ⟨(({ U with heap := s₂.heap, slotsUsed := s₂.slotsUsed } : State).setVm s₂.vm), Ls ++ L, c0 + mc, s0 + ms⟩,
      ⟨X.admits, X.cas, X.clock, X.frames, X.room, X.hears, X.method, X.code, (X.here.setHeapUsed s₂.heap s₂.slotsUsed).setVm hW'.alike, X.tail, State.WarmedH.trans X.warmed hW', X.limits, X.bytes, X.same.trans (hsame.setVm s.vm)⟩,
      ⟨g, mk, s₂, L, rfl, rfl, hqc, rfl, hL, rfl, rfl⟩, ?_⟩
    show Steps p.tables e below _ ((({ U with heap := s₂.heap, slotsUsed := s₂.slotsUsed } : State).setVm s₂.vm).setTop { g with pc := g.pc + len₂, stack := v.toList ++ g.stack })
    rw [← hs₂]
    exact hsteps
  · obtain ⟨e2, q2, q3, q4, q5, q6⟩ := id hsm
    have e3 : s₂ = ({ (U.calling g mk a).setFrames s₂.frames with heap := s₂.heap, slotsUsed := s₂.slotsUsed } : State).setVm s₂.vm := by
      have : s₂ = ({ s₂ with vm := (U.calling g mk a).vm } : State).setVm s₂.vm := rfl
      rw [e2] at this
      exact this
    have hf₂ : s₂.frames = .throwing q :: .java g :: U.frames.tail := hend
    have hW' : U.WarmedH s₂.vm := hW₂
    have hs₂ : s₂ = ((({ U with heap := s₂.heap, slotsUsed := s₂.slotsUsed } : State).setVm s₂.vm).setTop g).pushFrame (.throwing q) := by
      refine e3.trans ?_
      rw [hf₂, State.calling_eq h.top, State.setFrames_setFrames, State.pushFrame, State.frames_setTop _ hr', State.setTop_of_frames _ hr', State.setFrames_setFrames, hr]
      rfl
    have hsame : U.sameButNew ({ U with heap := s₂.heap, slotsUsed := s₂.slotsUsed } : State) L mc ms := by
      refine ⟨?_, q2, q3, q4, q5, q6⟩
      obtain ⟨t, ht, -⟩ := State.frames_cons hr
      show ({ U with heap := s₂.heap, slotsUsed := s₂.slotsUsed } : State) = { U.setFrames U.frames with heap := s₂.heap, slotsUsed := s₂.slotsUsed }
      rw [State.setFrames_self ht]
    subst hg
    refine Or.inr ⟨q, ⟨(({ U with heap := s₂.heap, slotsUsed := s₂.slotsUsed } : State).setVm s₂.vm), Ls ++ L, c0 + mc, s0 + ms⟩,
      ⟨X.admits, X.cas, X.clock, X.frames, X.room, X.hears, X.method, X.code, (X.here.setHeapUsed s₂.heap s₂.slotsUsed).setVm hW'.alike, X.tail, State.WarmedH.trans X.warmed hW', X.limits, X.bytes, X.same.trans (hsame.setVm s.vm)⟩,
      ⟨g, mk, s₂, L, E, ce, rfl, rfl, hx, hce, hcv, hcl, rfl, hL, rfl, rfl⟩, ?_⟩
    show Steps p.tables e below _ (((({ U with heap := s₂.heap, slotsUsed := s₂.slotsUsed } : State).setVm s₂.vm).setTop g).pushFrame (.throwing q))
    rw [← hs₂]
    exact hsteps
end Payer
section Calls
variable {p : Program} {l : Launch} {e : Env} {R : Room} {s : State} {m : MethodId} {args : Array Value} {below : List Frame} {meth : Method} {c : Code} {T : State} {locs : List Loc} {cells slots : Nat}
theorem vx_callV (X : Stand p l e R s m args below meth c T locs cells slots) (hexec : p.tables.exec = Jvm.exec) {own C : String} {index : Nat} {y : MethodName} {bytes : ByteArray} {maxL : Nat} {ret : Option FieldType}
    (hown : s.vm.findClass own = some m.cls) (hlink : (Cond.methodLink own index y).before args s = true) (hinst : (Cond.instanceMethod y).before args s = true) (hsel : (Cond.selects C y y).before args s = true)
    (hcode : (Cond.code y bytes maxL ret).before args s = true) (hy : y.cls ≠ "java/lang/invoke/MethodHandle" ∧ y.cls ≠ "java/lang/invoke/VarHandle")
    {W9 : Nat} {Pre : Pt → Array Value → Prop} {Post : Pt → Array Value → Option Value → Pt → Prop} {PostX : Pt → Array Value → Addr → Pt → Prop} (hK : vx_Back l R p e below s args y 3 W9 Pre Post PostX)
    {b : Addr} {cellB : Cell} (hcell : T.heap[b]? = some cellB) (hobj : cellB.vm.isStatics = false) (hcls : s.vm.findClass C = some cellB.cls)
    {g : JFrame} (hg : g.method = m) (hsize : g.locals.size = c.maxLocals) {argsL rest : List Value} (hlen : ∀ sig, parseMethodDescriptor y.desc = some sig → argsL.length = sig.parameters.length)
    (hstack : g.stack = argsL.reverse ++ .ref b :: rest) (hW : 2 * g.monitorRoom + (rest.map fun v => v.category).sum ≤ W9) (hdg : decode c.code g.pc = .ok (.invokevirtual index, 3))
    (hpre : ∀ vm₁, s.WarmedH vm₁ → Pre ⟨T.setVm vm₁, locs, cells, slots⟩ (Value.ref b :: argsL).toArray) :
    (∃ (v : Option Value) (vm₁ : Vm) (B : Pt), s.WarmedH vm₁ ∧ Stand p l e R s m args below meth c B.U B.locs B.cells B.slots ∧ Post ⟨T.setVm vm₁, locs, cells, slots⟩ (Value.ref b :: argsL).toArray v B ∧
      ∀ target, Steps p.tables e below (B.U.setTop { g with pc := g.pc + 3, stack := v.toList ++ rest }) target → Steps p.tables e below (T.setTop g) target) ∨
    (∃ (q : Addr) (vm₁ : Vm) (B : Pt), s.WarmedH vm₁ ∧ Stand p l e R s m args below meth c B.U B.locs B.cells B.slots ∧ PostX ⟨T.setVm vm₁, locs, cells, slots⟩ (Value.ref b :: argsL).toArray q B ∧
      Steps p.tables e below (T.setTop g) ((B.U.setTop { g with stack := rest }).pushFrame (.throwing q))) := by
  obtain ⟨mk, methM, hnamed, hmethM, hstM, habM⟩ := Cond.instanceMethod_spec hinst
  obtain ⟨methM', cM, hmethM', -, -, -, -, -, -, hsigM⟩ := Cond.code_spec hnamed hcode
  cases hmethM.symm.trans hmethM'
  obtain ⟨c2, r2, m2, q1, q2, q3, q4, kP, hkP, hkPi⟩ := Cond.selects_spec hsel
  cases hcls.symm.trans q1
  cases (State.methodFound?_of_named hnamed hy).symm.trans q2
  cases hnamed.symm.trans q3
  have hselP : selectMethod e.platform s.vm cellB.cls mk = .method mk := by rw [Launch.admits_selectMethod X.admits]; exact q4
  obtain ⟨vm₁, X₁, hstep₁⟩ := X.invokevirtual hexec hown hlink hnamed hmethM hstM hkP hkPi hy (a := b) (cell := cellB) hcell
    (fun z h => by rw [h] at hobj; cases hobj) hselP hmethM habM hkP hkPi (g := g) hg (argsL := argsL) (rest := rest) (hlen _ hsigM) hstack hdg
  rcases hK m meth c ⟨T.setVm vm₁, locs, cells, slots⟩ { g with stack := rest } (.invokevirtual index) mk (Value.ref b :: argsL).toArray X₁ hg hsize hdg hW (X₁.named hnamed) (hpre vm₁ X₁.warmed) with ⟨v, B, X', hpost, hsteps⟩ | ⟨q, B, X', hpost, hsteps⟩
  · exact Or.inl ⟨v, vm₁, B, X₁.warmed, X', hpost, fun target h => hstep₁ _ fun acts => by rw [doInvoke_state]; exact hsteps.trans h⟩
  · exact Or.inr ⟨q, vm₁, B, X₁.warmed, X', hpost, hstep₁ _ fun acts => by rw [doInvoke_state]; exact hsteps⟩
theorem vx_callS (X : Stand p l e R s m args below meth c T locs cells slots) (hexec : p.tables.exec = Jvm.exec) {own : String} {index : Nat} {y : MethodName} {bytes : ByteArray} {maxL : Nat} {ret : Option FieldType}
    (hown : s.vm.findClass own = some m.cls) (hlink : (Cond.methodLink own index y).before args s = true) (hstat : (Cond.static y).before args s = true) (hinit : (Cond.initialized y.cls).before args s = true)
    (hcode : (Cond.code y bytes maxL ret).before args s = true) (hy : y.cls ≠ "java/lang/invoke/MethodHandle" ∧ y.cls ≠ "java/lang/invoke/VarHandle")
    {W9 : Nat} {Pre : Pt → Array Value → Prop} {Post : Pt → Array Value → Option Value → Pt → Prop} {PostX : Pt → Array Value → Addr → Pt → Prop} (hK : vx_Back l R p e below s args y 3 W9 Pre Post PostX)
    {g : JFrame} (hg : g.method = m) (hsize : g.locals.size = c.maxLocals) {argsL rest : List Value} (hlen : ∀ sig, parseMethodDescriptor y.desc = some sig → argsL.length = sig.parameters.length)
    (hstack : g.stack = argsL.reverse ++ rest) (hW : 2 * g.monitorRoom + (rest.map fun v => v.category).sum ≤ W9) (hdg : decode c.code g.pc = .ok (.invokestatic index, 3))
    (hpre : ∀ vm₁, s.WarmedH vm₁ → Pre ⟨T.setVm vm₁, locs, cells, slots⟩ argsL.toArray) :
    (∃ (v : Option Value) (vm₁ : Vm) (B : Pt), s.WarmedH vm₁ ∧ Stand p l e R s m args below meth c B.U B.locs B.cells B.slots ∧ Post ⟨T.setVm vm₁, locs, cells, slots⟩ argsL.toArray v B ∧
      ∀ target, Steps p.tables e below (B.U.setTop { g with pc := g.pc + 3, stack := v.toList ++ rest }) target → Steps p.tables e below (T.setTop g) target) ∨
    (∃ (q : Addr) (vm₁ : Vm) (B : Pt), s.WarmedH vm₁ ∧ Stand p l e R s m args below meth c B.U B.locs B.cells B.slots ∧ PostX ⟨T.setVm vm₁, locs, cells, slots⟩ argsL.toArray q B ∧
      Steps p.tables e below (T.setTop g) ((B.U.setTop { g with stack := rest }).pushFrame (.throwing q))) := by
  obtain ⟨mk, hnamed⟩ := Cond.code_named hcode
  obtain ⟨methM, cM, hmethM, -, -, -, -, -, -, hsigM⟩ := Cond.code_spec hnamed hcode
  have hstatic : methM.isStatic = true := Cond.static_spec hnamed hmethM hstat
  obtain ⟨kP, hkP, -⟩ := className_of_methodNamed hnamed
  have hinitP : kP.init = .initialized := Cond.initialized_spec (findClass_of_methodNamed hnamed) hkP hinit
  obtain ⟨vm₁, X₁, hstep₁⟩ := X.invokestatic hexec hown hlink hnamed hmethM hstatic hkP hinitP hy (g := g) hg (argsL := argsL) (rest := rest) (hlen _ hsigM) hstack hdg
  rcases hK m meth c ⟨T.setVm vm₁, locs, cells, slots⟩ { g with stack := rest } (.invokestatic index) mk argsL.toArray X₁ hg hsize hdg hW (X₁.named hnamed) (hpre vm₁ X₁.warmed) with ⟨v, B, X', hpost, hsteps⟩ | ⟨q, B, X', hpost, hsteps⟩
  · exact Or.inl ⟨v, vm₁, B, X₁.warmed, X', hpost, fun target h => hstep₁ _ fun acts => by rw [doInvoke_state]; exact hsteps.trans h⟩
  · exact Or.inr ⟨q, vm₁, B, X₁.warmed, X', hpost, hstep₁ _ fun acts => by rw [doInvoke_state]; exact hsteps⟩
end Calls
theorem vx_cls {s : State} {T : State} {vm₁ : Vm} {E : String} {k : ClassId} (hW : s.WarmedH vm₁) (h : (T.setVm vm₁).vm.findClass E = some k) : s.vm.findClass E = some k := by
  have h1 : vm₁.findClass E = some k := h
  rw [hW.alike.findClass] at h1
  exact h1
/-- the method's frame g, with q thrown over it -/
def vx_W (p : Program) (l : Launch) (e : Env) (R : Room) (s : State) (m : MethodId) (args : Array Value) (below : List Frame) (meth : Method) (c : Code) (H : Heap) (locs : List Loc) (cells slots : Nat) (Q : State → Prop) (g : JFrame) (q : Addr) : Prop :=
  ∀ T : State, T.heap = H → Stand p l e R s m args below meth c T locs cells slots → ∃ t, Steps p.tables e below ((T.setTop g).pushFrame (.throwing q)) t ∧ Q t
def vx_Run (p : Program) (l : Launch) (e : Env) (R : Room) (s : State) (m : MethodId) (args : Array Value) (below : List Frame) (meth : Method) (c : Code) (H : Heap) (locs : List Loc) (cells slots mc ms : Nat) (g : JFrame) (rest : List Value) (Qa : State → Outcome → State → Prop) (XC : String → State → State → Prop) (free : Addr → Prop) : Prop :=
  ∀ T : State, T.heap = H → Stand p l e R s m args below meth c T locs cells slots →
    (∃ (v : Option Value) (st₀ t T' : State) (L : List Loc), st₀.heap = H ∧ Stand p l e R s m args below meth c T' (locs ++ L) (cells + mc) (slots + ms) ∧ (∀ q ∈ L, free q.base) ∧ T'.heap = t.heap ∧ T'.vm = t.vm ∧ Qa st₀ (.returned v) t ∧
      Goes p e below T g T' { g with pc := g.pc + 3, stack := v.toList ++ rest }) ∨
    (∃ (q : Addr) (st₀ t T' : State) (L : List Loc) (E : String) (ce : Cell), st₀.heap = H ∧ Stand p l e R s m args below meth c T' (locs ++ L) (cells + mc) (slots + ms) ∧ (∀ z ∈ L, free z.base) ∧ T'.heap = t.heap ∧ T'.vm = t.vm ∧ XC E st₀ t ∧ t.heap[q]? = some ce ∧ ce.vm = .none ∧ s.vm.findClass E = some ce.cls ∧
      Steps p.tables e below (T.setTop g) ((T'.setTop { g with stack := rest }).pushFrame (.throwing q)))
def vx_X {S : Type} (px : S → Prop) (B : String → S → State → Prop) (A : Nat → Prop) : String → State → State → Prop := fun E st t => ∃ u : S, px u ∧ B E u t ∧ va_F A st t
section Runs
variable {p : Program} {l : Launch} {e : Env} {R : Room} {s : State} {m : MethodId} {args : Array Value} {below : List Frame} {meth : Method} {c : Code} {H : Heap} {locs : List Loc} {cells slots : Nat}
variable {y : MethodName} {bytes cc : ByteArray} {maxL nL mc ms n index : Nat} {ret : Option FieldType} {ws : List Cond} {rm : Room} {Pc : Array Value → State → Prop} {Qc : Array Value → State → Outcome → State → Prop} {XC : String → State → State → Prop} {free : Addr → Prop} {Ts : List Cond} {own C : String} {b : Addr} {As rest : List Value} {g : JFrame}
theorem vx_callBack (cb : CallB R s args own index y bytes maxL ret ws rm mc ms n) (hM : vx_Met l y ws rm Pc Qc XC mc ms free) (hbl : FrameBlind Pc) : vx_Back l R p e below s args y 3 8 (PreOf R mc ms Pc) (PostOf Qc mc ms free) (vx_Post XC mc ms free) := by
  obtain ⟨hrc, hrs, hfr, hlo, hws, hcw, -, hini, -⟩ := cb
  exact vx_back (bytes := bytes) (maxL := maxL) (ret := ret) hM hbl hrc hrs hfr hlo hws hcw (fun a' U hW => word_at hW (Or.inl (by first | rfl | simp [Cond.onTables, Cond.keeps, Cond.steady])) hini)
theorem vx_runV (S : CallFix p m c cc nL s args Ts own) (hM : vx_Met l y ws rm Pc Qc XC mc ms free) (cw : CallW R s args own C index y bytes maxL ret ws rm mc ms n) (hp : PreV s H C b Pc As)
    (hg : g.method = m) (hn : As.length = n) (hsize : g.locals.size = nL) (hstack : g.stack = As.reverse ++ .ref b :: rest) (hW : 2 * g.monitorRoom + (rest.map fun v => v.category).sum ≤ 8) (hdg : decode cc g.pc = .ok (.invokevirtual index, 3)) (hf : cells + mc ≤ R.cells ∧ slots + ms ≤ R.slots) :
    vx_Run p l e R s m args below meth c H locs cells slots mc ms g rest (Qc (Value.ref b :: As).toArray) XC free := by
  have hK : vx_Back l R p e below s args y 3 8 (PreOf R mc ms Pc) (PostOf Qc mc ms free) (vx_Post XC mc ms free) := vx_callBack cw.1 hM hp.1
  obtain ⟨⟨-, -, -, -, -, -, hcode, -, hy, hlen, hl⟩, hin, hse⟩ := cw
  obtain ⟨hx, hb, hml, ho, -⟩ := S
  obtain ⟨-, ⟨cellB, hcB, hoB, hclB⟩, hPc⟩ := hp
  intro T hT X
  rcases vx_callV X hx (C := C) (bytes := bytes) (maxL := maxL) (ret := ret) ho hl hin hse hcode hy hK (by rw [hT]; exact hcB) hoB hclB hg (hsize.trans hml.symm) (argsL := As) (rest := rest) (fun sig h => hn.trans (hlen sig h)) hstack hW (by rw [hb]; exact hdg)
    (fun vm₁ hW₁ => ⟨hf.1, hf.2, hPc (T.setVm vm₁) hT hW₁⟩) with ⟨v, vm₁, ⟨U', l2, c2, s2⟩, hW₁, X', ⟨g', mk, t, L, e1, e2, hq, h1, hL, h2, h3⟩, st⟩ | ⟨q, vm₁, ⟨U', l2, c2, s2⟩, hW₁, X', ⟨g', mk, t, L, E, ce, e1, e2, hq, hce, hcv, hcl, h1, hL, h2, h3⟩, st⟩
  · dsimp only [Pt.U, Pt.locs, Pt.cells, Pt.slots] at X' e1 e2 h1 h2 h3 st
    subst h1; subst h2; subst h3
    exact Or.inl ⟨v, (T.setVm vm₁).calling g' mk (Value.ref b :: As).toArray, t, U', L, hT, X', hL, e1, e2, hq, st⟩
  · dsimp only [Pt.U, Pt.locs, Pt.cells, Pt.slots] at X' e1 e2 h1 h2 h3 st hcl
    subst h1; subst h2; subst h3
    exact Or.inr ⟨q, (T.setVm vm₁).calling g' mk (Value.ref b :: As).toArray, t, U', L, E, ce, hT, X', hL, e1, e2, hq, hce, hcv, vx_cls hW₁ hcl, st⟩
theorem vx_runS (S : CallFix p m c cc nL s args Ts own) (hM : vx_Met l y ws rm Pc Qc XC mc ms free) (cw : CallB R s args own index y bytes maxL ret ws rm mc ms n ∧ (Cond.static y).before args s = true) (hp : PreS s H Pc As)
    (hg : g.method = m) (hn : As.length = n) (hsize : g.locals.size = nL) (hstack : g.stack = As.reverse ++ rest) (hW : 2 * g.monitorRoom + (rest.map fun v => v.category).sum ≤ 8) (hdg : decode cc g.pc = .ok (.invokestatic index, 3)) (hf : cells + mc ≤ R.cells ∧ slots + ms ≤ R.slots) :
    vx_Run p l e R s m args below meth c H locs cells slots mc ms g rest (Qc As.toArray) XC free := by
  have hK : vx_Back l R p e below s args y 3 8 (PreOf R mc ms Pc) (PostOf Qc mc ms free) (vx_Post XC mc ms free) := vx_callBack cw.1 hM hp.1
  obtain ⟨⟨-, -, -, -, -, -, hcode, hini, hy, hlen, hl⟩, hstt⟩ := cw
  obtain ⟨hx, hb, hml, ho, -⟩ := S
  intro T hT X
  rcases vx_callS X hx (bytes := bytes) (maxL := maxL) (ret := ret) ho hl hstt hini hcode hy hK hg (hsize.trans hml.symm) (argsL := As) (rest := rest) (fun sig h => hn.trans (hlen sig h)) hstack hW (by rw [hb]; exact hdg)
    (fun vm₁ hW₁ => ⟨hf.1, hf.2, hp.2 (T.setVm vm₁) hT hW₁⟩) with ⟨v, vm₁, ⟨U', l2, c2, s2⟩, hW₁, X', ⟨g', mk, t, L, e1, e2, hq, h1, hL, h2, h3⟩, st⟩ | ⟨q, vm₁, ⟨U', l2, c2, s2⟩, hW₁, X', ⟨g', mk, t, L, E, ce, e1, e2, hq, hce, hcv, hcl, h1, hL, h2, h3⟩, st⟩
  · dsimp only [Pt.U, Pt.locs, Pt.cells, Pt.slots] at X' e1 e2 h1 h2 h3 st
    subst h1; subst h2; subst h3
    exact Or.inl ⟨v, (T.setVm vm₁).calling g' mk As.toArray, t, U', L, hT, X', hL, e1, e2, hq, st⟩
  · dsimp only [Pt.U, Pt.locs, Pt.cells, Pt.slots] at X' e1 e2 h1 h2 h3 st hcl
    subst h1; subst h2; subst h3
    exact Or.inr ⟨q, (T.setVm vm₁).calling g' mk As.toArray, t, U', L, E, ce, hT, X', hL, e1, e2, hq, hce, hcv, vx_cls hW₁ hcl, st⟩
end Runs
section Rows
variable {p : Program} {l : Launch} {e : Env} {R : Room} {s : State} {m : MethodId} {args : Array Value} {below : List Frame} {meth : Method} {c : Code} {H : Heap} {locs : List Loc} {cells slots : Nat} {Q : State → Prop}
variable {mc ms : Nat} {free : Addr → Prop} {A0 A1 : Nat → Prop} {H0 : Heap} {a : Array Value} {pc : Nat} {ls : Array Slot} {st0 rest : List Value}
theorem vx_keep {st₀ t T' : State} {L : List Loc} (h0 : st₀.heap = H) (e1 : T'.heap = t.heap) (hS : va_S A0 H0 H locs) (hA : ∀ q, q < H.size → A1 q → A0 q) (hf : ∀ q, free q → A0 q) (hL : ∀ q ∈ L, free q.base) (hF : va_F A1 st₀ t) :
    H.size ≤ T'.heap.size ∧ (∀ q : Nat, q < H.size → ¬ A1 q → T'.heap[q]? = H[q]?) ∧ va_S A0 H0 T'.heap (locs ++ L) := by
  obtain ⟨hz, hk⟩ := hF
  rw [h0] at hz hk
  exact ⟨by rw [e1]; exact hz, fun q h1 h2 => by rw [e1]; exact hk q h1 h2,
    ⟨Nat.le_trans hS.1 (by rw [e1]; exact hz), fun q h1 h2 => by rw [e1, hk q (Nat.lt_of_lt_of_le h1 hS.1) (fun z => h2 (hA q (Nat.lt_of_lt_of_le h1 hS.1) z))]; exact hS.2.1 q h1 h2, fun q hq => by
      rcases List.mem_append.mp hq with h | h
      · exact hS.2.2 q h
      · exact hf _ (hL q h)⟩⟩
theorem vx_calli {S SX : Type} {post : Int32 → S → Prop} {px : SX → Prop} {B : S → State → Prop} {BX : String → SX → State → Prop} {AX : Nat → Prop} (hr : vx_Run p l e R s m args below meth c H locs cells slots mc ms (F0 m pc ls st0) rest (va_Qi post B A1 a) (vx_X px BX AX) free) (hS : va_S A0 H0 H locs) (hA : ∀ q, q < H.size → A1 q → A0 q) (hf : ∀ q, free q → A0 q) (hAX : ∀ q, q < H.size → AX q → A0 q)
    (kx : ∀ (E : String) (ce : Cell) (q9 : Addr) (u : SX) (t : State) (H1 : Heap) (locs1 : List Loc), t.heap = H1 → s.vm.Alike t.vm → px u → BX E u t → H.size ≤ H1.size → (∀ q : Nat, q < H.size → ¬ AX q → H1[q]? = H[q]?) → va_S A0 H0 H1 locs1 → H1[q9]? = some ce → ce.vm = .none → s.vm.findClass E = some ce.cls → vx_W p l e R s m args below meth c H1 locs1 (cells + mc) (slots + ms) Q (F0 m pc ls rest) q9)
    (kk : ∀ (r : Int32) (u : S) (t : State) (H1 : Heap) (locs1 : List Loc), t.heap = H1 → s.vm.Alike t.vm → post r u → B u t → H.size ≤ H1.size → (∀ q : Nat, q < H.size → ¬ A1 q → H1[q]? = H[q]?) → va_S A0 H0 H1 locs1 → W p l e R s m args below meth c H1 locs1 (cells + mc) (slots + ms) Q (F0 m (pc + 3) ls (.int r :: rest))) : W p l e R s m args below meth c H locs cells slots Q (F0 m pc ls st0) := by
  intro T hT X
  rcases hr T hT X with ⟨v, st₀, t, T', L, h0, X', hL, e1, e2, ⟨⟨r, u, hv, hp, hb⟩, hF⟩, st⟩ | ⟨q, st₀, t, T', L, E, ce, h0, X', hL, e1, e2, ⟨u, hp, hb, hF⟩, hce, hcv, hcl, st⟩
  · cases hv
    obtain ⟨k1, k2, k3⟩ := vx_keep h0 e1 hS hA hf hL hF
    obtain ⟨t2, a1, b1⟩ := kk r u t T'.heap (locs ++ L) e1.symm (by rw [← e2]; exact X'.warmed.alike) hp hb k1 k2 k3 T' rfl X'
    exact ⟨t2, st t2 a1, b1⟩
  · obtain ⟨k1, k2, k3⟩ := vx_keep h0 e1 hS hAX hf hL hF
    obtain ⟨t2, a1, b1⟩ := kx E ce q u t T'.heap (locs ++ L) e1.symm (by rw [← e2]; exact X'.warmed.alike) hp hb k1 k2 k3 (by rw [e1]; exact hce) hcv hcl T' rfl X'
    exact ⟨t2, st.trans a1, b1⟩
theorem vx_calll {S SX : Type} {post : Int64 → S → Prop} {px : SX → Prop} {B : S → State → Prop} {BX : String → SX → State → Prop} {AX : Nat → Prop} (hr : vx_Run p l e R s m args below meth c H locs cells slots mc ms (F0 m pc ls st0) rest (va_Ql post B A1 a) (vx_X px BX AX) free) (hS : va_S A0 H0 H locs) (hA : ∀ q, q < H.size → A1 q → A0 q) (hf : ∀ q, free q → A0 q) (hAX : ∀ q, q < H.size → AX q → A0 q)
    (kx : ∀ (E : String) (ce : Cell) (q9 : Addr) (u : SX) (t : State) (H1 : Heap) (locs1 : List Loc), t.heap = H1 → s.vm.Alike t.vm → px u → BX E u t → H.size ≤ H1.size → (∀ q : Nat, q < H.size → ¬ AX q → H1[q]? = H[q]?) → va_S A0 H0 H1 locs1 → H1[q9]? = some ce → ce.vm = .none → s.vm.findClass E = some ce.cls → vx_W p l e R s m args below meth c H1 locs1 (cells + mc) (slots + ms) Q (F0 m pc ls rest) q9)
    (kk : ∀ (r : Int64) (u : S) (t : State) (H1 : Heap) (locs1 : List Loc), t.heap = H1 → s.vm.Alike t.vm → post r u → B u t → H.size ≤ H1.size → (∀ q : Nat, q < H.size → ¬ A1 q → H1[q]? = H[q]?) → va_S A0 H0 H1 locs1 → W p l e R s m args below meth c H1 locs1 (cells + mc) (slots + ms) Q (F0 m (pc + 3) ls (.long r :: rest))) : W p l e R s m args below meth c H locs cells slots Q (F0 m pc ls st0) := by
  intro T hT X
  rcases hr T hT X with ⟨v, st₀, t, T', L, h0, X', hL, e1, e2, ⟨⟨r, u, hv, hp, hb⟩, hF⟩, st⟩ | ⟨q, st₀, t, T', L, E, ce, h0, X', hL, e1, e2, ⟨u, hp, hb, hF⟩, hce, hcv, hcl, st⟩
  · cases hv
    obtain ⟨k1, k2, k3⟩ := vx_keep h0 e1 hS hA hf hL hF
    obtain ⟨t2, a1, b1⟩ := kk r u t T'.heap (locs ++ L) e1.symm (by rw [← e2]; exact X'.warmed.alike) hp hb k1 k2 k3 T' rfl X'
    exact ⟨t2, st t2 a1, b1⟩
  · obtain ⟨k1, k2, k3⟩ := vx_keep h0 e1 hS hAX hf hL hF
    obtain ⟨t2, a1, b1⟩ := kx E ce q u t T'.heap (locs ++ L) e1.symm (by rw [← e2]; exact X'.warmed.alike) hp hb k1 k2 k3 (by rw [e1]; exact hce) hcv hcl T' rfl X'
    exact ⟨t2, st.trans a1, b1⟩
theorem vx_callf {S SX : Type} {post : UInt32 → S → Prop} {px : SX → Prop} {B : S → State → Prop} {BX : String → SX → State → Prop} {AX : Nat → Prop} (hr : vx_Run p l e R s m args below meth c H locs cells slots mc ms (F0 m pc ls st0) rest (va_Qf post B A1 a) (vx_X px BX AX) free) (hS : va_S A0 H0 H locs) (hA : ∀ q, q < H.size → A1 q → A0 q) (hf : ∀ q, free q → A0 q) (hAX : ∀ q, q < H.size → AX q → A0 q)
    (kx : ∀ (E : String) (ce : Cell) (q9 : Addr) (u : SX) (t : State) (H1 : Heap) (locs1 : List Loc), t.heap = H1 → s.vm.Alike t.vm → px u → BX E u t → H.size ≤ H1.size → (∀ q : Nat, q < H.size → ¬ AX q → H1[q]? = H[q]?) → va_S A0 H0 H1 locs1 → H1[q9]? = some ce → ce.vm = .none → s.vm.findClass E = some ce.cls → vx_W p l e R s m args below meth c H1 locs1 (cells + mc) (slots + ms) Q (F0 m pc ls rest) q9)
    (kk : ∀ (r : UInt32) (u : S) (t : State) (H1 : Heap) (locs1 : List Loc), t.heap = H1 → s.vm.Alike t.vm → post r u → B u t → H.size ≤ H1.size → (∀ q : Nat, q < H.size → ¬ A1 q → H1[q]? = H[q]?) → va_S A0 H0 H1 locs1 → W p l e R s m args below meth c H1 locs1 (cells + mc) (slots + ms) Q (F0 m (pc + 3) ls (.float r :: rest))) : W p l e R s m args below meth c H locs cells slots Q (F0 m pc ls st0) := by
  intro T hT X
  rcases hr T hT X with ⟨v, st₀, t, T', L, h0, X', hL, e1, e2, ⟨⟨r, u, hv, hp, hb⟩, hF⟩, st⟩ | ⟨q, st₀, t, T', L, E, ce, h0, X', hL, e1, e2, ⟨u, hp, hb, hF⟩, hce, hcv, hcl, st⟩
  · cases hv
    obtain ⟨k1, k2, k3⟩ := vx_keep h0 e1 hS hA hf hL hF
    obtain ⟨t2, a1, b1⟩ := kk r u t T'.heap (locs ++ L) e1.symm (by rw [← e2]; exact X'.warmed.alike) hp hb k1 k2 k3 T' rfl X'
    exact ⟨t2, st t2 a1, b1⟩
  · obtain ⟨k1, k2, k3⟩ := vx_keep h0 e1 hS hAX hf hL hF
    obtain ⟨t2, a1, b1⟩ := kx E ce q u t T'.heap (locs ++ L) e1.symm (by rw [← e2]; exact X'.warmed.alike) hp hb k1 k2 k3 (by rw [e1]; exact hce) hcv hcl T' rfl X'
    exact ⟨t2, st.trans a1, b1⟩
theorem vx_calld {S SX : Type} {post : UInt64 → S → Prop} {px : SX → Prop} {B : S → State → Prop} {BX : String → SX → State → Prop} {AX : Nat → Prop} (hr : vx_Run p l e R s m args below meth c H locs cells slots mc ms (F0 m pc ls st0) rest (va_Qd post B A1 a) (vx_X px BX AX) free) (hS : va_S A0 H0 H locs) (hA : ∀ q, q < H.size → A1 q → A0 q) (hf : ∀ q, free q → A0 q) (hAX : ∀ q, q < H.size → AX q → A0 q)
    (kx : ∀ (E : String) (ce : Cell) (q9 : Addr) (u : SX) (t : State) (H1 : Heap) (locs1 : List Loc), t.heap = H1 → s.vm.Alike t.vm → px u → BX E u t → H.size ≤ H1.size → (∀ q : Nat, q < H.size → ¬ AX q → H1[q]? = H[q]?) → va_S A0 H0 H1 locs1 → H1[q9]? = some ce → ce.vm = .none → s.vm.findClass E = some ce.cls → vx_W p l e R s m args below meth c H1 locs1 (cells + mc) (slots + ms) Q (F0 m pc ls rest) q9)
    (kk : ∀ (r : UInt64) (u : S) (t : State) (H1 : Heap) (locs1 : List Loc), t.heap = H1 → s.vm.Alike t.vm → post r u → B u t → H.size ≤ H1.size → (∀ q : Nat, q < H.size → ¬ A1 q → H1[q]? = H[q]?) → va_S A0 H0 H1 locs1 → W p l e R s m args below meth c H1 locs1 (cells + mc) (slots + ms) Q (F0 m (pc + 3) ls (.double r :: rest))) : W p l e R s m args below meth c H locs cells slots Q (F0 m pc ls st0) := by
  intro T hT X
  rcases hr T hT X with ⟨v, st₀, t, T', L, h0, X', hL, e1, e2, ⟨⟨r, u, hv, hp, hb⟩, hF⟩, st⟩ | ⟨q, st₀, t, T', L, E, ce, h0, X', hL, e1, e2, ⟨u, hp, hb, hF⟩, hce, hcv, hcl, st⟩
  · cases hv
    obtain ⟨k1, k2, k3⟩ := vx_keep h0 e1 hS hA hf hL hF
    obtain ⟨t2, a1, b1⟩ := kk r u t T'.heap (locs ++ L) e1.symm (by rw [← e2]; exact X'.warmed.alike) hp hb k1 k2 k3 T' rfl X'
    exact ⟨t2, st t2 a1, b1⟩
  · obtain ⟨k1, k2, k3⟩ := vx_keep h0 e1 hS hAX hf hL hF
    obtain ⟨t2, a1, b1⟩ := kx E ce q u t T'.heap (locs ++ L) e1.symm (by rw [← e2]; exact X'.warmed.alike) hp hb k1 k2 k3 (by rw [e1]; exact hce) hcv hcl T' rfl X'
    exact ⟨t2, st.trans a1, b1⟩
theorem vx_callv {S SX : Type} {post : S → Prop} {px : SX → Prop} {B : S → State → Prop} {BX : String → SX → State → Prop} {AX : Nat → Prop} (hr : vx_Run p l e R s m args below meth c H locs cells slots mc ms (F0 m pc ls st0) rest (va_Qv post B A1 a) (vx_X px BX AX) free) (hS : va_S A0 H0 H locs) (hA : ∀ q, q < H.size → A1 q → A0 q) (hf : ∀ q, free q → A0 q) (hAX : ∀ q, q < H.size → AX q → A0 q)
    (kx : ∀ (E : String) (ce : Cell) (q9 : Addr) (u : SX) (t : State) (H1 : Heap) (locs1 : List Loc), t.heap = H1 → s.vm.Alike t.vm → px u → BX E u t → H.size ≤ H1.size → (∀ q : Nat, q < H.size → ¬ AX q → H1[q]? = H[q]?) → va_S A0 H0 H1 locs1 → H1[q9]? = some ce → ce.vm = .none → s.vm.findClass E = some ce.cls → vx_W p l e R s m args below meth c H1 locs1 (cells + mc) (slots + ms) Q (F0 m pc ls rest) q9)
    (kk : ∀ (u : S) (t : State) (H1 : Heap) (locs1 : List Loc), t.heap = H1 → s.vm.Alike t.vm → post u → B u t → H.size ≤ H1.size → (∀ q : Nat, q < H.size → ¬ A1 q → H1[q]? = H[q]?) → va_S A0 H0 H1 locs1 → W p l e R s m args below meth c H1 locs1 (cells + mc) (slots + ms) Q (F0 m (pc + 3) ls (rest))) : W p l e R s m args below meth c H locs cells slots Q (F0 m pc ls st0) := by
  intro T hT X
  rcases hr T hT X with ⟨v, st₀, t, T', L, h0, X', hL, e1, e2, ⟨⟨u, hv, hp, hb⟩, hF⟩, st⟩ | ⟨q, st₀, t, T', L, E, ce, h0, X', hL, e1, e2, ⟨u, hp, hb, hF⟩, hce, hcv, hcl, st⟩
  · cases hv
    obtain ⟨k1, k2, k3⟩ := vx_keep h0 e1 hS hA hf hL hF
    obtain ⟨t2, a1, b1⟩ := kk u t T'.heap (locs ++ L) e1.symm (by rw [← e2]; exact X'.warmed.alike) hp hb k1 k2 k3 T' rfl X'
    exact ⟨t2, st t2 a1, b1⟩
  · obtain ⟨k1, k2, k3⟩ := vx_keep h0 e1 hS hAX hf hL hF
    obtain ⟨t2, a1, b1⟩ := kx E ce q u t T'.heap (locs ++ L) e1.symm (by rw [← e2]; exact X'.warmed.alike) hp hb k1 k2 k3 (by rw [e1]; exact hce) hcv hcl T' rfl X'
    exact ⟨t2, st.trans a1, b1⟩
/-- caught by the row x of this method's table; the rows ahead don't take it -/
theorem vx_catch {own name : String} {E : String} {ce : Cell} {q : Addr} (hown : s.vm.findClass own = some m.cls) (pre : List ExceptionTableEntry) (x : ExceptionTableEntry) (suf : List ExceptionTableEntry) (hsplit : c.exceptionTable.toList = pre ++ x :: suf)
    (hpass : ∀ z ∈ pre, covers z pc = false ∨ (z.catchType ≠ 0 ∧ ∃ nm : String, (Cond.classLink own z.catchType nm).before args s = true ∧ va_Nc E nm s)) (hx : covers x pc = true) (h0 : x.catchType ≠ 0)
    (hlink : (Cond.classLink own x.catchType name).before args s = true) (hcast : (Cond.castable E name).before args s = true) (hcell : H[q]? = some ce) (hv : ce.vm = .none) (hcl : s.vm.findClass E = some ce.cls)
    (kk : W p l e R s m args below meth c H locs cells slots Q (F0 m x.handlerPc ls [.ref q])) : vx_W p l e R s m args below meth c H locs cells slots Q (F0 m pc ls rest) q := by
  intro T hT X
  have hpl : e.platform.magicAccessors = ({} : Platform).magicAccessors := by rw [X.admits.platform]
  obtain ⟨c3, c4, hc3, hc4, hasg⟩ := Cond.castable_spec hcast
  cases Option.some.inj (hc3.symm.trans hcl)
  obtain ⟨c5, hc5, hcl5⟩ := Cond.classLink_spec hown hlink e.platform hpl
  cases Option.some.inj (hc4.symm.trans hc5)
  obtain ⟨vm', X', st⟩ := X.thenCaughtThrough q (g := F0 m pc ls rest) rfl (Steps.refl _) (by rw [hT]; exact hcell) (by rw [hv]; rfl) (by obtain ⟨k9, h9, -⟩ := Vm.findClass_spec hcl; exact ⟨k9, h9⟩) pre x suf hsplit
    (fun z hz => by
      rcases hpass z hz with h | ⟨hz0, nm, hl1, hn1⟩
      · exact Or.inl h
      · obtain ⟨c6, hc6, hcl6⟩ := Cond.classLink_spec hown hl1 e.platform hpl
        obtain ⟨a8, b8, h1, h2, h3⟩ := hn1
        cases Option.some.inj (h1.symm.trans hcl)
        cases Option.some.inj (h2.symm.trans hc6)
        exact Or.inr ⟨hz0, _, hcl6, h3⟩) hx (Or.inr ⟨h0, c4, hcl5, hasg⟩)
  obtain ⟨t, a1, b1⟩ := kk (T.setVm vm') hT X'
  exact ⟨t, st.trans a1, b1⟩
end Rows
section Ends
variable {p : Program} {l : Launch} {e : Env} {R : Room} {s : State} {m : MethodId} {args : Array Value} {below : List Frame} {meth : Method} {c : Code} {H : Heap} {locs : List Loc} {cells slots : Nat} {Q : State → Prop}
variable {mc ms : Nat} {free : Addr → Prop} {A0 A1 : Nat → Prop} {H0 : Heap} {a : Array Value} {ls : Array Slot} {st0 rest : List Value}
variable {Qc : Array Value → State → Outcome → State → Prop} {XC : String → State → State → Prop}
/-- what a body that may throw owes at its end -/
def vx_MQ (below : List Frame) (Qc : Array Value → State → Outcome → State → Prop) (XC : String → State → State → Prop) (a : Array Value) (s : State) (mc ms : Nat) (free : Addr → Prop) : State → Prop := fun t =>
  ∃ o, t.status = .running ∧ Ended t below o ∧ vx_Q Qc XC mc ms free a s o t
theorem vx_ret {g : JFrame} {mc ms : Nat} (k : W p l e R s m args below meth c H locs cells slots (MQ below Qc args s mc ms free) g) : W p l e R s m args below meth c H locs cells slots (vx_MQ below Qc XC args s mc ms free) g := by
  intro T hT X
  obtain ⟨t, a1, o, b1, b2, b3, b4⟩ := k T hT X
  exact ⟨t, a1, o, b1, b2, Or.inl ⟨b3, b4⟩⟩
/-- not caught here: it goes on to the caller -/
theorem vx_widen {g : JFrame} {q : Addr} {k n : Nat} (h1 : cells ≤ k) (h2 : slots ≤ n) (kk : vx_W p l e R s m args below meth c H locs k n Q g q) : vx_W p l e R s m args below meth c H locs cells slots Q g q := fun T hT X => kk T hT (stand_widen X h1 h2)
theorem vx_out {pc : Nat} {E : String} {ce : Cell} {q : Addr} {mc ms : Nat} (hout : ∀ x ∈ c.exceptionTable.toList, covers x pc = false) (hlocks : meth.locks = false) (hcell : H[q]? = some ce) (hv : ce.vm = .none) (hcl : s.vm.findClass E = some ce.cls)
    (hx : ∀ t : State, t.heap = H → s.vm.Alike t.vm → XC E s t) (hf : ∀ z ∈ locs, free z.base) (hc : cells ≤ mc) (hs : slots ≤ ms) :
    vx_W p l e R s m args below meth c H locs cells slots (vx_MQ below Qc XC args s mc ms free) (F0 m pc ls rest) q := by
  intro T hT X
  obtain ⟨st1, hrun, hend, hW, hsm⟩ := X.leaveThrown q (g := F0 m pc ls rest) rfl rfl rfl hout hlocks
  have hcell9 : (T.setFrames (.throwing q :: below)).heap[q]? = some ce := by
    show T.heap[q]? = some ce
    rw [hT]; exact hcell
  exact ⟨_, st1, .threw q, hrun, hend, Or.inr ⟨q, rfl, E, ce, locs, hx _ hT hW.alike, hcell9, hv, hcl, hW, hsm.mono hc hs, hf⟩⟩
theorem vx_frame {U : State} {k n : Nat} (h : s.sameButNew ({ U with vm := s.vm } : State) locs k n) : s.heap.size ≤ U.heap.size ∧ ∀ q : Nat, q < s.heap.size → (∀ z ∈ locs, z.base ≠ q) → U.heap[q]? = s.heap[q]? := by
  obtain ⟨-, h2, -, -, -, h6⟩ := h
  refine ⟨h2, fun q hq hz => ?_⟩
  obtain ⟨c9, e1, e2, e3, e4⟩ := h6 q _ (Array.getElem?_eq_getElem hq)
  have hs : c9.slots = (s.heap[q]).slots := Array.ext_getElem? fun i => e4 i fun hm => hz _ hm rfl
  have h9 : c9 = s.heap[q] := by
    rw [hs] at e2
    exact e2
  have e5 : U.heap[q]? = some c9 := e1
  rw [e5, h9, Array.getElem?_eq_getElem hq]
/-- the words of a throw but the four that speak of the heap -/
def vx_no (w : Cond) : Bool := decide (w ≠ .isRef (.static Bundle.tN "UNASSIGNED_STACK" Bundle.steD)) && decide (w ≠ .isRef (.static Bundle.tN "SUPPRESSED_SENTINEL" Bundle.listD)) && decide (w ≠ .laysStatic Bundle.tN "UNASSIGNED_STACK" Bundle.steD) && decide (w ≠ .laysStatic Bundle.tN "SUPPRESSED_SENTINEL" Bundle.listD)
def vx_at0 (own : String) (ic : Nat) (X : String) (names : List String) : List Cond := (Bundle.ownAtoms0 own ic X names).filter vx_no
def vx_atS (own : String) (ic : Nat) (X : String) (names : List String) : List Cond := (Bundle.ownAtoms own ic X names).filter vx_no
/-- a word that the tables alone decide, or a good one -/
def vx_ot (w : Cond) : Bool := w.onTables || goodWord w
theorem vx_ot_at {args a' : Array Value} {s U : State} {w : Cond} (hW : s.WarmedH U.vm) (hvm : s.vm = U.vm) (hg : vx_ot w = true) (h : w.before args s = true) : w.before a' U = true := by
  simp only [vx_ot, Bool.or_eq_true] at hg
  rcases hg with hg | hg
  · exact va_tabs hg hvm h
  · exact word_at hW (good_of_word hg) h
/-- a list's words: the good ones out of the method's own list, the others by premises of their own -/
theorem vx_hat {args : Array Value} {s : State} {L B : List Cond} (h1 : ∀ w ∈ L.filter goodWord, w.before args s = true) (h2 : ∀ w ∈ L.filter (fun w => !goodWord w), w ∈ B) (h3 : ∀ w ∈ B, w.before args s = true) : ∀ w ∈ L, w.before args s = true := by
  intro w hw
  by_cases g : goodWord w = true
  · exact h1 w (List.mem_filter.mpr ⟨hw, g⟩)
  · refine h3 w (h2 w (List.mem_filter.mpr ⟨hw, ?_⟩))
    show (!goodWord w) = true
    cases hgw : goodWord w
    · rfl
    · exact absurd hgw g
theorem vx_c {args : Array Value} {s : State} {w : Cond} {B : List Cond} (h : w.before args s = true) (t : ∀ w ∈ B, w.before args s = true) : ∀ w' ∈ w :: B, w'.before args s = true := fun w' h' => (List.mem_cons.mp h').elim (fun e => by rw [e]; exact h) (t w')
theorem vx_n {args : Array Value} {s : State} : ∀ w ∈ ([] : List Cond), w.before args s = true := fun _ h => nomatch h
theorem vx_own {args : Array Value} {s : State} {L : List Cond} (h1 : ∀ w ∈ L.filter vx_no, w.before args s = true)
    (hU : (Cond.isRef (.static Bundle.tN "UNASSIGNED_STACK" Bundle.steD)).before args s = true) (hN : (Cond.isRef (.static Bundle.tN "SUPPRESSED_SENTINEL" Bundle.listD)).before args s = true)
    (lU : (Cond.laysStatic Bundle.tN "UNASSIGNED_STACK" Bundle.steD).before args s = true) (lN : (Cond.laysStatic Bundle.tN "SUPPRESSED_SENTINEL" Bundle.listD).before args s = true) : ∀ w ∈ L, w.before args s = true := by
  intro w hw
  by_cases e1 : w = .isRef (.static Bundle.tN "UNASSIGNED_STACK" Bundle.steD)
  · rw [e1]; exact hU
  · by_cases e2 : w = .isRef (.static Bundle.tN "SUPPRESSED_SENTINEL" Bundle.listD)
    · rw [e2]; exact hN
    · by_cases e3 : w = .laysStatic Bundle.tN "UNASSIGNED_STACK" Bundle.steD
      · rw [e3]; exact lU
      · by_cases e4 : w = .laysStatic Bundle.tN "SUPPRESSED_SENTINEL" Bundle.listD
        · rw [e4]; exact lN
        · exact h1 w (List.mem_filter.mpr ⟨hw, by unfold vx_no; rw [decide_eq_true e1, decide_eq_true e2, decide_eq_true e3, decide_eq_true e4]; rfl⟩)
/-- where a static field lies, its class's statics cell in H -/
def vx_L (C n d : String) (A : Nat → Prop) (U : State) (H : Heap) : Prop := ∃ (c : ClassId) (k : Class) (i : Nat) (f : Field) (a : Nat) (cell : Cell), U.vm.findClass C = some c ∧ U.fieldFound? C n d = some (c, k, i, f) ∧ f.isStatic = true ∧ k.statics = some a ∧ H[a]? = some cell ∧ cell.vm.isStatics = true ∧ cell.cls = c ∧ f.slot < cell.slots.size ∧ k.staticTypes[f.slot]? = some f.type ∧ ¬ A a
theorem vx_L.moved {C n d : String} {A : Nat → Prop} {u U : State} {H : Heap} (hvm : u.vm.Alike U.vm) (h : vx_L C n d A u H) : vx_L C n d A U H := by
  obtain ⟨c, k, i, f, a, cell, h1, h2, h3, h4, h5, h6, h7, h8, h9, h10⟩ := h
  obtain ⟨k', hi', he⟩ := State.fieldFound?_setVm hvm h2
  exact ⟨c, k', i, f, a, cell, by rw [hvm.findClass]; exact h1, hi', h3, by rw [he]; exact h4, h5, h6, h7, h8, by rw [he]; exact h9, h10⟩
theorem vx_L.kept {C n d : String} {A : Nat → Prop} {U : State} {H H1 : Heap} (h : vx_L C n d A U H) (hq : ∀ a : Nat, a < H.size → ¬ A a → H1[a]? = H[a]?) : vx_L C n d A U H1 := by
  obtain ⟨c, k, i, f, a, cell, h1, h2, h3, h4, h5, h6, h7, h8, h9, h10⟩ := h
  exact ⟨c, k, i, f, a, cell, h1, h2, h3, h4, by rw [hq a (Array.getElem?_eq_some_iff.mp h5).1 h10]; exact h5, h6, h7, h8, h9, h10⟩
theorem vx_L.narrow {C n d : String} {A B : Nat → Prop} {U : State} {H : Heap} (h : vx_L C n d A U H) (hAB : ∀ q, B q → A q) : vx_L C n d B U H := by
  obtain ⟨c, k, i, f, a, cell, h1, h2, h3, h4, h5, h6, h7, h8, h9, h10⟩ := h
  exact ⟨c, k, i, f, a, cell, h1, h2, h3, h4, h5, h6, h7, h8, h9, fun z => h10 (hAB _ z)⟩
theorem vx_L.word {C n d : String} {A : Nat → Prop} {s : State} {args : Array Value} (h : vx_L C n d A s s.heap) : (Cond.laysStatic C n d).before args s = true := by
  obtain ⟨c, k, i, f, a, cell, h1, h2, h3, h4, h5, h6, h7, h8, h9, -⟩ := h
  show (Cond.laysStatic C n d).holds args s none s [] = true
  exact Cond.laysStatic_of h1 h2 h3 h4 h5 h6 h7 h8 h9
/-- .. and what it holds: null or some reference -/
def vx_Zq (C n d : String) (A : Nat → Prop) (U : State) (H : Heap) : Prop := va_Zq C n d A U H ∧ vx_L C n d A U H
theorem vx_Zq.moved {C n d : String} {A : Nat → Prop} {u U : State} {H : Heap} (hvm : u.vm.Alike U.vm) (h : vx_Zq C n d A u H) : vx_Zq C n d A U H := ⟨va_Zq.moved hvm h.1, vx_L.moved hvm h.2⟩
theorem vx_Zq.kept {C n d : String} {A : Nat → Prop} {U : State} {H H1 : Heap} (h : vx_Zq C n d A U H) (hq : ∀ a : Nat, a < H.size → ¬ A a → H1[a]? = H[a]?) : vx_Zq C n d A U H1 := ⟨va_Zq.kept h.1 hq, vx_L.kept h.2 hq⟩
theorem vx_Zq.narrow {C n d : String} {A B : Nat → Prop} {U : State} {H : Heap} (h : vx_Zq C n d A U H) (hAB : ∀ q, B q → A q) : vx_Zq C n d B U H := ⟨va_Zq.narrow h.1 hAB, vx_L.narrow h.2 hAB⟩
theorem vx_Zqof {args : Array Value} {s : State} {C n d : String} {A : Nat → Prop} (hl : (Cond.laysStatic C n d).before args s = true) (hini : (Cond.initialized C).before args s = true) (h : (Cond.isRef (.static C n d)).before args s = true) (hA : ∀ a : Nat, a < s.heap.size → ¬ A a) : vx_Zq C n d A s s.heap := by
  refine ⟨va_Zqof hl hini h hA, ?_⟩
  obtain ⟨c, k, i, f, a, cell, h1, h2, h3, h4, h5, h6, h7, h8, h9⟩ := Cond.laysStatic_spec hl
  exact ⟨c, k, i, f, a, cell, h1, h2, h3, h4, h5, h6, h7, h8, h9, hA a (Array.getElem?_eq_some_iff.mp h5).1⟩
theorem vx_isRef {C n d : String} {v : Value} {A : Nat → Prop} {s : State} {args : Array Value} (h : va_Z C n d v A s s.heap) (hv : v.isRef = true) : (Cond.isRef (.static C n d)).before args s = true := by
  obtain ⟨cf, kf, fi, f, a, cell, h1, h2, h3, h4, h5, h6, h7, -⟩ := h
  have he : (Term.static C n d).eval args s none [] s = some v := by
    simp [Term.eval, State.fieldNamed?, h1, h2, h4, h5, h6, h7]
  simp only [Cond.before, Cond.holds, Cond.value, he]
  cases v <;> simp_all [Value.isRef]
theorem vx_isRefq {C n d : String} {A : Nat → Prop} {s : State} {args : Array Value} (h : va_Zq C n d A s s.heap) : (Cond.isRef (.static C n d)).before args s = true := by
  rcases h with h | ⟨t, h⟩
  · exact vx_isRef h rfl
  · exact vx_isRef h rfl
/-- the same frame, seen from here: as if the method were called anew in this heap -/
theorem vx_rebase {T : State} (X : Stand p l e R s m args below meth c T locs cells slots) {R' : Room} (hf : R'.frames ≤ R.frames) (hl : R'.locals ≤ R.locals) (hc : cells + R'.cells ≤ R.cells) (hs : slots + R'.slots ≤ R.slots) :
    Stand p l e R' ((T.setVm s.vm).setFrames (.invoking m args :: below)) m args below meth c T [] 0 0 := by
  have htop : (T.setVm s.vm).topJava?.isSome := X.here.top
  have hF : ((T.setVm s.vm).setFrames (.invoking m args :: below)).frames = .invoking m args :: below := State.frames_setFrames _ (State.cur_lt_of_top htop)
  obtain ⟨g₀, hg0⟩ := Option.isSome_iff_exists.mp htop
  obtain ⟨r, hr⟩ := State.topJava?_eq_some.mp hg0
  have hl9 : e.platform.stackLimits (T.setVm s.vm).me = e.platform.stackLimits s.me := X.limits
  have hb9 : (T.setVm s.vm).me.stackBytes = s.me.stackBytes := X.bytes
  refine ⟨X.admits, X.cas, X.clock, hF, ?_, X.hears, X.method, X.code, X.here, X.tail, X.warmed, ?_, ?_, ?_⟩
  · have h := X.room
    have hU : ((T.setVm s.vm).setFrames (.invoking m args :: below)).localsInUse = s.localsInUse := by
      rw [State.localsInUse_invoking hF (meth := meth) (c := c) X.method X.code, State.localsInUse_invoking X.frames X.method X.code]
    simp only [State.hasRoom, Bool.and_eq_true, decide_eq_true_eq] at h ⊢
    obtain ⟨⟨⟨⟨h1, h2, h3, h4, h5, h6⟩, h7⟩, h8⟩, h9⟩ := h
    rw [X.frames, List.length_cons] at h2 h3
    have q1 := X.heapSize
    have q2 := X.used
    simp only [hF, hU, List.length_cons, State.stackLimits_setFrames, State.stackBytes_setFrames, hl9, hb9]
    refine ⟨⟨⟨⟨by omega, by omega, by omega, by omega, by omega, h6⟩, ?_⟩, ?_⟩, X.book⟩
    · show T.heap.size + R'.cells ≤ e.platform.maxCells
      omega
    · show T.slotsUsed + R'.slots ≤ e.platform.maxSlots
      omega
  · rw [State.stackLimits_setFrames]; rfl
  · rw [State.stackBytes_setFrames]; rfl
  · refine ⟨?_, Nat.le_refl _, Nat.le_refl _, ?_, ?_, fun a c9 h9 => ⟨c9, h9, rfl, rfl, fun _ _ => rfl⟩⟩
    · obtain ⟨t, ht, -⟩ := State.frames_cons hr
      show T.setVm s.vm = { ((T.setVm s.vm).setFrames (.invoking m args :: below)).setFrames (T.setVm s.vm).frames with heap := T.heap, slotsUsed := T.slotsUsed }
      rw [State.setFrames_setFrames, State.setFrames_self ht]
      rfl
    · show T.slotsUsed = T.slotsUsed + ((T.heap.toList.drop T.heap.size).map (·.slots.size)).sum
      rw [List.drop_eq_nil_of_le (Nat.le_of_eq Array.length_toList)]
      rfl
    · show ((T.heap.toList.drop T.heap.size).map (·.slots.size)).sum ≤ 0
      rw [List.drop_eq_nil_of_le (Nat.le_of_eq Array.length_toList)]
      exact Nat.le_refl _
/-- 'throw new E()': new; dup; invokespecial; athrow -/
theorem vx_throw0 {cc : ByteArray} {pc : Nat} (hexec : p.tables.exec = Jvm.exec) (hb : c.code = cc) (hl : l.stackTraces = false) {own cls : String} {names : List String} {ik ic mc ms : Nat} {A : Nat → Prop}
    (hown : s.vm.findClass own = some m.cls) (hcls : Bundle.fit cls = true) (hnames : ∀ n ∈ names, Bundle.fit n = true)
    (hk : (Cond.classLink own ik cls).before args s = true) (hini : (Cond.initialized cls).before args s = true) (hat : ∀ w ∈ vx_at0 own ic cls names, w.before args s = true)
    (hgood : ∀ w ∈ Cond.classLink own ik cls :: Cond.initialized cls :: vx_at0 own ic cls names, vx_ot w = true)
    (hU : vx_Zq Bundle.tN "UNASSIGNED_STACK" Bundle.steD A s s.heap) (hN : vx_Zq Bundle.tN "SUPPRESSED_SENTINEL" Bundle.listD A s s.heap) (hS : va_S A s.heap H locs) (hsize : ls.size = c.maxLocals)
    (d0 : decode cc pc = .ok (.new ik, 3)) (d3 : decode cc (pc + 3) = .ok (.dup, 1)) (d4 : decode cc (pc + 4) = .ok (.invokespecial ic, 3)) (d7 : decode cc (pc + 7) = .ok (.athrow, 1))
    (hout : ∀ x ∈ c.exceptionTable.toList, covers x (pc + 7) = false)
    (hRframes : names.length + 3 < R.frames) (hRlocals : (rest.map fun v => v.category).sum + (13 * (names.length + 1) + 42) ≤ R.locals) (hRcells : cells + 1 ≤ R.cells) (hRslots : slots + 6 ≤ R.slots) (hlocks : meth.locks = false)
    (hx : ∀ t : State, s.vm.Alike t.vm → H.size ≤ t.heap.size → (∀ q : Nat, q < H.size → t.heap[q]? = H[q]?) → XC cls s t)
    (hf : ∀ z ∈ locs, free z.base) (hc : cells + 1 ≤ mc) (hs : slots + 6 ≤ ms) :
    W p l e R s m args below meth c H locs cells slots (vx_MQ below Qc XC args s mc ms free) (F0 m pc ls rest) := by
  intro T hT X
  have htr : e.platform.stackTraces = false := (show e.platform.stackTraces = l.stackTraces by rw [X.admits.platform]).trans hl
  have Y := vx_rebase X (R' := { frames := R.frames, locals := R.locals, cells := 1, slots := 6 }) (Nat.le_refl _) (Nat.le_refl _) hRcells hRslots
  obtain ⟨s', hA⟩ : ∃ z, z = (T.setVm s.vm).setFrames (.invoking m args :: below) := ⟨_, rfl⟩
  rw [← hA] at Y
  have hvm : s'.vm = s.vm := by rw [hA]; rfl
  have hhp : s'.heap = H := by rw [hA]; exact hT
  have hW0 : s.WarmedH s'.vm := by rw [hvm]; exact State.WarmedH.refl s
  have hat' : ∀ w ∈ vx_at0 own ic cls names, w.before args s' = true := fun w hw => vx_ot_at hW0 hvm.symm (hgood w (List.mem_cons_of_mem _ (List.mem_cons_of_mem _ hw))) (hat w hw)
  have hk' : (Cond.classLink own ik cls).before args s' = true := vx_ot_at hW0 hvm.symm (hgood _ List.mem_cons_self) hk
  have hini' : (Cond.initialized cls).before args s' = true := vx_ot_at hW0 hvm.symm (hgood _ (List.mem_cons_of_mem _ List.mem_cons_self)) hini
  have hU' : vx_Zq Bundle.tN "UNASSIGNED_STACK" Bundle.steD A s' s'.heap := by rw [hhp]; exact vx_Zq.moved hW0.alike (hU.kept hS.2.1)
  have hN' : vx_Zq Bundle.tN "SUPPRESSED_SENTINEL" Bundle.listD A s' s'.heap := by rw [hhp]; exact vx_Zq.moved hW0.alike (hN.kept hS.2.1)
  have h : ∀ w ∈ Bundle.ownAtoms0 own ic cls names, w.before args s' = true := vx_own hat' (vx_isRefq hU'.1) (vx_isRefq hN'.1) hU'.2.word hN'.2.word
  have hown' : s'.vm.findClass own = some m.cls := by rw [hvm]; exact hown
  have hins : (Cond.instantiable cls 6).before args s' = true := h _ (by simp [Bundle.ownAtoms0])
  obtain ⟨vm₁, cX, kX, hfX, hkX, -, -, X₁, st1⟩ := Y.newCold hexec (own := own) (C := cls) (index := ik) (n := 6) hown' hk' hins hini'
    (g := F0 m pc ls rest) rfl (by rw [hb]; exact d0) (Nat.le_refl _) (Nat.le_refl _)
  generalize hT1 : (T.setVm vm₁).pushCell { cls := cX, slots := kX.instanceTypes.map defaultValue, vm := .none } = T1 at X₁ st1
  have hcat : (Value.ref T.heap.size).category = 1 := rfl
  have hcellA : T1.heap[T.heap.size]? = some (freshCell cX kX) := by rw [← hT1]; exact State.heap_pushCell_size _ _
  have d3' : decode c.code (pc + 3) = .ok (.dup, 1) := by rw [hb]; exact d3
  obtain ⟨U, hsteps, hrun, hend, hW, hsame, ce, hce, hO⟩ := X₁.ctorThrow0 hexec htr (own := own) (cls := cls) (names := names) (ic := ic) hown' hcls hnames h (fun x hx => nomatch hx) hfX hkX hcellA (by rw [hhp, hT]; exact Nat.le_refl _)
    (g := { method := m, pc := pc + 4, locals := ls, stack := .ref T.heap.size :: .ref T.heap.size :: rest, locked := none }) rfl hsize rfl rfl (rest := rest) rfl
    (by rw [hb]; exact d4) (by rw [hb]; exact d7) hout hRframes (by simp only [List.map_cons, List.sum_cons, hcat]; omega) hlocks
  obtain ⟨f1, f2⟩ := vx_frame hsame
  rw [hhp] at f1 f2
  have hWs : s.WarmedH U.vm := State.WarmedH.trans hW0 hW
  have hcl : s.vm.findClass cls = some ce.cls := by
    have h9 := hO.cls
    rw [hvm] at h9
    exact h9
  have hall : s.sameButNew ({ U with vm := s.vm } : State) locs mc ms := by
    subst hA
    obtain ⟨e1, e2⟩ := hsame
    rw [State.setFrames_setFrames] at e1
    have h2 : (T.setVm s.vm).sameButNew ({ U with vm := s.vm } : State) [] (0 + 1) (0 + 6) := ⟨e1, e2⟩
    have h3 := X.same.trans h2
    rw [List.append_nil] at h3
    exact h3.mono hc hs
  refine ⟨U, ?_, .threw T.heap.size, hrun, hend, Or.inr ⟨T.heap.size, rfl, cls, ce, locs, hx U hWs.alike f1 (fun q hq => f2 q hq (fun z hz => nomatch hz)), hce, hO.vm, hcl, hWs, hall, hf⟩⟩
  refine st1 _ ?_
  show Steps p.tables e below (T1.setTop { method := m, pc := pc + 3, locals := ls, stack := .ref T.heap.size :: rest, locked := none }) _
  jvm_step X₁.here [X₁.here.top, hexec, d3', Value.category]
  exact hsteps
/-- 'throw new E("text")': new; dup; ldc; invokespecial; athrow -/
theorem vx_throwS {cc : ByteArray} {pc : Nat} (hexec : p.tables.exec = Jvm.exec) (hb : c.code = cc) (hl : l.stackTraces = false) {own cls text : String} {names : List String} {ik is ic mc ms sa : Nat} {A : Nat → Prop}
    (hown : s.vm.findClass own = some m.cls) (hcls : Bundle.fit cls = true) (hnames : ∀ n ∈ names, Bundle.fit n = true)
    (hk : (Cond.classLink own ik cls).before args s = true) (hini : (Cond.initialized cls).before args s = true) (hstr : vk_R own is text sa s) (hat : ∀ w ∈ vx_atS own ic cls names, w.before args s = true)
    (hgood : ∀ w ∈ Cond.classLink own ik cls :: Cond.initialized cls :: vx_atS own ic cls names, vx_ot w = true)
    (hU : vx_Zq Bundle.tN "UNASSIGNED_STACK" Bundle.steD A s s.heap) (hN : vx_Zq Bundle.tN "SUPPRESSED_SENTINEL" Bundle.listD A s s.heap) (hS : va_S A s.heap H locs) (hsize : ls.size = c.maxLocals)
    (d0 : decode cc pc = .ok (.new ik, 3)) (d3 : decode cc (pc + 3) = .ok (.dup, 1)) (d4 : decode cc (pc + 4) = .ok (.ldc is, 2)) (d6 : decode cc (pc + 6) = .ok (.invokespecial ic, 3)) (d9 : decode cc (pc + 9) = .ok (.athrow, 1))
    (hout : ∀ x ∈ c.exceptionTable.toList, covers x (pc + 9) = false)
    (hRframes : names.length + 3 < R.frames) (hRlocals : (rest.map fun v => v.category).sum + (13 * (names.length + 1) + 43) ≤ R.locals) (hRcells : cells + 1 ≤ R.cells) (hRslots : slots + 6 ≤ R.slots) (hlocks : meth.locks = false)
    (hx : ∀ t : State, s.vm.Alike t.vm → H.size ≤ t.heap.size → (∀ q : Nat, q < H.size → t.heap[q]? = H[q]?) → XC cls s t)
    (hf : ∀ z ∈ locs, free z.base) (hc : cells + 1 ≤ mc) (hs : slots + 6 ≤ ms) :
    W p l e R s m args below meth c H locs cells slots (vx_MQ below Qc XC args s mc ms free) (F0 m pc ls rest) := by
  intro T hT X
  have htr : e.platform.stackTraces = false := (show e.platform.stackTraces = l.stackTraces by rw [X.admits.platform]).trans hl
  have Y := vx_rebase X (R' := { frames := R.frames, locals := R.locals, cells := 1, slots := 6 }) (Nat.le_refl _) (Nat.le_refl _) hRcells hRslots
  obtain ⟨s', hA⟩ : ∃ z, z = (T.setVm s.vm).setFrames (.invoking m args :: below) := ⟨_, rfl⟩
  rw [← hA] at Y
  have hvm : s'.vm = s.vm := by rw [hA]; rfl
  have hhp : s'.heap = H := by rw [hA]; exact hT
  have hW0 : s.WarmedH s'.vm := by rw [hvm]; exact State.WarmedH.refl s
  have hat' : ∀ w ∈ vx_atS own ic cls names, w.before args s' = true := fun w hw => vx_ot_at hW0 hvm.symm (hgood w (List.mem_cons_of_mem _ (List.mem_cons_of_mem _ hw))) (hat w hw)
  have hk' : (Cond.classLink own ik cls).before args s' = true := vx_ot_at hW0 hvm.symm (hgood _ List.mem_cons_self) hk
  have hini' : (Cond.initialized cls).before args s' = true := vx_ot_at hW0 hvm.symm (hgood _ (List.mem_cons_of_mem _ List.mem_cons_self)) hini
  have hU' : vx_Zq Bundle.tN "UNASSIGNED_STACK" Bundle.steD A s' s'.heap := by rw [hhp]; exact vx_Zq.moved hW0.alike (hU.kept hS.2.1)
  have hN' : vx_Zq Bundle.tN "SUPPRESSED_SENTINEL" Bundle.listD A s' s'.heap := by rw [hhp]; exact vx_Zq.moved hW0.alike (hN.kept hS.2.1)
  have h : ∀ w ∈ Bundle.ownAtoms own ic cls names, w.before args s' = true := vx_own hat' (vx_isRefq hU'.1) (vx_isRefq hN'.1) hU'.2.word hN'.2.word
  have hown' : s'.vm.findClass own = some m.cls := by rw [hvm]; exact hown
  have hins : (Cond.instantiable cls 6).before args s' = true := h _ (by simp [Bundle.ownAtoms])
  obtain ⟨vm₁, cX, kX, hfX, hkX, -, -, X₁, st1⟩ := Y.newCold hexec (own := own) (C := cls) (index := ik) (n := 6) hown' hk' hins hini'
    (g := F0 m pc ls rest) rfl (by rw [hb]; exact d0) (Nat.le_refl _) (Nat.le_refl _)
  generalize hT1 : (T.setVm vm₁).pushCell { cls := cX, slots := kX.instanceTypes.map defaultValue, vm := .none } = T1 at X₁ st1
  have hcat : (Value.ref T.heap.size).category = 1 := rfl
  have hcellA : T1.heap[T.heap.size]? = some (freshCell cX kX) := by rw [← hT1]; exact State.heap_pushCell_size _ _
  have d3' : decode c.code (pc + 3) = .ok (.dup, 1) := by rw [hb]; exact d3
  have d4' : decode c.code (pc + 4) = .ok (.ldc is, 2) := by rw [hb]; exact d4
  have hstr' : vk_R own is text sa s' := vk_R.warm hW0 hstr
  obtain ⟨U, hsteps, hrun, hend, hW, hsame, ce, hce, hO⟩ := X₁.ctorThrowS hexec htr (own := own) (cls := cls) (names := names) (ic := ic) hown' hcls hnames h (fun x hx => nomatch hx) hfX hkX hcellA (by rw [hhp, hT]; exact Nat.le_refl _) (msg := .ref sa) rfl
    (g := { method := m, pc := pc + 6, locals := ls, stack := .ref sa :: .ref T.heap.size :: .ref T.heap.size :: rest, locked := none }) rfl hsize rfl rfl (rest := rest) rfl
    (by rw [hb]; exact d6) (by rw [hb]; exact d9) hout hRframes (by simp only [List.map_cons, List.sum_cons, hcat]; omega) hlocks
  obtain ⟨f1, f2⟩ := vx_frame hsame
  rw [hhp] at f1 f2
  have hWs : s.WarmedH U.vm := State.WarmedH.trans hW0 hW
  have hcl : s.vm.findClass cls = some ce.cls := by
    have h9 := hO.cls
    rw [hvm] at h9
    exact h9
  have hall : s.sameButNew ({ U with vm := s.vm } : State) locs mc ms := by
    subst hA
    obtain ⟨e1, e2⟩ := hsame
    rw [State.setFrames_setFrames] at e1
    have h2 : (T.setVm s.vm).sameButNew ({ U with vm := s.vm } : State) [] (0 + 1) (0 + 6) := ⟨e1, e2⟩
    have h3 := X.same.trans h2
    rw [List.append_nil] at h3
    exact h3.mono hc hs
  refine ⟨U, ?_, .threw T.heap.size, hrun, hend, Or.inr ⟨T.heap.size, rfl, cls, ce, locs, hx U hWs.alike f1 (fun q hq => f2 q hq (fun z hz => nomatch hz)), hce, hO.vm, hcl, hWs, hall, hf⟩⟩
  refine st1 _ ?_
  show Steps p.tables e below (T1.setTop { method := m, pc := pc + 3, locals := ls, stack := .ref T.heap.size :: rest, locked := none }) _
  jvm_step X₁.here [X₁.here.top, hexec, d3', Value.category]
  exact X₁.ldcString hexec (own := own) (text := text) (index := is) (a := sa) hown' hstr'.1 hstr'.2
    (g := { method := m, pc := pc + 4, locals := ls, stack := .ref T.heap.size :: .ref T.heap.size :: rest, locked := none }) rfl d4' _ hsteps
/-- 'throw new E("text")', the text by a wide index -/
theorem vx_throwSW {cc : ByteArray} {pc : Nat} (hexec : p.tables.exec = Jvm.exec) (hb : c.code = cc) (hl : l.stackTraces = false) {own cls text : String} {names : List String} {ik is ic mc ms sa : Nat} {A : Nat → Prop}
    (hown : s.vm.findClass own = some m.cls) (hcls : Bundle.fit cls = true) (hnames : ∀ n ∈ names, Bundle.fit n = true)
    (hk : (Cond.classLink own ik cls).before args s = true) (hini : (Cond.initialized cls).before args s = true) (hstr : vk_R own is text sa s) (hat : ∀ w ∈ vx_atS own ic cls names, w.before args s = true)
    (hgood : ∀ w ∈ Cond.classLink own ik cls :: Cond.initialized cls :: vx_atS own ic cls names, vx_ot w = true)
    (hU : vx_Zq Bundle.tN "UNASSIGNED_STACK" Bundle.steD A s s.heap) (hN : vx_Zq Bundle.tN "SUPPRESSED_SENTINEL" Bundle.listD A s s.heap) (hS : va_S A s.heap H locs) (hsize : ls.size = c.maxLocals)
    (d0 : decode cc pc = .ok (.new ik, 3)) (d3 : decode cc (pc + 3) = .ok (.dup, 1)) (d4 : decode cc (pc + 4) = .ok (.ldc_w is, 3)) (d7 : decode cc (pc + 7) = .ok (.invokespecial ic, 3)) (d10 : decode cc (pc + 10) = .ok (.athrow, 1))
    (hout : ∀ x ∈ c.exceptionTable.toList, covers x (pc + 10) = false)
    (hRframes : names.length + 3 < R.frames) (hRlocals : (rest.map fun v => v.category).sum + (13 * (names.length + 1) + 43) ≤ R.locals) (hRcells : cells + 1 ≤ R.cells) (hRslots : slots + 6 ≤ R.slots) (hlocks : meth.locks = false)
    (hx : ∀ t : State, s.vm.Alike t.vm → H.size ≤ t.heap.size → (∀ q : Nat, q < H.size → t.heap[q]? = H[q]?) → XC cls s t)
    (hf : ∀ z ∈ locs, free z.base) (hc : cells + 1 ≤ mc) (hs : slots + 6 ≤ ms) :
    W p l e R s m args below meth c H locs cells slots (vx_MQ below Qc XC args s mc ms free) (F0 m pc ls rest) := by
  intro T hT X
  have htr : e.platform.stackTraces = false := (show e.platform.stackTraces = l.stackTraces by rw [X.admits.platform]).trans hl
  have Y := vx_rebase X (R' := { frames := R.frames, locals := R.locals, cells := 1, slots := 6 }) (Nat.le_refl _) (Nat.le_refl _) hRcells hRslots
  obtain ⟨s', hA⟩ : ∃ z, z = (T.setVm s.vm).setFrames (.invoking m args :: below) := ⟨_, rfl⟩
  rw [← hA] at Y
  have hvm : s'.vm = s.vm := by rw [hA]; rfl
  have hhp : s'.heap = H := by rw [hA]; exact hT
  have hW0 : s.WarmedH s'.vm := by rw [hvm]; exact State.WarmedH.refl s
  have hat' : ∀ w ∈ vx_atS own ic cls names, w.before args s' = true := fun w hw => vx_ot_at hW0 hvm.symm (hgood w (List.mem_cons_of_mem _ (List.mem_cons_of_mem _ hw))) (hat w hw)
  have hk' : (Cond.classLink own ik cls).before args s' = true := vx_ot_at hW0 hvm.symm (hgood _ List.mem_cons_self) hk
  have hini' : (Cond.initialized cls).before args s' = true := vx_ot_at hW0 hvm.symm (hgood _ (List.mem_cons_of_mem _ List.mem_cons_self)) hini
  have hU' : vx_Zq Bundle.tN "UNASSIGNED_STACK" Bundle.steD A s' s'.heap := by rw [hhp]; exact vx_Zq.moved hW0.alike (hU.kept hS.2.1)
  have hN' : vx_Zq Bundle.tN "SUPPRESSED_SENTINEL" Bundle.listD A s' s'.heap := by rw [hhp]; exact vx_Zq.moved hW0.alike (hN.kept hS.2.1)
  have h : ∀ w ∈ Bundle.ownAtoms own ic cls names, w.before args s' = true := vx_own hat' (vx_isRefq hU'.1) (vx_isRefq hN'.1) hU'.2.word hN'.2.word
  have hown' : s'.vm.findClass own = some m.cls := by rw [hvm]; exact hown
  have hins : (Cond.instantiable cls 6).before args s' = true := h _ (by simp [Bundle.ownAtoms])
  obtain ⟨vm₁, cX, kX, hfX, hkX, -, -, X₁, st1⟩ := Y.newCold hexec (own := own) (C := cls) (index := ik) (n := 6) hown' hk' hins hini'
    (g := F0 m pc ls rest) rfl (by rw [hb]; exact d0) (Nat.le_refl _) (Nat.le_refl _)
  generalize hT1 : (T.setVm vm₁).pushCell { cls := cX, slots := kX.instanceTypes.map defaultValue, vm := .none } = T1 at X₁ st1
  have hcat : (Value.ref T.heap.size).category = 1 := rfl
  have hcellA : T1.heap[T.heap.size]? = some (freshCell cX kX) := by rw [← hT1]; exact State.heap_pushCell_size _ _
  have d3' : decode c.code (pc + 3) = .ok (.dup, 1) := by rw [hb]; exact d3
  have d4' : decode c.code (pc + 4) = .ok (.ldc_w is, 3) := by rw [hb]; exact d4
  have hstr' : vk_R own is text sa s' := vk_R.warm hW0 hstr
  obtain ⟨U, hsteps, hrun, hend, hW, hsame, ce, hce, hO⟩ := X₁.ctorThrowS hexec htr (own := own) (cls := cls) (names := names) (ic := ic) hown' hcls hnames h (fun x hx => nomatch hx) hfX hkX hcellA (by rw [hhp, hT]; exact Nat.le_refl _) (msg := .ref sa) rfl
    (g := { method := m, pc := pc + 7, locals := ls, stack := .ref sa :: .ref T.heap.size :: .ref T.heap.size :: rest, locked := none }) rfl hsize rfl rfl (rest := rest) rfl
    (by rw [hb]; exact d7) (by rw [hb]; exact d10) hout hRframes (by simp only [List.map_cons, List.sum_cons, hcat]; omega) hlocks
  obtain ⟨f1, f2⟩ := vx_frame hsame
  rw [hhp] at f1 f2
  have hWs : s.WarmedH U.vm := State.WarmedH.trans hW0 hW
  have hcl : s.vm.findClass cls = some ce.cls := by
    have h9 := hO.cls
    rw [hvm] at h9
    exact h9
  have hall : s.sameButNew ({ U with vm := s.vm } : State) locs mc ms := by
    subst hA
    obtain ⟨e1, e2⟩ := hsame
    rw [State.setFrames_setFrames] at e1
    have h2 : (T.setVm s.vm).sameButNew ({ U with vm := s.vm } : State) [] (0 + 1) (0 + 6) := ⟨e1, e2⟩
    have h3 := X.same.trans h2
    rw [List.append_nil] at h3
    exact h3.mono hc hs
  refine ⟨U, ?_, .threw T.heap.size, hrun, hend, Or.inr ⟨T.heap.size, rfl, cls, ce, locs, hx U hWs.alike f1 (fun q hq => f2 q hq (fun z hz => nomatch hz)), hce, hO.vm, hcl, hWs, hall, hf⟩⟩
  refine st1 _ ?_
  show Steps p.tables e below (T1.setTop { method := m, pc := pc + 3, locals := ls, stack := .ref T.heap.size :: rest, locked := none }) _
  jvm_step X₁.here [X₁.here.top, hexec, d3', Value.category]
  exact X₁.ldcStringW hexec (own := own) (text := text) (index := is) (a := sa) hown' hstr'.1 hstr'.2
    (g := { method := m, pc := pc + 4, locals := ls, stack := .ref T.heap.size :: .ref T.heap.size :: rest, locked := none }) rfl d4' _ hsteps
end Ends
section Bodies
variable {l : Launch}
theorem vx_ofW {y : MethodName} {ws ws' : List Cond} {rm : Room} {Pc : Array Value → State → Prop} {Qc : Array Value → State → Outcome → State → Prop} {XC : String → State → State → Prop} {mc ms : Nat} {free : Addr → Prop} {cc : ByteArray} {maxL : Nat} {ret : Option FieldType}
    (hy : plainName y.cls = true) (hw : ws = Cond.code y cc maxL ret :: ws')
    (body : ∀ p e s m args below meth c s₁, BodyLoose p l y (headSpec ws rm) cc maxL ret e s m args below meth c s₁ → c.maxLocals = maxL → (∀ x ∈ c.exceptionTable.toList, False) → Pc args s →
      W p l e (headSpec ws rm).room s m args below meth c s.heap [] 0 0 (vx_MQ below Qc XC args s mc ms free) (entryFrame m args maxL)) : vx_Met l y ws rm Pc Qc XC mc ms free := by
  refine MetFree.of_bodyS (code := cc) (maxLocals := maxL) (ret := ret) hy ?_ ?_
  · intro args s m h hn
    obtain ⟨meth, c, h1, h2, h3, h4, h5, h6, -, -⟩ := Cond.code_spec hn (atoms_spec (ws := ws) h _ (by rw [hw]; exact List.mem_cons_self))
    exact ⟨meth, c, h1, h2, h3, h4, h5, h6⟩
  · intro p e s m args below meth c s₁ B hml hP _
    have hh0 : s₁.heap = s.heap := by rw [B.state]; rfl
    have ht : ∀ x ∈ c.exceptionTable.toList, False := by
      obtain ⟨meth9, c9, h1, h2, -, -, -, -, h7, -⟩ := Cond.code_spec B.named (atoms_spec (ws := ws) B.pre _ (by rw [hw]; exact List.mem_cons_self))
      cases Option.some.inj (h1.symm.trans B.method)
      cases Option.some.inj (h2.symm.trans (Stand.of_body B).code)
      intro x hx
      rw [Array.isEmpty_iff.mp h7] at hx
      cases hx
    obtain ⟨t, a1, o, b1, b2, b3⟩ := body p e s m args below meth c s₁ B hml ht hP s₁ hh0 (Stand.of_body B)
    exact ⟨t, o, a1, b1, b2, b3⟩
/-- the table of a body with handlers -/
theorem vx_table {p : Program} {x y : MethodName} {S : Spec} {cc bytes : ByteArray} {maxL maxL' : Nat} {ret ret' : Option FieldType} {e : Env} {s s₁ : State} {m : MethodId} {args : Array Value} {below : List Frame} {meth : Method} {c : Code} {hh : List (Nat × Nat × Nat × Nat)}
    (B : BodyLoose p l y S cc maxL ret e s m args below meth c s₁) (h : (Cond.codeWith y bytes maxL' ret' hh).before args s = true) : c.exceptionTable.toList = tableOf hh := by
  obtain ⟨m9, meth9, c9, hn9, h1, h2, -, -, h6, -⟩ := Cond.codeWith_spec h
  cases Option.some.inj (hn9.symm.trans B.named)
  cases Option.some.inj (h1.symm.trans B.method)
  cases Option.some.inj (h2.symm.trans (Stand.of_body B).code)
  rw [← h6, table_eq]
end Bodies
end VXA
/-! ===== END ===== -/
/-! ===== BEGIN a static call of a method with an exception table ===== -/
section VXS
variable {p : Program} {l : Launch} {e : Env} {R : Room} {s : State} {m : MethodId} {args : Array Value} {below : List Frame} {meth : Method} {c : Code} {T : State} {H : Heap} {locs : List Loc} {cells slots : Nat}
abbrev vx_CSW (R : Room) (s : State) (args : Array Value) (own : String) (index : Nat) (y : MethodName) (bytes : ByteArray) (maxL : Nat) (ret : Option FieldType) (hh : List (Nat × Nat × Nat × Nat)) (ws : List Cond) (rm : Room) (mc ms n : Nat) : Prop :=
  (rm.cells = mc ∧ rm.slots = ms ∧ rm.frames + 1 ≤ R.frames ∧ 8 + (maxL + 11) + rm.locals ≤ R.locals ∧ (∀ w ∈ ws, ∀ (a' : Array Value) (U : State), s.WarmedH U.vm → w.before a' U = true) ∧ Cond.codeWith y bytes maxL ret hh ∈ ws) ∧
  (Cond.codeWith y bytes maxL ret hh).before args s = true ∧ (Cond.initialized y.cls).before args s = true ∧ (y.cls ≠ "java/lang/invoke/MethodHandle" ∧ y.cls ≠ "java/lang/invoke/VarHandle") ∧
  (∀ sig, parseMethodDescriptor y.desc = some sig → n = sig.parameters.length) ∧ (Cond.methodLink own index y).before args s = true ∧ (Cond.static y).before args s = true
theorem vx_cwSW {own : String} {index maxL mc ms : Nat} {y : MethodName} {bytes : ByteArray} {ret : Option FieldType} {hh : List (Nat × Nat × Nat × Nat)} {Ts ws ws' : List Cond} {rm : Room} (n : Nat) (ht : ∀ w ∈ Ts, w.before args s = true) (hT : GoodIn Ts (va_wsS own index y ws)) (hw : ws = Cond.codeWith y bytes maxL ret hh :: ws') (hrc : rm.cells = mc) (hrs : rm.slots = ms)
    (hd : y.cls ≠ "java/lang/invoke/MethodHandle" ∧ y.cls ≠ "java/lang/invoke/VarHandle" ∧ (parseMethodDescriptor y.desc).map (fun d => d.parameters.length) = some n) (hR : rm.frames + 1 ≤ R.frames ∧ 8 + (maxL + 11) + rm.locals ≤ R.locals) :
    vx_CSW R s args own index y bytes maxL ret hh ws rm mc ms n := by
  have ok : ∀ w ∈ va_wsS own index y ws, w.before args s = true := fun w h => ht w (hT w h).1
  have hG : GoodIn Ts ws := fun w h => hT w (by unfold va_wsS; exact List.mem_append_right _ h)
  have hc : Cond.codeWith y bytes maxL ret hh ∈ ws := by rw [hw]; exact List.mem_cons_self
  refine ⟨⟨hrc, hrs, hR.1, hR.2, pay_in ht hG, hc⟩, ht _ (hG _ hc).1, ok _ (by simp [va_wsS]), ⟨hd.1, hd.2.1⟩, fun sig h => ?_, ok _ (by simp [va_wsS]), ok _ (by simp [va_wsS])⟩
  have h2 := hd.2.2
  rw [h] at h2
  exact (Option.some.inj h2).symm
theorem vx_callSW (X : Stand p l e R s m args below meth c T locs cells slots) (hexec : p.tables.exec = Jvm.exec) {own : String} {index : Nat} {y : MethodName} {bytes : ByteArray} {maxL : Nat} {ret : Option FieldType} {hh : List (Nat × Nat × Nat × Nat)}
    (hown : s.vm.findClass own = some m.cls) (hlink : (Cond.methodLink own index y).before args s = true) (hstat : (Cond.static y).before args s = true) (hinit : (Cond.initialized y.cls).before args s = true)
    (hcode : (Cond.codeWith y bytes maxL ret hh).before args s = true) (hy : y.cls ≠ "java/lang/invoke/MethodHandle" ∧ y.cls ≠ "java/lang/invoke/VarHandle")
    {W9 : Nat} {Pre : Pt → Array Value → Prop} {Post : Pt → Array Value → Option Value → Pt → Prop} (hK : Back l R p e below s args y 3 W9 Pre Post)
    {g : JFrame} (hg : g.method = m) (hsize : g.locals.size = c.maxLocals) {argsL rest : List Value} (hlen : ∀ sig, parseMethodDescriptor y.desc = some sig → argsL.length = sig.parameters.length)
    (hstack : g.stack = argsL.reverse ++ rest) (hW : 2 * g.monitorRoom + (rest.map fun v => v.category).sum ≤ W9) (hdg : decode c.code g.pc = .ok (.invokestatic index, 3))
    (hpre : ∀ vm₁, s.WarmedH vm₁ → Pre ⟨T.setVm vm₁, locs, cells, slots⟩ argsL.toArray) :
    ∃ (v : Option Value) (vm₁ : Vm) (B : Pt), s.WarmedH vm₁ ∧ Stand p l e R s m args below meth c B.U B.locs B.cells B.slots ∧ Post ⟨T.setVm vm₁, locs, cells, slots⟩ argsL.toArray v B ∧
      ∀ target, Steps p.tables e below (B.U.setTop { g with pc := g.pc + 3, stack := v.toList ++ rest }) target → Steps p.tables e below (T.setTop g) target := by
  obtain ⟨mk, methM, cM, hnamed, hmethM, -, -, -, -, -, -, hsigM⟩ := Cond.codeWith_spec hcode
  have hstatic : methM.isStatic = true := Cond.static_spec hnamed hmethM hstat
  obtain ⟨kP, hkP, -⟩ := className_of_methodNamed hnamed
  have hinitP : kP.init = .initialized := Cond.initialized_spec (findClass_of_methodNamed hnamed) hkP hinit
  obtain ⟨vm₁, X₁, hstep₁⟩ := X.invokestatic hexec hown hlink hnamed hmethM hstatic hkP hinitP hy (g := g) hg (argsL := argsL) (rest := rest) (hlen _ hsigM) hstack hdg
  obtain ⟨v, B, X', hpost, hsteps⟩ := hK m meth c ⟨T.setVm vm₁, locs, cells, slots⟩ { g with stack := rest } (.invokestatic index) mk argsL.toArray X₁ hg hsize hdg hW (X₁.named hnamed) (hpre vm₁ X₁.warmed)
  exact ⟨v, vm₁, B, X₁.warmed, X', hpost, fun target h => hstep₁ _ fun acts => by rw [doInvoke_state]; exact hsteps.trans h⟩
theorem vx_runSW {y : MethodName} {bytes cc : ByteArray} {maxL nL mc ms n index : Nat} {ret : Option FieldType} {hh : List (Nat × Nat × Nat × Nat)} {ws : List Cond} {rm : Room} {Pc : Array Value → State → Prop} {Qc : Array Value → State → Outcome → State → Prop} {free : Addr → Prop} {Ts : List Cond} {own : String} {As rest : List Value} {g : JFrame}
    (S : CallFix p m c cc nL s args Ts own) (hM : Met l y ws rm Pc Qc mc ms free) (cw : vx_CSW R s args own index y bytes maxL ret hh ws rm mc ms n) (hp : PreS s H Pc As)
    (hg : g.method = m) (hn : As.length = n) (hsize : g.locals.size = nL) (hstack : g.stack = As.reverse ++ rest) (hW : 2 * g.monitorRoom + (rest.map fun v => v.category).sum ≤ 8) (hdg : decode cc g.pc = .ok (.invokestatic index, 3)) (hf : cells + mc ≤ R.cells ∧ slots + ms ≤ R.slots) :
    va_Run p l e R s m args below meth c H locs cells slots mc ms g rest (Qc As.toArray) (free) := by
  obtain ⟨⟨hrc, hrs, hfr, hlo, hws, hcw⟩, hcode, hini, hy, hlen, hl, hstt⟩ := cw
  have hK : Back l R p e below s args y 3 8 (PreOf R mc ms Pc) (PostOf Qc mc ms free) := va_backW (hh := hh) (bytes := bytes) (maxL := maxL) (ret := ret) hM hp.1 hrc hrs hfr hlo hws hcw (fun a' U hW => word_at hW (Or.inl (by first | rfl | simp [Cond.onTables, Cond.keeps, Cond.steady])) hini)
  obtain ⟨hx, hb, hml, ho, -⟩ := S
  intro T hT X
  obtain ⟨v, vm₁, ⟨U', l2, c2, s2⟩, hW₁, X', ⟨g', mk, t, L, e1, e2, hq, h1, hL, h2, h3⟩, st⟩ := vx_callSW X hx (hh := hh) (bytes := bytes) (maxL := maxL) (ret := ret) ho hl hstt hini hcode hy hK hg (hsize.trans hml.symm) (argsL := As) (rest := rest) (fun sig h => hn.trans (hlen sig h)) hstack hW (by rw [hb]; exact hdg)
    (fun vm₁ hW₁ => ⟨hf.1, hf.2, hp.2 (T.setVm vm₁) hT hW₁⟩)
  dsimp only [Pt.U, Pt.locs, Pt.cells, Pt.slots] at X' e1 e2 h1 h2 h3 st
  subst h1; subst h2; subst h3
  exact ⟨v, (T.setVm vm₁).calling g' mk As.toArray, t, U', L, hT, X', hL, e1, e2, hq, st⟩
/-- not caught here, past rows that name other classes: it goes on to the caller -/
theorem vx_outP {p : Program} {l : Launch} {e : Env} {R : Room} {s : State} {m : MethodId} {args : Array Value} {below : List Frame} {meth : Method} {c : Code} {H : Heap} {locs : List Loc} {cells slots : Nat} {free : Addr → Prop} {ls : Array Slot} {rest : List Value} {Qc : Array Value → State → Outcome → State → Prop} {XC : String → State → State → Prop}
    {pc : Nat} {own E : String} {ce : Cell} {q : Addr} {mc ms : Nat} (hown : s.vm.findClass own = some m.cls) (hlocks : meth.locks = false)
    (hpass : ∀ z ∈ c.exceptionTable.toList, covers z pc = false ∨ (z.catchType ≠ 0 ∧ ∃ nm : String, (Cond.classLink own z.catchType nm).before args s = true ∧ va_Nc E nm s)) (hcell : H[q]? = some ce) (hv : ce.vm = .none) (hcl : s.vm.findClass E = some ce.cls)
    (hx : ∀ t : State, t.heap = H → s.vm.Alike t.vm → XC E s t) (hf : ∀ z ∈ locs, free z.base) (hc : cells ≤ mc) (hs : slots ≤ ms) :
    vx_W p l e R s m args below meth c H locs cells slots (vx_MQ below Qc XC args s mc ms free) (F0 m pc ls rest) q := by
  intro T hT X
  have hpl : e.platform.magicAccessors = ({} : Platform).magicAccessors := by rw [X.admits.platform]
  obtain ⟨vm', hW', X', st⟩ := X.outThrough hlocks q (g := F0 m pc ls rest) rfl rfl rfl (cell := ce) (by rw [hT]; exact hcell) (by rw [hv]; rfl)
    (by obtain ⟨k9, h9, -⟩ := Vm.findClass_spec hcl; exact ⟨k9, h9⟩) (fun z hz => by
      rcases hpass z hz with h | ⟨hz0, nm, hl1, hn1⟩
      · exact Or.inl h
      · obtain ⟨c6, hc6, hcl6⟩ := Cond.classLink_spec hown hl1 e.platform hpl
        obtain ⟨a8, b8, h1, h2, h3⟩ := hn1
        cases Option.some.inj (h1.symm.trans hcl)
        cases Option.some.inj (h2.symm.trans hc6)
        exact Or.inr ⟨hz0, _, hcl6, h3⟩)
  obtain ⟨g₀, hfr⟩ := X'.frames_eq
  have hcell9 : ((T.setVm vm').setFrames (.throwing q :: below)).heap[q]? = some ce := by
    show T.heap[q]? = some ce
    rw [hT]; exact hcell
  have hend : Ended ((T.setVm vm').setFrames (.throwing q :: below)) below (.threw q) := State.frames_setFrames _ (State.cur_lt_of_frames hfr)
  refine ⟨(T.setVm vm').setFrames (.throwing q :: below), ?_, .threw q, X'.here.running, hend, Or.inr ⟨q, rfl, E, ce, locs, hx _ hT (X'.ends _).1.alike, hcell9, hv, hcl, (X'.ends _).1, (X'.ends _).2.mono hc hs, hf⟩⟩
  rw [X.pushThrowing_eq]
  exact st
/-- a thing of a world lies in the heap -/
theorem vx_lt {D : va_G} {cl : List vw_C} {ws : va_W} {H1 : Heap} (h : va_P D cl ws H1) {k : Nat} {q : Nat × va_E} (hk : ws[k]? = some q) : q.1 < H1.size := (h k q hk).lt
end VXS
/-! ===== END ===== -/
/-! ===== BEGIN methods with a table of their own: called by a name, returning or throwing ===== -/
section VXH
/-! vx_backW, vx_callVX, vx_callSX, vx_callVW, vx_runVW, vx_runVX, vx_runSX, vx_ofWH follow the same proofs as their sisters above (Free/Laws.lean, Shelf42/LK1.lean); vx_outP calls Shelf42/NT130.lean (outThrough). -/
section
variable {l : Launch} {R : Room} {p : Program} {e : Env} {below : List Frame} {s : State} {sargs : Array Value} {y : MethodName} {len W9 : Nat}
theorem vx_backW {ws : List Cond} {rm : Room} {Pc : Array Value → State → Prop} {Qc : Array Value → State → Outcome → State → Prop} {XC : String → State → State → Prop} {mc ms : Nat} {free : Addr → Prop} {bytes : ByteArray} {maxL : Nat} {ret : Option FieldType} {hh : List (Nat × Nat × Nat × Nat)}
    (hM : vx_Met l y ws rm Pc Qc XC mc ms free) (hblind : FrameBlind Pc) (hrc : rm.cells = mc) (hrs : rm.slots = ms)
    (hframes : rm.frames + 1 ≤ R.frames) (hlocals : W9 + (maxL + 11) + rm.locals ≤ R.locals)
    (hws : ∀ w ∈ ws, ∀ a' U, s.WarmedH U.vm → w.before a' U = true) (hcode : Cond.codeWith y bytes maxL ret hh ∈ ws) (hinit : ∀ a' U, s.WarmedH U.vm → (Cond.initialized y.cls).before a' U = true) :
    vx_Back l R p e below s sargs y len W9 (PreOf R mc ms Pc) (PostOf Qc mc ms free) (vx_Post XC mc ms free) := by
  intro m meth c A g ig mk a X hg hsize hdg hW hn hp
  have h1 : (headSpec ws rm).pre.before a A.U = true := atoms_intro fun w hw => hws w hw _ _ X.warmed
  have h2 : (Cond.codeWith y bytes maxL ret hh).before a A.U = true := hws _ hcode _ _ X.warmed
  have h3 : (Cond.initialized y.cls).before a A.U = true := hinit _ _ X.warmed
  have h4 : A.cells + (headSpec ws rm).room.cells ≤ R.cells := by rw [show (headSpec ws rm).room.cells = mc from hrc]; exact hp.1
  have h5 : A.slots + (headSpec ws rm).room.slots ≤ R.slots := by rw [show (headSpec ws rm).room.slots = ms from hrs]; exact hp.2.1
  have hPc : Pc a (A.U.calling g mk a) := hblind _ _ _ _ hp.2.2
  obtain ⟨U, Ls, c0, s0⟩ := A
  dsimp only [Pt.U, Pt.locs, Pt.cells, Pt.slots] at h1 h2 h3 h4 h5 X hn hPc ⊢
  obtain ⟨m9, methY, cY, hn9, hmY, hcY, -, hlY, -⟩ := Cond.codeWith_spec h2
  cases Option.some.inj (hn9.symm.trans hn)
  obtain ⟨kY, hkY, -⟩ := className_of_methodNamed hn
  have hinitY : kY.init = .initialized := Cond.initialized_spec (findClass_of_methodNamed hn) hkY h3
  have h : At U g.method c below := by rw [hg]; exact X.here
  have hlocals9 : W9 + (maxL + 11) + (headSpec ws rm).room.locals ≤ R.locals := hlocals
  have happ : (headSpec ws rm).appliesLoose y e.platform (U.calling g mk a) = true :=
    Spec.appliesLoose_calling (g := g) h hdg hn hkY hinitY
      (X.room_calling (g := g) (R' := (headSpec ws rm).room) hsize hmY hcY hframes (by rw [hlY]; omega) h4 h5) h1
  obtain ⟨mid, hmid⟩ := h.above
  have hfr : (U.setTop g).frames = (.java g :: mid) ++ below := by rw [State.frames_setTop' g h.top, hmid]; rfl
  obtain ⟨o, s₂, hsteps, -, hend, hq⟩ := Steps.callFree hM p X.admits X.cas X.clock (acts := []) hfr happ hPc trivial
  have hq' : vx_Q Qc XC mc ms free a (U.calling g mk a) o s₂ := hq
  rw [State.frames_setTop' g h.top] at hend
  obtain ⟨g₀, hg0⟩ := Option.isSome_iff_exists.mp h.top
  obtain ⟨r, hr⟩ := State.topJava?_eq_some.mp hg0
  have hr' : (({ U with heap := s₂.heap, slotsUsed := s₂.slotsUsed } : State).setVm s₂.vm).frames = .java g₀ :: r := hr
  rcases hq' with ⟨hqc, L, hfe, hL⟩ | ⟨q, rfl, E, ce, L, hx, hce, hcv, hcl, hW₂, hsm, hL⟩
  · obtain ⟨⟨v, rfl⟩, hW₂, e2, q2, q3, q4, q5, q6⟩ := id hfe
    have e3 : s₂ = ({ (U.calling g mk a).setFrames s₂.frames with heap := s₂.heap, slotsUsed := s₂.slotsUsed } : State).setVm s₂.vm := by
      have : s₂ = ({ s₂ with vm := (U.calling g mk a).vm } : State).setVm s₂.vm := rfl
      rw [e2] at this
      exact this
    obtain ⟨c₂, i₂, len₂, hc₂, hd₂, hf₂⟩ := hend
    have hW' : U.WarmedH s₂.vm := hW₂
    have hcc : c₂ = c := by
      have h1 : s₂.code? g.method = U.code? g.method := by
        rw [State.code?_eq, State.code?_eq, hW'.alike.method?]
      exact Option.some.inj (hc₂.symm.trans (h1.trans h.code))
    subst hcc
    have hlen : len₂ = len := by rw [hdg] at hd₂; cases hd₂; rfl
    subst hlen
    have hs₂ : s₂ = (({ U with heap := s₂.heap, slotsUsed := s₂.slotsUsed } : State).setVm s₂.vm).setTop { g with pc := g.pc + len₂, stack := v.toList ++ g.stack } := by
      refine e3.trans ?_
      rw [hf₂, State.calling_eq h.top, State.setFrames_setFrames, State.setTop_of_frames _ hr', hr]
      rfl
    have hsame : U.sameButNew ({ U with heap := s₂.heap, slotsUsed := s₂.slotsUsed } : State) L mc ms := by
      refine ⟨?_, q2, q3, q4, q5, q6⟩
      obtain ⟨t, ht, -⟩ := State.frames_cons hr
      show ({ U with heap := s₂.heap, slotsUsed := s₂.slotsUsed } : State) = { U.setFrames U.frames with heap := s₂.heap, slotsUsed := s₂.slotsUsed }
      rw [State.setFrames_self ht]
    subst hg
    refine Or.inl ⟨v, ⟨(({ U with heap := s₂.heap, slotsUsed := s₂.slotsUsed } : State).setVm s₂.vm), Ls ++ L, c0 + mc, s0 + ms⟩,
      ⟨X.admits, X.cas, X.clock, X.frames, X.room, X.hears, X.method, X.code, (X.here.setHeapUsed s₂.heap s₂.slotsUsed).setVm hW'.alike, X.tail, State.WarmedH.trans X.warmed hW', X.limits, X.bytes, X.same.trans (hsame.setVm s.vm)⟩,
      ⟨g, mk, s₂, L, rfl, rfl, hqc, rfl, hL, rfl, rfl⟩, ?_⟩
    show Steps p.tables e below _ ((({ U with heap := s₂.heap, slotsUsed := s₂.slotsUsed } : State).setVm s₂.vm).setTop { g with pc := g.pc + len₂, stack := v.toList ++ g.stack })
    rw [← hs₂]
    exact hsteps
  · obtain ⟨e2, q2, q3, q4, q5, q6⟩ := id hsm
    have e3 : s₂ = ({ (U.calling g mk a).setFrames s₂.frames with heap := s₂.heap, slotsUsed := s₂.slotsUsed } : State).setVm s₂.vm := by
      have : s₂ = ({ s₂ with vm := (U.calling g mk a).vm } : State).setVm s₂.vm := rfl
      rw [e2] at this
      exact this
    have hf₂ : s₂.frames = .throwing q :: .java g :: U.frames.tail := hend
    have hW' : U.WarmedH s₂.vm := hW₂
    have hs₂ : s₂ = ((({ U with heap := s₂.heap, slotsUsed := s₂.slotsUsed } : State).setVm s₂.vm).setTop g).pushFrame (.throwing q) := by
      refine e3.trans ?_
      rw [hf₂, State.calling_eq h.top, State.setFrames_setFrames, State.pushFrame, State.frames_setTop _ hr', State.setTop_of_frames _ hr', State.setFrames_setFrames, hr]
      rfl
    have hsame : U.sameButNew ({ U with heap := s₂.heap, slotsUsed := s₂.slotsUsed } : State) L mc ms := by
      refine ⟨?_, q2, q3, q4, q5, q6⟩
      obtain ⟨t, ht, -⟩ := State.frames_cons hr
      show ({ U with heap := s₂.heap, slotsUsed := s₂.slotsUsed } : State) = { U.setFrames U.frames with heap := s₂.heap, slotsUsed := s₂.slotsUsed }
      rw [State.setFrames_self ht]
    subst hg
    refine Or.inr ⟨q, ⟨(({ U with heap := s₂.heap, slotsUsed := s₂.slotsUsed } : State).setVm s₂.vm), Ls ++ L, c0 + mc, s0 + ms⟩,
      ⟨X.admits, X.cas, X.clock, X.frames, X.room, X.hears, X.method, X.code, (X.here.setHeapUsed s₂.heap s₂.slotsUsed).setVm hW'.alike, X.tail, State.WarmedH.trans X.warmed hW', X.limits, X.bytes, X.same.trans (hsame.setVm s.vm)⟩,
      ⟨g, mk, s₂, L, E, ce, rfl, rfl, hx, hce, hcv, hcl, rfl, hL, rfl, rfl⟩, ?_⟩
    show Steps p.tables e below _ (((({ U with heap := s₂.heap, slotsUsed := s₂.slotsUsed } : State).setVm s₂.vm).setTop g).pushFrame (.throwing q))
    rw [← hs₂]
    exact hsteps
end
variable {p : Program} {l : Launch} {e : Env} {R : Room} {s : State} {m : MethodId} {args : Array Value} {below : List Frame} {meth : Method} {c : Code} {T : State} {H : Heap} {locs : List Loc} {cells slots : Nat}
theorem vx_callVX (X : Stand p l e R s m args below meth c T locs cells slots) (hexec : p.tables.exec = Jvm.exec) {own C : String} {index : Nat} {y : MethodName} {bytes : ByteArray} {maxL : Nat} {ret : Option FieldType} {hh : List (Nat × Nat × Nat × Nat)}
    (hown : s.vm.findClass own = some m.cls) (hlink : (Cond.methodLink own index y).before args s = true) (hinst : (Cond.instanceMethod y).before args s = true) (hsel : (Cond.selects C y y).before args s = true)
    (hcode : (Cond.codeWith y bytes maxL ret hh).before args s = true) (hy : y.cls ≠ "java/lang/invoke/MethodHandle" ∧ y.cls ≠ "java/lang/invoke/VarHandle")
    {W9 : Nat} {Pre : Pt → Array Value → Prop} {Post : Pt → Array Value → Option Value → Pt → Prop} {PostX : Pt → Array Value → Addr → Pt → Prop} (hK : vx_Back l R p e below s args y 3 W9 Pre Post PostX)
    {b : Addr} {cellB : Cell} (hcell : T.heap[b]? = some cellB) (hobj : cellB.vm.isStatics = false) (hcls : s.vm.findClass C = some cellB.cls)
    {g : JFrame} (hg : g.method = m) (hsize : g.locals.size = c.maxLocals) {argsL rest : List Value} (hlen : ∀ sig, parseMethodDescriptor y.desc = some sig → argsL.length = sig.parameters.length)
    (hstack : g.stack = argsL.reverse ++ .ref b :: rest) (hW : 2 * g.monitorRoom + (rest.map fun v => v.category).sum ≤ W9) (hdg : decode c.code g.pc = .ok (.invokevirtual index, 3))
    (hpre : ∀ vm₁, s.WarmedH vm₁ → Pre ⟨T.setVm vm₁, locs, cells, slots⟩ (Value.ref b :: argsL).toArray) :
    (∃ (v : Option Value) (vm₁ : Vm) (B : Pt), s.WarmedH vm₁ ∧ Stand p l e R s m args below meth c B.U B.locs B.cells B.slots ∧ Post ⟨T.setVm vm₁, locs, cells, slots⟩ (Value.ref b :: argsL).toArray v B ∧
      ∀ target, Steps p.tables e below (B.U.setTop { g with pc := g.pc + 3, stack := v.toList ++ rest }) target → Steps p.tables e below (T.setTop g) target) ∨
    (∃ (q : Addr) (vm₁ : Vm) (B : Pt), s.WarmedH vm₁ ∧ Stand p l e R s m args below meth c B.U B.locs B.cells B.slots ∧ PostX ⟨T.setVm vm₁, locs, cells, slots⟩ (Value.ref b :: argsL).toArray q B ∧
      Steps p.tables e below (T.setTop g) ((B.U.setTop { g with stack := rest }).pushFrame (.throwing q))) := by
  obtain ⟨mk, methM, hnamed, hmethM, hstM, habM⟩ := Cond.instanceMethod_spec hinst
  obtain ⟨m8, methM', cM, hn8, hmethM', -, -, -, -, -, -, hsigM⟩ := Cond.codeWith_spec hcode
  cases Option.some.inj (hn8.symm.trans hnamed)
  cases hmethM.symm.trans hmethM'
  obtain ⟨c2, r2, m2, q1, q2, q3, q4, kP, hkP, hkPi⟩ := Cond.selects_spec hsel
  cases hcls.symm.trans q1
  cases (State.methodFound?_of_named hnamed hy).symm.trans q2
  cases hnamed.symm.trans q3
  have hselP : selectMethod e.platform s.vm cellB.cls mk = .method mk := by rw [Launch.admits_selectMethod X.admits]; exact q4
  obtain ⟨vm₁, X₁, hstep₁⟩ := X.invokevirtual hexec hown hlink hnamed hmethM hstM hkP hkPi hy (a := b) (cell := cellB) hcell
    (fun z h => by rw [h] at hobj; cases hobj) hselP hmethM habM hkP hkPi (g := g) hg (argsL := argsL) (rest := rest) (hlen _ hsigM) hstack hdg
  rcases hK m meth c ⟨T.setVm vm₁, locs, cells, slots⟩ { g with stack := rest } (.invokevirtual index) mk (Value.ref b :: argsL).toArray X₁ hg hsize hdg hW (X₁.named hnamed) (hpre vm₁ X₁.warmed) with ⟨v, B, X', hpost, hsteps⟩ | ⟨q, B, X', hpost, hsteps⟩
  · exact Or.inl ⟨v, vm₁, B, X₁.warmed, X', hpost, fun target h => hstep₁ _ fun acts => by rw [doInvoke_state]; exact hsteps.trans h⟩
  · exact Or.inr ⟨q, vm₁, B, X₁.warmed, X', hpost, hstep₁ _ fun acts => by rw [doInvoke_state]; exact hsteps⟩
theorem vx_callSX (X : Stand p l e R s m args below meth c T locs cells slots) (hexec : p.tables.exec = Jvm.exec) {own : String} {index : Nat} {y : MethodName} {bytes : ByteArray} {maxL : Nat} {ret : Option FieldType} {hh : List (Nat × Nat × Nat × Nat)}
    (hown : s.vm.findClass own = some m.cls) (hlink : (Cond.methodLink own index y).before args s = true) (hstat : (Cond.static y).before args s = true) (hinit : (Cond.initialized y.cls).before args s = true)
    (hcode : (Cond.codeWith y bytes maxL ret hh).before args s = true) (hy : y.cls ≠ "java/lang/invoke/MethodHandle" ∧ y.cls ≠ "java/lang/invoke/VarHandle")
    {W9 : Nat} {Pre : Pt → Array Value → Prop} {Post : Pt → Array Value → Option Value → Pt → Prop} {PostX : Pt → Array Value → Addr → Pt → Prop} (hK : vx_Back l R p e below s args y 3 W9 Pre Post PostX)
    {g : JFrame} (hg : g.method = m) (hsize : g.locals.size = c.maxLocals) {argsL rest : List Value} (hlen : ∀ sig, parseMethodDescriptor y.desc = some sig → argsL.length = sig.parameters.length)
    (hstack : g.stack = argsL.reverse ++ rest) (hW : 2 * g.monitorRoom + (rest.map fun v => v.category).sum ≤ W9) (hdg : decode c.code g.pc = .ok (.invokestatic index, 3))
    (hpre : ∀ vm₁, s.WarmedH vm₁ → Pre ⟨T.setVm vm₁, locs, cells, slots⟩ argsL.toArray) :
    (∃ (v : Option Value) (vm₁ : Vm) (B : Pt), s.WarmedH vm₁ ∧ Stand p l e R s m args below meth c B.U B.locs B.cells B.slots ∧ Post ⟨T.setVm vm₁, locs, cells, slots⟩ argsL.toArray v B ∧
      ∀ target, Steps p.tables e below (B.U.setTop { g with pc := g.pc + 3, stack := v.toList ++ rest }) target → Steps p.tables e below (T.setTop g) target) ∨
    (∃ (q : Addr) (vm₁ : Vm) (B : Pt), s.WarmedH vm₁ ∧ Stand p l e R s m args below meth c B.U B.locs B.cells B.slots ∧ PostX ⟨T.setVm vm₁, locs, cells, slots⟩ argsL.toArray q B ∧
      Steps p.tables e below (T.setTop g) ((B.U.setTop { g with stack := rest }).pushFrame (.throwing q))) := by
  obtain ⟨mk, methM, cM, hnamed, hmethM, -, -, -, -, -, -, hsigM⟩ := Cond.codeWith_spec hcode
  have hstatic : methM.isStatic = true := Cond.static_spec hnamed hmethM hstat
  obtain ⟨kP, hkP, -⟩ := className_of_methodNamed hnamed
  have hinitP : kP.init = .initialized := Cond.initialized_spec (findClass_of_methodNamed hnamed) hkP hinit
  obtain ⟨vm₁, X₁, hstep₁⟩ := X.invokestatic hexec hown hlink hnamed hmethM hstatic hkP hinitP hy (g := g) hg (argsL := argsL) (rest := rest) (hlen _ hsigM) hstack hdg
  rcases hK m meth c ⟨T.setVm vm₁, locs, cells, slots⟩ { g with stack := rest } (.invokestatic index) mk argsL.toArray X₁ hg hsize hdg hW (X₁.named hnamed) (hpre vm₁ X₁.warmed) with ⟨v, B, X', hpost, hsteps⟩ | ⟨q, B, X', hpost, hsteps⟩
  · exact Or.inl ⟨v, vm₁, B, X₁.warmed, X', hpost, fun target h => hstep₁ _ fun acts => by rw [doInvoke_state]; exact hsteps.trans h⟩
  · exact Or.inr ⟨q, vm₁, B, X₁.warmed, X', hpost, hstep₁ _ fun acts => by rw [doInvoke_state]; exact hsteps⟩
theorem vx_callVW (X : Stand p l e R s m args below meth c T locs cells slots) (hexec : p.tables.exec = Jvm.exec) {own C : String} {index : Nat} {y : MethodName} {bytes : ByteArray} {maxL : Nat} {ret : Option FieldType} {hh : List (Nat × Nat × Nat × Nat)}
    (hown : s.vm.findClass own = some m.cls) (hlink : (Cond.methodLink own index y).before args s = true) (hinst : (Cond.instanceMethod y).before args s = true) (hsel : (Cond.selects C y y).before args s = true)
    (hcode : (Cond.codeWith y bytes maxL ret hh).before args s = true) (hy : y.cls ≠ "java/lang/invoke/MethodHandle" ∧ y.cls ≠ "java/lang/invoke/VarHandle")
    {W9 : Nat} {Pre : Pt → Array Value → Prop} {Post : Pt → Array Value → Option Value → Pt → Prop} (hK : Back l R p e below s args y 3 W9 Pre Post)
    {b : Addr} {cellB : Cell} (hcell : T.heap[b]? = some cellB) (hobj : cellB.vm.isStatics = false) (hcls : s.vm.findClass C = some cellB.cls)
    {g : JFrame} (hg : g.method = m) (hsize : g.locals.size = c.maxLocals) {argsL rest : List Value} (hlen : ∀ sig, parseMethodDescriptor y.desc = some sig → argsL.length = sig.parameters.length)
    (hstack : g.stack = argsL.reverse ++ .ref b :: rest) (hW : 2 * g.monitorRoom + (rest.map fun v => v.category).sum ≤ W9) (hdg : decode c.code g.pc = .ok (.invokevirtual index, 3))
    (hpre : ∀ vm₁, s.WarmedH vm₁ → Pre ⟨T.setVm vm₁, locs, cells, slots⟩ (Value.ref b :: argsL).toArray) :
    ∃ (v : Option Value) (vm₁ : Vm) (B : Pt), s.WarmedH vm₁ ∧ Stand p l e R s m args below meth c B.U B.locs B.cells B.slots ∧ Post ⟨T.setVm vm₁, locs, cells, slots⟩ (Value.ref b :: argsL).toArray v B ∧
      ∀ target, Steps p.tables e below (B.U.setTop { g with pc := g.pc + 3, stack := v.toList ++ rest }) target → Steps p.tables e below (T.setTop g) target := by
  obtain ⟨mk, methM, hnamed, hmethM, hstM, habM⟩ := Cond.instanceMethod_spec hinst
  obtain ⟨m8, methM', cM, hn8, hmethM', -, -, -, -, -, -, hsigM⟩ := Cond.codeWith_spec hcode
  cases Option.some.inj (hn8.symm.trans hnamed)
  cases hmethM.symm.trans hmethM'
  obtain ⟨c2, r2, m2, q1, q2, q3, q4, kP, hkP, hkPi⟩ := Cond.selects_spec hsel
  cases hcls.symm.trans q1
  cases (State.methodFound?_of_named hnamed hy).symm.trans q2
  cases hnamed.symm.trans q3
  have hselP : selectMethod e.platform s.vm cellB.cls mk = .method mk := by rw [Launch.admits_selectMethod X.admits]; exact q4
  obtain ⟨vm₁, X₁, hstep₁⟩ := X.invokevirtual hexec hown hlink hnamed hmethM hstM hkP hkPi hy (a := b) (cell := cellB) hcell
    (fun z h => by rw [h] at hobj; cases hobj) hselP hmethM habM hkP hkPi (g := g) hg (argsL := argsL) (rest := rest) (hlen _ hsigM) hstack hdg
  obtain ⟨v, B, X', hpost, hsteps⟩ := hK m meth c ⟨T.setVm vm₁, locs, cells, slots⟩ { g with stack := rest } (.invokevirtual index) mk (Value.ref b :: argsL).toArray X₁ hg hsize hdg hW (X₁.named hnamed) (hpre vm₁ X₁.warmed)
  exact ⟨v, vm₁, B, X₁.warmed, X', hpost, fun target h => hstep₁ _ fun acts => by rw [doInvoke_state]; exact hsteps.trans h⟩
abbrev vx_CVW (R : Room) (s : State) (args : Array Value) (own C : String) (index : Nat) (y : MethodName) (bytes : ByteArray) (maxL : Nat) (ret : Option FieldType) (hh : List (Nat × Nat × Nat × Nat)) (ws : List Cond) (rm : Room) (mc ms n : Nat) : Prop :=
  (rm.cells = mc ∧ rm.slots = ms ∧ rm.frames + 1 ≤ R.frames ∧ 8 + (maxL + 11) + rm.locals ≤ R.locals ∧ (∀ w ∈ ws, ∀ (a' : Array Value) (U : State), s.WarmedH U.vm → w.before a' U = true) ∧ Cond.codeWith y bytes maxL ret hh ∈ ws) ∧
  (Cond.codeWith y bytes maxL ret hh).before args s = true ∧ (Cond.initialized y.cls).before args s = true ∧ (y.cls ≠ "java/lang/invoke/MethodHandle" ∧ y.cls ≠ "java/lang/invoke/VarHandle") ∧
  (∀ sig, parseMethodDescriptor y.desc = some sig → n = sig.parameters.length) ∧ (Cond.methodLink own index y).before args s = true ∧ (Cond.instanceMethod y).before args s = true ∧ (Cond.selects C y y).before args s = true
theorem vx_cwVW {own C : String} {index maxL mc ms : Nat} {y : MethodName} {bytes : ByteArray} {ret : Option FieldType} {hh : List (Nat × Nat × Nat × Nat)} {Ts ws ws' : List Cond} {rm : Room} (n : Nat) (ht : ∀ w ∈ Ts, w.before args s = true) (hT : GoodIn Ts (wsV own index C y ws)) (hw : ws = Cond.codeWith y bytes maxL ret hh :: ws') (hrc : rm.cells = mc) (hrs : rm.slots = ms)
    (hd : y.cls = C ∧ y.cls ≠ "java/lang/invoke/MethodHandle" ∧ y.cls ≠ "java/lang/invoke/VarHandle" ∧ (parseMethodDescriptor y.desc).map (fun d => d.parameters.length) = some n) (hR : rm.frames + 1 ≤ R.frames ∧ 8 + (maxL + 11) + rm.locals ≤ R.locals) :
    vx_CVW R s args own C index y bytes maxL ret hh ws rm mc ms n := by
  obtain ⟨hC, hd⟩ := hd
  subst hC
  have ok : ∀ w ∈ wsV own index y.cls y ws, w.before args s = true := fun w h => ht w (hT w h).1
  have hG : GoodIn Ts ws := fun w h => hT w (by unfold wsV; exact List.mem_append_right _ h)
  have hc : Cond.codeWith y bytes maxL ret hh ∈ ws := by rw [hw]; exact List.mem_cons_self
  refine ⟨⟨hrc, hrs, hR.1, hR.2, pay_in ht hG, hc⟩, ht _ (hG _ hc).1, ok _ (by simp [wsV]), ⟨hd.1, hd.2.1⟩, fun sig h => ?_, ok _ (by simp [wsV]), ok _ (by simp [wsV]), ok _ (by simp [wsV])⟩
  have h2 := hd.2.2
  rw [h] at h2
  exact (Option.some.inj h2).symm
theorem vx_runVW {y : MethodName} {bytes cc : ByteArray} {maxL nL mc ms n index : Nat} {ret : Option FieldType} {hh : List (Nat × Nat × Nat × Nat)} {ws : List Cond} {rm : Room} {Pc : Array Value → State → Prop} {Qc : Array Value → State → Outcome → State → Prop} {free : Addr → Prop} {Ts : List Cond} {own C : String} {b : Addr} {As rest : List Value} {g : JFrame}
    (S : CallFix p m c cc nL s args Ts own) (hM : Met l y ws rm Pc Qc mc ms free) (cw : vx_CVW R s args own C index y bytes maxL ret hh ws rm mc ms n) (hp : PreV s H C b Pc As)
    (hg : g.method = m) (hn : As.length = n) (hsize : g.locals.size = nL) (hstack : g.stack = As.reverse ++ .ref b :: rest) (hW : 2 * g.monitorRoom + (rest.map fun v => v.category).sum ≤ 8) (hdg : decode cc g.pc = .ok (.invokevirtual index, 3)) (hf : cells + mc ≤ R.cells ∧ slots + ms ≤ R.slots) :
    va_Run p l e R s m args below meth c H locs cells slots mc ms g rest (Qc (Value.ref b :: As).toArray) free := by
  obtain ⟨⟨hrc, hrs, hfr, hlo, hws, hcw⟩, hcode, hini, hy, hlen, hl, hin, hse⟩ := cw
  have hK : Back l R p e below s args y 3 8 (PreOf R mc ms Pc) (PostOf Qc mc ms free) := va_backW (hh := hh) (bytes := bytes) (maxL := maxL) (ret := ret) hM hp.1 hrc hrs hfr hlo hws hcw (fun a' U hW => word_at hW (Or.inl (by first | rfl | simp [Cond.onTables, Cond.keeps, Cond.steady])) hini)
  obtain ⟨hx, hb, hml, ho, -⟩ := S
  obtain ⟨-, ⟨cellB, hcB, hoB, hclB⟩, hPc⟩ := hp
  intro T hT X
  obtain ⟨v, vm₁, ⟨U', l2, c2, s2⟩, hW₁, X', ⟨g', mk, t, L, e1, e2, hq, h1, hL, h2, h3⟩, st⟩ := vx_callVW X hx (C := C) (hh := hh) (bytes := bytes) (maxL := maxL) (ret := ret) ho hl hin hse hcode hy hK (by rw [hT]; exact hcB) hoB hclB hg (hsize.trans hml.symm) (argsL := As) (rest := rest) (fun sig h => hn.trans (hlen sig h)) hstack hW (by rw [hb]; exact hdg)
    (fun vm₁ hW₁ => ⟨hf.1, hf.2, hPc (T.setVm vm₁) hT hW₁⟩)
  dsimp only [Pt.U, Pt.locs, Pt.cells, Pt.slots] at X' e1 e2 h1 h2 h3 st
  subst h1; subst h2; subst h3
  exact ⟨v, (T.setVm vm₁).calling g' mk (Value.ref b :: As).toArray, t, U', L, hT, X', hL, e1, e2, hq, st⟩
section
variable {y : MethodName} {bytes cc : ByteArray} {maxL nL mc ms n index : Nat} {ret : Option FieldType} {ws : List Cond} {rm : Room} {Pc : Array Value → State → Prop} {Qc : Array Value → State → Outcome → State → Prop} {XC : String → State → State → Prop} {free : Addr → Prop} {Ts : List Cond} {own C : String} {b : Addr} {As rest : List Value} {g : JFrame}
theorem vx_runVX {hh : List (Nat × Nat × Nat × Nat)} (S : CallFix p m c cc nL s args Ts own) (hM : vx_Met l y ws rm Pc Qc XC mc ms free) (cw : vx_CVW R s args own C index y bytes maxL ret hh ws rm mc ms n) (hp : PreV s H C b Pc As)
    (hg : g.method = m) (hn : As.length = n) (hsize : g.locals.size = nL) (hstack : g.stack = As.reverse ++ .ref b :: rest) (hW : 2 * g.monitorRoom + (rest.map fun v => v.category).sum ≤ 8) (hdg : decode cc g.pc = .ok (.invokevirtual index, 3)) (hf : cells + mc ≤ R.cells ∧ slots + ms ≤ R.slots) :
    vx_Run p l e R s m args below meth c H locs cells slots mc ms g rest (Qc (Value.ref b :: As).toArray) XC free := by
  obtain ⟨⟨hrc, hrs, hfr, hlo, hws, hcw⟩, hcode, hini, hy, hlen, hl, hin, hse⟩ := cw
  have hK : vx_Back l R p e below s args y 3 8 (PreOf R mc ms Pc) (PostOf Qc mc ms free) (vx_Post XC mc ms free) := vx_backW (hh := hh) (bytes := bytes) (maxL := maxL) (ret := ret) hM hp.1 hrc hrs hfr hlo hws hcw (fun a' U hW => word_at hW (Or.inl (by first | rfl | simp [Cond.onTables, Cond.keeps, Cond.steady])) hini)
  obtain ⟨hx, hb, hml, ho, -⟩ := S
  obtain ⟨-, ⟨cellB, hcB, hoB, hclB⟩, hPc⟩ := hp
  intro T hT X
  rcases vx_callVX X hx (C := C) (hh := hh) (bytes := bytes) (maxL := maxL) (ret := ret) ho hl hin hse hcode hy hK (by rw [hT]; exact hcB) hoB hclB hg (hsize.trans hml.symm) (argsL := As) (rest := rest) (fun sig h => hn.trans (hlen sig h)) hstack hW (by rw [hb]; exact hdg)
    (fun vm₁ hW₁ => ⟨hf.1, hf.2, hPc (T.setVm vm₁) hT hW₁⟩) with ⟨v, vm₁, ⟨U', l2, c2, s2⟩, hW₁, X', ⟨g', mk, t, L, e1, e2, hq, h1, hL, h2, h3⟩, st⟩ | ⟨q, vm₁, ⟨U', l2, c2, s2⟩, hW₁, X', ⟨g', mk, t, L, E, ce, e1, e2, hq, hce, hcv, hcl, h1, hL, h2, h3⟩, st⟩
  · dsimp only [Pt.U, Pt.locs, Pt.cells, Pt.slots] at X' e1 e2 h1 h2 h3 st
    subst h1; subst h2; subst h3
    exact Or.inl ⟨v, (T.setVm vm₁).calling g' mk (Value.ref b :: As).toArray, t, U', L, hT, X', hL, e1, e2, hq, st⟩
  · dsimp only [Pt.U, Pt.locs, Pt.cells, Pt.slots] at X' e1 e2 h1 h2 h3 st hcl
    subst h1; subst h2; subst h3
    exact Or.inr ⟨q, (T.setVm vm₁).calling g' mk (Value.ref b :: As).toArray, t, U', L, E, ce, hT, X', hL, e1, e2, hq, hce, hcv, vx_cls hW₁ hcl, st⟩
theorem vx_runSX {hh : List (Nat × Nat × Nat × Nat)} (S : CallFix p m c cc nL s args Ts own) (hM : vx_Met l y ws rm Pc Qc XC mc ms free) (cw : vx_CSW R s args own index y bytes maxL ret hh ws rm mc ms n) (hp : PreS s H Pc As)
    (hg : g.method = m) (hn : As.length = n) (hsize : g.locals.size = nL) (hstack : g.stack = As.reverse ++ rest) (hW : 2 * g.monitorRoom + (rest.map fun v => v.category).sum ≤ 8) (hdg : decode cc g.pc = .ok (.invokestatic index, 3)) (hf : cells + mc ≤ R.cells ∧ slots + ms ≤ R.slots) :
    vx_Run p l e R s m args below meth c H locs cells slots mc ms g rest (Qc As.toArray) XC free := by
  obtain ⟨⟨hrc, hrs, hfr, hlo, hws, hcw⟩, hcode, hini, hy, hlen, hl, hstt⟩ := cw
  have hK : vx_Back l R p e below s args y 3 8 (PreOf R mc ms Pc) (PostOf Qc mc ms free) (vx_Post XC mc ms free) := vx_backW (hh := hh) (bytes := bytes) (maxL := maxL) (ret := ret) hM hp.1 hrc hrs hfr hlo hws hcw (fun a' U hW => word_at hW (Or.inl (by first | rfl | simp [Cond.onTables, Cond.keeps, Cond.steady])) hini)
  obtain ⟨hx, hb, hml, ho, -⟩ := S
  intro T hT X
  rcases vx_callSX X hx (hh := hh) (bytes := bytes) (maxL := maxL) (ret := ret) ho hl hstt hini hcode hy hK hg (hsize.trans hml.symm) (argsL := As) (rest := rest) (fun sig h => hn.trans (hlen sig h)) hstack hW (by rw [hb]; exact hdg)
    (fun vm₁ hW₁ => ⟨hf.1, hf.2, hp.2 (T.setVm vm₁) hT hW₁⟩) with ⟨v, vm₁, ⟨U', l2, c2, s2⟩, hW₁, X', ⟨g', mk, t, L, e1, e2, hq, h1, hL, h2, h3⟩, st⟩ | ⟨q, vm₁, ⟨U', l2, c2, s2⟩, hW₁, X', ⟨g', mk, t, L, E, ce, e1, e2, hq, hce, hcv, hcl, h1, hL, h2, h3⟩, st⟩
  · dsimp only [Pt.U, Pt.locs, Pt.cells, Pt.slots] at X' e1 e2 h1 h2 h3 st
    subst h1; subst h2; subst h3
    exact Or.inl ⟨v, (T.setVm vm₁).calling g' mk As.toArray, t, U', L, hT, X', hL, e1, e2, hq, st⟩
  · dsimp only [Pt.U, Pt.locs, Pt.cells, Pt.slots] at X' e1 e2 h1 h2 h3 st hcl
    subst h1; subst h2; subst h3
    exact Or.inr ⟨q, (T.setVm vm₁).calling g' mk As.toArray, t, U', L, E, ce, hT, X', hL, e1, e2, hq, hce, hcv, vx_cls hW₁ hcl, st⟩
end
end VXH
theorem vx_ofWH {l : Launch} {y : MethodName} {ws ws' : List Cond} {rm : Room} {Pc : Array Value → State → Prop} {Qc : Array Value → State → Outcome → State → Prop} {XC : String → State → State → Prop} {mc ms : Nat} {free : Addr → Prop} {cc : ByteArray} {maxL : Nat} {ret : Option FieldType} {hh : List (Nat × Nat × Nat × Nat)}
    (hy : plainName y.cls = true) (hw : ws = Cond.codeWith y cc maxL ret hh :: ws')
    (body : ∀ p e s m args below meth c s₁, BodyLoose p l y (headSpec ws rm) cc maxL ret e s m args below meth c s₁ → c.maxLocals = maxL → Pc args s →
      W p l e (headSpec ws rm).room s m args below meth c s.heap [] 0 0 (vx_MQ below Qc XC args s mc ms free) (entryFrame m args maxL)) : vx_Met l y ws rm Pc Qc XC mc ms free := by
  refine MetFree.of_bodyS (code := cc) (maxLocals := maxL) (ret := ret) hy ?_ ?_
  · intro args s m h hn
    obtain ⟨m9, meth, c, hn9, h1, h2, h3, h4, -, h5, h6, -⟩ := Cond.codeWith_spec (atoms_spec (ws := ws) h _ (by rw [hw]; exact List.mem_cons_self))
    cases hn.symm.trans hn9
    exact ⟨meth, c, h1, h2, h3, h4, h5, h6⟩
  · intro p e s m args below meth c s₁ B hml hP _
    have hh0 : s₁.heap = s.heap := by rw [B.state]; rfl
    obtain ⟨t, a1, o, b1, b2, b3⟩ := body p e s m args below meth c s₁ B hml hP s₁ hh0 (Stand.of_body B)
    exact ⟨t, o, a1, b1, b2, b3⟩
/-! ===== END ===== -/
end
section
/-! ===== BEGIN printed: names, fields, word lists, decode rows ===== -/
def RX0 : String := "RangingNet$History"
def TX0 : u_T := fun k => match k with
  | 0 => ("RangingNet$History", "states", "[LRangingNet$State;", true)
  | 1 => ("RangingNet$History", "newest", "I", false)
  | _ => ("RangingNet$History", "count", "I", false)
def tyX0 : Nat → FieldType := fun k => match k with
  | 0 => .array (.object "RangingNet$State")
  | 1 => .int
  | _ => .int
abbrev wsX00 : List Cond := u_ws RX0 TX0 3
theorem nmX0 : ∀ a, a < 3 → ∀ b, b < 3 → a ≠ b → (TX0 a).2.1 ≠ (TX0 b).2.1 := by decide +kernel
theorem tyX0_ok : ∀ k, k < 3 → parseFieldDescriptor (TX0 k).2.2.1 = some (tyX0 k) := by decide +kernel
abbrev cX0_init : ByteArray := prog_2_method_1_code
def yX0_init : MethodName := ⟨RX0, "<init>", "()V"⟩
abbrev cX0_save : ByteArray := prog_2_method_2_code
def yX0_save : MethodName := ⟨RX0, "save", "(LRangingNet$State;)V"⟩
abbrev cX0_restore : ByteArray := prog_2_method_3_code
def yX0_restore : MethodName := ⟨RX0, "restore", "(LRangingNet$State;)V"⟩
abbrev cX0_newestSlot : ByteArray := prog_2_method_4_code
def yX0_newestSlot : MethodName := ⟨RX0, "newestSlot", "()LRangingNet$State;"⟩
def RX1 : String := "RangingNet$State"
def TX1 : u_T := fun k => match k with
  | 0 => ("RangingNet$State", "time", "J", false)
  | 1 => ("RangingNet$State", "nodes", "LRangingNet$Table;", true)
  | 2 => ("RangingNet$State", "records", "LRangingNet$Table;", true)
  | _ => ("RangingNet$State", "plans", "LRangingNet$Table;", true)
def tyX1 : Nat → FieldType := fun k => match k with
  | 0 => .long
  | 1 => .object "RangingNet$Table"
  | 2 => .object "RangingNet$Table"
  | _ => .object "RangingNet$Table"
abbrev wsX10 : List Cond := u_ws RX1 TX1 4
theorem nmX1 : ∀ a, a < 4 → ∀ b, b < 4 → a ≠ b → (TX1 a).2.1 ≠ (TX1 b).2.1 := by decide +kernel
theorem tyX1_ok : ∀ k, k < 4 → parseFieldDescriptor (TX1 k).2.2.1 = some (tyX1 k) := by decide +kernel
abbrev cX1_init : ByteArray := prog_3_method_1_code
def yX1_init : MethodName := ⟨RX1, "<init>", "()V"⟩
abbrev cX1_copyFrom : ByteArray := prog_3_method_2_code
def yX1_copyFrom : MethodName := ⟨RX1, "copyFrom", "(LRangingNet$State;)V"⟩
abbrev cX1_lengthBetween : ByteArray := prog_3_method_3_code
def yX1_lengthBetween : MethodName := ⟨RX1, "lengthBetween", "(II)I"⟩
abbrev cX1_squareFromOrigin : ByteArray := prog_3_method_4_code
def yX1_squareFromOrigin : MethodName := ⟨RX1, "squareFromOrigin", "(I)J"⟩
abbrev cX1_counterAt : ByteArray := prog_3_method_5_code
def yX1_counterAt : MethodName := ⟨RX1, "counterAt", "(IJ)I"⟩
abbrev cX1_carryOut : ByteArray := prog_3_method_6_code
def yX1_carryOut : MethodName := ⟨RX1, "carryOut", "(IIII)I"⟩
abbrev cX1_rowForPlan : ByteArray := prog_3_method_7_code
def yX1_rowForPlan : MethodName := ⟨RX1, "rowForPlan", "(I)I"⟩
abbrev cX1_runUntil : ByteArray := prog_3_method_8_code
def yX1_runUntil : MethodName := ⟨RX1, "runUntil", "(I)I"⟩
abbrev cX1_carryOutFirstPlan : ByteArray := prog_3_method_9_code
def yX1_carryOutFirstPlan : MethodName := ⟨RX1, "carryOutFirstPlan", "()V"⟩
abbrev cX1_elapsed : ByteArray := prog_3_method_10_code
def yX1_elapsed : MethodName := ⟨RX1, "elapsed", "(III)I"⟩
abbrev cX1_rawRangeOf : ByteArray := prog_3_method_11_code
def yX1_rawRangeOf : MethodName := ⟨RX1, "rawRangeOf", "(II)I"⟩
abbrev cX1_rangeOf : ByteArray := prog_3_method_12_code
def yX1_rangeOf : MethodName := ⟨RX1, "rangeOf", "(II)I"⟩
abbrev cX1_errorOf : ByteArray := prog_3_method_13_code
def yX1_errorOf : MethodName := ⟨RX1, "errorOf", "(II)I"⟩
abbrev cX1_excessOf : ByteArray := prog_3_method_14_code
def yX1_excessOf : MethodName := ⟨RX1, "excessOf", "(I)I"⟩
abbrev cX1_lengthOf : ByteArray := prog_3_method_15_code
def yX1_lengthOf : MethodName := ⟨RX1, "lengthOf", "(I)I"⟩
abbrev cX1_latestBetween : ByteArray := prog_3_method_16_code
def yX1_latestBetween : MethodName := ⟨RX1, "latestBetween", "(II)I"⟩
abbrev cX1_mixNodes : ByteArray := prog_3_method_17_code
def yX1_mixNodes : MethodName := ⟨RX1, "mixNodes", "(J)J"⟩
abbrev cX1_mixRecords : ByteArray := prog_3_method_18_code
def yX1_mixRecords : MethodName := ⟨RX1, "mixRecords", "(J)J"⟩
abbrev cX1_mixPlans : ByteArray := prog_3_method_19_code
def yX1_mixPlans : MethodName := ⟨RX1, "mixPlans", "(J)J"⟩
def RX2 : String := "RangingNet$Table"
def TX2 : u_T := fun k => match k with
  | 0 => ("RangingNet$Table", "cells", "[I", true)
  | 1 => ("RangingNet$Table", "width", "I", true)
  | _ => ("RangingNet$Table", "count", "I", false)
def tyX2 : Nat → FieldType := fun k => match k with
  | 0 => .array .int
  | 1 => .int
  | _ => .int
abbrev wsX20 : List Cond := u_ws RX2 TX2 3
theorem nmX2 : ∀ a, a < 3 → ∀ b, b < 3 → a ≠ b → (TX2 a).2.1 ≠ (TX2 b).2.1 := by decide +kernel
theorem tyX2_ok : ∀ k, k < 3 → parseFieldDescriptor (TX2 k).2.2.1 = some (tyX2 k) := by decide +kernel
abbrev cX2_init : ByteArray := prog_4_method_1_code
def yX2_init : MethodName := ⟨RX2, "<init>", "([II)V"⟩
abbrev cX2_isFull : ByteArray := prog_4_method_2_code
def yX2_isFull : MethodName := ⟨RX2, "isFull", "()Z"⟩
abbrev cX2_get : ByteArray := prog_4_method_3_code
def yX2_get : MethodName := ⟨RX2, "get", "(II)I"⟩
abbrev cX2_set : ByteArray := prog_4_method_4_code
def yX2_set : MethodName := ⟨RX2, "set", "(III)V"⟩
abbrev cX2_openRow : ByteArray := prog_4_method_5_code
def yX2_openRow : MethodName := ⟨RX2, "openRow", "(I)I"⟩
abbrev cX2_removeFirstRow : ByteArray := prog_4_method_6_code
def yX2_removeFirstRow : MethodName := ⟨RX2, "removeFirstRow", "()V"⟩
abbrev cX2_copyFrom : ByteArray := prog_4_method_7_code
def yX2_copyFrom : MethodName := ⟨RX2, "copyFrom", "(LRangingNet$Table;)V"⟩
def RX3 : String := "RangingNet"
def TX3 : u_T := fun k => match k with
  | 0 => ("RangingNet", "state", "LRangingNet$State;", true)
  | _ => ("RangingNet", "history", "LRangingNet$History;", true)
def tyX3 : Nat → FieldType := fun k => match k with
  | 0 => .object "RangingNet$State"
  | _ => .object "RangingNet$History"
abbrev wsX30 : List Cond := u_ws RX3 TX3 2
theorem nmX3 : ∀ a, a < 2 → ∀ b, b < 2 → a ≠ b → (TX3 a).2.1 ≠ (TX3 b).2.1 := by decide +kernel
theorem tyX3_ok : ∀ k, k < 2 → parseFieldDescriptor (TX3 k).2.2.1 = some (tyX3 k) := by decide +kernel
abbrev cX3_init : ByteArray := prog_1_method_1_code
def yX3_init : MethodName := ⟨RX3, "<init>", "()V"⟩
abbrev cX3_addNode : ByteArray := prog_1_method_2_code
def yX3_addNode : MethodName := ⟨RX3, "addNode", "(IIIII)I"⟩
abbrev cX3_move : ByteArray := prog_1_method_3_code
def yX3_move : MethodName := ⟨RX3, "move", "(III)I"⟩
abbrev cX3_assume : ByteArray := prog_1_method_4_code
def yX3_assume : MethodName := ⟨RX3, "assume", "(II)I"⟩
abbrev cX3_assumed : ByteArray := prog_1_method_5_code
def yX3_assumed : MethodName := ⟨RX3, "assumed", "(I)I"⟩
abbrev cX3_distance : ByteArray := prog_1_method_6_code
def yX3_distance : MethodName := ⟨RX3, "distance", "(II)I"⟩
abbrev cX3_counter : ByteArray := prog_1_method_7_code
def yX3_counter : MethodName := ⟨RX3, "counter", "(II)I"⟩
abbrev cX3_exchange : ByteArray := prog_1_method_8_code
def yX3_exchange : MethodName := ⟨RX3, "exchange", "(IIII)I"⟩
abbrev cX3_plan : ByteArray := prog_1_method_9_code
def yX3_plan : MethodName := ⟨RX3, "plan", "(IIIII)I"⟩
abbrev cX3_nextPlanned : ByteArray := prog_1_method_10_code
def yX3_nextPlanned : MethodName := ⟨RX3, "nextPlanned", "()I"⟩
abbrev cX3_run : ByteArray := prog_1_method_11_code
def yX3_run : MethodName := ⟨RX3, "run", "(I)I"⟩
abbrev cX3_now : ByteArray := prog_1_method_12_code
def yX3_now : MethodName := ⟨RX3, "now", "()J"⟩
abbrev cX3_exchanges : ByteArray := prog_1_method_13_code
def yX3_exchanges : MethodName := ⟨RX3, "exchanges", "()I"⟩
abbrev cX3_stamp : ByteArray := prog_1_method_14_code
def yX3_stamp : MethodName := ⟨RX3, "stamp", "(II)I"⟩
abbrev cX3_party : ByteArray := prog_1_method_15_code
def yX3_party : MethodName := ⟨RX3, "party", "(II)I"⟩
abbrev cX3_range : ByteArray := prog_1_method_16_code
def yX3_range : MethodName := ⟨RX3, "range", "(II)I"⟩
abbrev cX3_latestRange : ByteArray := prog_1_method_17_code
def yX3_latestRange : MethodName := ⟨RX3, "latestRange", "(III)I"⟩
abbrev cX3_worstError : ByteArray := prog_1_method_18_code
def yX3_worstError : MethodName := ⟨RX3, "worstError", "(I)I"⟩
abbrev cX3_meanError : ByteArray := prog_1_method_19_code
def yX3_meanError : MethodName := ⟨RX3, "meanError", "(I)D"⟩
abbrev cX3_relativeDrift : ByteArray := prog_1_method_20_code
def yX3_relativeDrift : MethodName := ⟨RX3, "relativeDrift", "(I)D"⟩
abbrev cX3_calibrate : ByteArray := prog_1_method_21_code
def yX3_calibrate : MethodName := ⟨RX3, "calibrate", "(III)I"⟩
abbrev cX3_fix : ByteArray := prog_1_method_22_code
def yX3_fix : MethodName := ⟨RX3, "fix", "(IIII)I"⟩
abbrev cX3_undo : ByteArray := prog_1_method_23_code
def yX3_undo : MethodName := ⟨RX3, "undo", "()I"⟩
abbrev cX3_digest : ByteArray := prog_1_method_24_code
def yX3_digest : MethodName := ⟨RX3, "digest", "()J"⟩
abbrev cX3_requireWithin : ByteArray := prog_1_method_25_code
def yX3_requireWithin : MethodName := ⟨RX3, "requireWithin", "(III)V"⟩
abbrev cX3_requireMethod : ByteArray := prog_1_method_26_code
def yX3_requireMethod : MethodName := ⟨RX3, "requireMethod", "(I)V"⟩
abbrev cX3_requirePair : ByteArray := prog_1_method_27_code
def yX3_requirePair : MethodName := ⟨RX3, "requirePair", "(II)V"⟩
abbrev cX3_requireFourNodes : ByteArray := prog_1_method_28_code
def yX3_requireFourNodes : MethodName := ⟨RX3, "requireFourNodes", "(IIII)V"⟩
abbrev cX3_requireNode : ByteArray := prog_1_method_29_code
def yX3_requireNode : MethodName := ⟨RX3, "requireNode", "(I)V"⟩
abbrev cX3_requireExchange : ByteArray := prog_1_method_30_code
def yX3_requireExchange : MethodName := ⟨RX3, "requireExchange", "(I)V"⟩
abbrev cX3_requireLatest : ByteArray := prog_1_method_31_code
def yX3_requireLatest : MethodName := ⟨RX3, "requireLatest", "(II)I"⟩
abbrev cX3_solve : ByteArray := prog_1_method_32_code
def yX3_solve : MethodName := ⟨RX3, "solve", "(IIIJJI)I"⟩
abbrev cX3_squareOf : ByteArray := prog_1_method_33_code
def yX3_squareOf : MethodName := ⟨RX3, "squareOf", "(I)J"⟩
abbrev cX3_mix : ByteArray := prog_1_method_34_code
def yX3_mix : MethodName := ⟨RX3, "mix", "(JJ)J"⟩
abbrev cX3_floorLength : ByteArray := prog_1_method_35_code
def yX3_floorLength : MethodName := ⟨RX3, "floorLength", "(II)I"⟩
def RX4 : String := "RangingNetModel"
def TX4 : u_T := fun k => match k with
  | 0 => ("RangingNetModel", "all", "[J", true)
  | 1 => ("RangingNetModel", "saved", "[J", true)
  | 2 => ("RangingNetModel", "savedMany", "I", false)
  | _ => ("RangingNetModel", "thrown", "I", false)
def tyX4 : Nat → FieldType := fun k => match k with
  | 0 => .array .long
  | 1 => .array .long
  | 2 => .int
  | _ => .int
abbrev wsX40 : List Cond := u_ws RX4 TX4 4
theorem nmX4 : ∀ a, a < 4 → ∀ b, b < 4 → a ≠ b → (TX4 a).2.1 ≠ (TX4 b).2.1 := by decide +kernel
theorem tyX4_ok : ∀ k, k < 4 → parseFieldDescriptor (TX4 k).2.2.1 = some (tyX4 k) := by decide +kernel
abbrev cX4_init : ByteArray := prog_6_method_1_code
def yX4_init : MethodName := ⟨RX4, "<init>", "()V"⟩
abbrev cX4_thrown : ByteArray := prog_6_method_2_code
def yX4_thrown : MethodName := ⟨RX4, "thrown", "()I"⟩
abbrev cX4_in : ByteArray := prog_6_method_3_code
def yX4_in : MethodName := ⟨RX4, "in", "(JJJ)Z"⟩
abbrev cX4_goes : ByteArray := prog_6_method_4_code
def yX4_goes : MethodName := ⟨RX4, "goes", "(ZZZ)Z"⟩
abbrev cX4_save : ByteArray := prog_6_method_5_code
def yX4_save : MethodName := ⟨RX4, "save", "()V"⟩
abbrev cX4_isNode : ByteArray := prog_6_method_6_code
def yX4_isNode : MethodName := ⟨RX4, "isNode", "(I)Z"⟩
abbrev cX4_of : ByteArray := prog_6_method_7_code
def yX4_of : MethodName := ⟨RX4, "of", "(II)J"⟩
abbrev cX4_isPlace : ByteArray := prog_6_method_8_code
def yX4_isPlace : MethodName := ⟨RX4, "isPlace", "(I)Z"⟩
abbrev cX4_addNode : ByteArray := prog_6_method_9_code
def yX4_addNode : MethodName := ⟨RX4, "addNode", "(IIIII)I"⟩
abbrev cX4_rootOf : ByteArray := prog_6_method_10_code
def yX4_rootOf : MethodName := ⟨RX4, "rootOf", "(JJ)J"⟩
abbrev cX4_distanceOf : ByteArray := prog_6_method_11_code
def yX4_distanceOf : MethodName := ⟨RX4, "distanceOf", "(II)J"⟩
abbrev cX4_move : ByteArray := prog_6_method_12_code
def yX4_move : MethodName := ⟨RX4, "move", "(III)I"⟩
abbrev cX4_assume : ByteArray := prog_6_method_13_code
def yX4_assume : MethodName := ⟨RX4, "assume", "(II)I"⟩
abbrev cX4_assumed : ByteArray := prog_6_method_14_code
def yX4_assumed : MethodName := ⟨RX4, "assumed", "(I)I"⟩
abbrev cX4_distance : ByteArray := prog_6_method_15_code
def yX4_distance : MethodName := ⟨RX4, "distance", "(II)I"⟩
abbrev cX4_counterAt : ByteArray := prog_6_method_16_code
def yX4_counterAt : MethodName := ⟨RX4, "counterAt", "(IJ)J"⟩
abbrev cX4_counter : ByteArray := prog_6_method_17_code
def yX4_counter : MethodName := ⟨RX4, "counter", "(II)I"⟩
abbrev cX4_carriesOut : ByteArray := prog_6_method_18_code
def yX4_carriesOut : MethodName := ⟨RX4, "carriesOut", "(JIIJJ)V"⟩
abbrev cX4_areReplies : ByteArray := prog_6_method_19_code
def yX4_areReplies : MethodName := ⟨RX4, "areReplies", "(IIII)Z"⟩
abbrev cX4_exchange : ByteArray := prog_6_method_20_code
def yX4_exchange : MethodName := ⟨RX4, "exchange", "(IIII)I"⟩
abbrev cX4_plan : ByteArray := prog_6_method_21_code
def yX4_plan : MethodName := ⟨RX4, "plan", "(IIIII)I"⟩
abbrev cX4_waiting : ByteArray := prog_6_method_22_code
def yX4_waiting : MethodName := ⟨RX4, "waiting", "(I)I"⟩
abbrev cX4_nextPlanned : ByteArray := prog_6_method_23_code
def yX4_nextPlanned : MethodName := ⟨RX4, "nextPlanned", "()I"⟩
abbrev cX4_removes : ByteArray := prog_6_method_24_code
def yX4_removes : MethodName := ⟨RX4, "removes", "(I)V"⟩
abbrev cX4_run : ByteArray := prog_6_method_25_code
def yX4_run : MethodName := ⟨RX4, "run", "(I)I"⟩
abbrev cX4_now : ByteArray := prog_6_method_26_code
def yX4_now : MethodName := ⟨RX4, "now", "()J"⟩
abbrev cX4_exchanges : ByteArray := prog_6_method_27_code
def yX4_exchanges : MethodName := ⟨RX4, "exchanges", "()I"⟩
abbrev cX4_isExchange : ByteArray := prog_6_method_28_code
def yX4_isExchange : MethodName := ⟨RX4, "isExchange", "(I)Z"⟩
abbrev cX4_inExchange : ByteArray := prog_6_method_29_code
def yX4_inExchange : MethodName := ⟨RX4, "inExchange", "(II)J"⟩
abbrev cX4_stamp : ByteArray := prog_6_method_30_code
def yX4_stamp : MethodName := ⟨RX4, "stamp", "(II)I"⟩
abbrev cX4_party : ByteArray := prog_6_method_31_code
def yX4_party : MethodName := ⟨RX4, "party", "(II)I"⟩
abbrev cX4_floor : ByteArray := prog_6_method_32_code
def yX4_floor : MethodName := ⟨RX4, "floor", "(JJ)J"⟩
abbrev cX4_span : ByteArray := prog_6_method_33_code
def yX4_span : MethodName := ⟨RX4, "span", "(III)J"⟩
abbrev cX4_rawOf : ByteArray := prog_6_method_34_code
def yX4_rawOf : MethodName := ⟨RX4, "rawOf", "(II)J"⟩
abbrev cX4_first : ByteArray := prog_6_method_35_code
def yX4_first : MethodName := ⟨RX4, "first", "(I)I"⟩
abbrev cX4_second : ByteArray := prog_6_method_36_code
def yX4_second : MethodName := ⟨RX4, "second", "(I)I"⟩
abbrev cX4_rangeOf : ByteArray := prog_6_method_37_code
def yX4_rangeOf : MethodName := ⟨RX4, "rangeOf", "(II)J"⟩
abbrev cX4_isMethod : ByteArray := prog_6_method_38_code
def yX4_isMethod : MethodName := ⟨RX4, "isMethod", "(I)Z"⟩
abbrev cX4_range : ByteArray := prog_6_method_39_code
def yX4_range : MethodName := ⟨RX4, "range", "(II)I"⟩
abbrev cX4_latestOf : ByteArray := prog_6_method_40_code
def yX4_latestOf : MethodName := ⟨RX4, "latestOf", "(II)I"⟩
abbrev cX4_latestRange : ByteArray := prog_6_method_41_code
def yX4_latestRange : MethodName := ⟨RX4, "latestRange", "(III)I"⟩
abbrev cX4_errorOf : ByteArray := prog_6_method_42_code
def yX4_errorOf : MethodName := ⟨RX4, "errorOf", "(II)J"⟩
abbrev cX4_worstError : ByteArray := prog_6_method_43_code
def yX4_worstError : MethodName := ⟨RX4, "worstError", "(I)I"⟩
abbrev cX4_meanError : ByteArray := prog_6_method_44_code
def yX4_meanError : MethodName := ⟨RX4, "meanError", "(I)D"⟩
abbrev cX4_relativeDrift : ByteArray := prog_6_method_45_code
def yX4_relativeDrift : MethodName := ⟨RX4, "relativeDrift", "(I)D"⟩
abbrev cX4_excess : ByteArray := prog_6_method_46_code
def yX4_excess : MethodName := ⟨RX4, "excess", "(II)J"⟩
abbrev cX4_calibrate : ByteArray := prog_6_method_47_code
def yX4_calibrate : MethodName := ⟨RX4, "calibrate", "(III)I"⟩
abbrev cX4_right : ByteArray := prog_6_method_48_code
def yX4_right : MethodName := ⟨RX4, "right", "(IIII)J"⟩
abbrev cX4_fix : ByteArray := prog_6_method_49_code
def yX4_fix : MethodName := ⟨RX4, "fix", "(IIII)I"⟩
abbrev cX4_undo : ByteArray := prog_6_method_50_code
def yX4_undo : MethodName := ⟨RX4, "undo", "()I"⟩
abbrev cX4_sums : ByteArray := prog_6_method_51_code
def yX4_sums : MethodName := ⟨RX4, "sums", "(JII)J"⟩
abbrev cX4_digest : ByteArray := prog_6_method_52_code
def yX4_digest : MethodName := ⟨RX4, "digest", "()J"⟩
def RJx00060 : String := "java/lang/ArrayIndexOutOfBoundsException"
def TJx00060 : u_T := fun k => match k with
  | 0 => ("java/lang/Throwable", "backtrace", "Ljava/lang/Object;", false)
  | 1 => ("java/lang/Throwable", "detailMessage", "Ljava/lang/String;", false)
  | 2 => ("java/lang/Throwable", "cause", "Ljava/lang/Throwable;", false)
  | 3 => ("java/lang/Throwable", "stackTrace", "[Ljava/lang/StackTraceElement;", false)
  | 4 => ("java/lang/Throwable", "depth", "I", false)
  | _ => ("java/lang/Throwable", "suppressedExceptions", "Ljava/util/List;", false)
def tyJx00060 : Nat → FieldType := fun k => match k with
  | 0 => .object "java/lang/Object"
  | 1 => .object "java/lang/String"
  | 2 => .object "java/lang/Throwable"
  | 3 => .array (.object "java/lang/StackTraceElement")
  | 4 => .int
  | _ => .object "java/util/List"
abbrev wsJx000600 : List Cond := u_ws RJx00060 TJx00060 6
theorem nmJx00060 : ∀ a, a < 6 → ∀ b, b < 6 → a ≠ b → (TJx00060 a).2.1 ≠ (TJx00060 b).2.1 := by decide +kernel
theorem tyJx00060_ok : ∀ k, k < 6 → parseFieldDescriptor (TJx00060 k).2.2.1 = some (tyJx00060 k) := by decide +kernel
abbrev cJx00060_init_a7421 : ByteArray := prog_8_method_2_code
def yJx00060_init_a7421 : MethodName := ⟨RJx00060, "<init>", "(Ljava/lang/String;)V"⟩
def RJ9 : String := "java/lang/Math"
def TJ9 : u_T := fun k => match k with
  | _ => ("", "", "", false)
def tyJ9 : Nat → FieldType := fun k => match k with
  | _ => .int
abbrev wsJ90 : List Cond := u_ws RJ9 TJ9 0
theorem nmJ9 : ∀ a, a < 0 → ∀ b, b < 0 → a ≠ b → (TJ9 a).2.1 ≠ (TJ9 b).2.1 := by decide +kernel
theorem tyJ9_ok : ∀ k, k < 0 → parseFieldDescriptor (TJ9 k).2.2.1 = some (tyJ9 k) := by decide +kernel
abbrev cJ9_floorDiv_7cf53 : ByteArray := prog_13_method_47_code
def yJ9_floorDiv_7cf53 : MethodName := ⟨RJ9, "floorDiv", "(II)I"⟩
abbrev cJ9_floorDiv_f86c9 : ByteArray := prog_13_method_49_code
def yJ9_floorDiv_f86c9 : MethodName := ⟨RJ9, "floorDiv", "(JJ)J"⟩
abbrev cJ9_floorMod_7cf53 : ByteArray := prog_13_method_50_code
def yJ9_floorMod_7cf53 : MethodName := ⟨RJ9, "floorMod", "(II)I"⟩
abbrev cJ9_floorMod_f86c9 : ByteArray := prog_13_method_52_code
def yJ9_floorMod_f86c9 : MethodName := ⟨RJ9, "floorMod", "(JJ)J"⟩
abbrev cJ9_abs_0f7a4 : ByteArray := prog_13_method_59_code
def yJ9_abs_0f7a4 : MethodName := ⟨RJ9, "abs", "(I)I"⟩
abbrev cJ9_max_7cf53 : ByteArray := prog_13_method_65_code
def yJ9_max_7cf53 : MethodName := ⟨RJ9, "max", "(II)I"⟩
abbrev cJ9_max_f86c9 : ByteArray := prog_13_method_66_code
def yJ9_max_f86c9 : MethodName := ⟨RJ9, "max", "(JJ)J"⟩
abbrev cJ9_min_7cf53 : ByteArray := prog_13_method_69_code
def yJ9_min_7cf53 : MethodName := ⟨RJ9, "min", "(II)I"⟩
def RJ0 : String := "java/lang/String"
def TJ0 : u_T := fun k => match k with
  | 0 => ("java/lang/String", "value", "[B", true)
  | _ => ("java/lang/String", "coder", "B", true)
def tyJ0 : Nat → FieldType := fun k => match k with
  | 0 => .array .byte
  | _ => .byte
abbrev wsJ00 : List Cond := u_ws RJ0 TJ0 2
theorem nmJ0 : ∀ a, a < 2 → ∀ b, b < 2 → a ≠ b → (TJ0 a).2.1 ≠ (TJ0 b).2.1 := by decide +kernel
theorem tyJ0_ok : ∀ k, k < 2 → parseFieldDescriptor (TJ0 k).2.2.1 = some (tyJ0 k) := by decide +kernel
def RJ10 : String := "java/lang/System"
def TJ10 : u_T := fun k => match k with
  | _ => ("", "", "", false)
def tyJ10 : Nat → FieldType := fun k => match k with
  | _ => .int
abbrev wsJ100 : List Cond := u_ws RJ10 TJ10 0
theorem nmJ10 : ∀ a, a < 0 → ∀ b, b < 0 → a ≠ b → (TJ10 a).2.1 ≠ (TJ10 b).2.1 := by decide +kernel
theorem tyJ10_ok : ∀ k, k < 0 → parseFieldDescriptor (TJ10 k).2.2.1 = some (tyJ10 k) := by decide +kernel
def RL : String := "RangingNetLaw"
abbrev cL_addNode : ByteArray := method_3_code
def yL_addNode : MethodName := ⟨RL, "addNode", "(LRangingNet;IIIII[J)I"⟩
abbrev cL_move : ByteArray := method_4_code
def yL_move : MethodName := ⟨RL, "move", "(LRangingNet;III[J)I"⟩
abbrev cL_assume : ByteArray := method_5_code
def yL_assume : MethodName := ⟨RL, "assume", "(LRangingNet;II[J)I"⟩
abbrev cL_assumed : ByteArray := method_6_code
def yL_assumed : MethodName := ⟨RL, "assumed", "(LRangingNet;I[J)I"⟩
abbrev cL_distance : ByteArray := method_7_code
def yL_distance : MethodName := ⟨RL, "distance", "(LRangingNet;II[J)I"⟩
abbrev cL_counter : ByteArray := method_8_code
def yL_counter : MethodName := ⟨RL, "counter", "(LRangingNet;II[J)I"⟩
abbrev cL_exchange : ByteArray := method_9_code
def yL_exchange : MethodName := ⟨RL, "exchange", "(LRangingNet;IIII[J)I"⟩
abbrev cL_plan : ByteArray := method_10_code
def yL_plan : MethodName := ⟨RL, "plan", "(LRangingNet;IIIII[J)I"⟩
abbrev cL_run : ByteArray := method_11_code
def yL_run : MethodName := ⟨RL, "run", "(LRangingNet;I[J)I"⟩
abbrev cL_stamp : ByteArray := method_12_code
def yL_stamp : MethodName := ⟨RL, "stamp", "(LRangingNet;II[J)I"⟩
abbrev cL_party : ByteArray := method_13_code
def yL_party : MethodName := ⟨RL, "party", "(LRangingNet;II[J)I"⟩
abbrev cL_range : ByteArray := method_14_code
def yL_range : MethodName := ⟨RL, "range", "(LRangingNet;II[J)I"⟩
abbrev cL_latestRange : ByteArray := method_15_code
def yL_latestRange : MethodName := ⟨RL, "latestRange", "(LRangingNet;III[J)I"⟩
abbrev cL_worstError : ByteArray := method_16_code
def yL_worstError : MethodName := ⟨RL, "worstError", "(LRangingNet;I[J)I"⟩
abbrev cL_meanError : ByteArray := method_17_code
def yL_meanError : MethodName := ⟨RL, "meanError", "(LRangingNet;I[D)I"⟩
abbrev cL_relativeDrift : ByteArray := method_18_code
def yL_relativeDrift : MethodName := ⟨RL, "relativeDrift", "(LRangingNet;I[D)I"⟩
abbrev cL_calibrate : ByteArray := method_19_code
def yL_calibrate : MethodName := ⟨RL, "calibrate", "(LRangingNet;III[J)I"⟩
abbrev cL_fix : ByteArray := method_20_code
def yL_fix : MethodName := ⟨RL, "fix", "(LRangingNet;IIII[J)I"⟩
abbrev cL_undo : ByteArray := method_21_code
def yL_undo : MethodName := ⟨RL, "undo", "(LRangingNet;[J)I"⟩
abbrev cL_law : ByteArray := code
def yL_law : MethodName := ⟨RL, "law", "([I)Z"⟩
abbrev vwCl : List vw_C := [(RJ0, TJ0, 2), (RJx00060, TJx00060, 6), (RX0, TX0, 3), (RX1, TX1, 4), (RX2, TX2, 3), (RX3, TX3, 2), (RX4, TX4, 4)]
end
section
/-! the good words of the tables, one list for every method -/
def WA : List Cond := lw_tbl.filter goodWord
theorem wa_of {i : Nat} {w : Cond} (h : lw_tbl[i]? = some w) (g : goodWord w = true) : w ∈ WA := List.mem_filter.mpr ⟨List.mem_of_getElem? h, g⟩
theorem wa_in {w : Cond} (h : w ∈ WA) : w ∈ lw_tbl := (List.mem_filter.mp h).1
theorem wa_good {ws : List Cond} (h : ∀ w ∈ ws, w ∈ WA) : GoodIn WA ws := fun w hw => ⟨h w hw, good_of_word (List.mem_filter.mp (h w hw)).2⟩
theorem wa_sub {ws : List Cond} (h : ∀ w ∈ ws, w ∈ lw_tbl) (g : ws.all goodWord = true) : ∀ w ∈ ws, w ∈ WA := fun w hw => List.mem_filter.mpr ⟨h w hw, List.all_eq_true.mp g w hw⟩

theorem kn_L : Cond.initialized RL ∈ WA := wa_of (i := 29) (by decide +kernel) rfl
theorem kn_X3 : Cond.initialized RX3 ∈ WA := wa_of (i := 30) (by decide +kernel) rfl
theorem kn_X1 : Cond.initialized RX1 ∈ WA := wa_of (i := 31) (by decide +kernel) rfl
theorem kn_X2 : Cond.initialized RX2 ∈ WA := wa_of (i := 32) (by decide +kernel) rfl
theorem kn_X0 : Cond.initialized RX0 ∈ WA := wa_of (i := 33) (by decide +kernel) rfl
theorem kn_X4 : Cond.initialized RX4 ∈ WA := wa_of (i := 34) (by decide +kernel) rfl
theorem kn_Throwable : Cond.initialized "java/lang/Throwable" ∈ WA := wa_of (i := 35) (by decide +kernel) rfl
theorem kn_Exception : Cond.initialized "java/lang/Exception" ∈ WA := wa_of (i := 36) (by decide +kernel) rfl
theorem kn_RuntimeException : Cond.initialized "java/lang/RuntimeException" ∈ WA := wa_of (i := 37) (by decide +kernel) rfl
theorem kn_IllegalArgumentException : Cond.initialized "java/lang/IllegalArgumentException" ∈ WA := wa_of (i := 38) (by decide +kernel) rfl
theorem kn_IllegalStateException : Cond.initialized "java/lang/IllegalStateException" ∈ WA := wa_of (i := 39) (by decide +kernel) rfl
theorem kn_J9 : Cond.initialized RJ9 ∈ WA := wa_of (i := 40) (by decide +kernel) rfl
theorem kn_J10 : Cond.initialized RJ10 ∈ WA := wa_of (i := 41) (by decide +kernel) rfl
theorem kn_IndexOutOfBoundsException : Cond.initialized "java/lang/IndexOutOfBoundsException" ∈ WA := wa_of (i := 42) (by decide +kernel) rfl
theorem kn_Jx00060 : Cond.initialized RJx00060 ∈ WA := wa_of (i := 43) (by decide +kernel) rfl
theorem kn_J0 : Cond.initialized RJ0 ∈ WA := wa_of (i := 44) (by decide +kernel) rfl
theorem kn_ArithmeticException : Cond.initialized "java/lang/ArithmeticException" ∈ WA := wa_of (i := 45) (by decide +kernel) rfl
theorem kk_L_8 : Cond.classLink RL 8 RX3 ∈ WA := wa_of (i := 46) (by decide +kernel) rfl
theorem ko_X3 : Cond.instantiable RX3 2 ∈ WA := wa_of (i := 47) (by decide +kernel) rfl
theorem kl_L_81 : Cond.methodLink RL 81 yX3_init ∈ WA := wa_of (i := 48) (by decide +kernel) rfl
theorem ki_X3_init : Cond.instanceMethod yX3_init ∈ WA := wa_of (i := 49) (by decide +kernel) rfl
theorem kc_X3_init : Cond.code yX3_init cX3_init 1 none ∈ WA := wa_of (i := 50) (by decide +kernel) rfl
theorem kl_X3_1 : Cond.methodLink RX3 1 objectInit ∈ WA := wa_of (i := 51) (by decide +kernel) rfl
theorem ki_objectInit : Cond.instanceMethod objectInit ∈ WA := wa_of (i := 52) (by decide +kernel) rfl
theorem kc_objectInit : Cond.code objectInit ⟨#[0xb1]⟩ 1 none ∈ WA := wa_of (i := 53) (by decide +kernel) rfl
theorem kk_X3_7 : Cond.classLink RX3 7 RX1 ∈ WA := wa_of (i := 54) (by decide +kernel) rfl
theorem ko_X1 : Cond.instantiable RX1 4 ∈ WA := wa_of (i := 55) (by decide +kernel) rfl
theorem kl_X3_9 : Cond.methodLink RX3 9 yX1_init ∈ WA := wa_of (i := 56) (by decide +kernel) rfl
theorem ki_X1_init : Cond.instanceMethod yX1_init ∈ WA := wa_of (i := 57) (by decide +kernel) rfl
theorem kc_X1_init : Cond.code yX1_init cX1_init 1 none ∈ WA := wa_of (i := 58) (by decide +kernel) rfl
theorem kl_X1_3 : Cond.methodLink RX1 3 objectInit ∈ WA := wa_of (i := 59) (by decide +kernel) rfl
theorem kk_X1_9 : Cond.classLink RX1 9 RX2 ∈ WA := wa_of (i := 60) (by decide +kernel) rfl
theorem ko_X2 : Cond.instantiable RX2 3 ∈ WA := wa_of (i := 61) (by decide +kernel) rfl
theorem kl_X1_11 : Cond.methodLink RX1 11 yX2_init ∈ WA := wa_of (i := 62) (by decide +kernel) rfl
theorem ki_X2_init : Cond.instanceMethod yX2_init ∈ WA := wa_of (i := 63) (by decide +kernel) rfl
theorem kc_X2_init : Cond.code yX2_init cX2_init 3 none ∈ WA := wa_of (i := 64) (by decide +kernel) rfl
theorem kl_X2_3 : Cond.methodLink RX2 3 objectInit ∈ WA := wa_of (i := 65) (by decide +kernel) rfl
theorem kf_X2_9 : Cond.fieldLink RX2 9 "RangingNet$Table" "cells" "[I" ∈ WA := wa_of (i := 66) (by decide +kernel) rfl
theorem kf_X2_15 : Cond.fieldLink RX2 15 "RangingNet$Table" "width" "I" ∈ WA := wa_of (i := 67) (by decide +kernel) rfl
theorem kf_X2_19 : Cond.fieldLink RX2 19 "RangingNet$Table" "count" "I" ∈ WA := wa_of (i := 68) (by decide +kernel) rfl
theorem ka_int : Cond.arrayClass .int ∈ WA := wa_of (i := 78) (by decide +kernel) rfl
theorem kf_X1_26 : Cond.fieldLink RX1 26 "RangingNet$State" "time" "J" ∈ WA := wa_of (i := 79) (by decide +kernel) rfl
theorem kf_X1_14 : Cond.fieldLink RX1 14 "RangingNet$State" "nodes" "LRangingNet$Table;" ∈ WA := wa_of (i := 81) (by decide +kernel) rfl
theorem kf_X1_20 : Cond.fieldLink RX1 20 "RangingNet$State" "records" "LRangingNet$Table;" ∈ WA := wa_of (i := 83) (by decide +kernel) rfl
theorem kf_X1_23 : Cond.fieldLink RX1 23 "RangingNet$State" "plans" "LRangingNet$Table;" ∈ WA := wa_of (i := 85) (by decide +kernel) rfl
theorem kk_X3_16 : Cond.classLink RX3 16 RX0 ∈ WA := wa_of (i := 96) (by decide +kernel) rfl
theorem ko_X0 : Cond.instantiable RX0 3 ∈ WA := wa_of (i := 97) (by decide +kernel) rfl
theorem kl_X3_18 : Cond.methodLink RX3 18 yX0_init ∈ WA := wa_of (i := 98) (by decide +kernel) rfl
theorem ki_X0_init : Cond.instanceMethod yX0_init ∈ WA := wa_of (i := 99) (by decide +kernel) rfl
theorem kc_X0_init : Cond.code yX0_init cX0_init 2 none ∈ WA := wa_of (i := 100) (by decide +kernel) rfl
theorem kl_X0_3 : Cond.methodLink RX0 3 objectInit ∈ WA := wa_of (i := 101) (by decide +kernel) rfl
theorem kk_X0_9 : Cond.classLink RX0 9 RX1 ∈ WA := wa_of (i := 102) (by decide +kernel) rfl
theorem kl_X0_17 : Cond.methodLink RX0 17 yX1_init ∈ WA := wa_of (i := 104) (by decide +kernel) rfl
theorem kf_X0_11 : Cond.fieldLink RX0 11 "RangingNet$History" "states" "[LRangingNet$State;" ∈ WA := wa_of (i := 105) (by decide +kernel) rfl
theorem kf_X0_18 : Cond.fieldLink RX0 18 "RangingNet$History" "newest" "I" ∈ WA := wa_of (i := 106) (by decide +kernel) rfl
theorem kf_X0_36 : Cond.fieldLink RX0 36 "RangingNet$History" "count" "I" ∈ WA := wa_of (i := 107) (by decide +kernel) rfl
theorem kf_X3_10 : Cond.fieldLink RX3 10 "RangingNet" "state" "LRangingNet$State;" ∈ WA := wa_of (i := 116) (by decide +kernel) rfl
theorem kf_X3_19 : Cond.fieldLink RX3 19 "RangingNet" "history" "LRangingNet$History;" ∈ WA := wa_of (i := 117) (by decide +kernel) rfl
theorem kl_L_119 : Cond.methodLink RL 119 yX3_nextPlanned ∈ WA := wa_of (i := 123) (by decide +kernel) rfl
theorem ki_X3_nextPlanned : Cond.instanceMethod yX3_nextPlanned ∈ WA := wa_of (i := 124) (by decide +kernel) rfl
theorem ks_X3_nextPlanned : Cond.selects RX3 yX3_nextPlanned yX3_nextPlanned ∈ WA := wa_of (i := 125) (by decide +kernel) rfl
theorem kc_X3_nextPlanned : Cond.code yX3_nextPlanned cX3_nextPlanned 1 (some .int) ∈ WA := wa_of (i := 126) (by decide +kernel) rfl
theorem kl_X3_64 : Cond.methodLink RX3 64 yX2_get ∈ WA := wa_of (i := 127) (by decide +kernel) rfl
theorem ki_X2_get : Cond.instanceMethod yX2_get ∈ WA := wa_of (i := 128) (by decide +kernel) rfl
theorem ks_X2_get : Cond.selects RX2 yX2_get yX2_get ∈ WA := wa_of (i := 129) (by decide +kernel) rfl
theorem kc_X2_get : Cond.code yX2_get cX2_get 4 (some .int) ∈ WA := wa_of (i := 130) (by decide +kernel) rfl
theorem kl_L_126 : Cond.methodLink RL 126 yX3_now ∈ WA := wa_of (i := 131) (by decide +kernel) rfl
theorem ki_X3_now : Cond.instanceMethod yX3_now ∈ WA := wa_of (i := 132) (by decide +kernel) rfl
theorem ks_X3_now : Cond.selects RX3 yX3_now yX3_now ∈ WA := wa_of (i := 133) (by decide +kernel) rfl
theorem kc_X3_now : Cond.code yX3_now cX3_now 1 (some .long) ∈ WA := wa_of (i := 134) (by decide +kernel) rfl
theorem kl_L_131 : Cond.methodLink RL 131 yX3_exchanges ∈ WA := wa_of (i := 135) (by decide +kernel) rfl
theorem ki_X3_exchanges : Cond.instanceMethod yX3_exchanges ∈ WA := wa_of (i := 136) (by decide +kernel) rfl
theorem ks_X3_exchanges : Cond.selects RX3 yX3_exchanges yX3_exchanges ∈ WA := wa_of (i := 137) (by decide +kernel) rfl
theorem kc_X3_exchanges : Cond.code yX3_exchanges cX3_exchanges 1 (some .int) ∈ WA := wa_of (i := 138) (by decide +kernel) rfl
theorem kl_L_167 : Cond.methodLink RL 167 yX3_digest ∈ WA := wa_of (i := 139) (by decide +kernel) rfl
theorem ki_X3_digest : Cond.instanceMethod yX3_digest ∈ WA := wa_of (i := 140) (by decide +kernel) rfl
theorem ks_X3_digest : Cond.selects RX3 yX3_digest yX3_digest ∈ WA := wa_of (i := 141) (by decide +kernel) rfl
theorem kc_X3_digest : Cond.code yX3_digest cX3_digest 3 (some .long) ∈ WA := wa_of (i := 142) (by decide +kernel) rfl
theorem kw_X3_175 : Cond.constantLong RX3 175 (2797) ∈ WA := wa_of (i := 143) (by decide +kernel) rfl
theorem kl_X3_177 : Cond.methodLink RX3 177 yX3_mix ∈ WA := wa_of (i := 144) (by decide +kernel) rfl
theorem kt_X3_mix : Cond.static yX3_mix ∈ WA := wa_of (i := 145) (by decide +kernel) rfl
theorem kc_X3_mix : Cond.code yX3_mix cX3_mix 4 (some .long) ∈ WA := wa_of (i := 146) (by decide +kernel) rfl
theorem kw_X3_221 : Cond.constantLong RX3 221 (31) ∈ WA := wa_of (i := 147) (by decide +kernel) rfl
theorem kl_X3_181 : Cond.methodLink RX3 181 yX1_mixNodes ∈ WA := wa_of (i := 148) (by decide +kernel) rfl
theorem ki_X1_mixNodes : Cond.instanceMethod yX1_mixNodes ∈ WA := wa_of (i := 149) (by decide +kernel) rfl
theorem ks_X1_mixNodes : Cond.selects RX1 yX1_mixNodes yX1_mixNodes ∈ WA := wa_of (i := 150) (by decide +kernel) rfl
theorem kc_X1_mixNodes : Cond.code yX1_mixNodes cX1_mixNodes 7 (some .long) ∈ WA := wa_of (i := 151) (by decide +kernel) rfl
theorem kl_X1_34 : Cond.methodLink RX1 34 yX2_get ∈ WA := wa_of (i := 153) (by decide +kernel) rfl
theorem kl_X1_71 : Cond.methodLink RX1 71 yX1_counterAt ∈ WA := wa_of (i := 154) (by decide +kernel) rfl
theorem ki_X1_counterAt : Cond.instanceMethod yX1_counterAt ∈ WA := wa_of (i := 155) (by decide +kernel) rfl
theorem ks_X1_counterAt : Cond.selects RX1 yX1_counterAt yX1_counterAt ∈ WA := wa_of (i := 156) (by decide +kernel) rfl
theorem kc_X1_counterAt : Cond.code yX1_counterAt cX1_counterAt 6 (some .int) ∈ WA := wa_of (i := 157) (by decide +kernel) rfl
theorem kv_X1_45 : Cond.constant RX1 45 (1000000) ∈ WA := wa_of (i := 158) (by decide +kernel) rfl
theorem kw_X1_46 : Cond.constantLong RX1 46 (1000000) ∈ WA := wa_of (i := 159) (by decide +kernel) rfl
theorem kw_X1_48 : Cond.constantLong RX1 48 (1048576) ∈ WA := wa_of (i := 160) (by decide +kernel) rfl
theorem kl_X1_50 : Cond.methodLink RX1 50 yJ9_floorMod_f86c9 ∈ WA := wa_of (i := 161) (by decide +kernel) rfl
theorem kt_J9_floorMod_f86c9 : Cond.static yJ9_floorMod_f86c9 ∈ WA := wa_of (i := 162) (by decide +kernel) rfl
theorem kc_J9_floorMod_f86c9 : Cond.code yJ9_floorMod_f86c9 cJ9_floorMod_f86c9 6 (some .long) ∈ WA := wa_of (i := 163) (by decide +kernel) rfl
theorem kl_X3_185 : Cond.methodLink RX3 185 yX1_mixRecords ∈ WA := wa_of (i := 164) (by decide +kernel) rfl
theorem ki_X1_mixRecords : Cond.instanceMethod yX1_mixRecords ∈ WA := wa_of (i := 165) (by decide +kernel) rfl
theorem ks_X1_mixRecords : Cond.selects RX1 yX1_mixRecords yX1_mixRecords ∈ WA := wa_of (i := 166) (by decide +kernel) rfl
theorem kc_X1_mixRecords : Cond.code yX1_mixRecords cX1_mixRecords 7 (some .long) ∈ WA := wa_of (i := 167) (by decide +kernel) rfl
theorem kl_X1_109 : Cond.methodLink RX1 109 yX1_rangeOf ∈ WA := wa_of (i := 168) (by decide +kernel) rfl
theorem ki_X1_rangeOf : Cond.instanceMethod yX1_rangeOf ∈ WA := wa_of (i := 169) (by decide +kernel) rfl
theorem ks_X1_rangeOf : Cond.selects RX1 yX1_rangeOf yX1_rangeOf ∈ WA := wa_of (i := 170) (by decide +kernel) rfl
theorem kc_X1_rangeOf : Cond.code yX1_rangeOf cX1_rangeOf 3 (some .int) ∈ WA := wa_of (i := 171) (by decide +kernel) rfl
theorem kl_X1_106 : Cond.methodLink RX1 106 yX1_rawRangeOf ∈ WA := wa_of (i := 172) (by decide +kernel) rfl
theorem ki_X1_rawRangeOf : Cond.instanceMethod yX1_rawRangeOf ∈ WA := wa_of (i := 173) (by decide +kernel) rfl
theorem ks_X1_rawRangeOf : Cond.selects RX1 yX1_rawRangeOf yX1_rawRangeOf ∈ WA := wa_of (i := 174) (by decide +kernel) rfl
theorem kc_X1_rawRangeOf : Cond.code yX1_rawRangeOf cX1_rawRangeOf 13 (some .int) ∈ WA := wa_of (i := 175) (by decide +kernel) rfl
theorem kl_X1_95 : Cond.methodLink RX1 95 yX1_elapsed ∈ WA := wa_of (i := 176) (by decide +kernel) rfl
theorem ki_X1_elapsed : Cond.instanceMethod yX1_elapsed ∈ WA := wa_of (i := 177) (by decide +kernel) rfl
theorem ks_X1_elapsed : Cond.selects RX1 yX1_elapsed yX1_elapsed ∈ WA := wa_of (i := 178) (by decide +kernel) rfl
theorem kc_X1_elapsed : Cond.code yX1_elapsed cX1_elapsed 4 (some .int) ∈ WA := wa_of (i := 179) (by decide +kernel) rfl
theorem kv_X1_92 : Cond.constant RX1 92 (1048576) ∈ WA := wa_of (i := 180) (by decide +kernel) rfl
theorem kl_X1_93 : Cond.methodLink RX1 93 yJ9_floorMod_7cf53 ∈ WA := wa_of (i := 181) (by decide +kernel) rfl
theorem kt_J9_floorMod_7cf53 : Cond.static yJ9_floorMod_7cf53 ∈ WA := wa_of (i := 182) (by decide +kernel) rfl
theorem kc_J9_floorMod_7cf53 : Cond.code yJ9_floorMod_7cf53 cJ9_floorMod_7cf53 3 (some .int) ∈ WA := wa_of (i := 183) (by decide +kernel) rfl
theorem kw_X1_99 : Cond.constantLong RX1 99 (2) ∈ WA := wa_of (i := 184) (by decide +kernel) rfl
theorem kl_X1_101 : Cond.methodLink RX1 101 yJ9_floorDiv_f86c9 ∈ WA := wa_of (i := 185) (by decide +kernel) rfl
theorem kt_J9_floorDiv_f86c9 : Cond.static yJ9_floorDiv_f86c9 ∈ WA := wa_of (i := 186) (by decide +kernel) rfl
theorem kc_J9_floorDiv_f86c9 : Cond.code yJ9_floorDiv_f86c9 cJ9_floorDiv_f86c9 6 (some .long) ∈ WA := wa_of (i := 187) (by decide +kernel) rfl
theorem kw_X1_104 : Cond.constantLong RX1 104 (4) ∈ WA := wa_of (i := 188) (by decide +kernel) rfl
theorem kl_X3_188 : Cond.methodLink RX3 188 yX1_mixPlans ∈ WA := wa_of (i := 189) (by decide +kernel) rfl
theorem ki_X1_mixPlans : Cond.instanceMethod yX1_mixPlans ∈ WA := wa_of (i := 190) (by decide +kernel) rfl
theorem ks_X1_mixPlans : Cond.selects RX1 yX1_mixPlans yX1_mixPlans ∈ WA := wa_of (i := 191) (by decide +kernel) rfl
theorem kc_X1_mixPlans : Cond.code yX1_mixPlans cX1_mixPlans 7 (some .long) ∈ WA := wa_of (i := 192) (by decide +kernel) rfl
theorem kl_L_85 : Cond.methodLink RL 85 yL_addNode ∈ WA := wa_of (i := 193) (by decide +kernel) rfl
theorem kt_L_addNode : Cond.static yL_addNode ∈ WA := wa_of (i := 194) (by decide +kernel) rfl
theorem kc_L_addNode : Cond.codeWith yL_addNode cL_addNode 8 (some .int) [(0, 16, 19, 13), (0, 16, 23, 15)] ∈ WA := wa_of (i := 195) (by decide +kernel) rfl
theorem kk_L_13 : Cond.classLink RL 13 "java/lang/IllegalArgumentException" ∈ WA := wa_of (i := 196) (by decide +kernel) rfl
theorem kk_L_15 : Cond.classLink RL 15 "java/lang/IllegalStateException" ∈ WA := wa_of (i := 197) (by decide +kernel) rfl
theorem kl_L_7 : Cond.methodLink RL 7 yX3_addNode ∈ WA := wa_of (i := 198) (by decide +kernel) rfl
theorem ki_X3_addNode : Cond.instanceMethod yX3_addNode ∈ WA := wa_of (i := 199) (by decide +kernel) rfl
theorem ks_X3_addNode : Cond.selects RX3 yX3_addNode yX3_addNode ∈ WA := wa_of (i := 200) (by decide +kernel) rfl
theorem kc_X3_addNode : Cond.code yX3_addNode cX3_addNode 7 (some .int) ∈ WA := wa_of (i := 201) (by decide +kernel) rfl
theorem kl_X3_23 : Cond.methodLink RX3 23 yX3_requireWithin ∈ WA := wa_of (i := 202) (by decide +kernel) rfl
theorem kt_X3_requireWithin : Cond.static yX3_requireWithin ∈ WA := wa_of (i := 203) (by decide +kernel) rfl
theorem kc_X3_requireWithin : Cond.code yX3_requireWithin cX3_requireWithin 3 none ∈ WA := wa_of (i := 204) (by decide +kernel) rfl
theorem kk_X3_191 : Cond.classLink RX3 191 "java/lang/IllegalArgumentException" ∈ WA := wa_of (i := 205) (by decide +kernel) rfl
theorem ko_IllegalArgumentException : Cond.instantiable "java/lang/IllegalArgumentException" 6 ∈ WA := wa_of (i := 206) (by decide +kernel) rfl
theorem ko_Throwable : Cond.instantiable "java/lang/Throwable" 6 ∈ WA := wa_of (i := 246) (by decide +kernel) rfl
theorem ka_byte : Cond.arrayClass .byte ∈ WA := wa_of (i := 274) (by decide +kernel) rfl
theorem kv_X3_27 : Cond.constant RX3 27 (1048575) ∈ WA := wa_of (i := 275) (by decide +kernel) rfl
theorem kl_X3_32 : Cond.methodLink RX3 32 yX2_isFull ∈ WA := wa_of (i := 276) (by decide +kernel) rfl
theorem ki_X2_isFull : Cond.instanceMethod yX2_isFull ∈ WA := wa_of (i := 277) (by decide +kernel) rfl
theorem ks_X2_isFull : Cond.selects RX2 yX2_isFull yX2_isFull ∈ WA := wa_of (i := 278) (by decide +kernel) rfl
theorem kc_X2_isFull : Cond.code yX2_isFull cX2_isFull 1 (some .boolean) ∈ WA := wa_of (i := 279) (by decide +kernel) rfl
theorem kk_X3_38 : Cond.classLink RX3 38 "java/lang/IllegalStateException" ∈ WA := wa_of (i := 280) (by decide +kernel) rfl
theorem ko_IllegalStateException : Cond.instantiable "java/lang/IllegalStateException" 6 ∈ WA := wa_of (i := 281) (by decide +kernel) rfl
theorem kl_X3_45 : Cond.methodLink RX3 45 yX0_save ∈ WA := wa_of (i := 296) (by decide +kernel) rfl
theorem ki_X0_save : Cond.instanceMethod yX0_save ∈ WA := wa_of (i := 297) (by decide +kernel) rfl
theorem ks_X0_save : Cond.selects RX0 yX0_save yX0_save ∈ WA := wa_of (i := 298) (by decide +kernel) rfl
theorem kc_X0_save : Cond.code yX0_save cX0_save 3 none ∈ WA := wa_of (i := 299) (by decide +kernel) rfl
theorem kl_X0_22 : Cond.methodLink RX0 22 yJ9_floorMod_7cf53 ∈ WA := wa_of (i := 300) (by decide +kernel) rfl
theorem kl_X0_28 : Cond.methodLink RX0 28 yX0_newestSlot ∈ WA := wa_of (i := 301) (by decide +kernel) rfl
theorem ki_X0_newestSlot : Cond.instanceMethod yX0_newestSlot ∈ WA := wa_of (i := 303) (by decide +kernel) rfl
theorem kc_X0_newestSlot : Cond.code yX0_newestSlot cX0_newestSlot 1 (some (.object "RangingNet$State")) ∈ WA := wa_of (i := 304) (by decide +kernel) rfl
theorem kl_X0_32 : Cond.methodLink RX0 32 yX1_copyFrom ∈ WA := wa_of (i := 305) (by decide +kernel) rfl
theorem ki_X1_copyFrom : Cond.instanceMethod yX1_copyFrom ∈ WA := wa_of (i := 306) (by decide +kernel) rfl
theorem ks_X1_copyFrom : Cond.selects RX1 yX1_copyFrom yX1_copyFrom ∈ WA := wa_of (i := 307) (by decide +kernel) rfl
theorem kc_X1_copyFrom : Cond.code yX1_copyFrom cX1_copyFrom 2 none ∈ WA := wa_of (i := 308) (by decide +kernel) rfl
theorem kl_X1_30 : Cond.methodLink RX1 30 yX2_copyFrom ∈ WA := wa_of (i := 309) (by decide +kernel) rfl
theorem ki_X2_copyFrom : Cond.instanceMethod yX2_copyFrom ∈ WA := wa_of (i := 310) (by decide +kernel) rfl
theorem ks_X2_copyFrom : Cond.selects RX2 yX2_copyFrom yX2_copyFrom ∈ WA := wa_of (i := 311) (by decide +kernel) rfl
theorem kc_X2_copyFrom : Cond.code yX2_copyFrom cX2_copyFrom 3 none ∈ WA := wa_of (i := 312) (by decide +kernel) rfl
theorem kl_X2_26 : Cond.methodLink RX2 26 arraycopyName ∈ WA := wa_of (i := 313) (by decide +kernel) rfl
theorem kt_arraycopyName : Cond.static arraycopyName ∈ WA := wa_of (i := 314) (by decide +kernel) rfl
theorem kx_arraycopyName : Cond.native arraycopyName ∈ WA := wa_of (i := 315) (by decide +kernel) rfl
theorem kl_X0_39 : Cond.methodLink RX0 39 yJ9_min_7cf53 ∈ WA := wa_of (i := 316) (by decide +kernel) rfl
theorem kt_J9_min_7cf53 : Cond.static yJ9_min_7cf53 ∈ WA := wa_of (i := 317) (by decide +kernel) rfl
theorem kc_J9_min_7cf53 : Cond.code yJ9_min_7cf53 cJ9_min_7cf53 2 (some .int) ∈ WA := wa_of (i := 318) (by decide +kernel) rfl
theorem kl_X3_53 : Cond.methodLink RX3 53 yX2_openRow ∈ WA := wa_of (i := 319) (by decide +kernel) rfl
theorem ki_X2_openRow : Cond.instanceMethod yX2_openRow ∈ WA := wa_of (i := 320) (by decide +kernel) rfl
theorem ks_X2_openRow : Cond.selects RX2 yX2_openRow yX2_openRow ∈ WA := wa_of (i := 321) (by decide +kernel) rfl
theorem kc_X2_openRow : Cond.code yX2_openRow cX2_openRow 2 (some .int) ∈ WA := wa_of (i := 322) (by decide +kernel) rfl
theorem kl_X2_22 : Cond.methodLink RX2 22 yX2_isFull ∈ WA := wa_of (i := 323) (by decide +kernel) rfl
theorem kl_X3_57 : Cond.methodLink RX3 57 yX2_set ∈ WA := wa_of (i := 324) (by decide +kernel) rfl
theorem ki_X2_set : Cond.instanceMethod yX2_set ∈ WA := wa_of (i := 325) (by decide +kernel) rfl
theorem ks_X2_set : Cond.selects RX2 yX2_set yX2_set ∈ WA := wa_of (i := 326) (by decide +kernel) rfl
theorem kc_X2_set : Cond.code yX2_set cX2_set 5 none ∈ WA := wa_of (i := 327) (by decide +kernel) rfl
theorem kl_L_94 : Cond.methodLink RL 94 yL_move ∈ WA := wa_of (i := 328) (by decide +kernel) rfl
theorem kt_L_move : Cond.static yL_move ∈ WA := wa_of (i := 329) (by decide +kernel) rfl
theorem kc_L_move : Cond.codeWith yL_move cL_move 6 (some .int) [(0, 12, 15, 21), (0, 12, 19, 13)] ∈ WA := wa_of (i := 330) (by decide +kernel) rfl
theorem kk_L_21 : Cond.classLink RL 21 "java/lang/IndexOutOfBoundsException" ∈ WA := wa_of (i := 331) (by decide +kernel) rfl
theorem ko_Jx00060 : Cond.instantiable RJx00060 6 ∈ WA := wa_of (i := 332) (by decide +kernel) rfl
theorem ki_Jx00060_init_a7421 : Cond.instanceMethod yJx00060_init_a7421 ∈ WA := wa_of (i := 333) (by decide +kernel) rfl
theorem kc_Jx00060_init_a7421 : Cond.code yJx00060_init_a7421 cJx00060_init_a7421 2 none ∈ WA := wa_of (i := 334) (by decide +kernel) rfl
theorem ko_J0 : Cond.instantiable RJ0 4 ∈ WA := wa_of (i := 350) (by decide +kernel) rfl
theorem kl_L_17 : Cond.methodLink RL 17 yX3_move ∈ WA := wa_of (i := 355) (by decide +kernel) rfl
theorem ki_X3_move : Cond.instanceMethod yX3_move ∈ WA := wa_of (i := 356) (by decide +kernel) rfl
theorem ks_X3_move : Cond.selects RX3 yX3_move yX3_move ∈ WA := wa_of (i := 357) (by decide +kernel) rfl
theorem kc_X3_move : Cond.code yX3_move cX3_move 5 (some .int) ∈ WA := wa_of (i := 358) (by decide +kernel) rfl
theorem kl_X3_60 : Cond.methodLink RX3 60 yX3_requireNode ∈ WA := wa_of (i := 359) (by decide +kernel) rfl
theorem ki_X3_requireNode : Cond.instanceMethod yX3_requireNode ∈ WA := wa_of (i := 361) (by decide +kernel) rfl
theorem kc_X3_requireNode : Cond.code yX3_requireNode cX3_requireNode 2 none ∈ WA := wa_of (i := 362) (by decide +kernel) rfl
theorem kk_X3_149 : Cond.classLink RX3 149 "java/lang/IndexOutOfBoundsException" ∈ WA := wa_of (i := 363) (by decide +kernel) rfl
theorem ko_IndexOutOfBoundsException : Cond.instantiable "java/lang/IndexOutOfBoundsException" 6 ∈ WA := wa_of (i := 364) (by decide +kernel) rfl
theorem kl_X3_68 : Cond.methodLink RX3 68 yX3_floorLength ∈ WA := wa_of (i := 376) (by decide +kernel) rfl
theorem kt_X3_floorLength : Cond.static yX3_floorLength ∈ WA := wa_of (i := 377) (by decide +kernel) rfl
theorem kc_X3_floorLength : Cond.code yX3_floorLength cX3_floorLength 6 (some .int) ∈ WA := wa_of (i := 378) (by decide +kernel) rfl
theorem kl_L_98 : Cond.methodLink RL 98 yL_assume ∈ WA := wa_of (i := 379) (by decide +kernel) rfl
theorem kt_L_assume : Cond.static yL_assume ∈ WA := wa_of (i := 380) (by decide +kernel) rfl
theorem kc_L_assume : Cond.codeWith yL_assume cL_assume 5 (some .int) [(0, 10, 13, 21), (0, 10, 17, 13)] ∈ WA := wa_of (i := 381) (by decide +kernel) rfl
theorem kl_L_23 : Cond.methodLink RL 23 yX3_assume ∈ WA := wa_of (i := 382) (by decide +kernel) rfl
theorem ki_X3_assume : Cond.instanceMethod yX3_assume ∈ WA := wa_of (i := 383) (by decide +kernel) rfl
theorem ks_X3_assume : Cond.selects RX3 yX3_assume yX3_assume ∈ WA := wa_of (i := 384) (by decide +kernel) rfl
theorem kc_X3_assume : Cond.code yX3_assume cX3_assume 4 (some .int) ∈ WA := wa_of (i := 385) (by decide +kernel) rfl
theorem kl_L_102 : Cond.methodLink RL 102 yL_assumed ∈ WA := wa_of (i := 386) (by decide +kernel) rfl
theorem kt_L_assumed : Cond.static yL_assumed ∈ WA := wa_of (i := 387) (by decide +kernel) rfl
theorem kc_L_assumed : Cond.codeWith yL_assumed cL_assumed 4 (some .int) [(0, 9, 12, 21)] ∈ WA := wa_of (i := 388) (by decide +kernel) rfl
theorem kl_L_27 : Cond.methodLink RL 27 yX3_assumed ∈ WA := wa_of (i := 389) (by decide +kernel) rfl
theorem ki_X3_assumed : Cond.instanceMethod yX3_assumed ∈ WA := wa_of (i := 390) (by decide +kernel) rfl
theorem ks_X3_assumed : Cond.selects RX3 yX3_assumed yX3_assumed ∈ WA := wa_of (i := 391) (by decide +kernel) rfl
theorem kc_X3_assumed : Cond.code yX3_assumed cX3_assumed 2 (some .int) ∈ WA := wa_of (i := 392) (by decide +kernel) rfl
theorem kl_L_106 : Cond.methodLink RL 106 yL_distance ∈ WA := wa_of (i := 393) (by decide +kernel) rfl
theorem kt_L_distance : Cond.static yL_distance ∈ WA := wa_of (i := 394) (by decide +kernel) rfl
theorem kc_L_distance : Cond.codeWith yL_distance cL_distance 5 (some .int) [(0, 10, 13, 21)] ∈ WA := wa_of (i := 395) (by decide +kernel) rfl
theorem kl_L_31 : Cond.methodLink RL 31 yX3_distance ∈ WA := wa_of (i := 396) (by decide +kernel) rfl
theorem ki_X3_distance : Cond.instanceMethod yX3_distance ∈ WA := wa_of (i := 397) (by decide +kernel) rfl
theorem ks_X3_distance : Cond.selects RX3 yX3_distance yX3_distance ∈ WA := wa_of (i := 398) (by decide +kernel) rfl
theorem kc_X3_distance : Cond.code yX3_distance cX3_distance 3 (some .int) ∈ WA := wa_of (i := 399) (by decide +kernel) rfl
theorem kl_X3_71 : Cond.methodLink RX3 71 yX1_lengthBetween ∈ WA := wa_of (i := 400) (by decide +kernel) rfl
theorem ki_X1_lengthBetween : Cond.instanceMethod yX1_lengthBetween ∈ WA := wa_of (i := 401) (by decide +kernel) rfl
theorem ks_X1_lengthBetween : Cond.selects RX1 yX1_lengthBetween yX1_lengthBetween ∈ WA := wa_of (i := 402) (by decide +kernel) rfl
theorem kc_X1_lengthBetween : Cond.code yX1_lengthBetween cX1_lengthBetween 3 (some .int) ∈ WA := wa_of (i := 403) (by decide +kernel) rfl
theorem kl_L_109 : Cond.methodLink RL 109 yL_counter ∈ WA := wa_of (i := 405) (by decide +kernel) rfl
theorem kt_L_counter : Cond.static yL_counter ∈ WA := wa_of (i := 406) (by decide +kernel) rfl
theorem kc_L_counter : Cond.codeWith yL_counter cL_counter 5 (some .int) [(0, 10, 13, 21), (0, 10, 17, 13)] ∈ WA := wa_of (i := 407) (by decide +kernel) rfl
theorem kl_L_34 : Cond.methodLink RL 34 yX3_counter ∈ WA := wa_of (i := 408) (by decide +kernel) rfl
theorem ki_X3_counter : Cond.instanceMethod yX3_counter ∈ WA := wa_of (i := 409) (by decide +kernel) rfl
theorem ks_X3_counter : Cond.selects RX3 yX3_counter yX3_counter ∈ WA := wa_of (i := 410) (by decide +kernel) rfl
theorem kc_X3_counter : Cond.code yX3_counter cX3_counter 3 (some .int) ∈ WA := wa_of (i := 411) (by decide +kernel) rfl
theorem kv_X3_74 : Cond.constant RX3 74 (1000000000) ∈ WA := wa_of (i := 412) (by decide +kernel) rfl
theorem kl_X3_75 : Cond.methodLink RX3 75 yX1_counterAt ∈ WA := wa_of (i := 413) (by decide +kernel) rfl
theorem kl_L_112 : Cond.methodLink RL 112 yL_exchange ∈ WA := wa_of (i := 414) (by decide +kernel) rfl
theorem kt_L_exchange : Cond.static yL_exchange ∈ WA := wa_of (i := 415) (by decide +kernel) rfl
theorem kc_L_exchange : Cond.codeWith yL_exchange cL_exchange 7 (some .int) [(0, 14, 17, 21), (0, 14, 21, 13), (0, 14, 25, 15)] ∈ WA := wa_of (i := 416) (by decide +kernel) rfl
theorem kl_L_37 : Cond.methodLink RL 37 yX3_exchange ∈ WA := wa_of (i := 417) (by decide +kernel) rfl
theorem ki_X3_exchange : Cond.instanceMethod yX3_exchange ∈ WA := wa_of (i := 418) (by decide +kernel) rfl
theorem ks_X3_exchange : Cond.selects RX3 yX3_exchange yX3_exchange ∈ WA := wa_of (i := 419) (by decide +kernel) rfl
theorem kc_X3_exchange : Cond.code yX3_exchange cX3_exchange 5 (some .int) ∈ WA := wa_of (i := 420) (by decide +kernel) rfl
theorem kl_X3_79 : Cond.methodLink RX3 79 yX3_requirePair ∈ WA := wa_of (i := 421) (by decide +kernel) rfl
theorem kt_X3_requirePair : Cond.static yX3_requirePair ∈ WA := wa_of (i := 422) (by decide +kernel) rfl
theorem kc_X3_requirePair : Cond.code yX3_requirePair cX3_requirePair 2 none ∈ WA := wa_of (i := 423) (by decide +kernel) rfl
theorem kv_X3_83 : Cond.constant RX3 83 (400000) ∈ WA := wa_of (i := 425) (by decide +kernel) rfl
theorem kl_X3_89 : Cond.methodLink RX3 89 yX1_carryOut ∈ WA := wa_of (i := 427) (by decide +kernel) rfl
theorem ki_X1_carryOut : Cond.instanceMethod yX1_carryOut ∈ WA := wa_of (i := 428) (by decide +kernel) rfl
theorem ks_X1_carryOut : Cond.selects RX1 yX1_carryOut yX1_carryOut ∈ WA := wa_of (i := 429) (by decide +kernel) rfl
theorem kc_X1_carryOut : Cond.code yX1_carryOut cX1_carryOut 17 (some .int) ∈ WA := wa_of (i := 430) (by decide +kernel) rfl
theorem kl_X1_56 : Cond.methodLink RX1 56 yX1_lengthBetween ∈ WA := wa_of (i := 431) (by decide +kernel) rfl
theorem kl_X1_63 : Cond.methodLink RX1 63 yX2_openRow ∈ WA := wa_of (i := 432) (by decide +kernel) rfl
theorem kl_X1_67 : Cond.methodLink RX1 67 yX2_set ∈ WA := wa_of (i := 433) (by decide +kernel) rfl
theorem kl_L_116 : Cond.methodLink RL 116 yL_plan ∈ WA := wa_of (i := 434) (by decide +kernel) rfl
theorem kt_L_plan : Cond.static yL_plan ∈ WA := wa_of (i := 435) (by decide +kernel) rfl
theorem kc_L_plan : Cond.codeWith yL_plan cL_plan 8 (some .int) [(0, 16, 19, 21), (0, 16, 23, 13), (0, 16, 27, 15)] ∈ WA := wa_of (i := 436) (by decide +kernel) rfl
theorem kl_L_41 : Cond.methodLink RL 41 yX3_plan ∈ WA := wa_of (i := 437) (by decide +kernel) rfl
theorem ki_X3_plan : Cond.instanceMethod yX3_plan ∈ WA := wa_of (i := 438) (by decide +kernel) rfl
theorem ks_X3_plan : Cond.selects RX3 yX3_plan yX3_plan ∈ WA := wa_of (i := 439) (by decide +kernel) rfl
theorem kc_X3_plan : Cond.code yX3_plan cX3_plan 7 (some .int) ∈ WA := wa_of (i := 440) (by decide +kernel) rfl
theorem kv_X3_93 : Cond.constant RX3 93 (900000000) ∈ WA := wa_of (i := 441) (by decide +kernel) rfl
theorem kl_X3_99 : Cond.methodLink RX3 99 yX1_rowForPlan ∈ WA := wa_of (i := 443) (by decide +kernel) rfl
theorem ki_X1_rowForPlan : Cond.instanceMethod yX1_rowForPlan ∈ WA := wa_of (i := 444) (by decide +kernel) rfl
theorem ks_X1_rowForPlan : Cond.selects RX1 yX1_rowForPlan yX1_rowForPlan ∈ WA := wa_of (i := 445) (by decide +kernel) rfl
theorem kc_X1_rowForPlan : Cond.code yX1_rowForPlan cX1_rowForPlan 3 (some .int) ∈ WA := wa_of (i := 446) (by decide +kernel) rfl
theorem kl_L_123 : Cond.methodLink RL 123 yL_run ∈ WA := wa_of (i := 447) (by decide +kernel) rfl
theorem kt_L_run : Cond.static yL_run ∈ WA := wa_of (i := 448) (by decide +kernel) rfl
theorem kc_L_run : Cond.codeWith yL_run cL_run 4 (some .int) [(0, 9, 12, 13)] ∈ WA := wa_of (i := 449) (by decide +kernel) rfl
theorem kl_L_44 : Cond.methodLink RL 44 yX3_run ∈ WA := wa_of (i := 450) (by decide +kernel) rfl
theorem ki_X3_run : Cond.instanceMethod yX3_run ∈ WA := wa_of (i := 451) (by decide +kernel) rfl
theorem ks_X3_run : Cond.selects RX3 yX3_run yX3_run ∈ WA := wa_of (i := 452) (by decide +kernel) rfl
theorem kc_X3_run : Cond.code yX3_run cX3_run 2 (some .int) ∈ WA := wa_of (i := 453) (by decide +kernel) rfl
theorem kl_X3_102 : Cond.methodLink RX3 102 yX1_runUntil ∈ WA := wa_of (i := 454) (by decide +kernel) rfl
theorem ki_X1_runUntil : Cond.instanceMethod yX1_runUntil ∈ WA := wa_of (i := 455) (by decide +kernel) rfl
theorem ks_X1_runUntil : Cond.selects RX1 yX1_runUntil yX1_runUntil ∈ WA := wa_of (i := 456) (by decide +kernel) rfl
theorem kc_X1_runUntil : Cond.code yX1_runUntil cX1_runUntil 5 (some .int) ∈ WA := wa_of (i := 457) (by decide +kernel) rfl
theorem kl_X1_75 : Cond.methodLink RX1 75 yX2_isFull ∈ WA := wa_of (i := 458) (by decide +kernel) rfl
theorem kl_X1_79 : Cond.methodLink RX1 79 yX1_carryOutFirstPlan ∈ WA := wa_of (i := 459) (by decide +kernel) rfl
theorem ki_X1_carryOutFirstPlan : Cond.instanceMethod yX1_carryOutFirstPlan ∈ WA := wa_of (i := 461) (by decide +kernel) rfl
theorem kc_X1_carryOutFirstPlan : Cond.code yX1_carryOutFirstPlan cX1_carryOutFirstPlan 1 none ∈ WA := wa_of (i := 462) (by decide +kernel) rfl
theorem kl_X1_85 : Cond.methodLink RX1 85 yJ9_max_f86c9 ∈ WA := wa_of (i := 463) (by decide +kernel) rfl
theorem kt_J9_max_f86c9 : Cond.static yJ9_max_f86c9 ∈ WA := wa_of (i := 464) (by decide +kernel) rfl
theorem kc_J9_max_f86c9 : Cond.code yJ9_max_f86c9 cJ9_max_f86c9 4 (some .long) ∈ WA := wa_of (i := 465) (by decide +kernel) rfl
theorem kl_X1_88 : Cond.methodLink RX1 88 yX1_carryOut ∈ WA := wa_of (i := 466) (by decide +kernel) rfl
theorem kl_X1_82 : Cond.methodLink RX1 82 yX2_removeFirstRow ∈ WA := wa_of (i := 467) (by decide +kernel) rfl
theorem ki_X2_removeFirstRow : Cond.instanceMethod yX2_removeFirstRow ∈ WA := wa_of (i := 468) (by decide +kernel) rfl
theorem ks_X2_removeFirstRow : Cond.selects RX2 yX2_removeFirstRow yX2_removeFirstRow ∈ WA := wa_of (i := 469) (by decide +kernel) rfl
theorem kc_X2_removeFirstRow : Cond.code yX2_removeFirstRow cX2_removeFirstRow 1 none ∈ WA := wa_of (i := 470) (by decide +kernel) rfl
theorem kl_L_135 : Cond.methodLink RL 135 yL_stamp ∈ WA := wa_of (i := 471) (by decide +kernel) rfl
theorem kt_L_stamp : Cond.static yL_stamp ∈ WA := wa_of (i := 472) (by decide +kernel) rfl
theorem kc_L_stamp : Cond.codeWith yL_stamp cL_stamp 5 (some .int) [(0, 10, 13, 21), (0, 10, 17, 13)] ∈ WA := wa_of (i := 473) (by decide +kernel) rfl
theorem kl_L_47 : Cond.methodLink RL 47 yX3_stamp ∈ WA := wa_of (i := 474) (by decide +kernel) rfl
theorem ki_X3_stamp : Cond.instanceMethod yX3_stamp ∈ WA := wa_of (i := 475) (by decide +kernel) rfl
theorem ks_X3_stamp : Cond.selects RX3 yX3_stamp yX3_stamp ∈ WA := wa_of (i := 476) (by decide +kernel) rfl
theorem kc_X3_stamp : Cond.code yX3_stamp cX3_stamp 3 (some .int) ∈ WA := wa_of (i := 477) (by decide +kernel) rfl
theorem kl_X3_109 : Cond.methodLink RX3 109 yX3_requireExchange ∈ WA := wa_of (i := 478) (by decide +kernel) rfl
theorem ki_X3_requireExchange : Cond.instanceMethod yX3_requireExchange ∈ WA := wa_of (i := 480) (by decide +kernel) rfl
theorem kc_X3_requireExchange : Cond.code yX3_requireExchange cX3_requireExchange 2 none ∈ WA := wa_of (i := 481) (by decide +kernel) rfl
theorem kl_L_138 : Cond.methodLink RL 138 yL_party ∈ WA := wa_of (i := 483) (by decide +kernel) rfl
theorem kt_L_party : Cond.static yL_party ∈ WA := wa_of (i := 484) (by decide +kernel) rfl
theorem kc_L_party : Cond.codeWith yL_party cL_party 5 (some .int) [(0, 10, 13, 21), (0, 10, 17, 13)] ∈ WA := wa_of (i := 485) (by decide +kernel) rfl
theorem kl_L_50 : Cond.methodLink RL 50 yX3_party ∈ WA := wa_of (i := 486) (by decide +kernel) rfl
theorem ki_X3_party : Cond.instanceMethod yX3_party ∈ WA := wa_of (i := 487) (by decide +kernel) rfl
theorem ks_X3_party : Cond.selects RX3 yX3_party yX3_party ∈ WA := wa_of (i := 488) (by decide +kernel) rfl
theorem kc_X3_party : Cond.code yX3_party cX3_party 3 (some .int) ∈ WA := wa_of (i := 489) (by decide +kernel) rfl
theorem kl_L_141 : Cond.methodLink RL 141 yL_range ∈ WA := wa_of (i := 490) (by decide +kernel) rfl
theorem kt_L_range : Cond.static yL_range ∈ WA := wa_of (i := 491) (by decide +kernel) rfl
theorem kc_L_range : Cond.codeWith yL_range cL_range 5 (some .int) [(0, 10, 13, 21), (0, 10, 17, 13)] ∈ WA := wa_of (i := 492) (by decide +kernel) rfl
theorem kl_L_53 : Cond.methodLink RL 53 yX3_range ∈ WA := wa_of (i := 493) (by decide +kernel) rfl
theorem ki_X3_range : Cond.instanceMethod yX3_range ∈ WA := wa_of (i := 494) (by decide +kernel) rfl
theorem ks_X3_range : Cond.selects RX3 yX3_range yX3_range ∈ WA := wa_of (i := 495) (by decide +kernel) rfl
theorem kc_X3_range : Cond.code yX3_range cX3_range 3 (some .int) ∈ WA := wa_of (i := 496) (by decide +kernel) rfl
theorem kl_X3_112 : Cond.methodLink RX3 112 yX3_requireMethod ∈ WA := wa_of (i := 497) (by decide +kernel) rfl
theorem kt_X3_requireMethod : Cond.static yX3_requireMethod ∈ WA := wa_of (i := 498) (by decide +kernel) rfl
theorem kc_X3_requireMethod : Cond.code yX3_requireMethod cX3_requireMethod 1 none ∈ WA := wa_of (i := 499) (by decide +kernel) rfl
theorem kl_X3_115 : Cond.methodLink RX3 115 yX1_rangeOf ∈ WA := wa_of (i := 500) (by decide +kernel) rfl
theorem kl_L_144 : Cond.methodLink RL 144 yL_latestRange ∈ WA := wa_of (i := 501) (by decide +kernel) rfl
theorem kt_L_latestRange : Cond.static yL_latestRange ∈ WA := wa_of (i := 502) (by decide +kernel) rfl
theorem kc_L_latestRange : Cond.codeWith yL_latestRange cL_latestRange 6 (some .int) [(0, 12, 15, 21), (0, 12, 19, 13), (0, 12, 23, 15)] ∈ WA := wa_of (i := 503) (by decide +kernel) rfl
theorem kl_L_56 : Cond.methodLink RL 56 yX3_latestRange ∈ WA := wa_of (i := 504) (by decide +kernel) rfl
theorem ki_X3_latestRange : Cond.instanceMethod yX3_latestRange ∈ WA := wa_of (i := 505) (by decide +kernel) rfl
theorem ks_X3_latestRange : Cond.selects RX3 yX3_latestRange yX3_latestRange ∈ WA := wa_of (i := 506) (by decide +kernel) rfl
theorem kc_X3_latestRange : Cond.code yX3_latestRange cX3_latestRange 4 (some .int) ∈ WA := wa_of (i := 507) (by decide +kernel) rfl
theorem kl_X3_118 : Cond.methodLink RX3 118 yX3_requireLatest ∈ WA := wa_of (i := 508) (by decide +kernel) rfl
theorem ki_X3_requireLatest : Cond.instanceMethod yX3_requireLatest ∈ WA := wa_of (i := 510) (by decide +kernel) rfl
theorem kc_X3_requireLatest : Cond.code yX3_requireLatest cX3_requireLatest 4 (some .int) ∈ WA := wa_of (i := 511) (by decide +kernel) rfl
theorem kl_X3_202 : Cond.methodLink RX3 202 yX1_latestBetween ∈ WA := wa_of (i := 512) (by decide +kernel) rfl
theorem ki_X1_latestBetween : Cond.instanceMethod yX1_latestBetween ∈ WA := wa_of (i := 513) (by decide +kernel) rfl
theorem ks_X1_latestBetween : Cond.selects RX1 yX1_latestBetween yX1_latestBetween ∈ WA := wa_of (i := 514) (by decide +kernel) rfl
theorem kc_X1_latestBetween : Cond.code yX1_latestBetween cX1_latestBetween 6 (some .int) ∈ WA := wa_of (i := 515) (by decide +kernel) rfl
theorem kl_L_147 : Cond.methodLink RL 147 yL_worstError ∈ WA := wa_of (i := 517) (by decide +kernel) rfl
theorem kt_L_worstError : Cond.static yL_worstError ∈ WA := wa_of (i := 518) (by decide +kernel) rfl
theorem kc_L_worstError : Cond.codeWith yL_worstError cL_worstError 4 (some .int) [(0, 9, 12, 13)] ∈ WA := wa_of (i := 519) (by decide +kernel) rfl
theorem kl_L_59 : Cond.methodLink RL 59 yX3_worstError ∈ WA := wa_of (i := 520) (by decide +kernel) rfl
theorem ki_X3_worstError : Cond.instanceMethod yX3_worstError ∈ WA := wa_of (i := 521) (by decide +kernel) rfl
theorem ks_X3_worstError : Cond.selects RX3 yX3_worstError yX3_worstError ∈ WA := wa_of (i := 522) (by decide +kernel) rfl
theorem kc_X3_worstError : Cond.code yX3_worstError cX3_worstError 4 (some .int) ∈ WA := wa_of (i := 523) (by decide +kernel) rfl
theorem kl_X3_121 : Cond.methodLink RX3 121 yX1_errorOf ∈ WA := wa_of (i := 524) (by decide +kernel) rfl
theorem ki_X1_errorOf : Cond.instanceMethod yX1_errorOf ∈ WA := wa_of (i := 525) (by decide +kernel) rfl
theorem ks_X1_errorOf : Cond.selects RX1 yX1_errorOf yX1_errorOf ∈ WA := wa_of (i := 526) (by decide +kernel) rfl
theorem kc_X1_errorOf : Cond.code yX1_errorOf cX1_errorOf 3 (some .int) ∈ WA := wa_of (i := 527) (by decide +kernel) rfl
theorem kl_X1_112 : Cond.methodLink RX1 112 yX1_lengthOf ∈ WA := wa_of (i := 528) (by decide +kernel) rfl
theorem ki_X1_lengthOf : Cond.instanceMethod yX1_lengthOf ∈ WA := wa_of (i := 530) (by decide +kernel) rfl
theorem kc_X1_lengthOf : Cond.code yX1_lengthOf cX1_lengthOf 2 (some .int) ∈ WA := wa_of (i := 531) (by decide +kernel) rfl
theorem kl_X3_124 : Cond.methodLink RX3 124 yJ9_abs_0f7a4 ∈ WA := wa_of (i := 532) (by decide +kernel) rfl
theorem kt_J9_abs_0f7a4 : Cond.static yJ9_abs_0f7a4 ∈ WA := wa_of (i := 533) (by decide +kernel) rfl
theorem kc_J9_abs_0f7a4 : Cond.code yJ9_abs_0f7a4 cJ9_abs_0f7a4 1 (some .int) ∈ WA := wa_of (i := 534) (by decide +kernel) rfl
theorem kl_X3_129 : Cond.methodLink RX3 129 yJ9_max_7cf53 ∈ WA := wa_of (i := 535) (by decide +kernel) rfl
theorem kt_J9_max_7cf53 : Cond.static yJ9_max_7cf53 ∈ WA := wa_of (i := 536) (by decide +kernel) rfl
theorem kc_J9_max_7cf53 : Cond.code yJ9_max_7cf53 cJ9_max_7cf53 2 (some .int) ∈ WA := wa_of (i := 537) (by decide +kernel) rfl
theorem kl_L_150 : Cond.methodLink RL 150 yL_meanError ∈ WA := wa_of (i := 538) (by decide +kernel) rfl
theorem kt_L_meanError : Cond.static yL_meanError ∈ WA := wa_of (i := 539) (by decide +kernel) rfl
theorem kc_L_meanError : Cond.codeWith yL_meanError cL_meanError 4 (some .int) [(0, 8, 11, 13)] ∈ WA := wa_of (i := 540) (by decide +kernel) rfl
theorem kl_L_62 : Cond.methodLink RL 62 yX3_meanError ∈ WA := wa_of (i := 541) (by decide +kernel) rfl
theorem ki_X3_meanError : Cond.instanceMethod yX3_meanError ∈ WA := wa_of (i := 542) (by decide +kernel) rfl
theorem ks_X3_meanError : Cond.selects RX3 yX3_meanError yX3_meanError ∈ WA := wa_of (i := 543) (by decide +kernel) rfl
theorem kc_X3_meanError : Cond.code yX3_meanError cX3_meanError 5 (some .double) ∈ WA := wa_of (i := 544) (by decide +kernel) rfl
theorem kl_L_154 : Cond.methodLink RL 154 yL_relativeDrift ∈ WA := wa_of (i := 545) (by decide +kernel) rfl
theorem kt_L_relativeDrift : Cond.static yL_relativeDrift ∈ WA := wa_of (i := 546) (by decide +kernel) rfl
theorem kc_L_relativeDrift : Cond.codeWith yL_relativeDrift cL_relativeDrift 4 (some .int) [(0, 8, 11, 21), (0, 8, 14, 69)] ∈ WA := wa_of (i := 547) (by decide +kernel) rfl
theorem kk_L_69 : Cond.classLink RL 69 "java/lang/ArithmeticException" ∈ WA := wa_of (i := 548) (by decide +kernel) rfl
theorem ko_ArithmeticException : Cond.instantiable "java/lang/ArithmeticException" 6 ∈ WA := wa_of (i := 549) (by decide +kernel) rfl
theorem kl_L_66 : Cond.methodLink RL 66 yX3_relativeDrift ∈ WA := wa_of (i := 562) (by decide +kernel) rfl
theorem ki_X3_relativeDrift : Cond.instanceMethod yX3_relativeDrift ∈ WA := wa_of (i := 563) (by decide +kernel) rfl
theorem ks_X3_relativeDrift : Cond.selects RX3 yX3_relativeDrift yX3_relativeDrift ∈ WA := wa_of (i := 564) (by decide +kernel) rfl
theorem kc_X3_relativeDrift : Cond.code yX3_relativeDrift cX3_relativeDrift 4 (some .double) ∈ WA := wa_of (i := 565) (by decide +kernel) rfl
theorem kl_X3_132 : Cond.methodLink RX3 132 yX1_elapsed ∈ WA := wa_of (i := 566) (by decide +kernel) rfl
theorem kk_X3_136 : Cond.classLink RX3 136 "java/lang/ArithmeticException" ∈ WA := wa_of (i := 567) (by decide +kernel) rfl
theorem kd_X3_141 : Cond.constantDouble RX3 141 (4696837146684686336) ∈ WA := wa_of (i := 570) (by decide +kernel) rfl
theorem kl_L_157 : Cond.methodLink RL 157 yL_calibrate ∈ WA := wa_of (i := 571) (by decide +kernel) rfl
theorem kt_L_calibrate : Cond.static yL_calibrate ∈ WA := wa_of (i := 572) (by decide +kernel) rfl
theorem kc_L_calibrate : Cond.codeWith yL_calibrate cL_calibrate 6 (some .int) [(0, 12, 15, 21), (0, 12, 19, 13), (0, 12, 23, 15)] ∈ WA := wa_of (i := 573) (by decide +kernel) rfl
theorem kl_L_71 : Cond.methodLink RL 71 yX3_calibrate ∈ WA := wa_of (i := 574) (by decide +kernel) rfl
theorem ki_X3_calibrate : Cond.instanceMethod yX3_calibrate ∈ WA := wa_of (i := 575) (by decide +kernel) rfl
theorem ks_X3_calibrate : Cond.selects RX3 yX3_calibrate yX3_calibrate ∈ WA := wa_of (i := 576) (by decide +kernel) rfl
theorem kc_X3_calibrate : Cond.code yX3_calibrate cX3_calibrate 10 (some .int) ∈ WA := wa_of (i := 577) (by decide +kernel) rfl
theorem kl_X3_143 : Cond.methodLink RX3 143 yX1_excessOf ∈ WA := wa_of (i := 578) (by decide +kernel) rfl
theorem ki_X1_excessOf : Cond.instanceMethod yX1_excessOf ∈ WA := wa_of (i := 579) (by decide +kernel) rfl
theorem ks_X1_excessOf : Cond.selects RX1 yX1_excessOf yX1_excessOf ∈ WA := wa_of (i := 580) (by decide +kernel) rfl
theorem kc_X1_excessOf : Cond.code yX1_excessOf cX1_excessOf 2 (some .int) ∈ WA := wa_of (i := 581) (by decide +kernel) rfl
theorem kl_X3_146 : Cond.methodLink RX3 146 yJ9_floorDiv_7cf53 ∈ WA := wa_of (i := 582) (by decide +kernel) rfl
theorem kt_J9_floorDiv_7cf53 : Cond.static yJ9_floorDiv_7cf53 ∈ WA := wa_of (i := 583) (by decide +kernel) rfl
theorem kc_J9_floorDiv_7cf53 : Cond.code yJ9_floorDiv_7cf53 cJ9_floorDiv_7cf53 3 (some .int) ∈ WA := wa_of (i := 584) (by decide +kernel) rfl
theorem kl_L_160 : Cond.methodLink RL 160 yL_fix ∈ WA := wa_of (i := 585) (by decide +kernel) rfl
theorem kt_L_fix : Cond.static yL_fix ∈ WA := wa_of (i := 586) (by decide +kernel) rfl
theorem kc_L_fix : Cond.codeWith yL_fix cL_fix 7 (some .int) [(0, 14, 17, 21), (0, 14, 21, 13), (0, 14, 25, 15), (0, 14, 29, 69)] ∈ WA := wa_of (i := 587) (by decide +kernel) rfl
theorem kl_L_74 : Cond.methodLink RL 74 yX3_fix ∈ WA := wa_of (i := 588) (by decide +kernel) rfl
theorem ki_X3_fix : Cond.instanceMethod yX3_fix ∈ WA := wa_of (i := 589) (by decide +kernel) rfl
theorem ks_X3_fix : Cond.selects RX3 yX3_fix yX3_fix ∈ WA := wa_of (i := 590) (by decide +kernel) rfl
theorem kc_X3_fix : Cond.code yX3_fix cX3_fix 18 (some .int) ∈ WA := wa_of (i := 591) (by decide +kernel) rfl
theorem kl_X3_154 : Cond.methodLink RX3 154 yX3_requireFourNodes ∈ WA := wa_of (i := 593) (by decide +kernel) rfl
theorem kt_X3_requireFourNodes : Cond.static yX3_requireFourNodes ∈ WA := wa_of (i := 594) (by decide +kernel) rfl
theorem kc_X3_requireFourNodes : Cond.code yX3_requireFourNodes cX3_requireFourNodes 4 none ∈ WA := wa_of (i := 595) (by decide +kernel) rfl
theorem kl_X3_158 : Cond.methodLink RX3 158 yX3_squareOf ∈ WA := wa_of (i := 596) (by decide +kernel) rfl
theorem kt_X3_squareOf : Cond.static yX3_squareOf ∈ WA := wa_of (i := 597) (by decide +kernel) rfl
theorem kc_X3_squareOf : Cond.code yX3_squareOf cX3_squareOf 1 (some .long) ∈ WA := wa_of (i := 598) (by decide +kernel) rfl
theorem kl_X3_162 : Cond.methodLink RX3 162 yX1_squareFromOrigin ∈ WA := wa_of (i := 599) (by decide +kernel) rfl
theorem ki_X1_squareFromOrigin : Cond.instanceMethod yX1_squareFromOrigin ∈ WA := wa_of (i := 600) (by decide +kernel) rfl
theorem ks_X1_squareFromOrigin : Cond.selects RX1 yX1_squareFromOrigin yX1_squareFromOrigin ∈ WA := wa_of (i := 601) (by decide +kernel) rfl
theorem kc_X1_squareFromOrigin : Cond.code yX1_squareFromOrigin cX1_squareFromOrigin 2 (some .long) ∈ WA := wa_of (i := 602) (by decide +kernel) rfl
theorem kl_X3_165 : Cond.methodLink RX3 165 yX3_solve ∈ WA := wa_of (i := 604) (by decide +kernel) rfl
theorem ki_X3_solve : Cond.instanceMethod yX3_solve ∈ WA := wa_of (i := 606) (by decide +kernel) rfl
theorem kc_X3_solve : Cond.code yX3_solve cX3_solve 23 (some .int) ∈ WA := wa_of (i := 607) (by decide +kernel) rfl
theorem kw_X3_207 : Cond.constantLong RX3 207 (2) ∈ WA := wa_of (i := 608) (by decide +kernel) rfl
theorem kl_X3_211 : Cond.methodLink RX3 211 yJ9_floorDiv_f86c9 ∈ WA := wa_of (i := 610) (by decide +kernel) rfl
theorem kw_X3_215 : Cond.constantLong RX3 215 (-2147483648) ∈ WA := wa_of (i := 611) (by decide +kernel) rfl
theorem kw_X3_217 : Cond.constantLong RX3 217 (2147483647) ∈ WA := wa_of (i := 612) (by decide +kernel) rfl
theorem kl_L_163 : Cond.methodLink RL 163 yL_undo ∈ WA := wa_of (i := 614) (by decide +kernel) rfl
theorem kt_L_undo : Cond.static yL_undo ∈ WA := wa_of (i := 615) (by decide +kernel) rfl
theorem kc_L_undo : Cond.codeWith yL_undo cL_undo 3 (some .int) [(0, 8, 11, 15)] ∈ WA := wa_of (i := 616) (by decide +kernel) rfl
theorem kl_L_77 : Cond.methodLink RL 77 yX3_undo ∈ WA := wa_of (i := 617) (by decide +kernel) rfl
theorem ki_X3_undo : Cond.instanceMethod yX3_undo ∈ WA := wa_of (i := 618) (by decide +kernel) rfl
theorem ks_X3_undo : Cond.selects RX3 yX3_undo yX3_undo ∈ WA := wa_of (i := 619) (by decide +kernel) rfl
theorem kc_X3_undo : Cond.code yX3_undo cX3_undo 1 (some .int) ∈ WA := wa_of (i := 620) (by decide +kernel) rfl
theorem kl_X3_172 : Cond.methodLink RX3 172 yX0_restore ∈ WA := wa_of (i := 622) (by decide +kernel) rfl
theorem ki_X0_restore : Cond.instanceMethod yX0_restore ∈ WA := wa_of (i := 623) (by decide +kernel) rfl
theorem ks_X0_restore : Cond.selects RX0 yX0_restore yX0_restore ∈ WA := wa_of (i := 624) (by decide +kernel) rfl
theorem kc_X0_restore : Cond.code yX0_restore cX0_restore 3 none ∈ WA := wa_of (i := 625) (by decide +kernel) rfl
theorem kk_L_82 : Cond.classLink RL 82 RX4 ∈ WA := wa_of (i := 626) (by decide +kernel) rfl
theorem ko_X4 : Cond.instantiable RX4 4 ∈ WA := wa_of (i := 627) (by decide +kernel) rfl
theorem kl_L_84 : Cond.methodLink RL 84 yX4_init ∈ WA := wa_of (i := 628) (by decide +kernel) rfl
theorem ki_X4_init : Cond.instanceMethod yX4_init ∈ WA := wa_of (i := 629) (by decide +kernel) rfl
theorem kc_X4_init : Cond.code yX4_init cX4_init 1 none ∈ WA := wa_of (i := 630) (by decide +kernel) rfl
theorem kl_X4_1 : Cond.methodLink RX4 1 objectInit ∈ WA := wa_of (i := 631) (by decide +kernel) rfl
theorem kf_X4_7 : Cond.fieldLink RX4 7 "RangingNetModel" "all" "[J" ∈ WA := wa_of (i := 632) (by decide +kernel) rfl
theorem kf_X4_13 : Cond.fieldLink RX4 13 "RangingNetModel" "saved" "[J" ∈ WA := wa_of (i := 633) (by decide +kernel) rfl
theorem kf_X4_20 : Cond.fieldLink RX4 20 "RangingNetModel" "savedMany" "I" ∈ WA := wa_of (i := 634) (by decide +kernel) rfl
theorem kf_X4_16 : Cond.fieldLink RX4 16 "RangingNetModel" "thrown" "I" ∈ WA := wa_of (i := 635) (by decide +kernel) rfl
theorem ka_long : Cond.arrayClass .long ∈ WA := wa_of (i := 645) (by decide +kernel) rfl
theorem kl_L_91 : Cond.methodLink RL 91 yX4_thrown ∈ WA := wa_of (i := 646) (by decide +kernel) rfl
theorem ki_X4_thrown : Cond.instanceMethod yX4_thrown ∈ WA := wa_of (i := 647) (by decide +kernel) rfl
theorem ks_X4_thrown : Cond.selects RX4 yX4_thrown yX4_thrown ∈ WA := wa_of (i := 648) (by decide +kernel) rfl
theorem kc_X4_thrown : Cond.code yX4_thrown cX4_thrown 1 (some .int) ∈ WA := wa_of (i := 649) (by decide +kernel) rfl
theorem kl_L_90 : Cond.methodLink RL 90 yX4_addNode ∈ WA := wa_of (i := 650) (by decide +kernel) rfl
theorem ki_X4_addNode : Cond.instanceMethod yX4_addNode ∈ WA := wa_of (i := 651) (by decide +kernel) rfl
theorem ks_X4_addNode : Cond.selects RX4 yX4_addNode yX4_addNode ∈ WA := wa_of (i := 652) (by decide +kernel) rfl
theorem kc_X4_addNode : Cond.code yX4_addNode cX4_addNode 8 (some .int) ∈ WA := wa_of (i := 653) (by decide +kernel) rfl
theorem kl_X4_31 : Cond.methodLink RX4 31 yX4_isPlace ∈ WA := wa_of (i := 654) (by decide +kernel) rfl
theorem kt_X4_isPlace : Cond.static yX4_isPlace ∈ WA := wa_of (i := 655) (by decide +kernel) rfl
theorem kc_X4_isPlace : Cond.code yX4_isPlace cX4_isPlace 1 (some .boolean) ∈ WA := wa_of (i := 656) (by decide +kernel) rfl
theorem kw_X4_27 : Cond.constantLong RX4 27 (-1000) ∈ WA := wa_of (i := 657) (by decide +kernel) rfl
theorem kw_X4_29 : Cond.constantLong RX4 29 (1000) ∈ WA := wa_of (i := 658) (by decide +kernel) rfl
theorem kl_X4_23 : Cond.methodLink RX4 23 yX4_in ∈ WA := wa_of (i := 659) (by decide +kernel) rfl
theorem kt_X4_in : Cond.static yX4_in ∈ WA := wa_of (i := 660) (by decide +kernel) rfl
theorem kc_X4_in : Cond.code yX4_in cX4_in 6 (some .boolean) ∈ WA := wa_of (i := 661) (by decide +kernel) rfl
theorem kw_X4_35 : Cond.constantLong RX4 35 (-100) ∈ WA := wa_of (i := 662) (by decide +kernel) rfl
theorem kw_X4_37 : Cond.constantLong RX4 37 (100) ∈ WA := wa_of (i := 663) (by decide +kernel) rfl
theorem kw_X4_39 : Cond.constantLong RX4 39 (1048575) ∈ WA := wa_of (i := 664) (by decide +kernel) rfl
theorem kw_X4_41 : Cond.constantLong RX4 41 (200) ∈ WA := wa_of (i := 665) (by decide +kernel) rfl
theorem kw_X4_43 : Cond.constantLong RX4 43 (6) ∈ WA := wa_of (i := 666) (by decide +kernel) rfl
theorem kl_X4_45 : Cond.methodLink RX4 45 yX4_goes ∈ WA := wa_of (i := 667) (by decide +kernel) rfl
theorem ki_X4_goes : Cond.instanceMethod yX4_goes ∈ WA := wa_of (i := 669) (by decide +kernel) rfl
theorem kc_X4_goes : Cond.code yX4_goes cX4_goes 4 (some .boolean) ∈ WA := wa_of (i := 670) (by decide +kernel) rfl
theorem kl_X4_49 : Cond.methodLink RX4 49 yX4_save ∈ WA := wa_of (i := 671) (by decide +kernel) rfl
theorem ki_X4_save : Cond.instanceMethod yX4_save ∈ WA := wa_of (i := 673) (by decide +kernel) rfl
theorem kc_X4_save : Cond.code yX4_save cX4_save 2 none ∈ WA := wa_of (i := 674) (by decide +kernel) rfl
theorem kl_L_97 : Cond.methodLink RL 97 yX4_move ∈ WA := wa_of (i := 675) (by decide +kernel) rfl
theorem ki_X4_move : Cond.instanceMethod yX4_move ∈ WA := wa_of (i := 676) (by decide +kernel) rfl
theorem ks_X4_move : Cond.selects RX4 yX4_move yX4_move ∈ WA := wa_of (i := 677) (by decide +kernel) rfl
theorem kc_X4_move : Cond.code yX4_move cX4_move 6 (some .int) ∈ WA := wa_of (i := 678) (by decide +kernel) rfl
theorem kl_X4_64 : Cond.methodLink RX4 64 yX4_isNode ∈ WA := wa_of (i := 679) (by decide +kernel) rfl
theorem ki_X4_isNode : Cond.instanceMethod yX4_isNode ∈ WA := wa_of (i := 681) (by decide +kernel) rfl
theorem kc_X4_isNode : Cond.code yX4_isNode cX4_isNode 2 (some .boolean) ∈ WA := wa_of (i := 682) (by decide +kernel) rfl
theorem kl_X4_56 : Cond.methodLink RX4 56 yX4_of ∈ WA := wa_of (i := 683) (by decide +kernel) rfl
theorem ki_X4_of : Cond.instanceMethod yX4_of ∈ WA := wa_of (i := 685) (by decide +kernel) rfl
theorem kc_X4_of : Cond.code yX4_of cX4_of 3 (some .long) ∈ WA := wa_of (i := 686) (by decide +kernel) rfl
theorem kl_X4_60 : Cond.methodLink RX4 60 yX4_rootOf ∈ WA := wa_of (i := 687) (by decide +kernel) rfl
theorem kt_X4_rootOf : Cond.static yX4_rootOf ∈ WA := wa_of (i := 688) (by decide +kernel) rfl
theorem kc_X4_rootOf : Cond.code yX4_rootOf cX4_rootOf 12 (some .long) ∈ WA := wa_of (i := 689) (by decide +kernel) rfl
theorem kw_X4_52 : Cond.constantLong RX4 52 (4096) ∈ WA := wa_of (i := 690) (by decide +kernel) rfl
theorem kw_X4_54 : Cond.constantLong RX4 54 (2) ∈ WA := wa_of (i := 691) (by decide +kernel) rfl
theorem kl_L_101 : Cond.methodLink RL 101 yX4_assume ∈ WA := wa_of (i := 692) (by decide +kernel) rfl
theorem ki_X4_assume : Cond.instanceMethod yX4_assume ∈ WA := wa_of (i := 693) (by decide +kernel) rfl
theorem ks_X4_assume : Cond.selects RX4 yX4_assume yX4_assume ∈ WA := wa_of (i := 694) (by decide +kernel) rfl
theorem kc_X4_assume : Cond.code yX4_assume cX4_assume 5 (some .int) ∈ WA := wa_of (i := 695) (by decide +kernel) rfl
theorem kl_L_105 : Cond.methodLink RL 105 yX4_assumed ∈ WA := wa_of (i := 696) (by decide +kernel) rfl
theorem ki_X4_assumed : Cond.instanceMethod yX4_assumed ∈ WA := wa_of (i := 697) (by decide +kernel) rfl
theorem ks_X4_assumed : Cond.selects RX4 yX4_assumed yX4_assumed ∈ WA := wa_of (i := 698) (by decide +kernel) rfl
theorem kc_X4_assumed : Cond.code yX4_assumed cX4_assumed 2 (some .int) ∈ WA := wa_of (i := 699) (by decide +kernel) rfl
theorem kl_L_108 : Cond.methodLink RL 108 yX4_distance ∈ WA := wa_of (i := 700) (by decide +kernel) rfl
theorem ki_X4_distance : Cond.instanceMethod yX4_distance ∈ WA := wa_of (i := 701) (by decide +kernel) rfl
theorem ks_X4_distance : Cond.selects RX4 yX4_distance yX4_distance ∈ WA := wa_of (i := 702) (by decide +kernel) rfl
theorem kc_X4_distance : Cond.code yX4_distance cX4_distance 3 (some .int) ∈ WA := wa_of (i := 703) (by decide +kernel) rfl
theorem kl_X4_67 : Cond.methodLink RX4 67 yX4_distanceOf ∈ WA := wa_of (i := 704) (by decide +kernel) rfl
theorem ki_X4_distanceOf : Cond.instanceMethod yX4_distanceOf ∈ WA := wa_of (i := 706) (by decide +kernel) rfl
theorem kc_X4_distanceOf : Cond.code yX4_distanceOf cX4_distanceOf 3 (some .long) ∈ WA := wa_of (i := 707) (by decide +kernel) rfl
theorem kl_L_111 : Cond.methodLink RL 111 yX4_counter ∈ WA := wa_of (i := 708) (by decide +kernel) rfl
theorem ki_X4_counter : Cond.instanceMethod yX4_counter ∈ WA := wa_of (i := 709) (by decide +kernel) rfl
theorem ks_X4_counter : Cond.selects RX4 yX4_counter yX4_counter ∈ WA := wa_of (i := 710) (by decide +kernel) rfl
theorem kc_X4_counter : Cond.code yX4_counter cX4_counter 3 (some .int) ∈ WA := wa_of (i := 711) (by decide +kernel) rfl
theorem kw_X4_74 : Cond.constantLong RX4 74 (1000000000) ∈ WA := wa_of (i := 712) (by decide +kernel) rfl
theorem kl_X4_76 : Cond.methodLink RX4 76 yX4_counterAt ∈ WA := wa_of (i := 713) (by decide +kernel) rfl
theorem ki_X4_counterAt : Cond.instanceMethod yX4_counterAt ∈ WA := wa_of (i := 715) (by decide +kernel) rfl
theorem kc_X4_counterAt : Cond.code yX4_counterAt cX4_counterAt 4 (some .long) ∈ WA := wa_of (i := 716) (by decide +kernel) rfl
theorem kw_X4_70 : Cond.constantLong RX4 70 (1000000) ∈ WA := wa_of (i := 717) (by decide +kernel) rfl
theorem kw_X4_72 : Cond.constantLong RX4 72 (1048576) ∈ WA := wa_of (i := 718) (by decide +kernel) rfl
theorem kl_L_115 : Cond.methodLink RL 115 yX4_exchange ∈ WA := wa_of (i := 719) (by decide +kernel) rfl
theorem ki_X4_exchange : Cond.instanceMethod yX4_exchange ∈ WA := wa_of (i := 720) (by decide +kernel) rfl
theorem ks_X4_exchange : Cond.selects RX4 yX4_exchange yX4_exchange ∈ WA := wa_of (i := 721) (by decide +kernel) rfl
theorem kc_X4_exchange : Cond.code yX4_exchange cX4_exchange 5 (some .int) ∈ WA := wa_of (i := 722) (by decide +kernel) rfl
theorem kl_X4_82 : Cond.methodLink RX4 82 yX4_areReplies ∈ WA := wa_of (i := 723) (by decide +kernel) rfl
theorem kt_X4_areReplies : Cond.static yX4_areReplies ∈ WA := wa_of (i := 724) (by decide +kernel) rfl
theorem kc_X4_areReplies : Cond.code yX4_areReplies cX4_areReplies 4 (some .boolean) ∈ WA := wa_of (i := 725) (by decide +kernel) rfl
theorem kw_X4_80 : Cond.constantLong RX4 80 (400000) ∈ WA := wa_of (i := 726) (by decide +kernel) rfl
theorem kw_X4_86 : Cond.constantLong RX4 86 (40) ∈ WA := wa_of (i := 727) (by decide +kernel) rfl
theorem kl_X4_88 : Cond.methodLink RX4 88 yX4_carriesOut ∈ WA := wa_of (i := 728) (by decide +kernel) rfl
theorem ki_X4_carriesOut : Cond.instanceMethod yX4_carriesOut ∈ WA := wa_of (i := 730) (by decide +kernel) rfl
theorem kc_X4_carriesOut : Cond.code yX4_carriesOut cX4_carriesOut 14 none ∈ WA := wa_of (i := 731) (by decide +kernel) rfl
theorem kl_L_118 : Cond.methodLink RL 118 yX4_plan ∈ WA := wa_of (i := 732) (by decide +kernel) rfl
theorem ki_X4_plan : Cond.instanceMethod yX4_plan ∈ WA := wa_of (i := 733) (by decide +kernel) rfl
theorem ks_X4_plan : Cond.selects RX4 yX4_plan yX4_plan ∈ WA := wa_of (i := 734) (by decide +kernel) rfl
theorem kc_X4_plan : Cond.code yX4_plan cX4_plan 7 (some .int) ∈ WA := wa_of (i := 735) (by decide +kernel) rfl
theorem kw_X4_92 : Cond.constantLong RX4 92 (900000000) ∈ WA := wa_of (i := 736) (by decide +kernel) rfl
theorem kw_X4_94 : Cond.constantLong RX4 94 (20) ∈ WA := wa_of (i := 737) (by decide +kernel) rfl
theorem kl_L_122 : Cond.methodLink RL 122 yX4_nextPlanned ∈ WA := wa_of (i := 738) (by decide +kernel) rfl
theorem ki_X4_nextPlanned : Cond.instanceMethod yX4_nextPlanned ∈ WA := wa_of (i := 739) (by decide +kernel) rfl
theorem ks_X4_nextPlanned : Cond.selects RX4 yX4_nextPlanned yX4_nextPlanned ∈ WA := wa_of (i := 740) (by decide +kernel) rfl
theorem kc_X4_nextPlanned : Cond.code yX4_nextPlanned cX4_nextPlanned 2 (some .int) ∈ WA := wa_of (i := 741) (by decide +kernel) rfl
theorem kl_X4_96 : Cond.methodLink RX4 96 yX4_waiting ∈ WA := wa_of (i := 742) (by decide +kernel) rfl
theorem ki_X4_waiting : Cond.instanceMethod yX4_waiting ∈ WA := wa_of (i := 744) (by decide +kernel) rfl
theorem kc_X4_waiting : Cond.code yX4_waiting cX4_waiting 10 (some .int) ∈ WA := wa_of (i := 745) (by decide +kernel) rfl
theorem kl_L_125 : Cond.methodLink RL 125 yX4_run ∈ WA := wa_of (i := 746) (by decide +kernel) rfl
theorem ki_X4_run : Cond.instanceMethod yX4_run ∈ WA := wa_of (i := 747) (by decide +kernel) rfl
theorem ks_X4_run : Cond.selects RX4 yX4_run yX4_run ∈ WA := wa_of (i := 748) (by decide +kernel) rfl
theorem kc_X4_run : Cond.code yX4_run cX4_run 7 (some .int) ∈ WA := wa_of (i := 749) (by decide +kernel) rfl
theorem kl_X4_100 : Cond.methodLink RX4 100 yX4_removes ∈ WA := wa_of (i := 750) (by decide +kernel) rfl
theorem ki_X4_removes : Cond.instanceMethod yX4_removes ∈ WA := wa_of (i := 752) (by decide +kernel) rfl
theorem kc_X4_removes : Cond.code yX4_removes cX4_removes 3 none ∈ WA := wa_of (i := 753) (by decide +kernel) rfl
theorem kl_L_130 : Cond.methodLink RL 130 yX4_now ∈ WA := wa_of (i := 754) (by decide +kernel) rfl
theorem ki_X4_now : Cond.instanceMethod yX4_now ∈ WA := wa_of (i := 755) (by decide +kernel) rfl
theorem ks_X4_now : Cond.selects RX4 yX4_now yX4_now ∈ WA := wa_of (i := 756) (by decide +kernel) rfl
theorem kc_X4_now : Cond.code yX4_now cX4_now 1 (some .long) ∈ WA := wa_of (i := 757) (by decide +kernel) rfl
theorem kl_L_134 : Cond.methodLink RL 134 yX4_exchanges ∈ WA := wa_of (i := 758) (by decide +kernel) rfl
theorem ki_X4_exchanges : Cond.instanceMethod yX4_exchanges ∈ WA := wa_of (i := 759) (by decide +kernel) rfl
theorem ks_X4_exchanges : Cond.selects RX4 yX4_exchanges yX4_exchanges ∈ WA := wa_of (i := 760) (by decide +kernel) rfl
theorem kc_X4_exchanges : Cond.code yX4_exchanges cX4_exchanges 1 (some .int) ∈ WA := wa_of (i := 761) (by decide +kernel) rfl
theorem kl_L_137 : Cond.methodLink RL 137 yX4_stamp ∈ WA := wa_of (i := 762) (by decide +kernel) rfl
theorem ki_X4_stamp : Cond.instanceMethod yX4_stamp ∈ WA := wa_of (i := 763) (by decide +kernel) rfl
theorem ks_X4_stamp : Cond.selects RX4 yX4_stamp yX4_stamp ∈ WA := wa_of (i := 764) (by decide +kernel) rfl
theorem kc_X4_stamp : Cond.code yX4_stamp cX4_stamp 3 (some .int) ∈ WA := wa_of (i := 765) (by decide +kernel) rfl
theorem kl_X4_104 : Cond.methodLink RX4 104 yX4_isExchange ∈ WA := wa_of (i := 766) (by decide +kernel) rfl
theorem ki_X4_isExchange : Cond.instanceMethod yX4_isExchange ∈ WA := wa_of (i := 768) (by decide +kernel) rfl
theorem kc_X4_isExchange : Cond.code yX4_isExchange cX4_isExchange 2 (some .boolean) ∈ WA := wa_of (i := 769) (by decide +kernel) rfl
theorem kl_X4_107 : Cond.methodLink RX4 107 yX4_inExchange ∈ WA := wa_of (i := 770) (by decide +kernel) rfl
theorem ki_X4_inExchange : Cond.instanceMethod yX4_inExchange ∈ WA := wa_of (i := 772) (by decide +kernel) rfl
theorem kc_X4_inExchange : Cond.code yX4_inExchange cX4_inExchange 3 (some .long) ∈ WA := wa_of (i := 773) (by decide +kernel) rfl
theorem kl_L_140 : Cond.methodLink RL 140 yX4_party ∈ WA := wa_of (i := 774) (by decide +kernel) rfl
theorem ki_X4_party : Cond.instanceMethod yX4_party ∈ WA := wa_of (i := 775) (by decide +kernel) rfl
theorem ks_X4_party : Cond.selects RX4 yX4_party yX4_party ∈ WA := wa_of (i := 776) (by decide +kernel) rfl
theorem kc_X4_party : Cond.code yX4_party cX4_party 3 (some .int) ∈ WA := wa_of (i := 777) (by decide +kernel) rfl
theorem kl_L_143 : Cond.methodLink RL 143 yX4_range ∈ WA := wa_of (i := 778) (by decide +kernel) rfl
theorem ki_X4_range : Cond.instanceMethod yX4_range ∈ WA := wa_of (i := 779) (by decide +kernel) rfl
theorem ks_X4_range : Cond.selects RX4 yX4_range yX4_range ∈ WA := wa_of (i := 780) (by decide +kernel) rfl
theorem kc_X4_range : Cond.code yX4_range cX4_range 3 (some .int) ∈ WA := wa_of (i := 781) (by decide +kernel) rfl
theorem kl_X4_128 : Cond.methodLink RX4 128 yX4_isMethod ∈ WA := wa_of (i := 782) (by decide +kernel) rfl
theorem kt_X4_isMethod : Cond.static yX4_isMethod ∈ WA := wa_of (i := 783) (by decide +kernel) rfl
theorem kc_X4_isMethod : Cond.code yX4_isMethod cX4_isMethod 1 (some .boolean) ∈ WA := wa_of (i := 784) (by decide +kernel) rfl
theorem kl_X4_131 : Cond.methodLink RX4 131 yX4_rangeOf ∈ WA := wa_of (i := 785) (by decide +kernel) rfl
theorem ki_X4_rangeOf : Cond.instanceMethod yX4_rangeOf ∈ WA := wa_of (i := 787) (by decide +kernel) rfl
theorem kc_X4_rangeOf : Cond.code yX4_rangeOf cX4_rangeOf 3 (some .long) ∈ WA := wa_of (i := 788) (by decide +kernel) rfl
theorem kl_X4_119 : Cond.methodLink RX4 119 yX4_rawOf ∈ WA := wa_of (i := 789) (by decide +kernel) rfl
theorem ki_X4_rawOf : Cond.instanceMethod yX4_rawOf ∈ WA := wa_of (i := 791) (by decide +kernel) rfl
theorem kc_X4_rawOf : Cond.code yX4_rawOf cX4_rawOf 13 (some .long) ∈ WA := wa_of (i := 792) (by decide +kernel) rfl
theorem kl_X4_110 : Cond.methodLink RX4 110 yX4_span ∈ WA := wa_of (i := 793) (by decide +kernel) rfl
theorem ki_X4_span : Cond.instanceMethod yX4_span ∈ WA := wa_of (i := 795) (by decide +kernel) rfl
theorem kc_X4_span : Cond.code yX4_span cX4_span 4 (some .long) ∈ WA := wa_of (i := 796) (by decide +kernel) rfl
theorem kl_X4_114 : Cond.methodLink RX4 114 yX4_floor ∈ WA := wa_of (i := 797) (by decide +kernel) rfl
theorem kt_X4_floor : Cond.static yX4_floor ∈ WA := wa_of (i := 798) (by decide +kernel) rfl
theorem kc_X4_floor : Cond.code yX4_floor cX4_floor 6 (some .long) ∈ WA := wa_of (i := 799) (by decide +kernel) rfl
theorem kw_X4_117 : Cond.constantLong RX4 117 (4) ∈ WA := wa_of (i := 800) (by decide +kernel) rfl
theorem kl_X4_122 : Cond.methodLink RX4 122 yX4_first ∈ WA := wa_of (i := 801) (by decide +kernel) rfl
theorem ki_X4_first : Cond.instanceMethod yX4_first ∈ WA := wa_of (i := 803) (by decide +kernel) rfl
theorem kc_X4_first : Cond.code yX4_first cX4_first 2 (some .int) ∈ WA := wa_of (i := 804) (by decide +kernel) rfl
theorem kl_X4_125 : Cond.methodLink RX4 125 yX4_second ∈ WA := wa_of (i := 805) (by decide +kernel) rfl
theorem ki_X4_second : Cond.instanceMethod yX4_second ∈ WA := wa_of (i := 807) (by decide +kernel) rfl
theorem kc_X4_second : Cond.code yX4_second cX4_second 2 (some .int) ∈ WA := wa_of (i := 808) (by decide +kernel) rfl
theorem kl_L_146 : Cond.methodLink RL 146 yX4_latestRange ∈ WA := wa_of (i := 809) (by decide +kernel) rfl
theorem ki_X4_latestRange : Cond.instanceMethod yX4_latestRange ∈ WA := wa_of (i := 810) (by decide +kernel) rfl
theorem ks_X4_latestRange : Cond.selects RX4 yX4_latestRange yX4_latestRange ∈ WA := wa_of (i := 811) (by decide +kernel) rfl
theorem kc_X4_latestRange : Cond.code yX4_latestRange cX4_latestRange 4 (some .int) ∈ WA := wa_of (i := 812) (by decide +kernel) rfl
theorem kl_X4_134 : Cond.methodLink RX4 134 yX4_latestOf ∈ WA := wa_of (i := 813) (by decide +kernel) rfl
theorem ki_X4_latestOf : Cond.instanceMethod yX4_latestOf ∈ WA := wa_of (i := 815) (by decide +kernel) rfl
theorem kc_X4_latestOf : Cond.code yX4_latestOf cX4_latestOf 5 (some .int) ∈ WA := wa_of (i := 816) (by decide +kernel) rfl
theorem kl_L_149 : Cond.methodLink RL 149 yX4_worstError ∈ WA := wa_of (i := 817) (by decide +kernel) rfl
theorem ki_X4_worstError : Cond.instanceMethod yX4_worstError ∈ WA := wa_of (i := 818) (by decide +kernel) rfl
theorem ks_X4_worstError : Cond.selects RX4 yX4_worstError yX4_worstError ∈ WA := wa_of (i := 819) (by decide +kernel) rfl
theorem kc_X4_worstError : Cond.code yX4_worstError cX4_worstError 9 (some .int) ∈ WA := wa_of (i := 820) (by decide +kernel) rfl
theorem kw_X4_138 : Cond.constantLong RX4 138 (-1) ∈ WA := wa_of (i := 821) (by decide +kernel) rfl
theorem kl_X4_140 : Cond.methodLink RX4 140 yX4_errorOf ∈ WA := wa_of (i := 822) (by decide +kernel) rfl
theorem ki_X4_errorOf : Cond.instanceMethod yX4_errorOf ∈ WA := wa_of (i := 824) (by decide +kernel) rfl
theorem kc_X4_errorOf : Cond.code yX4_errorOf cX4_errorOf 3 (some .long) ∈ WA := wa_of (i := 825) (by decide +kernel) rfl
theorem kl_L_153 : Cond.methodLink RL 153 yX4_meanError ∈ WA := wa_of (i := 826) (by decide +kernel) rfl
theorem ki_X4_meanError : Cond.instanceMethod yX4_meanError ∈ WA := wa_of (i := 827) (by decide +kernel) rfl
theorem ks_X4_meanError : Cond.selects RX4 yX4_meanError yX4_meanError ∈ WA := wa_of (i := 828) (by decide +kernel) rfl
theorem kc_X4_meanError : Cond.code yX4_meanError cX4_meanError 8 (some .double) ∈ WA := wa_of (i := 829) (by decide +kernel) rfl
theorem kl_L_156 : Cond.methodLink RL 156 yX4_relativeDrift ∈ WA := wa_of (i := 830) (by decide +kernel) rfl
theorem ki_X4_relativeDrift : Cond.instanceMethod yX4_relativeDrift ∈ WA := wa_of (i := 831) (by decide +kernel) rfl
theorem ks_X4_relativeDrift : Cond.selects RX4 yX4_relativeDrift yX4_relativeDrift ∈ WA := wa_of (i := 832) (by decide +kernel) rfl
theorem kc_X4_relativeDrift : Cond.code yX4_relativeDrift cX4_relativeDrift 9 (some .double) ∈ WA := wa_of (i := 833) (by decide +kernel) rfl
theorem kd_X4_143 : Cond.constantDouble RX4 143 (4696837146684686336) ∈ WA := wa_of (i := 834) (by decide +kernel) rfl
theorem kl_L_159 : Cond.methodLink RL 159 yX4_calibrate ∈ WA := wa_of (i := 835) (by decide +kernel) rfl
theorem ki_X4_calibrate : Cond.instanceMethod yX4_calibrate ∈ WA := wa_of (i := 836) (by decide +kernel) rfl
theorem ks_X4_calibrate : Cond.selects RX4 yX4_calibrate yX4_calibrate ∈ WA := wa_of (i := 837) (by decide +kernel) rfl
theorem kc_X4_calibrate : Cond.code yX4_calibrate cX4_calibrate 12 (some .int) ∈ WA := wa_of (i := 838) (by decide +kernel) rfl
theorem kl_X4_145 : Cond.methodLink RX4 145 yX4_excess ∈ WA := wa_of (i := 839) (by decide +kernel) rfl
theorem ki_X4_excess : Cond.instanceMethod yX4_excess ∈ WA := wa_of (i := 841) (by decide +kernel) rfl
theorem kc_X4_excess : Cond.code yX4_excess cX4_excess 3 (some .long) ∈ WA := wa_of (i := 842) (by decide +kernel) rfl
theorem kl_L_162 : Cond.methodLink RL 162 yX4_fix ∈ WA := wa_of (i := 843) (by decide +kernel) rfl
theorem ki_X4_fix : Cond.instanceMethod yX4_fix ∈ WA := wa_of (i := 844) (by decide +kernel) rfl
theorem ks_X4_fix : Cond.selects RX4 yX4_fix yX4_fix ∈ WA := wa_of (i := 845) (by decide +kernel) rfl
theorem kc_X4_fix : Cond.code yX4_fix cX4_fix 29 (some .int) ∈ WA := wa_of (i := 846) (by decide +kernel) rfl
theorem kw_X4_148 : Cond.constantLong RX4 148 (999) ∈ WA := wa_of (i := 847) (by decide +kernel) rfl
theorem kl_X4_150 : Cond.methodLink RX4 150 yX4_right ∈ WA := wa_of (i := 848) (by decide +kernel) rfl
theorem ki_X4_right : Cond.instanceMethod yX4_right ∈ WA := wa_of (i := 850) (by decide +kernel) rfl
theorem kc_X4_right : Cond.code yX4_right cX4_right 9 (some .long) ∈ WA := wa_of (i := 851) (by decide +kernel) rfl
theorem kw_X4_154 : Cond.constantLong RX4 154 (-2147483648) ∈ WA := wa_of (i := 852) (by decide +kernel) rfl
theorem kw_X4_156 : Cond.constantLong RX4 156 (2147483647) ∈ WA := wa_of (i := 853) (by decide +kernel) rfl
theorem kl_L_166 : Cond.methodLink RL 166 yX4_undo ∈ WA := wa_of (i := 854) (by decide +kernel) rfl
theorem ki_X4_undo : Cond.instanceMethod yX4_undo ∈ WA := wa_of (i := 855) (by decide +kernel) rfl
theorem ks_X4_undo : Cond.selects RX4 yX4_undo yX4_undo ∈ WA := wa_of (i := 856) (by decide +kernel) rfl
theorem kc_X4_undo : Cond.code yX4_undo cX4_undo 2 (some .int) ∈ WA := wa_of (i := 857) (by decide +kernel) rfl
theorem kl_L_170 : Cond.methodLink RL 170 yX4_digest ∈ WA := wa_of (i := 858) (by decide +kernel) rfl
theorem ki_X4_digest : Cond.instanceMethod yX4_digest ∈ WA := wa_of (i := 859) (by decide +kernel) rfl
theorem ks_X4_digest : Cond.selects RX4 yX4_digest yX4_digest ∈ WA := wa_of (i := 860) (by decide +kernel) rfl
theorem kc_X4_digest : Cond.code yX4_digest cX4_digest 5 (some .long) ∈ WA := wa_of (i := 861) (by decide +kernel) rfl
theorem kw_X4_160 : Cond.constantLong RX4 160 (2797) ∈ WA := wa_of (i := 862) (by decide +kernel) rfl
theorem kl_X4_162 : Cond.methodLink RX4 162 yX4_sums ∈ WA := wa_of (i := 863) (by decide +kernel) rfl
theorem ki_X4_sums : Cond.instanceMethod yX4_sums ∈ WA := wa_of (i := 865) (by decide +kernel) rfl
theorem kc_X4_sums : Cond.code yX4_sums cX4_sums 8 (some .long) ∈ WA := wa_of (i := 866) (by decide +kernel) rfl
theorem kw_X4_158 : Cond.constantLong RX4 158 (31) ∈ WA := wa_of (i := 867) (by decide +kernel) rfl
theorem ka_double : Cond.arrayClass .double ∈ WA := wa_of (i := 868) (by decide +kernel) rfl
theorem ks_X0_newestSlot : Cond.selects RX0 yX0_newestSlot yX0_newestSlot ∈ WA := wa_of (i := 1) (by decide +kernel) rfl
theorem ks_X3_requireNode : Cond.selects RX3 yX3_requireNode yX3_requireNode ∈ WA := wa_of (i := 2) (by decide +kernel) rfl
theorem ks_X1_carryOutFirstPlan : Cond.selects RX1 yX1_carryOutFirstPlan yX1_carryOutFirstPlan ∈ WA := wa_of (i := 3) (by decide +kernel) rfl
theorem ks_X3_requireExchange : Cond.selects RX3 yX3_requireExchange yX3_requireExchange ∈ WA := wa_of (i := 4) (by decide +kernel) rfl
theorem ks_X3_requireLatest : Cond.selects RX3 yX3_requireLatest yX3_requireLatest ∈ WA := wa_of (i := 5) (by decide +kernel) rfl
theorem ks_X1_lengthOf : Cond.selects RX1 yX1_lengthOf yX1_lengthOf ∈ WA := wa_of (i := 6) (by decide +kernel) rfl
theorem ks_X3_solve : Cond.selects RX3 yX3_solve yX3_solve ∈ WA := wa_of (i := 7) (by decide +kernel) rfl
theorem ks_X4_goes : Cond.selects RX4 yX4_goes yX4_goes ∈ WA := wa_of (i := 8) (by decide +kernel) rfl
theorem ks_X4_save : Cond.selects RX4 yX4_save yX4_save ∈ WA := wa_of (i := 9) (by decide +kernel) rfl
theorem ks_X4_isNode : Cond.selects RX4 yX4_isNode yX4_isNode ∈ WA := wa_of (i := 10) (by decide +kernel) rfl
theorem ks_X4_of : Cond.selects RX4 yX4_of yX4_of ∈ WA := wa_of (i := 11) (by decide +kernel) rfl
theorem ks_X4_distanceOf : Cond.selects RX4 yX4_distanceOf yX4_distanceOf ∈ WA := wa_of (i := 12) (by decide +kernel) rfl
theorem ks_X4_counterAt : Cond.selects RX4 yX4_counterAt yX4_counterAt ∈ WA := wa_of (i := 13) (by decide +kernel) rfl
theorem ks_X4_carriesOut : Cond.selects RX4 yX4_carriesOut yX4_carriesOut ∈ WA := wa_of (i := 14) (by decide +kernel) rfl
theorem ks_X4_waiting : Cond.selects RX4 yX4_waiting yX4_waiting ∈ WA := wa_of (i := 15) (by decide +kernel) rfl
theorem ks_X4_removes : Cond.selects RX4 yX4_removes yX4_removes ∈ WA := wa_of (i := 16) (by decide +kernel) rfl
theorem ks_X4_isExchange : Cond.selects RX4 yX4_isExchange yX4_isExchange ∈ WA := wa_of (i := 17) (by decide +kernel) rfl
theorem ks_X4_inExchange : Cond.selects RX4 yX4_inExchange yX4_inExchange ∈ WA := wa_of (i := 18) (by decide +kernel) rfl
theorem ks_X4_rangeOf : Cond.selects RX4 yX4_rangeOf yX4_rangeOf ∈ WA := wa_of (i := 19) (by decide +kernel) rfl
theorem ks_X4_rawOf : Cond.selects RX4 yX4_rawOf yX4_rawOf ∈ WA := wa_of (i := 20) (by decide +kernel) rfl
theorem ks_X4_span : Cond.selects RX4 yX4_span yX4_span ∈ WA := wa_of (i := 21) (by decide +kernel) rfl
theorem ks_X4_first : Cond.selects RX4 yX4_first yX4_first ∈ WA := wa_of (i := 22) (by decide +kernel) rfl
theorem ks_X4_second : Cond.selects RX4 yX4_second yX4_second ∈ WA := wa_of (i := 23) (by decide +kernel) rfl
theorem ks_X4_latestOf : Cond.selects RX4 yX4_latestOf yX4_latestOf ∈ WA := wa_of (i := 24) (by decide +kernel) rfl
theorem ks_X4_errorOf : Cond.selects RX4 yX4_errorOf yX4_errorOf ∈ WA := wa_of (i := 25) (by decide +kernel) rfl
theorem ks_X4_excess : Cond.selects RX4 yX4_excess yX4_excess ∈ WA := wa_of (i := 26) (by decide +kernel) rfl
theorem ks_X4_right : Cond.selects RX4 yX4_right yX4_right ∈ WA := wa_of (i := 27) (by decide +kernel) rfl
theorem ks_X4_sums : Cond.selects RX4 yX4_sums yX4_sums ∈ WA := wa_of (i := 28) (by decide +kernel) rfl
theorem inX0 : ∀ w ∈ wsX00, w ∈ WA := wa_sub (by decide +kernel) (by decide +kernel)
theorem inX1 : ∀ w ∈ wsX10, w ∈ WA := wa_sub (by decide +kernel) (by decide +kernel)
theorem inX2 : ∀ w ∈ wsX20, w ∈ WA := wa_sub (by decide +kernel) (by decide +kernel)
theorem inX3 : ∀ w ∈ wsX30, w ∈ WA := wa_sub (by decide +kernel) (by decide +kernel)
theorem inX4 : ∀ w ∈ wsX40, w ∈ WA := wa_sub (by decide +kernel) (by decide +kernel)
theorem at_ISE : ∀ w ∈ (vx_atS RX3 42 "java/lang/IllegalStateException" ["java/lang/RuntimeException", "java/lang/Exception"]).filter goodWord, w ∈ WA := wa_sub (by decide +kernel) (by simp only [List.all_filter]; exact List.all_eq_true.mpr (fun w _ => by cases goodWord w <;> rfl))
theorem at_IAE : ∀ w ∈ (vx_atS RX3 195 "java/lang/IllegalArgumentException" ["java/lang/RuntimeException", "java/lang/Exception"]).filter goodWord, w ∈ WA := wa_sub (by decide +kernel) (by simp only [List.all_filter]; exact List.all_eq_true.mpr (fun w _ => by cases goodWord w <;> rfl))
theorem at_IOE : ∀ w ∈ (vx_atS RX3 153 "java/lang/IndexOutOfBoundsException" ["java/lang/RuntimeException", "java/lang/Exception"]).filter goodWord, w ∈ WA := wa_sub (by decide +kernel) (by simp only [List.all_filter]; exact List.all_eq_true.mpr (fun w _ => by cases goodWord w <;> rfl))
theorem at_AE : ∀ w ∈ (vx_atS RX3 140 "java/lang/ArithmeticException" ["java/lang/RuntimeException", "java/lang/Exception"]).filter goodWord, w ∈ WA := wa_sub (by decide +kernel) (by simp only [List.all_filter]; exact List.all_eq_true.mpr (fun w _ => by cases goodWord w <;> rfl))
end
section
theorem dJx00060_init_a7421_0 : decode cJx00060_init_a7421 0 = .ok (.aload_n 0, 1) := by decide +kernel
theorem dJx00060_init_a7421_1 : decode cJx00060_init_a7421 1 = .ok (.aload_n 1, 1) := by decide +kernel
theorem dJx00060_init_a7421_2 : decode cJx00060_init_a7421 2 = .ok (.invokespecial 7, 3) := by decide +kernel
theorem dJx00060_init_a7421_5 : decode cJx00060_init_a7421 5 = .ok (.return_, 1) := by decide +kernel
theorem dJ9_floorDiv_7cf53_0 : decode cJ9_floorDiv_7cf53 0 = .ok (.iload_n 0, 1) := by decide +kernel
theorem dJ9_floorDiv_7cf53_1 : decode cJ9_floorDiv_7cf53 1 = .ok (.iload_n 1, 1) := by decide +kernel
theorem dJ9_floorDiv_7cf53_2 : decode cJ9_floorDiv_7cf53 2 = .ok (.idiv, 1) := by decide +kernel
theorem dJ9_floorDiv_7cf53_3 : decode cJ9_floorDiv_7cf53 3 = .ok (.istore_n 2, 1) := by decide +kernel
theorem dJ9_floorDiv_7cf53_4 : decode cJ9_floorDiv_7cf53 4 = .ok (.iload_n 0, 1) := by decide +kernel
theorem dJ9_floorDiv_7cf53_5 : decode cJ9_floorDiv_7cf53 5 = .ok (.iload_n 1, 1) := by decide +kernel
theorem dJ9_floorDiv_7cf53_6 : decode cJ9_floorDiv_7cf53 6 = .ok (.ixor, 1) := by decide +kernel
theorem dJ9_floorDiv_7cf53_7 : decode cJ9_floorDiv_7cf53 7 = .ok (.ifCond .ge 14, 3) := by decide +kernel
theorem dJ9_floorDiv_7cf53_10 : decode cJ9_floorDiv_7cf53 10 = .ok (.iload_n 2, 1) := by decide +kernel
theorem dJ9_floorDiv_7cf53_11 : decode cJ9_floorDiv_7cf53 11 = .ok (.iload_n 1, 1) := by decide +kernel
theorem dJ9_floorDiv_7cf53_12 : decode cJ9_floorDiv_7cf53 12 = .ok (.imul, 1) := by decide +kernel
theorem dJ9_floorDiv_7cf53_13 : decode cJ9_floorDiv_7cf53 13 = .ok (.iload_n 0, 1) := by decide +kernel
theorem dJ9_floorDiv_7cf53_14 : decode cJ9_floorDiv_7cf53 14 = .ok (.if_icmp .eq 7, 3) := by decide +kernel
theorem dJ9_floorDiv_7cf53_17 : decode cJ9_floorDiv_7cf53 17 = .ok (.iload_n 2, 1) := by decide +kernel
theorem dJ9_floorDiv_7cf53_18 : decode cJ9_floorDiv_7cf53 18 = .ok (.iconst 1, 1) := by decide +kernel
theorem dJ9_floorDiv_7cf53_19 : decode cJ9_floorDiv_7cf53 19 = .ok (.isub, 1) := by decide +kernel
theorem dJ9_floorDiv_7cf53_20 : decode cJ9_floorDiv_7cf53 20 = .ok (.ireturn, 1) := by decide +kernel
theorem dJ9_floorDiv_7cf53_21 : decode cJ9_floorDiv_7cf53 21 = .ok (.iload_n 2, 1) := by decide +kernel
theorem dJ9_floorDiv_7cf53_22 : decode cJ9_floorDiv_7cf53 22 = .ok (.ireturn, 1) := by decide +kernel
theorem dJ9_floorDiv_f86c9_0 : decode cJ9_floorDiv_f86c9 0 = .ok (.lload_n 0, 1) := by decide +kernel
theorem dJ9_floorDiv_f86c9_1 : decode cJ9_floorDiv_f86c9 1 = .ok (.lload_n 2, 1) := by decide +kernel
theorem dJ9_floorDiv_f86c9_2 : decode cJ9_floorDiv_f86c9 2 = .ok (.ldiv, 1) := by decide +kernel
theorem dJ9_floorDiv_f86c9_3 : decode cJ9_floorDiv_f86c9 3 = .ok (.lstore 4, 2) := by decide +kernel
theorem dJ9_floorDiv_f86c9_5 : decode cJ9_floorDiv_f86c9 5 = .ok (.lload_n 0, 1) := by decide +kernel
theorem dJ9_floorDiv_f86c9_6 : decode cJ9_floorDiv_f86c9 6 = .ok (.lload_n 2, 1) := by decide +kernel
theorem dJ9_floorDiv_f86c9_7 : decode cJ9_floorDiv_f86c9 7 = .ok (.lxor, 1) := by decide +kernel
theorem dJ9_floorDiv_f86c9_8 : decode cJ9_floorDiv_f86c9 8 = .ok (.lconst 0, 1) := by decide +kernel
theorem dJ9_floorDiv_f86c9_9 : decode cJ9_floorDiv_f86c9 9 = .ok (.lcmp, 1) := by decide +kernel
theorem dJ9_floorDiv_f86c9_10 : decode cJ9_floorDiv_f86c9 10 = .ok (.ifCond .ge 17, 3) := by decide +kernel
theorem dJ9_floorDiv_f86c9_13 : decode cJ9_floorDiv_f86c9 13 = .ok (.lload 4, 2) := by decide +kernel
theorem dJ9_floorDiv_f86c9_15 : decode cJ9_floorDiv_f86c9 15 = .ok (.lload_n 2, 1) := by decide +kernel
theorem dJ9_floorDiv_f86c9_16 : decode cJ9_floorDiv_f86c9 16 = .ok (.lmul, 1) := by decide +kernel
theorem dJ9_floorDiv_f86c9_17 : decode cJ9_floorDiv_f86c9 17 = .ok (.lload_n 0, 1) := by decide +kernel
theorem dJ9_floorDiv_f86c9_18 : decode cJ9_floorDiv_f86c9 18 = .ok (.lcmp, 1) := by decide +kernel
theorem dJ9_floorDiv_f86c9_19 : decode cJ9_floorDiv_f86c9 19 = .ok (.ifCond .eq 8, 3) := by decide +kernel
theorem dJ9_floorDiv_f86c9_22 : decode cJ9_floorDiv_f86c9 22 = .ok (.lload 4, 2) := by decide +kernel
theorem dJ9_floorDiv_f86c9_24 : decode cJ9_floorDiv_f86c9 24 = .ok (.lconst 1, 1) := by decide +kernel
theorem dJ9_floorDiv_f86c9_25 : decode cJ9_floorDiv_f86c9 25 = .ok (.lsub, 1) := by decide +kernel
theorem dJ9_floorDiv_f86c9_26 : decode cJ9_floorDiv_f86c9 26 = .ok (.lreturn, 1) := by decide +kernel
theorem dJ9_floorDiv_f86c9_27 : decode cJ9_floorDiv_f86c9 27 = .ok (.lload 4, 2) := by decide +kernel
theorem dJ9_floorDiv_f86c9_29 : decode cJ9_floorDiv_f86c9 29 = .ok (.lreturn, 1) := by decide +kernel
theorem dJ9_floorMod_7cf53_0 : decode cJ9_floorMod_7cf53 0 = .ok (.iload_n 0, 1) := by decide +kernel
theorem dJ9_floorMod_7cf53_1 : decode cJ9_floorMod_7cf53 1 = .ok (.iload_n 1, 1) := by decide +kernel
theorem dJ9_floorMod_7cf53_2 : decode cJ9_floorMod_7cf53 2 = .ok (.irem, 1) := by decide +kernel
theorem dJ9_floorMod_7cf53_3 : decode cJ9_floorMod_7cf53 3 = .ok (.istore_n 2, 1) := by decide +kernel
theorem dJ9_floorMod_7cf53_4 : decode cJ9_floorMod_7cf53 4 = .ok (.iload_n 0, 1) := by decide +kernel
theorem dJ9_floorMod_7cf53_5 : decode cJ9_floorMod_7cf53 5 = .ok (.iload_n 1, 1) := by decide +kernel
theorem dJ9_floorMod_7cf53_6 : decode cJ9_floorMod_7cf53 6 = .ok (.ixor, 1) := by decide +kernel
theorem dJ9_floorMod_7cf53_7 : decode cJ9_floorMod_7cf53 7 = .ok (.ifCond .ge 11, 3) := by decide +kernel
theorem dJ9_floorMod_7cf53_10 : decode cJ9_floorMod_7cf53 10 = .ok (.iload_n 2, 1) := by decide +kernel
theorem dJ9_floorMod_7cf53_11 : decode cJ9_floorMod_7cf53 11 = .ok (.ifCond .eq 7, 3) := by decide +kernel
theorem dJ9_floorMod_7cf53_14 : decode cJ9_floorMod_7cf53 14 = .ok (.iload_n 2, 1) := by decide +kernel
theorem dJ9_floorMod_7cf53_15 : decode cJ9_floorMod_7cf53 15 = .ok (.iload_n 1, 1) := by decide +kernel
theorem dJ9_floorMod_7cf53_16 : decode cJ9_floorMod_7cf53 16 = .ok (.iadd, 1) := by decide +kernel
theorem dJ9_floorMod_7cf53_17 : decode cJ9_floorMod_7cf53 17 = .ok (.ireturn, 1) := by decide +kernel
theorem dJ9_floorMod_7cf53_18 : decode cJ9_floorMod_7cf53 18 = .ok (.iload_n 2, 1) := by decide +kernel
theorem dJ9_floorMod_7cf53_19 : decode cJ9_floorMod_7cf53 19 = .ok (.ireturn, 1) := by decide +kernel
theorem dJ9_floorMod_f86c9_0 : decode cJ9_floorMod_f86c9 0 = .ok (.lload_n 0, 1) := by decide +kernel
theorem dJ9_floorMod_f86c9_1 : decode cJ9_floorMod_f86c9 1 = .ok (.lload_n 2, 1) := by decide +kernel
theorem dJ9_floorMod_f86c9_2 : decode cJ9_floorMod_f86c9 2 = .ok (.lrem, 1) := by decide +kernel
theorem dJ9_floorMod_f86c9_3 : decode cJ9_floorMod_f86c9 3 = .ok (.lstore 4, 2) := by decide +kernel
theorem dJ9_floorMod_f86c9_5 : decode cJ9_floorMod_f86c9 5 = .ok (.lload_n 0, 1) := by decide +kernel
theorem dJ9_floorMod_f86c9_6 : decode cJ9_floorMod_f86c9 6 = .ok (.lload_n 2, 1) := by decide +kernel
theorem dJ9_floorMod_f86c9_7 : decode cJ9_floorMod_f86c9 7 = .ok (.lxor, 1) := by decide +kernel
theorem dJ9_floorMod_f86c9_8 : decode cJ9_floorMod_f86c9 8 = .ok (.lconst 0, 1) := by decide +kernel
theorem dJ9_floorMod_f86c9_9 : decode cJ9_floorMod_f86c9 9 = .ok (.lcmp, 1) := by decide +kernel
theorem dJ9_floorMod_f86c9_10 : decode cJ9_floorMod_f86c9 10 = .ok (.ifCond .ge 15, 3) := by decide +kernel
theorem dJ9_floorMod_f86c9_13 : decode cJ9_floorMod_f86c9 13 = .ok (.lload 4, 2) := by decide +kernel
theorem dJ9_floorMod_f86c9_15 : decode cJ9_floorMod_f86c9 15 = .ok (.lconst 0, 1) := by decide +kernel
theorem dJ9_floorMod_f86c9_16 : decode cJ9_floorMod_f86c9 16 = .ok (.lcmp, 1) := by decide +kernel
theorem dJ9_floorMod_f86c9_17 : decode cJ9_floorMod_f86c9 17 = .ok (.ifCond .eq 8, 3) := by decide +kernel
theorem dJ9_floorMod_f86c9_20 : decode cJ9_floorMod_f86c9 20 = .ok (.lload 4, 2) := by decide +kernel
theorem dJ9_floorMod_f86c9_22 : decode cJ9_floorMod_f86c9 22 = .ok (.lload_n 2, 1) := by decide +kernel
theorem dJ9_floorMod_f86c9_23 : decode cJ9_floorMod_f86c9 23 = .ok (.ladd, 1) := by decide +kernel
theorem dJ9_floorMod_f86c9_24 : decode cJ9_floorMod_f86c9 24 = .ok (.lreturn, 1) := by decide +kernel
theorem dJ9_floorMod_f86c9_25 : decode cJ9_floorMod_f86c9 25 = .ok (.lload 4, 2) := by decide +kernel
theorem dJ9_floorMod_f86c9_27 : decode cJ9_floorMod_f86c9 27 = .ok (.lreturn, 1) := by decide +kernel
theorem dJ9_abs_0f7a4_0 : decode cJ9_abs_0f7a4 0 = .ok (.iload_n 0, 1) := by decide +kernel
theorem dJ9_abs_0f7a4_1 : decode cJ9_abs_0f7a4 1 = .ok (.ifCond .ge 8, 3) := by decide +kernel
theorem dJ9_abs_0f7a4_4 : decode cJ9_abs_0f7a4 4 = .ok (.iload_n 0, 1) := by decide +kernel
theorem dJ9_abs_0f7a4_5 : decode cJ9_abs_0f7a4 5 = .ok (.ineg, 1) := by decide +kernel
theorem dJ9_abs_0f7a4_6 : decode cJ9_abs_0f7a4 6 = .ok (.goto 4, 3) := by decide +kernel
theorem dJ9_abs_0f7a4_9 : decode cJ9_abs_0f7a4 9 = .ok (.iload_n 0, 1) := by decide +kernel
theorem dJ9_abs_0f7a4_10 : decode cJ9_abs_0f7a4 10 = .ok (.ireturn, 1) := by decide +kernel
theorem dJ9_max_7cf53_0 : decode cJ9_max_7cf53 0 = .ok (.iload_n 0, 1) := by decide +kernel
theorem dJ9_max_7cf53_1 : decode cJ9_max_7cf53 1 = .ok (.iload_n 1, 1) := by decide +kernel
theorem dJ9_max_7cf53_2 : decode cJ9_max_7cf53 2 = .ok (.if_icmp .lt 7, 3) := by decide +kernel
theorem dJ9_max_7cf53_5 : decode cJ9_max_7cf53 5 = .ok (.iload_n 0, 1) := by decide +kernel
theorem dJ9_max_7cf53_6 : decode cJ9_max_7cf53 6 = .ok (.goto 4, 3) := by decide +kernel
theorem dJ9_max_7cf53_9 : decode cJ9_max_7cf53 9 = .ok (.iload_n 1, 1) := by decide +kernel
theorem dJ9_max_7cf53_10 : decode cJ9_max_7cf53 10 = .ok (.ireturn, 1) := by decide +kernel
theorem dJ9_max_f86c9_0 : decode cJ9_max_f86c9 0 = .ok (.lload_n 0, 1) := by decide +kernel
theorem dJ9_max_f86c9_1 : decode cJ9_max_f86c9 1 = .ok (.lload_n 2, 1) := by decide +kernel
theorem dJ9_max_f86c9_2 : decode cJ9_max_f86c9 2 = .ok (.lcmp, 1) := by decide +kernel
theorem dJ9_max_f86c9_3 : decode cJ9_max_f86c9 3 = .ok (.ifCond .lt 7, 3) := by decide +kernel
theorem dJ9_max_f86c9_6 : decode cJ9_max_f86c9 6 = .ok (.lload_n 0, 1) := by decide +kernel
theorem dJ9_max_f86c9_7 : decode cJ9_max_f86c9 7 = .ok (.goto 4, 3) := by decide +kernel
theorem dJ9_max_f86c9_10 : decode cJ9_max_f86c9 10 = .ok (.lload_n 2, 1) := by decide +kernel
theorem dJ9_max_f86c9_11 : decode cJ9_max_f86c9 11 = .ok (.lreturn, 1) := by decide +kernel
theorem dJ9_min_7cf53_0 : decode cJ9_min_7cf53 0 = .ok (.iload_n 0, 1) := by decide +kernel
theorem dJ9_min_7cf53_1 : decode cJ9_min_7cf53 1 = .ok (.iload_n 1, 1) := by decide +kernel
theorem dJ9_min_7cf53_2 : decode cJ9_min_7cf53 2 = .ok (.if_icmp .gt 7, 3) := by decide +kernel
theorem dJ9_min_7cf53_5 : decode cJ9_min_7cf53 5 = .ok (.iload_n 0, 1) := by decide +kernel
theorem dJ9_min_7cf53_6 : decode cJ9_min_7cf53 6 = .ok (.goto 4, 3) := by decide +kernel
theorem dJ9_min_7cf53_9 : decode cJ9_min_7cf53 9 = .ok (.iload_n 1, 1) := by decide +kernel
theorem dJ9_min_7cf53_10 : decode cJ9_min_7cf53 10 = .ok (.ireturn, 1) := by decide +kernel
theorem dX0_init_0 : decode cX0_init 0 = .ok (.aload_n 0, 1) := by decide +kernel
theorem dX0_init_1 : decode cX0_init 1 = .ok (.invokespecial 3, 3) := by decide +kernel
theorem dX0_init_4 : decode cX0_init 4 = .ok (.aload_n 0, 1) := by decide +kernel
theorem dX0_init_5 : decode cX0_init 5 = .ok (.iconst 4, 1) := by decide +kernel
theorem dX0_init_6 : decode cX0_init 6 = .ok (.anewarray 9, 3) := by decide +kernel
theorem dX0_init_9 : decode cX0_init 9 = .ok (.putfield 11, 3) := by decide +kernel
theorem dX0_init_12 : decode cX0_init 12 = .ok (.iconst 0, 1) := by decide +kernel
theorem dX0_init_13 : decode cX0_init 13 = .ok (.istore_n 1, 1) := by decide +kernel
theorem dX0_init_14 : decode cX0_init 14 = .ok (.iload_n 1, 1) := by decide +kernel
theorem dX0_init_15 : decode cX0_init 15 = .ok (.aload_n 0, 1) := by decide +kernel
theorem dX0_init_16 : decode cX0_init 16 = .ok (.getfield 11, 3) := by decide +kernel
theorem dX0_init_19 : decode cX0_init 19 = .ok (.arraylength, 1) := by decide +kernel
theorem dX0_init_20 : decode cX0_init 20 = .ok (.if_icmp .ge 22, 3) := by decide +kernel
theorem dX0_init_23 : decode cX0_init 23 = .ok (.aload_n 0, 1) := by decide +kernel
theorem dX0_init_24 : decode cX0_init 24 = .ok (.getfield 11, 3) := by decide +kernel
theorem dX0_init_27 : decode cX0_init 27 = .ok (.iload_n 1, 1) := by decide +kernel
theorem dX0_init_28 : decode cX0_init 28 = .ok (.new 9, 3) := by decide +kernel
theorem dX0_init_31 : decode cX0_init 31 = .ok (.dup, 1) := by decide +kernel
theorem dX0_init_32 : decode cX0_init 32 = .ok (.invokespecial 17, 3) := by decide +kernel
theorem dX0_init_35 : decode cX0_init 35 = .ok (.aastore, 1) := by decide +kernel
theorem dX0_init_36 : decode cX0_init 36 = .ok (.iinc 1 1, 3) := by decide +kernel
theorem dX0_init_39 : decode cX0_init 39 = .ok (.goto (-25), 3) := by decide +kernel
theorem dX0_init_42 : decode cX0_init 42 = .ok (.return_, 1) := by decide +kernel
theorem dX0_save_0 : decode cX0_save 0 = .ok (.aload_n 0, 1) := by decide +kernel
theorem dX0_save_1 : decode cX0_save 1 = .ok (.aload_n 0, 1) := by decide +kernel
theorem dX0_save_2 : decode cX0_save 2 = .ok (.getfield 18, 3) := by decide +kernel
theorem dX0_save_5 : decode cX0_save 5 = .ok (.iconst 1, 1) := by decide +kernel
theorem dX0_save_6 : decode cX0_save 6 = .ok (.iadd, 1) := by decide +kernel
theorem dX0_save_7 : decode cX0_save 7 = .ok (.iconst 4, 1) := by decide +kernel
theorem dX0_save_8 : decode cX0_save 8 = .ok (.invokestatic 22, 3) := by decide +kernel
theorem dX0_save_11 : decode cX0_save 11 = .ok (.putfield 18, 3) := by decide +kernel
theorem dX0_save_14 : decode cX0_save 14 = .ok (.aload_n 0, 1) := by decide +kernel
theorem dX0_save_15 : decode cX0_save 15 = .ok (.invokevirtual 28, 3) := by decide +kernel
theorem dX0_save_18 : decode cX0_save 18 = .ok (.astore_n 2, 1) := by decide +kernel
theorem dX0_save_19 : decode cX0_save 19 = .ok (.aload_n 2, 1) := by decide +kernel
theorem dX0_save_20 : decode cX0_save 20 = .ok (.ifnull 8, 3) := by decide +kernel
theorem dX0_save_23 : decode cX0_save 23 = .ok (.aload_n 2, 1) := by decide +kernel
theorem dX0_save_24 : decode cX0_save 24 = .ok (.aload_n 1, 1) := by decide +kernel
theorem dX0_save_25 : decode cX0_save 25 = .ok (.invokevirtual 32, 3) := by decide +kernel
theorem dX0_save_28 : decode cX0_save 28 = .ok (.aload_n 0, 1) := by decide +kernel
theorem dX0_save_29 : decode cX0_save 29 = .ok (.aload_n 0, 1) := by decide +kernel
theorem dX0_save_30 : decode cX0_save 30 = .ok (.getfield 36, 3) := by decide +kernel
theorem dX0_save_33 : decode cX0_save 33 = .ok (.iconst 1, 1) := by decide +kernel
theorem dX0_save_34 : decode cX0_save 34 = .ok (.iadd, 1) := by decide +kernel
theorem dX0_save_35 : decode cX0_save 35 = .ok (.iconst 4, 1) := by decide +kernel
theorem dX0_save_36 : decode cX0_save 36 = .ok (.invokestatic 39, 3) := by decide +kernel
theorem dX0_save_39 : decode cX0_save 39 = .ok (.putfield 36, 3) := by decide +kernel
theorem dX0_save_42 : decode cX0_save 42 = .ok (.return_, 1) := by decide +kernel
theorem dX0_restore_0 : decode cX0_restore 0 = .ok (.aload_n 0, 1) := by decide +kernel
theorem dX0_restore_1 : decode cX0_restore 1 = .ok (.invokevirtual 28, 3) := by decide +kernel
theorem dX0_restore_4 : decode cX0_restore 4 = .ok (.astore_n 2, 1) := by decide +kernel
theorem dX0_restore_5 : decode cX0_restore 5 = .ok (.aload_n 2, 1) := by decide +kernel
theorem dX0_restore_6 : decode cX0_restore 6 = .ok (.ifnull 39, 3) := by decide +kernel
theorem dX0_restore_9 : decode cX0_restore 9 = .ok (.aload_n 0, 1) := by decide +kernel
theorem dX0_restore_10 : decode cX0_restore 10 = .ok (.getfield 36, 3) := by decide +kernel
theorem dX0_restore_13 : decode cX0_restore 13 = .ok (.ifCond .le 32, 3) := by decide +kernel
theorem dX0_restore_16 : decode cX0_restore 16 = .ok (.aload_n 1, 1) := by decide +kernel
theorem dX0_restore_17 : decode cX0_restore 17 = .ok (.aload_n 2, 1) := by decide +kernel
theorem dX0_restore_18 : decode cX0_restore 18 = .ok (.invokevirtual 32, 3) := by decide +kernel
theorem dX0_restore_21 : decode cX0_restore 21 = .ok (.aload_n 0, 1) := by decide +kernel
theorem dX0_restore_22 : decode cX0_restore 22 = .ok (.aload_n 0, 1) := by decide +kernel
theorem dX0_restore_23 : decode cX0_restore 23 = .ok (.getfield 18, 3) := by decide +kernel
theorem dX0_restore_26 : decode cX0_restore 26 = .ok (.iconst 1, 1) := by decide +kernel
theorem dX0_restore_27 : decode cX0_restore 27 = .ok (.isub, 1) := by decide +kernel
theorem dX0_restore_28 : decode cX0_restore 28 = .ok (.iconst 4, 1) := by decide +kernel
theorem dX0_restore_29 : decode cX0_restore 29 = .ok (.invokestatic 22, 3) := by decide +kernel
theorem dX0_restore_32 : decode cX0_restore 32 = .ok (.putfield 18, 3) := by decide +kernel
theorem dX0_restore_35 : decode cX0_restore 35 = .ok (.aload_n 0, 1) := by decide +kernel
theorem dX0_restore_36 : decode cX0_restore 36 = .ok (.dup, 1) := by decide +kernel
theorem dX0_restore_37 : decode cX0_restore 37 = .ok (.getfield 36, 3) := by decide +kernel
theorem dX0_restore_40 : decode cX0_restore 40 = .ok (.iconst 1, 1) := by decide +kernel
theorem dX0_restore_41 : decode cX0_restore 41 = .ok (.isub, 1) := by decide +kernel
theorem dX0_restore_42 : decode cX0_restore 42 = .ok (.putfield 36, 3) := by decide +kernel
theorem dX0_restore_45 : decode cX0_restore 45 = .ok (.return_, 1) := by decide +kernel
theorem dX0_newestSlot_0 : decode cX0_newestSlot 0 = .ok (.aload_n 0, 1) := by decide +kernel
theorem dX0_newestSlot_1 : decode cX0_newestSlot 1 = .ok (.getfield 18, 3) := by decide +kernel
theorem dX0_newestSlot_4 : decode cX0_newestSlot 4 = .ok (.ifCond .lt 27, 3) := by decide +kernel
theorem dX0_newestSlot_7 : decode cX0_newestSlot 7 = .ok (.aload_n 0, 1) := by decide +kernel
theorem dX0_newestSlot_8 : decode cX0_newestSlot 8 = .ok (.getfield 18, 3) := by decide +kernel
theorem dX0_newestSlot_11 : decode cX0_newestSlot 11 = .ok (.aload_n 0, 1) := by decide +kernel
theorem dX0_newestSlot_12 : decode cX0_newestSlot 12 = .ok (.getfield 11, 3) := by decide +kernel
theorem dX0_newestSlot_15 : decode cX0_newestSlot 15 = .ok (.arraylength, 1) := by decide +kernel
theorem dX0_newestSlot_16 : decode cX0_newestSlot 16 = .ok (.if_icmp .ge 15, 3) := by decide +kernel
theorem dX0_newestSlot_19 : decode cX0_newestSlot 19 = .ok (.aload_n 0, 1) := by decide +kernel
theorem dX0_newestSlot_20 : decode cX0_newestSlot 20 = .ok (.getfield 11, 3) := by decide +kernel
theorem dX0_newestSlot_23 : decode cX0_newestSlot 23 = .ok (.aload_n 0, 1) := by decide +kernel
theorem dX0_newestSlot_24 : decode cX0_newestSlot 24 = .ok (.getfield 18, 3) := by decide +kernel
theorem dX0_newestSlot_27 : decode cX0_newestSlot 27 = .ok (.aaload, 1) := by decide +kernel
theorem dX0_newestSlot_28 : decode cX0_newestSlot 28 = .ok (.goto 4, 3) := by decide +kernel
theorem dX0_newestSlot_31 : decode cX0_newestSlot 31 = .ok (.aconst_null, 1) := by decide +kernel
theorem dX0_newestSlot_32 : decode cX0_newestSlot 32 = .ok (.areturn, 1) := by decide +kernel
theorem dX1_init_0 : decode cX1_init 0 = .ok (.aload_n 0, 1) := by decide +kernel
theorem dX1_init_1 : decode cX1_init 1 = .ok (.invokespecial 3, 3) := by decide +kernel
theorem dX1_init_4 : decode cX1_init 4 = .ok (.aload_n 0, 1) := by decide +kernel
theorem dX1_init_5 : decode cX1_init 5 = .ok (.new 9, 3) := by decide +kernel
theorem dX1_init_8 : decode cX1_init 8 = .ok (.dup, 1) := by decide +kernel
theorem dX1_init_9 : decode cX1_init 9 = .ok (.bipush 36, 2) := by decide +kernel
theorem dX1_init_11 : decode cX1_init 11 = .ok (.newarray .int, 2) := by decide +kernel
theorem dX1_init_13 : decode cX1_init 13 = .ok (.bipush 6, 2) := by decide +kernel
theorem dX1_init_15 : decode cX1_init 15 = .ok (.invokespecial 11, 3) := by decide +kernel
theorem dX1_init_18 : decode cX1_init 18 = .ok (.putfield 14, 3) := by decide +kernel
theorem dX1_init_21 : decode cX1_init 21 = .ok (.aload_n 0, 1) := by decide +kernel
theorem dX1_init_22 : decode cX1_init 22 = .ok (.new 9, 3) := by decide +kernel
theorem dX1_init_25 : decode cX1_init 25 = .ok (.dup, 1) := by decide +kernel
theorem dX1_init_26 : decode cX1_init 26 = .ok (.sipush 320, 3) := by decide +kernel
theorem dX1_init_29 : decode cX1_init 29 = .ok (.newarray .int, 2) := by decide +kernel
theorem dX1_init_31 : decode cX1_init 31 = .ok (.bipush 8, 2) := by decide +kernel
theorem dX1_init_33 : decode cX1_init 33 = .ok (.invokespecial 11, 3) := by decide +kernel
theorem dX1_init_36 : decode cX1_init 36 = .ok (.putfield 20, 3) := by decide +kernel
theorem dX1_init_39 : decode cX1_init 39 = .ok (.aload_n 0, 1) := by decide +kernel
theorem dX1_init_40 : decode cX1_init 40 = .ok (.new 9, 3) := by decide +kernel
theorem dX1_init_43 : decode cX1_init 43 = .ok (.dup, 1) := by decide +kernel
theorem dX1_init_44 : decode cX1_init 44 = .ok (.bipush 100, 2) := by decide +kernel
theorem dX1_init_46 : decode cX1_init 46 = .ok (.newarray .int, 2) := by decide +kernel
theorem dX1_init_48 : decode cX1_init 48 = .ok (.iconst 5, 1) := by decide +kernel
theorem dX1_init_49 : decode cX1_init 49 = .ok (.invokespecial 11, 3) := by decide +kernel
theorem dX1_init_52 : decode cX1_init 52 = .ok (.putfield 23, 3) := by decide +kernel
theorem dX1_init_55 : decode cX1_init 55 = .ok (.return_, 1) := by decide +kernel
theorem dX1_copyFrom_0 : decode cX1_copyFrom 0 = .ok (.aload_n 0, 1) := by decide +kernel
theorem dX1_copyFrom_1 : decode cX1_copyFrom 1 = .ok (.aload_n 1, 1) := by decide +kernel
theorem dX1_copyFrom_2 : decode cX1_copyFrom 2 = .ok (.getfield 26, 3) := by decide +kernel
theorem dX1_copyFrom_5 : decode cX1_copyFrom 5 = .ok (.putfield 26, 3) := by decide +kernel
theorem dX1_copyFrom_8 : decode cX1_copyFrom 8 = .ok (.aload_n 0, 1) := by decide +kernel
theorem dX1_copyFrom_9 : decode cX1_copyFrom 9 = .ok (.getfield 14, 3) := by decide +kernel
theorem dX1_copyFrom_12 : decode cX1_copyFrom 12 = .ok (.aload_n 1, 1) := by decide +kernel
theorem dX1_copyFrom_13 : decode cX1_copyFrom 13 = .ok (.getfield 14, 3) := by decide +kernel
theorem dX1_copyFrom_16 : decode cX1_copyFrom 16 = .ok (.invokevirtual 30, 3) := by decide +kernel
theorem dX1_copyFrom_19 : decode cX1_copyFrom 19 = .ok (.aload_n 0, 1) := by decide +kernel
theorem dX1_copyFrom_20 : decode cX1_copyFrom 20 = .ok (.getfield 20, 3) := by decide +kernel
theorem dX1_copyFrom_23 : decode cX1_copyFrom 23 = .ok (.aload_n 1, 1) := by decide +kernel
theorem dX1_copyFrom_24 : decode cX1_copyFrom 24 = .ok (.getfield 20, 3) := by decide +kernel
theorem dX1_copyFrom_27 : decode cX1_copyFrom 27 = .ok (.invokevirtual 30, 3) := by decide +kernel
theorem dX1_copyFrom_30 : decode cX1_copyFrom 30 = .ok (.aload_n 0, 1) := by decide +kernel
theorem dX1_copyFrom_31 : decode cX1_copyFrom 31 = .ok (.getfield 23, 3) := by decide +kernel
theorem dX1_copyFrom_34 : decode cX1_copyFrom 34 = .ok (.aload_n 1, 1) := by decide +kernel
theorem dX1_copyFrom_35 : decode cX1_copyFrom 35 = .ok (.getfield 23, 3) := by decide +kernel
theorem dX1_copyFrom_38 : decode cX1_copyFrom 38 = .ok (.invokevirtual 30, 3) := by decide +kernel
theorem dX1_copyFrom_41 : decode cX1_copyFrom 41 = .ok (.return_, 1) := by decide +kernel
theorem dX1_lengthBetween_0 : decode cX1_lengthBetween 0 = .ok (.aload_n 0, 1) := by decide +kernel
theorem dX1_lengthBetween_1 : decode cX1_lengthBetween 1 = .ok (.getfield 14, 3) := by decide +kernel
theorem dX1_lengthBetween_4 : decode cX1_lengthBetween 4 = .ok (.iload_n 1, 1) := by decide +kernel
theorem dX1_lengthBetween_5 : decode cX1_lengthBetween 5 = .ok (.iconst 0, 1) := by decide +kernel
theorem dX1_lengthBetween_6 : decode cX1_lengthBetween 6 = .ok (.invokevirtual 34, 3) := by decide +kernel
theorem dX1_lengthBetween_9 : decode cX1_lengthBetween 9 = .ok (.aload_n 0, 1) := by decide +kernel
theorem dX1_lengthBetween_10 : decode cX1_lengthBetween 10 = .ok (.getfield 14, 3) := by decide +kernel
theorem dX1_lengthBetween_13 : decode cX1_lengthBetween 13 = .ok (.iload_n 2, 1) := by decide +kernel
theorem dX1_lengthBetween_14 : decode cX1_lengthBetween 14 = .ok (.iconst 0, 1) := by decide +kernel
theorem dX1_lengthBetween_15 : decode cX1_lengthBetween 15 = .ok (.invokevirtual 34, 3) := by decide +kernel
theorem dX1_lengthBetween_18 : decode cX1_lengthBetween 18 = .ok (.isub, 1) := by decide +kernel
theorem dX1_lengthBetween_19 : decode cX1_lengthBetween 19 = .ok (.aload_n 0, 1) := by decide +kernel
theorem dX1_lengthBetween_20 : decode cX1_lengthBetween 20 = .ok (.getfield 14, 3) := by decide +kernel
theorem dX1_lengthBetween_23 : decode cX1_lengthBetween 23 = .ok (.iload_n 1, 1) := by decide +kernel
theorem dX1_lengthBetween_24 : decode cX1_lengthBetween 24 = .ok (.iconst 1, 1) := by decide +kernel
theorem dX1_lengthBetween_25 : decode cX1_lengthBetween 25 = .ok (.invokevirtual 34, 3) := by decide +kernel
theorem dX1_lengthBetween_28 : decode cX1_lengthBetween 28 = .ok (.aload_n 0, 1) := by decide +kernel
theorem dX1_lengthBetween_29 : decode cX1_lengthBetween 29 = .ok (.getfield 14, 3) := by decide +kernel
theorem dX1_lengthBetween_32 : decode cX1_lengthBetween 32 = .ok (.iload_n 2, 1) := by decide +kernel
theorem dX1_lengthBetween_33 : decode cX1_lengthBetween 33 = .ok (.iconst 1, 1) := by decide +kernel
theorem dX1_lengthBetween_34 : decode cX1_lengthBetween 34 = .ok (.invokevirtual 34, 3) := by decide +kernel
theorem dX1_lengthBetween_37 : decode cX1_lengthBetween 37 = .ok (.isub, 1) := by decide +kernel
theorem dX1_lengthBetween_38 : decode cX1_lengthBetween 38 = .ok (.invokestatic 38, 3) := by decide +kernel
theorem dX1_lengthBetween_41 : decode cX1_lengthBetween 41 = .ok (.ireturn, 1) := by decide +kernel
theorem dX1_squareFromOrigin_0 : decode cX1_squareFromOrigin 0 = .ok (.aload_n 0, 1) := by decide +kernel
theorem dX1_squareFromOrigin_1 : decode cX1_squareFromOrigin 1 = .ok (.getfield 14, 3) := by decide +kernel
theorem dX1_squareFromOrigin_4 : decode cX1_squareFromOrigin 4 = .ok (.iload_n 1, 1) := by decide +kernel
theorem dX1_squareFromOrigin_5 : decode cX1_squareFromOrigin 5 = .ok (.iconst 0, 1) := by decide +kernel
theorem dX1_squareFromOrigin_6 : decode cX1_squareFromOrigin 6 = .ok (.invokevirtual 34, 3) := by decide +kernel
theorem dX1_squareFromOrigin_9 : decode cX1_squareFromOrigin 9 = .ok (.invokestatic 41, 3) := by decide +kernel
theorem dX1_squareFromOrigin_12 : decode cX1_squareFromOrigin 12 = .ok (.aload_n 0, 1) := by decide +kernel
theorem dX1_squareFromOrigin_13 : decode cX1_squareFromOrigin 13 = .ok (.getfield 14, 3) := by decide +kernel
theorem dX1_squareFromOrigin_16 : decode cX1_squareFromOrigin 16 = .ok (.iload_n 1, 1) := by decide +kernel
theorem dX1_squareFromOrigin_17 : decode cX1_squareFromOrigin 17 = .ok (.iconst 1, 1) := by decide +kernel
theorem dX1_squareFromOrigin_18 : decode cX1_squareFromOrigin 18 = .ok (.invokevirtual 34, 3) := by decide +kernel
theorem dX1_squareFromOrigin_21 : decode cX1_squareFromOrigin 21 = .ok (.invokestatic 41, 3) := by decide +kernel
theorem dX1_squareFromOrigin_24 : decode cX1_squareFromOrigin 24 = .ok (.ladd, 1) := by decide +kernel
theorem dX1_squareFromOrigin_25 : decode cX1_squareFromOrigin 25 = .ok (.lreturn, 1) := by decide +kernel
theorem dX1_counterAt_0 : decode cX1_counterAt 0 = .ok (.lload_n 2, 1) := by decide +kernel
theorem dX1_counterAt_1 : decode cX1_counterAt 1 = .ok (.ldc 45, 2) := by decide +kernel
theorem dX1_counterAt_3 : decode cX1_counterAt 3 = .ok (.aload_n 0, 1) := by decide +kernel
theorem dX1_counterAt_4 : decode cX1_counterAt 4 = .ok (.getfield 14, 3) := by decide +kernel
theorem dX1_counterAt_7 : decode cX1_counterAt 7 = .ok (.iload_n 1, 1) := by decide +kernel
theorem dX1_counterAt_8 : decode cX1_counterAt 8 = .ok (.iconst 2, 1) := by decide +kernel
theorem dX1_counterAt_9 : decode cX1_counterAt 9 = .ok (.invokevirtual 34, 3) := by decide +kernel
theorem dX1_counterAt_12 : decode cX1_counterAt 12 = .ok (.iadd, 1) := by decide +kernel
theorem dX1_counterAt_13 : decode cX1_counterAt 13 = .ok (.i2l, 1) := by decide +kernel
theorem dX1_counterAt_14 : decode cX1_counterAt 14 = .ok (.lmul, 1) := by decide +kernel
theorem dX1_counterAt_15 : decode cX1_counterAt 15 = .ok (.ldc2_w 46, 3) := by decide +kernel
theorem dX1_counterAt_18 : decode cX1_counterAt 18 = .ok (.ldiv, 1) := by decide +kernel
theorem dX1_counterAt_19 : decode cX1_counterAt 19 = .ok (.lstore 4, 2) := by decide +kernel
theorem dX1_counterAt_21 : decode cX1_counterAt 21 = .ok (.lload 4, 2) := by decide +kernel
theorem dX1_counterAt_23 : decode cX1_counterAt 23 = .ok (.aload_n 0, 1) := by decide +kernel
theorem dX1_counterAt_24 : decode cX1_counterAt 24 = .ok (.getfield 14, 3) := by decide +kernel
theorem dX1_counterAt_27 : decode cX1_counterAt 27 = .ok (.iload_n 1, 1) := by decide +kernel
theorem dX1_counterAt_28 : decode cX1_counterAt 28 = .ok (.iconst 3, 1) := by decide +kernel
theorem dX1_counterAt_29 : decode cX1_counterAt 29 = .ok (.invokevirtual 34, 3) := by decide +kernel
theorem dX1_counterAt_32 : decode cX1_counterAt 32 = .ok (.i2l, 1) := by decide +kernel
theorem dX1_counterAt_33 : decode cX1_counterAt 33 = .ok (.ladd, 1) := by decide +kernel
theorem dX1_counterAt_34 : decode cX1_counterAt 34 = .ok (.ldc2_w 48, 3) := by decide +kernel
theorem dX1_counterAt_37 : decode cX1_counterAt 37 = .ok (.invokestatic 50, 3) := by decide +kernel
theorem dX1_counterAt_40 : decode cX1_counterAt 40 = .ok (.l2i, 1) := by decide +kernel
theorem dX1_counterAt_41 : decode cX1_counterAt 41 = .ok (.ireturn, 1) := by decide +kernel
theorem dX1_carryOut_0 : decode cX1_carryOut 0 = .ok (.aload_n 0, 1) := by decide +kernel
theorem dX1_carryOut_1 : decode cX1_carryOut 1 = .ok (.getfield 14, 3) := by decide +kernel
theorem dX1_carryOut_4 : decode cX1_carryOut 4 = .ok (.iload_n 1, 1) := by decide +kernel
theorem dX1_carryOut_5 : decode cX1_carryOut 5 = .ok (.iconst 4, 1) := by decide +kernel
theorem dX1_carryOut_6 : decode cX1_carryOut 6 = .ok (.invokevirtual 34, 3) := by decide +kernel
theorem dX1_carryOut_9 : decode cX1_carryOut 9 = .ok (.aload_n 0, 1) := by decide +kernel
theorem dX1_carryOut_10 : decode cX1_carryOut 10 = .ok (.iload_n 1, 1) := by decide +kernel
theorem dX1_carryOut_11 : decode cX1_carryOut 11 = .ok (.iload_n 2, 1) := by decide +kernel
theorem dX1_carryOut_12 : decode cX1_carryOut 12 = .ok (.invokevirtual 56, 3) := by decide +kernel
theorem dX1_carryOut_15 : decode cX1_carryOut 15 = .ok (.iadd, 1) := by decide +kernel
theorem dX1_carryOut_16 : decode cX1_carryOut 16 = .ok (.aload_n 0, 1) := by decide +kernel
theorem dX1_carryOut_17 : decode cX1_carryOut 17 = .ok (.getfield 14, 3) := by decide +kernel
theorem dX1_carryOut_20 : decode cX1_carryOut 20 = .ok (.iload_n 2, 1) := by decide +kernel
theorem dX1_carryOut_21 : decode cX1_carryOut 21 = .ok (.iconst 4, 1) := by decide +kernel
theorem dX1_carryOut_22 : decode cX1_carryOut 22 = .ok (.invokevirtual 34, 3) := by decide +kernel
theorem dX1_carryOut_25 : decode cX1_carryOut 25 = .ok (.iadd, 1) := by decide +kernel
theorem dX1_carryOut_26 : decode cX1_carryOut 26 = .ok (.istore 5, 2) := by decide +kernel
theorem dX1_carryOut_28 : decode cX1_carryOut 28 = .ok (.aload_n 0, 1) := by decide +kernel
theorem dX1_carryOut_29 : decode cX1_carryOut 29 = .ok (.getfield 26, 3) := by decide +kernel
theorem dX1_carryOut_32 : decode cX1_carryOut 32 = .ok (.iload 5, 2) := by decide +kernel
theorem dX1_carryOut_34 : decode cX1_carryOut 34 = .ok (.i2l, 1) := by decide +kernel
theorem dX1_carryOut_35 : decode cX1_carryOut 35 = .ok (.ladd, 1) := by decide +kernel
theorem dX1_carryOut_36 : decode cX1_carryOut 36 = .ok (.lstore 6, 2) := by decide +kernel
theorem dX1_carryOut_38 : decode cX1_carryOut 38 = .ok (.lload 6, 2) := by decide +kernel
theorem dX1_carryOut_40 : decode cX1_carryOut 40 = .ok (.iload_n 3, 1) := by decide +kernel
theorem dX1_carryOut_41 : decode cX1_carryOut 41 = .ok (.i2l, 1) := by decide +kernel
theorem dX1_carryOut_42 : decode cX1_carryOut 42 = .ok (.ladd, 1) := by decide +kernel
theorem dX1_carryOut_43 : decode cX1_carryOut 43 = .ok (.lstore 8, 2) := by decide +kernel
theorem dX1_carryOut_45 : decode cX1_carryOut 45 = .ok (.lload 8, 2) := by decide +kernel
theorem dX1_carryOut_47 : decode cX1_carryOut 47 = .ok (.iload 5, 2) := by decide +kernel
theorem dX1_carryOut_49 : decode cX1_carryOut 49 = .ok (.i2l, 1) := by decide +kernel
theorem dX1_carryOut_50 : decode cX1_carryOut 50 = .ok (.ladd, 1) := by decide +kernel
theorem dX1_carryOut_51 : decode cX1_carryOut 51 = .ok (.lstore 10, 2) := by decide +kernel
theorem dX1_carryOut_53 : decode cX1_carryOut 53 = .ok (.lload 10, 2) := by decide +kernel
theorem dX1_carryOut_55 : decode cX1_carryOut 55 = .ok (.iload 4, 2) := by decide +kernel
theorem dX1_carryOut_57 : decode cX1_carryOut 57 = .ok (.i2l, 1) := by decide +kernel
theorem dX1_carryOut_58 : decode cX1_carryOut 58 = .ok (.ladd, 1) := by decide +kernel
theorem dX1_carryOut_59 : decode cX1_carryOut 59 = .ok (.lstore 12, 2) := by decide +kernel
theorem dX1_carryOut_61 : decode cX1_carryOut 61 = .ok (.lload 12, 2) := by decide +kernel
theorem dX1_carryOut_63 : decode cX1_carryOut 63 = .ok (.iload 5, 2) := by decide +kernel
theorem dX1_carryOut_65 : decode cX1_carryOut 65 = .ok (.i2l, 1) := by decide +kernel
theorem dX1_carryOut_66 : decode cX1_carryOut 66 = .ok (.ladd, 1) := by decide +kernel
theorem dX1_carryOut_67 : decode cX1_carryOut 67 = .ok (.lstore 14, 2) := by decide +kernel
theorem dX1_carryOut_69 : decode cX1_carryOut 69 = .ok (.aload_n 0, 1) := by decide +kernel
theorem dX1_carryOut_70 : decode cX1_carryOut 70 = .ok (.getfield 20, 3) := by decide +kernel
theorem dX1_carryOut_73 : decode cX1_carryOut 73 = .ok (.aload_n 0, 1) := by decide +kernel
theorem dX1_carryOut_74 : decode cX1_carryOut 74 = .ok (.getfield 20, 3) := by decide +kernel
theorem dX1_carryOut_77 : decode cX1_carryOut 77 = .ok (.getfield 59, 3) := by decide +kernel
theorem dX1_carryOut_80 : decode cX1_carryOut 80 = .ok (.invokevirtual 63, 3) := by decide +kernel
theorem dX1_carryOut_83 : decode cX1_carryOut 83 = .ok (.istore 16, 2) := by decide +kernel
theorem dX1_carryOut_85 : decode cX1_carryOut 85 = .ok (.aload_n 0, 1) := by decide +kernel
theorem dX1_carryOut_86 : decode cX1_carryOut 86 = .ok (.getfield 20, 3) := by decide +kernel
theorem dX1_carryOut_89 : decode cX1_carryOut 89 = .ok (.iload 16, 2) := by decide +kernel
theorem dX1_carryOut_91 : decode cX1_carryOut 91 = .ok (.iconst 0, 1) := by decide +kernel
theorem dX1_carryOut_92 : decode cX1_carryOut 92 = .ok (.iload_n 1, 1) := by decide +kernel
theorem dX1_carryOut_93 : decode cX1_carryOut 93 = .ok (.invokevirtual 67, 3) := by decide +kernel
theorem dX1_carryOut_96 : decode cX1_carryOut 96 = .ok (.aload_n 0, 1) := by decide +kernel
theorem dX1_carryOut_97 : decode cX1_carryOut 97 = .ok (.getfield 20, 3) := by decide +kernel
theorem dX1_carryOut_100 : decode cX1_carryOut 100 = .ok (.iload 16, 2) := by decide +kernel
theorem dX1_carryOut_102 : decode cX1_carryOut 102 = .ok (.iconst 1, 1) := by decide +kernel
theorem dX1_carryOut_103 : decode cX1_carryOut 103 = .ok (.iload_n 2, 1) := by decide +kernel
theorem dX1_carryOut_104 : decode cX1_carryOut 104 = .ok (.invokevirtual 67, 3) := by decide +kernel
theorem dX1_carryOut_107 : decode cX1_carryOut 107 = .ok (.aload_n 0, 1) := by decide +kernel
theorem dX1_carryOut_108 : decode cX1_carryOut 108 = .ok (.getfield 20, 3) := by decide +kernel
theorem dX1_carryOut_111 : decode cX1_carryOut 111 = .ok (.iload 16, 2) := by decide +kernel
theorem dX1_carryOut_113 : decode cX1_carryOut 113 = .ok (.iconst 2, 1) := by decide +kernel
theorem dX1_carryOut_114 : decode cX1_carryOut 114 = .ok (.aload_n 0, 1) := by decide +kernel
theorem dX1_carryOut_115 : decode cX1_carryOut 115 = .ok (.iload_n 1, 1) := by decide +kernel
theorem dX1_carryOut_116 : decode cX1_carryOut 116 = .ok (.aload_n 0, 1) := by decide +kernel
theorem dX1_carryOut_117 : decode cX1_carryOut 117 = .ok (.getfield 26, 3) := by decide +kernel
theorem dX1_carryOut_120 : decode cX1_carryOut 120 = .ok (.invokevirtual 71, 3) := by decide +kernel
theorem dX1_carryOut_123 : decode cX1_carryOut 123 = .ok (.invokevirtual 67, 3) := by decide +kernel
theorem dX1_carryOut_126 : decode cX1_carryOut 126 = .ok (.aload_n 0, 1) := by decide +kernel
theorem dX1_carryOut_127 : decode cX1_carryOut 127 = .ok (.getfield 20, 3) := by decide +kernel
theorem dX1_carryOut_130 : decode cX1_carryOut 130 = .ok (.iload 16, 2) := by decide +kernel
theorem dX1_carryOut_132 : decode cX1_carryOut 132 = .ok (.iconst 3, 1) := by decide +kernel
theorem dX1_carryOut_133 : decode cX1_carryOut 133 = .ok (.aload_n 0, 1) := by decide +kernel
theorem dX1_carryOut_134 : decode cX1_carryOut 134 = .ok (.iload_n 2, 1) := by decide +kernel
theorem dX1_carryOut_135 : decode cX1_carryOut 135 = .ok (.lload 6, 2) := by decide +kernel
theorem dX1_carryOut_137 : decode cX1_carryOut 137 = .ok (.invokevirtual 71, 3) := by decide +kernel
theorem dX1_carryOut_140 : decode cX1_carryOut 140 = .ok (.invokevirtual 67, 3) := by decide +kernel
theorem dX1_carryOut_143 : decode cX1_carryOut 143 = .ok (.aload_n 0, 1) := by decide +kernel
theorem dX1_carryOut_144 : decode cX1_carryOut 144 = .ok (.getfield 20, 3) := by decide +kernel
theorem dX1_carryOut_147 : decode cX1_carryOut 147 = .ok (.iload 16, 2) := by decide +kernel
theorem dX1_carryOut_149 : decode cX1_carryOut 149 = .ok (.iconst 4, 1) := by decide +kernel
theorem dX1_carryOut_150 : decode cX1_carryOut 150 = .ok (.aload_n 0, 1) := by decide +kernel
theorem dX1_carryOut_151 : decode cX1_carryOut 151 = .ok (.iload_n 2, 1) := by decide +kernel
theorem dX1_carryOut_152 : decode cX1_carryOut 152 = .ok (.lload 8, 2) := by decide +kernel
theorem dX1_carryOut_154 : decode cX1_carryOut 154 = .ok (.invokevirtual 71, 3) := by decide +kernel
theorem dX1_carryOut_157 : decode cX1_carryOut 157 = .ok (.invokevirtual 67, 3) := by decide +kernel
theorem dX1_carryOut_160 : decode cX1_carryOut 160 = .ok (.aload_n 0, 1) := by decide +kernel
theorem dX1_carryOut_161 : decode cX1_carryOut 161 = .ok (.getfield 20, 3) := by decide +kernel
theorem dX1_carryOut_164 : decode cX1_carryOut 164 = .ok (.iload 16, 2) := by decide +kernel
theorem dX1_carryOut_166 : decode cX1_carryOut 166 = .ok (.iconst 5, 1) := by decide +kernel
theorem dX1_carryOut_167 : decode cX1_carryOut 167 = .ok (.aload_n 0, 1) := by decide +kernel
theorem dX1_carryOut_168 : decode cX1_carryOut 168 = .ok (.iload_n 1, 1) := by decide +kernel
theorem dX1_carryOut_169 : decode cX1_carryOut 169 = .ok (.lload 10, 2) := by decide +kernel
theorem dX1_carryOut_171 : decode cX1_carryOut 171 = .ok (.invokevirtual 71, 3) := by decide +kernel
theorem dX1_carryOut_174 : decode cX1_carryOut 174 = .ok (.invokevirtual 67, 3) := by decide +kernel
theorem dX1_carryOut_177 : decode cX1_carryOut 177 = .ok (.aload_n 0, 1) := by decide +kernel
theorem dX1_carryOut_178 : decode cX1_carryOut 178 = .ok (.getfield 20, 3) := by decide +kernel
theorem dX1_carryOut_181 : decode cX1_carryOut 181 = .ok (.iload 16, 2) := by decide +kernel
theorem dX1_carryOut_183 : decode cX1_carryOut 183 = .ok (.bipush 6, 2) := by decide +kernel
theorem dX1_carryOut_185 : decode cX1_carryOut 185 = .ok (.aload_n 0, 1) := by decide +kernel
theorem dX1_carryOut_186 : decode cX1_carryOut 186 = .ok (.iload_n 1, 1) := by decide +kernel
theorem dX1_carryOut_187 : decode cX1_carryOut 187 = .ok (.lload 12, 2) := by decide +kernel
theorem dX1_carryOut_189 : decode cX1_carryOut 189 = .ok (.invokevirtual 71, 3) := by decide +kernel
theorem dX1_carryOut_192 : decode cX1_carryOut 192 = .ok (.invokevirtual 67, 3) := by decide +kernel
theorem dX1_carryOut_195 : decode cX1_carryOut 195 = .ok (.aload_n 0, 1) := by decide +kernel
theorem dX1_carryOut_196 : decode cX1_carryOut 196 = .ok (.getfield 20, 3) := by decide +kernel
theorem dX1_carryOut_199 : decode cX1_carryOut 199 = .ok (.iload 16, 2) := by decide +kernel
theorem dX1_carryOut_201 : decode cX1_carryOut 201 = .ok (.bipush 7, 2) := by decide +kernel
theorem dX1_carryOut_203 : decode cX1_carryOut 203 = .ok (.aload_n 0, 1) := by decide +kernel
theorem dX1_carryOut_204 : decode cX1_carryOut 204 = .ok (.iload_n 2, 1) := by decide +kernel
theorem dX1_carryOut_205 : decode cX1_carryOut 205 = .ok (.lload 14, 2) := by decide +kernel
theorem dX1_carryOut_207 : decode cX1_carryOut 207 = .ok (.invokevirtual 71, 3) := by decide +kernel
theorem dX1_carryOut_210 : decode cX1_carryOut 210 = .ok (.invokevirtual 67, 3) := by decide +kernel
theorem dX1_carryOut_213 : decode cX1_carryOut 213 = .ok (.aload_n 0, 1) := by decide +kernel
theorem dX1_carryOut_214 : decode cX1_carryOut 214 = .ok (.lload 14, 2) := by decide +kernel
theorem dX1_carryOut_216 : decode cX1_carryOut 216 = .ok (.putfield 26, 3) := by decide +kernel
theorem dX1_carryOut_219 : decode cX1_carryOut 219 = .ok (.iload 16, 2) := by decide +kernel
theorem dX1_carryOut_221 : decode cX1_carryOut 221 = .ok (.ireturn, 1) := by decide +kernel
theorem dX1_rowForPlan_0 : decode cX1_rowForPlan 0 = .ok (.iconst 0, 1) := by decide +kernel
theorem dX1_rowForPlan_1 : decode cX1_rowForPlan 1 = .ok (.istore_n 2, 1) := by decide +kernel
theorem dX1_rowForPlan_2 : decode cX1_rowForPlan 2 = .ok (.iload_n 2, 1) := by decide +kernel
theorem dX1_rowForPlan_3 : decode cX1_rowForPlan 3 = .ok (.aload_n 0, 1) := by decide +kernel
theorem dX1_rowForPlan_4 : decode cX1_rowForPlan 4 = .ok (.getfield 23, 3) := by decide +kernel
theorem dX1_rowForPlan_7 : decode cX1_rowForPlan 7 = .ok (.getfield 59, 3) := by decide +kernel
theorem dX1_rowForPlan_10 : decode cX1_rowForPlan 10 = .ok (.if_icmp .ge 22, 3) := by decide +kernel
theorem dX1_rowForPlan_13 : decode cX1_rowForPlan 13 = .ok (.aload_n 0, 1) := by decide +kernel
theorem dX1_rowForPlan_14 : decode cX1_rowForPlan 14 = .ok (.getfield 23, 3) := by decide +kernel
theorem dX1_rowForPlan_17 : decode cX1_rowForPlan 17 = .ok (.iload_n 2, 1) := by decide +kernel
theorem dX1_rowForPlan_18 : decode cX1_rowForPlan 18 = .ok (.iconst 0, 1) := by decide +kernel
theorem dX1_rowForPlan_19 : decode cX1_rowForPlan 19 = .ok (.invokevirtual 34, 3) := by decide +kernel
theorem dX1_rowForPlan_22 : decode cX1_rowForPlan 22 = .ok (.iload_n 1, 1) := by decide +kernel
theorem dX1_rowForPlan_23 : decode cX1_rowForPlan 23 = .ok (.if_icmp .gt 9, 3) := by decide +kernel
theorem dX1_rowForPlan_26 : decode cX1_rowForPlan 26 = .ok (.iinc 2 1, 3) := by decide +kernel
theorem dX1_rowForPlan_29 : decode cX1_rowForPlan 29 = .ok (.goto (-27), 3) := by decide +kernel
theorem dX1_rowForPlan_32 : decode cX1_rowForPlan 32 = .ok (.iload_n 2, 1) := by decide +kernel
theorem dX1_rowForPlan_33 : decode cX1_rowForPlan 33 = .ok (.ireturn, 1) := by decide +kernel
theorem dX1_runUntil_0 : decode cX1_runUntil 0 = .ok (.iconst 0, 1) := by decide +kernel
theorem dX1_runUntil_1 : decode cX1_runUntil 1 = .ok (.istore_n 2, 1) := by decide +kernel
theorem dX1_runUntil_2 : decode cX1_runUntil 2 = .ok (.aload_n 0, 1) := by decide +kernel
theorem dX1_runUntil_3 : decode cX1_runUntil 3 = .ok (.getfield 23, 3) := by decide +kernel
theorem dX1_runUntil_6 : decode cX1_runUntil 6 = .ok (.getfield 59, 3) := by decide +kernel
theorem dX1_runUntil_9 : decode cX1_runUntil 9 = .ok (.istore_n 3, 1) := by decide +kernel
theorem dX1_runUntil_10 : decode cX1_runUntil 10 = .ok (.iconst 0, 1) := by decide +kernel
theorem dX1_runUntil_11 : decode cX1_runUntil 11 = .ok (.istore 4, 2) := by decide +kernel
theorem dX1_runUntil_13 : decode cX1_runUntil 13 = .ok (.iload 4, 2) := by decide +kernel
theorem dX1_runUntil_15 : decode cX1_runUntil 15 = .ok (.iload_n 3, 1) := by decide +kernel
theorem dX1_runUntil_16 : decode cX1_runUntil 16 = .ok (.if_icmp .ge 46, 3) := by decide +kernel
theorem dX1_runUntil_19 : decode cX1_runUntil 19 = .ok (.aload_n 0, 1) := by decide +kernel
theorem dX1_runUntil_20 : decode cX1_runUntil 20 = .ok (.getfield 23, 3) := by decide +kernel
theorem dX1_runUntil_23 : decode cX1_runUntil 23 = .ok (.iconst 0, 1) := by decide +kernel
theorem dX1_runUntil_24 : decode cX1_runUntil 24 = .ok (.iconst 0, 1) := by decide +kernel
theorem dX1_runUntil_25 : decode cX1_runUntil 25 = .ok (.invokevirtual 34, 3) := by decide +kernel
theorem dX1_runUntil_28 : decode cX1_runUntil 28 = .ok (.iload_n 1, 1) := by decide +kernel
theorem dX1_runUntil_29 : decode cX1_runUntil 29 = .ok (.if_icmp .gt 33, 3) := by decide +kernel
theorem dX1_runUntil_32 : decode cX1_runUntil 32 = .ok (.aload_n 0, 1) := by decide +kernel
theorem dX1_runUntil_33 : decode cX1_runUntil 33 = .ok (.getfield 20, 3) := by decide +kernel
theorem dX1_runUntil_36 : decode cX1_runUntil 36 = .ok (.invokevirtual 75, 3) := by decide +kernel
theorem dX1_runUntil_39 : decode cX1_runUntil 39 = .ok (.ifCond .ne 10, 3) := by decide +kernel
theorem dX1_runUntil_42 : decode cX1_runUntil 42 = .ok (.aload_n 0, 1) := by decide +kernel
theorem dX1_runUntil_43 : decode cX1_runUntil 43 = .ok (.invokevirtual 79, 3) := by decide +kernel
theorem dX1_runUntil_46 : decode cX1_runUntil 46 = .ok (.iinc 2 1, 3) := by decide +kernel
theorem dX1_runUntil_49 : decode cX1_runUntil 49 = .ok (.aload_n 0, 1) := by decide +kernel
theorem dX1_runUntil_50 : decode cX1_runUntil 50 = .ok (.getfield 23, 3) := by decide +kernel
theorem dX1_runUntil_53 : decode cX1_runUntil 53 = .ok (.invokevirtual 82, 3) := by decide +kernel
theorem dX1_runUntil_56 : decode cX1_runUntil 56 = .ok (.iinc 4 1, 3) := by decide +kernel
theorem dX1_runUntil_59 : decode cX1_runUntil 59 = .ok (.goto (-46), 3) := by decide +kernel
theorem dX1_runUntil_62 : decode cX1_runUntil 62 = .ok (.aload_n 0, 1) := by decide +kernel
theorem dX1_runUntil_63 : decode cX1_runUntil 63 = .ok (.aload_n 0, 1) := by decide +kernel
theorem dX1_runUntil_64 : decode cX1_runUntil 64 = .ok (.getfield 26, 3) := by decide +kernel
theorem dX1_runUntil_67 : decode cX1_runUntil 67 = .ok (.iload_n 1, 1) := by decide +kernel
theorem dX1_runUntil_68 : decode cX1_runUntil 68 = .ok (.i2l, 1) := by decide +kernel
theorem dX1_runUntil_69 : decode cX1_runUntil 69 = .ok (.invokestatic 85, 3) := by decide +kernel
theorem dX1_runUntil_72 : decode cX1_runUntil 72 = .ok (.putfield 26, 3) := by decide +kernel
theorem dX1_runUntil_75 : decode cX1_runUntil 75 = .ok (.iload_n 2, 1) := by decide +kernel
theorem dX1_runUntil_76 : decode cX1_runUntil 76 = .ok (.ireturn, 1) := by decide +kernel
theorem dX1_carryOutFirstPlan_0 : decode cX1_carryOutFirstPlan 0 = .ok (.aload_n 0, 1) := by decide +kernel
theorem dX1_carryOutFirstPlan_1 : decode cX1_carryOutFirstPlan 1 = .ok (.aload_n 0, 1) := by decide +kernel
theorem dX1_carryOutFirstPlan_2 : decode cX1_carryOutFirstPlan 2 = .ok (.getfield 26, 3) := by decide +kernel
theorem dX1_carryOutFirstPlan_5 : decode cX1_carryOutFirstPlan 5 = .ok (.aload_n 0, 1) := by decide +kernel
theorem dX1_carryOutFirstPlan_6 : decode cX1_carryOutFirstPlan 6 = .ok (.getfield 23, 3) := by decide +kernel
theorem dX1_carryOutFirstPlan_9 : decode cX1_carryOutFirstPlan 9 = .ok (.iconst 0, 1) := by decide +kernel
theorem dX1_carryOutFirstPlan_10 : decode cX1_carryOutFirstPlan 10 = .ok (.iconst 0, 1) := by decide +kernel
theorem dX1_carryOutFirstPlan_11 : decode cX1_carryOutFirstPlan 11 = .ok (.invokevirtual 34, 3) := by decide +kernel
theorem dX1_carryOutFirstPlan_14 : decode cX1_carryOutFirstPlan 14 = .ok (.i2l, 1) := by decide +kernel
theorem dX1_carryOutFirstPlan_15 : decode cX1_carryOutFirstPlan 15 = .ok (.invokestatic 85, 3) := by decide +kernel
theorem dX1_carryOutFirstPlan_18 : decode cX1_carryOutFirstPlan 18 = .ok (.putfield 26, 3) := by decide +kernel
theorem dX1_carryOutFirstPlan_21 : decode cX1_carryOutFirstPlan 21 = .ok (.aload_n 0, 1) := by decide +kernel
theorem dX1_carryOutFirstPlan_22 : decode cX1_carryOutFirstPlan 22 = .ok (.aload_n 0, 1) := by decide +kernel
theorem dX1_carryOutFirstPlan_23 : decode cX1_carryOutFirstPlan 23 = .ok (.getfield 23, 3) := by decide +kernel
theorem dX1_carryOutFirstPlan_26 : decode cX1_carryOutFirstPlan 26 = .ok (.iconst 0, 1) := by decide +kernel
theorem dX1_carryOutFirstPlan_27 : decode cX1_carryOutFirstPlan 27 = .ok (.iconst 1, 1) := by decide +kernel
theorem dX1_carryOutFirstPlan_28 : decode cX1_carryOutFirstPlan 28 = .ok (.invokevirtual 34, 3) := by decide +kernel
theorem dX1_carryOutFirstPlan_31 : decode cX1_carryOutFirstPlan 31 = .ok (.aload_n 0, 1) := by decide +kernel
theorem dX1_carryOutFirstPlan_32 : decode cX1_carryOutFirstPlan 32 = .ok (.getfield 23, 3) := by decide +kernel
theorem dX1_carryOutFirstPlan_35 : decode cX1_carryOutFirstPlan 35 = .ok (.iconst 0, 1) := by decide +kernel
theorem dX1_carryOutFirstPlan_36 : decode cX1_carryOutFirstPlan 36 = .ok (.iconst 2, 1) := by decide +kernel
theorem dX1_carryOutFirstPlan_37 : decode cX1_carryOutFirstPlan 37 = .ok (.invokevirtual 34, 3) := by decide +kernel
theorem dX1_carryOutFirstPlan_40 : decode cX1_carryOutFirstPlan 40 = .ok (.aload_n 0, 1) := by decide +kernel
theorem dX1_carryOutFirstPlan_41 : decode cX1_carryOutFirstPlan 41 = .ok (.getfield 23, 3) := by decide +kernel
theorem dX1_carryOutFirstPlan_44 : decode cX1_carryOutFirstPlan 44 = .ok (.iconst 0, 1) := by decide +kernel
theorem dX1_carryOutFirstPlan_45 : decode cX1_carryOutFirstPlan 45 = .ok (.iconst 3, 1) := by decide +kernel
theorem dX1_carryOutFirstPlan_46 : decode cX1_carryOutFirstPlan 46 = .ok (.invokevirtual 34, 3) := by decide +kernel
theorem dX1_carryOutFirstPlan_49 : decode cX1_carryOutFirstPlan 49 = .ok (.aload_n 0, 1) := by decide +kernel
theorem dX1_carryOutFirstPlan_50 : decode cX1_carryOutFirstPlan 50 = .ok (.getfield 23, 3) := by decide +kernel
theorem dX1_carryOutFirstPlan_53 : decode cX1_carryOutFirstPlan 53 = .ok (.iconst 0, 1) := by decide +kernel
theorem dX1_carryOutFirstPlan_54 : decode cX1_carryOutFirstPlan 54 = .ok (.iconst 4, 1) := by decide +kernel
theorem dX1_carryOutFirstPlan_55 : decode cX1_carryOutFirstPlan 55 = .ok (.invokevirtual 34, 3) := by decide +kernel
theorem dX1_carryOutFirstPlan_58 : decode cX1_carryOutFirstPlan 58 = .ok (.invokevirtual 88, 3) := by decide +kernel
theorem dX1_carryOutFirstPlan_61 : decode cX1_carryOutFirstPlan 61 = .ok (.pop, 1) := by decide +kernel
theorem dX1_carryOutFirstPlan_62 : decode cX1_carryOutFirstPlan 62 = .ok (.return_, 1) := by decide +kernel
theorem dX1_elapsed_0 : decode cX1_elapsed 0 = .ok (.aload_n 0, 1) := by decide +kernel
theorem dX1_elapsed_1 : decode cX1_elapsed 1 = .ok (.getfield 20, 3) := by decide +kernel
theorem dX1_elapsed_4 : decode cX1_elapsed 4 = .ok (.iload_n 1, 1) := by decide +kernel
theorem dX1_elapsed_5 : decode cX1_elapsed 5 = .ok (.iload_n 3, 1) := by decide +kernel
theorem dX1_elapsed_6 : decode cX1_elapsed 6 = .ok (.invokevirtual 34, 3) := by decide +kernel
theorem dX1_elapsed_9 : decode cX1_elapsed 9 = .ok (.aload_n 0, 1) := by decide +kernel
theorem dX1_elapsed_10 : decode cX1_elapsed 10 = .ok (.getfield 20, 3) := by decide +kernel
theorem dX1_elapsed_13 : decode cX1_elapsed 13 = .ok (.iload_n 1, 1) := by decide +kernel
theorem dX1_elapsed_14 : decode cX1_elapsed 14 = .ok (.iload_n 2, 1) := by decide +kernel
theorem dX1_elapsed_15 : decode cX1_elapsed 15 = .ok (.invokevirtual 34, 3) := by decide +kernel
theorem dX1_elapsed_18 : decode cX1_elapsed 18 = .ok (.isub, 1) := by decide +kernel
theorem dX1_elapsed_19 : decode cX1_elapsed 19 = .ok (.ldc 92, 2) := by decide +kernel
theorem dX1_elapsed_21 : decode cX1_elapsed 21 = .ok (.invokestatic 93, 3) := by decide +kernel
theorem dX1_elapsed_24 : decode cX1_elapsed 24 = .ok (.ireturn, 1) := by decide +kernel
theorem dX1_rawRangeOf_0 : decode cX1_rawRangeOf 0 = .ok (.aload_n 0, 1) := by decide +kernel
theorem dX1_rawRangeOf_1 : decode cX1_rawRangeOf 1 = .ok (.iload_n 1, 1) := by decide +kernel
theorem dX1_rawRangeOf_2 : decode cX1_rawRangeOf 2 = .ok (.iconst 2, 1) := by decide +kernel
theorem dX1_rawRangeOf_3 : decode cX1_rawRangeOf 3 = .ok (.iconst 5, 1) := by decide +kernel
theorem dX1_rawRangeOf_4 : decode cX1_rawRangeOf 4 = .ok (.invokevirtual 95, 3) := by decide +kernel
theorem dX1_rawRangeOf_7 : decode cX1_rawRangeOf 7 = .ok (.i2l, 1) := by decide +kernel
theorem dX1_rawRangeOf_8 : decode cX1_rawRangeOf 8 = .ok (.lstore_n 3, 1) := by decide +kernel
theorem dX1_rawRangeOf_9 : decode cX1_rawRangeOf 9 = .ok (.aload_n 0, 1) := by decide +kernel
theorem dX1_rawRangeOf_10 : decode cX1_rawRangeOf 10 = .ok (.iload_n 1, 1) := by decide +kernel
theorem dX1_rawRangeOf_11 : decode cX1_rawRangeOf 11 = .ok (.iconst 3, 1) := by decide +kernel
theorem dX1_rawRangeOf_12 : decode cX1_rawRangeOf 12 = .ok (.iconst 4, 1) := by decide +kernel
theorem dX1_rawRangeOf_13 : decode cX1_rawRangeOf 13 = .ok (.invokevirtual 95, 3) := by decide +kernel
theorem dX1_rawRangeOf_16 : decode cX1_rawRangeOf 16 = .ok (.i2l, 1) := by decide +kernel
theorem dX1_rawRangeOf_17 : decode cX1_rawRangeOf 17 = .ok (.lstore 5, 2) := by decide +kernel
theorem dX1_rawRangeOf_19 : decode cX1_rawRangeOf 19 = .ok (.aload_n 0, 1) := by decide +kernel
theorem dX1_rawRangeOf_20 : decode cX1_rawRangeOf 20 = .ok (.iload_n 1, 1) := by decide +kernel
theorem dX1_rawRangeOf_21 : decode cX1_rawRangeOf 21 = .ok (.iconst 4, 1) := by decide +kernel
theorem dX1_rawRangeOf_22 : decode cX1_rawRangeOf 22 = .ok (.bipush 7, 2) := by decide +kernel
theorem dX1_rawRangeOf_24 : decode cX1_rawRangeOf 24 = .ok (.invokevirtual 95, 3) := by decide +kernel
theorem dX1_rawRangeOf_27 : decode cX1_rawRangeOf 27 = .ok (.i2l, 1) := by decide +kernel
theorem dX1_rawRangeOf_28 : decode cX1_rawRangeOf 28 = .ok (.lstore 7, 2) := by decide +kernel
theorem dX1_rawRangeOf_30 : decode cX1_rawRangeOf 30 = .ok (.aload_n 0, 1) := by decide +kernel
theorem dX1_rawRangeOf_31 : decode cX1_rawRangeOf 31 = .ok (.iload_n 1, 1) := by decide +kernel
theorem dX1_rawRangeOf_32 : decode cX1_rawRangeOf 32 = .ok (.iconst 5, 1) := by decide +kernel
theorem dX1_rawRangeOf_33 : decode cX1_rawRangeOf 33 = .ok (.bipush 6, 2) := by decide +kernel
theorem dX1_rawRangeOf_35 : decode cX1_rawRangeOf 35 = .ok (.invokevirtual 95, 3) := by decide +kernel
theorem dX1_rawRangeOf_38 : decode cX1_rawRangeOf 38 = .ok (.i2l, 1) := by decide +kernel
theorem dX1_rawRangeOf_39 : decode cX1_rawRangeOf 39 = .ok (.lstore 9, 2) := by decide +kernel
theorem dX1_rawRangeOf_41 : decode cX1_rawRangeOf 41 = .ok (.iload_n 2, 1) := by decide +kernel
theorem dX1_rawRangeOf_42 : decode cX1_rawRangeOf 42 = .ok (.ifCond .ne 15, 3) := by decide +kernel
theorem dX1_rawRangeOf_45 : decode cX1_rawRangeOf 45 = .ok (.lload_n 3, 1) := by decide +kernel
theorem dX1_rawRangeOf_46 : decode cX1_rawRangeOf 46 = .ok (.lload 5, 2) := by decide +kernel
theorem dX1_rawRangeOf_48 : decode cX1_rawRangeOf 48 = .ok (.lsub, 1) := by decide +kernel
theorem dX1_rawRangeOf_49 : decode cX1_rawRangeOf 49 = .ok (.ldc2_w 99, 3) := by decide +kernel
theorem dX1_rawRangeOf_52 : decode cX1_rawRangeOf 52 = .ok (.invokestatic 101, 3) := by decide +kernel
theorem dX1_rawRangeOf_55 : decode cX1_rawRangeOf 55 = .ok (.l2i, 1) := by decide +kernel
theorem dX1_rawRangeOf_56 : decode cX1_rawRangeOf 56 = .ok (.ireturn, 1) := by decide +kernel
theorem dX1_rawRangeOf_57 : decode cX1_rawRangeOf 57 = .ok (.iload_n 2, 1) := by decide +kernel
theorem dX1_rawRangeOf_58 : decode cX1_rawRangeOf 58 = .ok (.iconst 1, 1) := by decide +kernel
theorem dX1_rawRangeOf_59 : decode cX1_rawRangeOf 59 = .ok (.if_icmp .ne 21, 3) := by decide +kernel
theorem dX1_rawRangeOf_62 : decode cX1_rawRangeOf 62 = .ok (.lload_n 3, 1) := by decide +kernel
theorem dX1_rawRangeOf_63 : decode cX1_rawRangeOf 63 = .ok (.lload 5, 2) := by decide +kernel
theorem dX1_rawRangeOf_65 : decode cX1_rawRangeOf 65 = .ok (.lsub, 1) := by decide +kernel
theorem dX1_rawRangeOf_66 : decode cX1_rawRangeOf 66 = .ok (.lload 7, 2) := by decide +kernel
theorem dX1_rawRangeOf_68 : decode cX1_rawRangeOf 68 = .ok (.ladd, 1) := by decide +kernel
theorem dX1_rawRangeOf_69 : decode cX1_rawRangeOf 69 = .ok (.lload 9, 2) := by decide +kernel
theorem dX1_rawRangeOf_71 : decode cX1_rawRangeOf 71 = .ok (.lsub, 1) := by decide +kernel
theorem dX1_rawRangeOf_72 : decode cX1_rawRangeOf 72 = .ok (.ldc2_w 104, 3) := by decide +kernel
theorem dX1_rawRangeOf_75 : decode cX1_rawRangeOf 75 = .ok (.invokestatic 101, 3) := by decide +kernel
theorem dX1_rawRangeOf_78 : decode cX1_rawRangeOf 78 = .ok (.l2i, 1) := by decide +kernel
theorem dX1_rawRangeOf_79 : decode cX1_rawRangeOf 79 = .ok (.ireturn, 1) := by decide +kernel
theorem dX1_rawRangeOf_80 : decode cX1_rawRangeOf 80 = .ok (.lload_n 3, 1) := by decide +kernel
theorem dX1_rawRangeOf_81 : decode cX1_rawRangeOf 81 = .ok (.lload 7, 2) := by decide +kernel
theorem dX1_rawRangeOf_83 : decode cX1_rawRangeOf 83 = .ok (.ladd, 1) := by decide +kernel
theorem dX1_rawRangeOf_84 : decode cX1_rawRangeOf 84 = .ok (.lload 9, 2) := by decide +kernel
theorem dX1_rawRangeOf_86 : decode cX1_rawRangeOf 86 = .ok (.ladd, 1) := by decide +kernel
theorem dX1_rawRangeOf_87 : decode cX1_rawRangeOf 87 = .ok (.lload 5, 2) := by decide +kernel
theorem dX1_rawRangeOf_89 : decode cX1_rawRangeOf 89 = .ok (.ladd, 1) := by decide +kernel
theorem dX1_rawRangeOf_90 : decode cX1_rawRangeOf 90 = .ok (.lstore 11, 2) := by decide +kernel
theorem dX1_rawRangeOf_92 : decode cX1_rawRangeOf 92 = .ok (.lload 11, 2) := by decide +kernel
theorem dX1_rawRangeOf_94 : decode cX1_rawRangeOf 94 = .ok (.lconst 0, 1) := by decide +kernel
theorem dX1_rawRangeOf_95 : decode cX1_rawRangeOf 95 = .ok (.lcmp, 1) := by decide +kernel
theorem dX1_rawRangeOf_96 : decode cX1_rawRangeOf 96 = .ok (.ifCond .ne 7, 3) := by decide +kernel
theorem dX1_rawRangeOf_99 : decode cX1_rawRangeOf 99 = .ok (.iconst 0, 1) := by decide +kernel
theorem dX1_rawRangeOf_100 : decode cX1_rawRangeOf 100 = .ok (.goto 19, 3) := by decide +kernel
theorem dX1_rawRangeOf_103 : decode cX1_rawRangeOf 103 = .ok (.lload_n 3, 1) := by decide +kernel
theorem dX1_rawRangeOf_104 : decode cX1_rawRangeOf 104 = .ok (.lload 7, 2) := by decide +kernel
theorem dX1_rawRangeOf_106 : decode cX1_rawRangeOf 106 = .ok (.lmul, 1) := by decide +kernel
theorem dX1_rawRangeOf_107 : decode cX1_rawRangeOf 107 = .ok (.lload 9, 2) := by decide +kernel
theorem dX1_rawRangeOf_109 : decode cX1_rawRangeOf 109 = .ok (.lload 5, 2) := by decide +kernel
theorem dX1_rawRangeOf_111 : decode cX1_rawRangeOf 111 = .ok (.lmul, 1) := by decide +kernel
theorem dX1_rawRangeOf_112 : decode cX1_rawRangeOf 112 = .ok (.lsub, 1) := by decide +kernel
theorem dX1_rawRangeOf_113 : decode cX1_rawRangeOf 113 = .ok (.lload 11, 2) := by decide +kernel
theorem dX1_rawRangeOf_115 : decode cX1_rawRangeOf 115 = .ok (.invokestatic 101, 3) := by decide +kernel
theorem dX1_rawRangeOf_118 : decode cX1_rawRangeOf 118 = .ok (.l2i, 1) := by decide +kernel
theorem dX1_rawRangeOf_119 : decode cX1_rawRangeOf 119 = .ok (.ireturn, 1) := by decide +kernel
theorem dX1_rangeOf_0 : decode cX1_rangeOf 0 = .ok (.aload_n 0, 1) := by decide +kernel
theorem dX1_rangeOf_1 : decode cX1_rangeOf 1 = .ok (.iload_n 1, 1) := by decide +kernel
theorem dX1_rangeOf_2 : decode cX1_rangeOf 2 = .ok (.iload_n 2, 1) := by decide +kernel
theorem dX1_rangeOf_3 : decode cX1_rangeOf 3 = .ok (.invokevirtual 106, 3) := by decide +kernel
theorem dX1_rangeOf_6 : decode cX1_rangeOf 6 = .ok (.aload_n 0, 1) := by decide +kernel
theorem dX1_rangeOf_7 : decode cX1_rangeOf 7 = .ok (.getfield 14, 3) := by decide +kernel
theorem dX1_rangeOf_10 : decode cX1_rangeOf 10 = .ok (.aload_n 0, 1) := by decide +kernel
theorem dX1_rangeOf_11 : decode cX1_rangeOf 11 = .ok (.getfield 20, 3) := by decide +kernel
theorem dX1_rangeOf_14 : decode cX1_rangeOf 14 = .ok (.iload_n 1, 1) := by decide +kernel
theorem dX1_rangeOf_15 : decode cX1_rangeOf 15 = .ok (.iconst 0, 1) := by decide +kernel
theorem dX1_rangeOf_16 : decode cX1_rangeOf 16 = .ok (.invokevirtual 34, 3) := by decide +kernel
theorem dX1_rangeOf_19 : decode cX1_rangeOf 19 = .ok (.iconst 5, 1) := by decide +kernel
theorem dX1_rangeOf_20 : decode cX1_rangeOf 20 = .ok (.invokevirtual 34, 3) := by decide +kernel
theorem dX1_rangeOf_23 : decode cX1_rangeOf 23 = .ok (.isub, 1) := by decide +kernel
theorem dX1_rangeOf_24 : decode cX1_rangeOf 24 = .ok (.aload_n 0, 1) := by decide +kernel
theorem dX1_rangeOf_25 : decode cX1_rangeOf 25 = .ok (.getfield 14, 3) := by decide +kernel
theorem dX1_rangeOf_28 : decode cX1_rangeOf 28 = .ok (.aload_n 0, 1) := by decide +kernel
theorem dX1_rangeOf_29 : decode cX1_rangeOf 29 = .ok (.getfield 20, 3) := by decide +kernel
theorem dX1_rangeOf_32 : decode cX1_rangeOf 32 = .ok (.iload_n 1, 1) := by decide +kernel
theorem dX1_rangeOf_33 : decode cX1_rangeOf 33 = .ok (.iconst 1, 1) := by decide +kernel
theorem dX1_rangeOf_34 : decode cX1_rangeOf 34 = .ok (.invokevirtual 34, 3) := by decide +kernel
theorem dX1_rangeOf_37 : decode cX1_rangeOf 37 = .ok (.iconst 5, 1) := by decide +kernel
theorem dX1_rangeOf_38 : decode cX1_rangeOf 38 = .ok (.invokevirtual 34, 3) := by decide +kernel
theorem dX1_rangeOf_41 : decode cX1_rangeOf 41 = .ok (.isub, 1) := by decide +kernel
theorem dX1_rangeOf_42 : decode cX1_rangeOf 42 = .ok (.ireturn, 1) := by decide +kernel
theorem dX1_errorOf_0 : decode cX1_errorOf 0 = .ok (.aload_n 0, 1) := by decide +kernel
theorem dX1_errorOf_1 : decode cX1_errorOf 1 = .ok (.iload_n 1, 1) := by decide +kernel
theorem dX1_errorOf_2 : decode cX1_errorOf 2 = .ok (.iload_n 2, 1) := by decide +kernel
theorem dX1_errorOf_3 : decode cX1_errorOf 3 = .ok (.invokevirtual 109, 3) := by decide +kernel
theorem dX1_errorOf_6 : decode cX1_errorOf 6 = .ok (.aload_n 0, 1) := by decide +kernel
theorem dX1_errorOf_7 : decode cX1_errorOf 7 = .ok (.iload_n 1, 1) := by decide +kernel
theorem dX1_errorOf_8 : decode cX1_errorOf 8 = .ok (.invokevirtual 112, 3) := by decide +kernel
theorem dX1_errorOf_11 : decode cX1_errorOf 11 = .ok (.isub, 1) := by decide +kernel
theorem dX1_errorOf_12 : decode cX1_errorOf 12 = .ok (.ireturn, 1) := by decide +kernel
theorem dX1_excessOf_0 : decode cX1_excessOf 0 = .ok (.aload_n 0, 1) := by decide +kernel
theorem dX1_excessOf_1 : decode cX1_excessOf 1 = .ok (.iload_n 1, 1) := by decide +kernel
theorem dX1_excessOf_2 : decode cX1_excessOf 2 = .ok (.iconst 2, 1) := by decide +kernel
theorem dX1_excessOf_3 : decode cX1_excessOf 3 = .ok (.invokevirtual 106, 3) := by decide +kernel
theorem dX1_excessOf_6 : decode cX1_excessOf 6 = .ok (.aload_n 0, 1) := by decide +kernel
theorem dX1_excessOf_7 : decode cX1_excessOf 7 = .ok (.iload_n 1, 1) := by decide +kernel
theorem dX1_excessOf_8 : decode cX1_excessOf 8 = .ok (.invokevirtual 112, 3) := by decide +kernel
theorem dX1_excessOf_11 : decode cX1_excessOf 11 = .ok (.isub, 1) := by decide +kernel
theorem dX1_excessOf_12 : decode cX1_excessOf 12 = .ok (.ireturn, 1) := by decide +kernel
theorem dX1_lengthOf_0 : decode cX1_lengthOf 0 = .ok (.aload_n 0, 1) := by decide +kernel
theorem dX1_lengthOf_1 : decode cX1_lengthOf 1 = .ok (.aload_n 0, 1) := by decide +kernel
theorem dX1_lengthOf_2 : decode cX1_lengthOf 2 = .ok (.getfield 20, 3) := by decide +kernel
theorem dX1_lengthOf_5 : decode cX1_lengthOf 5 = .ok (.iload_n 1, 1) := by decide +kernel
theorem dX1_lengthOf_6 : decode cX1_lengthOf 6 = .ok (.iconst 0, 1) := by decide +kernel
theorem dX1_lengthOf_7 : decode cX1_lengthOf 7 = .ok (.invokevirtual 34, 3) := by decide +kernel
theorem dX1_lengthOf_10 : decode cX1_lengthOf 10 = .ok (.aload_n 0, 1) := by decide +kernel
theorem dX1_lengthOf_11 : decode cX1_lengthOf 11 = .ok (.getfield 20, 3) := by decide +kernel
theorem dX1_lengthOf_14 : decode cX1_lengthOf 14 = .ok (.iload_n 1, 1) := by decide +kernel
theorem dX1_lengthOf_15 : decode cX1_lengthOf 15 = .ok (.iconst 1, 1) := by decide +kernel
theorem dX1_lengthOf_16 : decode cX1_lengthOf 16 = .ok (.invokevirtual 34, 3) := by decide +kernel
theorem dX1_lengthOf_19 : decode cX1_lengthOf 19 = .ok (.invokevirtual 56, 3) := by decide +kernel
theorem dX1_lengthOf_22 : decode cX1_lengthOf 22 = .ok (.ireturn, 1) := by decide +kernel
theorem dX1_latestBetween_0 : decode cX1_latestBetween 0 = .ok (.aload_n 0, 1) := by decide +kernel
theorem dX1_latestBetween_1 : decode cX1_latestBetween 1 = .ok (.getfield 20, 3) := by decide +kernel
theorem dX1_latestBetween_4 : decode cX1_latestBetween 4 = .ok (.getfield 59, 3) := by decide +kernel
theorem dX1_latestBetween_7 : decode cX1_latestBetween 7 = .ok (.iconst 1, 1) := by decide +kernel
theorem dX1_latestBetween_8 : decode cX1_latestBetween 8 = .ok (.isub, 1) := by decide +kernel
theorem dX1_latestBetween_9 : decode cX1_latestBetween 9 = .ok (.istore_n 3, 1) := by decide +kernel
theorem dX1_latestBetween_10 : decode cX1_latestBetween 10 = .ok (.iload_n 3, 1) := by decide +kernel
theorem dX1_latestBetween_11 : decode cX1_latestBetween 11 = .ok (.ifCond .lt 57, 3) := by decide +kernel
theorem dX1_latestBetween_14 : decode cX1_latestBetween 14 = .ok (.aload_n 0, 1) := by decide +kernel
theorem dX1_latestBetween_15 : decode cX1_latestBetween 15 = .ok (.getfield 20, 3) := by decide +kernel
theorem dX1_latestBetween_18 : decode cX1_latestBetween 18 = .ok (.iload_n 3, 1) := by decide +kernel
theorem dX1_latestBetween_19 : decode cX1_latestBetween 19 = .ok (.iconst 0, 1) := by decide +kernel
theorem dX1_latestBetween_20 : decode cX1_latestBetween 20 = .ok (.invokevirtual 34, 3) := by decide +kernel
theorem dX1_latestBetween_23 : decode cX1_latestBetween 23 = .ok (.istore 4, 2) := by decide +kernel
theorem dX1_latestBetween_25 : decode cX1_latestBetween 25 = .ok (.aload_n 0, 1) := by decide +kernel
theorem dX1_latestBetween_26 : decode cX1_latestBetween 26 = .ok (.getfield 20, 3) := by decide +kernel
theorem dX1_latestBetween_29 : decode cX1_latestBetween 29 = .ok (.iload_n 3, 1) := by decide +kernel
theorem dX1_latestBetween_30 : decode cX1_latestBetween 30 = .ok (.iconst 1, 1) := by decide +kernel
theorem dX1_latestBetween_31 : decode cX1_latestBetween 31 = .ok (.invokevirtual 34, 3) := by decide +kernel
theorem dX1_latestBetween_34 : decode cX1_latestBetween 34 = .ok (.istore 5, 2) := by decide +kernel
theorem dX1_latestBetween_36 : decode cX1_latestBetween 36 = .ok (.iload 4, 2) := by decide +kernel
theorem dX1_latestBetween_38 : decode cX1_latestBetween 38 = .ok (.iload_n 1, 1) := by decide +kernel
theorem dX1_latestBetween_39 : decode cX1_latestBetween 39 = .ok (.if_icmp .ne 9, 3) := by decide +kernel
theorem dX1_latestBetween_42 : decode cX1_latestBetween 42 = .ok (.iload 5, 2) := by decide +kernel
theorem dX1_latestBetween_44 : decode cX1_latestBetween 44 = .ok (.iload_n 2, 1) := by decide +kernel
theorem dX1_latestBetween_45 : decode cX1_latestBetween 45 = .ok (.if_icmp .eq 15, 3) := by decide +kernel
theorem dX1_latestBetween_48 : decode cX1_latestBetween 48 = .ok (.iload 4, 2) := by decide +kernel
theorem dX1_latestBetween_50 : decode cX1_latestBetween 50 = .ok (.iload_n 2, 1) := by decide +kernel
theorem dX1_latestBetween_51 : decode cX1_latestBetween 51 = .ok (.if_icmp .ne 11, 3) := by decide +kernel
theorem dX1_latestBetween_54 : decode cX1_latestBetween 54 = .ok (.iload 5, 2) := by decide +kernel
theorem dX1_latestBetween_56 : decode cX1_latestBetween 56 = .ok (.iload_n 1, 1) := by decide +kernel
theorem dX1_latestBetween_57 : decode cX1_latestBetween 57 = .ok (.if_icmp .ne 5, 3) := by decide +kernel
theorem dX1_latestBetween_60 : decode cX1_latestBetween 60 = .ok (.iload_n 3, 1) := by decide +kernel
theorem dX1_latestBetween_61 : decode cX1_latestBetween 61 = .ok (.ireturn, 1) := by decide +kernel
theorem dX1_latestBetween_62 : decode cX1_latestBetween 62 = .ok (.iinc 3 (-1), 3) := by decide +kernel
theorem dX1_latestBetween_65 : decode cX1_latestBetween 65 = .ok (.goto (-55), 3) := by decide +kernel
theorem dX1_latestBetween_68 : decode cX1_latestBetween 68 = .ok (.iconst (-1), 1) := by decide +kernel
theorem dX1_latestBetween_69 : decode cX1_latestBetween 69 = .ok (.ireturn, 1) := by decide +kernel
theorem dX1_mixNodes_0 : decode cX1_mixNodes 0 = .ok (.lload_n 1, 1) := by decide +kernel
theorem dX1_mixNodes_1 : decode cX1_mixNodes 1 = .ok (.aload_n 0, 1) := by decide +kernel
theorem dX1_mixNodes_2 : decode cX1_mixNodes 2 = .ok (.getfield 14, 3) := by decide +kernel
theorem dX1_mixNodes_5 : decode cX1_mixNodes 5 = .ok (.getfield 59, 3) := by decide +kernel
theorem dX1_mixNodes_8 : decode cX1_mixNodes 8 = .ok (.i2l, 1) := by decide +kernel
theorem dX1_mixNodes_9 : decode cX1_mixNodes 9 = .ok (.invokestatic 115, 3) := by decide +kernel
theorem dX1_mixNodes_12 : decode cX1_mixNodes 12 = .ok (.lstore_n 3, 1) := by decide +kernel
theorem dX1_mixNodes_13 : decode cX1_mixNodes 13 = .ok (.iconst 0, 1) := by decide +kernel
theorem dX1_mixNodes_14 : decode cX1_mixNodes 14 = .ok (.istore 5, 2) := by decide +kernel
theorem dX1_mixNodes_16 : decode cX1_mixNodes 16 = .ok (.iload 5, 2) := by decide +kernel
theorem dX1_mixNodes_18 : decode cX1_mixNodes 18 = .ok (.aload_n 0, 1) := by decide +kernel
theorem dX1_mixNodes_19 : decode cX1_mixNodes 19 = .ok (.getfield 14, 3) := by decide +kernel
theorem dX1_mixNodes_22 : decode cX1_mixNodes 22 = .ok (.getfield 59, 3) := by decide +kernel
theorem dX1_mixNodes_25 : decode cX1_mixNodes 25 = .ok (.if_icmp .ge 58, 3) := by decide +kernel
theorem dX1_mixNodes_28 : decode cX1_mixNodes 28 = .ok (.iconst 0, 1) := by decide +kernel
theorem dX1_mixNodes_29 : decode cX1_mixNodes 29 = .ok (.istore 6, 2) := by decide +kernel
theorem dX1_mixNodes_31 : decode cX1_mixNodes 31 = .ok (.iload 6, 2) := by decide +kernel
theorem dX1_mixNodes_33 : decode cX1_mixNodes 33 = .ok (.bipush 6, 2) := by decide +kernel
theorem dX1_mixNodes_35 : decode cX1_mixNodes 35 = .ok (.if_icmp .ge 26, 3) := by decide +kernel
theorem dX1_mixNodes_38 : decode cX1_mixNodes 38 = .ok (.lload_n 3, 1) := by decide +kernel
theorem dX1_mixNodes_39 : decode cX1_mixNodes 39 = .ok (.aload_n 0, 1) := by decide +kernel
theorem dX1_mixNodes_40 : decode cX1_mixNodes 40 = .ok (.getfield 14, 3) := by decide +kernel
theorem dX1_mixNodes_43 : decode cX1_mixNodes 43 = .ok (.iload 5, 2) := by decide +kernel
theorem dX1_mixNodes_45 : decode cX1_mixNodes 45 = .ok (.iload 6, 2) := by decide +kernel
theorem dX1_mixNodes_47 : decode cX1_mixNodes 47 = .ok (.invokevirtual 34, 3) := by decide +kernel
theorem dX1_mixNodes_50 : decode cX1_mixNodes 50 = .ok (.i2l, 1) := by decide +kernel
theorem dX1_mixNodes_51 : decode cX1_mixNodes 51 = .ok (.invokestatic 115, 3) := by decide +kernel
theorem dX1_mixNodes_54 : decode cX1_mixNodes 54 = .ok (.lstore_n 3, 1) := by decide +kernel
theorem dX1_mixNodes_55 : decode cX1_mixNodes 55 = .ok (.iinc 6 1, 3) := by decide +kernel
theorem dX1_mixNodes_58 : decode cX1_mixNodes 58 = .ok (.goto (-27), 3) := by decide +kernel
theorem dX1_mixNodes_61 : decode cX1_mixNodes 61 = .ok (.lload_n 3, 1) := by decide +kernel
theorem dX1_mixNodes_62 : decode cX1_mixNodes 62 = .ok (.aload_n 0, 1) := by decide +kernel
theorem dX1_mixNodes_63 : decode cX1_mixNodes 63 = .ok (.iload 5, 2) := by decide +kernel
theorem dX1_mixNodes_65 : decode cX1_mixNodes 65 = .ok (.aload_n 0, 1) := by decide +kernel
theorem dX1_mixNodes_66 : decode cX1_mixNodes 66 = .ok (.getfield 26, 3) := by decide +kernel
theorem dX1_mixNodes_69 : decode cX1_mixNodes 69 = .ok (.invokevirtual 71, 3) := by decide +kernel
theorem dX1_mixNodes_72 : decode cX1_mixNodes 72 = .ok (.i2l, 1) := by decide +kernel
theorem dX1_mixNodes_73 : decode cX1_mixNodes 73 = .ok (.invokestatic 115, 3) := by decide +kernel
theorem dX1_mixNodes_76 : decode cX1_mixNodes 76 = .ok (.lstore_n 3, 1) := by decide +kernel
theorem dX1_mixNodes_77 : decode cX1_mixNodes 77 = .ok (.iinc 5 1, 3) := by decide +kernel
theorem dX1_mixNodes_80 : decode cX1_mixNodes 80 = .ok (.goto (-64), 3) := by decide +kernel
theorem dX1_mixNodes_83 : decode cX1_mixNodes 83 = .ok (.lload_n 3, 1) := by decide +kernel
theorem dX1_mixNodes_84 : decode cX1_mixNodes 84 = .ok (.lreturn, 1) := by decide +kernel
theorem dX1_mixRecords_0 : decode cX1_mixRecords 0 = .ok (.lload_n 1, 1) := by decide +kernel
theorem dX1_mixRecords_1 : decode cX1_mixRecords 1 = .ok (.aload_n 0, 1) := by decide +kernel
theorem dX1_mixRecords_2 : decode cX1_mixRecords 2 = .ok (.getfield 20, 3) := by decide +kernel
theorem dX1_mixRecords_5 : decode cX1_mixRecords 5 = .ok (.getfield 59, 3) := by decide +kernel
theorem dX1_mixRecords_8 : decode cX1_mixRecords 8 = .ok (.i2l, 1) := by decide +kernel
theorem dX1_mixRecords_9 : decode cX1_mixRecords 9 = .ok (.invokestatic 115, 3) := by decide +kernel
theorem dX1_mixRecords_12 : decode cX1_mixRecords 12 = .ok (.lstore_n 3, 1) := by decide +kernel
theorem dX1_mixRecords_13 : decode cX1_mixRecords 13 = .ok (.iconst 0, 1) := by decide +kernel
theorem dX1_mixRecords_14 : decode cX1_mixRecords 14 = .ok (.istore 5, 2) := by decide +kernel
theorem dX1_mixRecords_16 : decode cX1_mixRecords 16 = .ok (.iload 5, 2) := by decide +kernel
theorem dX1_mixRecords_18 : decode cX1_mixRecords 18 = .ok (.aload_n 0, 1) := by decide +kernel
theorem dX1_mixRecords_19 : decode cX1_mixRecords 19 = .ok (.getfield 20, 3) := by decide +kernel
theorem dX1_mixRecords_22 : decode cX1_mixRecords 22 = .ok (.getfield 59, 3) := by decide +kernel
theorem dX1_mixRecords_25 : decode cX1_mixRecords 25 = .ok (.if_icmp .ge 71, 3) := by decide +kernel
theorem dX1_mixRecords_28 : decode cX1_mixRecords 28 = .ok (.iconst 0, 1) := by decide +kernel
theorem dX1_mixRecords_29 : decode cX1_mixRecords 29 = .ok (.istore 6, 2) := by decide +kernel
theorem dX1_mixRecords_31 : decode cX1_mixRecords 31 = .ok (.iload 6, 2) := by decide +kernel
theorem dX1_mixRecords_33 : decode cX1_mixRecords 33 = .ok (.bipush 8, 2) := by decide +kernel
theorem dX1_mixRecords_35 : decode cX1_mixRecords 35 = .ok (.if_icmp .ge 26, 3) := by decide +kernel
theorem dX1_mixRecords_38 : decode cX1_mixRecords 38 = .ok (.lload_n 3, 1) := by decide +kernel
theorem dX1_mixRecords_39 : decode cX1_mixRecords 39 = .ok (.aload_n 0, 1) := by decide +kernel
theorem dX1_mixRecords_40 : decode cX1_mixRecords 40 = .ok (.getfield 20, 3) := by decide +kernel
theorem dX1_mixRecords_43 : decode cX1_mixRecords 43 = .ok (.iload 5, 2) := by decide +kernel
theorem dX1_mixRecords_45 : decode cX1_mixRecords 45 = .ok (.iload 6, 2) := by decide +kernel
theorem dX1_mixRecords_47 : decode cX1_mixRecords 47 = .ok (.invokevirtual 34, 3) := by decide +kernel
theorem dX1_mixRecords_50 : decode cX1_mixRecords 50 = .ok (.i2l, 1) := by decide +kernel
theorem dX1_mixRecords_51 : decode cX1_mixRecords 51 = .ok (.invokestatic 115, 3) := by decide +kernel
theorem dX1_mixRecords_54 : decode cX1_mixRecords 54 = .ok (.lstore_n 3, 1) := by decide +kernel
theorem dX1_mixRecords_55 : decode cX1_mixRecords 55 = .ok (.iinc 6 1, 3) := by decide +kernel
theorem dX1_mixRecords_58 : decode cX1_mixRecords 58 = .ok (.goto (-27), 3) := by decide +kernel
theorem dX1_mixRecords_61 : decode cX1_mixRecords 61 = .ok (.iconst 0, 1) := by decide +kernel
theorem dX1_mixRecords_62 : decode cX1_mixRecords 62 = .ok (.istore 6, 2) := by decide +kernel
theorem dX1_mixRecords_64 : decode cX1_mixRecords 64 = .ok (.iload 6, 2) := by decide +kernel
theorem dX1_mixRecords_66 : decode cX1_mixRecords 66 = .ok (.iconst 2, 1) := by decide +kernel
theorem dX1_mixRecords_67 : decode cX1_mixRecords 67 = .ok (.if_icmp .gt 23, 3) := by decide +kernel
theorem dX1_mixRecords_70 : decode cX1_mixRecords 70 = .ok (.lload_n 3, 1) := by decide +kernel
theorem dX1_mixRecords_71 : decode cX1_mixRecords 71 = .ok (.aload_n 0, 1) := by decide +kernel
theorem dX1_mixRecords_72 : decode cX1_mixRecords 72 = .ok (.iload 5, 2) := by decide +kernel
theorem dX1_mixRecords_74 : decode cX1_mixRecords 74 = .ok (.iload 6, 2) := by decide +kernel
theorem dX1_mixRecords_76 : decode cX1_mixRecords 76 = .ok (.invokevirtual 109, 3) := by decide +kernel
theorem dX1_mixRecords_79 : decode cX1_mixRecords 79 = .ok (.i2l, 1) := by decide +kernel
theorem dX1_mixRecords_80 : decode cX1_mixRecords 80 = .ok (.invokestatic 115, 3) := by decide +kernel
theorem dX1_mixRecords_83 : decode cX1_mixRecords 83 = .ok (.lstore_n 3, 1) := by decide +kernel
theorem dX1_mixRecords_84 : decode cX1_mixRecords 84 = .ok (.iinc 6 1, 3) := by decide +kernel
theorem dX1_mixRecords_87 : decode cX1_mixRecords 87 = .ok (.goto (-23), 3) := by decide +kernel
theorem dX1_mixRecords_90 : decode cX1_mixRecords 90 = .ok (.iinc 5 1, 3) := by decide +kernel
theorem dX1_mixRecords_93 : decode cX1_mixRecords 93 = .ok (.goto (-77), 3) := by decide +kernel
theorem dX1_mixRecords_96 : decode cX1_mixRecords 96 = .ok (.lload_n 3, 1) := by decide +kernel
theorem dX1_mixRecords_97 : decode cX1_mixRecords 97 = .ok (.lreturn, 1) := by decide +kernel
theorem dX1_mixPlans_0 : decode cX1_mixPlans 0 = .ok (.lload_n 1, 1) := by decide +kernel
theorem dX1_mixPlans_1 : decode cX1_mixPlans 1 = .ok (.aload_n 0, 1) := by decide +kernel
theorem dX1_mixPlans_2 : decode cX1_mixPlans 2 = .ok (.getfield 23, 3) := by decide +kernel
theorem dX1_mixPlans_5 : decode cX1_mixPlans 5 = .ok (.getfield 59, 3) := by decide +kernel
theorem dX1_mixPlans_8 : decode cX1_mixPlans 8 = .ok (.i2l, 1) := by decide +kernel
theorem dX1_mixPlans_9 : decode cX1_mixPlans 9 = .ok (.invokestatic 115, 3) := by decide +kernel
theorem dX1_mixPlans_12 : decode cX1_mixPlans 12 = .ok (.lstore_n 3, 1) := by decide +kernel
theorem dX1_mixPlans_13 : decode cX1_mixPlans 13 = .ok (.iconst 0, 1) := by decide +kernel
theorem dX1_mixPlans_14 : decode cX1_mixPlans 14 = .ok (.istore 5, 2) := by decide +kernel
theorem dX1_mixPlans_16 : decode cX1_mixPlans 16 = .ok (.iload 5, 2) := by decide +kernel
theorem dX1_mixPlans_18 : decode cX1_mixPlans 18 = .ok (.aload_n 0, 1) := by decide +kernel
theorem dX1_mixPlans_19 : decode cX1_mixPlans 19 = .ok (.getfield 23, 3) := by decide +kernel
theorem dX1_mixPlans_22 : decode cX1_mixPlans 22 = .ok (.getfield 59, 3) := by decide +kernel
theorem dX1_mixPlans_25 : decode cX1_mixPlans 25 = .ok (.if_icmp .ge 41, 3) := by decide +kernel
theorem dX1_mixPlans_28 : decode cX1_mixPlans 28 = .ok (.iconst 0, 1) := by decide +kernel
theorem dX1_mixPlans_29 : decode cX1_mixPlans 29 = .ok (.istore 6, 2) := by decide +kernel
theorem dX1_mixPlans_31 : decode cX1_mixPlans 31 = .ok (.iload 6, 2) := by decide +kernel
theorem dX1_mixPlans_33 : decode cX1_mixPlans 33 = .ok (.iconst 5, 1) := by decide +kernel
theorem dX1_mixPlans_34 : decode cX1_mixPlans 34 = .ok (.if_icmp .ge 26, 3) := by decide +kernel
theorem dX1_mixPlans_37 : decode cX1_mixPlans 37 = .ok (.lload_n 3, 1) := by decide +kernel
theorem dX1_mixPlans_38 : decode cX1_mixPlans 38 = .ok (.aload_n 0, 1) := by decide +kernel
theorem dX1_mixPlans_39 : decode cX1_mixPlans 39 = .ok (.getfield 23, 3) := by decide +kernel
theorem dX1_mixPlans_42 : decode cX1_mixPlans 42 = .ok (.iload 5, 2) := by decide +kernel
theorem dX1_mixPlans_44 : decode cX1_mixPlans 44 = .ok (.iload 6, 2) := by decide +kernel
theorem dX1_mixPlans_46 : decode cX1_mixPlans 46 = .ok (.invokevirtual 34, 3) := by decide +kernel
theorem dX1_mixPlans_49 : decode cX1_mixPlans 49 = .ok (.i2l, 1) := by decide +kernel
theorem dX1_mixPlans_50 : decode cX1_mixPlans 50 = .ok (.invokestatic 115, 3) := by decide +kernel
theorem dX1_mixPlans_53 : decode cX1_mixPlans 53 = .ok (.lstore_n 3, 1) := by decide +kernel
theorem dX1_mixPlans_54 : decode cX1_mixPlans 54 = .ok (.iinc 6 1, 3) := by decide +kernel
theorem dX1_mixPlans_57 : decode cX1_mixPlans 57 = .ok (.goto (-26), 3) := by decide +kernel
theorem dX1_mixPlans_60 : decode cX1_mixPlans 60 = .ok (.iinc 5 1, 3) := by decide +kernel
theorem dX1_mixPlans_63 : decode cX1_mixPlans 63 = .ok (.goto (-47), 3) := by decide +kernel
theorem dX1_mixPlans_66 : decode cX1_mixPlans 66 = .ok (.lload_n 3, 1) := by decide +kernel
theorem dX1_mixPlans_67 : decode cX1_mixPlans 67 = .ok (.lreturn, 1) := by decide +kernel
theorem dX2_init_0 : decode cX2_init 0 = .ok (.aload_n 0, 1) := by decide +kernel
theorem dX2_init_1 : decode cX2_init 1 = .ok (.invokespecial 3, 3) := by decide +kernel
theorem dX2_init_4 : decode cX2_init 4 = .ok (.aload_n 0, 1) := by decide +kernel
theorem dX2_init_5 : decode cX2_init 5 = .ok (.aload_n 1, 1) := by decide +kernel
theorem dX2_init_6 : decode cX2_init 6 = .ok (.putfield 9, 3) := by decide +kernel
theorem dX2_init_9 : decode cX2_init 9 = .ok (.aload_n 0, 1) := by decide +kernel
theorem dX2_init_10 : decode cX2_init 10 = .ok (.iload_n 2, 1) := by decide +kernel
theorem dX2_init_11 : decode cX2_init 11 = .ok (.putfield 15, 3) := by decide +kernel
theorem dX2_init_14 : decode cX2_init 14 = .ok (.return_, 1) := by decide +kernel
theorem dX2_isFull_0 : decode cX2_isFull 0 = .ok (.aload_n 0, 1) := by decide +kernel
theorem dX2_isFull_1 : decode cX2_isFull 1 = .ok (.getfield 19, 3) := by decide +kernel
theorem dX2_isFull_4 : decode cX2_isFull 4 = .ok (.iconst 1, 1) := by decide +kernel
theorem dX2_isFull_5 : decode cX2_isFull 5 = .ok (.iadd, 1) := by decide +kernel
theorem dX2_isFull_6 : decode cX2_isFull 6 = .ok (.aload_n 0, 1) := by decide +kernel
theorem dX2_isFull_7 : decode cX2_isFull 7 = .ok (.getfield 15, 3) := by decide +kernel
theorem dX2_isFull_10 : decode cX2_isFull 10 = .ok (.imul, 1) := by decide +kernel
theorem dX2_isFull_11 : decode cX2_isFull 11 = .ok (.aload_n 0, 1) := by decide +kernel
theorem dX2_isFull_12 : decode cX2_isFull 12 = .ok (.getfield 9, 3) := by decide +kernel
theorem dX2_isFull_15 : decode cX2_isFull 15 = .ok (.arraylength, 1) := by decide +kernel
theorem dX2_isFull_16 : decode cX2_isFull 16 = .ok (.if_icmp .le 7, 3) := by decide +kernel
theorem dX2_isFull_19 : decode cX2_isFull 19 = .ok (.iconst 1, 1) := by decide +kernel
theorem dX2_isFull_20 : decode cX2_isFull 20 = .ok (.goto 4, 3) := by decide +kernel
theorem dX2_isFull_23 : decode cX2_isFull 23 = .ok (.iconst 0, 1) := by decide +kernel
theorem dX2_isFull_24 : decode cX2_isFull 24 = .ok (.ireturn, 1) := by decide +kernel
theorem dX2_get_0 : decode cX2_get 0 = .ok (.iload_n 1, 1) := by decide +kernel
theorem dX2_get_1 : decode cX2_get 1 = .ok (.aload_n 0, 1) := by decide +kernel
theorem dX2_get_2 : decode cX2_get 2 = .ok (.getfield 15, 3) := by decide +kernel
theorem dX2_get_5 : decode cX2_get 5 = .ok (.imul, 1) := by decide +kernel
theorem dX2_get_6 : decode cX2_get 6 = .ok (.iload_n 2, 1) := by decide +kernel
theorem dX2_get_7 : decode cX2_get 7 = .ok (.iadd, 1) := by decide +kernel
theorem dX2_get_8 : decode cX2_get 8 = .ok (.istore_n 3, 1) := by decide +kernel
theorem dX2_get_9 : decode cX2_get 9 = .ok (.iload_n 3, 1) := by decide +kernel
theorem dX2_get_10 : decode cX2_get 10 = .ok (.ifCond .lt 21, 3) := by decide +kernel
theorem dX2_get_13 : decode cX2_get 13 = .ok (.iload_n 3, 1) := by decide +kernel
theorem dX2_get_14 : decode cX2_get 14 = .ok (.aload_n 0, 1) := by decide +kernel
theorem dX2_get_15 : decode cX2_get 15 = .ok (.getfield 9, 3) := by decide +kernel
theorem dX2_get_18 : decode cX2_get 18 = .ok (.arraylength, 1) := by decide +kernel
theorem dX2_get_19 : decode cX2_get 19 = .ok (.if_icmp .ge 12, 3) := by decide +kernel
theorem dX2_get_22 : decode cX2_get 22 = .ok (.aload_n 0, 1) := by decide +kernel
theorem dX2_get_23 : decode cX2_get 23 = .ok (.getfield 9, 3) := by decide +kernel
theorem dX2_get_26 : decode cX2_get 26 = .ok (.iload_n 3, 1) := by decide +kernel
theorem dX2_get_27 : decode cX2_get 27 = .ok (.iaload, 1) := by decide +kernel
theorem dX2_get_28 : decode cX2_get 28 = .ok (.goto 4, 3) := by decide +kernel
theorem dX2_get_31 : decode cX2_get 31 = .ok (.iconst 0, 1) := by decide +kernel
theorem dX2_get_32 : decode cX2_get 32 = .ok (.ireturn, 1) := by decide +kernel
theorem dX2_set_0 : decode cX2_set 0 = .ok (.iload_n 1, 1) := by decide +kernel
theorem dX2_set_1 : decode cX2_set 1 = .ok (.aload_n 0, 1) := by decide +kernel
theorem dX2_set_2 : decode cX2_set 2 = .ok (.getfield 15, 3) := by decide +kernel
theorem dX2_set_5 : decode cX2_set 5 = .ok (.imul, 1) := by decide +kernel
theorem dX2_set_6 : decode cX2_set 6 = .ok (.iload_n 2, 1) := by decide +kernel
theorem dX2_set_7 : decode cX2_set 7 = .ok (.iadd, 1) := by decide +kernel
theorem dX2_set_8 : decode cX2_set 8 = .ok (.istore 4, 2) := by decide +kernel
theorem dX2_set_10 : decode cX2_set 10 = .ok (.iload 4, 2) := by decide +kernel
theorem dX2_set_12 : decode cX2_set 12 = .ok (.ifCond .lt 21, 3) := by decide +kernel
theorem dX2_set_15 : decode cX2_set 15 = .ok (.iload 4, 2) := by decide +kernel
theorem dX2_set_17 : decode cX2_set 17 = .ok (.aload_n 0, 1) := by decide +kernel
theorem dX2_set_18 : decode cX2_set 18 = .ok (.getfield 9, 3) := by decide +kernel
theorem dX2_set_21 : decode cX2_set 21 = .ok (.arraylength, 1) := by decide +kernel
theorem dX2_set_22 : decode cX2_set 22 = .ok (.if_icmp .ge 11, 3) := by decide +kernel
theorem dX2_set_25 : decode cX2_set 25 = .ok (.aload_n 0, 1) := by decide +kernel
theorem dX2_set_26 : decode cX2_set 26 = .ok (.getfield 9, 3) := by decide +kernel
theorem dX2_set_29 : decode cX2_set 29 = .ok (.iload 4, 2) := by decide +kernel
theorem dX2_set_31 : decode cX2_set 31 = .ok (.iload_n 3, 1) := by decide +kernel
theorem dX2_set_32 : decode cX2_set 32 = .ok (.iastore, 1) := by decide +kernel
theorem dX2_set_33 : decode cX2_set 33 = .ok (.return_, 1) := by decide +kernel
theorem dX2_openRow_0 : decode cX2_openRow 0 = .ok (.aload_n 0, 1) := by decide +kernel
theorem dX2_openRow_1 : decode cX2_openRow 1 = .ok (.invokevirtual 22, 3) := by decide +kernel
theorem dX2_openRow_4 : decode cX2_openRow 4 = .ok (.ifCond .ne 15, 3) := by decide +kernel
theorem dX2_openRow_7 : decode cX2_openRow 7 = .ok (.iload_n 1, 1) := by decide +kernel
theorem dX2_openRow_8 : decode cX2_openRow 8 = .ok (.ifCond .lt 11, 3) := by decide +kernel
theorem dX2_openRow_11 : decode cX2_openRow 11 = .ok (.iload_n 1, 1) := by decide +kernel
theorem dX2_openRow_12 : decode cX2_openRow 12 = .ok (.aload_n 0, 1) := by decide +kernel
theorem dX2_openRow_13 : decode cX2_openRow 13 = .ok (.getfield 19, 3) := by decide +kernel
theorem dX2_openRow_16 : decode cX2_openRow 16 = .ok (.if_icmp .le 5, 3) := by decide +kernel
theorem dX2_openRow_19 : decode cX2_openRow 19 = .ok (.iconst (-1), 1) := by decide +kernel
theorem dX2_openRow_20 : decode cX2_openRow 20 = .ok (.ireturn, 1) := by decide +kernel
theorem dX2_openRow_21 : decode cX2_openRow 21 = .ok (.aload_n 0, 1) := by decide +kernel
theorem dX2_openRow_22 : decode cX2_openRow 22 = .ok (.getfield 9, 3) := by decide +kernel
theorem dX2_openRow_25 : decode cX2_openRow 25 = .ok (.iload_n 1, 1) := by decide +kernel
theorem dX2_openRow_26 : decode cX2_openRow 26 = .ok (.aload_n 0, 1) := by decide +kernel
theorem dX2_openRow_27 : decode cX2_openRow 27 = .ok (.getfield 15, 3) := by decide +kernel
theorem dX2_openRow_30 : decode cX2_openRow 30 = .ok (.imul, 1) := by decide +kernel
theorem dX2_openRow_31 : decode cX2_openRow 31 = .ok (.aload_n 0, 1) := by decide +kernel
theorem dX2_openRow_32 : decode cX2_openRow 32 = .ok (.getfield 9, 3) := by decide +kernel
theorem dX2_openRow_35 : decode cX2_openRow 35 = .ok (.iload_n 1, 1) := by decide +kernel
theorem dX2_openRow_36 : decode cX2_openRow 36 = .ok (.iconst 1, 1) := by decide +kernel
theorem dX2_openRow_37 : decode cX2_openRow 37 = .ok (.iadd, 1) := by decide +kernel
theorem dX2_openRow_38 : decode cX2_openRow 38 = .ok (.aload_n 0, 1) := by decide +kernel
theorem dX2_openRow_39 : decode cX2_openRow 39 = .ok (.getfield 15, 3) := by decide +kernel
theorem dX2_openRow_42 : decode cX2_openRow 42 = .ok (.imul, 1) := by decide +kernel
theorem dX2_openRow_43 : decode cX2_openRow 43 = .ok (.aload_n 0, 1) := by decide +kernel
theorem dX2_openRow_44 : decode cX2_openRow 44 = .ok (.getfield 19, 3) := by decide +kernel
theorem dX2_openRow_47 : decode cX2_openRow 47 = .ok (.iload_n 1, 1) := by decide +kernel
theorem dX2_openRow_48 : decode cX2_openRow 48 = .ok (.isub, 1) := by decide +kernel
theorem dX2_openRow_49 : decode cX2_openRow 49 = .ok (.aload_n 0, 1) := by decide +kernel
theorem dX2_openRow_50 : decode cX2_openRow 50 = .ok (.getfield 15, 3) := by decide +kernel
theorem dX2_openRow_53 : decode cX2_openRow 53 = .ok (.imul, 1) := by decide +kernel
theorem dX2_openRow_54 : decode cX2_openRow 54 = .ok (.invokestatic 26, 3) := by decide +kernel
theorem dX2_openRow_57 : decode cX2_openRow 57 = .ok (.aload_n 0, 1) := by decide +kernel
theorem dX2_openRow_58 : decode cX2_openRow 58 = .ok (.dup, 1) := by decide +kernel
theorem dX2_openRow_59 : decode cX2_openRow 59 = .ok (.getfield 19, 3) := by decide +kernel
theorem dX2_openRow_62 : decode cX2_openRow 62 = .ok (.iconst 1, 1) := by decide +kernel
theorem dX2_openRow_63 : decode cX2_openRow 63 = .ok (.iadd, 1) := by decide +kernel
theorem dX2_openRow_64 : decode cX2_openRow 64 = .ok (.putfield 19, 3) := by decide +kernel
theorem dX2_openRow_67 : decode cX2_openRow 67 = .ok (.iload_n 1, 1) := by decide +kernel
theorem dX2_openRow_68 : decode cX2_openRow 68 = .ok (.ireturn, 1) := by decide +kernel
theorem dX2_removeFirstRow_0 : decode cX2_removeFirstRow 0 = .ok (.aload_n 0, 1) := by decide +kernel
theorem dX2_removeFirstRow_1 : decode cX2_removeFirstRow 1 = .ok (.getfield 19, 3) := by decide +kernel
theorem dX2_removeFirstRow_4 : decode cX2_removeFirstRow 4 = .ok (.ifCond .le 38, 3) := by decide +kernel
theorem dX2_removeFirstRow_7 : decode cX2_removeFirstRow 7 = .ok (.aload_n 0, 1) := by decide +kernel
theorem dX2_removeFirstRow_8 : decode cX2_removeFirstRow 8 = .ok (.dup, 1) := by decide +kernel
theorem dX2_removeFirstRow_9 : decode cX2_removeFirstRow 9 = .ok (.getfield 19, 3) := by decide +kernel
theorem dX2_removeFirstRow_12 : decode cX2_removeFirstRow 12 = .ok (.iconst 1, 1) := by decide +kernel
theorem dX2_removeFirstRow_13 : decode cX2_removeFirstRow 13 = .ok (.isub, 1) := by decide +kernel
theorem dX2_removeFirstRow_14 : decode cX2_removeFirstRow 14 = .ok (.putfield 19, 3) := by decide +kernel
theorem dX2_removeFirstRow_17 : decode cX2_removeFirstRow 17 = .ok (.aload_n 0, 1) := by decide +kernel
theorem dX2_removeFirstRow_18 : decode cX2_removeFirstRow 18 = .ok (.getfield 9, 3) := by decide +kernel
theorem dX2_removeFirstRow_21 : decode cX2_removeFirstRow 21 = .ok (.aload_n 0, 1) := by decide +kernel
theorem dX2_removeFirstRow_22 : decode cX2_removeFirstRow 22 = .ok (.getfield 15, 3) := by decide +kernel
theorem dX2_removeFirstRow_25 : decode cX2_removeFirstRow 25 = .ok (.aload_n 0, 1) := by decide +kernel
theorem dX2_removeFirstRow_26 : decode cX2_removeFirstRow 26 = .ok (.getfield 9, 3) := by decide +kernel
theorem dX2_removeFirstRow_29 : decode cX2_removeFirstRow 29 = .ok (.iconst 0, 1) := by decide +kernel
theorem dX2_removeFirstRow_30 : decode cX2_removeFirstRow 30 = .ok (.aload_n 0, 1) := by decide +kernel
theorem dX2_removeFirstRow_31 : decode cX2_removeFirstRow 31 = .ok (.getfield 19, 3) := by decide +kernel
theorem dX2_removeFirstRow_34 : decode cX2_removeFirstRow 34 = .ok (.aload_n 0, 1) := by decide +kernel
theorem dX2_removeFirstRow_35 : decode cX2_removeFirstRow 35 = .ok (.getfield 15, 3) := by decide +kernel
theorem dX2_removeFirstRow_38 : decode cX2_removeFirstRow 38 = .ok (.imul, 1) := by decide +kernel
theorem dX2_removeFirstRow_39 : decode cX2_removeFirstRow 39 = .ok (.invokestatic 26, 3) := by decide +kernel
theorem dX2_removeFirstRow_42 : decode cX2_removeFirstRow 42 = .ok (.return_, 1) := by decide +kernel
theorem dX2_copyFrom_0 : decode cX2_copyFrom 0 = .ok (.aload_n 1, 1) := by decide +kernel
theorem dX2_copyFrom_1 : decode cX2_copyFrom 1 = .ok (.getfield 19, 3) := by decide +kernel
theorem dX2_copyFrom_4 : decode cX2_copyFrom 4 = .ok (.aload_n 0, 1) := by decide +kernel
theorem dX2_copyFrom_5 : decode cX2_copyFrom 5 = .ok (.getfield 15, 3) := by decide +kernel
theorem dX2_copyFrom_8 : decode cX2_copyFrom 8 = .ok (.imul, 1) := by decide +kernel
theorem dX2_copyFrom_9 : decode cX2_copyFrom 9 = .ok (.istore_n 2, 1) := by decide +kernel
theorem dX2_copyFrom_10 : decode cX2_copyFrom 10 = .ok (.iload_n 2, 1) := by decide +kernel
theorem dX2_copyFrom_11 : decode cX2_copyFrom 11 = .ok (.aload_n 0, 1) := by decide +kernel
theorem dX2_copyFrom_12 : decode cX2_copyFrom 12 = .ok (.getfield 9, 3) := by decide +kernel
theorem dX2_copyFrom_15 : decode cX2_copyFrom 15 = .ok (.arraylength, 1) := by decide +kernel
theorem dX2_copyFrom_16 : decode cX2_copyFrom 16 = .ok (.if_icmp .gt 34, 3) := by decide +kernel
theorem dX2_copyFrom_19 : decode cX2_copyFrom 19 = .ok (.iload_n 2, 1) := by decide +kernel
theorem dX2_copyFrom_20 : decode cX2_copyFrom 20 = .ok (.aload_n 1, 1) := by decide +kernel
theorem dX2_copyFrom_21 : decode cX2_copyFrom 21 = .ok (.getfield 9, 3) := by decide +kernel
theorem dX2_copyFrom_24 : decode cX2_copyFrom 24 = .ok (.arraylength, 1) := by decide +kernel
theorem dX2_copyFrom_25 : decode cX2_copyFrom 25 = .ok (.if_icmp .gt 25, 3) := by decide +kernel
theorem dX2_copyFrom_28 : decode cX2_copyFrom 28 = .ok (.aload_n 1, 1) := by decide +kernel
theorem dX2_copyFrom_29 : decode cX2_copyFrom 29 = .ok (.getfield 9, 3) := by decide +kernel
theorem dX2_copyFrom_32 : decode cX2_copyFrom 32 = .ok (.iconst 0, 1) := by decide +kernel
theorem dX2_copyFrom_33 : decode cX2_copyFrom 33 = .ok (.aload_n 0, 1) := by decide +kernel
theorem dX2_copyFrom_34 : decode cX2_copyFrom 34 = .ok (.getfield 9, 3) := by decide +kernel
theorem dX2_copyFrom_37 : decode cX2_copyFrom 37 = .ok (.iconst 0, 1) := by decide +kernel
theorem dX2_copyFrom_38 : decode cX2_copyFrom 38 = .ok (.iload_n 2, 1) := by decide +kernel
theorem dX2_copyFrom_39 : decode cX2_copyFrom 39 = .ok (.invokestatic 26, 3) := by decide +kernel
theorem dX2_copyFrom_42 : decode cX2_copyFrom 42 = .ok (.aload_n 0, 1) := by decide +kernel
theorem dX2_copyFrom_43 : decode cX2_copyFrom 43 = .ok (.aload_n 1, 1) := by decide +kernel
theorem dX2_copyFrom_44 : decode cX2_copyFrom 44 = .ok (.getfield 19, 3) := by decide +kernel
theorem dX2_copyFrom_47 : decode cX2_copyFrom 47 = .ok (.putfield 19, 3) := by decide +kernel
theorem dX2_copyFrom_50 : decode cX2_copyFrom 50 = .ok (.return_, 1) := by decide +kernel
theorem dX3_init_0 : decode cX3_init 0 = .ok (.aload_n 0, 1) := by decide +kernel
theorem dX3_init_1 : decode cX3_init 1 = .ok (.invokespecial 1, 3) := by decide +kernel
theorem dX3_init_4 : decode cX3_init 4 = .ok (.aload_n 0, 1) := by decide +kernel
theorem dX3_init_5 : decode cX3_init 5 = .ok (.new 7, 3) := by decide +kernel
theorem dX3_init_8 : decode cX3_init 8 = .ok (.dup, 1) := by decide +kernel
theorem dX3_init_9 : decode cX3_init 9 = .ok (.invokespecial 9, 3) := by decide +kernel
theorem dX3_init_12 : decode cX3_init 12 = .ok (.putfield 10, 3) := by decide +kernel
theorem dX3_init_15 : decode cX3_init 15 = .ok (.aload_n 0, 1) := by decide +kernel
theorem dX3_init_16 : decode cX3_init 16 = .ok (.new 16, 3) := by decide +kernel
theorem dX3_init_19 : decode cX3_init 19 = .ok (.dup, 1) := by decide +kernel
theorem dX3_init_20 : decode cX3_init 20 = .ok (.invokespecial 18, 3) := by decide +kernel
theorem dX3_init_23 : decode cX3_init 23 = .ok (.putfield 19, 3) := by decide +kernel
theorem dX3_init_26 : decode cX3_init 26 = .ok (.return_, 1) := by decide +kernel
theorem dX3_addNode_0 : decode cX3_addNode 0 = .ok (.iload_n 1, 1) := by decide +kernel
theorem dX3_addNode_1 : decode cX3_addNode 1 = .ok (.sipush (-1000), 3) := by decide +kernel
theorem dX3_addNode_4 : decode cX3_addNode 4 = .ok (.sipush 1000, 3) := by decide +kernel
theorem dX3_addNode_7 : decode cX3_addNode 7 = .ok (.invokestatic 23, 3) := by decide +kernel
theorem dX3_addNode_10 : decode cX3_addNode 10 = .ok (.iload_n 2, 1) := by decide +kernel
theorem dX3_addNode_11 : decode cX3_addNode 11 = .ok (.sipush (-1000), 3) := by decide +kernel
theorem dX3_addNode_14 : decode cX3_addNode 14 = .ok (.sipush 1000, 3) := by decide +kernel
theorem dX3_addNode_17 : decode cX3_addNode 17 = .ok (.invokestatic 23, 3) := by decide +kernel
theorem dX3_addNode_20 : decode cX3_addNode 20 = .ok (.iload_n 3, 1) := by decide +kernel
theorem dX3_addNode_21 : decode cX3_addNode 21 = .ok (.bipush (-100), 2) := by decide +kernel
theorem dX3_addNode_23 : decode cX3_addNode 23 = .ok (.bipush 100, 2) := by decide +kernel
theorem dX3_addNode_25 : decode cX3_addNode 25 = .ok (.invokestatic 23, 3) := by decide +kernel
theorem dX3_addNode_28 : decode cX3_addNode 28 = .ok (.iload 4, 2) := by decide +kernel
theorem dX3_addNode_30 : decode cX3_addNode 30 = .ok (.iconst 0, 1) := by decide +kernel
theorem dX3_addNode_31 : decode cX3_addNode 31 = .ok (.ldc 27, 2) := by decide +kernel
theorem dX3_addNode_33 : decode cX3_addNode 33 = .ok (.invokestatic 23, 3) := by decide +kernel
theorem dX3_addNode_36 : decode cX3_addNode 36 = .ok (.iload 5, 2) := by decide +kernel
theorem dX3_addNode_38 : decode cX3_addNode 38 = .ok (.iconst 0, 1) := by decide +kernel
theorem dX3_addNode_39 : decode cX3_addNode 39 = .ok (.sipush 200, 3) := by decide +kernel
theorem dX3_addNode_42 : decode cX3_addNode 42 = .ok (.invokestatic 23, 3) := by decide +kernel
theorem dX3_addNode_45 : decode cX3_addNode 45 = .ok (.aload_n 0, 1) := by decide +kernel
theorem dX3_addNode_46 : decode cX3_addNode 46 = .ok (.getfield 10, 3) := by decide +kernel
theorem dX3_addNode_49 : decode cX3_addNode 49 = .ok (.getfield 28, 3) := by decide +kernel
theorem dX3_addNode_52 : decode cX3_addNode 52 = .ok (.invokevirtual 32, 3) := by decide +kernel
theorem dX3_addNode_55 : decode cX3_addNode 55 = .ok (.ifCond .eq 13, 3) := by decide +kernel
theorem dX3_addNode_58 : decode cX3_addNode 58 = .ok (.new 38, 3) := by decide +kernel
theorem dX3_addNode_61 : decode cX3_addNode 61 = .ok (.dup, 1) := by decide +kernel
theorem dX3_addNode_62 : decode cX3_addNode 62 = .ok (.ldc 40, 2) := by decide +kernel
theorem dX3_addNode_64 : decode cX3_addNode 64 = .ok (.invokespecial 42, 3) := by decide +kernel
theorem dX3_addNode_67 : decode cX3_addNode 67 = .ok (.athrow, 1) := by decide +kernel
theorem dX3_addNode_68 : decode cX3_addNode 68 = .ok (.aload_n 0, 1) := by decide +kernel
theorem dX3_addNode_69 : decode cX3_addNode 69 = .ok (.getfield 19, 3) := by decide +kernel
theorem dX3_addNode_72 : decode cX3_addNode 72 = .ok (.aload_n 0, 1) := by decide +kernel
theorem dX3_addNode_73 : decode cX3_addNode 73 = .ok (.getfield 10, 3) := by decide +kernel
theorem dX3_addNode_76 : decode cX3_addNode 76 = .ok (.invokevirtual 45, 3) := by decide +kernel
theorem dX3_addNode_79 : decode cX3_addNode 79 = .ok (.aload_n 0, 1) := by decide +kernel
theorem dX3_addNode_80 : decode cX3_addNode 80 = .ok (.getfield 10, 3) := by decide +kernel
theorem dX3_addNode_83 : decode cX3_addNode 83 = .ok (.getfield 28, 3) := by decide +kernel
theorem dX3_addNode_86 : decode cX3_addNode 86 = .ok (.aload_n 0, 1) := by decide +kernel
theorem dX3_addNode_87 : decode cX3_addNode 87 = .ok (.getfield 10, 3) := by decide +kernel
theorem dX3_addNode_90 : decode cX3_addNode 90 = .ok (.getfield 28, 3) := by decide +kernel
theorem dX3_addNode_93 : decode cX3_addNode 93 = .ok (.getfield 49, 3) := by decide +kernel
theorem dX3_addNode_96 : decode cX3_addNode 96 = .ok (.invokevirtual 53, 3) := by decide +kernel
theorem dX3_addNode_99 : decode cX3_addNode 99 = .ok (.istore 6, 2) := by decide +kernel
theorem dX3_addNode_101 : decode cX3_addNode 101 = .ok (.aload_n 0, 1) := by decide +kernel
theorem dX3_addNode_102 : decode cX3_addNode 102 = .ok (.getfield 10, 3) := by decide +kernel
theorem dX3_addNode_105 : decode cX3_addNode 105 = .ok (.getfield 28, 3) := by decide +kernel
theorem dX3_addNode_108 : decode cX3_addNode 108 = .ok (.iload 6, 2) := by decide +kernel
theorem dX3_addNode_110 : decode cX3_addNode 110 = .ok (.iconst 0, 1) := by decide +kernel
theorem dX3_addNode_111 : decode cX3_addNode 111 = .ok (.iload_n 1, 1) := by decide +kernel
theorem dX3_addNode_112 : decode cX3_addNode 112 = .ok (.invokevirtual 57, 3) := by decide +kernel
theorem dX3_addNode_115 : decode cX3_addNode 115 = .ok (.aload_n 0, 1) := by decide +kernel
theorem dX3_addNode_116 : decode cX3_addNode 116 = .ok (.getfield 10, 3) := by decide +kernel
theorem dX3_addNode_119 : decode cX3_addNode 119 = .ok (.getfield 28, 3) := by decide +kernel
theorem dX3_addNode_122 : decode cX3_addNode 122 = .ok (.iload 6, 2) := by decide +kernel
theorem dX3_addNode_124 : decode cX3_addNode 124 = .ok (.iconst 1, 1) := by decide +kernel
theorem dX3_addNode_125 : decode cX3_addNode 125 = .ok (.iload_n 2, 1) := by decide +kernel
theorem dX3_addNode_126 : decode cX3_addNode 126 = .ok (.invokevirtual 57, 3) := by decide +kernel
theorem dX3_addNode_129 : decode cX3_addNode 129 = .ok (.aload_n 0, 1) := by decide +kernel
theorem dX3_addNode_130 : decode cX3_addNode 130 = .ok (.getfield 10, 3) := by decide +kernel
theorem dX3_addNode_133 : decode cX3_addNode 133 = .ok (.getfield 28, 3) := by decide +kernel
theorem dX3_addNode_136 : decode cX3_addNode 136 = .ok (.iload 6, 2) := by decide +kernel
theorem dX3_addNode_138 : decode cX3_addNode 138 = .ok (.iconst 2, 1) := by decide +kernel
theorem dX3_addNode_139 : decode cX3_addNode 139 = .ok (.iload_n 3, 1) := by decide +kernel
theorem dX3_addNode_140 : decode cX3_addNode 140 = .ok (.invokevirtual 57, 3) := by decide +kernel
theorem dX3_addNode_143 : decode cX3_addNode 143 = .ok (.aload_n 0, 1) := by decide +kernel
theorem dX3_addNode_144 : decode cX3_addNode 144 = .ok (.getfield 10, 3) := by decide +kernel
theorem dX3_addNode_147 : decode cX3_addNode 147 = .ok (.getfield 28, 3) := by decide +kernel
theorem dX3_addNode_150 : decode cX3_addNode 150 = .ok (.iload 6, 2) := by decide +kernel
theorem dX3_addNode_152 : decode cX3_addNode 152 = .ok (.iconst 3, 1) := by decide +kernel
theorem dX3_addNode_153 : decode cX3_addNode 153 = .ok (.iload 4, 2) := by decide +kernel
theorem dX3_addNode_155 : decode cX3_addNode 155 = .ok (.invokevirtual 57, 3) := by decide +kernel
theorem dX3_addNode_158 : decode cX3_addNode 158 = .ok (.aload_n 0, 1) := by decide +kernel
theorem dX3_addNode_159 : decode cX3_addNode 159 = .ok (.getfield 10, 3) := by decide +kernel
theorem dX3_addNode_162 : decode cX3_addNode 162 = .ok (.getfield 28, 3) := by decide +kernel
theorem dX3_addNode_165 : decode cX3_addNode 165 = .ok (.iload 6, 2) := by decide +kernel
theorem dX3_addNode_167 : decode cX3_addNode 167 = .ok (.iconst 4, 1) := by decide +kernel
theorem dX3_addNode_168 : decode cX3_addNode 168 = .ok (.iload 5, 2) := by decide +kernel
theorem dX3_addNode_170 : decode cX3_addNode 170 = .ok (.invokevirtual 57, 3) := by decide +kernel
theorem dX3_addNode_173 : decode cX3_addNode 173 = .ok (.aload_n 0, 1) := by decide +kernel
theorem dX3_addNode_174 : decode cX3_addNode 174 = .ok (.getfield 10, 3) := by decide +kernel
theorem dX3_addNode_177 : decode cX3_addNode 177 = .ok (.getfield 28, 3) := by decide +kernel
theorem dX3_addNode_180 : decode cX3_addNode 180 = .ok (.iload 6, 2) := by decide +kernel
theorem dX3_addNode_182 : decode cX3_addNode 182 = .ok (.iconst 5, 1) := by decide +kernel
theorem dX3_addNode_183 : decode cX3_addNode 183 = .ok (.iconst 0, 1) := by decide +kernel
theorem dX3_addNode_184 : decode cX3_addNode 184 = .ok (.invokevirtual 57, 3) := by decide +kernel
theorem dX3_addNode_187 : decode cX3_addNode 187 = .ok (.iload 6, 2) := by decide +kernel
theorem dX3_addNode_189 : decode cX3_addNode 189 = .ok (.ireturn, 1) := by decide +kernel
theorem dX3_move_0 : decode cX3_move 0 = .ok (.aload_n 0, 1) := by decide +kernel
theorem dX3_move_1 : decode cX3_move 1 = .ok (.iload_n 1, 1) := by decide +kernel
theorem dX3_move_2 : decode cX3_move 2 = .ok (.invokevirtual 60, 3) := by decide +kernel
theorem dX3_move_5 : decode cX3_move 5 = .ok (.iload_n 2, 1) := by decide +kernel
theorem dX3_move_6 : decode cX3_move 6 = .ok (.sipush (-1000), 3) := by decide +kernel
theorem dX3_move_9 : decode cX3_move 9 = .ok (.sipush 1000, 3) := by decide +kernel
theorem dX3_move_12 : decode cX3_move 12 = .ok (.invokestatic 23, 3) := by decide +kernel
theorem dX3_move_15 : decode cX3_move 15 = .ok (.iload_n 3, 1) := by decide +kernel
theorem dX3_move_16 : decode cX3_move 16 = .ok (.sipush (-1000), 3) := by decide +kernel
theorem dX3_move_19 : decode cX3_move 19 = .ok (.sipush 1000, 3) := by decide +kernel
theorem dX3_move_22 : decode cX3_move 22 = .ok (.invokestatic 23, 3) := by decide +kernel
theorem dX3_move_25 : decode cX3_move 25 = .ok (.aload_n 0, 1) := by decide +kernel
theorem dX3_move_26 : decode cX3_move 26 = .ok (.getfield 19, 3) := by decide +kernel
theorem dX3_move_29 : decode cX3_move 29 = .ok (.aload_n 0, 1) := by decide +kernel
theorem dX3_move_30 : decode cX3_move 30 = .ok (.getfield 10, 3) := by decide +kernel
theorem dX3_move_33 : decode cX3_move 33 = .ok (.invokevirtual 45, 3) := by decide +kernel
theorem dX3_move_36 : decode cX3_move 36 = .ok (.iload_n 2, 1) := by decide +kernel
theorem dX3_move_37 : decode cX3_move 37 = .ok (.aload_n 0, 1) := by decide +kernel
theorem dX3_move_38 : decode cX3_move 38 = .ok (.getfield 10, 3) := by decide +kernel
theorem dX3_move_41 : decode cX3_move 41 = .ok (.getfield 28, 3) := by decide +kernel
theorem dX3_move_44 : decode cX3_move 44 = .ok (.iload_n 1, 1) := by decide +kernel
theorem dX3_move_45 : decode cX3_move 45 = .ok (.iconst 0, 1) := by decide +kernel
theorem dX3_move_46 : decode cX3_move 46 = .ok (.invokevirtual 64, 3) := by decide +kernel
theorem dX3_move_49 : decode cX3_move 49 = .ok (.isub, 1) := by decide +kernel
theorem dX3_move_50 : decode cX3_move 50 = .ok (.iload_n 3, 1) := by decide +kernel
theorem dX3_move_51 : decode cX3_move 51 = .ok (.aload_n 0, 1) := by decide +kernel
theorem dX3_move_52 : decode cX3_move 52 = .ok (.getfield 10, 3) := by decide +kernel
theorem dX3_move_55 : decode cX3_move 55 = .ok (.getfield 28, 3) := by decide +kernel
theorem dX3_move_58 : decode cX3_move 58 = .ok (.iload_n 1, 1) := by decide +kernel
theorem dX3_move_59 : decode cX3_move 59 = .ok (.iconst 1, 1) := by decide +kernel
theorem dX3_move_60 : decode cX3_move 60 = .ok (.invokevirtual 64, 3) := by decide +kernel
theorem dX3_move_63 : decode cX3_move 63 = .ok (.isub, 1) := by decide +kernel
theorem dX3_move_64 : decode cX3_move 64 = .ok (.invokestatic 68, 3) := by decide +kernel
theorem dX3_move_67 : decode cX3_move 67 = .ok (.istore 4, 2) := by decide +kernel
theorem dX3_move_69 : decode cX3_move 69 = .ok (.aload_n 0, 1) := by decide +kernel
theorem dX3_move_70 : decode cX3_move 70 = .ok (.getfield 10, 3) := by decide +kernel
theorem dX3_move_73 : decode cX3_move 73 = .ok (.getfield 28, 3) := by decide +kernel
theorem dX3_move_76 : decode cX3_move 76 = .ok (.iload_n 1, 1) := by decide +kernel
theorem dX3_move_77 : decode cX3_move 77 = .ok (.iconst 0, 1) := by decide +kernel
theorem dX3_move_78 : decode cX3_move 78 = .ok (.iload_n 2, 1) := by decide +kernel
theorem dX3_move_79 : decode cX3_move 79 = .ok (.invokevirtual 57, 3) := by decide +kernel
theorem dX3_move_82 : decode cX3_move 82 = .ok (.aload_n 0, 1) := by decide +kernel
theorem dX3_move_83 : decode cX3_move 83 = .ok (.getfield 10, 3) := by decide +kernel
theorem dX3_move_86 : decode cX3_move 86 = .ok (.getfield 28, 3) := by decide +kernel
theorem dX3_move_89 : decode cX3_move 89 = .ok (.iload_n 1, 1) := by decide +kernel
theorem dX3_move_90 : decode cX3_move 90 = .ok (.iconst 1, 1) := by decide +kernel
theorem dX3_move_91 : decode cX3_move 91 = .ok (.iload_n 3, 1) := by decide +kernel
theorem dX3_move_92 : decode cX3_move 92 = .ok (.invokevirtual 57, 3) := by decide +kernel
theorem dX3_move_95 : decode cX3_move 95 = .ok (.iload 4, 2) := by decide +kernel
theorem dX3_move_97 : decode cX3_move 97 = .ok (.ireturn, 1) := by decide +kernel
theorem dX3_assume_0 : decode cX3_assume 0 = .ok (.aload_n 0, 1) := by decide +kernel
theorem dX3_assume_1 : decode cX3_assume 1 = .ok (.iload_n 1, 1) := by decide +kernel
theorem dX3_assume_2 : decode cX3_assume 2 = .ok (.invokevirtual 60, 3) := by decide +kernel
theorem dX3_assume_5 : decode cX3_assume 5 = .ok (.iload_n 2, 1) := by decide +kernel
theorem dX3_assume_6 : decode cX3_assume 6 = .ok (.sipush (-1000), 3) := by decide +kernel
theorem dX3_assume_9 : decode cX3_assume 9 = .ok (.sipush 1000, 3) := by decide +kernel
theorem dX3_assume_12 : decode cX3_assume 12 = .ok (.invokestatic 23, 3) := by decide +kernel
theorem dX3_assume_15 : decode cX3_assume 15 = .ok (.aload_n 0, 1) := by decide +kernel
theorem dX3_assume_16 : decode cX3_assume 16 = .ok (.getfield 19, 3) := by decide +kernel
theorem dX3_assume_19 : decode cX3_assume 19 = .ok (.aload_n 0, 1) := by decide +kernel
theorem dX3_assume_20 : decode cX3_assume 20 = .ok (.getfield 10, 3) := by decide +kernel
theorem dX3_assume_23 : decode cX3_assume 23 = .ok (.invokevirtual 45, 3) := by decide +kernel
theorem dX3_assume_26 : decode cX3_assume 26 = .ok (.aload_n 0, 1) := by decide +kernel
theorem dX3_assume_27 : decode cX3_assume 27 = .ok (.getfield 10, 3) := by decide +kernel
theorem dX3_assume_30 : decode cX3_assume 30 = .ok (.getfield 28, 3) := by decide +kernel
theorem dX3_assume_33 : decode cX3_assume 33 = .ok (.iload_n 1, 1) := by decide +kernel
theorem dX3_assume_34 : decode cX3_assume 34 = .ok (.iconst 5, 1) := by decide +kernel
theorem dX3_assume_35 : decode cX3_assume 35 = .ok (.invokevirtual 64, 3) := by decide +kernel
theorem dX3_assume_38 : decode cX3_assume 38 = .ok (.istore_n 3, 1) := by decide +kernel
theorem dX3_assume_39 : decode cX3_assume 39 = .ok (.aload_n 0, 1) := by decide +kernel
theorem dX3_assume_40 : decode cX3_assume 40 = .ok (.getfield 10, 3) := by decide +kernel
theorem dX3_assume_43 : decode cX3_assume 43 = .ok (.getfield 28, 3) := by decide +kernel
theorem dX3_assume_46 : decode cX3_assume 46 = .ok (.iload_n 1, 1) := by decide +kernel
theorem dX3_assume_47 : decode cX3_assume 47 = .ok (.iconst 5, 1) := by decide +kernel
theorem dX3_assume_48 : decode cX3_assume 48 = .ok (.iload_n 2, 1) := by decide +kernel
theorem dX3_assume_49 : decode cX3_assume 49 = .ok (.invokevirtual 57, 3) := by decide +kernel
theorem dX3_assume_52 : decode cX3_assume 52 = .ok (.iload_n 3, 1) := by decide +kernel
theorem dX3_assume_53 : decode cX3_assume 53 = .ok (.ireturn, 1) := by decide +kernel
theorem dX3_assumed_0 : decode cX3_assumed 0 = .ok (.aload_n 0, 1) := by decide +kernel
theorem dX3_assumed_1 : decode cX3_assumed 1 = .ok (.iload_n 1, 1) := by decide +kernel
theorem dX3_assumed_2 : decode cX3_assumed 2 = .ok (.invokevirtual 60, 3) := by decide +kernel
theorem dX3_assumed_5 : decode cX3_assumed 5 = .ok (.aload_n 0, 1) := by decide +kernel
theorem dX3_assumed_6 : decode cX3_assumed 6 = .ok (.getfield 10, 3) := by decide +kernel
theorem dX3_assumed_9 : decode cX3_assumed 9 = .ok (.getfield 28, 3) := by decide +kernel
theorem dX3_assumed_12 : decode cX3_assumed 12 = .ok (.iload_n 1, 1) := by decide +kernel
theorem dX3_assumed_13 : decode cX3_assumed 13 = .ok (.iconst 5, 1) := by decide +kernel
theorem dX3_assumed_14 : decode cX3_assumed 14 = .ok (.invokevirtual 64, 3) := by decide +kernel
theorem dX3_assumed_17 : decode cX3_assumed 17 = .ok (.ireturn, 1) := by decide +kernel
theorem dX3_distance_0 : decode cX3_distance 0 = .ok (.aload_n 0, 1) := by decide +kernel
theorem dX3_distance_1 : decode cX3_distance 1 = .ok (.iload_n 1, 1) := by decide +kernel
theorem dX3_distance_2 : decode cX3_distance 2 = .ok (.invokevirtual 60, 3) := by decide +kernel
theorem dX3_distance_5 : decode cX3_distance 5 = .ok (.aload_n 0, 1) := by decide +kernel
theorem dX3_distance_6 : decode cX3_distance 6 = .ok (.iload_n 2, 1) := by decide +kernel
theorem dX3_distance_7 : decode cX3_distance 7 = .ok (.invokevirtual 60, 3) := by decide +kernel
theorem dX3_distance_10 : decode cX3_distance 10 = .ok (.aload_n 0, 1) := by decide +kernel
theorem dX3_distance_11 : decode cX3_distance 11 = .ok (.getfield 10, 3) := by decide +kernel
theorem dX3_distance_14 : decode cX3_distance 14 = .ok (.iload_n 1, 1) := by decide +kernel
theorem dX3_distance_15 : decode cX3_distance 15 = .ok (.iload_n 2, 1) := by decide +kernel
theorem dX3_distance_16 : decode cX3_distance 16 = .ok (.invokevirtual 71, 3) := by decide +kernel
theorem dX3_distance_19 : decode cX3_distance 19 = .ok (.ireturn, 1) := by decide +kernel
theorem dX3_counter_0 : decode cX3_counter 0 = .ok (.aload_n 0, 1) := by decide +kernel
theorem dX3_counter_1 : decode cX3_counter 1 = .ok (.iload_n 1, 1) := by decide +kernel
theorem dX3_counter_2 : decode cX3_counter 2 = .ok (.invokevirtual 60, 3) := by decide +kernel
theorem dX3_counter_5 : decode cX3_counter 5 = .ok (.iload_n 2, 1) := by decide +kernel
theorem dX3_counter_6 : decode cX3_counter 6 = .ok (.iconst 0, 1) := by decide +kernel
theorem dX3_counter_7 : decode cX3_counter 7 = .ok (.ldc 74, 2) := by decide +kernel
theorem dX3_counter_9 : decode cX3_counter 9 = .ok (.invokestatic 23, 3) := by decide +kernel
theorem dX3_counter_12 : decode cX3_counter 12 = .ok (.aload_n 0, 1) := by decide +kernel
theorem dX3_counter_13 : decode cX3_counter 13 = .ok (.getfield 10, 3) := by decide +kernel
theorem dX3_counter_16 : decode cX3_counter 16 = .ok (.iload_n 1, 1) := by decide +kernel
theorem dX3_counter_17 : decode cX3_counter 17 = .ok (.iload_n 2, 1) := by decide +kernel
theorem dX3_counter_18 : decode cX3_counter 18 = .ok (.i2l, 1) := by decide +kernel
theorem dX3_counter_19 : decode cX3_counter 19 = .ok (.invokevirtual 75, 3) := by decide +kernel
theorem dX3_counter_22 : decode cX3_counter 22 = .ok (.ireturn, 1) := by decide +kernel
theorem dX3_exchange_0 : decode cX3_exchange 0 = .ok (.aload_n 0, 1) := by decide +kernel
theorem dX3_exchange_1 : decode cX3_exchange 1 = .ok (.iload_n 1, 1) := by decide +kernel
theorem dX3_exchange_2 : decode cX3_exchange 2 = .ok (.invokevirtual 60, 3) := by decide +kernel
theorem dX3_exchange_5 : decode cX3_exchange 5 = .ok (.aload_n 0, 1) := by decide +kernel
theorem dX3_exchange_6 : decode cX3_exchange 6 = .ok (.iload_n 2, 1) := by decide +kernel
theorem dX3_exchange_7 : decode cX3_exchange 7 = .ok (.invokevirtual 60, 3) := by decide +kernel
theorem dX3_exchange_10 : decode cX3_exchange 10 = .ok (.iload_n 1, 1) := by decide +kernel
theorem dX3_exchange_11 : decode cX3_exchange 11 = .ok (.iload_n 2, 1) := by decide +kernel
theorem dX3_exchange_12 : decode cX3_exchange 12 = .ok (.invokestatic 79, 3) := by decide +kernel
theorem dX3_exchange_15 : decode cX3_exchange 15 = .ok (.iload_n 3, 1) := by decide +kernel
theorem dX3_exchange_16 : decode cX3_exchange 16 = .ok (.iconst 0, 1) := by decide +kernel
theorem dX3_exchange_17 : decode cX3_exchange 17 = .ok (.ldc 83, 2) := by decide +kernel
theorem dX3_exchange_19 : decode cX3_exchange 19 = .ok (.invokestatic 23, 3) := by decide +kernel
theorem dX3_exchange_22 : decode cX3_exchange 22 = .ok (.iload 4, 2) := by decide +kernel
theorem dX3_exchange_24 : decode cX3_exchange 24 = .ok (.iconst 0, 1) := by decide +kernel
theorem dX3_exchange_25 : decode cX3_exchange 25 = .ok (.ldc 83, 2) := by decide +kernel
theorem dX3_exchange_27 : decode cX3_exchange 27 = .ok (.invokestatic 23, 3) := by decide +kernel
theorem dX3_exchange_30 : decode cX3_exchange 30 = .ok (.aload_n 0, 1) := by decide +kernel
theorem dX3_exchange_31 : decode cX3_exchange 31 = .ok (.getfield 10, 3) := by decide +kernel
theorem dX3_exchange_34 : decode cX3_exchange 34 = .ok (.getfield 84, 3) := by decide +kernel
theorem dX3_exchange_37 : decode cX3_exchange 37 = .ok (.invokevirtual 32, 3) := by decide +kernel
theorem dX3_exchange_40 : decode cX3_exchange 40 = .ok (.ifCond .eq 13, 3) := by decide +kernel
theorem dX3_exchange_43 : decode cX3_exchange 43 = .ok (.new 38, 3) := by decide +kernel
theorem dX3_exchange_46 : decode cX3_exchange 46 = .ok (.dup, 1) := by decide +kernel
theorem dX3_exchange_47 : decode cX3_exchange 47 = .ok (.ldc 87, 2) := by decide +kernel
theorem dX3_exchange_49 : decode cX3_exchange 49 = .ok (.invokespecial 42, 3) := by decide +kernel
theorem dX3_exchange_52 : decode cX3_exchange 52 = .ok (.athrow, 1) := by decide +kernel
theorem dX3_exchange_53 : decode cX3_exchange 53 = .ok (.aload_n 0, 1) := by decide +kernel
theorem dX3_exchange_54 : decode cX3_exchange 54 = .ok (.getfield 19, 3) := by decide +kernel
theorem dX3_exchange_57 : decode cX3_exchange 57 = .ok (.aload_n 0, 1) := by decide +kernel
theorem dX3_exchange_58 : decode cX3_exchange 58 = .ok (.getfield 10, 3) := by decide +kernel
theorem dX3_exchange_61 : decode cX3_exchange 61 = .ok (.invokevirtual 45, 3) := by decide +kernel
theorem dX3_exchange_64 : decode cX3_exchange 64 = .ok (.aload_n 0, 1) := by decide +kernel
theorem dX3_exchange_65 : decode cX3_exchange 65 = .ok (.getfield 10, 3) := by decide +kernel
theorem dX3_exchange_68 : decode cX3_exchange 68 = .ok (.iload_n 1, 1) := by decide +kernel
theorem dX3_exchange_69 : decode cX3_exchange 69 = .ok (.iload_n 2, 1) := by decide +kernel
theorem dX3_exchange_70 : decode cX3_exchange 70 = .ok (.iload_n 3, 1) := by decide +kernel
theorem dX3_exchange_71 : decode cX3_exchange 71 = .ok (.iload 4, 2) := by decide +kernel
theorem dX3_exchange_73 : decode cX3_exchange 73 = .ok (.invokevirtual 89, 3) := by decide +kernel
theorem dX3_exchange_76 : decode cX3_exchange 76 = .ok (.ireturn, 1) := by decide +kernel
theorem dX3_plan_0 : decode cX3_plan 0 = .ok (.aload_n 0, 1) := by decide +kernel
theorem dX3_plan_1 : decode cX3_plan 1 = .ok (.iload_n 2, 1) := by decide +kernel
theorem dX3_plan_2 : decode cX3_plan 2 = .ok (.invokevirtual 60, 3) := by decide +kernel
theorem dX3_plan_5 : decode cX3_plan 5 = .ok (.aload_n 0, 1) := by decide +kernel
theorem dX3_plan_6 : decode cX3_plan 6 = .ok (.iload_n 3, 1) := by decide +kernel
theorem dX3_plan_7 : decode cX3_plan 7 = .ok (.invokevirtual 60, 3) := by decide +kernel
theorem dX3_plan_10 : decode cX3_plan 10 = .ok (.iload_n 2, 1) := by decide +kernel
theorem dX3_plan_11 : decode cX3_plan 11 = .ok (.iload_n 3, 1) := by decide +kernel
theorem dX3_plan_12 : decode cX3_plan 12 = .ok (.invokestatic 79, 3) := by decide +kernel
theorem dX3_plan_15 : decode cX3_plan 15 = .ok (.iload_n 1, 1) := by decide +kernel
theorem dX3_plan_16 : decode cX3_plan 16 = .ok (.iconst 0, 1) := by decide +kernel
theorem dX3_plan_17 : decode cX3_plan 17 = .ok (.ldc 93, 2) := by decide +kernel
theorem dX3_plan_19 : decode cX3_plan 19 = .ok (.invokestatic 23, 3) := by decide +kernel
theorem dX3_plan_22 : decode cX3_plan 22 = .ok (.iload 4, 2) := by decide +kernel
theorem dX3_plan_24 : decode cX3_plan 24 = .ok (.iconst 0, 1) := by decide +kernel
theorem dX3_plan_25 : decode cX3_plan 25 = .ok (.ldc 83, 2) := by decide +kernel
theorem dX3_plan_27 : decode cX3_plan 27 = .ok (.invokestatic 23, 3) := by decide +kernel
theorem dX3_plan_30 : decode cX3_plan 30 = .ok (.iload 5, 2) := by decide +kernel
theorem dX3_plan_32 : decode cX3_plan 32 = .ok (.iconst 0, 1) := by decide +kernel
theorem dX3_plan_33 : decode cX3_plan 33 = .ok (.ldc 83, 2) := by decide +kernel
theorem dX3_plan_35 : decode cX3_plan 35 = .ok (.invokestatic 23, 3) := by decide +kernel
theorem dX3_plan_38 : decode cX3_plan 38 = .ok (.aload_n 0, 1) := by decide +kernel
theorem dX3_plan_39 : decode cX3_plan 39 = .ok (.getfield 10, 3) := by decide +kernel
theorem dX3_plan_42 : decode cX3_plan 42 = .ok (.getfield 94, 3) := by decide +kernel
theorem dX3_plan_45 : decode cX3_plan 45 = .ok (.invokevirtual 32, 3) := by decide +kernel
theorem dX3_plan_48 : decode cX3_plan 48 = .ok (.ifCond .eq 13, 3) := by decide +kernel
theorem dX3_plan_51 : decode cX3_plan 51 = .ok (.new 38, 3) := by decide +kernel
theorem dX3_plan_54 : decode cX3_plan 54 = .ok (.dup, 1) := by decide +kernel
theorem dX3_plan_55 : decode cX3_plan 55 = .ok (.ldc 97, 2) := by decide +kernel
theorem dX3_plan_57 : decode cX3_plan 57 = .ok (.invokespecial 42, 3) := by decide +kernel
theorem dX3_plan_60 : decode cX3_plan 60 = .ok (.athrow, 1) := by decide +kernel
theorem dX3_plan_61 : decode cX3_plan 61 = .ok (.aload_n 0, 1) := by decide +kernel
theorem dX3_plan_62 : decode cX3_plan 62 = .ok (.getfield 19, 3) := by decide +kernel
theorem dX3_plan_65 : decode cX3_plan 65 = .ok (.aload_n 0, 1) := by decide +kernel
theorem dX3_plan_66 : decode cX3_plan 66 = .ok (.getfield 10, 3) := by decide +kernel
theorem dX3_plan_69 : decode cX3_plan 69 = .ok (.invokevirtual 45, 3) := by decide +kernel
theorem dX3_plan_72 : decode cX3_plan 72 = .ok (.aload_n 0, 1) := by decide +kernel
theorem dX3_plan_73 : decode cX3_plan 73 = .ok (.getfield 10, 3) := by decide +kernel
theorem dX3_plan_76 : decode cX3_plan 76 = .ok (.getfield 94, 3) := by decide +kernel
theorem dX3_plan_79 : decode cX3_plan 79 = .ok (.aload_n 0, 1) := by decide +kernel
theorem dX3_plan_80 : decode cX3_plan 80 = .ok (.getfield 10, 3) := by decide +kernel
theorem dX3_plan_83 : decode cX3_plan 83 = .ok (.iload_n 1, 1) := by decide +kernel
theorem dX3_plan_84 : decode cX3_plan 84 = .ok (.invokevirtual 99, 3) := by decide +kernel
theorem dX3_plan_87 : decode cX3_plan 87 = .ok (.invokevirtual 53, 3) := by decide +kernel
theorem dX3_plan_90 : decode cX3_plan 90 = .ok (.istore 6, 2) := by decide +kernel
theorem dX3_plan_92 : decode cX3_plan 92 = .ok (.aload_n 0, 1) := by decide +kernel
theorem dX3_plan_93 : decode cX3_plan 93 = .ok (.getfield 10, 3) := by decide +kernel
theorem dX3_plan_96 : decode cX3_plan 96 = .ok (.getfield 94, 3) := by decide +kernel
theorem dX3_plan_99 : decode cX3_plan 99 = .ok (.iload 6, 2) := by decide +kernel
theorem dX3_plan_101 : decode cX3_plan 101 = .ok (.iconst 0, 1) := by decide +kernel
theorem dX3_plan_102 : decode cX3_plan 102 = .ok (.iload_n 1, 1) := by decide +kernel
theorem dX3_plan_103 : decode cX3_plan 103 = .ok (.invokevirtual 57, 3) := by decide +kernel
theorem dX3_plan_106 : decode cX3_plan 106 = .ok (.aload_n 0, 1) := by decide +kernel
theorem dX3_plan_107 : decode cX3_plan 107 = .ok (.getfield 10, 3) := by decide +kernel
theorem dX3_plan_110 : decode cX3_plan 110 = .ok (.getfield 94, 3) := by decide +kernel
theorem dX3_plan_113 : decode cX3_plan 113 = .ok (.iload 6, 2) := by decide +kernel
theorem dX3_plan_115 : decode cX3_plan 115 = .ok (.iconst 1, 1) := by decide +kernel
theorem dX3_plan_116 : decode cX3_plan 116 = .ok (.iload_n 2, 1) := by decide +kernel
theorem dX3_plan_117 : decode cX3_plan 117 = .ok (.invokevirtual 57, 3) := by decide +kernel
theorem dX3_plan_120 : decode cX3_plan 120 = .ok (.aload_n 0, 1) := by decide +kernel
theorem dX3_plan_121 : decode cX3_plan 121 = .ok (.getfield 10, 3) := by decide +kernel
theorem dX3_plan_124 : decode cX3_plan 124 = .ok (.getfield 94, 3) := by decide +kernel
theorem dX3_plan_127 : decode cX3_plan 127 = .ok (.iload 6, 2) := by decide +kernel
theorem dX3_plan_129 : decode cX3_plan 129 = .ok (.iconst 2, 1) := by decide +kernel
theorem dX3_plan_130 : decode cX3_plan 130 = .ok (.iload_n 3, 1) := by decide +kernel
theorem dX3_plan_131 : decode cX3_plan 131 = .ok (.invokevirtual 57, 3) := by decide +kernel
theorem dX3_plan_134 : decode cX3_plan 134 = .ok (.aload_n 0, 1) := by decide +kernel
theorem dX3_plan_135 : decode cX3_plan 135 = .ok (.getfield 10, 3) := by decide +kernel
theorem dX3_plan_138 : decode cX3_plan 138 = .ok (.getfield 94, 3) := by decide +kernel
theorem dX3_plan_141 : decode cX3_plan 141 = .ok (.iload 6, 2) := by decide +kernel
theorem dX3_plan_143 : decode cX3_plan 143 = .ok (.iconst 3, 1) := by decide +kernel
theorem dX3_plan_144 : decode cX3_plan 144 = .ok (.iload 4, 2) := by decide +kernel
theorem dX3_plan_146 : decode cX3_plan 146 = .ok (.invokevirtual 57, 3) := by decide +kernel
theorem dX3_plan_149 : decode cX3_plan 149 = .ok (.aload_n 0, 1) := by decide +kernel
theorem dX3_plan_150 : decode cX3_plan 150 = .ok (.getfield 10, 3) := by decide +kernel
theorem dX3_plan_153 : decode cX3_plan 153 = .ok (.getfield 94, 3) := by decide +kernel
theorem dX3_plan_156 : decode cX3_plan 156 = .ok (.iload 6, 2) := by decide +kernel
theorem dX3_plan_158 : decode cX3_plan 158 = .ok (.iconst 4, 1) := by decide +kernel
theorem dX3_plan_159 : decode cX3_plan 159 = .ok (.iload 5, 2) := by decide +kernel
theorem dX3_plan_161 : decode cX3_plan 161 = .ok (.invokevirtual 57, 3) := by decide +kernel
theorem dX3_plan_164 : decode cX3_plan 164 = .ok (.aload_n 0, 1) := by decide +kernel
theorem dX3_plan_165 : decode cX3_plan 165 = .ok (.getfield 10, 3) := by decide +kernel
theorem dX3_plan_168 : decode cX3_plan 168 = .ok (.getfield 94, 3) := by decide +kernel
theorem dX3_plan_171 : decode cX3_plan 171 = .ok (.getfield 49, 3) := by decide +kernel
theorem dX3_plan_174 : decode cX3_plan 174 = .ok (.ireturn, 1) := by decide +kernel
theorem dX3_nextPlanned_0 : decode cX3_nextPlanned 0 = .ok (.aload_n 0, 1) := by decide +kernel
theorem dX3_nextPlanned_1 : decode cX3_nextPlanned 1 = .ok (.getfield 10, 3) := by decide +kernel
theorem dX3_nextPlanned_4 : decode cX3_nextPlanned 4 = .ok (.getfield 94, 3) := by decide +kernel
theorem dX3_nextPlanned_7 : decode cX3_nextPlanned 7 = .ok (.getfield 49, 3) := by decide +kernel
theorem dX3_nextPlanned_10 : decode cX3_nextPlanned 10 = .ok (.ifCond .ne 7, 3) := by decide +kernel
theorem dX3_nextPlanned_13 : decode cX3_nextPlanned 13 = .ok (.iconst (-1), 1) := by decide +kernel
theorem dX3_nextPlanned_14 : decode cX3_nextPlanned 14 = .ok (.goto 15, 3) := by decide +kernel
theorem dX3_nextPlanned_17 : decode cX3_nextPlanned 17 = .ok (.aload_n 0, 1) := by decide +kernel
theorem dX3_nextPlanned_18 : decode cX3_nextPlanned 18 = .ok (.getfield 10, 3) := by decide +kernel
theorem dX3_nextPlanned_21 : decode cX3_nextPlanned 21 = .ok (.getfield 94, 3) := by decide +kernel
theorem dX3_nextPlanned_24 : decode cX3_nextPlanned 24 = .ok (.iconst 0, 1) := by decide +kernel
theorem dX3_nextPlanned_25 : decode cX3_nextPlanned 25 = .ok (.iconst 0, 1) := by decide +kernel
theorem dX3_nextPlanned_26 : decode cX3_nextPlanned 26 = .ok (.invokevirtual 64, 3) := by decide +kernel
theorem dX3_nextPlanned_29 : decode cX3_nextPlanned 29 = .ok (.ireturn, 1) := by decide +kernel
theorem dX3_run_0 : decode cX3_run 0 = .ok (.iload_n 1, 1) := by decide +kernel
theorem dX3_run_1 : decode cX3_run 1 = .ok (.iconst 0, 1) := by decide +kernel
theorem dX3_run_2 : decode cX3_run 2 = .ok (.ldc 93, 2) := by decide +kernel
theorem dX3_run_4 : decode cX3_run 4 = .ok (.invokestatic 23, 3) := by decide +kernel
theorem dX3_run_7 : decode cX3_run 7 = .ok (.aload_n 0, 1) := by decide +kernel
theorem dX3_run_8 : decode cX3_run 8 = .ok (.getfield 19, 3) := by decide +kernel
theorem dX3_run_11 : decode cX3_run 11 = .ok (.aload_n 0, 1) := by decide +kernel
theorem dX3_run_12 : decode cX3_run 12 = .ok (.getfield 10, 3) := by decide +kernel
theorem dX3_run_15 : decode cX3_run 15 = .ok (.invokevirtual 45, 3) := by decide +kernel
theorem dX3_run_18 : decode cX3_run 18 = .ok (.aload_n 0, 1) := by decide +kernel
theorem dX3_run_19 : decode cX3_run 19 = .ok (.getfield 10, 3) := by decide +kernel
theorem dX3_run_22 : decode cX3_run 22 = .ok (.iload_n 1, 1) := by decide +kernel
theorem dX3_run_23 : decode cX3_run 23 = .ok (.invokevirtual 102, 3) := by decide +kernel
theorem dX3_run_26 : decode cX3_run 26 = .ok (.ireturn, 1) := by decide +kernel
theorem dX3_now_0 : decode cX3_now 0 = .ok (.aload_n 0, 1) := by decide +kernel
theorem dX3_now_1 : decode cX3_now 1 = .ok (.getfield 10, 3) := by decide +kernel
theorem dX3_now_4 : decode cX3_now 4 = .ok (.getfield 105, 3) := by decide +kernel
theorem dX3_now_7 : decode cX3_now 7 = .ok (.lreturn, 1) := by decide +kernel
theorem dX3_exchanges_0 : decode cX3_exchanges 0 = .ok (.aload_n 0, 1) := by decide +kernel
theorem dX3_exchanges_1 : decode cX3_exchanges 1 = .ok (.getfield 10, 3) := by decide +kernel
theorem dX3_exchanges_4 : decode cX3_exchanges 4 = .ok (.getfield 84, 3) := by decide +kernel
theorem dX3_exchanges_7 : decode cX3_exchanges 7 = .ok (.getfield 49, 3) := by decide +kernel
theorem dX3_exchanges_10 : decode cX3_exchanges 10 = .ok (.ireturn, 1) := by decide +kernel
theorem dX3_stamp_0 : decode cX3_stamp 0 = .ok (.aload_n 0, 1) := by decide +kernel
theorem dX3_stamp_1 : decode cX3_stamp 1 = .ok (.iload_n 1, 1) := by decide +kernel
theorem dX3_stamp_2 : decode cX3_stamp 2 = .ok (.invokevirtual 109, 3) := by decide +kernel
theorem dX3_stamp_5 : decode cX3_stamp 5 = .ok (.iload_n 2, 1) := by decide +kernel
theorem dX3_stamp_6 : decode cX3_stamp 6 = .ok (.iconst 1, 1) := by decide +kernel
theorem dX3_stamp_7 : decode cX3_stamp 7 = .ok (.bipush 6, 2) := by decide +kernel
theorem dX3_stamp_9 : decode cX3_stamp 9 = .ok (.invokestatic 23, 3) := by decide +kernel
theorem dX3_stamp_12 : decode cX3_stamp 12 = .ok (.aload_n 0, 1) := by decide +kernel
theorem dX3_stamp_13 : decode cX3_stamp 13 = .ok (.getfield 10, 3) := by decide +kernel
theorem dX3_stamp_16 : decode cX3_stamp 16 = .ok (.getfield 84, 3) := by decide +kernel
theorem dX3_stamp_19 : decode cX3_stamp 19 = .ok (.iload_n 1, 1) := by decide +kernel
theorem dX3_stamp_20 : decode cX3_stamp 20 = .ok (.iconst 2, 1) := by decide +kernel
theorem dX3_stamp_21 : decode cX3_stamp 21 = .ok (.iload_n 2, 1) := by decide +kernel
theorem dX3_stamp_22 : decode cX3_stamp 22 = .ok (.iadd, 1) := by decide +kernel
theorem dX3_stamp_23 : decode cX3_stamp 23 = .ok (.iconst 1, 1) := by decide +kernel
theorem dX3_stamp_24 : decode cX3_stamp 24 = .ok (.isub, 1) := by decide +kernel
theorem dX3_stamp_25 : decode cX3_stamp 25 = .ok (.invokevirtual 64, 3) := by decide +kernel
theorem dX3_stamp_28 : decode cX3_stamp 28 = .ok (.ireturn, 1) := by decide +kernel
theorem dX3_party_0 : decode cX3_party 0 = .ok (.aload_n 0, 1) := by decide +kernel
theorem dX3_party_1 : decode cX3_party 1 = .ok (.iload_n 1, 1) := by decide +kernel
theorem dX3_party_2 : decode cX3_party 2 = .ok (.invokevirtual 109, 3) := by decide +kernel
theorem dX3_party_5 : decode cX3_party 5 = .ok (.iload_n 2, 1) := by decide +kernel
theorem dX3_party_6 : decode cX3_party 6 = .ok (.iconst 0, 1) := by decide +kernel
theorem dX3_party_7 : decode cX3_party 7 = .ok (.iconst 1, 1) := by decide +kernel
theorem dX3_party_8 : decode cX3_party 8 = .ok (.invokestatic 23, 3) := by decide +kernel
theorem dX3_party_11 : decode cX3_party 11 = .ok (.aload_n 0, 1) := by decide +kernel
theorem dX3_party_12 : decode cX3_party 12 = .ok (.getfield 10, 3) := by decide +kernel
theorem dX3_party_15 : decode cX3_party 15 = .ok (.getfield 84, 3) := by decide +kernel
theorem dX3_party_18 : decode cX3_party 18 = .ok (.iload_n 1, 1) := by decide +kernel
theorem dX3_party_19 : decode cX3_party 19 = .ok (.iload_n 2, 1) := by decide +kernel
theorem dX3_party_20 : decode cX3_party 20 = .ok (.ifCond .ne 7, 3) := by decide +kernel
theorem dX3_party_23 : decode cX3_party 23 = .ok (.iconst 0, 1) := by decide +kernel
theorem dX3_party_24 : decode cX3_party 24 = .ok (.goto 4, 3) := by decide +kernel
theorem dX3_party_27 : decode cX3_party 27 = .ok (.iconst 1, 1) := by decide +kernel
theorem dX3_party_28 : decode cX3_party 28 = .ok (.invokevirtual 64, 3) := by decide +kernel
theorem dX3_party_31 : decode cX3_party 31 = .ok (.ireturn, 1) := by decide +kernel
theorem dX3_range_0 : decode cX3_range 0 = .ok (.aload_n 0, 1) := by decide +kernel
theorem dX3_range_1 : decode cX3_range 1 = .ok (.iload_n 1, 1) := by decide +kernel
theorem dX3_range_2 : decode cX3_range 2 = .ok (.invokevirtual 109, 3) := by decide +kernel
theorem dX3_range_5 : decode cX3_range 5 = .ok (.iload_n 2, 1) := by decide +kernel
theorem dX3_range_6 : decode cX3_range 6 = .ok (.invokestatic 112, 3) := by decide +kernel
theorem dX3_range_9 : decode cX3_range 9 = .ok (.aload_n 0, 1) := by decide +kernel
theorem dX3_range_10 : decode cX3_range 10 = .ok (.getfield 10, 3) := by decide +kernel
theorem dX3_range_13 : decode cX3_range 13 = .ok (.iload_n 1, 1) := by decide +kernel
theorem dX3_range_14 : decode cX3_range 14 = .ok (.iload_n 2, 1) := by decide +kernel
theorem dX3_range_15 : decode cX3_range 15 = .ok (.invokevirtual 115, 3) := by decide +kernel
theorem dX3_range_18 : decode cX3_range 18 = .ok (.ireturn, 1) := by decide +kernel
theorem dX3_latestRange_0 : decode cX3_latestRange 0 = .ok (.aload_n 0, 1) := by decide +kernel
theorem dX3_latestRange_1 : decode cX3_latestRange 1 = .ok (.iload_n 1, 1) := by decide +kernel
theorem dX3_latestRange_2 : decode cX3_latestRange 2 = .ok (.invokevirtual 60, 3) := by decide +kernel
theorem dX3_latestRange_5 : decode cX3_latestRange 5 = .ok (.aload_n 0, 1) := by decide +kernel
theorem dX3_latestRange_6 : decode cX3_latestRange 6 = .ok (.iload_n 2, 1) := by decide +kernel
theorem dX3_latestRange_7 : decode cX3_latestRange 7 = .ok (.invokevirtual 60, 3) := by decide +kernel
theorem dX3_latestRange_10 : decode cX3_latestRange 10 = .ok (.iload_n 3, 1) := by decide +kernel
theorem dX3_latestRange_11 : decode cX3_latestRange 11 = .ok (.invokestatic 112, 3) := by decide +kernel
theorem dX3_latestRange_14 : decode cX3_latestRange 14 = .ok (.aload_n 0, 1) := by decide +kernel
theorem dX3_latestRange_15 : decode cX3_latestRange 15 = .ok (.getfield 10, 3) := by decide +kernel
theorem dX3_latestRange_18 : decode cX3_latestRange 18 = .ok (.aload_n 0, 1) := by decide +kernel
theorem dX3_latestRange_19 : decode cX3_latestRange 19 = .ok (.iload_n 1, 1) := by decide +kernel
theorem dX3_latestRange_20 : decode cX3_latestRange 20 = .ok (.iload_n 2, 1) := by decide +kernel
theorem dX3_latestRange_21 : decode cX3_latestRange 21 = .ok (.invokevirtual 118, 3) := by decide +kernel
theorem dX3_latestRange_24 : decode cX3_latestRange 24 = .ok (.iload_n 3, 1) := by decide +kernel
theorem dX3_latestRange_25 : decode cX3_latestRange 25 = .ok (.invokevirtual 115, 3) := by decide +kernel
theorem dX3_latestRange_28 : decode cX3_latestRange 28 = .ok (.ireturn, 1) := by decide +kernel
theorem dX3_worstError_0 : decode cX3_worstError 0 = .ok (.iload_n 1, 1) := by decide +kernel
theorem dX3_worstError_1 : decode cX3_worstError 1 = .ok (.invokestatic 112, 3) := by decide +kernel
theorem dX3_worstError_4 : decode cX3_worstError 4 = .ok (.iconst (-1), 1) := by decide +kernel
theorem dX3_worstError_5 : decode cX3_worstError 5 = .ok (.istore_n 2, 1) := by decide +kernel
theorem dX3_worstError_6 : decode cX3_worstError 6 = .ok (.iconst 0, 1) := by decide +kernel
theorem dX3_worstError_7 : decode cX3_worstError 7 = .ok (.istore_n 3, 1) := by decide +kernel
theorem dX3_worstError_8 : decode cX3_worstError 8 = .ok (.iload_n 3, 1) := by decide +kernel
theorem dX3_worstError_9 : decode cX3_worstError 9 = .ok (.aload_n 0, 1) := by decide +kernel
theorem dX3_worstError_10 : decode cX3_worstError 10 = .ok (.getfield 10, 3) := by decide +kernel
theorem dX3_worstError_13 : decode cX3_worstError 13 = .ok (.getfield 84, 3) := by decide +kernel
theorem dX3_worstError_16 : decode cX3_worstError 16 = .ok (.getfield 49, 3) := by decide +kernel
theorem dX3_worstError_19 : decode cX3_worstError 19 = .ok (.if_icmp .ge 26, 3) := by decide +kernel
theorem dX3_worstError_22 : decode cX3_worstError 22 = .ok (.iload_n 2, 1) := by decide +kernel
theorem dX3_worstError_23 : decode cX3_worstError 23 = .ok (.aload_n 0, 1) := by decide +kernel
theorem dX3_worstError_24 : decode cX3_worstError 24 = .ok (.getfield 10, 3) := by decide +kernel
theorem dX3_worstError_27 : decode cX3_worstError 27 = .ok (.iload_n 3, 1) := by decide +kernel
theorem dX3_worstError_28 : decode cX3_worstError 28 = .ok (.iload_n 1, 1) := by decide +kernel
theorem dX3_worstError_29 : decode cX3_worstError 29 = .ok (.invokevirtual 121, 3) := by decide +kernel
theorem dX3_worstError_32 : decode cX3_worstError 32 = .ok (.invokestatic 124, 3) := by decide +kernel
theorem dX3_worstError_35 : decode cX3_worstError 35 = .ok (.invokestatic 129, 3) := by decide +kernel
theorem dX3_worstError_38 : decode cX3_worstError 38 = .ok (.istore_n 2, 1) := by decide +kernel
theorem dX3_worstError_39 : decode cX3_worstError 39 = .ok (.iinc 3 1, 3) := by decide +kernel
theorem dX3_worstError_42 : decode cX3_worstError 42 = .ok (.goto (-34), 3) := by decide +kernel
theorem dX3_worstError_45 : decode cX3_worstError 45 = .ok (.iload_n 2, 1) := by decide +kernel
theorem dX3_worstError_46 : decode cX3_worstError 46 = .ok (.ireturn, 1) := by decide +kernel
theorem dX3_meanError_0 : decode cX3_meanError 0 = .ok (.iload_n 1, 1) := by decide +kernel
theorem dX3_meanError_1 : decode cX3_meanError 1 = .ok (.invokestatic 112, 3) := by decide +kernel
theorem dX3_meanError_4 : decode cX3_meanError 4 = .ok (.aload_n 0, 1) := by decide +kernel
theorem dX3_meanError_5 : decode cX3_meanError 5 = .ok (.getfield 10, 3) := by decide +kernel
theorem dX3_meanError_8 : decode cX3_meanError 8 = .ok (.getfield 84, 3) := by decide +kernel
theorem dX3_meanError_11 : decode cX3_meanError 11 = .ok (.getfield 49, 3) := by decide +kernel
theorem dX3_meanError_14 : decode cX3_meanError 14 = .ok (.ifCond .ne 5, 3) := by decide +kernel
theorem dX3_meanError_17 : decode cX3_meanError 17 = .ok (.dconst 0, 1) := by decide +kernel
theorem dX3_meanError_18 : decode cX3_meanError 18 = .ok (.dreturn, 1) := by decide +kernel
theorem dX3_meanError_19 : decode cX3_meanError 19 = .ok (.lconst 0, 1) := by decide +kernel
theorem dX3_meanError_20 : decode cX3_meanError 20 = .ok (.lstore_n 2, 1) := by decide +kernel
theorem dX3_meanError_21 : decode cX3_meanError 21 = .ok (.iconst 0, 1) := by decide +kernel
theorem dX3_meanError_22 : decode cX3_meanError 22 = .ok (.istore 4, 2) := by decide +kernel
theorem dX3_meanError_24 : decode cX3_meanError 24 = .ok (.iload 4, 2) := by decide +kernel
theorem dX3_meanError_26 : decode cX3_meanError 26 = .ok (.aload_n 0, 1) := by decide +kernel
theorem dX3_meanError_27 : decode cX3_meanError 27 = .ok (.getfield 10, 3) := by decide +kernel
theorem dX3_meanError_30 : decode cX3_meanError 30 = .ok (.getfield 84, 3) := by decide +kernel
theorem dX3_meanError_33 : decode cX3_meanError 33 = .ok (.getfield 49, 3) := by decide +kernel
theorem dX3_meanError_36 : decode cX3_meanError 36 = .ok (.if_icmp .ge 23, 3) := by decide +kernel
theorem dX3_meanError_39 : decode cX3_meanError 39 = .ok (.lload_n 2, 1) := by decide +kernel
theorem dX3_meanError_40 : decode cX3_meanError 40 = .ok (.aload_n 0, 1) := by decide +kernel
theorem dX3_meanError_41 : decode cX3_meanError 41 = .ok (.getfield 10, 3) := by decide +kernel
theorem dX3_meanError_44 : decode cX3_meanError 44 = .ok (.iload 4, 2) := by decide +kernel
theorem dX3_meanError_46 : decode cX3_meanError 46 = .ok (.iload_n 1, 1) := by decide +kernel
theorem dX3_meanError_47 : decode cX3_meanError 47 = .ok (.invokevirtual 121, 3) := by decide +kernel
theorem dX3_meanError_50 : decode cX3_meanError 50 = .ok (.i2l, 1) := by decide +kernel
theorem dX3_meanError_51 : decode cX3_meanError 51 = .ok (.ladd, 1) := by decide +kernel
theorem dX3_meanError_52 : decode cX3_meanError 52 = .ok (.lstore_n 2, 1) := by decide +kernel
theorem dX3_meanError_53 : decode cX3_meanError 53 = .ok (.iinc 4 1, 3) := by decide +kernel
theorem dX3_meanError_56 : decode cX3_meanError 56 = .ok (.goto (-32), 3) := by decide +kernel
theorem dX3_meanError_59 : decode cX3_meanError 59 = .ok (.lload_n 2, 1) := by decide +kernel
theorem dX3_meanError_60 : decode cX3_meanError 60 = .ok (.l2d, 1) := by decide +kernel
theorem dX3_meanError_61 : decode cX3_meanError 61 = .ok (.aload_n 0, 1) := by decide +kernel
theorem dX3_meanError_62 : decode cX3_meanError 62 = .ok (.getfield 10, 3) := by decide +kernel
theorem dX3_meanError_65 : decode cX3_meanError 65 = .ok (.getfield 84, 3) := by decide +kernel
theorem dX3_meanError_68 : decode cX3_meanError 68 = .ok (.getfield 49, 3) := by decide +kernel
theorem dX3_meanError_71 : decode cX3_meanError 71 = .ok (.i2d, 1) := by decide +kernel
theorem dX3_meanError_72 : decode cX3_meanError 72 = .ok (.ddiv, 1) := by decide +kernel
theorem dX3_meanError_73 : decode cX3_meanError 73 = .ok (.dreturn, 1) := by decide +kernel
theorem dX3_relativeDrift_0 : decode cX3_relativeDrift 0 = .ok (.aload_n 0, 1) := by decide +kernel
theorem dX3_relativeDrift_1 : decode cX3_relativeDrift 1 = .ok (.iload_n 1, 1) := by decide +kernel
theorem dX3_relativeDrift_2 : decode cX3_relativeDrift 2 = .ok (.invokevirtual 109, 3) := by decide +kernel
theorem dX3_relativeDrift_5 : decode cX3_relativeDrift 5 = .ok (.aload_n 0, 1) := by decide +kernel
theorem dX3_relativeDrift_6 : decode cX3_relativeDrift 6 = .ok (.getfield 10, 3) := by decide +kernel
theorem dX3_relativeDrift_9 : decode cX3_relativeDrift 9 = .ok (.iload_n 1, 1) := by decide +kernel
theorem dX3_relativeDrift_10 : decode cX3_relativeDrift 10 = .ok (.iconst 2, 1) := by decide +kernel
theorem dX3_relativeDrift_11 : decode cX3_relativeDrift 11 = .ok (.iconst 5, 1) := by decide +kernel
theorem dX3_relativeDrift_12 : decode cX3_relativeDrift 12 = .ok (.invokevirtual 132, 3) := by decide +kernel
theorem dX3_relativeDrift_15 : decode cX3_relativeDrift 15 = .ok (.aload_n 0, 1) := by decide +kernel
theorem dX3_relativeDrift_16 : decode cX3_relativeDrift 16 = .ok (.getfield 10, 3) := by decide +kernel
theorem dX3_relativeDrift_19 : decode cX3_relativeDrift 19 = .ok (.iload_n 1, 1) := by decide +kernel
theorem dX3_relativeDrift_20 : decode cX3_relativeDrift 20 = .ok (.iconst 5, 1) := by decide +kernel
theorem dX3_relativeDrift_21 : decode cX3_relativeDrift 21 = .ok (.bipush 6, 2) := by decide +kernel
theorem dX3_relativeDrift_23 : decode cX3_relativeDrift 23 = .ok (.invokevirtual 132, 3) := by decide +kernel
theorem dX3_relativeDrift_26 : decode cX3_relativeDrift 26 = .ok (.iadd, 1) := by decide +kernel
theorem dX3_relativeDrift_27 : decode cX3_relativeDrift 27 = .ok (.istore_n 2, 1) := by decide +kernel
theorem dX3_relativeDrift_28 : decode cX3_relativeDrift 28 = .ok (.aload_n 0, 1) := by decide +kernel
theorem dX3_relativeDrift_29 : decode cX3_relativeDrift 29 = .ok (.getfield 10, 3) := by decide +kernel
theorem dX3_relativeDrift_32 : decode cX3_relativeDrift 32 = .ok (.iload_n 1, 1) := by decide +kernel
theorem dX3_relativeDrift_33 : decode cX3_relativeDrift 33 = .ok (.iconst 4, 1) := by decide +kernel
theorem dX3_relativeDrift_34 : decode cX3_relativeDrift 34 = .ok (.bipush 7, 2) := by decide +kernel
theorem dX3_relativeDrift_36 : decode cX3_relativeDrift 36 = .ok (.invokevirtual 132, 3) := by decide +kernel
theorem dX3_relativeDrift_39 : decode cX3_relativeDrift 39 = .ok (.aload_n 0, 1) := by decide +kernel
theorem dX3_relativeDrift_40 : decode cX3_relativeDrift 40 = .ok (.getfield 10, 3) := by decide +kernel
theorem dX3_relativeDrift_43 : decode cX3_relativeDrift 43 = .ok (.iload_n 1, 1) := by decide +kernel
theorem dX3_relativeDrift_44 : decode cX3_relativeDrift 44 = .ok (.iconst 3, 1) := by decide +kernel
theorem dX3_relativeDrift_45 : decode cX3_relativeDrift 45 = .ok (.iconst 4, 1) := by decide +kernel
theorem dX3_relativeDrift_46 : decode cX3_relativeDrift 46 = .ok (.invokevirtual 132, 3) := by decide +kernel
theorem dX3_relativeDrift_49 : decode cX3_relativeDrift 49 = .ok (.iadd, 1) := by decide +kernel
theorem dX3_relativeDrift_50 : decode cX3_relativeDrift 50 = .ok (.istore_n 3, 1) := by decide +kernel
theorem dX3_relativeDrift_51 : decode cX3_relativeDrift 51 = .ok (.iload_n 3, 1) := by decide +kernel
theorem dX3_relativeDrift_52 : decode cX3_relativeDrift 52 = .ok (.ifCond .ne 13, 3) := by decide +kernel
theorem dX3_relativeDrift_55 : decode cX3_relativeDrift 55 = .ok (.new 136, 3) := by decide +kernel
theorem dX3_relativeDrift_58 : decode cX3_relativeDrift 58 = .ok (.dup, 1) := by decide +kernel
theorem dX3_relativeDrift_59 : decode cX3_relativeDrift 59 = .ok (.ldc 138, 2) := by decide +kernel
theorem dX3_relativeDrift_61 : decode cX3_relativeDrift 61 = .ok (.invokespecial 140, 3) := by decide +kernel
theorem dX3_relativeDrift_64 : decode cX3_relativeDrift 64 = .ok (.athrow, 1) := by decide +kernel
theorem dX3_relativeDrift_65 : decode cX3_relativeDrift 65 = .ok (.iload_n 2, 1) := by decide +kernel
theorem dX3_relativeDrift_66 : decode cX3_relativeDrift 66 = .ok (.i2d, 1) := by decide +kernel
theorem dX3_relativeDrift_67 : decode cX3_relativeDrift 67 = .ok (.iload_n 3, 1) := by decide +kernel
theorem dX3_relativeDrift_68 : decode cX3_relativeDrift 68 = .ok (.i2d, 1) := by decide +kernel
theorem dX3_relativeDrift_69 : decode cX3_relativeDrift 69 = .ok (.ddiv, 1) := by decide +kernel
theorem dX3_relativeDrift_70 : decode cX3_relativeDrift 70 = .ok (.dconst 1, 1) := by decide +kernel
theorem dX3_relativeDrift_71 : decode cX3_relativeDrift 71 = .ok (.dsub, 1) := by decide +kernel
theorem dX3_relativeDrift_72 : decode cX3_relativeDrift 72 = .ok (.ldc2_w 141, 3) := by decide +kernel
theorem dX3_relativeDrift_75 : decode cX3_relativeDrift 75 = .ok (.dmul, 1) := by decide +kernel
theorem dX3_relativeDrift_76 : decode cX3_relativeDrift 76 = .ok (.dreturn, 1) := by decide +kernel
theorem dX3_calibrate_0 : decode cX3_calibrate 0 = .ok (.aload_n 0, 1) := by decide +kernel
theorem dX3_calibrate_1 : decode cX3_calibrate 1 = .ok (.iload_n 1, 1) := by decide +kernel
theorem dX3_calibrate_2 : decode cX3_calibrate 2 = .ok (.invokevirtual 60, 3) := by decide +kernel
theorem dX3_calibrate_5 : decode cX3_calibrate 5 = .ok (.aload_n 0, 1) := by decide +kernel
theorem dX3_calibrate_6 : decode cX3_calibrate 6 = .ok (.iload_n 2, 1) := by decide +kernel
theorem dX3_calibrate_7 : decode cX3_calibrate 7 = .ok (.invokevirtual 60, 3) := by decide +kernel
theorem dX3_calibrate_10 : decode cX3_calibrate 10 = .ok (.aload_n 0, 1) := by decide +kernel
theorem dX3_calibrate_11 : decode cX3_calibrate 11 = .ok (.iload_n 3, 1) := by decide +kernel
theorem dX3_calibrate_12 : decode cX3_calibrate 12 = .ok (.invokevirtual 60, 3) := by decide +kernel
theorem dX3_calibrate_15 : decode cX3_calibrate 15 = .ok (.iload_n 1, 1) := by decide +kernel
theorem dX3_calibrate_16 : decode cX3_calibrate 16 = .ok (.iload_n 2, 1) := by decide +kernel
theorem dX3_calibrate_17 : decode cX3_calibrate 17 = .ok (.invokestatic 79, 3) := by decide +kernel
theorem dX3_calibrate_20 : decode cX3_calibrate 20 = .ok (.iload_n 1, 1) := by decide +kernel
theorem dX3_calibrate_21 : decode cX3_calibrate 21 = .ok (.iload_n 3, 1) := by decide +kernel
theorem dX3_calibrate_22 : decode cX3_calibrate 22 = .ok (.invokestatic 79, 3) := by decide +kernel
theorem dX3_calibrate_25 : decode cX3_calibrate 25 = .ok (.iload_n 2, 1) := by decide +kernel
theorem dX3_calibrate_26 : decode cX3_calibrate 26 = .ok (.iload_n 3, 1) := by decide +kernel
theorem dX3_calibrate_27 : decode cX3_calibrate 27 = .ok (.invokestatic 79, 3) := by decide +kernel
theorem dX3_calibrate_30 : decode cX3_calibrate 30 = .ok (.aload_n 0, 1) := by decide +kernel
theorem dX3_calibrate_31 : decode cX3_calibrate 31 = .ok (.getfield 10, 3) := by decide +kernel
theorem dX3_calibrate_34 : decode cX3_calibrate 34 = .ok (.aload_n 0, 1) := by decide +kernel
theorem dX3_calibrate_35 : decode cX3_calibrate 35 = .ok (.iload_n 1, 1) := by decide +kernel
theorem dX3_calibrate_36 : decode cX3_calibrate 36 = .ok (.iload_n 2, 1) := by decide +kernel
theorem dX3_calibrate_37 : decode cX3_calibrate 37 = .ok (.invokevirtual 118, 3) := by decide +kernel
theorem dX3_calibrate_40 : decode cX3_calibrate 40 = .ok (.invokevirtual 143, 3) := by decide +kernel
theorem dX3_calibrate_43 : decode cX3_calibrate 43 = .ok (.istore 4, 2) := by decide +kernel
theorem dX3_calibrate_45 : decode cX3_calibrate 45 = .ok (.aload_n 0, 1) := by decide +kernel
theorem dX3_calibrate_46 : decode cX3_calibrate 46 = .ok (.getfield 10, 3) := by decide +kernel
theorem dX3_calibrate_49 : decode cX3_calibrate 49 = .ok (.aload_n 0, 1) := by decide +kernel
theorem dX3_calibrate_50 : decode cX3_calibrate 50 = .ok (.iload_n 1, 1) := by decide +kernel
theorem dX3_calibrate_51 : decode cX3_calibrate 51 = .ok (.iload_n 3, 1) := by decide +kernel
theorem dX3_calibrate_52 : decode cX3_calibrate 52 = .ok (.invokevirtual 118, 3) := by decide +kernel
theorem dX3_calibrate_55 : decode cX3_calibrate 55 = .ok (.invokevirtual 143, 3) := by decide +kernel
theorem dX3_calibrate_58 : decode cX3_calibrate 58 = .ok (.istore 5, 2) := by decide +kernel
theorem dX3_calibrate_60 : decode cX3_calibrate 60 = .ok (.aload_n 0, 1) := by decide +kernel
theorem dX3_calibrate_61 : decode cX3_calibrate 61 = .ok (.getfield 10, 3) := by decide +kernel
theorem dX3_calibrate_64 : decode cX3_calibrate 64 = .ok (.aload_n 0, 1) := by decide +kernel
theorem dX3_calibrate_65 : decode cX3_calibrate 65 = .ok (.iload_n 2, 1) := by decide +kernel
theorem dX3_calibrate_66 : decode cX3_calibrate 66 = .ok (.iload_n 3, 1) := by decide +kernel
theorem dX3_calibrate_67 : decode cX3_calibrate 67 = .ok (.invokevirtual 118, 3) := by decide +kernel
theorem dX3_calibrate_70 : decode cX3_calibrate 70 = .ok (.invokevirtual 143, 3) := by decide +kernel
theorem dX3_calibrate_73 : decode cX3_calibrate 73 = .ok (.istore 6, 2) := by decide +kernel
theorem dX3_calibrate_75 : decode cX3_calibrate 75 = .ok (.aload_n 0, 1) := by decide +kernel
theorem dX3_calibrate_76 : decode cX3_calibrate 76 = .ok (.getfield 19, 3) := by decide +kernel
theorem dX3_calibrate_79 : decode cX3_calibrate 79 = .ok (.aload_n 0, 1) := by decide +kernel
theorem dX3_calibrate_80 : decode cX3_calibrate 80 = .ok (.getfield 10, 3) := by decide +kernel
theorem dX3_calibrate_83 : decode cX3_calibrate 83 = .ok (.invokevirtual 45, 3) := by decide +kernel
theorem dX3_calibrate_86 : decode cX3_calibrate 86 = .ok (.iload 4, 2) := by decide +kernel
theorem dX3_calibrate_88 : decode cX3_calibrate 88 = .ok (.iload 5, 2) := by decide +kernel
theorem dX3_calibrate_90 : decode cX3_calibrate 90 = .ok (.iadd, 1) := by decide +kernel
theorem dX3_calibrate_91 : decode cX3_calibrate 91 = .ok (.iload 6, 2) := by decide +kernel
theorem dX3_calibrate_93 : decode cX3_calibrate 93 = .ok (.isub, 1) := by decide +kernel
theorem dX3_calibrate_94 : decode cX3_calibrate 94 = .ok (.iconst 2, 1) := by decide +kernel
theorem dX3_calibrate_95 : decode cX3_calibrate 95 = .ok (.invokestatic 146, 3) := by decide +kernel
theorem dX3_calibrate_98 : decode cX3_calibrate 98 = .ok (.istore 7, 2) := by decide +kernel
theorem dX3_calibrate_100 : decode cX3_calibrate 100 = .ok (.iload 4, 2) := by decide +kernel
theorem dX3_calibrate_102 : decode cX3_calibrate 102 = .ok (.iload 6, 2) := by decide +kernel
theorem dX3_calibrate_104 : decode cX3_calibrate 104 = .ok (.iadd, 1) := by decide +kernel
theorem dX3_calibrate_105 : decode cX3_calibrate 105 = .ok (.iload 5, 2) := by decide +kernel
theorem dX3_calibrate_107 : decode cX3_calibrate 107 = .ok (.isub, 1) := by decide +kernel
theorem dX3_calibrate_108 : decode cX3_calibrate 108 = .ok (.iconst 2, 1) := by decide +kernel
theorem dX3_calibrate_109 : decode cX3_calibrate 109 = .ok (.invokestatic 146, 3) := by decide +kernel
theorem dX3_calibrate_112 : decode cX3_calibrate 112 = .ok (.istore 8, 2) := by decide +kernel
theorem dX3_calibrate_114 : decode cX3_calibrate 114 = .ok (.iload 5, 2) := by decide +kernel
theorem dX3_calibrate_116 : decode cX3_calibrate 116 = .ok (.iload 6, 2) := by decide +kernel
theorem dX3_calibrate_118 : decode cX3_calibrate 118 = .ok (.iadd, 1) := by decide +kernel
theorem dX3_calibrate_119 : decode cX3_calibrate 119 = .ok (.iload 4, 2) := by decide +kernel
theorem dX3_calibrate_121 : decode cX3_calibrate 121 = .ok (.isub, 1) := by decide +kernel
theorem dX3_calibrate_122 : decode cX3_calibrate 122 = .ok (.iconst 2, 1) := by decide +kernel
theorem dX3_calibrate_123 : decode cX3_calibrate 123 = .ok (.invokestatic 146, 3) := by decide +kernel
theorem dX3_calibrate_126 : decode cX3_calibrate 126 = .ok (.istore 9, 2) := by decide +kernel
theorem dX3_calibrate_128 : decode cX3_calibrate 128 = .ok (.aload_n 0, 1) := by decide +kernel
theorem dX3_calibrate_129 : decode cX3_calibrate 129 = .ok (.getfield 10, 3) := by decide +kernel
theorem dX3_calibrate_132 : decode cX3_calibrate 132 = .ok (.getfield 28, 3) := by decide +kernel
theorem dX3_calibrate_135 : decode cX3_calibrate 135 = .ok (.iload_n 1, 1) := by decide +kernel
theorem dX3_calibrate_136 : decode cX3_calibrate 136 = .ok (.iconst 5, 1) := by decide +kernel
theorem dX3_calibrate_137 : decode cX3_calibrate 137 = .ok (.iload 7, 2) := by decide +kernel
theorem dX3_calibrate_139 : decode cX3_calibrate 139 = .ok (.invokevirtual 57, 3) := by decide +kernel
theorem dX3_calibrate_142 : decode cX3_calibrate 142 = .ok (.aload_n 0, 1) := by decide +kernel
theorem dX3_calibrate_143 : decode cX3_calibrate 143 = .ok (.getfield 10, 3) := by decide +kernel
theorem dX3_calibrate_146 : decode cX3_calibrate 146 = .ok (.getfield 28, 3) := by decide +kernel
theorem dX3_calibrate_149 : decode cX3_calibrate 149 = .ok (.iload_n 2, 1) := by decide +kernel
theorem dX3_calibrate_150 : decode cX3_calibrate 150 = .ok (.iconst 5, 1) := by decide +kernel
theorem dX3_calibrate_151 : decode cX3_calibrate 151 = .ok (.iload 8, 2) := by decide +kernel
theorem dX3_calibrate_153 : decode cX3_calibrate 153 = .ok (.invokevirtual 57, 3) := by decide +kernel
theorem dX3_calibrate_156 : decode cX3_calibrate 156 = .ok (.aload_n 0, 1) := by decide +kernel
theorem dX3_calibrate_157 : decode cX3_calibrate 157 = .ok (.getfield 10, 3) := by decide +kernel
theorem dX3_calibrate_160 : decode cX3_calibrate 160 = .ok (.getfield 28, 3) := by decide +kernel
theorem dX3_calibrate_163 : decode cX3_calibrate 163 = .ok (.iload_n 3, 1) := by decide +kernel
theorem dX3_calibrate_164 : decode cX3_calibrate 164 = .ok (.iconst 5, 1) := by decide +kernel
theorem dX3_calibrate_165 : decode cX3_calibrate 165 = .ok (.iload 9, 2) := by decide +kernel
theorem dX3_calibrate_167 : decode cX3_calibrate 167 = .ok (.invokevirtual 57, 3) := by decide +kernel
theorem dX3_calibrate_170 : decode cX3_calibrate 170 = .ok (.iload 7, 2) := by decide +kernel
theorem dX3_calibrate_172 : decode cX3_calibrate 172 = .ok (.iload 8, 2) := by decide +kernel
theorem dX3_calibrate_174 : decode cX3_calibrate 174 = .ok (.iadd, 1) := by decide +kernel
theorem dX3_calibrate_175 : decode cX3_calibrate 175 = .ok (.iload 9, 2) := by decide +kernel
theorem dX3_calibrate_177 : decode cX3_calibrate 177 = .ok (.iadd, 1) := by decide +kernel
theorem dX3_calibrate_178 : decode cX3_calibrate 178 = .ok (.ireturn, 1) := by decide +kernel
theorem dX3_fix_0 : decode cX3_fix 0 = .ok (.aload_n 0, 1) := by decide +kernel
theorem dX3_fix_1 : decode cX3_fix 1 = .ok (.iload_n 1, 1) := by decide +kernel
theorem dX3_fix_2 : decode cX3_fix 2 = .ok (.invokevirtual 60, 3) := by decide +kernel
theorem dX3_fix_5 : decode cX3_fix 5 = .ok (.iload_n 2, 1) := by decide +kernel
theorem dX3_fix_6 : decode cX3_fix 6 = .ok (.ifCond .lt 10, 3) := by decide +kernel
theorem dX3_fix_9 : decode cX3_fix 9 = .ok (.iload_n 2, 1) := by decide +kernel
theorem dX3_fix_10 : decode cX3_fix 10 = .ok (.sipush 999, 3) := by decide +kernel
theorem dX3_fix_13 : decode cX3_fix 13 = .ok (.if_icmp .le 13, 3) := by decide +kernel
theorem dX3_fix_16 : decode cX3_fix 16 = .ok (.new 149, 3) := by decide +kernel
theorem dX3_fix_19 : decode cX3_fix 19 = .ok (.dup, 1) := by decide +kernel
theorem dX3_fix_20 : decode cX3_fix 20 = .ok (.ldc 151, 2) := by decide +kernel
theorem dX3_fix_22 : decode cX3_fix 22 = .ok (.invokespecial 153, 3) := by decide +kernel
theorem dX3_fix_25 : decode cX3_fix 25 = .ok (.athrow, 1) := by decide +kernel
theorem dX3_fix_26 : decode cX3_fix 26 = .ok (.iload_n 2, 1) := by decide +kernel
theorem dX3_fix_27 : decode cX3_fix 27 = .ok (.bipush 100, 2) := by decide +kernel
theorem dX3_fix_29 : decode cX3_fix 29 = .ok (.idiv, 1) := by decide +kernel
theorem dX3_fix_30 : decode cX3_fix 30 = .ok (.istore 5, 2) := by decide +kernel
theorem dX3_fix_32 : decode cX3_fix 32 = .ok (.iload_n 2, 1) := by decide +kernel
theorem dX3_fix_33 : decode cX3_fix 33 = .ok (.bipush 10, 2) := by decide +kernel
theorem dX3_fix_35 : decode cX3_fix 35 = .ok (.idiv, 1) := by decide +kernel
theorem dX3_fix_36 : decode cX3_fix 36 = .ok (.bipush 10, 2) := by decide +kernel
theorem dX3_fix_38 : decode cX3_fix 38 = .ok (.irem, 1) := by decide +kernel
theorem dX3_fix_39 : decode cX3_fix 39 = .ok (.istore 6, 2) := by decide +kernel
theorem dX3_fix_41 : decode cX3_fix 41 = .ok (.iload_n 2, 1) := by decide +kernel
theorem dX3_fix_42 : decode cX3_fix 42 = .ok (.bipush 10, 2) := by decide +kernel
theorem dX3_fix_44 : decode cX3_fix 44 = .ok (.irem, 1) := by decide +kernel
theorem dX3_fix_45 : decode cX3_fix 45 = .ok (.istore 7, 2) := by decide +kernel
theorem dX3_fix_47 : decode cX3_fix 47 = .ok (.aload_n 0, 1) := by decide +kernel
theorem dX3_fix_48 : decode cX3_fix 48 = .ok (.iload 5, 2) := by decide +kernel
theorem dX3_fix_50 : decode cX3_fix 50 = .ok (.invokevirtual 60, 3) := by decide +kernel
theorem dX3_fix_53 : decode cX3_fix 53 = .ok (.aload_n 0, 1) := by decide +kernel
theorem dX3_fix_54 : decode cX3_fix 54 = .ok (.iload 6, 2) := by decide +kernel
theorem dX3_fix_56 : decode cX3_fix 56 = .ok (.invokevirtual 60, 3) := by decide +kernel
theorem dX3_fix_59 : decode cX3_fix 59 = .ok (.aload_n 0, 1) := by decide +kernel
theorem dX3_fix_60 : decode cX3_fix 60 = .ok (.iload 7, 2) := by decide +kernel
theorem dX3_fix_62 : decode cX3_fix 62 = .ok (.invokevirtual 60, 3) := by decide +kernel
theorem dX3_fix_65 : decode cX3_fix 65 = .ok (.iload_n 1, 1) := by decide +kernel
theorem dX3_fix_66 : decode cX3_fix 66 = .ok (.iload 5, 2) := by decide +kernel
theorem dX3_fix_68 : decode cX3_fix 68 = .ok (.iload 6, 2) := by decide +kernel
theorem dX3_fix_70 : decode cX3_fix 70 = .ok (.iload 7, 2) := by decide +kernel
theorem dX3_fix_72 : decode cX3_fix 72 = .ok (.invokestatic 154, 3) := by decide +kernel
theorem dX3_fix_75 : decode cX3_fix 75 = .ok (.iload_n 3, 1) := by decide +kernel
theorem dX3_fix_76 : decode cX3_fix 76 = .ok (.invokestatic 112, 3) := by decide +kernel
theorem dX3_fix_79 : decode cX3_fix 79 = .ok (.iload 4, 2) := by decide +kernel
theorem dX3_fix_81 : decode cX3_fix 81 = .ok (.iconst 0, 1) := by decide +kernel
theorem dX3_fix_82 : decode cX3_fix 82 = .ok (.iconst 1, 1) := by decide +kernel
theorem dX3_fix_83 : decode cX3_fix 83 = .ok (.invokestatic 23, 3) := by decide +kernel
theorem dX3_fix_86 : decode cX3_fix 86 = .ok (.aload_n 0, 1) := by decide +kernel
theorem dX3_fix_87 : decode cX3_fix 87 = .ok (.getfield 10, 3) := by decide +kernel
theorem dX3_fix_90 : decode cX3_fix 90 = .ok (.aload_n 0, 1) := by decide +kernel
theorem dX3_fix_91 : decode cX3_fix 91 = .ok (.iload_n 1, 1) := by decide +kernel
theorem dX3_fix_92 : decode cX3_fix 92 = .ok (.iload 5, 2) := by decide +kernel
theorem dX3_fix_94 : decode cX3_fix 94 = .ok (.invokevirtual 118, 3) := by decide +kernel
theorem dX3_fix_97 : decode cX3_fix 97 = .ok (.iload_n 3, 1) := by decide +kernel
theorem dX3_fix_98 : decode cX3_fix 98 = .ok (.invokevirtual 115, 3) := by decide +kernel
theorem dX3_fix_101 : decode cX3_fix 101 = .ok (.invokestatic 158, 3) := by decide +kernel
theorem dX3_fix_104 : decode cX3_fix 104 = .ok (.lstore 8, 2) := by decide +kernel
theorem dX3_fix_106 : decode cX3_fix 106 = .ok (.aload_n 0, 1) := by decide +kernel
theorem dX3_fix_107 : decode cX3_fix 107 = .ok (.getfield 10, 3) := by decide +kernel
theorem dX3_fix_110 : decode cX3_fix 110 = .ok (.aload_n 0, 1) := by decide +kernel
theorem dX3_fix_111 : decode cX3_fix 111 = .ok (.iload_n 1, 1) := by decide +kernel
theorem dX3_fix_112 : decode cX3_fix 112 = .ok (.iload 6, 2) := by decide +kernel
theorem dX3_fix_114 : decode cX3_fix 114 = .ok (.invokevirtual 118, 3) := by decide +kernel
theorem dX3_fix_117 : decode cX3_fix 117 = .ok (.iload_n 3, 1) := by decide +kernel
theorem dX3_fix_118 : decode cX3_fix 118 = .ok (.invokevirtual 115, 3) := by decide +kernel
theorem dX3_fix_121 : decode cX3_fix 121 = .ok (.invokestatic 158, 3) := by decide +kernel
theorem dX3_fix_124 : decode cX3_fix 124 = .ok (.lstore 10, 2) := by decide +kernel
theorem dX3_fix_126 : decode cX3_fix 126 = .ok (.aload_n 0, 1) := by decide +kernel
theorem dX3_fix_127 : decode cX3_fix 127 = .ok (.getfield 10, 3) := by decide +kernel
theorem dX3_fix_130 : decode cX3_fix 130 = .ok (.aload_n 0, 1) := by decide +kernel
theorem dX3_fix_131 : decode cX3_fix 131 = .ok (.iload_n 1, 1) := by decide +kernel
theorem dX3_fix_132 : decode cX3_fix 132 = .ok (.iload 7, 2) := by decide +kernel
theorem dX3_fix_134 : decode cX3_fix 134 = .ok (.invokevirtual 118, 3) := by decide +kernel
theorem dX3_fix_137 : decode cX3_fix 137 = .ok (.iload_n 3, 1) := by decide +kernel
theorem dX3_fix_138 : decode cX3_fix 138 = .ok (.invokevirtual 115, 3) := by decide +kernel
theorem dX3_fix_141 : decode cX3_fix 141 = .ok (.invokestatic 158, 3) := by decide +kernel
theorem dX3_fix_144 : decode cX3_fix 144 = .ok (.lstore 12, 2) := by decide +kernel
theorem dX3_fix_146 : decode cX3_fix 146 = .ok (.lload 8, 2) := by decide +kernel
theorem dX3_fix_148 : decode cX3_fix 148 = .ok (.lload 10, 2) := by decide +kernel
theorem dX3_fix_150 : decode cX3_fix 150 = .ok (.lsub, 1) := by decide +kernel
theorem dX3_fix_151 : decode cX3_fix 151 = .ok (.aload_n 0, 1) := by decide +kernel
theorem dX3_fix_152 : decode cX3_fix 152 = .ok (.getfield 10, 3) := by decide +kernel
theorem dX3_fix_155 : decode cX3_fix 155 = .ok (.iload 6, 2) := by decide +kernel
theorem dX3_fix_157 : decode cX3_fix 157 = .ok (.invokevirtual 162, 3) := by decide +kernel
theorem dX3_fix_160 : decode cX3_fix 160 = .ok (.ladd, 1) := by decide +kernel
theorem dX3_fix_161 : decode cX3_fix 161 = .ok (.aload_n 0, 1) := by decide +kernel
theorem dX3_fix_162 : decode cX3_fix 162 = .ok (.getfield 10, 3) := by decide +kernel
theorem dX3_fix_165 : decode cX3_fix 165 = .ok (.iload 5, 2) := by decide +kernel
theorem dX3_fix_167 : decode cX3_fix 167 = .ok (.invokevirtual 162, 3) := by decide +kernel
theorem dX3_fix_170 : decode cX3_fix 170 = .ok (.lsub, 1) := by decide +kernel
theorem dX3_fix_171 : decode cX3_fix 171 = .ok (.lstore 14, 2) := by decide +kernel
theorem dX3_fix_173 : decode cX3_fix 173 = .ok (.lload 8, 2) := by decide +kernel
theorem dX3_fix_175 : decode cX3_fix 175 = .ok (.lload 12, 2) := by decide +kernel
theorem dX3_fix_177 : decode cX3_fix 177 = .ok (.lsub, 1) := by decide +kernel
theorem dX3_fix_178 : decode cX3_fix 178 = .ok (.aload_n 0, 1) := by decide +kernel
theorem dX3_fix_179 : decode cX3_fix 179 = .ok (.getfield 10, 3) := by decide +kernel
theorem dX3_fix_182 : decode cX3_fix 182 = .ok (.iload 7, 2) := by decide +kernel
theorem dX3_fix_184 : decode cX3_fix 184 = .ok (.invokevirtual 162, 3) := by decide +kernel
theorem dX3_fix_187 : decode cX3_fix 187 = .ok (.ladd, 1) := by decide +kernel
theorem dX3_fix_188 : decode cX3_fix 188 = .ok (.aload_n 0, 1) := by decide +kernel
theorem dX3_fix_189 : decode cX3_fix 189 = .ok (.getfield 10, 3) := by decide +kernel
theorem dX3_fix_192 : decode cX3_fix 192 = .ok (.iload 5, 2) := by decide +kernel
theorem dX3_fix_194 : decode cX3_fix 194 = .ok (.invokevirtual 162, 3) := by decide +kernel
theorem dX3_fix_197 : decode cX3_fix 197 = .ok (.lsub, 1) := by decide +kernel
theorem dX3_fix_198 : decode cX3_fix 198 = .ok (.lstore 16, 2) := by decide +kernel
theorem dX3_fix_200 : decode cX3_fix 200 = .ok (.aload_n 0, 1) := by decide +kernel
theorem dX3_fix_201 : decode cX3_fix 201 = .ok (.iload 5, 2) := by decide +kernel
theorem dX3_fix_203 : decode cX3_fix 203 = .ok (.iload 6, 2) := by decide +kernel
theorem dX3_fix_205 : decode cX3_fix 205 = .ok (.iload 7, 2) := by decide +kernel
theorem dX3_fix_207 : decode cX3_fix 207 = .ok (.lload 14, 2) := by decide +kernel
theorem dX3_fix_209 : decode cX3_fix 209 = .ok (.lload 16, 2) := by decide +kernel
theorem dX3_fix_211 : decode cX3_fix 211 = .ok (.iload 4, 2) := by decide +kernel
theorem dX3_fix_213 : decode cX3_fix 213 = .ok (.invokevirtual 165, 3) := by decide +kernel
theorem dX3_fix_216 : decode cX3_fix 216 = .ok (.ireturn, 1) := by decide +kernel
theorem dX3_undo_0 : decode cX3_undo 0 = .ok (.aload_n 0, 1) := by decide +kernel
theorem dX3_undo_1 : decode cX3_undo 1 = .ok (.getfield 19, 3) := by decide +kernel
theorem dX3_undo_4 : decode cX3_undo 4 = .ok (.getfield 169, 3) := by decide +kernel
theorem dX3_undo_7 : decode cX3_undo 7 = .ok (.ifCond .ne 13, 3) := by decide +kernel
theorem dX3_undo_10 : decode cX3_undo 10 = .ok (.new 38, 3) := by decide +kernel
theorem dX3_undo_13 : decode cX3_undo 13 = .ok (.dup, 1) := by decide +kernel
theorem dX3_undo_14 : decode cX3_undo 14 = .ok (.ldc 170, 2) := by decide +kernel
theorem dX3_undo_16 : decode cX3_undo 16 = .ok (.invokespecial 42, 3) := by decide +kernel
theorem dX3_undo_19 : decode cX3_undo 19 = .ok (.athrow, 1) := by decide +kernel
theorem dX3_undo_20 : decode cX3_undo 20 = .ok (.aload_n 0, 1) := by decide +kernel
theorem dX3_undo_21 : decode cX3_undo 21 = .ok (.getfield 19, 3) := by decide +kernel
theorem dX3_undo_24 : decode cX3_undo 24 = .ok (.aload_n 0, 1) := by decide +kernel
theorem dX3_undo_25 : decode cX3_undo 25 = .ok (.getfield 10, 3) := by decide +kernel
theorem dX3_undo_28 : decode cX3_undo 28 = .ok (.invokevirtual 172, 3) := by decide +kernel
theorem dX3_undo_31 : decode cX3_undo 31 = .ok (.aload_n 0, 1) := by decide +kernel
theorem dX3_undo_32 : decode cX3_undo 32 = .ok (.getfield 19, 3) := by decide +kernel
theorem dX3_undo_35 : decode cX3_undo 35 = .ok (.getfield 169, 3) := by decide +kernel
theorem dX3_undo_38 : decode cX3_undo 38 = .ok (.ireturn, 1) := by decide +kernel
theorem dX3_digest_0 : decode cX3_digest 0 = .ok (.ldc2_w 175, 3) := by decide +kernel
theorem dX3_digest_3 : decode cX3_digest 3 = .ok (.aload_n 0, 1) := by decide +kernel
theorem dX3_digest_4 : decode cX3_digest 4 = .ok (.getfield 10, 3) := by decide +kernel
theorem dX3_digest_7 : decode cX3_digest 7 = .ok (.getfield 105, 3) := by decide +kernel
theorem dX3_digest_10 : decode cX3_digest 10 = .ok (.invokestatic 177, 3) := by decide +kernel
theorem dX3_digest_13 : decode cX3_digest 13 = .ok (.lstore_n 1, 1) := by decide +kernel
theorem dX3_digest_14 : decode cX3_digest 14 = .ok (.aload_n 0, 1) := by decide +kernel
theorem dX3_digest_15 : decode cX3_digest 15 = .ok (.getfield 10, 3) := by decide +kernel
theorem dX3_digest_18 : decode cX3_digest 18 = .ok (.lload_n 1, 1) := by decide +kernel
theorem dX3_digest_19 : decode cX3_digest 19 = .ok (.invokevirtual 181, 3) := by decide +kernel
theorem dX3_digest_22 : decode cX3_digest 22 = .ok (.lstore_n 1, 1) := by decide +kernel
theorem dX3_digest_23 : decode cX3_digest 23 = .ok (.aload_n 0, 1) := by decide +kernel
theorem dX3_digest_24 : decode cX3_digest 24 = .ok (.getfield 10, 3) := by decide +kernel
theorem dX3_digest_27 : decode cX3_digest 27 = .ok (.lload_n 1, 1) := by decide +kernel
theorem dX3_digest_28 : decode cX3_digest 28 = .ok (.invokevirtual 185, 3) := by decide +kernel
theorem dX3_digest_31 : decode cX3_digest 31 = .ok (.lstore_n 1, 1) := by decide +kernel
theorem dX3_digest_32 : decode cX3_digest 32 = .ok (.aload_n 0, 1) := by decide +kernel
theorem dX3_digest_33 : decode cX3_digest 33 = .ok (.getfield 10, 3) := by decide +kernel
theorem dX3_digest_36 : decode cX3_digest 36 = .ok (.lload_n 1, 1) := by decide +kernel
theorem dX3_digest_37 : decode cX3_digest 37 = .ok (.invokevirtual 188, 3) := by decide +kernel
theorem dX3_digest_40 : decode cX3_digest 40 = .ok (.lstore_n 1, 1) := by decide +kernel
theorem dX3_digest_41 : decode cX3_digest 41 = .ok (.lload_n 1, 1) := by decide +kernel
theorem dX3_digest_42 : decode cX3_digest 42 = .ok (.aload_n 0, 1) := by decide +kernel
theorem dX3_digest_43 : decode cX3_digest 43 = .ok (.getfield 19, 3) := by decide +kernel
theorem dX3_digest_46 : decode cX3_digest 46 = .ok (.getfield 169, 3) := by decide +kernel
theorem dX3_digest_49 : decode cX3_digest 49 = .ok (.i2l, 1) := by decide +kernel
theorem dX3_digest_50 : decode cX3_digest 50 = .ok (.invokestatic 177, 3) := by decide +kernel
theorem dX3_digest_53 : decode cX3_digest 53 = .ok (.lreturn, 1) := by decide +kernel
theorem dX3_requireWithin_0 : decode cX3_requireWithin 0 = .ok (.iload_n 0, 1) := by decide +kernel
theorem dX3_requireWithin_1 : decode cX3_requireWithin 1 = .ok (.iload_n 1, 1) := by decide +kernel
theorem dX3_requireWithin_2 : decode cX3_requireWithin 2 = .ok (.if_icmp .lt 8, 3) := by decide +kernel
theorem dX3_requireWithin_5 : decode cX3_requireWithin 5 = .ok (.iload_n 0, 1) := by decide +kernel
theorem dX3_requireWithin_6 : decode cX3_requireWithin 6 = .ok (.iload_n 2, 1) := by decide +kernel
theorem dX3_requireWithin_7 : decode cX3_requireWithin 7 = .ok (.if_icmp .le 13, 3) := by decide +kernel
theorem dX3_requireWithin_10 : decode cX3_requireWithin 10 = .ok (.new 191, 3) := by decide +kernel
theorem dX3_requireWithin_13 : decode cX3_requireWithin 13 = .ok (.dup, 1) := by decide +kernel
theorem dX3_requireWithin_14 : decode cX3_requireWithin 14 = .ok (.ldc 193, 2) := by decide +kernel
theorem dX3_requireWithin_16 : decode cX3_requireWithin 16 = .ok (.invokespecial 195, 3) := by decide +kernel
theorem dX3_requireWithin_19 : decode cX3_requireWithin 19 = .ok (.athrow, 1) := by decide +kernel
theorem dX3_requireWithin_20 : decode cX3_requireWithin 20 = .ok (.return_, 1) := by decide +kernel
theorem dX3_requireMethod_0 : decode cX3_requireMethod 0 = .ok (.iload_n 0, 1) := by decide +kernel
theorem dX3_requireMethod_1 : decode cX3_requireMethod 1 = .ok (.iconst 0, 1) := by decide +kernel
theorem dX3_requireMethod_2 : decode cX3_requireMethod 2 = .ok (.iconst 2, 1) := by decide +kernel
theorem dX3_requireMethod_3 : decode cX3_requireMethod 3 = .ok (.invokestatic 23, 3) := by decide +kernel
theorem dX3_requireMethod_6 : decode cX3_requireMethod 6 = .ok (.return_, 1) := by decide +kernel
theorem dX3_requirePair_0 : decode cX3_requirePair 0 = .ok (.iload_n 0, 1) := by decide +kernel
theorem dX3_requirePair_1 : decode cX3_requirePair 1 = .ok (.iload_n 1, 1) := by decide +kernel
theorem dX3_requirePair_2 : decode cX3_requirePair 2 = .ok (.if_icmp .ne 13, 3) := by decide +kernel
theorem dX3_requirePair_5 : decode cX3_requirePair 5 = .ok (.new 191, 3) := by decide +kernel
theorem dX3_requirePair_8 : decode cX3_requirePair 8 = .ok (.dup, 1) := by decide +kernel
theorem dX3_requirePair_9 : decode cX3_requirePair 9 = .ok (.ldc 196, 2) := by decide +kernel
theorem dX3_requirePair_11 : decode cX3_requirePair 11 = .ok (.invokespecial 195, 3) := by decide +kernel
theorem dX3_requirePair_14 : decode cX3_requirePair 14 = .ok (.athrow, 1) := by decide +kernel
theorem dX3_requirePair_15 : decode cX3_requirePair 15 = .ok (.return_, 1) := by decide +kernel
theorem dX3_requireFourNodes_0 : decode cX3_requireFourNodes 0 = .ok (.iload_n 0, 1) := by decide +kernel
theorem dX3_requireFourNodes_1 : decode cX3_requireFourNodes 1 = .ok (.iload_n 1, 1) := by decide +kernel
theorem dX3_requireFourNodes_2 : decode cX3_requireFourNodes 2 = .ok (.invokestatic 79, 3) := by decide +kernel
theorem dX3_requireFourNodes_5 : decode cX3_requireFourNodes 5 = .ok (.iload_n 0, 1) := by decide +kernel
theorem dX3_requireFourNodes_6 : decode cX3_requireFourNodes 6 = .ok (.iload_n 2, 1) := by decide +kernel
theorem dX3_requireFourNodes_7 : decode cX3_requireFourNodes 7 = .ok (.invokestatic 79, 3) := by decide +kernel
theorem dX3_requireFourNodes_10 : decode cX3_requireFourNodes 10 = .ok (.iload_n 0, 1) := by decide +kernel
theorem dX3_requireFourNodes_11 : decode cX3_requireFourNodes 11 = .ok (.iload_n 3, 1) := by decide +kernel
theorem dX3_requireFourNodes_12 : decode cX3_requireFourNodes 12 = .ok (.invokestatic 79, 3) := by decide +kernel
theorem dX3_requireFourNodes_15 : decode cX3_requireFourNodes 15 = .ok (.iload_n 1, 1) := by decide +kernel
theorem dX3_requireFourNodes_16 : decode cX3_requireFourNodes 16 = .ok (.iload_n 2, 1) := by decide +kernel
theorem dX3_requireFourNodes_17 : decode cX3_requireFourNodes 17 = .ok (.invokestatic 79, 3) := by decide +kernel
theorem dX3_requireFourNodes_20 : decode cX3_requireFourNodes 20 = .ok (.iload_n 1, 1) := by decide +kernel
theorem dX3_requireFourNodes_21 : decode cX3_requireFourNodes 21 = .ok (.iload_n 3, 1) := by decide +kernel
theorem dX3_requireFourNodes_22 : decode cX3_requireFourNodes 22 = .ok (.invokestatic 79, 3) := by decide +kernel
theorem dX3_requireFourNodes_25 : decode cX3_requireFourNodes 25 = .ok (.iload_n 2, 1) := by decide +kernel
theorem dX3_requireFourNodes_26 : decode cX3_requireFourNodes 26 = .ok (.iload_n 3, 1) := by decide +kernel
theorem dX3_requireFourNodes_27 : decode cX3_requireFourNodes 27 = .ok (.invokestatic 79, 3) := by decide +kernel
theorem dX3_requireFourNodes_30 : decode cX3_requireFourNodes 30 = .ok (.return_, 1) := by decide +kernel
theorem dX3_requireNode_0 : decode cX3_requireNode 0 = .ok (.iload_n 1, 1) := by decide +kernel
theorem dX3_requireNode_1 : decode cX3_requireNode 1 = .ok (.ifCond .lt 17, 3) := by decide +kernel
theorem dX3_requireNode_4 : decode cX3_requireNode 4 = .ok (.iload_n 1, 1) := by decide +kernel
theorem dX3_requireNode_5 : decode cX3_requireNode 5 = .ok (.aload_n 0, 1) := by decide +kernel
theorem dX3_requireNode_6 : decode cX3_requireNode 6 = .ok (.getfield 10, 3) := by decide +kernel
theorem dX3_requireNode_9 : decode cX3_requireNode 9 = .ok (.getfield 28, 3) := by decide +kernel
theorem dX3_requireNode_12 : decode cX3_requireNode 12 = .ok (.getfield 49, 3) := by decide +kernel
theorem dX3_requireNode_15 : decode cX3_requireNode 15 = .ok (.if_icmp .lt 13, 3) := by decide +kernel
theorem dX3_requireNode_18 : decode cX3_requireNode 18 = .ok (.new 149, 3) := by decide +kernel
theorem dX3_requireNode_21 : decode cX3_requireNode 21 = .ok (.dup, 1) := by decide +kernel
theorem dX3_requireNode_22 : decode cX3_requireNode 22 = .ok (.ldc 198, 2) := by decide +kernel
theorem dX3_requireNode_24 : decode cX3_requireNode 24 = .ok (.invokespecial 153, 3) := by decide +kernel
theorem dX3_requireNode_27 : decode cX3_requireNode 27 = .ok (.athrow, 1) := by decide +kernel
theorem dX3_requireNode_28 : decode cX3_requireNode 28 = .ok (.return_, 1) := by decide +kernel
theorem dX3_requireExchange_0 : decode cX3_requireExchange 0 = .ok (.iload_n 1, 1) := by decide +kernel
theorem dX3_requireExchange_1 : decode cX3_requireExchange 1 = .ok (.ifCond .lt 17, 3) := by decide +kernel
theorem dX3_requireExchange_4 : decode cX3_requireExchange 4 = .ok (.iload_n 1, 1) := by decide +kernel
theorem dX3_requireExchange_5 : decode cX3_requireExchange 5 = .ok (.aload_n 0, 1) := by decide +kernel
theorem dX3_requireExchange_6 : decode cX3_requireExchange 6 = .ok (.getfield 10, 3) := by decide +kernel
theorem dX3_requireExchange_9 : decode cX3_requireExchange 9 = .ok (.getfield 84, 3) := by decide +kernel
theorem dX3_requireExchange_12 : decode cX3_requireExchange 12 = .ok (.getfield 49, 3) := by decide +kernel
theorem dX3_requireExchange_15 : decode cX3_requireExchange 15 = .ok (.if_icmp .lt 13, 3) := by decide +kernel
theorem dX3_requireExchange_18 : decode cX3_requireExchange 18 = .ok (.new 149, 3) := by decide +kernel
theorem dX3_requireExchange_21 : decode cX3_requireExchange 21 = .ok (.dup, 1) := by decide +kernel
theorem dX3_requireExchange_22 : decode cX3_requireExchange 22 = .ok (.ldc 200, 2) := by decide +kernel
theorem dX3_requireExchange_24 : decode cX3_requireExchange 24 = .ok (.invokespecial 153, 3) := by decide +kernel
theorem dX3_requireExchange_27 : decode cX3_requireExchange 27 = .ok (.athrow, 1) := by decide +kernel
theorem dX3_requireExchange_28 : decode cX3_requireExchange 28 = .ok (.return_, 1) := by decide +kernel
theorem dX3_requireLatest_0 : decode cX3_requireLatest 0 = .ok (.aload_n 0, 1) := by decide +kernel
theorem dX3_requireLatest_1 : decode cX3_requireLatest 1 = .ok (.getfield 10, 3) := by decide +kernel
theorem dX3_requireLatest_4 : decode cX3_requireLatest 4 = .ok (.iload_n 1, 1) := by decide +kernel
theorem dX3_requireLatest_5 : decode cX3_requireLatest 5 = .ok (.iload_n 2, 1) := by decide +kernel
theorem dX3_requireLatest_6 : decode cX3_requireLatest 6 = .ok (.invokevirtual 202, 3) := by decide +kernel
theorem dX3_requireLatest_9 : decode cX3_requireLatest 9 = .ok (.istore_n 3, 1) := by decide +kernel
theorem dX3_requireLatest_10 : decode cX3_requireLatest 10 = .ok (.iload_n 3, 1) := by decide +kernel
theorem dX3_requireLatest_11 : decode cX3_requireLatest 11 = .ok (.iconst (-1), 1) := by decide +kernel
theorem dX3_requireLatest_12 : decode cX3_requireLatest 12 = .ok (.if_icmp .ne 13, 3) := by decide +kernel
theorem dX3_requireLatest_15 : decode cX3_requireLatest 15 = .ok (.new 38, 3) := by decide +kernel
theorem dX3_requireLatest_18 : decode cX3_requireLatest 18 = .ok (.dup, 1) := by decide +kernel
theorem dX3_requireLatest_19 : decode cX3_requireLatest 19 = .ok (.ldc 205, 2) := by decide +kernel
theorem dX3_requireLatest_21 : decode cX3_requireLatest 21 = .ok (.invokespecial 42, 3) := by decide +kernel
theorem dX3_requireLatest_24 : decode cX3_requireLatest 24 = .ok (.athrow, 1) := by decide +kernel
theorem dX3_requireLatest_25 : decode cX3_requireLatest 25 = .ok (.iload_n 3, 1) := by decide +kernel
theorem dX3_requireLatest_26 : decode cX3_requireLatest 26 = .ok (.ireturn, 1) := by decide +kernel
theorem dX3_solve_0 : decode cX3_solve 0 = .ok (.ldc2_w 207, 3) := by decide +kernel
theorem dX3_solve_3 : decode cX3_solve 3 = .ok (.aload_n 0, 1) := by decide +kernel
theorem dX3_solve_4 : decode cX3_solve 4 = .ok (.getfield 10, 3) := by decide +kernel
theorem dX3_solve_7 : decode cX3_solve 7 = .ok (.getfield 28, 3) := by decide +kernel
theorem dX3_solve_10 : decode cX3_solve 10 = .ok (.iload_n 2, 1) := by decide +kernel
theorem dX3_solve_11 : decode cX3_solve 11 = .ok (.iconst 0, 1) := by decide +kernel
theorem dX3_solve_12 : decode cX3_solve 12 = .ok (.invokevirtual 64, 3) := by decide +kernel
theorem dX3_solve_15 : decode cX3_solve 15 = .ok (.aload_n 0, 1) := by decide +kernel
theorem dX3_solve_16 : decode cX3_solve 16 = .ok (.getfield 10, 3) := by decide +kernel
theorem dX3_solve_19 : decode cX3_solve 19 = .ok (.getfield 28, 3) := by decide +kernel
theorem dX3_solve_22 : decode cX3_solve 22 = .ok (.iload_n 1, 1) := by decide +kernel
theorem dX3_solve_23 : decode cX3_solve 23 = .ok (.iconst 0, 1) := by decide +kernel
theorem dX3_solve_24 : decode cX3_solve 24 = .ok (.invokevirtual 64, 3) := by decide +kernel
theorem dX3_solve_27 : decode cX3_solve 27 = .ok (.isub, 1) := by decide +kernel
theorem dX3_solve_28 : decode cX3_solve 28 = .ok (.i2l, 1) := by decide +kernel
theorem dX3_solve_29 : decode cX3_solve 29 = .ok (.lmul, 1) := by decide +kernel
theorem dX3_solve_30 : decode cX3_solve 30 = .ok (.lstore 9, 2) := by decide +kernel
theorem dX3_solve_32 : decode cX3_solve 32 = .ok (.ldc2_w 207, 3) := by decide +kernel
theorem dX3_solve_35 : decode cX3_solve 35 = .ok (.aload_n 0, 1) := by decide +kernel
theorem dX3_solve_36 : decode cX3_solve 36 = .ok (.getfield 10, 3) := by decide +kernel
theorem dX3_solve_39 : decode cX3_solve 39 = .ok (.getfield 28, 3) := by decide +kernel
theorem dX3_solve_42 : decode cX3_solve 42 = .ok (.iload_n 2, 1) := by decide +kernel
theorem dX3_solve_43 : decode cX3_solve 43 = .ok (.iconst 1, 1) := by decide +kernel
theorem dX3_solve_44 : decode cX3_solve 44 = .ok (.invokevirtual 64, 3) := by decide +kernel
theorem dX3_solve_47 : decode cX3_solve 47 = .ok (.aload_n 0, 1) := by decide +kernel
theorem dX3_solve_48 : decode cX3_solve 48 = .ok (.getfield 10, 3) := by decide +kernel
theorem dX3_solve_51 : decode cX3_solve 51 = .ok (.getfield 28, 3) := by decide +kernel
theorem dX3_solve_54 : decode cX3_solve 54 = .ok (.iload_n 1, 1) := by decide +kernel
theorem dX3_solve_55 : decode cX3_solve 55 = .ok (.iconst 1, 1) := by decide +kernel
theorem dX3_solve_56 : decode cX3_solve 56 = .ok (.invokevirtual 64, 3) := by decide +kernel
theorem dX3_solve_59 : decode cX3_solve 59 = .ok (.isub, 1) := by decide +kernel
theorem dX3_solve_60 : decode cX3_solve 60 = .ok (.i2l, 1) := by decide +kernel
theorem dX3_solve_61 : decode cX3_solve 61 = .ok (.lmul, 1) := by decide +kernel
theorem dX3_solve_62 : decode cX3_solve 62 = .ok (.lstore 11, 2) := by decide +kernel
theorem dX3_solve_64 : decode cX3_solve 64 = .ok (.ldc2_w 207, 3) := by decide +kernel
theorem dX3_solve_67 : decode cX3_solve 67 = .ok (.aload_n 0, 1) := by decide +kernel
theorem dX3_solve_68 : decode cX3_solve 68 = .ok (.getfield 10, 3) := by decide +kernel
theorem dX3_solve_71 : decode cX3_solve 71 = .ok (.getfield 28, 3) := by decide +kernel
theorem dX3_solve_74 : decode cX3_solve 74 = .ok (.iload_n 3, 1) := by decide +kernel
theorem dX3_solve_75 : decode cX3_solve 75 = .ok (.iconst 0, 1) := by decide +kernel
theorem dX3_solve_76 : decode cX3_solve 76 = .ok (.invokevirtual 64, 3) := by decide +kernel
theorem dX3_solve_79 : decode cX3_solve 79 = .ok (.aload_n 0, 1) := by decide +kernel
theorem dX3_solve_80 : decode cX3_solve 80 = .ok (.getfield 10, 3) := by decide +kernel
theorem dX3_solve_83 : decode cX3_solve 83 = .ok (.getfield 28, 3) := by decide +kernel
theorem dX3_solve_86 : decode cX3_solve 86 = .ok (.iload_n 1, 1) := by decide +kernel
theorem dX3_solve_87 : decode cX3_solve 87 = .ok (.iconst 0, 1) := by decide +kernel
theorem dX3_solve_88 : decode cX3_solve 88 = .ok (.invokevirtual 64, 3) := by decide +kernel
theorem dX3_solve_91 : decode cX3_solve 91 = .ok (.isub, 1) := by decide +kernel
theorem dX3_solve_92 : decode cX3_solve 92 = .ok (.i2l, 1) := by decide +kernel
theorem dX3_solve_93 : decode cX3_solve 93 = .ok (.lmul, 1) := by decide +kernel
theorem dX3_solve_94 : decode cX3_solve 94 = .ok (.lstore 13, 2) := by decide +kernel
theorem dX3_solve_96 : decode cX3_solve 96 = .ok (.ldc2_w 207, 3) := by decide +kernel
theorem dX3_solve_99 : decode cX3_solve 99 = .ok (.aload_n 0, 1) := by decide +kernel
theorem dX3_solve_100 : decode cX3_solve 100 = .ok (.getfield 10, 3) := by decide +kernel
theorem dX3_solve_103 : decode cX3_solve 103 = .ok (.getfield 28, 3) := by decide +kernel
theorem dX3_solve_106 : decode cX3_solve 106 = .ok (.iload_n 3, 1) := by decide +kernel
theorem dX3_solve_107 : decode cX3_solve 107 = .ok (.iconst 1, 1) := by decide +kernel
theorem dX3_solve_108 : decode cX3_solve 108 = .ok (.invokevirtual 64, 3) := by decide +kernel
theorem dX3_solve_111 : decode cX3_solve 111 = .ok (.aload_n 0, 1) := by decide +kernel
theorem dX3_solve_112 : decode cX3_solve 112 = .ok (.getfield 10, 3) := by decide +kernel
theorem dX3_solve_115 : decode cX3_solve 115 = .ok (.getfield 28, 3) := by decide +kernel
theorem dX3_solve_118 : decode cX3_solve 118 = .ok (.iload_n 1, 1) := by decide +kernel
theorem dX3_solve_119 : decode cX3_solve 119 = .ok (.iconst 1, 1) := by decide +kernel
theorem dX3_solve_120 : decode cX3_solve 120 = .ok (.invokevirtual 64, 3) := by decide +kernel
theorem dX3_solve_123 : decode cX3_solve 123 = .ok (.isub, 1) := by decide +kernel
theorem dX3_solve_124 : decode cX3_solve 124 = .ok (.i2l, 1) := by decide +kernel
theorem dX3_solve_125 : decode cX3_solve 125 = .ok (.lmul, 1) := by decide +kernel
theorem dX3_solve_126 : decode cX3_solve 126 = .ok (.lstore 15, 2) := by decide +kernel
theorem dX3_solve_128 : decode cX3_solve 128 = .ok (.lload 9, 2) := by decide +kernel
theorem dX3_solve_130 : decode cX3_solve 130 = .ok (.lload 15, 2) := by decide +kernel
theorem dX3_solve_132 : decode cX3_solve 132 = .ok (.lmul, 1) := by decide +kernel
theorem dX3_solve_133 : decode cX3_solve 133 = .ok (.lload 13, 2) := by decide +kernel
theorem dX3_solve_135 : decode cX3_solve 135 = .ok (.lload 11, 2) := by decide +kernel
theorem dX3_solve_137 : decode cX3_solve 137 = .ok (.lmul, 1) := by decide +kernel
theorem dX3_solve_138 : decode cX3_solve 138 = .ok (.lsub, 1) := by decide +kernel
theorem dX3_solve_139 : decode cX3_solve 139 = .ok (.lstore 17, 2) := by decide +kernel
theorem dX3_solve_141 : decode cX3_solve 141 = .ok (.lload 17, 2) := by decide +kernel
theorem dX3_solve_143 : decode cX3_solve 143 = .ok (.lconst 0, 1) := by decide +kernel
theorem dX3_solve_144 : decode cX3_solve 144 = .ok (.lcmp, 1) := by decide +kernel
theorem dX3_solve_145 : decode cX3_solve 145 = .ok (.ifCond .ne 13, 3) := by decide +kernel
theorem dX3_solve_148 : decode cX3_solve 148 = .ok (.new 136, 3) := by decide +kernel
theorem dX3_solve_151 : decode cX3_solve 151 = .ok (.dup, 1) := by decide +kernel
theorem dX3_solve_152 : decode cX3_solve 152 = .ok (.ldc 209, 2) := by decide +kernel
theorem dX3_solve_154 : decode cX3_solve 154 = .ok (.invokespecial 140, 3) := by decide +kernel
theorem dX3_solve_157 : decode cX3_solve 157 = .ok (.athrow, 1) := by decide +kernel
theorem dX3_solve_158 : decode cX3_solve 158 = .ok (.iload 8, 2) := by decide +kernel
theorem dX3_solve_160 : decode cX3_solve 160 = .ok (.ifCond .ne 17, 3) := by decide +kernel
theorem dX3_solve_163 : decode cX3_solve 163 = .ok (.lload 4, 2) := by decide +kernel
theorem dX3_solve_165 : decode cX3_solve 165 = .ok (.lload 15, 2) := by decide +kernel
theorem dX3_solve_167 : decode cX3_solve 167 = .ok (.lmul, 1) := by decide +kernel
theorem dX3_solve_168 : decode cX3_solve 168 = .ok (.lload 6, 2) := by decide +kernel
theorem dX3_solve_170 : decode cX3_solve 170 = .ok (.lload 11, 2) := by decide +kernel
theorem dX3_solve_172 : decode cX3_solve 172 = .ok (.lmul, 1) := by decide +kernel
theorem dX3_solve_173 : decode cX3_solve 173 = .ok (.lsub, 1) := by decide +kernel
theorem dX3_solve_174 : decode cX3_solve 174 = .ok (.goto 14, 3) := by decide +kernel
theorem dX3_solve_177 : decode cX3_solve 177 = .ok (.lload 9, 2) := by decide +kernel
theorem dX3_solve_179 : decode cX3_solve 179 = .ok (.lload 6, 2) := by decide +kernel
theorem dX3_solve_181 : decode cX3_solve 181 = .ok (.lmul, 1) := by decide +kernel
theorem dX3_solve_182 : decode cX3_solve 182 = .ok (.lload 13, 2) := by decide +kernel
theorem dX3_solve_184 : decode cX3_solve 184 = .ok (.lload 4, 2) := by decide +kernel
theorem dX3_solve_186 : decode cX3_solve 186 = .ok (.lmul, 1) := by decide +kernel
theorem dX3_solve_187 : decode cX3_solve 187 = .ok (.lsub, 1) := by decide +kernel
theorem dX3_solve_188 : decode cX3_solve 188 = .ok (.lstore 19, 2) := by decide +kernel
theorem dX3_solve_190 : decode cX3_solve 190 = .ok (.lload 19, 2) := by decide +kernel
theorem dX3_solve_192 : decode cX3_solve 192 = .ok (.lload 17, 2) := by decide +kernel
theorem dX3_solve_194 : decode cX3_solve 194 = .ok (.invokestatic 211, 3) := by decide +kernel
theorem dX3_solve_197 : decode cX3_solve 197 = .ok (.lstore 21, 2) := by decide +kernel
theorem dX3_solve_199 : decode cX3_solve 199 = .ok (.lload 21, 2) := by decide +kernel
theorem dX3_solve_201 : decode cX3_solve 201 = .ok (.ldc2_w 215, 3) := by decide +kernel
theorem dX3_solve_204 : decode cX3_solve 204 = .ok (.lcmp, 1) := by decide +kernel
theorem dX3_solve_205 : decode cX3_solve 205 = .ok (.ifCond .lt 12, 3) := by decide +kernel
theorem dX3_solve_208 : decode cX3_solve 208 = .ok (.lload 21, 2) := by decide +kernel
theorem dX3_solve_210 : decode cX3_solve 210 = .ok (.ldc2_w 217, 3) := by decide +kernel
theorem dX3_solve_213 : decode cX3_solve 213 = .ok (.lcmp, 1) := by decide +kernel
theorem dX3_solve_214 : decode cX3_solve 214 = .ok (.ifCond .le 13, 3) := by decide +kernel
theorem dX3_solve_217 : decode cX3_solve 217 = .ok (.new 136, 3) := by decide +kernel
theorem dX3_solve_220 : decode cX3_solve 220 = .ok (.dup, 1) := by decide +kernel
theorem dX3_solve_221 : decode cX3_solve 221 = .ok (.ldc 219, 2) := by decide +kernel
theorem dX3_solve_223 : decode cX3_solve 223 = .ok (.invokespecial 140, 3) := by decide +kernel
theorem dX3_solve_226 : decode cX3_solve 226 = .ok (.athrow, 1) := by decide +kernel
theorem dX3_solve_227 : decode cX3_solve 227 = .ok (.lload 21, 2) := by decide +kernel
theorem dX3_solve_229 : decode cX3_solve 229 = .ok (.l2i, 1) := by decide +kernel
theorem dX3_solve_230 : decode cX3_solve 230 = .ok (.ireturn, 1) := by decide +kernel
theorem dX3_squareOf_0 : decode cX3_squareOf 0 = .ok (.iload_n 0, 1) := by decide +kernel
theorem dX3_squareOf_1 : decode cX3_squareOf 1 = .ok (.i2l, 1) := by decide +kernel
theorem dX3_squareOf_2 : decode cX3_squareOf 2 = .ok (.iload_n 0, 1) := by decide +kernel
theorem dX3_squareOf_3 : decode cX3_squareOf 3 = .ok (.i2l, 1) := by decide +kernel
theorem dX3_squareOf_4 : decode cX3_squareOf 4 = .ok (.lmul, 1) := by decide +kernel
theorem dX3_squareOf_5 : decode cX3_squareOf 5 = .ok (.lreturn, 1) := by decide +kernel
theorem dX3_mix_0 : decode cX3_mix 0 = .ok (.ldc2_w 221, 3) := by decide +kernel
theorem dX3_mix_3 : decode cX3_mix 3 = .ok (.lload_n 0, 1) := by decide +kernel
theorem dX3_mix_4 : decode cX3_mix 4 = .ok (.lmul, 1) := by decide +kernel
theorem dX3_mix_5 : decode cX3_mix 5 = .ok (.lload_n 2, 1) := by decide +kernel
theorem dX3_mix_6 : decode cX3_mix 6 = .ok (.ladd, 1) := by decide +kernel
theorem dX3_mix_7 : decode cX3_mix 7 = .ok (.lreturn, 1) := by decide +kernel
theorem dX3_floorLength_0 : decode cX3_floorLength 0 = .ok (.iload_n 0, 1) := by decide +kernel
theorem dX3_floorLength_1 : decode cX3_floorLength 1 = .ok (.iload_n 0, 1) := by decide +kernel
theorem dX3_floorLength_2 : decode cX3_floorLength 2 = .ok (.imul, 1) := by decide +kernel
theorem dX3_floorLength_3 : decode cX3_floorLength 3 = .ok (.iload_n 1, 1) := by decide +kernel
theorem dX3_floorLength_4 : decode cX3_floorLength 4 = .ok (.iload_n 1, 1) := by decide +kernel
theorem dX3_floorLength_5 : decode cX3_floorLength 5 = .ok (.imul, 1) := by decide +kernel
theorem dX3_floorLength_6 : decode cX3_floorLength 6 = .ok (.iadd, 1) := by decide +kernel
theorem dX3_floorLength_7 : decode cX3_floorLength 7 = .ok (.istore_n 2, 1) := by decide +kernel
theorem dX3_floorLength_8 : decode cX3_floorLength 8 = .ok (.iconst 0, 1) := by decide +kernel
theorem dX3_floorLength_9 : decode cX3_floorLength 9 = .ok (.istore_n 3, 1) := by decide +kernel
theorem dX3_floorLength_10 : decode cX3_floorLength 10 = .ok (.sipush 2048, 3) := by decide +kernel
theorem dX3_floorLength_13 : decode cX3_floorLength 13 = .ok (.istore 4, 2) := by decide +kernel
theorem dX3_floorLength_15 : decode cX3_floorLength 15 = .ok (.iload 4, 2) := by decide +kernel
theorem dX3_floorLength_17 : decode cX3_floorLength 17 = .ok (.ifCond .le 30, 3) := by decide +kernel
theorem dX3_floorLength_20 : decode cX3_floorLength 20 = .ok (.iload_n 3, 1) := by decide +kernel
theorem dX3_floorLength_21 : decode cX3_floorLength 21 = .ok (.iload 4, 2) := by decide +kernel
theorem dX3_floorLength_23 : decode cX3_floorLength 23 = .ok (.iadd, 1) := by decide +kernel
theorem dX3_floorLength_24 : decode cX3_floorLength 24 = .ok (.istore 5, 2) := by decide +kernel
theorem dX3_floorLength_26 : decode cX3_floorLength 26 = .ok (.iload 5, 2) := by decide +kernel
theorem dX3_floorLength_28 : decode cX3_floorLength 28 = .ok (.iload 5, 2) := by decide +kernel
theorem dX3_floorLength_30 : decode cX3_floorLength 30 = .ok (.imul, 1) := by decide +kernel
theorem dX3_floorLength_31 : decode cX3_floorLength 31 = .ok (.iload_n 2, 1) := by decide +kernel
theorem dX3_floorLength_32 : decode cX3_floorLength 32 = .ok (.if_icmp .gt 6, 3) := by decide +kernel
theorem dX3_floorLength_35 : decode cX3_floorLength 35 = .ok (.iload 5, 2) := by decide +kernel
theorem dX3_floorLength_37 : decode cX3_floorLength 37 = .ok (.istore_n 3, 1) := by decide +kernel
theorem dX3_floorLength_38 : decode cX3_floorLength 38 = .ok (.iload 4, 2) := by decide +kernel
theorem dX3_floorLength_40 : decode cX3_floorLength 40 = .ok (.iconst 2, 1) := by decide +kernel
theorem dX3_floorLength_41 : decode cX3_floorLength 41 = .ok (.idiv, 1) := by decide +kernel
theorem dX3_floorLength_42 : decode cX3_floorLength 42 = .ok (.istore 4, 2) := by decide +kernel
theorem dX3_floorLength_44 : decode cX3_floorLength 44 = .ok (.goto (-29), 3) := by decide +kernel
theorem dX3_floorLength_47 : decode cX3_floorLength 47 = .ok (.iload_n 3, 1) := by decide +kernel
theorem dX3_floorLength_48 : decode cX3_floorLength 48 = .ok (.ireturn, 1) := by decide +kernel
end
section
theorem dX4_init_0 : decode cX4_init 0 = .ok (.aload_n 0, 1) := by decide +kernel
theorem dX4_init_1 : decode cX4_init 1 = .ok (.invokespecial 1, 3) := by decide +kernel
theorem dX4_init_4 : decode cX4_init 4 = .ok (.aload_n 0, 1) := by decide +kernel
theorem dX4_init_5 : decode cX4_init 5 = .ok (.sipush 460, 3) := by decide +kernel
theorem dX4_init_8 : decode cX4_init 8 = .ok (.newarray .long, 2) := by decide +kernel
theorem dX4_init_10 : decode cX4_init 10 = .ok (.putfield 7, 3) := by decide +kernel
theorem dX4_init_13 : decode cX4_init 13 = .ok (.aload_n 0, 1) := by decide +kernel
theorem dX4_init_14 : decode cX4_init 14 = .ok (.sipush 1840, 3) := by decide +kernel
theorem dX4_init_17 : decode cX4_init 17 = .ok (.newarray .long, 2) := by decide +kernel
theorem dX4_init_19 : decode cX4_init 19 = .ok (.putfield 13, 3) := by decide +kernel
theorem dX4_init_22 : decode cX4_init 22 = .ok (.return_, 1) := by decide +kernel
theorem dX4_thrown_0 : decode cX4_thrown 0 = .ok (.aload_n 0, 1) := by decide +kernel
theorem dX4_thrown_1 : decode cX4_thrown 1 = .ok (.getfield 16, 3) := by decide +kernel
theorem dX4_thrown_4 : decode cX4_thrown 4 = .ok (.ireturn, 1) := by decide +kernel
theorem dX4_in_0 : decode cX4_in 0 = .ok (.lload_n 0, 1) := by decide +kernel
theorem dX4_in_1 : decode cX4_in 1 = .ok (.lload_n 2, 1) := by decide +kernel
theorem dX4_in_2 : decode cX4_in 2 = .ok (.lcmp, 1) := by decide +kernel
theorem dX4_in_3 : decode cX4_in 3 = .ok (.ifCond .lt 14, 3) := by decide +kernel
theorem dX4_in_6 : decode cX4_in 6 = .ok (.lload_n 0, 1) := by decide +kernel
theorem dX4_in_7 : decode cX4_in 7 = .ok (.lload 4, 2) := by decide +kernel
theorem dX4_in_9 : decode cX4_in 9 = .ok (.lcmp, 1) := by decide +kernel
theorem dX4_in_10 : decode cX4_in 10 = .ok (.ifCond .gt 7, 3) := by decide +kernel
theorem dX4_in_13 : decode cX4_in 13 = .ok (.iconst 1, 1) := by decide +kernel
theorem dX4_in_14 : decode cX4_in 14 = .ok (.goto 4, 3) := by decide +kernel
theorem dX4_in_17 : decode cX4_in 17 = .ok (.iconst 0, 1) := by decide +kernel
theorem dX4_in_18 : decode cX4_in 18 = .ok (.ireturn, 1) := by decide +kernel
theorem dX4_goes_0 : decode cX4_goes 0 = .ok (.aload_n 0, 1) := by decide +kernel
theorem dX4_goes_1 : decode cX4_goes 1 = .ok (.iload_n 1, 1) := by decide +kernel
theorem dX4_goes_2 : decode cX4_goes 2 = .ok (.ifCond .ne 7, 3) := by decide +kernel
theorem dX4_goes_5 : decode cX4_goes 5 = .ok (.iconst 1, 1) := by decide +kernel
theorem dX4_goes_6 : decode cX4_goes 6 = .ok (.goto 20, 3) := by decide +kernel
theorem dX4_goes_9 : decode cX4_goes 9 = .ok (.iload_n 2, 1) := by decide +kernel
theorem dX4_goes_10 : decode cX4_goes 10 = .ok (.ifCond .ne 7, 3) := by decide +kernel
theorem dX4_goes_13 : decode cX4_goes 13 = .ok (.iconst 2, 1) := by decide +kernel
theorem dX4_goes_14 : decode cX4_goes 14 = .ok (.goto 12, 3) := by decide +kernel
theorem dX4_goes_17 : decode cX4_goes 17 = .ok (.iload_n 3, 1) := by decide +kernel
theorem dX4_goes_18 : decode cX4_goes 18 = .ok (.ifCond .ne 7, 3) := by decide +kernel
theorem dX4_goes_21 : decode cX4_goes 21 = .ok (.iconst 3, 1) := by decide +kernel
theorem dX4_goes_22 : decode cX4_goes 22 = .ok (.goto 4, 3) := by decide +kernel
theorem dX4_goes_25 : decode cX4_goes 25 = .ok (.iconst 0, 1) := by decide +kernel
theorem dX4_goes_26 : decode cX4_goes 26 = .ok (.putfield 16, 3) := by decide +kernel
theorem dX4_goes_29 : decode cX4_goes 29 = .ok (.aload_n 0, 1) := by decide +kernel
theorem dX4_goes_30 : decode cX4_goes 30 = .ok (.getfield 16, 3) := by decide +kernel
theorem dX4_goes_33 : decode cX4_goes 33 = .ok (.ifCond .ne 7, 3) := by decide +kernel
theorem dX4_goes_36 : decode cX4_goes 36 = .ok (.iconst 1, 1) := by decide +kernel
theorem dX4_goes_37 : decode cX4_goes 37 = .ok (.goto 4, 3) := by decide +kernel
theorem dX4_goes_40 : decode cX4_goes 40 = .ok (.iconst 0, 1) := by decide +kernel
theorem dX4_goes_41 : decode cX4_goes 41 = .ok (.ireturn, 1) := by decide +kernel
theorem dX4_save_0 : decode cX4_save 0 = .ok (.aload_n 0, 1) := by decide +kernel
theorem dX4_save_1 : decode cX4_save 1 = .ok (.getfield 20, 3) := by decide +kernel
theorem dX4_save_4 : decode cX4_save 4 = .ok (.iconst 4, 1) := by decide +kernel
theorem dX4_save_5 : decode cX4_save 5 = .ok (.if_icmp .ne 44, 3) := by decide +kernel
theorem dX4_save_8 : decode cX4_save 8 = .ok (.iconst 0, 1) := by decide +kernel
theorem dX4_save_9 : decode cX4_save 9 = .ok (.istore_n 1, 1) := by decide +kernel
theorem dX4_save_10 : decode cX4_save 10 = .ok (.iload_n 1, 1) := by decide +kernel
theorem dX4_save_11 : decode cX4_save 11 = .ok (.sipush 1380, 3) := by decide +kernel
theorem dX4_save_14 : decode cX4_save 14 = .ok (.if_icmp .ge 25, 3) := by decide +kernel
theorem dX4_save_17 : decode cX4_save 17 = .ok (.aload_n 0, 1) := by decide +kernel
theorem dX4_save_18 : decode cX4_save 18 = .ok (.getfield 13, 3) := by decide +kernel
theorem dX4_save_21 : decode cX4_save 21 = .ok (.iload_n 1, 1) := by decide +kernel
theorem dX4_save_22 : decode cX4_save 22 = .ok (.aload_n 0, 1) := by decide +kernel
theorem dX4_save_23 : decode cX4_save 23 = .ok (.getfield 13, 3) := by decide +kernel
theorem dX4_save_26 : decode cX4_save 26 = .ok (.iload_n 1, 1) := by decide +kernel
theorem dX4_save_27 : decode cX4_save 27 = .ok (.sipush 460, 3) := by decide +kernel
theorem dX4_save_30 : decode cX4_save 30 = .ok (.iadd, 1) := by decide +kernel
theorem dX4_save_31 : decode cX4_save 31 = .ok (.laload, 1) := by decide +kernel
theorem dX4_save_32 : decode cX4_save 32 = .ok (.lastore, 1) := by decide +kernel
theorem dX4_save_33 : decode cX4_save 33 = .ok (.iinc 1 1, 3) := by decide +kernel
theorem dX4_save_36 : decode cX4_save 36 = .ok (.goto (-26), 3) := by decide +kernel
theorem dX4_save_39 : decode cX4_save 39 = .ok (.aload_n 0, 1) := by decide +kernel
theorem dX4_save_40 : decode cX4_save 40 = .ok (.dup, 1) := by decide +kernel
theorem dX4_save_41 : decode cX4_save 41 = .ok (.getfield 20, 3) := by decide +kernel
theorem dX4_save_44 : decode cX4_save 44 = .ok (.iconst 1, 1) := by decide +kernel
theorem dX4_save_45 : decode cX4_save 45 = .ok (.isub, 1) := by decide +kernel
theorem dX4_save_46 : decode cX4_save 46 = .ok (.putfield 20, 3) := by decide +kernel
theorem dX4_save_49 : decode cX4_save 49 = .ok (.iconst 0, 1) := by decide +kernel
theorem dX4_save_50 : decode cX4_save 50 = .ok (.istore_n 1, 1) := by decide +kernel
theorem dX4_save_51 : decode cX4_save 51 = .ok (.iload_n 1, 1) := by decide +kernel
theorem dX4_save_52 : decode cX4_save 52 = .ok (.sipush 460, 3) := by decide +kernel
theorem dX4_save_55 : decode cX4_save 55 = .ok (.if_icmp .ge 30, 3) := by decide +kernel
theorem dX4_save_58 : decode cX4_save 58 = .ok (.aload_n 0, 1) := by decide +kernel
theorem dX4_save_59 : decode cX4_save 59 = .ok (.getfield 13, 3) := by decide +kernel
theorem dX4_save_62 : decode cX4_save 62 = .ok (.sipush 460, 3) := by decide +kernel
theorem dX4_save_65 : decode cX4_save 65 = .ok (.aload_n 0, 1) := by decide +kernel
theorem dX4_save_66 : decode cX4_save 66 = .ok (.getfield 20, 3) := by decide +kernel
theorem dX4_save_69 : decode cX4_save 69 = .ok (.imul, 1) := by decide +kernel
theorem dX4_save_70 : decode cX4_save 70 = .ok (.iload_n 1, 1) := by decide +kernel
theorem dX4_save_71 : decode cX4_save 71 = .ok (.iadd, 1) := by decide +kernel
theorem dX4_save_72 : decode cX4_save 72 = .ok (.aload_n 0, 1) := by decide +kernel
theorem dX4_save_73 : decode cX4_save 73 = .ok (.getfield 7, 3) := by decide +kernel
theorem dX4_save_76 : decode cX4_save 76 = .ok (.iload_n 1, 1) := by decide +kernel
theorem dX4_save_77 : decode cX4_save 77 = .ok (.laload, 1) := by decide +kernel
theorem dX4_save_78 : decode cX4_save 78 = .ok (.lastore, 1) := by decide +kernel
theorem dX4_save_79 : decode cX4_save 79 = .ok (.iinc 1 1, 3) := by decide +kernel
theorem dX4_save_82 : decode cX4_save 82 = .ok (.goto (-31), 3) := by decide +kernel
theorem dX4_save_85 : decode cX4_save 85 = .ok (.aload_n 0, 1) := by decide +kernel
theorem dX4_save_86 : decode cX4_save 86 = .ok (.dup, 1) := by decide +kernel
theorem dX4_save_87 : decode cX4_save 87 = .ok (.getfield 20, 3) := by decide +kernel
theorem dX4_save_90 : decode cX4_save 90 = .ok (.iconst 1, 1) := by decide +kernel
theorem dX4_save_91 : decode cX4_save 91 = .ok (.iadd, 1) := by decide +kernel
theorem dX4_save_92 : decode cX4_save 92 = .ok (.putfield 20, 3) := by decide +kernel
theorem dX4_save_95 : decode cX4_save 95 = .ok (.return_, 1) := by decide +kernel
theorem dX4_isNode_0 : decode cX4_isNode 0 = .ok (.iload_n 1, 1) := by decide +kernel
theorem dX4_isNode_1 : decode cX4_isNode 1 = .ok (.i2l, 1) := by decide +kernel
theorem dX4_isNode_2 : decode cX4_isNode 2 = .ok (.lconst 0, 1) := by decide +kernel
theorem dX4_isNode_3 : decode cX4_isNode 3 = .ok (.aload_n 0, 1) := by decide +kernel
theorem dX4_isNode_4 : decode cX4_isNode 4 = .ok (.getfield 7, 3) := by decide +kernel
theorem dX4_isNode_7 : decode cX4_isNode 7 = .ok (.iconst 1, 1) := by decide +kernel
theorem dX4_isNode_8 : decode cX4_isNode 8 = .ok (.laload, 1) := by decide +kernel
theorem dX4_isNode_9 : decode cX4_isNode 9 = .ok (.lconst 1, 1) := by decide +kernel
theorem dX4_isNode_10 : decode cX4_isNode 10 = .ok (.lsub, 1) := by decide +kernel
theorem dX4_isNode_11 : decode cX4_isNode 11 = .ok (.invokestatic 23, 3) := by decide +kernel
theorem dX4_isNode_14 : decode cX4_isNode 14 = .ok (.ireturn, 1) := by decide +kernel
theorem dX4_of_0 : decode cX4_of 0 = .ok (.aload_n 0, 1) := by decide +kernel
theorem dX4_of_1 : decode cX4_of 1 = .ok (.getfield 7, 3) := by decide +kernel
theorem dX4_of_4 : decode cX4_of 4 = .ok (.iconst 2, 1) := by decide +kernel
theorem dX4_of_5 : decode cX4_of 5 = .ok (.bipush 6, 2) := by decide +kernel
theorem dX4_of_7 : decode cX4_of 7 = .ok (.iload_n 1, 1) := by decide +kernel
theorem dX4_of_8 : decode cX4_of 8 = .ok (.imul, 1) := by decide +kernel
theorem dX4_of_9 : decode cX4_of 9 = .ok (.iadd, 1) := by decide +kernel
theorem dX4_of_10 : decode cX4_of 10 = .ok (.iload_n 2, 1) := by decide +kernel
theorem dX4_of_11 : decode cX4_of 11 = .ok (.iadd, 1) := by decide +kernel
theorem dX4_of_12 : decode cX4_of 12 = .ok (.laload, 1) := by decide +kernel
theorem dX4_of_13 : decode cX4_of 13 = .ok (.lreturn, 1) := by decide +kernel
theorem dX4_isPlace_0 : decode cX4_isPlace 0 = .ok (.iload_n 0, 1) := by decide +kernel
theorem dX4_isPlace_1 : decode cX4_isPlace 1 = .ok (.i2l, 1) := by decide +kernel
theorem dX4_isPlace_2 : decode cX4_isPlace 2 = .ok (.ldc2_w 27, 3) := by decide +kernel
theorem dX4_isPlace_5 : decode cX4_isPlace 5 = .ok (.ldc2_w 29, 3) := by decide +kernel
theorem dX4_isPlace_8 : decode cX4_isPlace 8 = .ok (.invokestatic 23, 3) := by decide +kernel
theorem dX4_isPlace_11 : decode cX4_isPlace 11 = .ok (.ireturn, 1) := by decide +kernel
theorem dX4_addNode_0 : decode cX4_addNode 0 = .ok (.iload_n 1, 1) := by decide +kernel
theorem dX4_addNode_1 : decode cX4_addNode 1 = .ok (.invokestatic 31, 3) := by decide +kernel
theorem dX4_addNode_4 : decode cX4_addNode 4 = .ok (.ifCond .eq 54, 3) := by decide +kernel
theorem dX4_addNode_7 : decode cX4_addNode 7 = .ok (.iload_n 2, 1) := by decide +kernel
theorem dX4_addNode_8 : decode cX4_addNode 8 = .ok (.invokestatic 31, 3) := by decide +kernel
theorem dX4_addNode_11 : decode cX4_addNode 11 = .ok (.ifCond .eq 47, 3) := by decide +kernel
theorem dX4_addNode_14 : decode cX4_addNode 14 = .ok (.iload_n 3, 1) := by decide +kernel
theorem dX4_addNode_15 : decode cX4_addNode 15 = .ok (.i2l, 1) := by decide +kernel
theorem dX4_addNode_16 : decode cX4_addNode 16 = .ok (.ldc2_w 35, 3) := by decide +kernel
theorem dX4_addNode_19 : decode cX4_addNode 19 = .ok (.ldc2_w 37, 3) := by decide +kernel
theorem dX4_addNode_22 : decode cX4_addNode 22 = .ok (.invokestatic 23, 3) := by decide +kernel
theorem dX4_addNode_25 : decode cX4_addNode 25 = .ok (.ifCond .eq 33, 3) := by decide +kernel
theorem dX4_addNode_28 : decode cX4_addNode 28 = .ok (.iload 4, 2) := by decide +kernel
theorem dX4_addNode_30 : decode cX4_addNode 30 = .ok (.i2l, 1) := by decide +kernel
theorem dX4_addNode_31 : decode cX4_addNode 31 = .ok (.lconst 0, 1) := by decide +kernel
theorem dX4_addNode_32 : decode cX4_addNode 32 = .ok (.ldc2_w 39, 3) := by decide +kernel
theorem dX4_addNode_35 : decode cX4_addNode 35 = .ok (.invokestatic 23, 3) := by decide +kernel
theorem dX4_addNode_38 : decode cX4_addNode 38 = .ok (.ifCond .eq 20, 3) := by decide +kernel
theorem dX4_addNode_41 : decode cX4_addNode 41 = .ok (.iload 5, 2) := by decide +kernel
theorem dX4_addNode_43 : decode cX4_addNode 43 = .ok (.i2l, 1) := by decide +kernel
theorem dX4_addNode_44 : decode cX4_addNode 44 = .ok (.lconst 0, 1) := by decide +kernel
theorem dX4_addNode_45 : decode cX4_addNode 45 = .ok (.ldc2_w 41, 3) := by decide +kernel
theorem dX4_addNode_48 : decode cX4_addNode 48 = .ok (.invokestatic 23, 3) := by decide +kernel
theorem dX4_addNode_51 : decode cX4_addNode 51 = .ok (.ifCond .eq 7, 3) := by decide +kernel
theorem dX4_addNode_54 : decode cX4_addNode 54 = .ok (.iconst 1, 1) := by decide +kernel
theorem dX4_addNode_55 : decode cX4_addNode 55 = .ok (.goto 4, 3) := by decide +kernel
theorem dX4_addNode_58 : decode cX4_addNode 58 = .ok (.iconst 0, 1) := by decide +kernel
theorem dX4_addNode_59 : decode cX4_addNode 59 = .ok (.istore 6, 2) := by decide +kernel
theorem dX4_addNode_61 : decode cX4_addNode 61 = .ok (.aload_n 0, 1) := by decide +kernel
theorem dX4_addNode_62 : decode cX4_addNode 62 = .ok (.iload 6, 2) := by decide +kernel
theorem dX4_addNode_64 : decode cX4_addNode 64 = .ok (.aload_n 0, 1) := by decide +kernel
theorem dX4_addNode_65 : decode cX4_addNode 65 = .ok (.getfield 7, 3) := by decide +kernel
theorem dX4_addNode_68 : decode cX4_addNode 68 = .ok (.iconst 1, 1) := by decide +kernel
theorem dX4_addNode_69 : decode cX4_addNode 69 = .ok (.laload, 1) := by decide +kernel
theorem dX4_addNode_70 : decode cX4_addNode 70 = .ok (.ldc2_w 43, 3) := by decide +kernel
theorem dX4_addNode_73 : decode cX4_addNode 73 = .ok (.lcmp, 1) := by decide +kernel
theorem dX4_addNode_74 : decode cX4_addNode 74 = .ok (.ifCond .ge 7, 3) := by decide +kernel
theorem dX4_addNode_77 : decode cX4_addNode 77 = .ok (.iconst 1, 1) := by decide +kernel
theorem dX4_addNode_78 : decode cX4_addNode 78 = .ok (.goto 4, 3) := by decide +kernel
theorem dX4_addNode_81 : decode cX4_addNode 81 = .ok (.iconst 0, 1) := by decide +kernel
theorem dX4_addNode_82 : decode cX4_addNode 82 = .ok (.iconst 1, 1) := by decide +kernel
theorem dX4_addNode_83 : decode cX4_addNode 83 = .ok (.invokevirtual 45, 3) := by decide +kernel
theorem dX4_addNode_86 : decode cX4_addNode 86 = .ok (.ifCond .ne 5, 3) := by decide +kernel
theorem dX4_addNode_89 : decode cX4_addNode 89 = .ok (.iconst 0, 1) := by decide +kernel
theorem dX4_addNode_90 : decode cX4_addNode 90 = .ok (.ireturn, 1) := by decide +kernel
theorem dX4_addNode_91 : decode cX4_addNode 91 = .ok (.aload_n 0, 1) := by decide +kernel
theorem dX4_addNode_92 : decode cX4_addNode 92 = .ok (.invokevirtual 49, 3) := by decide +kernel
theorem dX4_addNode_95 : decode cX4_addNode 95 = .ok (.iconst 2, 1) := by decide +kernel
theorem dX4_addNode_96 : decode cX4_addNode 96 = .ok (.bipush 6, 2) := by decide +kernel
theorem dX4_addNode_98 : decode cX4_addNode 98 = .ok (.aload_n 0, 1) := by decide +kernel
theorem dX4_addNode_99 : decode cX4_addNode 99 = .ok (.getfield 7, 3) := by decide +kernel
theorem dX4_addNode_102 : decode cX4_addNode 102 = .ok (.iconst 1, 1) := by decide +kernel
theorem dX4_addNode_103 : decode cX4_addNode 103 = .ok (.laload, 1) := by decide +kernel
theorem dX4_addNode_104 : decode cX4_addNode 104 = .ok (.l2i, 1) := by decide +kernel
theorem dX4_addNode_105 : decode cX4_addNode 105 = .ok (.imul, 1) := by decide +kernel
theorem dX4_addNode_106 : decode cX4_addNode 106 = .ok (.iadd, 1) := by decide +kernel
theorem dX4_addNode_107 : decode cX4_addNode 107 = .ok (.istore 7, 2) := by decide +kernel
theorem dX4_addNode_109 : decode cX4_addNode 109 = .ok (.aload_n 0, 1) := by decide +kernel
theorem dX4_addNode_110 : decode cX4_addNode 110 = .ok (.getfield 7, 3) := by decide +kernel
theorem dX4_addNode_113 : decode cX4_addNode 113 = .ok (.iload 7, 2) := by decide +kernel
theorem dX4_addNode_115 : decode cX4_addNode 115 = .ok (.iconst 0, 1) := by decide +kernel
theorem dX4_addNode_116 : decode cX4_addNode 116 = .ok (.iadd, 1) := by decide +kernel
theorem dX4_addNode_117 : decode cX4_addNode 117 = .ok (.iload_n 1, 1) := by decide +kernel
theorem dX4_addNode_118 : decode cX4_addNode 118 = .ok (.i2l, 1) := by decide +kernel
theorem dX4_addNode_119 : decode cX4_addNode 119 = .ok (.lastore, 1) := by decide +kernel
theorem dX4_addNode_120 : decode cX4_addNode 120 = .ok (.aload_n 0, 1) := by decide +kernel
theorem dX4_addNode_121 : decode cX4_addNode 121 = .ok (.getfield 7, 3) := by decide +kernel
theorem dX4_addNode_124 : decode cX4_addNode 124 = .ok (.iload 7, 2) := by decide +kernel
theorem dX4_addNode_126 : decode cX4_addNode 126 = .ok (.iconst 1, 1) := by decide +kernel
theorem dX4_addNode_127 : decode cX4_addNode 127 = .ok (.iadd, 1) := by decide +kernel
theorem dX4_addNode_128 : decode cX4_addNode 128 = .ok (.iload_n 2, 1) := by decide +kernel
theorem dX4_addNode_129 : decode cX4_addNode 129 = .ok (.i2l, 1) := by decide +kernel
theorem dX4_addNode_130 : decode cX4_addNode 130 = .ok (.lastore, 1) := by decide +kernel
theorem dX4_addNode_131 : decode cX4_addNode 131 = .ok (.aload_n 0, 1) := by decide +kernel
theorem dX4_addNode_132 : decode cX4_addNode 132 = .ok (.getfield 7, 3) := by decide +kernel
theorem dX4_addNode_135 : decode cX4_addNode 135 = .ok (.iload 7, 2) := by decide +kernel
theorem dX4_addNode_137 : decode cX4_addNode 137 = .ok (.iconst 2, 1) := by decide +kernel
theorem dX4_addNode_138 : decode cX4_addNode 138 = .ok (.iadd, 1) := by decide +kernel
theorem dX4_addNode_139 : decode cX4_addNode 139 = .ok (.iload_n 3, 1) := by decide +kernel
theorem dX4_addNode_140 : decode cX4_addNode 140 = .ok (.i2l, 1) := by decide +kernel
theorem dX4_addNode_141 : decode cX4_addNode 141 = .ok (.lastore, 1) := by decide +kernel
theorem dX4_addNode_142 : decode cX4_addNode 142 = .ok (.aload_n 0, 1) := by decide +kernel
theorem dX4_addNode_143 : decode cX4_addNode 143 = .ok (.getfield 7, 3) := by decide +kernel
theorem dX4_addNode_146 : decode cX4_addNode 146 = .ok (.iload 7, 2) := by decide +kernel
theorem dX4_addNode_148 : decode cX4_addNode 148 = .ok (.iconst 3, 1) := by decide +kernel
theorem dX4_addNode_149 : decode cX4_addNode 149 = .ok (.iadd, 1) := by decide +kernel
theorem dX4_addNode_150 : decode cX4_addNode 150 = .ok (.iload 4, 2) := by decide +kernel
theorem dX4_addNode_152 : decode cX4_addNode 152 = .ok (.i2l, 1) := by decide +kernel
theorem dX4_addNode_153 : decode cX4_addNode 153 = .ok (.lastore, 1) := by decide +kernel
theorem dX4_addNode_154 : decode cX4_addNode 154 = .ok (.aload_n 0, 1) := by decide +kernel
theorem dX4_addNode_155 : decode cX4_addNode 155 = .ok (.getfield 7, 3) := by decide +kernel
theorem dX4_addNode_158 : decode cX4_addNode 158 = .ok (.iload 7, 2) := by decide +kernel
theorem dX4_addNode_160 : decode cX4_addNode 160 = .ok (.iconst 4, 1) := by decide +kernel
theorem dX4_addNode_161 : decode cX4_addNode 161 = .ok (.iadd, 1) := by decide +kernel
theorem dX4_addNode_162 : decode cX4_addNode 162 = .ok (.iload 5, 2) := by decide +kernel
theorem dX4_addNode_164 : decode cX4_addNode 164 = .ok (.i2l, 1) := by decide +kernel
theorem dX4_addNode_165 : decode cX4_addNode 165 = .ok (.lastore, 1) := by decide +kernel
theorem dX4_addNode_166 : decode cX4_addNode 166 = .ok (.aload_n 0, 1) := by decide +kernel
theorem dX4_addNode_167 : decode cX4_addNode 167 = .ok (.getfield 7, 3) := by decide +kernel
theorem dX4_addNode_170 : decode cX4_addNode 170 = .ok (.iload 7, 2) := by decide +kernel
theorem dX4_addNode_172 : decode cX4_addNode 172 = .ok (.iconst 5, 1) := by decide +kernel
theorem dX4_addNode_173 : decode cX4_addNode 173 = .ok (.iadd, 1) := by decide +kernel
theorem dX4_addNode_174 : decode cX4_addNode 174 = .ok (.lconst 0, 1) := by decide +kernel
theorem dX4_addNode_175 : decode cX4_addNode 175 = .ok (.lastore, 1) := by decide +kernel
theorem dX4_addNode_176 : decode cX4_addNode 176 = .ok (.aload_n 0, 1) := by decide +kernel
theorem dX4_addNode_177 : decode cX4_addNode 177 = .ok (.getfield 7, 3) := by decide +kernel
theorem dX4_addNode_180 : decode cX4_addNode 180 = .ok (.iconst 1, 1) := by decide +kernel
theorem dX4_addNode_181 : decode cX4_addNode 181 = .ok (.dup2, 1) := by decide +kernel
theorem dX4_addNode_182 : decode cX4_addNode 182 = .ok (.laload, 1) := by decide +kernel
theorem dX4_addNode_183 : decode cX4_addNode 183 = .ok (.lconst 1, 1) := by decide +kernel
theorem dX4_addNode_184 : decode cX4_addNode 184 = .ok (.ladd, 1) := by decide +kernel
theorem dX4_addNode_185 : decode cX4_addNode 185 = .ok (.lastore, 1) := by decide +kernel
theorem dX4_addNode_186 : decode cX4_addNode 186 = .ok (.aload_n 0, 1) := by decide +kernel
theorem dX4_addNode_187 : decode cX4_addNode 187 = .ok (.getfield 7, 3) := by decide +kernel
theorem dX4_addNode_190 : decode cX4_addNode 190 = .ok (.iconst 1, 1) := by decide +kernel
theorem dX4_addNode_191 : decode cX4_addNode 191 = .ok (.laload, 1) := by decide +kernel
theorem dX4_addNode_192 : decode cX4_addNode 192 = .ok (.l2i, 1) := by decide +kernel
theorem dX4_addNode_193 : decode cX4_addNode 193 = .ok (.iconst 1, 1) := by decide +kernel
theorem dX4_addNode_194 : decode cX4_addNode 194 = .ok (.isub, 1) := by decide +kernel
theorem dX4_addNode_195 : decode cX4_addNode 195 = .ok (.ireturn, 1) := by decide +kernel
theorem dX4_rootOf_0 : decode cX4_rootOf 0 = .ok (.lload_n 0, 1) := by decide +kernel
theorem dX4_rootOf_1 : decode cX4_rootOf 1 = .ok (.lload_n 0, 1) := by decide +kernel
theorem dX4_rootOf_2 : decode cX4_rootOf 2 = .ok (.lmul, 1) := by decide +kernel
theorem dX4_rootOf_3 : decode cX4_rootOf 3 = .ok (.lload_n 2, 1) := by decide +kernel
theorem dX4_rootOf_4 : decode cX4_rootOf 4 = .ok (.lload_n 2, 1) := by decide +kernel
theorem dX4_rootOf_5 : decode cX4_rootOf 5 = .ok (.lmul, 1) := by decide +kernel
theorem dX4_rootOf_6 : decode cX4_rootOf 6 = .ok (.ladd, 1) := by decide +kernel
theorem dX4_rootOf_7 : decode cX4_rootOf 7 = .ok (.lstore 4, 2) := by decide +kernel
theorem dX4_rootOf_9 : decode cX4_rootOf 9 = .ok (.lconst 0, 1) := by decide +kernel
theorem dX4_rootOf_10 : decode cX4_rootOf 10 = .ok (.lstore 6, 2) := by decide +kernel
theorem dX4_rootOf_12 : decode cX4_rootOf 12 = .ok (.ldc2_w 52, 3) := by decide +kernel
theorem dX4_rootOf_15 : decode cX4_rootOf 15 = .ok (.lstore 8, 2) := by decide +kernel
theorem dX4_rootOf_17 : decode cX4_rootOf 17 = .ok (.lload 6, 2) := by decide +kernel
theorem dX4_rootOf_19 : decode cX4_rootOf 19 = .ok (.lload 8, 2) := by decide +kernel
theorem dX4_rootOf_21 : decode cX4_rootOf 21 = .ok (.lcmp, 1) := by decide +kernel
theorem dX4_rootOf_22 : decode cX4_rootOf 22 = .ok (.ifCond .ge 43, 3) := by decide +kernel
theorem dX4_rootOf_25 : decode cX4_rootOf 25 = .ok (.lload 6, 2) := by decide +kernel
theorem dX4_rootOf_27 : decode cX4_rootOf 27 = .ok (.lload 8, 2) := by decide +kernel
theorem dX4_rootOf_29 : decode cX4_rootOf 29 = .ok (.ladd, 1) := by decide +kernel
theorem dX4_rootOf_30 : decode cX4_rootOf 30 = .ok (.lconst 1, 1) := by decide +kernel
theorem dX4_rootOf_31 : decode cX4_rootOf 31 = .ok (.ladd, 1) := by decide +kernel
theorem dX4_rootOf_32 : decode cX4_rootOf 32 = .ok (.ldc2_w 54, 3) := by decide +kernel
theorem dX4_rootOf_35 : decode cX4_rootOf 35 = .ok (.ldiv, 1) := by decide +kernel
theorem dX4_rootOf_36 : decode cX4_rootOf 36 = .ok (.lstore 10, 2) := by decide +kernel
theorem dX4_rootOf_38 : decode cX4_rootOf 38 = .ok (.lload 10, 2) := by decide +kernel
theorem dX4_rootOf_40 : decode cX4_rootOf 40 = .ok (.lload 10, 2) := by decide +kernel
theorem dX4_rootOf_42 : decode cX4_rootOf 42 = .ok (.lmul, 1) := by decide +kernel
theorem dX4_rootOf_43 : decode cX4_rootOf 43 = .ok (.lload 4, 2) := by decide +kernel
theorem dX4_rootOf_45 : decode cX4_rootOf 45 = .ok (.lcmp, 1) := by decide +kernel
theorem dX4_rootOf_46 : decode cX4_rootOf 46 = .ok (.ifCond .gt 10, 3) := by decide +kernel
theorem dX4_rootOf_49 : decode cX4_rootOf 49 = .ok (.lload 10, 2) := by decide +kernel
theorem dX4_rootOf_51 : decode cX4_rootOf 51 = .ok (.lstore 6, 2) := by decide +kernel
theorem dX4_rootOf_53 : decode cX4_rootOf 53 = .ok (.goto 9, 3) := by decide +kernel
theorem dX4_rootOf_56 : decode cX4_rootOf 56 = .ok (.lload 10, 2) := by decide +kernel
theorem dX4_rootOf_58 : decode cX4_rootOf 58 = .ok (.lconst 1, 1) := by decide +kernel
theorem dX4_rootOf_59 : decode cX4_rootOf 59 = .ok (.lsub, 1) := by decide +kernel
theorem dX4_rootOf_60 : decode cX4_rootOf 60 = .ok (.lstore 8, 2) := by decide +kernel
theorem dX4_rootOf_62 : decode cX4_rootOf 62 = .ok (.goto (-45), 3) := by decide +kernel
theorem dX4_rootOf_65 : decode cX4_rootOf 65 = .ok (.lload 6, 2) := by decide +kernel
theorem dX4_rootOf_67 : decode cX4_rootOf 67 = .ok (.lreturn, 1) := by decide +kernel
theorem dX4_distanceOf_0 : decode cX4_distanceOf 0 = .ok (.aload_n 0, 1) := by decide +kernel
theorem dX4_distanceOf_1 : decode cX4_distanceOf 1 = .ok (.iload_n 1, 1) := by decide +kernel
theorem dX4_distanceOf_2 : decode cX4_distanceOf 2 = .ok (.iconst 0, 1) := by decide +kernel
theorem dX4_distanceOf_3 : decode cX4_distanceOf 3 = .ok (.invokevirtual 56, 3) := by decide +kernel
theorem dX4_distanceOf_6 : decode cX4_distanceOf 6 = .ok (.aload_n 0, 1) := by decide +kernel
theorem dX4_distanceOf_7 : decode cX4_distanceOf 7 = .ok (.iload_n 2, 1) := by decide +kernel
theorem dX4_distanceOf_8 : decode cX4_distanceOf 8 = .ok (.iconst 0, 1) := by decide +kernel
theorem dX4_distanceOf_9 : decode cX4_distanceOf 9 = .ok (.invokevirtual 56, 3) := by decide +kernel
theorem dX4_distanceOf_12 : decode cX4_distanceOf 12 = .ok (.lsub, 1) := by decide +kernel
theorem dX4_distanceOf_13 : decode cX4_distanceOf 13 = .ok (.aload_n 0, 1) := by decide +kernel
theorem dX4_distanceOf_14 : decode cX4_distanceOf 14 = .ok (.iload_n 1, 1) := by decide +kernel
theorem dX4_distanceOf_15 : decode cX4_distanceOf 15 = .ok (.iconst 1, 1) := by decide +kernel
theorem dX4_distanceOf_16 : decode cX4_distanceOf 16 = .ok (.invokevirtual 56, 3) := by decide +kernel
theorem dX4_distanceOf_19 : decode cX4_distanceOf 19 = .ok (.aload_n 0, 1) := by decide +kernel
theorem dX4_distanceOf_20 : decode cX4_distanceOf 20 = .ok (.iload_n 2, 1) := by decide +kernel
theorem dX4_distanceOf_21 : decode cX4_distanceOf 21 = .ok (.iconst 1, 1) := by decide +kernel
theorem dX4_distanceOf_22 : decode cX4_distanceOf 22 = .ok (.invokevirtual 56, 3) := by decide +kernel
theorem dX4_distanceOf_25 : decode cX4_distanceOf 25 = .ok (.lsub, 1) := by decide +kernel
theorem dX4_distanceOf_26 : decode cX4_distanceOf 26 = .ok (.invokestatic 60, 3) := by decide +kernel
theorem dX4_distanceOf_29 : decode cX4_distanceOf 29 = .ok (.lreturn, 1) := by decide +kernel
theorem dX4_move_0 : decode cX4_move 0 = .ok (.aload_n 0, 1) := by decide +kernel
theorem dX4_move_1 : decode cX4_move 1 = .ok (.aload_n 0, 1) := by decide +kernel
theorem dX4_move_2 : decode cX4_move 2 = .ok (.iload_n 1, 1) := by decide +kernel
theorem dX4_move_3 : decode cX4_move 3 = .ok (.invokevirtual 64, 3) := by decide +kernel
theorem dX4_move_6 : decode cX4_move 6 = .ok (.iload_n 2, 1) := by decide +kernel
theorem dX4_move_7 : decode cX4_move 7 = .ok (.invokestatic 31, 3) := by decide +kernel
theorem dX4_move_10 : decode cX4_move 10 = .ok (.ifCond .eq 14, 3) := by decide +kernel
theorem dX4_move_13 : decode cX4_move 13 = .ok (.iload_n 3, 1) := by decide +kernel
theorem dX4_move_14 : decode cX4_move 14 = .ok (.invokestatic 31, 3) := by decide +kernel
theorem dX4_move_17 : decode cX4_move 17 = .ok (.ifCond .eq 7, 3) := by decide +kernel
theorem dX4_move_20 : decode cX4_move 20 = .ok (.iconst 1, 1) := by decide +kernel
theorem dX4_move_21 : decode cX4_move 21 = .ok (.goto 4, 3) := by decide +kernel
theorem dX4_move_24 : decode cX4_move 24 = .ok (.iconst 0, 1) := by decide +kernel
theorem dX4_move_25 : decode cX4_move 25 = .ok (.iconst 1, 1) := by decide +kernel
theorem dX4_move_26 : decode cX4_move 26 = .ok (.invokevirtual 45, 3) := by decide +kernel
theorem dX4_move_29 : decode cX4_move 29 = .ok (.ifCond .ne 5, 3) := by decide +kernel
theorem dX4_move_32 : decode cX4_move 32 = .ok (.iconst 0, 1) := by decide +kernel
theorem dX4_move_33 : decode cX4_move 33 = .ok (.ireturn, 1) := by decide +kernel
theorem dX4_move_34 : decode cX4_move 34 = .ok (.aload_n 0, 1) := by decide +kernel
theorem dX4_move_35 : decode cX4_move 35 = .ok (.invokevirtual 49, 3) := by decide +kernel
theorem dX4_move_38 : decode cX4_move 38 = .ok (.aload_n 0, 1) := by decide +kernel
theorem dX4_move_39 : decode cX4_move 39 = .ok (.iload_n 1, 1) := by decide +kernel
theorem dX4_move_40 : decode cX4_move 40 = .ok (.iconst 0, 1) := by decide +kernel
theorem dX4_move_41 : decode cX4_move 41 = .ok (.invokevirtual 56, 3) := by decide +kernel
theorem dX4_move_44 : decode cX4_move 44 = .ok (.iload_n 2, 1) := by decide +kernel
theorem dX4_move_45 : decode cX4_move 45 = .ok (.i2l, 1) := by decide +kernel
theorem dX4_move_46 : decode cX4_move 46 = .ok (.lsub, 1) := by decide +kernel
theorem dX4_move_47 : decode cX4_move 47 = .ok (.aload_n 0, 1) := by decide +kernel
theorem dX4_move_48 : decode cX4_move 48 = .ok (.iload_n 1, 1) := by decide +kernel
theorem dX4_move_49 : decode cX4_move 49 = .ok (.iconst 1, 1) := by decide +kernel
theorem dX4_move_50 : decode cX4_move 50 = .ok (.invokevirtual 56, 3) := by decide +kernel
theorem dX4_move_53 : decode cX4_move 53 = .ok (.iload_n 3, 1) := by decide +kernel
theorem dX4_move_54 : decode cX4_move 54 = .ok (.i2l, 1) := by decide +kernel
theorem dX4_move_55 : decode cX4_move 55 = .ok (.lsub, 1) := by decide +kernel
theorem dX4_move_56 : decode cX4_move 56 = .ok (.invokestatic 60, 3) := by decide +kernel
theorem dX4_move_59 : decode cX4_move 59 = .ok (.lstore 4, 2) := by decide +kernel
theorem dX4_move_61 : decode cX4_move 61 = .ok (.aload_n 0, 1) := by decide +kernel
theorem dX4_move_62 : decode cX4_move 62 = .ok (.getfield 7, 3) := by decide +kernel
theorem dX4_move_65 : decode cX4_move 65 = .ok (.iconst 2, 1) := by decide +kernel
theorem dX4_move_66 : decode cX4_move 66 = .ok (.bipush 6, 2) := by decide +kernel
theorem dX4_move_68 : decode cX4_move 68 = .ok (.iload_n 1, 1) := by decide +kernel
theorem dX4_move_69 : decode cX4_move 69 = .ok (.imul, 1) := by decide +kernel
theorem dX4_move_70 : decode cX4_move 70 = .ok (.iadd, 1) := by decide +kernel
theorem dX4_move_71 : decode cX4_move 71 = .ok (.iconst 0, 1) := by decide +kernel
theorem dX4_move_72 : decode cX4_move 72 = .ok (.iadd, 1) := by decide +kernel
theorem dX4_move_73 : decode cX4_move 73 = .ok (.iload_n 2, 1) := by decide +kernel
theorem dX4_move_74 : decode cX4_move 74 = .ok (.i2l, 1) := by decide +kernel
theorem dX4_move_75 : decode cX4_move 75 = .ok (.lastore, 1) := by decide +kernel
theorem dX4_move_76 : decode cX4_move 76 = .ok (.aload_n 0, 1) := by decide +kernel
theorem dX4_move_77 : decode cX4_move 77 = .ok (.getfield 7, 3) := by decide +kernel
theorem dX4_move_80 : decode cX4_move 80 = .ok (.iconst 2, 1) := by decide +kernel
theorem dX4_move_81 : decode cX4_move 81 = .ok (.bipush 6, 2) := by decide +kernel
theorem dX4_move_83 : decode cX4_move 83 = .ok (.iload_n 1, 1) := by decide +kernel
theorem dX4_move_84 : decode cX4_move 84 = .ok (.imul, 1) := by decide +kernel
theorem dX4_move_85 : decode cX4_move 85 = .ok (.iadd, 1) := by decide +kernel
theorem dX4_move_86 : decode cX4_move 86 = .ok (.iconst 1, 1) := by decide +kernel
theorem dX4_move_87 : decode cX4_move 87 = .ok (.iadd, 1) := by decide +kernel
theorem dX4_move_88 : decode cX4_move 88 = .ok (.iload_n 3, 1) := by decide +kernel
theorem dX4_move_89 : decode cX4_move 89 = .ok (.i2l, 1) := by decide +kernel
theorem dX4_move_90 : decode cX4_move 90 = .ok (.lastore, 1) := by decide +kernel
theorem dX4_move_91 : decode cX4_move 91 = .ok (.lload 4, 2) := by decide +kernel
theorem dX4_move_93 : decode cX4_move 93 = .ok (.l2i, 1) := by decide +kernel
theorem dX4_move_94 : decode cX4_move 94 = .ok (.ireturn, 1) := by decide +kernel
theorem dX4_assume_0 : decode cX4_assume 0 = .ok (.aload_n 0, 1) := by decide +kernel
theorem dX4_assume_1 : decode cX4_assume 1 = .ok (.aload_n 0, 1) := by decide +kernel
theorem dX4_assume_2 : decode cX4_assume 2 = .ok (.iload_n 1, 1) := by decide +kernel
theorem dX4_assume_3 : decode cX4_assume 3 = .ok (.invokevirtual 64, 3) := by decide +kernel
theorem dX4_assume_6 : decode cX4_assume 6 = .ok (.iload_n 2, 1) := by decide +kernel
theorem dX4_assume_7 : decode cX4_assume 7 = .ok (.i2l, 1) := by decide +kernel
theorem dX4_assume_8 : decode cX4_assume 8 = .ok (.ldc2_w 27, 3) := by decide +kernel
theorem dX4_assume_11 : decode cX4_assume 11 = .ok (.ldc2_w 29, 3) := by decide +kernel
theorem dX4_assume_14 : decode cX4_assume 14 = .ok (.invokestatic 23, 3) := by decide +kernel
theorem dX4_assume_17 : decode cX4_assume 17 = .ok (.iconst 1, 1) := by decide +kernel
theorem dX4_assume_18 : decode cX4_assume 18 = .ok (.invokevirtual 45, 3) := by decide +kernel
theorem dX4_assume_21 : decode cX4_assume 21 = .ok (.ifCond .ne 5, 3) := by decide +kernel
theorem dX4_assume_24 : decode cX4_assume 24 = .ok (.iconst 0, 1) := by decide +kernel
theorem dX4_assume_25 : decode cX4_assume 25 = .ok (.ireturn, 1) := by decide +kernel
theorem dX4_assume_26 : decode cX4_assume 26 = .ok (.aload_n 0, 1) := by decide +kernel
theorem dX4_assume_27 : decode cX4_assume 27 = .ok (.invokevirtual 49, 3) := by decide +kernel
theorem dX4_assume_30 : decode cX4_assume 30 = .ok (.aload_n 0, 1) := by decide +kernel
theorem dX4_assume_31 : decode cX4_assume 31 = .ok (.iload_n 1, 1) := by decide +kernel
theorem dX4_assume_32 : decode cX4_assume 32 = .ok (.iconst 5, 1) := by decide +kernel
theorem dX4_assume_33 : decode cX4_assume 33 = .ok (.invokevirtual 56, 3) := by decide +kernel
theorem dX4_assume_36 : decode cX4_assume 36 = .ok (.lstore_n 3, 1) := by decide +kernel
theorem dX4_assume_37 : decode cX4_assume 37 = .ok (.aload_n 0, 1) := by decide +kernel
theorem dX4_assume_38 : decode cX4_assume 38 = .ok (.getfield 7, 3) := by decide +kernel
theorem dX4_assume_41 : decode cX4_assume 41 = .ok (.iconst 2, 1) := by decide +kernel
theorem dX4_assume_42 : decode cX4_assume 42 = .ok (.bipush 6, 2) := by decide +kernel
theorem dX4_assume_44 : decode cX4_assume 44 = .ok (.iload_n 1, 1) := by decide +kernel
theorem dX4_assume_45 : decode cX4_assume 45 = .ok (.imul, 1) := by decide +kernel
theorem dX4_assume_46 : decode cX4_assume 46 = .ok (.iadd, 1) := by decide +kernel
theorem dX4_assume_47 : decode cX4_assume 47 = .ok (.iconst 5, 1) := by decide +kernel
theorem dX4_assume_48 : decode cX4_assume 48 = .ok (.iadd, 1) := by decide +kernel
theorem dX4_assume_49 : decode cX4_assume 49 = .ok (.iload_n 2, 1) := by decide +kernel
theorem dX4_assume_50 : decode cX4_assume 50 = .ok (.i2l, 1) := by decide +kernel
theorem dX4_assume_51 : decode cX4_assume 51 = .ok (.lastore, 1) := by decide +kernel
theorem dX4_assume_52 : decode cX4_assume 52 = .ok (.lload_n 3, 1) := by decide +kernel
theorem dX4_assume_53 : decode cX4_assume 53 = .ok (.l2i, 1) := by decide +kernel
theorem dX4_assume_54 : decode cX4_assume 54 = .ok (.ireturn, 1) := by decide +kernel
theorem dX4_assumed_0 : decode cX4_assumed 0 = .ok (.aload_n 0, 1) := by decide +kernel
theorem dX4_assumed_1 : decode cX4_assumed 1 = .ok (.aload_n 0, 1) := by decide +kernel
theorem dX4_assumed_2 : decode cX4_assumed 2 = .ok (.iload_n 1, 1) := by decide +kernel
theorem dX4_assumed_3 : decode cX4_assumed 3 = .ok (.invokevirtual 64, 3) := by decide +kernel
theorem dX4_assumed_6 : decode cX4_assumed 6 = .ok (.iconst 1, 1) := by decide +kernel
theorem dX4_assumed_7 : decode cX4_assumed 7 = .ok (.iconst 1, 1) := by decide +kernel
theorem dX4_assumed_8 : decode cX4_assumed 8 = .ok (.invokevirtual 45, 3) := by decide +kernel
theorem dX4_assumed_11 : decode cX4_assumed 11 = .ok (.ifCond .eq 13, 3) := by decide +kernel
theorem dX4_assumed_14 : decode cX4_assumed 14 = .ok (.aload_n 0, 1) := by decide +kernel
theorem dX4_assumed_15 : decode cX4_assumed 15 = .ok (.iload_n 1, 1) := by decide +kernel
theorem dX4_assumed_16 : decode cX4_assumed 16 = .ok (.iconst 5, 1) := by decide +kernel
theorem dX4_assumed_17 : decode cX4_assumed 17 = .ok (.invokevirtual 56, 3) := by decide +kernel
theorem dX4_assumed_20 : decode cX4_assumed 20 = .ok (.l2i, 1) := by decide +kernel
theorem dX4_assumed_21 : decode cX4_assumed 21 = .ok (.goto 4, 3) := by decide +kernel
theorem dX4_assumed_24 : decode cX4_assumed 24 = .ok (.iconst 0, 1) := by decide +kernel
theorem dX4_assumed_25 : decode cX4_assumed 25 = .ok (.ireturn, 1) := by decide +kernel
theorem dX4_distance_0 : decode cX4_distance 0 = .ok (.aload_n 0, 1) := by decide +kernel
theorem dX4_distance_1 : decode cX4_distance 1 = .ok (.aload_n 0, 1) := by decide +kernel
theorem dX4_distance_2 : decode cX4_distance 2 = .ok (.iload_n 1, 1) := by decide +kernel
theorem dX4_distance_3 : decode cX4_distance 3 = .ok (.invokevirtual 64, 3) := by decide +kernel
theorem dX4_distance_6 : decode cX4_distance 6 = .ok (.ifCond .eq 15, 3) := by decide +kernel
theorem dX4_distance_9 : decode cX4_distance 9 = .ok (.aload_n 0, 1) := by decide +kernel
theorem dX4_distance_10 : decode cX4_distance 10 = .ok (.iload_n 2, 1) := by decide +kernel
theorem dX4_distance_11 : decode cX4_distance 11 = .ok (.invokevirtual 64, 3) := by decide +kernel
theorem dX4_distance_14 : decode cX4_distance 14 = .ok (.ifCond .eq 7, 3) := by decide +kernel
theorem dX4_distance_17 : decode cX4_distance 17 = .ok (.iconst 1, 1) := by decide +kernel
theorem dX4_distance_18 : decode cX4_distance 18 = .ok (.goto 4, 3) := by decide +kernel
theorem dX4_distance_21 : decode cX4_distance 21 = .ok (.iconst 0, 1) := by decide +kernel
theorem dX4_distance_22 : decode cX4_distance 22 = .ok (.iconst 1, 1) := by decide +kernel
theorem dX4_distance_23 : decode cX4_distance 23 = .ok (.iconst 1, 1) := by decide +kernel
theorem dX4_distance_24 : decode cX4_distance 24 = .ok (.invokevirtual 45, 3) := by decide +kernel
theorem dX4_distance_27 : decode cX4_distance 27 = .ok (.ifCond .eq 13, 3) := by decide +kernel
theorem dX4_distance_30 : decode cX4_distance 30 = .ok (.aload_n 0, 1) := by decide +kernel
theorem dX4_distance_31 : decode cX4_distance 31 = .ok (.iload_n 1, 1) := by decide +kernel
theorem dX4_distance_32 : decode cX4_distance 32 = .ok (.iload_n 2, 1) := by decide +kernel
theorem dX4_distance_33 : decode cX4_distance 33 = .ok (.invokevirtual 67, 3) := by decide +kernel
theorem dX4_distance_36 : decode cX4_distance 36 = .ok (.l2i, 1) := by decide +kernel
theorem dX4_distance_37 : decode cX4_distance 37 = .ok (.goto 4, 3) := by decide +kernel
theorem dX4_distance_40 : decode cX4_distance 40 = .ok (.iconst 0, 1) := by decide +kernel
theorem dX4_distance_41 : decode cX4_distance 41 = .ok (.ireturn, 1) := by decide +kernel
theorem dX4_counterAt_0 : decode cX4_counterAt 0 = .ok (.lload_n 2, 1) := by decide +kernel
theorem dX4_counterAt_1 : decode cX4_counterAt 1 = .ok (.ldc2_w 70, 3) := by decide +kernel
theorem dX4_counterAt_4 : decode cX4_counterAt 4 = .ok (.aload_n 0, 1) := by decide +kernel
theorem dX4_counterAt_5 : decode cX4_counterAt 5 = .ok (.iload_n 1, 1) := by decide +kernel
theorem dX4_counterAt_6 : decode cX4_counterAt 6 = .ok (.iconst 2, 1) := by decide +kernel
theorem dX4_counterAt_7 : decode cX4_counterAt 7 = .ok (.invokevirtual 56, 3) := by decide +kernel
theorem dX4_counterAt_10 : decode cX4_counterAt 10 = .ok (.ladd, 1) := by decide +kernel
theorem dX4_counterAt_11 : decode cX4_counterAt 11 = .ok (.lmul, 1) := by decide +kernel
theorem dX4_counterAt_12 : decode cX4_counterAt 12 = .ok (.ldc2_w 70, 3) := by decide +kernel
theorem dX4_counterAt_15 : decode cX4_counterAt 15 = .ok (.ldiv, 1) := by decide +kernel
theorem dX4_counterAt_16 : decode cX4_counterAt 16 = .ok (.aload_n 0, 1) := by decide +kernel
theorem dX4_counterAt_17 : decode cX4_counterAt 17 = .ok (.iload_n 1, 1) := by decide +kernel
theorem dX4_counterAt_18 : decode cX4_counterAt 18 = .ok (.iconst 3, 1) := by decide +kernel
theorem dX4_counterAt_19 : decode cX4_counterAt 19 = .ok (.invokevirtual 56, 3) := by decide +kernel
theorem dX4_counterAt_22 : decode cX4_counterAt 22 = .ok (.ladd, 1) := by decide +kernel
theorem dX4_counterAt_23 : decode cX4_counterAt 23 = .ok (.ldc2_w 72, 3) := by decide +kernel
theorem dX4_counterAt_26 : decode cX4_counterAt 26 = .ok (.lrem, 1) := by decide +kernel
theorem dX4_counterAt_27 : decode cX4_counterAt 27 = .ok (.lreturn, 1) := by decide +kernel
theorem dX4_counter_0 : decode cX4_counter 0 = .ok (.aload_n 0, 1) := by decide +kernel
theorem dX4_counter_1 : decode cX4_counter 1 = .ok (.aload_n 0, 1) := by decide +kernel
theorem dX4_counter_2 : decode cX4_counter 2 = .ok (.iload_n 1, 1) := by decide +kernel
theorem dX4_counter_3 : decode cX4_counter 3 = .ok (.invokevirtual 64, 3) := by decide +kernel
theorem dX4_counter_6 : decode cX4_counter 6 = .ok (.iload_n 2, 1) := by decide +kernel
theorem dX4_counter_7 : decode cX4_counter 7 = .ok (.i2l, 1) := by decide +kernel
theorem dX4_counter_8 : decode cX4_counter 8 = .ok (.lconst 0, 1) := by decide +kernel
theorem dX4_counter_9 : decode cX4_counter 9 = .ok (.ldc2_w 74, 3) := by decide +kernel
theorem dX4_counter_12 : decode cX4_counter 12 = .ok (.invokestatic 23, 3) := by decide +kernel
theorem dX4_counter_15 : decode cX4_counter 15 = .ok (.iconst 1, 1) := by decide +kernel
theorem dX4_counter_16 : decode cX4_counter 16 = .ok (.invokevirtual 45, 3) := by decide +kernel
theorem dX4_counter_19 : decode cX4_counter 19 = .ok (.ifCond .eq 14, 3) := by decide +kernel
theorem dX4_counter_22 : decode cX4_counter 22 = .ok (.aload_n 0, 1) := by decide +kernel
theorem dX4_counter_23 : decode cX4_counter 23 = .ok (.iload_n 1, 1) := by decide +kernel
theorem dX4_counter_24 : decode cX4_counter 24 = .ok (.iload_n 2, 1) := by decide +kernel
theorem dX4_counter_25 : decode cX4_counter 25 = .ok (.i2l, 1) := by decide +kernel
theorem dX4_counter_26 : decode cX4_counter 26 = .ok (.invokevirtual 76, 3) := by decide +kernel
theorem dX4_counter_29 : decode cX4_counter 29 = .ok (.l2i, 1) := by decide +kernel
theorem dX4_counter_30 : decode cX4_counter 30 = .ok (.goto 4, 3) := by decide +kernel
theorem dX4_counter_33 : decode cX4_counter 33 = .ok (.iconst 0, 1) := by decide +kernel
theorem dX4_counter_34 : decode cX4_counter 34 = .ok (.ireturn, 1) := by decide +kernel
theorem dX4_carriesOut_0 : decode cX4_carriesOut 0 = .ok (.aload_n 0, 1) := by decide +kernel
theorem dX4_carriesOut_1 : decode cX4_carriesOut 1 = .ok (.iload_n 3, 1) := by decide +kernel
theorem dX4_carriesOut_2 : decode cX4_carriesOut 2 = .ok (.iconst 4, 1) := by decide +kernel
theorem dX4_carriesOut_3 : decode cX4_carriesOut 3 = .ok (.invokevirtual 56, 3) := by decide +kernel
theorem dX4_carriesOut_6 : decode cX4_carriesOut 6 = .ok (.aload_n 0, 1) := by decide +kernel
theorem dX4_carriesOut_7 : decode cX4_carriesOut 7 = .ok (.iload_n 3, 1) := by decide +kernel
theorem dX4_carriesOut_8 : decode cX4_carriesOut 8 = .ok (.iload 4, 2) := by decide +kernel
theorem dX4_carriesOut_10 : decode cX4_carriesOut 10 = .ok (.invokevirtual 67, 3) := by decide +kernel
theorem dX4_carriesOut_13 : decode cX4_carriesOut 13 = .ok (.ladd, 1) := by decide +kernel
theorem dX4_carriesOut_14 : decode cX4_carriesOut 14 = .ok (.aload_n 0, 1) := by decide +kernel
theorem dX4_carriesOut_15 : decode cX4_carriesOut 15 = .ok (.iload 4, 2) := by decide +kernel
theorem dX4_carriesOut_17 : decode cX4_carriesOut 17 = .ok (.iconst 4, 1) := by decide +kernel
theorem dX4_carriesOut_18 : decode cX4_carriesOut 18 = .ok (.invokevirtual 56, 3) := by decide +kernel
theorem dX4_carriesOut_21 : decode cX4_carriesOut 21 = .ok (.ladd, 1) := by decide +kernel
theorem dX4_carriesOut_22 : decode cX4_carriesOut 22 = .ok (.lstore 9, 2) := by decide +kernel
theorem dX4_carriesOut_24 : decode cX4_carriesOut 24 = .ok (.bipush 39, 2) := by decide +kernel
theorem dX4_carriesOut_26 : decode cX4_carriesOut 26 = .ok (.bipush 8, 2) := by decide +kernel
theorem dX4_carriesOut_28 : decode cX4_carriesOut 28 = .ok (.aload_n 0, 1) := by decide +kernel
theorem dX4_carriesOut_29 : decode cX4_carriesOut 29 = .ok (.getfield 7, 3) := by decide +kernel
theorem dX4_carriesOut_32 : decode cX4_carriesOut 32 = .ok (.bipush 38, 2) := by decide +kernel
theorem dX4_carriesOut_34 : decode cX4_carriesOut 34 = .ok (.laload, 1) := by decide +kernel
theorem dX4_carriesOut_35 : decode cX4_carriesOut 35 = .ok (.l2i, 1) := by decide +kernel
theorem dX4_carriesOut_36 : decode cX4_carriesOut 36 = .ok (.imul, 1) := by decide +kernel
theorem dX4_carriesOut_37 : decode cX4_carriesOut 37 = .ok (.iadd, 1) := by decide +kernel
theorem dX4_carriesOut_38 : decode cX4_carriesOut 38 = .ok (.istore 11, 2) := by decide +kernel
theorem dX4_carriesOut_40 : decode cX4_carriesOut 40 = .ok (.lload_n 1, 1) := by decide +kernel
theorem dX4_carriesOut_41 : decode cX4_carriesOut 41 = .ok (.lstore 12, 2) := by decide +kernel
theorem dX4_carriesOut_43 : decode cX4_carriesOut 43 = .ok (.aload_n 0, 1) := by decide +kernel
theorem dX4_carriesOut_44 : decode cX4_carriesOut 44 = .ok (.getfield 7, 3) := by decide +kernel
theorem dX4_carriesOut_47 : decode cX4_carriesOut 47 = .ok (.iload 11, 2) := by decide +kernel
theorem dX4_carriesOut_49 : decode cX4_carriesOut 49 = .ok (.iload_n 3, 1) := by decide +kernel
theorem dX4_carriesOut_50 : decode cX4_carriesOut 50 = .ok (.i2l, 1) := by decide +kernel
theorem dX4_carriesOut_51 : decode cX4_carriesOut 51 = .ok (.lastore, 1) := by decide +kernel
theorem dX4_carriesOut_52 : decode cX4_carriesOut 52 = .ok (.aload_n 0, 1) := by decide +kernel
theorem dX4_carriesOut_53 : decode cX4_carriesOut 53 = .ok (.getfield 7, 3) := by decide +kernel
theorem dX4_carriesOut_56 : decode cX4_carriesOut 56 = .ok (.iload 11, 2) := by decide +kernel
theorem dX4_carriesOut_58 : decode cX4_carriesOut 58 = .ok (.iconst 1, 1) := by decide +kernel
theorem dX4_carriesOut_59 : decode cX4_carriesOut 59 = .ok (.iadd, 1) := by decide +kernel
theorem dX4_carriesOut_60 : decode cX4_carriesOut 60 = .ok (.iload 4, 2) := by decide +kernel
theorem dX4_carriesOut_62 : decode cX4_carriesOut 62 = .ok (.i2l, 1) := by decide +kernel
theorem dX4_carriesOut_63 : decode cX4_carriesOut 63 = .ok (.lastore, 1) := by decide +kernel
theorem dX4_carriesOut_64 : decode cX4_carriesOut 64 = .ok (.aload_n 0, 1) := by decide +kernel
theorem dX4_carriesOut_65 : decode cX4_carriesOut 65 = .ok (.getfield 7, 3) := by decide +kernel
theorem dX4_carriesOut_68 : decode cX4_carriesOut 68 = .ok (.iload 11, 2) := by decide +kernel
theorem dX4_carriesOut_70 : decode cX4_carriesOut 70 = .ok (.iconst 2, 1) := by decide +kernel
theorem dX4_carriesOut_71 : decode cX4_carriesOut 71 = .ok (.iadd, 1) := by decide +kernel
theorem dX4_carriesOut_72 : decode cX4_carriesOut 72 = .ok (.aload_n 0, 1) := by decide +kernel
theorem dX4_carriesOut_73 : decode cX4_carriesOut 73 = .ok (.iload_n 3, 1) := by decide +kernel
theorem dX4_carriesOut_74 : decode cX4_carriesOut 74 = .ok (.lload 12, 2) := by decide +kernel
theorem dX4_carriesOut_76 : decode cX4_carriesOut 76 = .ok (.invokevirtual 76, 3) := by decide +kernel
theorem dX4_carriesOut_79 : decode cX4_carriesOut 79 = .ok (.lastore, 1) := by decide +kernel
theorem dX4_carriesOut_80 : decode cX4_carriesOut 80 = .ok (.lload 12, 2) := by decide +kernel
theorem dX4_carriesOut_82 : decode cX4_carriesOut 82 = .ok (.lload 9, 2) := by decide +kernel
theorem dX4_carriesOut_84 : decode cX4_carriesOut 84 = .ok (.ladd, 1) := by decide +kernel
theorem dX4_carriesOut_85 : decode cX4_carriesOut 85 = .ok (.lstore 12, 2) := by decide +kernel
theorem dX4_carriesOut_87 : decode cX4_carriesOut 87 = .ok (.aload_n 0, 1) := by decide +kernel
theorem dX4_carriesOut_88 : decode cX4_carriesOut 88 = .ok (.getfield 7, 3) := by decide +kernel
theorem dX4_carriesOut_91 : decode cX4_carriesOut 91 = .ok (.iload 11, 2) := by decide +kernel
theorem dX4_carriesOut_93 : decode cX4_carriesOut 93 = .ok (.iconst 3, 1) := by decide +kernel
theorem dX4_carriesOut_94 : decode cX4_carriesOut 94 = .ok (.iadd, 1) := by decide +kernel
theorem dX4_carriesOut_95 : decode cX4_carriesOut 95 = .ok (.aload_n 0, 1) := by decide +kernel
theorem dX4_carriesOut_96 : decode cX4_carriesOut 96 = .ok (.iload 4, 2) := by decide +kernel
theorem dX4_carriesOut_98 : decode cX4_carriesOut 98 = .ok (.lload 12, 2) := by decide +kernel
theorem dX4_carriesOut_100 : decode cX4_carriesOut 100 = .ok (.invokevirtual 76, 3) := by decide +kernel
theorem dX4_carriesOut_103 : decode cX4_carriesOut 103 = .ok (.lastore, 1) := by decide +kernel
theorem dX4_carriesOut_104 : decode cX4_carriesOut 104 = .ok (.lload 12, 2) := by decide +kernel
theorem dX4_carriesOut_106 : decode cX4_carriesOut 106 = .ok (.lload 5, 2) := by decide +kernel
theorem dX4_carriesOut_108 : decode cX4_carriesOut 108 = .ok (.ladd, 1) := by decide +kernel
theorem dX4_carriesOut_109 : decode cX4_carriesOut 109 = .ok (.lstore 12, 2) := by decide +kernel
theorem dX4_carriesOut_111 : decode cX4_carriesOut 111 = .ok (.aload_n 0, 1) := by decide +kernel
theorem dX4_carriesOut_112 : decode cX4_carriesOut 112 = .ok (.getfield 7, 3) := by decide +kernel
theorem dX4_carriesOut_115 : decode cX4_carriesOut 115 = .ok (.iload 11, 2) := by decide +kernel
theorem dX4_carriesOut_117 : decode cX4_carriesOut 117 = .ok (.iconst 4, 1) := by decide +kernel
theorem dX4_carriesOut_118 : decode cX4_carriesOut 118 = .ok (.iadd, 1) := by decide +kernel
theorem dX4_carriesOut_119 : decode cX4_carriesOut 119 = .ok (.aload_n 0, 1) := by decide +kernel
theorem dX4_carriesOut_120 : decode cX4_carriesOut 120 = .ok (.iload 4, 2) := by decide +kernel
theorem dX4_carriesOut_122 : decode cX4_carriesOut 122 = .ok (.lload 12, 2) := by decide +kernel
theorem dX4_carriesOut_124 : decode cX4_carriesOut 124 = .ok (.invokevirtual 76, 3) := by decide +kernel
theorem dX4_carriesOut_127 : decode cX4_carriesOut 127 = .ok (.lastore, 1) := by decide +kernel
theorem dX4_carriesOut_128 : decode cX4_carriesOut 128 = .ok (.lload 12, 2) := by decide +kernel
theorem dX4_carriesOut_130 : decode cX4_carriesOut 130 = .ok (.lload 9, 2) := by decide +kernel
theorem dX4_carriesOut_132 : decode cX4_carriesOut 132 = .ok (.ladd, 1) := by decide +kernel
theorem dX4_carriesOut_133 : decode cX4_carriesOut 133 = .ok (.lstore 12, 2) := by decide +kernel
theorem dX4_carriesOut_135 : decode cX4_carriesOut 135 = .ok (.aload_n 0, 1) := by decide +kernel
theorem dX4_carriesOut_136 : decode cX4_carriesOut 136 = .ok (.getfield 7, 3) := by decide +kernel
theorem dX4_carriesOut_139 : decode cX4_carriesOut 139 = .ok (.iload 11, 2) := by decide +kernel
theorem dX4_carriesOut_141 : decode cX4_carriesOut 141 = .ok (.iconst 5, 1) := by decide +kernel
theorem dX4_carriesOut_142 : decode cX4_carriesOut 142 = .ok (.iadd, 1) := by decide +kernel
theorem dX4_carriesOut_143 : decode cX4_carriesOut 143 = .ok (.aload_n 0, 1) := by decide +kernel
theorem dX4_carriesOut_144 : decode cX4_carriesOut 144 = .ok (.iload_n 3, 1) := by decide +kernel
theorem dX4_carriesOut_145 : decode cX4_carriesOut 145 = .ok (.lload 12, 2) := by decide +kernel
theorem dX4_carriesOut_147 : decode cX4_carriesOut 147 = .ok (.invokevirtual 76, 3) := by decide +kernel
theorem dX4_carriesOut_150 : decode cX4_carriesOut 150 = .ok (.lastore, 1) := by decide +kernel
theorem dX4_carriesOut_151 : decode cX4_carriesOut 151 = .ok (.lload 12, 2) := by decide +kernel
theorem dX4_carriesOut_153 : decode cX4_carriesOut 153 = .ok (.lload 7, 2) := by decide +kernel
theorem dX4_carriesOut_155 : decode cX4_carriesOut 155 = .ok (.ladd, 1) := by decide +kernel
theorem dX4_carriesOut_156 : decode cX4_carriesOut 156 = .ok (.lstore 12, 2) := by decide +kernel
theorem dX4_carriesOut_158 : decode cX4_carriesOut 158 = .ok (.aload_n 0, 1) := by decide +kernel
theorem dX4_carriesOut_159 : decode cX4_carriesOut 159 = .ok (.getfield 7, 3) := by decide +kernel
theorem dX4_carriesOut_162 : decode cX4_carriesOut 162 = .ok (.iload 11, 2) := by decide +kernel
theorem dX4_carriesOut_164 : decode cX4_carriesOut 164 = .ok (.bipush 6, 2) := by decide +kernel
theorem dX4_carriesOut_166 : decode cX4_carriesOut 166 = .ok (.iadd, 1) := by decide +kernel
theorem dX4_carriesOut_167 : decode cX4_carriesOut 167 = .ok (.aload_n 0, 1) := by decide +kernel
theorem dX4_carriesOut_168 : decode cX4_carriesOut 168 = .ok (.iload_n 3, 1) := by decide +kernel
theorem dX4_carriesOut_169 : decode cX4_carriesOut 169 = .ok (.lload 12, 2) := by decide +kernel
theorem dX4_carriesOut_171 : decode cX4_carriesOut 171 = .ok (.invokevirtual 76, 3) := by decide +kernel
theorem dX4_carriesOut_174 : decode cX4_carriesOut 174 = .ok (.lastore, 1) := by decide +kernel
theorem dX4_carriesOut_175 : decode cX4_carriesOut 175 = .ok (.lload 12, 2) := by decide +kernel
theorem dX4_carriesOut_177 : decode cX4_carriesOut 177 = .ok (.lload 9, 2) := by decide +kernel
theorem dX4_carriesOut_179 : decode cX4_carriesOut 179 = .ok (.ladd, 1) := by decide +kernel
theorem dX4_carriesOut_180 : decode cX4_carriesOut 180 = .ok (.lstore 12, 2) := by decide +kernel
theorem dX4_carriesOut_182 : decode cX4_carriesOut 182 = .ok (.aload_n 0, 1) := by decide +kernel
theorem dX4_carriesOut_183 : decode cX4_carriesOut 183 = .ok (.getfield 7, 3) := by decide +kernel
theorem dX4_carriesOut_186 : decode cX4_carriesOut 186 = .ok (.iload 11, 2) := by decide +kernel
theorem dX4_carriesOut_188 : decode cX4_carriesOut 188 = .ok (.bipush 7, 2) := by decide +kernel
theorem dX4_carriesOut_190 : decode cX4_carriesOut 190 = .ok (.iadd, 1) := by decide +kernel
theorem dX4_carriesOut_191 : decode cX4_carriesOut 191 = .ok (.aload_n 0, 1) := by decide +kernel
theorem dX4_carriesOut_192 : decode cX4_carriesOut 192 = .ok (.iload 4, 2) := by decide +kernel
theorem dX4_carriesOut_194 : decode cX4_carriesOut 194 = .ok (.lload 12, 2) := by decide +kernel
theorem dX4_carriesOut_196 : decode cX4_carriesOut 196 = .ok (.invokevirtual 76, 3) := by decide +kernel
theorem dX4_carriesOut_199 : decode cX4_carriesOut 199 = .ok (.lastore, 1) := by decide +kernel
theorem dX4_carriesOut_200 : decode cX4_carriesOut 200 = .ok (.aload_n 0, 1) := by decide +kernel
theorem dX4_carriesOut_201 : decode cX4_carriesOut 201 = .ok (.getfield 7, 3) := by decide +kernel
theorem dX4_carriesOut_204 : decode cX4_carriesOut 204 = .ok (.bipush 38, 2) := by decide +kernel
theorem dX4_carriesOut_206 : decode cX4_carriesOut 206 = .ok (.dup2, 1) := by decide +kernel
theorem dX4_carriesOut_207 : decode cX4_carriesOut 207 = .ok (.laload, 1) := by decide +kernel
theorem dX4_carriesOut_208 : decode cX4_carriesOut 208 = .ok (.lconst 1, 1) := by decide +kernel
theorem dX4_carriesOut_209 : decode cX4_carriesOut 209 = .ok (.ladd, 1) := by decide +kernel
theorem dX4_carriesOut_210 : decode cX4_carriesOut 210 = .ok (.lastore, 1) := by decide +kernel
theorem dX4_carriesOut_211 : decode cX4_carriesOut 211 = .ok (.aload_n 0, 1) := by decide +kernel
theorem dX4_carriesOut_212 : decode cX4_carriesOut 212 = .ok (.getfield 7, 3) := by decide +kernel
theorem dX4_carriesOut_215 : decode cX4_carriesOut 215 = .ok (.iconst 0, 1) := by decide +kernel
theorem dX4_carriesOut_216 : decode cX4_carriesOut 216 = .ok (.lload 12, 2) := by decide +kernel
theorem dX4_carriesOut_218 : decode cX4_carriesOut 218 = .ok (.lastore, 1) := by decide +kernel
theorem dX4_carriesOut_219 : decode cX4_carriesOut 219 = .ok (.return_, 1) := by decide +kernel
theorem dX4_areReplies_0 : decode cX4_areReplies 0 = .ok (.iload_n 0, 1) := by decide +kernel
theorem dX4_areReplies_1 : decode cX4_areReplies 1 = .ok (.iload_n 1, 1) := by decide +kernel
theorem dX4_areReplies_2 : decode cX4_areReplies 2 = .ok (.if_icmp .eq 31, 3) := by decide +kernel
theorem dX4_areReplies_5 : decode cX4_areReplies 5 = .ok (.iload_n 2, 1) := by decide +kernel
theorem dX4_areReplies_6 : decode cX4_areReplies 6 = .ok (.i2l, 1) := by decide +kernel
theorem dX4_areReplies_7 : decode cX4_areReplies 7 = .ok (.lconst 0, 1) := by decide +kernel
theorem dX4_areReplies_8 : decode cX4_areReplies 8 = .ok (.ldc2_w 80, 3) := by decide +kernel
theorem dX4_areReplies_11 : decode cX4_areReplies 11 = .ok (.invokestatic 23, 3) := by decide +kernel
theorem dX4_areReplies_14 : decode cX4_areReplies 14 = .ok (.ifCond .eq 19, 3) := by decide +kernel
theorem dX4_areReplies_17 : decode cX4_areReplies 17 = .ok (.iload_n 3, 1) := by decide +kernel
theorem dX4_areReplies_18 : decode cX4_areReplies 18 = .ok (.i2l, 1) := by decide +kernel
theorem dX4_areReplies_19 : decode cX4_areReplies 19 = .ok (.lconst 0, 1) := by decide +kernel
theorem dX4_areReplies_20 : decode cX4_areReplies 20 = .ok (.ldc2_w 80, 3) := by decide +kernel
theorem dX4_areReplies_23 : decode cX4_areReplies 23 = .ok (.invokestatic 23, 3) := by decide +kernel
theorem dX4_areReplies_26 : decode cX4_areReplies 26 = .ok (.ifCond .eq 7, 3) := by decide +kernel
theorem dX4_areReplies_29 : decode cX4_areReplies 29 = .ok (.iconst 1, 1) := by decide +kernel
theorem dX4_areReplies_30 : decode cX4_areReplies 30 = .ok (.goto 4, 3) := by decide +kernel
theorem dX4_areReplies_33 : decode cX4_areReplies 33 = .ok (.iconst 0, 1) := by decide +kernel
theorem dX4_areReplies_34 : decode cX4_areReplies 34 = .ok (.ireturn, 1) := by decide +kernel
theorem dX4_exchange_0 : decode cX4_exchange 0 = .ok (.aload_n 0, 1) := by decide +kernel
theorem dX4_exchange_1 : decode cX4_exchange 1 = .ok (.aload_n 0, 1) := by decide +kernel
theorem dX4_exchange_2 : decode cX4_exchange 2 = .ok (.iload_n 1, 1) := by decide +kernel
theorem dX4_exchange_3 : decode cX4_exchange 3 = .ok (.invokevirtual 64, 3) := by decide +kernel
theorem dX4_exchange_6 : decode cX4_exchange 6 = .ok (.ifCond .eq 15, 3) := by decide +kernel
theorem dX4_exchange_9 : decode cX4_exchange 9 = .ok (.aload_n 0, 1) := by decide +kernel
theorem dX4_exchange_10 : decode cX4_exchange 10 = .ok (.iload_n 2, 1) := by decide +kernel
theorem dX4_exchange_11 : decode cX4_exchange 11 = .ok (.invokevirtual 64, 3) := by decide +kernel
theorem dX4_exchange_14 : decode cX4_exchange 14 = .ok (.ifCond .eq 7, 3) := by decide +kernel
theorem dX4_exchange_17 : decode cX4_exchange 17 = .ok (.iconst 1, 1) := by decide +kernel
theorem dX4_exchange_18 : decode cX4_exchange 18 = .ok (.goto 4, 3) := by decide +kernel
theorem dX4_exchange_21 : decode cX4_exchange 21 = .ok (.iconst 0, 1) := by decide +kernel
theorem dX4_exchange_22 : decode cX4_exchange 22 = .ok (.iload_n 1, 1) := by decide +kernel
theorem dX4_exchange_23 : decode cX4_exchange 23 = .ok (.iload_n 2, 1) := by decide +kernel
theorem dX4_exchange_24 : decode cX4_exchange 24 = .ok (.iload_n 3, 1) := by decide +kernel
theorem dX4_exchange_25 : decode cX4_exchange 25 = .ok (.iload 4, 2) := by decide +kernel
theorem dX4_exchange_27 : decode cX4_exchange 27 = .ok (.invokestatic 82, 3) := by decide +kernel
theorem dX4_exchange_30 : decode cX4_exchange 30 = .ok (.aload_n 0, 1) := by decide +kernel
theorem dX4_exchange_31 : decode cX4_exchange 31 = .ok (.getfield 7, 3) := by decide +kernel
theorem dX4_exchange_34 : decode cX4_exchange 34 = .ok (.bipush 38, 2) := by decide +kernel
theorem dX4_exchange_36 : decode cX4_exchange 36 = .ok (.laload, 1) := by decide +kernel
theorem dX4_exchange_37 : decode cX4_exchange 37 = .ok (.ldc2_w 86, 3) := by decide +kernel
theorem dX4_exchange_40 : decode cX4_exchange 40 = .ok (.lcmp, 1) := by decide +kernel
theorem dX4_exchange_41 : decode cX4_exchange 41 = .ok (.ifCond .ge 7, 3) := by decide +kernel
theorem dX4_exchange_44 : decode cX4_exchange 44 = .ok (.iconst 1, 1) := by decide +kernel
theorem dX4_exchange_45 : decode cX4_exchange 45 = .ok (.goto 4, 3) := by decide +kernel
theorem dX4_exchange_48 : decode cX4_exchange 48 = .ok (.iconst 0, 1) := by decide +kernel
theorem dX4_exchange_49 : decode cX4_exchange 49 = .ok (.invokevirtual 45, 3) := by decide +kernel
theorem dX4_exchange_52 : decode cX4_exchange 52 = .ok (.ifCond .ne 5, 3) := by decide +kernel
theorem dX4_exchange_55 : decode cX4_exchange 55 = .ok (.iconst 0, 1) := by decide +kernel
theorem dX4_exchange_56 : decode cX4_exchange 56 = .ok (.ireturn, 1) := by decide +kernel
theorem dX4_exchange_57 : decode cX4_exchange 57 = .ok (.aload_n 0, 1) := by decide +kernel
theorem dX4_exchange_58 : decode cX4_exchange 58 = .ok (.invokevirtual 49, 3) := by decide +kernel
theorem dX4_exchange_61 : decode cX4_exchange 61 = .ok (.aload_n 0, 1) := by decide +kernel
theorem dX4_exchange_62 : decode cX4_exchange 62 = .ok (.aload_n 0, 1) := by decide +kernel
theorem dX4_exchange_63 : decode cX4_exchange 63 = .ok (.getfield 7, 3) := by decide +kernel
theorem dX4_exchange_66 : decode cX4_exchange 66 = .ok (.iconst 0, 1) := by decide +kernel
theorem dX4_exchange_67 : decode cX4_exchange 67 = .ok (.laload, 1) := by decide +kernel
theorem dX4_exchange_68 : decode cX4_exchange 68 = .ok (.iload_n 1, 1) := by decide +kernel
theorem dX4_exchange_69 : decode cX4_exchange 69 = .ok (.iload_n 2, 1) := by decide +kernel
theorem dX4_exchange_70 : decode cX4_exchange 70 = .ok (.iload_n 3, 1) := by decide +kernel
theorem dX4_exchange_71 : decode cX4_exchange 71 = .ok (.i2l, 1) := by decide +kernel
theorem dX4_exchange_72 : decode cX4_exchange 72 = .ok (.iload 4, 2) := by decide +kernel
theorem dX4_exchange_74 : decode cX4_exchange 74 = .ok (.i2l, 1) := by decide +kernel
theorem dX4_exchange_75 : decode cX4_exchange 75 = .ok (.invokevirtual 88, 3) := by decide +kernel
theorem dX4_exchange_78 : decode cX4_exchange 78 = .ok (.aload_n 0, 1) := by decide +kernel
theorem dX4_exchange_79 : decode cX4_exchange 79 = .ok (.getfield 7, 3) := by decide +kernel
theorem dX4_exchange_82 : decode cX4_exchange 82 = .ok (.bipush 38, 2) := by decide +kernel
theorem dX4_exchange_84 : decode cX4_exchange 84 = .ok (.laload, 1) := by decide +kernel
theorem dX4_exchange_85 : decode cX4_exchange 85 = .ok (.l2i, 1) := by decide +kernel
theorem dX4_exchange_86 : decode cX4_exchange 86 = .ok (.iconst 1, 1) := by decide +kernel
theorem dX4_exchange_87 : decode cX4_exchange 87 = .ok (.isub, 1) := by decide +kernel
theorem dX4_exchange_88 : decode cX4_exchange 88 = .ok (.ireturn, 1) := by decide +kernel
theorem dX4_plan_0 : decode cX4_plan 0 = .ok (.aload_n 0, 1) := by decide +kernel
theorem dX4_plan_1 : decode cX4_plan 1 = .ok (.aload_n 0, 1) := by decide +kernel
theorem dX4_plan_2 : decode cX4_plan 2 = .ok (.iload_n 2, 1) := by decide +kernel
theorem dX4_plan_3 : decode cX4_plan 3 = .ok (.invokevirtual 64, 3) := by decide +kernel
theorem dX4_plan_6 : decode cX4_plan 6 = .ok (.ifCond .eq 15, 3) := by decide +kernel
theorem dX4_plan_9 : decode cX4_plan 9 = .ok (.aload_n 0, 1) := by decide +kernel
theorem dX4_plan_10 : decode cX4_plan 10 = .ok (.iload_n 3, 1) := by decide +kernel
theorem dX4_plan_11 : decode cX4_plan 11 = .ok (.invokevirtual 64, 3) := by decide +kernel
theorem dX4_plan_14 : decode cX4_plan 14 = .ok (.ifCond .eq 7, 3) := by decide +kernel
theorem dX4_plan_17 : decode cX4_plan 17 = .ok (.iconst 1, 1) := by decide +kernel
theorem dX4_plan_18 : decode cX4_plan 18 = .ok (.goto 4, 3) := by decide +kernel
theorem dX4_plan_21 : decode cX4_plan 21 = .ok (.iconst 0, 1) := by decide +kernel
theorem dX4_plan_22 : decode cX4_plan 22 = .ok (.iload_n 2, 1) := by decide +kernel
theorem dX4_plan_23 : decode cX4_plan 23 = .ok (.iload_n 3, 1) := by decide +kernel
theorem dX4_plan_24 : decode cX4_plan 24 = .ok (.iload 4, 2) := by decide +kernel
theorem dX4_plan_26 : decode cX4_plan 26 = .ok (.iload 5, 2) := by decide +kernel
theorem dX4_plan_28 : decode cX4_plan 28 = .ok (.invokestatic 82, 3) := by decide +kernel
theorem dX4_plan_31 : decode cX4_plan 31 = .ok (.ifCond .eq 19, 3) := by decide +kernel
theorem dX4_plan_34 : decode cX4_plan 34 = .ok (.iload_n 1, 1) := by decide +kernel
theorem dX4_plan_35 : decode cX4_plan 35 = .ok (.i2l, 1) := by decide +kernel
theorem dX4_plan_36 : decode cX4_plan 36 = .ok (.lconst 0, 1) := by decide +kernel
theorem dX4_plan_37 : decode cX4_plan 37 = .ok (.ldc2_w 92, 3) := by decide +kernel
theorem dX4_plan_40 : decode cX4_plan 40 = .ok (.invokestatic 23, 3) := by decide +kernel
theorem dX4_plan_43 : decode cX4_plan 43 = .ok (.ifCond .eq 7, 3) := by decide +kernel
theorem dX4_plan_46 : decode cX4_plan 46 = .ok (.iconst 1, 1) := by decide +kernel
theorem dX4_plan_47 : decode cX4_plan 47 = .ok (.goto 4, 3) := by decide +kernel
theorem dX4_plan_50 : decode cX4_plan 50 = .ok (.iconst 0, 1) := by decide +kernel
theorem dX4_plan_51 : decode cX4_plan 51 = .ok (.aload_n 0, 1) := by decide +kernel
theorem dX4_plan_52 : decode cX4_plan 52 = .ok (.getfield 7, 3) := by decide +kernel
theorem dX4_plan_55 : decode cX4_plan 55 = .ok (.sipush 359, 3) := by decide +kernel
theorem dX4_plan_58 : decode cX4_plan 58 = .ok (.laload, 1) := by decide +kernel
theorem dX4_plan_59 : decode cX4_plan 59 = .ok (.ldc2_w 94, 3) := by decide +kernel
theorem dX4_plan_62 : decode cX4_plan 62 = .ok (.lcmp, 1) := by decide +kernel
theorem dX4_plan_63 : decode cX4_plan 63 = .ok (.ifCond .ge 7, 3) := by decide +kernel
theorem dX4_plan_66 : decode cX4_plan 66 = .ok (.iconst 1, 1) := by decide +kernel
theorem dX4_plan_67 : decode cX4_plan 67 = .ok (.goto 4, 3) := by decide +kernel
theorem dX4_plan_70 : decode cX4_plan 70 = .ok (.iconst 0, 1) := by decide +kernel
theorem dX4_plan_71 : decode cX4_plan 71 = .ok (.invokevirtual 45, 3) := by decide +kernel
theorem dX4_plan_74 : decode cX4_plan 74 = .ok (.ifCond .ne 5, 3) := by decide +kernel
theorem dX4_plan_77 : decode cX4_plan 77 = .ok (.iconst 0, 1) := by decide +kernel
theorem dX4_plan_78 : decode cX4_plan 78 = .ok (.ireturn, 1) := by decide +kernel
theorem dX4_plan_79 : decode cX4_plan 79 = .ok (.aload_n 0, 1) := by decide +kernel
theorem dX4_plan_80 : decode cX4_plan 80 = .ok (.invokevirtual 49, 3) := by decide +kernel
theorem dX4_plan_83 : decode cX4_plan 83 = .ok (.sipush 360, 3) := by decide +kernel
theorem dX4_plan_86 : decode cX4_plan 86 = .ok (.iconst 5, 1) := by decide +kernel
theorem dX4_plan_87 : decode cX4_plan 87 = .ok (.aload_n 0, 1) := by decide +kernel
theorem dX4_plan_88 : decode cX4_plan 88 = .ok (.getfield 7, 3) := by decide +kernel
theorem dX4_plan_91 : decode cX4_plan 91 = .ok (.sipush 359, 3) := by decide +kernel
theorem dX4_plan_94 : decode cX4_plan 94 = .ok (.laload, 1) := by decide +kernel
theorem dX4_plan_95 : decode cX4_plan 95 = .ok (.l2i, 1) := by decide +kernel
theorem dX4_plan_96 : decode cX4_plan 96 = .ok (.imul, 1) := by decide +kernel
theorem dX4_plan_97 : decode cX4_plan 97 = .ok (.iadd, 1) := by decide +kernel
theorem dX4_plan_98 : decode cX4_plan 98 = .ok (.istore 6, 2) := by decide +kernel
theorem dX4_plan_100 : decode cX4_plan 100 = .ok (.aload_n 0, 1) := by decide +kernel
theorem dX4_plan_101 : decode cX4_plan 101 = .ok (.getfield 7, 3) := by decide +kernel
theorem dX4_plan_104 : decode cX4_plan 104 = .ok (.iload 6, 2) := by decide +kernel
theorem dX4_plan_106 : decode cX4_plan 106 = .ok (.iload_n 1, 1) := by decide +kernel
theorem dX4_plan_107 : decode cX4_plan 107 = .ok (.i2l, 1) := by decide +kernel
theorem dX4_plan_108 : decode cX4_plan 108 = .ok (.lastore, 1) := by decide +kernel
theorem dX4_plan_109 : decode cX4_plan 109 = .ok (.aload_n 0, 1) := by decide +kernel
theorem dX4_plan_110 : decode cX4_plan 110 = .ok (.getfield 7, 3) := by decide +kernel
theorem dX4_plan_113 : decode cX4_plan 113 = .ok (.iload 6, 2) := by decide +kernel
theorem dX4_plan_115 : decode cX4_plan 115 = .ok (.iconst 1, 1) := by decide +kernel
theorem dX4_plan_116 : decode cX4_plan 116 = .ok (.iadd, 1) := by decide +kernel
theorem dX4_plan_117 : decode cX4_plan 117 = .ok (.iload_n 2, 1) := by decide +kernel
theorem dX4_plan_118 : decode cX4_plan 118 = .ok (.i2l, 1) := by decide +kernel
theorem dX4_plan_119 : decode cX4_plan 119 = .ok (.lastore, 1) := by decide +kernel
theorem dX4_plan_120 : decode cX4_plan 120 = .ok (.aload_n 0, 1) := by decide +kernel
theorem dX4_plan_121 : decode cX4_plan 121 = .ok (.getfield 7, 3) := by decide +kernel
theorem dX4_plan_124 : decode cX4_plan 124 = .ok (.iload 6, 2) := by decide +kernel
theorem dX4_plan_126 : decode cX4_plan 126 = .ok (.iconst 2, 1) := by decide +kernel
theorem dX4_plan_127 : decode cX4_plan 127 = .ok (.iadd, 1) := by decide +kernel
theorem dX4_plan_128 : decode cX4_plan 128 = .ok (.iload_n 3, 1) := by decide +kernel
theorem dX4_plan_129 : decode cX4_plan 129 = .ok (.i2l, 1) := by decide +kernel
theorem dX4_plan_130 : decode cX4_plan 130 = .ok (.lastore, 1) := by decide +kernel
theorem dX4_plan_131 : decode cX4_plan 131 = .ok (.aload_n 0, 1) := by decide +kernel
theorem dX4_plan_132 : decode cX4_plan 132 = .ok (.getfield 7, 3) := by decide +kernel
theorem dX4_plan_135 : decode cX4_plan 135 = .ok (.iload 6, 2) := by decide +kernel
theorem dX4_plan_137 : decode cX4_plan 137 = .ok (.iconst 3, 1) := by decide +kernel
theorem dX4_plan_138 : decode cX4_plan 138 = .ok (.iadd, 1) := by decide +kernel
theorem dX4_plan_139 : decode cX4_plan 139 = .ok (.iload 4, 2) := by decide +kernel
theorem dX4_plan_141 : decode cX4_plan 141 = .ok (.i2l, 1) := by decide +kernel
theorem dX4_plan_142 : decode cX4_plan 142 = .ok (.lastore, 1) := by decide +kernel
theorem dX4_plan_143 : decode cX4_plan 143 = .ok (.aload_n 0, 1) := by decide +kernel
theorem dX4_plan_144 : decode cX4_plan 144 = .ok (.getfield 7, 3) := by decide +kernel
theorem dX4_plan_147 : decode cX4_plan 147 = .ok (.iload 6, 2) := by decide +kernel
theorem dX4_plan_149 : decode cX4_plan 149 = .ok (.iconst 4, 1) := by decide +kernel
theorem dX4_plan_150 : decode cX4_plan 150 = .ok (.iadd, 1) := by decide +kernel
theorem dX4_plan_151 : decode cX4_plan 151 = .ok (.iload 5, 2) := by decide +kernel
theorem dX4_plan_153 : decode cX4_plan 153 = .ok (.i2l, 1) := by decide +kernel
theorem dX4_plan_154 : decode cX4_plan 154 = .ok (.lastore, 1) := by decide +kernel
theorem dX4_plan_155 : decode cX4_plan 155 = .ok (.aload_n 0, 1) := by decide +kernel
theorem dX4_plan_156 : decode cX4_plan 156 = .ok (.getfield 7, 3) := by decide +kernel
theorem dX4_plan_159 : decode cX4_plan 159 = .ok (.sipush 359, 3) := by decide +kernel
theorem dX4_plan_162 : decode cX4_plan 162 = .ok (.dup2, 1) := by decide +kernel
theorem dX4_plan_163 : decode cX4_plan 163 = .ok (.laload, 1) := by decide +kernel
theorem dX4_plan_164 : decode cX4_plan 164 = .ok (.lconst 1, 1) := by decide +kernel
theorem dX4_plan_165 : decode cX4_plan 165 = .ok (.ladd, 1) := by decide +kernel
theorem dX4_plan_166 : decode cX4_plan 166 = .ok (.lastore, 1) := by decide +kernel
theorem dX4_plan_167 : decode cX4_plan 167 = .ok (.aload_n 0, 1) := by decide +kernel
theorem dX4_plan_168 : decode cX4_plan 168 = .ok (.getfield 7, 3) := by decide +kernel
theorem dX4_plan_171 : decode cX4_plan 171 = .ok (.sipush 359, 3) := by decide +kernel
theorem dX4_plan_174 : decode cX4_plan 174 = .ok (.laload, 1) := by decide +kernel
theorem dX4_plan_175 : decode cX4_plan 175 = .ok (.l2i, 1) := by decide +kernel
theorem dX4_plan_176 : decode cX4_plan 176 = .ok (.ireturn, 1) := by decide +kernel
theorem dX4_waiting_0 : decode cX4_waiting 0 = .ok (.aload_n 0, 1) := by decide +kernel
theorem dX4_waiting_1 : decode cX4_waiting 1 = .ok (.getfield 7, 3) := by decide +kernel
theorem dX4_waiting_4 : decode cX4_waiting 4 = .ok (.sipush 359, 3) := by decide +kernel
theorem dX4_waiting_7 : decode cX4_waiting 7 = .ok (.laload, 1) := by decide +kernel
theorem dX4_waiting_8 : decode cX4_waiting 8 = .ok (.l2i, 1) := by decide +kernel
theorem dX4_waiting_9 : decode cX4_waiting 9 = .ok (.istore_n 2, 1) := by decide +kernel
theorem dX4_waiting_10 : decode cX4_waiting 10 = .ok (.iconst 0, 1) := by decide +kernel
theorem dX4_waiting_11 : decode cX4_waiting 11 = .ok (.istore_n 3, 1) := by decide +kernel
theorem dX4_waiting_12 : decode cX4_waiting 12 = .ok (.iload_n 3, 1) := by decide +kernel
theorem dX4_waiting_13 : decode cX4_waiting 13 = .ok (.iload_n 2, 1) := by decide +kernel
theorem dX4_waiting_14 : decode cX4_waiting 14 = .ok (.if_icmp .ge 96, 3) := by decide +kernel
theorem dX4_waiting_17 : decode cX4_waiting 17 = .ok (.iconst 0, 1) := by decide +kernel
theorem dX4_waiting_18 : decode cX4_waiting 18 = .ok (.istore 4, 2) := by decide +kernel
theorem dX4_waiting_20 : decode cX4_waiting 20 = .ok (.iconst 0, 1) := by decide +kernel
theorem dX4_waiting_21 : decode cX4_waiting 21 = .ok (.istore 5, 2) := by decide +kernel
theorem dX4_waiting_23 : decode cX4_waiting 23 = .ok (.iload 5, 2) := by decide +kernel
theorem dX4_waiting_25 : decode cX4_waiting 25 = .ok (.iload_n 2, 1) := by decide +kernel
theorem dX4_waiting_26 : decode cX4_waiting 26 = .ok (.if_icmp .ge 70, 3) := by decide +kernel
theorem dX4_waiting_29 : decode cX4_waiting 29 = .ok (.aload_n 0, 1) := by decide +kernel
theorem dX4_waiting_30 : decode cX4_waiting 30 = .ok (.getfield 7, 3) := by decide +kernel
theorem dX4_waiting_33 : decode cX4_waiting 33 = .ok (.sipush 360, 3) := by decide +kernel
theorem dX4_waiting_36 : decode cX4_waiting 36 = .ok (.iconst 5, 1) := by decide +kernel
theorem dX4_waiting_37 : decode cX4_waiting 37 = .ok (.iload 5, 2) := by decide +kernel
theorem dX4_waiting_39 : decode cX4_waiting 39 = .ok (.imul, 1) := by decide +kernel
theorem dX4_waiting_40 : decode cX4_waiting 40 = .ok (.iadd, 1) := by decide +kernel
theorem dX4_waiting_41 : decode cX4_waiting 41 = .ok (.laload, 1) := by decide +kernel
theorem dX4_waiting_42 : decode cX4_waiting 42 = .ok (.lstore 6, 2) := by decide +kernel
theorem dX4_waiting_44 : decode cX4_waiting 44 = .ok (.aload_n 0, 1) := by decide +kernel
theorem dX4_waiting_45 : decode cX4_waiting 45 = .ok (.getfield 7, 3) := by decide +kernel
theorem dX4_waiting_48 : decode cX4_waiting 48 = .ok (.sipush 360, 3) := by decide +kernel
theorem dX4_waiting_51 : decode cX4_waiting 51 = .ok (.iconst 5, 1) := by decide +kernel
theorem dX4_waiting_52 : decode cX4_waiting 52 = .ok (.iload_n 3, 1) := by decide +kernel
theorem dX4_waiting_53 : decode cX4_waiting 53 = .ok (.imul, 1) := by decide +kernel
theorem dX4_waiting_54 : decode cX4_waiting 54 = .ok (.iadd, 1) := by decide +kernel
theorem dX4_waiting_55 : decode cX4_waiting 55 = .ok (.laload, 1) := by decide +kernel
theorem dX4_waiting_56 : decode cX4_waiting 56 = .ok (.lstore 8, 2) := by decide +kernel
theorem dX4_waiting_58 : decode cX4_waiting 58 = .ok (.iload 4, 2) := by decide +kernel
theorem dX4_waiting_60 : decode cX4_waiting 60 = .ok (.lload 6, 2) := by decide +kernel
theorem dX4_waiting_62 : decode cX4_waiting 62 = .ok (.lload 8, 2) := by decide +kernel
theorem dX4_waiting_64 : decode cX4_waiting 64 = .ok (.lcmp, 1) := by decide +kernel
theorem dX4_waiting_65 : decode cX4_waiting 65 = .ok (.ifCond .lt 17, 3) := by decide +kernel
theorem dX4_waiting_68 : decode cX4_waiting 68 = .ok (.lload 6, 2) := by decide +kernel
theorem dX4_waiting_70 : decode cX4_waiting 70 = .ok (.lload 8, 2) := by decide +kernel
theorem dX4_waiting_72 : decode cX4_waiting 72 = .ok (.lcmp, 1) := by decide +kernel
theorem dX4_waiting_73 : decode cX4_waiting 73 = .ok (.ifCond .ne 13, 3) := by decide +kernel
theorem dX4_waiting_76 : decode cX4_waiting 76 = .ok (.iload 5, 2) := by decide +kernel
theorem dX4_waiting_78 : decode cX4_waiting 78 = .ok (.iload_n 3, 1) := by decide +kernel
theorem dX4_waiting_79 : decode cX4_waiting 79 = .ok (.if_icmp .ge 7, 3) := by decide +kernel
theorem dX4_waiting_82 : decode cX4_waiting 82 = .ok (.iconst 1, 1) := by decide +kernel
theorem dX4_waiting_83 : decode cX4_waiting 83 = .ok (.goto 4, 3) := by decide +kernel
theorem dX4_waiting_86 : decode cX4_waiting 86 = .ok (.iconst 0, 1) := by decide +kernel
theorem dX4_waiting_87 : decode cX4_waiting 87 = .ok (.iadd, 1) := by decide +kernel
theorem dX4_waiting_88 : decode cX4_waiting 88 = .ok (.istore 4, 2) := by decide +kernel
theorem dX4_waiting_90 : decode cX4_waiting 90 = .ok (.iinc 5 1, 3) := by decide +kernel
theorem dX4_waiting_93 : decode cX4_waiting 93 = .ok (.goto (-70), 3) := by decide +kernel
theorem dX4_waiting_96 : decode cX4_waiting 96 = .ok (.iload 4, 2) := by decide +kernel
theorem dX4_waiting_98 : decode cX4_waiting 98 = .ok (.iload_n 1, 1) := by decide +kernel
theorem dX4_waiting_99 : decode cX4_waiting 99 = .ok (.if_icmp .ne 5, 3) := by decide +kernel
theorem dX4_waiting_102 : decode cX4_waiting 102 = .ok (.iload_n 3, 1) := by decide +kernel
theorem dX4_waiting_103 : decode cX4_waiting 103 = .ok (.ireturn, 1) := by decide +kernel
theorem dX4_waiting_104 : decode cX4_waiting 104 = .ok (.iinc 3 1, 3) := by decide +kernel
theorem dX4_waiting_107 : decode cX4_waiting 107 = .ok (.goto (-95), 3) := by decide +kernel
theorem dX4_waiting_110 : decode cX4_waiting 110 = .ok (.iconst (-1), 1) := by decide +kernel
theorem dX4_waiting_111 : decode cX4_waiting 111 = .ok (.ireturn, 1) := by decide +kernel
theorem dX4_nextPlanned_0 : decode cX4_nextPlanned 0 = .ok (.aload_n 0, 1) := by decide +kernel
theorem dX4_nextPlanned_1 : decode cX4_nextPlanned 1 = .ok (.iconst 0, 1) := by decide +kernel
theorem dX4_nextPlanned_2 : decode cX4_nextPlanned 2 = .ok (.putfield 16, 3) := by decide +kernel
theorem dX4_nextPlanned_5 : decode cX4_nextPlanned 5 = .ok (.aload_n 0, 1) := by decide +kernel
theorem dX4_nextPlanned_6 : decode cX4_nextPlanned 6 = .ok (.iconst 0, 1) := by decide +kernel
theorem dX4_nextPlanned_7 : decode cX4_nextPlanned 7 = .ok (.invokevirtual 96, 3) := by decide +kernel
theorem dX4_nextPlanned_10 : decode cX4_nextPlanned 10 = .ok (.istore_n 1, 1) := by decide +kernel
theorem dX4_nextPlanned_11 : decode cX4_nextPlanned 11 = .ok (.iload_n 1, 1) := by decide +kernel
theorem dX4_nextPlanned_12 : decode cX4_nextPlanned 12 = .ok (.iconst (-1), 1) := by decide +kernel
theorem dX4_nextPlanned_13 : decode cX4_nextPlanned 13 = .ok (.if_icmp .ne 7, 3) := by decide +kernel
theorem dX4_nextPlanned_16 : decode cX4_nextPlanned 16 = .ok (.iconst (-1), 1) := by decide +kernel
theorem dX4_nextPlanned_17 : decode cX4_nextPlanned 17 = .ok (.goto 16, 3) := by decide +kernel
theorem dX4_nextPlanned_20 : decode cX4_nextPlanned 20 = .ok (.aload_n 0, 1) := by decide +kernel
theorem dX4_nextPlanned_21 : decode cX4_nextPlanned 21 = .ok (.getfield 7, 3) := by decide +kernel
theorem dX4_nextPlanned_24 : decode cX4_nextPlanned 24 = .ok (.sipush 360, 3) := by decide +kernel
theorem dX4_nextPlanned_27 : decode cX4_nextPlanned 27 = .ok (.iconst 5, 1) := by decide +kernel
theorem dX4_nextPlanned_28 : decode cX4_nextPlanned 28 = .ok (.iload_n 1, 1) := by decide +kernel
theorem dX4_nextPlanned_29 : decode cX4_nextPlanned 29 = .ok (.imul, 1) := by decide +kernel
theorem dX4_nextPlanned_30 : decode cX4_nextPlanned 30 = .ok (.iadd, 1) := by decide +kernel
theorem dX4_nextPlanned_31 : decode cX4_nextPlanned 31 = .ok (.laload, 1) := by decide +kernel
theorem dX4_nextPlanned_32 : decode cX4_nextPlanned 32 = .ok (.l2i, 1) := by decide +kernel
theorem dX4_nextPlanned_33 : decode cX4_nextPlanned 33 = .ok (.ireturn, 1) := by decide +kernel
theorem dX4_removes_0 : decode cX4_removes 0 = .ok (.sipush 360, 3) := by decide +kernel
theorem dX4_removes_3 : decode cX4_removes 3 = .ok (.iconst 5, 1) := by decide +kernel
theorem dX4_removes_4 : decode cX4_removes 4 = .ok (.iload_n 1, 1) := by decide +kernel
theorem dX4_removes_5 : decode cX4_removes 5 = .ok (.imul, 1) := by decide +kernel
theorem dX4_removes_6 : decode cX4_removes 6 = .ok (.iadd, 1) := by decide +kernel
theorem dX4_removes_7 : decode cX4_removes 7 = .ok (.istore_n 2, 1) := by decide +kernel
theorem dX4_removes_8 : decode cX4_removes 8 = .ok (.iload_n 2, 1) := by decide +kernel
theorem dX4_removes_9 : decode cX4_removes 9 = .ok (.sipush 455, 3) := by decide +kernel
theorem dX4_removes_12 : decode cX4_removes 12 = .ok (.if_icmp .ge 23, 3) := by decide +kernel
theorem dX4_removes_15 : decode cX4_removes 15 = .ok (.aload_n 0, 1) := by decide +kernel
theorem dX4_removes_16 : decode cX4_removes 16 = .ok (.getfield 7, 3) := by decide +kernel
theorem dX4_removes_19 : decode cX4_removes 19 = .ok (.iload_n 2, 1) := by decide +kernel
theorem dX4_removes_20 : decode cX4_removes 20 = .ok (.aload_n 0, 1) := by decide +kernel
theorem dX4_removes_21 : decode cX4_removes 21 = .ok (.getfield 7, 3) := by decide +kernel
theorem dX4_removes_24 : decode cX4_removes 24 = .ok (.iload_n 2, 1) := by decide +kernel
theorem dX4_removes_25 : decode cX4_removes 25 = .ok (.iconst 5, 1) := by decide +kernel
theorem dX4_removes_26 : decode cX4_removes 26 = .ok (.iadd, 1) := by decide +kernel
theorem dX4_removes_27 : decode cX4_removes 27 = .ok (.laload, 1) := by decide +kernel
theorem dX4_removes_28 : decode cX4_removes 28 = .ok (.lastore, 1) := by decide +kernel
theorem dX4_removes_29 : decode cX4_removes 29 = .ok (.iinc 2 1, 3) := by decide +kernel
theorem dX4_removes_32 : decode cX4_removes 32 = .ok (.goto (-24), 3) := by decide +kernel
theorem dX4_removes_35 : decode cX4_removes 35 = .ok (.aload_n 0, 1) := by decide +kernel
theorem dX4_removes_36 : decode cX4_removes 36 = .ok (.getfield 7, 3) := by decide +kernel
theorem dX4_removes_39 : decode cX4_removes 39 = .ok (.sipush 359, 3) := by decide +kernel
theorem dX4_removes_42 : decode cX4_removes 42 = .ok (.dup2, 1) := by decide +kernel
theorem dX4_removes_43 : decode cX4_removes 43 = .ok (.laload, 1) := by decide +kernel
theorem dX4_removes_44 : decode cX4_removes 44 = .ok (.lconst 1, 1) := by decide +kernel
theorem dX4_removes_45 : decode cX4_removes 45 = .ok (.lsub, 1) := by decide +kernel
theorem dX4_removes_46 : decode cX4_removes 46 = .ok (.lastore, 1) := by decide +kernel
theorem dX4_removes_47 : decode cX4_removes 47 = .ok (.return_, 1) := by decide +kernel
theorem dX4_run_0 : decode cX4_run 0 = .ok (.aload_n 0, 1) := by decide +kernel
theorem dX4_run_1 : decode cX4_run 1 = .ok (.iload_n 1, 1) := by decide +kernel
theorem dX4_run_2 : decode cX4_run 2 = .ok (.i2l, 1) := by decide +kernel
theorem dX4_run_3 : decode cX4_run 3 = .ok (.lconst 0, 1) := by decide +kernel
theorem dX4_run_4 : decode cX4_run 4 = .ok (.ldc2_w 92, 3) := by decide +kernel
theorem dX4_run_7 : decode cX4_run 7 = .ok (.invokestatic 23, 3) := by decide +kernel
theorem dX4_run_10 : decode cX4_run 10 = .ok (.iconst 1, 1) := by decide +kernel
theorem dX4_run_11 : decode cX4_run 11 = .ok (.iconst 1, 1) := by decide +kernel
theorem dX4_run_12 : decode cX4_run 12 = .ok (.invokevirtual 45, 3) := by decide +kernel
theorem dX4_run_15 : decode cX4_run 15 = .ok (.ifCond .ne 5, 3) := by decide +kernel
theorem dX4_run_18 : decode cX4_run 18 = .ok (.iconst 0, 1) := by decide +kernel
theorem dX4_run_19 : decode cX4_run 19 = .ok (.ireturn, 1) := by decide +kernel
theorem dX4_run_20 : decode cX4_run 20 = .ok (.aload_n 0, 1) := by decide +kernel
theorem dX4_run_21 : decode cX4_run 21 = .ok (.invokevirtual 49, 3) := by decide +kernel
theorem dX4_run_24 : decode cX4_run 24 = .ok (.iconst 0, 1) := by decide +kernel
theorem dX4_run_25 : decode cX4_run 25 = .ok (.istore_n 2, 1) := by decide +kernel
theorem dX4_run_26 : decode cX4_run 26 = .ok (.aload_n 0, 1) := by decide +kernel
theorem dX4_run_27 : decode cX4_run 27 = .ok (.iconst 0, 1) := by decide +kernel
theorem dX4_run_28 : decode cX4_run 28 = .ok (.invokevirtual 96, 3) := by decide +kernel
theorem dX4_run_31 : decode cX4_run 31 = .ok (.istore_n 3, 1) := by decide +kernel
theorem dX4_run_32 : decode cX4_run 32 = .ok (.iload_n 3, 1) := by decide +kernel
theorem dX4_run_33 : decode cX4_run 33 = .ok (.iconst (-1), 1) := by decide +kernel
theorem dX4_run_34 : decode cX4_run 34 = .ok (.if_icmp .eq 140, 3) := by decide +kernel
theorem dX4_run_37 : decode cX4_run 37 = .ok (.aload_n 0, 1) := by decide +kernel
theorem dX4_run_38 : decode cX4_run 38 = .ok (.getfield 7, 3) := by decide +kernel
theorem dX4_run_41 : decode cX4_run 41 = .ok (.sipush 360, 3) := by decide +kernel
theorem dX4_run_44 : decode cX4_run 44 = .ok (.iconst 5, 1) := by decide +kernel
theorem dX4_run_45 : decode cX4_run 45 = .ok (.iload_n 3, 1) := by decide +kernel
theorem dX4_run_46 : decode cX4_run 46 = .ok (.imul, 1) := by decide +kernel
theorem dX4_run_47 : decode cX4_run 47 = .ok (.iadd, 1) := by decide +kernel
theorem dX4_run_48 : decode cX4_run 48 = .ok (.laload, 1) := by decide +kernel
theorem dX4_run_49 : decode cX4_run 49 = .ok (.iload_n 1, 1) := by decide +kernel
theorem dX4_run_50 : decode cX4_run 50 = .ok (.i2l, 1) := by decide +kernel
theorem dX4_run_51 : decode cX4_run 51 = .ok (.lcmp, 1) := by decide +kernel
theorem dX4_run_52 : decode cX4_run 52 = .ok (.ifCond .gt 122, 3) := by decide +kernel
theorem dX4_run_55 : decode cX4_run 55 = .ok (.sipush 360, 3) := by decide +kernel
theorem dX4_run_58 : decode cX4_run 58 = .ok (.iconst 5, 1) := by decide +kernel
theorem dX4_run_59 : decode cX4_run 59 = .ok (.iload_n 3, 1) := by decide +kernel
theorem dX4_run_60 : decode cX4_run 60 = .ok (.imul, 1) := by decide +kernel
theorem dX4_run_61 : decode cX4_run 61 = .ok (.iadd, 1) := by decide +kernel
theorem dX4_run_62 : decode cX4_run 62 = .ok (.istore 4, 2) := by decide +kernel
theorem dX4_run_64 : decode cX4_run 64 = .ok (.aload_n 0, 1) := by decide +kernel
theorem dX4_run_65 : decode cX4_run 65 = .ok (.getfield 7, 3) := by decide +kernel
theorem dX4_run_68 : decode cX4_run 68 = .ok (.iload 4, 2) := by decide +kernel
theorem dX4_run_70 : decode cX4_run 70 = .ok (.laload, 1) := by decide +kernel
theorem dX4_run_71 : decode cX4_run 71 = .ok (.aload_n 0, 1) := by decide +kernel
theorem dX4_run_72 : decode cX4_run 72 = .ok (.getfield 7, 3) := by decide +kernel
theorem dX4_run_75 : decode cX4_run 75 = .ok (.iconst 0, 1) := by decide +kernel
theorem dX4_run_76 : decode cX4_run 76 = .ok (.laload, 1) := by decide +kernel
theorem dX4_run_77 : decode cX4_run 77 = .ok (.lcmp, 1) := by decide +kernel
theorem dX4_run_78 : decode cX4_run 78 = .ok (.ifCond .le 13, 3) := by decide +kernel
theorem dX4_run_81 : decode cX4_run 81 = .ok (.aload_n 0, 1) := by decide +kernel
theorem dX4_run_82 : decode cX4_run 82 = .ok (.getfield 7, 3) := by decide +kernel
theorem dX4_run_85 : decode cX4_run 85 = .ok (.iload 4, 2) := by decide +kernel
theorem dX4_run_87 : decode cX4_run 87 = .ok (.laload, 1) := by decide +kernel
theorem dX4_run_88 : decode cX4_run 88 = .ok (.goto 9, 3) := by decide +kernel
theorem dX4_run_91 : decode cX4_run 91 = .ok (.aload_n 0, 1) := by decide +kernel
theorem dX4_run_92 : decode cX4_run 92 = .ok (.getfield 7, 3) := by decide +kernel
theorem dX4_run_95 : decode cX4_run 95 = .ok (.iconst 0, 1) := by decide +kernel
theorem dX4_run_96 : decode cX4_run 96 = .ok (.laload, 1) := by decide +kernel
theorem dX4_run_97 : decode cX4_run 97 = .ok (.lstore 5, 2) := by decide +kernel
theorem dX4_run_99 : decode cX4_run 99 = .ok (.aload_n 0, 1) := by decide +kernel
theorem dX4_run_100 : decode cX4_run 100 = .ok (.getfield 7, 3) := by decide +kernel
theorem dX4_run_103 : decode cX4_run 103 = .ok (.bipush 38, 2) := by decide +kernel
theorem dX4_run_105 : decode cX4_run 105 = .ok (.laload, 1) := by decide +kernel
theorem dX4_run_106 : decode cX4_run 106 = .ok (.ldc2_w 86, 3) := by decide +kernel
theorem dX4_run_109 : decode cX4_run 109 = .ok (.lcmp, 1) := by decide +kernel
theorem dX4_run_110 : decode cX4_run 110 = .ok (.ifCond .ge 50, 3) := by decide +kernel
theorem dX4_run_113 : decode cX4_run 113 = .ok (.aload_n 0, 1) := by decide +kernel
theorem dX4_run_114 : decode cX4_run 114 = .ok (.lload 5, 2) := by decide +kernel
theorem dX4_run_116 : decode cX4_run 116 = .ok (.aload_n 0, 1) := by decide +kernel
theorem dX4_run_117 : decode cX4_run 117 = .ok (.getfield 7, 3) := by decide +kernel
theorem dX4_run_120 : decode cX4_run 120 = .ok (.iload 4, 2) := by decide +kernel
theorem dX4_run_122 : decode cX4_run 122 = .ok (.iconst 1, 1) := by decide +kernel
theorem dX4_run_123 : decode cX4_run 123 = .ok (.iadd, 1) := by decide +kernel
theorem dX4_run_124 : decode cX4_run 124 = .ok (.laload, 1) := by decide +kernel
theorem dX4_run_125 : decode cX4_run 125 = .ok (.l2i, 1) := by decide +kernel
theorem dX4_run_126 : decode cX4_run 126 = .ok (.aload_n 0, 1) := by decide +kernel
theorem dX4_run_127 : decode cX4_run 127 = .ok (.getfield 7, 3) := by decide +kernel
theorem dX4_run_130 : decode cX4_run 130 = .ok (.iload 4, 2) := by decide +kernel
theorem dX4_run_132 : decode cX4_run 132 = .ok (.iconst 2, 1) := by decide +kernel
theorem dX4_run_133 : decode cX4_run 133 = .ok (.iadd, 1) := by decide +kernel
theorem dX4_run_134 : decode cX4_run 134 = .ok (.laload, 1) := by decide +kernel
theorem dX4_run_135 : decode cX4_run 135 = .ok (.l2i, 1) := by decide +kernel
theorem dX4_run_136 : decode cX4_run 136 = .ok (.aload_n 0, 1) := by decide +kernel
theorem dX4_run_137 : decode cX4_run 137 = .ok (.getfield 7, 3) := by decide +kernel
theorem dX4_run_140 : decode cX4_run 140 = .ok (.iload 4, 2) := by decide +kernel
theorem dX4_run_142 : decode cX4_run 142 = .ok (.iconst 3, 1) := by decide +kernel
theorem dX4_run_143 : decode cX4_run 143 = .ok (.iadd, 1) := by decide +kernel
theorem dX4_run_144 : decode cX4_run 144 = .ok (.laload, 1) := by decide +kernel
theorem dX4_run_145 : decode cX4_run 145 = .ok (.aload_n 0, 1) := by decide +kernel
theorem dX4_run_146 : decode cX4_run 146 = .ok (.getfield 7, 3) := by decide +kernel
theorem dX4_run_149 : decode cX4_run 149 = .ok (.iload 4, 2) := by decide +kernel
theorem dX4_run_151 : decode cX4_run 151 = .ok (.iconst 4, 1) := by decide +kernel
theorem dX4_run_152 : decode cX4_run 152 = .ok (.iadd, 1) := by decide +kernel
theorem dX4_run_153 : decode cX4_run 153 = .ok (.laload, 1) := by decide +kernel
theorem dX4_run_154 : decode cX4_run 154 = .ok (.invokevirtual 88, 3) := by decide +kernel
theorem dX4_run_157 : decode cX4_run 157 = .ok (.iinc 2 1, 3) := by decide +kernel
theorem dX4_run_160 : decode cX4_run 160 = .ok (.aload_n 0, 1) := by decide +kernel
theorem dX4_run_161 : decode cX4_run 161 = .ok (.iload_n 3, 1) := by decide +kernel
theorem dX4_run_162 : decode cX4_run 162 = .ok (.invokevirtual 100, 3) := by decide +kernel
theorem dX4_run_165 : decode cX4_run 165 = .ok (.aload_n 0, 1) := by decide +kernel
theorem dX4_run_166 : decode cX4_run 166 = .ok (.iconst 0, 1) := by decide +kernel
theorem dX4_run_167 : decode cX4_run 167 = .ok (.invokevirtual 96, 3) := by decide +kernel
theorem dX4_run_170 : decode cX4_run 170 = .ok (.istore_n 3, 1) := by decide +kernel
theorem dX4_run_171 : decode cX4_run 171 = .ok (.goto (-139), 3) := by decide +kernel
theorem dX4_run_174 : decode cX4_run 174 = .ok (.aload_n 0, 1) := by decide +kernel
theorem dX4_run_175 : decode cX4_run 175 = .ok (.getfield 7, 3) := by decide +kernel
theorem dX4_run_178 : decode cX4_run 178 = .ok (.iconst 0, 1) := by decide +kernel
theorem dX4_run_179 : decode cX4_run 179 = .ok (.aload_n 0, 1) := by decide +kernel
theorem dX4_run_180 : decode cX4_run 180 = .ok (.getfield 7, 3) := by decide +kernel
theorem dX4_run_183 : decode cX4_run 183 = .ok (.iconst 0, 1) := by decide +kernel
theorem dX4_run_184 : decode cX4_run 184 = .ok (.laload, 1) := by decide +kernel
theorem dX4_run_185 : decode cX4_run 185 = .ok (.iload_n 1, 1) := by decide +kernel
theorem dX4_run_186 : decode cX4_run 186 = .ok (.i2l, 1) := by decide +kernel
theorem dX4_run_187 : decode cX4_run 187 = .ok (.lcmp, 1) := by decide +kernel
theorem dX4_run_188 : decode cX4_run 188 = .ok (.ifCond .ge 8, 3) := by decide +kernel
theorem dX4_run_191 : decode cX4_run 191 = .ok (.iload_n 1, 1) := by decide +kernel
theorem dX4_run_192 : decode cX4_run 192 = .ok (.i2l, 1) := by decide +kernel
theorem dX4_run_193 : decode cX4_run 193 = .ok (.goto 9, 3) := by decide +kernel
theorem dX4_run_196 : decode cX4_run 196 = .ok (.aload_n 0, 1) := by decide +kernel
theorem dX4_run_197 : decode cX4_run 197 = .ok (.getfield 7, 3) := by decide +kernel
theorem dX4_run_200 : decode cX4_run 200 = .ok (.iconst 0, 1) := by decide +kernel
theorem dX4_run_201 : decode cX4_run 201 = .ok (.laload, 1) := by decide +kernel
theorem dX4_run_202 : decode cX4_run 202 = .ok (.lastore, 1) := by decide +kernel
theorem dX4_run_203 : decode cX4_run 203 = .ok (.iload_n 2, 1) := by decide +kernel
theorem dX4_run_204 : decode cX4_run 204 = .ok (.ireturn, 1) := by decide +kernel
theorem dX4_now_0 : decode cX4_now 0 = .ok (.aload_n 0, 1) := by decide +kernel
theorem dX4_now_1 : decode cX4_now 1 = .ok (.iconst 0, 1) := by decide +kernel
theorem dX4_now_2 : decode cX4_now 2 = .ok (.putfield 16, 3) := by decide +kernel
theorem dX4_now_5 : decode cX4_now 5 = .ok (.aload_n 0, 1) := by decide +kernel
theorem dX4_now_6 : decode cX4_now 6 = .ok (.getfield 7, 3) := by decide +kernel
theorem dX4_now_9 : decode cX4_now 9 = .ok (.iconst 0, 1) := by decide +kernel
theorem dX4_now_10 : decode cX4_now 10 = .ok (.laload, 1) := by decide +kernel
theorem dX4_now_11 : decode cX4_now 11 = .ok (.lreturn, 1) := by decide +kernel
theorem dX4_exchanges_0 : decode cX4_exchanges 0 = .ok (.aload_n 0, 1) := by decide +kernel
theorem dX4_exchanges_1 : decode cX4_exchanges 1 = .ok (.iconst 0, 1) := by decide +kernel
theorem dX4_exchanges_2 : decode cX4_exchanges 2 = .ok (.putfield 16, 3) := by decide +kernel
theorem dX4_exchanges_5 : decode cX4_exchanges 5 = .ok (.aload_n 0, 1) := by decide +kernel
theorem dX4_exchanges_6 : decode cX4_exchanges 6 = .ok (.getfield 7, 3) := by decide +kernel
theorem dX4_exchanges_9 : decode cX4_exchanges 9 = .ok (.bipush 38, 2) := by decide +kernel
theorem dX4_exchanges_11 : decode cX4_exchanges 11 = .ok (.laload, 1) := by decide +kernel
theorem dX4_exchanges_12 : decode cX4_exchanges 12 = .ok (.l2i, 1) := by decide +kernel
theorem dX4_exchanges_13 : decode cX4_exchanges 13 = .ok (.ireturn, 1) := by decide +kernel
theorem dX4_isExchange_0 : decode cX4_isExchange 0 = .ok (.iload_n 1, 1) := by decide +kernel
theorem dX4_isExchange_1 : decode cX4_isExchange 1 = .ok (.i2l, 1) := by decide +kernel
theorem dX4_isExchange_2 : decode cX4_isExchange 2 = .ok (.lconst 0, 1) := by decide +kernel
theorem dX4_isExchange_3 : decode cX4_isExchange 3 = .ok (.aload_n 0, 1) := by decide +kernel
theorem dX4_isExchange_4 : decode cX4_isExchange 4 = .ok (.getfield 7, 3) := by decide +kernel
theorem dX4_isExchange_7 : decode cX4_isExchange 7 = .ok (.bipush 38, 2) := by decide +kernel
theorem dX4_isExchange_9 : decode cX4_isExchange 9 = .ok (.laload, 1) := by decide +kernel
theorem dX4_isExchange_10 : decode cX4_isExchange 10 = .ok (.lconst 1, 1) := by decide +kernel
theorem dX4_isExchange_11 : decode cX4_isExchange 11 = .ok (.lsub, 1) := by decide +kernel
theorem dX4_isExchange_12 : decode cX4_isExchange 12 = .ok (.invokestatic 23, 3) := by decide +kernel
theorem dX4_isExchange_15 : decode cX4_isExchange 15 = .ok (.ireturn, 1) := by decide +kernel
theorem dX4_inExchange_0 : decode cX4_inExchange 0 = .ok (.aload_n 0, 1) := by decide +kernel
theorem dX4_inExchange_1 : decode cX4_inExchange 1 = .ok (.getfield 7, 3) := by decide +kernel
theorem dX4_inExchange_4 : decode cX4_inExchange 4 = .ok (.bipush 39, 2) := by decide +kernel
theorem dX4_inExchange_6 : decode cX4_inExchange 6 = .ok (.bipush 8, 2) := by decide +kernel
theorem dX4_inExchange_8 : decode cX4_inExchange 8 = .ok (.iload_n 1, 1) := by decide +kernel
theorem dX4_inExchange_9 : decode cX4_inExchange 9 = .ok (.imul, 1) := by decide +kernel
theorem dX4_inExchange_10 : decode cX4_inExchange 10 = .ok (.iadd, 1) := by decide +kernel
theorem dX4_inExchange_11 : decode cX4_inExchange 11 = .ok (.iload_n 2, 1) := by decide +kernel
theorem dX4_inExchange_12 : decode cX4_inExchange 12 = .ok (.iadd, 1) := by decide +kernel
theorem dX4_inExchange_13 : decode cX4_inExchange 13 = .ok (.laload, 1) := by decide +kernel
theorem dX4_inExchange_14 : decode cX4_inExchange 14 = .ok (.lreturn, 1) := by decide +kernel
theorem dX4_stamp_0 : decode cX4_stamp 0 = .ok (.aload_n 0, 1) := by decide +kernel
theorem dX4_stamp_1 : decode cX4_stamp 1 = .ok (.aload_n 0, 1) := by decide +kernel
theorem dX4_stamp_2 : decode cX4_stamp 2 = .ok (.iload_n 1, 1) := by decide +kernel
theorem dX4_stamp_3 : decode cX4_stamp 3 = .ok (.invokevirtual 104, 3) := by decide +kernel
theorem dX4_stamp_6 : decode cX4_stamp 6 = .ok (.iload_n 2, 1) := by decide +kernel
theorem dX4_stamp_7 : decode cX4_stamp 7 = .ok (.i2l, 1) := by decide +kernel
theorem dX4_stamp_8 : decode cX4_stamp 8 = .ok (.lconst 1, 1) := by decide +kernel
theorem dX4_stamp_9 : decode cX4_stamp 9 = .ok (.ldc2_w 43, 3) := by decide +kernel
theorem dX4_stamp_12 : decode cX4_stamp 12 = .ok (.invokestatic 23, 3) := by decide +kernel
theorem dX4_stamp_15 : decode cX4_stamp 15 = .ok (.iconst 1, 1) := by decide +kernel
theorem dX4_stamp_16 : decode cX4_stamp 16 = .ok (.invokevirtual 45, 3) := by decide +kernel
theorem dX4_stamp_19 : decode cX4_stamp 19 = .ok (.ifCond .eq 15, 3) := by decide +kernel
theorem dX4_stamp_22 : decode cX4_stamp 22 = .ok (.aload_n 0, 1) := by decide +kernel
theorem dX4_stamp_23 : decode cX4_stamp 23 = .ok (.iload_n 1, 1) := by decide +kernel
theorem dX4_stamp_24 : decode cX4_stamp 24 = .ok (.iconst 1, 1) := by decide +kernel
theorem dX4_stamp_25 : decode cX4_stamp 25 = .ok (.iload_n 2, 1) := by decide +kernel
theorem dX4_stamp_26 : decode cX4_stamp 26 = .ok (.iadd, 1) := by decide +kernel
theorem dX4_stamp_27 : decode cX4_stamp 27 = .ok (.invokevirtual 107, 3) := by decide +kernel
theorem dX4_stamp_30 : decode cX4_stamp 30 = .ok (.l2i, 1) := by decide +kernel
theorem dX4_stamp_31 : decode cX4_stamp 31 = .ok (.goto 4, 3) := by decide +kernel
theorem dX4_stamp_34 : decode cX4_stamp 34 = .ok (.iconst 0, 1) := by decide +kernel
theorem dX4_stamp_35 : decode cX4_stamp 35 = .ok (.ireturn, 1) := by decide +kernel
theorem dX4_party_0 : decode cX4_party 0 = .ok (.aload_n 0, 1) := by decide +kernel
theorem dX4_party_1 : decode cX4_party 1 = .ok (.aload_n 0, 1) := by decide +kernel
theorem dX4_party_2 : decode cX4_party 2 = .ok (.iload_n 1, 1) := by decide +kernel
theorem dX4_party_3 : decode cX4_party 3 = .ok (.invokevirtual 104, 3) := by decide +kernel
theorem dX4_party_6 : decode cX4_party 6 = .ok (.iload_n 2, 1) := by decide +kernel
theorem dX4_party_7 : decode cX4_party 7 = .ok (.i2l, 1) := by decide +kernel
theorem dX4_party_8 : decode cX4_party 8 = .ok (.lconst 0, 1) := by decide +kernel
theorem dX4_party_9 : decode cX4_party 9 = .ok (.lconst 1, 1) := by decide +kernel
theorem dX4_party_10 : decode cX4_party 10 = .ok (.invokestatic 23, 3) := by decide +kernel
theorem dX4_party_13 : decode cX4_party 13 = .ok (.iconst 1, 1) := by decide +kernel
theorem dX4_party_14 : decode cX4_party 14 = .ok (.invokevirtual 45, 3) := by decide +kernel
theorem dX4_party_17 : decode cX4_party 17 = .ok (.ifCond .eq 13, 3) := by decide +kernel
theorem dX4_party_20 : decode cX4_party 20 = .ok (.aload_n 0, 1) := by decide +kernel
theorem dX4_party_21 : decode cX4_party 21 = .ok (.iload_n 1, 1) := by decide +kernel
theorem dX4_party_22 : decode cX4_party 22 = .ok (.iload_n 2, 1) := by decide +kernel
theorem dX4_party_23 : decode cX4_party 23 = .ok (.invokevirtual 107, 3) := by decide +kernel
theorem dX4_party_26 : decode cX4_party 26 = .ok (.l2i, 1) := by decide +kernel
theorem dX4_party_27 : decode cX4_party 27 = .ok (.goto 4, 3) := by decide +kernel
theorem dX4_party_30 : decode cX4_party 30 = .ok (.iconst 0, 1) := by decide +kernel
theorem dX4_party_31 : decode cX4_party 31 = .ok (.ireturn, 1) := by decide +kernel
theorem dX4_floor_0 : decode cX4_floor 0 = .ok (.lload_n 0, 1) := by decide +kernel
theorem dX4_floor_1 : decode cX4_floor 1 = .ok (.lload_n 2, 1) := by decide +kernel
theorem dX4_floor_2 : decode cX4_floor 2 = .ok (.ldiv, 1) := by decide +kernel
theorem dX4_floor_3 : decode cX4_floor 3 = .ok (.lstore 4, 2) := by decide +kernel
theorem dX4_floor_5 : decode cX4_floor 5 = .ok (.lload_n 0, 1) := by decide +kernel
theorem dX4_floor_6 : decode cX4_floor 6 = .ok (.lload_n 2, 1) := by decide +kernel
theorem dX4_floor_7 : decode cX4_floor 7 = .ok (.lrem, 1) := by decide +kernel
theorem dX4_floor_8 : decode cX4_floor 8 = .ok (.lconst 0, 1) := by decide +kernel
theorem dX4_floor_9 : decode cX4_floor 9 = .ok (.lcmp, 1) := by decide +kernel
theorem dX4_floor_10 : decode cX4_floor 10 = .ok (.ifCond .eq 35, 3) := by decide +kernel
theorem dX4_floor_13 : decode cX4_floor 13 = .ok (.lload_n 0, 1) := by decide +kernel
theorem dX4_floor_14 : decode cX4_floor 14 = .ok (.lconst 0, 1) := by decide +kernel
theorem dX4_floor_15 : decode cX4_floor 15 = .ok (.lcmp, 1) := by decide +kernel
theorem dX4_floor_16 : decode cX4_floor 16 = .ok (.ifCond .ge 7, 3) := by decide +kernel
theorem dX4_floor_19 : decode cX4_floor 19 = .ok (.iconst 1, 1) := by decide +kernel
theorem dX4_floor_20 : decode cX4_floor 20 = .ok (.goto 4, 3) := by decide +kernel
theorem dX4_floor_23 : decode cX4_floor 23 = .ok (.iconst 0, 1) := by decide +kernel
theorem dX4_floor_24 : decode cX4_floor 24 = .ok (.lload_n 2, 1) := by decide +kernel
theorem dX4_floor_25 : decode cX4_floor 25 = .ok (.lconst 0, 1) := by decide +kernel
theorem dX4_floor_26 : decode cX4_floor 26 = .ok (.lcmp, 1) := by decide +kernel
theorem dX4_floor_27 : decode cX4_floor 27 = .ok (.ifCond .ge 7, 3) := by decide +kernel
theorem dX4_floor_30 : decode cX4_floor 30 = .ok (.iconst 1, 1) := by decide +kernel
theorem dX4_floor_31 : decode cX4_floor 31 = .ok (.goto 4, 3) := by decide +kernel
theorem dX4_floor_34 : decode cX4_floor 34 = .ok (.iconst 0, 1) := by decide +kernel
theorem dX4_floor_35 : decode cX4_floor 35 = .ok (.if_icmp .eq 10, 3) := by decide +kernel
theorem dX4_floor_38 : decode cX4_floor 38 = .ok (.lload 4, 2) := by decide +kernel
theorem dX4_floor_40 : decode cX4_floor 40 = .ok (.lconst 1, 1) := by decide +kernel
theorem dX4_floor_41 : decode cX4_floor 41 = .ok (.lsub, 1) := by decide +kernel
theorem dX4_floor_42 : decode cX4_floor 42 = .ok (.goto 5, 3) := by decide +kernel
theorem dX4_floor_45 : decode cX4_floor 45 = .ok (.lload 4, 2) := by decide +kernel
theorem dX4_floor_47 : decode cX4_floor 47 = .ok (.lreturn, 1) := by decide +kernel
theorem dX4_span_0 : decode cX4_span 0 = .ok (.aload_n 0, 1) := by decide +kernel
theorem dX4_span_1 : decode cX4_span 1 = .ok (.iload_n 1, 1) := by decide +kernel
theorem dX4_span_2 : decode cX4_span 2 = .ok (.iconst 1, 1) := by decide +kernel
theorem dX4_span_3 : decode cX4_span 3 = .ok (.iload_n 3, 1) := by decide +kernel
theorem dX4_span_4 : decode cX4_span 4 = .ok (.iadd, 1) := by decide +kernel
theorem dX4_span_5 : decode cX4_span 5 = .ok (.invokevirtual 107, 3) := by decide +kernel
theorem dX4_span_8 : decode cX4_span 8 = .ok (.aload_n 0, 1) := by decide +kernel
theorem dX4_span_9 : decode cX4_span 9 = .ok (.iload_n 1, 1) := by decide +kernel
theorem dX4_span_10 : decode cX4_span 10 = .ok (.iconst 1, 1) := by decide +kernel
theorem dX4_span_11 : decode cX4_span 11 = .ok (.iload_n 2, 1) := by decide +kernel
theorem dX4_span_12 : decode cX4_span 12 = .ok (.iadd, 1) := by decide +kernel
theorem dX4_span_13 : decode cX4_span 13 = .ok (.invokevirtual 107, 3) := by decide +kernel
theorem dX4_span_16 : decode cX4_span 16 = .ok (.lsub, 1) := by decide +kernel
theorem dX4_span_17 : decode cX4_span 17 = .ok (.ldc2_w 72, 3) := by decide +kernel
theorem dX4_span_20 : decode cX4_span 20 = .ok (.ladd, 1) := by decide +kernel
theorem dX4_span_21 : decode cX4_span 21 = .ok (.ldc2_w 72, 3) := by decide +kernel
theorem dX4_span_24 : decode cX4_span 24 = .ok (.lrem, 1) := by decide +kernel
theorem dX4_span_25 : decode cX4_span 25 = .ok (.lreturn, 1) := by decide +kernel
theorem dX4_rawOf_0 : decode cX4_rawOf 0 = .ok (.aload_n 0, 1) := by decide +kernel
theorem dX4_rawOf_1 : decode cX4_rawOf 1 = .ok (.iload_n 1, 1) := by decide +kernel
theorem dX4_rawOf_2 : decode cX4_rawOf 2 = .ok (.iconst 1, 1) := by decide +kernel
theorem dX4_rawOf_3 : decode cX4_rawOf 3 = .ok (.iconst 4, 1) := by decide +kernel
theorem dX4_rawOf_4 : decode cX4_rawOf 4 = .ok (.invokevirtual 110, 3) := by decide +kernel
theorem dX4_rawOf_7 : decode cX4_rawOf 7 = .ok (.lstore_n 3, 1) := by decide +kernel
theorem dX4_rawOf_8 : decode cX4_rawOf 8 = .ok (.aload_n 0, 1) := by decide +kernel
theorem dX4_rawOf_9 : decode cX4_rawOf 9 = .ok (.iload_n 1, 1) := by decide +kernel
theorem dX4_rawOf_10 : decode cX4_rawOf 10 = .ok (.iconst 2, 1) := by decide +kernel
theorem dX4_rawOf_11 : decode cX4_rawOf 11 = .ok (.iconst 3, 1) := by decide +kernel
theorem dX4_rawOf_12 : decode cX4_rawOf 12 = .ok (.invokevirtual 110, 3) := by decide +kernel
theorem dX4_rawOf_15 : decode cX4_rawOf 15 = .ok (.lstore 5, 2) := by decide +kernel
theorem dX4_rawOf_17 : decode cX4_rawOf 17 = .ok (.aload_n 0, 1) := by decide +kernel
theorem dX4_rawOf_18 : decode cX4_rawOf 18 = .ok (.iload_n 1, 1) := by decide +kernel
theorem dX4_rawOf_19 : decode cX4_rawOf 19 = .ok (.iconst 3, 1) := by decide +kernel
theorem dX4_rawOf_20 : decode cX4_rawOf 20 = .ok (.bipush 6, 2) := by decide +kernel
theorem dX4_rawOf_22 : decode cX4_rawOf 22 = .ok (.invokevirtual 110, 3) := by decide +kernel
theorem dX4_rawOf_25 : decode cX4_rawOf 25 = .ok (.lstore 7, 2) := by decide +kernel
theorem dX4_rawOf_27 : decode cX4_rawOf 27 = .ok (.aload_n 0, 1) := by decide +kernel
theorem dX4_rawOf_28 : decode cX4_rawOf 28 = .ok (.iload_n 1, 1) := by decide +kernel
theorem dX4_rawOf_29 : decode cX4_rawOf 29 = .ok (.iconst 4, 1) := by decide +kernel
theorem dX4_rawOf_30 : decode cX4_rawOf 30 = .ok (.iconst 5, 1) := by decide +kernel
theorem dX4_rawOf_31 : decode cX4_rawOf 31 = .ok (.invokevirtual 110, 3) := by decide +kernel
theorem dX4_rawOf_34 : decode cX4_rawOf 34 = .ok (.lstore 9, 2) := by decide +kernel
theorem dX4_rawOf_36 : decode cX4_rawOf 36 = .ok (.iload_n 2, 1) := by decide +kernel
theorem dX4_rawOf_37 : decode cX4_rawOf 37 = .ok (.ifCond .ne 14, 3) := by decide +kernel
theorem dX4_rawOf_40 : decode cX4_rawOf 40 = .ok (.lload_n 3, 1) := by decide +kernel
theorem dX4_rawOf_41 : decode cX4_rawOf 41 = .ok (.lload 5, 2) := by decide +kernel
theorem dX4_rawOf_43 : decode cX4_rawOf 43 = .ok (.lsub, 1) := by decide +kernel
theorem dX4_rawOf_44 : decode cX4_rawOf 44 = .ok (.ldc2_w 54, 3) := by decide +kernel
theorem dX4_rawOf_47 : decode cX4_rawOf 47 = .ok (.invokestatic 114, 3) := by decide +kernel
theorem dX4_rawOf_50 : decode cX4_rawOf 50 = .ok (.lreturn, 1) := by decide +kernel
theorem dX4_rawOf_51 : decode cX4_rawOf 51 = .ok (.iload_n 2, 1) := by decide +kernel
theorem dX4_rawOf_52 : decode cX4_rawOf 52 = .ok (.iconst 1, 1) := by decide +kernel
theorem dX4_rawOf_53 : decode cX4_rawOf 53 = .ok (.if_icmp .ne 20, 3) := by decide +kernel
theorem dX4_rawOf_56 : decode cX4_rawOf 56 = .ok (.lload_n 3, 1) := by decide +kernel
theorem dX4_rawOf_57 : decode cX4_rawOf 57 = .ok (.lload 5, 2) := by decide +kernel
theorem dX4_rawOf_59 : decode cX4_rawOf 59 = .ok (.lsub, 1) := by decide +kernel
theorem dX4_rawOf_60 : decode cX4_rawOf 60 = .ok (.lload 7, 2) := by decide +kernel
theorem dX4_rawOf_62 : decode cX4_rawOf 62 = .ok (.ladd, 1) := by decide +kernel
theorem dX4_rawOf_63 : decode cX4_rawOf 63 = .ok (.lload 9, 2) := by decide +kernel
theorem dX4_rawOf_65 : decode cX4_rawOf 65 = .ok (.lsub, 1) := by decide +kernel
theorem dX4_rawOf_66 : decode cX4_rawOf 66 = .ok (.ldc2_w 117, 3) := by decide +kernel
theorem dX4_rawOf_69 : decode cX4_rawOf 69 = .ok (.invokestatic 114, 3) := by decide +kernel
theorem dX4_rawOf_72 : decode cX4_rawOf 72 = .ok (.lreturn, 1) := by decide +kernel
theorem dX4_rawOf_73 : decode cX4_rawOf 73 = .ok (.lload_n 3, 1) := by decide +kernel
theorem dX4_rawOf_74 : decode cX4_rawOf 74 = .ok (.lload 7, 2) := by decide +kernel
theorem dX4_rawOf_76 : decode cX4_rawOf 76 = .ok (.ladd, 1) := by decide +kernel
theorem dX4_rawOf_77 : decode cX4_rawOf 77 = .ok (.lload 9, 2) := by decide +kernel
theorem dX4_rawOf_79 : decode cX4_rawOf 79 = .ok (.ladd, 1) := by decide +kernel
theorem dX4_rawOf_80 : decode cX4_rawOf 80 = .ok (.lload 5, 2) := by decide +kernel
theorem dX4_rawOf_82 : decode cX4_rawOf 82 = .ok (.ladd, 1) := by decide +kernel
theorem dX4_rawOf_83 : decode cX4_rawOf 83 = .ok (.lstore 11, 2) := by decide +kernel
theorem dX4_rawOf_85 : decode cX4_rawOf 85 = .ok (.lload 11, 2) := by decide +kernel
theorem dX4_rawOf_87 : decode cX4_rawOf 87 = .ok (.lconst 0, 1) := by decide +kernel
theorem dX4_rawOf_88 : decode cX4_rawOf 88 = .ok (.lcmp, 1) := by decide +kernel
theorem dX4_rawOf_89 : decode cX4_rawOf 89 = .ok (.ifCond .ne 7, 3) := by decide +kernel
theorem dX4_rawOf_92 : decode cX4_rawOf 92 = .ok (.lconst 0, 1) := by decide +kernel
theorem dX4_rawOf_93 : decode cX4_rawOf 93 = .ok (.goto 18, 3) := by decide +kernel
theorem dX4_rawOf_96 : decode cX4_rawOf 96 = .ok (.lload_n 3, 1) := by decide +kernel
theorem dX4_rawOf_97 : decode cX4_rawOf 97 = .ok (.lload 7, 2) := by decide +kernel
theorem dX4_rawOf_99 : decode cX4_rawOf 99 = .ok (.lmul, 1) := by decide +kernel
theorem dX4_rawOf_100 : decode cX4_rawOf 100 = .ok (.lload 9, 2) := by decide +kernel
theorem dX4_rawOf_102 : decode cX4_rawOf 102 = .ok (.lload 5, 2) := by decide +kernel
theorem dX4_rawOf_104 : decode cX4_rawOf 104 = .ok (.lmul, 1) := by decide +kernel
theorem dX4_rawOf_105 : decode cX4_rawOf 105 = .ok (.lsub, 1) := by decide +kernel
theorem dX4_rawOf_106 : decode cX4_rawOf 106 = .ok (.lload 11, 2) := by decide +kernel
theorem dX4_rawOf_108 : decode cX4_rawOf 108 = .ok (.invokestatic 114, 3) := by decide +kernel
theorem dX4_rawOf_111 : decode cX4_rawOf 111 = .ok (.lreturn, 1) := by decide +kernel
theorem dX4_first_0 : decode cX4_first 0 = .ok (.aload_n 0, 1) := by decide +kernel
theorem dX4_first_1 : decode cX4_first 1 = .ok (.iload_n 1, 1) := by decide +kernel
theorem dX4_first_2 : decode cX4_first 2 = .ok (.iconst 0, 1) := by decide +kernel
theorem dX4_first_3 : decode cX4_first 3 = .ok (.invokevirtual 107, 3) := by decide +kernel
theorem dX4_first_6 : decode cX4_first 6 = .ok (.l2i, 1) := by decide +kernel
theorem dX4_first_7 : decode cX4_first 7 = .ok (.ireturn, 1) := by decide +kernel
theorem dX4_second_0 : decode cX4_second 0 = .ok (.aload_n 0, 1) := by decide +kernel
theorem dX4_second_1 : decode cX4_second 1 = .ok (.iload_n 1, 1) := by decide +kernel
theorem dX4_second_2 : decode cX4_second 2 = .ok (.iconst 1, 1) := by decide +kernel
theorem dX4_second_3 : decode cX4_second 3 = .ok (.invokevirtual 107, 3) := by decide +kernel
theorem dX4_second_6 : decode cX4_second 6 = .ok (.l2i, 1) := by decide +kernel
theorem dX4_second_7 : decode cX4_second 7 = .ok (.ireturn, 1) := by decide +kernel
theorem dX4_rangeOf_0 : decode cX4_rangeOf 0 = .ok (.aload_n 0, 1) := by decide +kernel
theorem dX4_rangeOf_1 : decode cX4_rangeOf 1 = .ok (.iload_n 1, 1) := by decide +kernel
theorem dX4_rangeOf_2 : decode cX4_rangeOf 2 = .ok (.iload_n 2, 1) := by decide +kernel
theorem dX4_rangeOf_3 : decode cX4_rangeOf 3 = .ok (.invokevirtual 119, 3) := by decide +kernel
theorem dX4_rangeOf_6 : decode cX4_rangeOf 6 = .ok (.aload_n 0, 1) := by decide +kernel
theorem dX4_rangeOf_7 : decode cX4_rangeOf 7 = .ok (.aload_n 0, 1) := by decide +kernel
theorem dX4_rangeOf_8 : decode cX4_rangeOf 8 = .ok (.iload_n 1, 1) := by decide +kernel
theorem dX4_rangeOf_9 : decode cX4_rangeOf 9 = .ok (.invokevirtual 122, 3) := by decide +kernel
theorem dX4_rangeOf_12 : decode cX4_rangeOf 12 = .ok (.iconst 5, 1) := by decide +kernel
theorem dX4_rangeOf_13 : decode cX4_rangeOf 13 = .ok (.invokevirtual 56, 3) := by decide +kernel
theorem dX4_rangeOf_16 : decode cX4_rangeOf 16 = .ok (.lsub, 1) := by decide +kernel
theorem dX4_rangeOf_17 : decode cX4_rangeOf 17 = .ok (.aload_n 0, 1) := by decide +kernel
theorem dX4_rangeOf_18 : decode cX4_rangeOf 18 = .ok (.aload_n 0, 1) := by decide +kernel
theorem dX4_rangeOf_19 : decode cX4_rangeOf 19 = .ok (.iload_n 1, 1) := by decide +kernel
theorem dX4_rangeOf_20 : decode cX4_rangeOf 20 = .ok (.invokevirtual 125, 3) := by decide +kernel
theorem dX4_rangeOf_23 : decode cX4_rangeOf 23 = .ok (.iconst 5, 1) := by decide +kernel
theorem dX4_rangeOf_24 : decode cX4_rangeOf 24 = .ok (.invokevirtual 56, 3) := by decide +kernel
theorem dX4_rangeOf_27 : decode cX4_rangeOf 27 = .ok (.lsub, 1) := by decide +kernel
theorem dX4_rangeOf_28 : decode cX4_rangeOf 28 = .ok (.lreturn, 1) := by decide +kernel
theorem dX4_isMethod_0 : decode cX4_isMethod 0 = .ok (.iload_n 0, 1) := by decide +kernel
theorem dX4_isMethod_1 : decode cX4_isMethod 1 = .ok (.i2l, 1) := by decide +kernel
theorem dX4_isMethod_2 : decode cX4_isMethod 2 = .ok (.lconst 0, 1) := by decide +kernel
theorem dX4_isMethod_3 : decode cX4_isMethod 3 = .ok (.ldc2_w 54, 3) := by decide +kernel
theorem dX4_isMethod_6 : decode cX4_isMethod 6 = .ok (.invokestatic 23, 3) := by decide +kernel
theorem dX4_isMethod_9 : decode cX4_isMethod 9 = .ok (.ireturn, 1) := by decide +kernel
theorem dX4_range_0 : decode cX4_range 0 = .ok (.aload_n 0, 1) := by decide +kernel
theorem dX4_range_1 : decode cX4_range 1 = .ok (.aload_n 0, 1) := by decide +kernel
theorem dX4_range_2 : decode cX4_range 2 = .ok (.iload_n 1, 1) := by decide +kernel
theorem dX4_range_3 : decode cX4_range 3 = .ok (.invokevirtual 104, 3) := by decide +kernel
theorem dX4_range_6 : decode cX4_range 6 = .ok (.iload_n 2, 1) := by decide +kernel
theorem dX4_range_7 : decode cX4_range 7 = .ok (.invokestatic 128, 3) := by decide +kernel
theorem dX4_range_10 : decode cX4_range 10 = .ok (.iconst 1, 1) := by decide +kernel
theorem dX4_range_11 : decode cX4_range 11 = .ok (.invokevirtual 45, 3) := by decide +kernel
theorem dX4_range_14 : decode cX4_range 14 = .ok (.ifCond .eq 13, 3) := by decide +kernel
theorem dX4_range_17 : decode cX4_range 17 = .ok (.aload_n 0, 1) := by decide +kernel
theorem dX4_range_18 : decode cX4_range 18 = .ok (.iload_n 1, 1) := by decide +kernel
theorem dX4_range_19 : decode cX4_range 19 = .ok (.iload_n 2, 1) := by decide +kernel
theorem dX4_range_20 : decode cX4_range 20 = .ok (.invokevirtual 131, 3) := by decide +kernel
theorem dX4_range_23 : decode cX4_range 23 = .ok (.l2i, 1) := by decide +kernel
theorem dX4_range_24 : decode cX4_range 24 = .ok (.goto 4, 3) := by decide +kernel
theorem dX4_range_27 : decode cX4_range 27 = .ok (.iconst 0, 1) := by decide +kernel
theorem dX4_range_28 : decode cX4_range 28 = .ok (.ireturn, 1) := by decide +kernel
theorem dX4_latestOf_0 : decode cX4_latestOf 0 = .ok (.iconst (-1), 1) := by decide +kernel
theorem dX4_latestOf_1 : decode cX4_latestOf 1 = .ok (.istore_n 3, 1) := by decide +kernel
theorem dX4_latestOf_2 : decode cX4_latestOf 2 = .ok (.iconst 0, 1) := by decide +kernel
theorem dX4_latestOf_3 : decode cX4_latestOf 3 = .ok (.istore 4, 2) := by decide +kernel
theorem dX4_latestOf_5 : decode cX4_latestOf 5 = .ok (.iload 4, 2) := by decide +kernel
theorem dX4_latestOf_7 : decode cX4_latestOf 7 = .ok (.i2l, 1) := by decide +kernel
theorem dX4_latestOf_8 : decode cX4_latestOf 8 = .ok (.aload_n 0, 1) := by decide +kernel
theorem dX4_latestOf_9 : decode cX4_latestOf 9 = .ok (.getfield 7, 3) := by decide +kernel
theorem dX4_latestOf_12 : decode cX4_latestOf 12 = .ok (.bipush 38, 2) := by decide +kernel
theorem dX4_latestOf_14 : decode cX4_latestOf 14 = .ok (.laload, 1) := by decide +kernel
theorem dX4_latestOf_15 : decode cX4_latestOf 15 = .ok (.lcmp, 1) := by decide +kernel
theorem dX4_latestOf_16 : decode cX4_latestOf 16 = .ok (.ifCond .ge 56, 3) := by decide +kernel
theorem dX4_latestOf_19 : decode cX4_latestOf 19 = .ok (.aload_n 0, 1) := by decide +kernel
theorem dX4_latestOf_20 : decode cX4_latestOf 20 = .ok (.iload 4, 2) := by decide +kernel
theorem dX4_latestOf_22 : decode cX4_latestOf 22 = .ok (.invokevirtual 122, 3) := by decide +kernel
theorem dX4_latestOf_25 : decode cX4_latestOf 25 = .ok (.iload_n 1, 1) := by decide +kernel
theorem dX4_latestOf_26 : decode cX4_latestOf 26 = .ok (.if_icmp .ne 13, 3) := by decide +kernel
theorem dX4_latestOf_29 : decode cX4_latestOf 29 = .ok (.aload_n 0, 1) := by decide +kernel
theorem dX4_latestOf_30 : decode cX4_latestOf 30 = .ok (.iload 4, 2) := by decide +kernel
theorem dX4_latestOf_32 : decode cX4_latestOf 32 = .ok (.invokevirtual 125, 3) := by decide +kernel
theorem dX4_latestOf_35 : decode cX4_latestOf 35 = .ok (.iload_n 2, 1) := by decide +kernel
theorem dX4_latestOf_36 : decode cX4_latestOf 36 = .ok (.if_icmp .eq 23, 3) := by decide +kernel
theorem dX4_latestOf_39 : decode cX4_latestOf 39 = .ok (.aload_n 0, 1) := by decide +kernel
theorem dX4_latestOf_40 : decode cX4_latestOf 40 = .ok (.iload 4, 2) := by decide +kernel
theorem dX4_latestOf_42 : decode cX4_latestOf 42 = .ok (.invokevirtual 122, 3) := by decide +kernel
theorem dX4_latestOf_45 : decode cX4_latestOf 45 = .ok (.iload_n 2, 1) := by decide +kernel
theorem dX4_latestOf_46 : decode cX4_latestOf 46 = .ok (.if_icmp .ne 18, 3) := by decide +kernel
theorem dX4_latestOf_49 : decode cX4_latestOf 49 = .ok (.aload_n 0, 1) := by decide +kernel
theorem dX4_latestOf_50 : decode cX4_latestOf 50 = .ok (.iload 4, 2) := by decide +kernel
theorem dX4_latestOf_52 : decode cX4_latestOf 52 = .ok (.invokevirtual 125, 3) := by decide +kernel
theorem dX4_latestOf_55 : decode cX4_latestOf 55 = .ok (.iload_n 1, 1) := by decide +kernel
theorem dX4_latestOf_56 : decode cX4_latestOf 56 = .ok (.if_icmp .ne 8, 3) := by decide +kernel
theorem dX4_latestOf_59 : decode cX4_latestOf 59 = .ok (.iload 4, 2) := by decide +kernel
theorem dX4_latestOf_61 : decode cX4_latestOf 61 = .ok (.goto 4, 3) := by decide +kernel
theorem dX4_latestOf_64 : decode cX4_latestOf 64 = .ok (.iload_n 3, 1) := by decide +kernel
theorem dX4_latestOf_65 : decode cX4_latestOf 65 = .ok (.istore_n 3, 1) := by decide +kernel
theorem dX4_latestOf_66 : decode cX4_latestOf 66 = .ok (.iinc 4 1, 3) := by decide +kernel
theorem dX4_latestOf_69 : decode cX4_latestOf 69 = .ok (.goto (-64), 3) := by decide +kernel
theorem dX4_latestOf_72 : decode cX4_latestOf 72 = .ok (.iload_n 3, 1) := by decide +kernel
theorem dX4_latestOf_73 : decode cX4_latestOf 73 = .ok (.ireturn, 1) := by decide +kernel
theorem dX4_latestRange_0 : decode cX4_latestRange 0 = .ok (.aload_n 0, 1) := by decide +kernel
theorem dX4_latestRange_1 : decode cX4_latestRange 1 = .ok (.aload_n 0, 1) := by decide +kernel
theorem dX4_latestRange_2 : decode cX4_latestRange 2 = .ok (.iload_n 1, 1) := by decide +kernel
theorem dX4_latestRange_3 : decode cX4_latestRange 3 = .ok (.invokevirtual 64, 3) := by decide +kernel
theorem dX4_latestRange_6 : decode cX4_latestRange 6 = .ok (.ifCond .eq 15, 3) := by decide +kernel
theorem dX4_latestRange_9 : decode cX4_latestRange 9 = .ok (.aload_n 0, 1) := by decide +kernel
theorem dX4_latestRange_10 : decode cX4_latestRange 10 = .ok (.iload_n 2, 1) := by decide +kernel
theorem dX4_latestRange_11 : decode cX4_latestRange 11 = .ok (.invokevirtual 64, 3) := by decide +kernel
theorem dX4_latestRange_14 : decode cX4_latestRange 14 = .ok (.ifCond .eq 7, 3) := by decide +kernel
theorem dX4_latestRange_17 : decode cX4_latestRange 17 = .ok (.iconst 1, 1) := by decide +kernel
theorem dX4_latestRange_18 : decode cX4_latestRange 18 = .ok (.goto 4, 3) := by decide +kernel
theorem dX4_latestRange_21 : decode cX4_latestRange 21 = .ok (.iconst 0, 1) := by decide +kernel
theorem dX4_latestRange_22 : decode cX4_latestRange 22 = .ok (.iload_n 3, 1) := by decide +kernel
theorem dX4_latestRange_23 : decode cX4_latestRange 23 = .ok (.invokestatic 128, 3) := by decide +kernel
theorem dX4_latestRange_26 : decode cX4_latestRange 26 = .ok (.aload_n 0, 1) := by decide +kernel
theorem dX4_latestRange_27 : decode cX4_latestRange 27 = .ok (.iload_n 1, 1) := by decide +kernel
theorem dX4_latestRange_28 : decode cX4_latestRange 28 = .ok (.iload_n 2, 1) := by decide +kernel
theorem dX4_latestRange_29 : decode cX4_latestRange 29 = .ok (.invokevirtual 134, 3) := by decide +kernel
theorem dX4_latestRange_32 : decode cX4_latestRange 32 = .ok (.iconst (-1), 1) := by decide +kernel
theorem dX4_latestRange_33 : decode cX4_latestRange 33 = .ok (.if_icmp .eq 7, 3) := by decide +kernel
theorem dX4_latestRange_36 : decode cX4_latestRange 36 = .ok (.iconst 1, 1) := by decide +kernel
theorem dX4_latestRange_37 : decode cX4_latestRange 37 = .ok (.goto 4, 3) := by decide +kernel
theorem dX4_latestRange_40 : decode cX4_latestRange 40 = .ok (.iconst 0, 1) := by decide +kernel
theorem dX4_latestRange_41 : decode cX4_latestRange 41 = .ok (.invokevirtual 45, 3) := by decide +kernel
theorem dX4_latestRange_44 : decode cX4_latestRange 44 = .ok (.ifCond .eq 18, 3) := by decide +kernel
theorem dX4_latestRange_47 : decode cX4_latestRange 47 = .ok (.aload_n 0, 1) := by decide +kernel
theorem dX4_latestRange_48 : decode cX4_latestRange 48 = .ok (.aload_n 0, 1) := by decide +kernel
theorem dX4_latestRange_49 : decode cX4_latestRange 49 = .ok (.iload_n 1, 1) := by decide +kernel
theorem dX4_latestRange_50 : decode cX4_latestRange 50 = .ok (.iload_n 2, 1) := by decide +kernel
theorem dX4_latestRange_51 : decode cX4_latestRange 51 = .ok (.invokevirtual 134, 3) := by decide +kernel
theorem dX4_latestRange_54 : decode cX4_latestRange 54 = .ok (.iload_n 3, 1) := by decide +kernel
theorem dX4_latestRange_55 : decode cX4_latestRange 55 = .ok (.invokevirtual 131, 3) := by decide +kernel
theorem dX4_latestRange_58 : decode cX4_latestRange 58 = .ok (.l2i, 1) := by decide +kernel
theorem dX4_latestRange_59 : decode cX4_latestRange 59 = .ok (.goto 4, 3) := by decide +kernel
theorem dX4_latestRange_62 : decode cX4_latestRange 62 = .ok (.iconst 0, 1) := by decide +kernel
theorem dX4_latestRange_63 : decode cX4_latestRange 63 = .ok (.ireturn, 1) := by decide +kernel
theorem dX4_errorOf_0 : decode cX4_errorOf 0 = .ok (.aload_n 0, 1) := by decide +kernel
theorem dX4_errorOf_1 : decode cX4_errorOf 1 = .ok (.iload_n 1, 1) := by decide +kernel
theorem dX4_errorOf_2 : decode cX4_errorOf 2 = .ok (.iload_n 2, 1) := by decide +kernel
theorem dX4_errorOf_3 : decode cX4_errorOf 3 = .ok (.invokevirtual 131, 3) := by decide +kernel
theorem dX4_errorOf_6 : decode cX4_errorOf 6 = .ok (.aload_n 0, 1) := by decide +kernel
theorem dX4_errorOf_7 : decode cX4_errorOf 7 = .ok (.aload_n 0, 1) := by decide +kernel
theorem dX4_errorOf_8 : decode cX4_errorOf 8 = .ok (.iload_n 1, 1) := by decide +kernel
theorem dX4_errorOf_9 : decode cX4_errorOf 9 = .ok (.invokevirtual 122, 3) := by decide +kernel
theorem dX4_errorOf_12 : decode cX4_errorOf 12 = .ok (.aload_n 0, 1) := by decide +kernel
theorem dX4_errorOf_13 : decode cX4_errorOf 13 = .ok (.iload_n 1, 1) := by decide +kernel
theorem dX4_errorOf_14 : decode cX4_errorOf 14 = .ok (.invokevirtual 125, 3) := by decide +kernel
theorem dX4_errorOf_17 : decode cX4_errorOf 17 = .ok (.invokevirtual 67, 3) := by decide +kernel
theorem dX4_errorOf_20 : decode cX4_errorOf 20 = .ok (.lsub, 1) := by decide +kernel
theorem dX4_errorOf_21 : decode cX4_errorOf 21 = .ok (.lreturn, 1) := by decide +kernel
theorem dX4_worstError_0 : decode cX4_worstError 0 = .ok (.aload_n 0, 1) := by decide +kernel
theorem dX4_worstError_1 : decode cX4_worstError 1 = .ok (.iload_n 1, 1) := by decide +kernel
theorem dX4_worstError_2 : decode cX4_worstError 2 = .ok (.invokestatic 128, 3) := by decide +kernel
theorem dX4_worstError_5 : decode cX4_worstError 5 = .ok (.iconst 1, 1) := by decide +kernel
theorem dX4_worstError_6 : decode cX4_worstError 6 = .ok (.iconst 1, 1) := by decide +kernel
theorem dX4_worstError_7 : decode cX4_worstError 7 = .ok (.invokevirtual 45, 3) := by decide +kernel
theorem dX4_worstError_10 : decode cX4_worstError 10 = .ok (.ifCond .ne 5, 3) := by decide +kernel
theorem dX4_worstError_13 : decode cX4_worstError 13 = .ok (.iconst 0, 1) := by decide +kernel
theorem dX4_worstError_14 : decode cX4_worstError 14 = .ok (.ireturn, 1) := by decide +kernel
theorem dX4_worstError_15 : decode cX4_worstError 15 = .ok (.ldc2_w 138, 3) := by decide +kernel
theorem dX4_worstError_18 : decode cX4_worstError 18 = .ok (.lstore_n 2, 1) := by decide +kernel
theorem dX4_worstError_19 : decode cX4_worstError 19 = .ok (.iconst 0, 1) := by decide +kernel
theorem dX4_worstError_20 : decode cX4_worstError 20 = .ok (.istore 4, 2) := by decide +kernel
theorem dX4_worstError_22 : decode cX4_worstError 22 = .ok (.iload 4, 2) := by decide +kernel
theorem dX4_worstError_24 : decode cX4_worstError 24 = .ok (.i2l, 1) := by decide +kernel
theorem dX4_worstError_25 : decode cX4_worstError 25 = .ok (.aload_n 0, 1) := by decide +kernel
theorem dX4_worstError_26 : decode cX4_worstError 26 = .ok (.getfield 7, 3) := by decide +kernel
theorem dX4_worstError_29 : decode cX4_worstError 29 = .ok (.bipush 38, 2) := by decide +kernel
theorem dX4_worstError_31 : decode cX4_worstError 31 = .ok (.laload, 1) := by decide +kernel
theorem dX4_worstError_32 : decode cX4_worstError 32 = .ok (.lcmp, 1) := by decide +kernel
theorem dX4_worstError_33 : decode cX4_worstError 33 = .ok (.ifCond .ge 49, 3) := by decide +kernel
theorem dX4_worstError_36 : decode cX4_worstError 36 = .ok (.aload_n 0, 1) := by decide +kernel
theorem dX4_worstError_37 : decode cX4_worstError 37 = .ok (.iload 4, 2) := by decide +kernel
theorem dX4_worstError_39 : decode cX4_worstError 39 = .ok (.iload_n 1, 1) := by decide +kernel
theorem dX4_worstError_40 : decode cX4_worstError 40 = .ok (.invokevirtual 140, 3) := by decide +kernel
theorem dX4_worstError_43 : decode cX4_worstError 43 = .ok (.lstore 5, 2) := by decide +kernel
theorem dX4_worstError_45 : decode cX4_worstError 45 = .ok (.lload 5, 2) := by decide +kernel
theorem dX4_worstError_47 : decode cX4_worstError 47 = .ok (.lconst 0, 1) := by decide +kernel
theorem dX4_worstError_48 : decode cX4_worstError 48 = .ok (.lcmp, 1) := by decide +kernel
theorem dX4_worstError_49 : decode cX4_worstError 49 = .ok (.ifCond .ge 9, 3) := by decide +kernel
theorem dX4_worstError_52 : decode cX4_worstError 52 = .ok (.lload 5, 2) := by decide +kernel
theorem dX4_worstError_54 : decode cX4_worstError 54 = .ok (.lneg, 1) := by decide +kernel
theorem dX4_worstError_55 : decode cX4_worstError 55 = .ok (.goto 5, 3) := by decide +kernel
theorem dX4_worstError_58 : decode cX4_worstError 58 = .ok (.lload 5, 2) := by decide +kernel
theorem dX4_worstError_60 : decode cX4_worstError 60 = .ok (.lstore 7, 2) := by decide +kernel
theorem dX4_worstError_62 : decode cX4_worstError 62 = .ok (.lload 7, 2) := by decide +kernel
theorem dX4_worstError_64 : decode cX4_worstError 64 = .ok (.lload_n 2, 1) := by decide +kernel
theorem dX4_worstError_65 : decode cX4_worstError 65 = .ok (.lcmp, 1) := by decide +kernel
theorem dX4_worstError_66 : decode cX4_worstError 66 = .ok (.ifCond .le 8, 3) := by decide +kernel
theorem dX4_worstError_69 : decode cX4_worstError 69 = .ok (.lload 7, 2) := by decide +kernel
theorem dX4_worstError_71 : decode cX4_worstError 71 = .ok (.goto 4, 3) := by decide +kernel
theorem dX4_worstError_74 : decode cX4_worstError 74 = .ok (.lload_n 2, 1) := by decide +kernel
theorem dX4_worstError_75 : decode cX4_worstError 75 = .ok (.lstore_n 2, 1) := by decide +kernel
theorem dX4_worstError_76 : decode cX4_worstError 76 = .ok (.iinc 4 1, 3) := by decide +kernel
theorem dX4_worstError_79 : decode cX4_worstError 79 = .ok (.goto (-57), 3) := by decide +kernel
theorem dX4_worstError_82 : decode cX4_worstError 82 = .ok (.lload_n 2, 1) := by decide +kernel
theorem dX4_worstError_83 : decode cX4_worstError 83 = .ok (.l2i, 1) := by decide +kernel
theorem dX4_worstError_84 : decode cX4_worstError 84 = .ok (.ireturn, 1) := by decide +kernel
theorem dX4_meanError_0 : decode cX4_meanError 0 = .ok (.aload_n 0, 1) := by decide +kernel
theorem dX4_meanError_1 : decode cX4_meanError 1 = .ok (.iload_n 1, 1) := by decide +kernel
theorem dX4_meanError_2 : decode cX4_meanError 2 = .ok (.invokestatic 128, 3) := by decide +kernel
theorem dX4_meanError_5 : decode cX4_meanError 5 = .ok (.iconst 1, 1) := by decide +kernel
theorem dX4_meanError_6 : decode cX4_meanError 6 = .ok (.iconst 1, 1) := by decide +kernel
theorem dX4_meanError_7 : decode cX4_meanError 7 = .ok (.invokevirtual 45, 3) := by decide +kernel
theorem dX4_meanError_10 : decode cX4_meanError 10 = .ok (.ifCond .eq 15, 3) := by decide +kernel
theorem dX4_meanError_13 : decode cX4_meanError 13 = .ok (.aload_n 0, 1) := by decide +kernel
theorem dX4_meanError_14 : decode cX4_meanError 14 = .ok (.getfield 7, 3) := by decide +kernel
theorem dX4_meanError_17 : decode cX4_meanError 17 = .ok (.bipush 38, 2) := by decide +kernel
theorem dX4_meanError_19 : decode cX4_meanError 19 = .ok (.laload, 1) := by decide +kernel
theorem dX4_meanError_20 : decode cX4_meanError 20 = .ok (.lconst 0, 1) := by decide +kernel
theorem dX4_meanError_21 : decode cX4_meanError 21 = .ok (.lcmp, 1) := by decide +kernel
theorem dX4_meanError_22 : decode cX4_meanError 22 = .ok (.ifCond .ne 5, 3) := by decide +kernel
theorem dX4_meanError_25 : decode cX4_meanError 25 = .ok (.dconst 0, 1) := by decide +kernel
theorem dX4_meanError_26 : decode cX4_meanError 26 = .ok (.dreturn, 1) := by decide +kernel
theorem dX4_meanError_27 : decode cX4_meanError 27 = .ok (.lconst 0, 1) := by decide +kernel
theorem dX4_meanError_28 : decode cX4_meanError 28 = .ok (.lstore_n 2, 1) := by decide +kernel
theorem dX4_meanError_29 : decode cX4_meanError 29 = .ok (.iconst 0, 1) := by decide +kernel
theorem dX4_meanError_30 : decode cX4_meanError 30 = .ok (.istore 4, 2) := by decide +kernel
theorem dX4_meanError_32 : decode cX4_meanError 32 = .ok (.iload 4, 2) := by decide +kernel
theorem dX4_meanError_34 : decode cX4_meanError 34 = .ok (.i2l, 1) := by decide +kernel
theorem dX4_meanError_35 : decode cX4_meanError 35 = .ok (.aload_n 0, 1) := by decide +kernel
theorem dX4_meanError_36 : decode cX4_meanError 36 = .ok (.getfield 7, 3) := by decide +kernel
theorem dX4_meanError_39 : decode cX4_meanError 39 = .ok (.bipush 38, 2) := by decide +kernel
theorem dX4_meanError_41 : decode cX4_meanError 41 = .ok (.laload, 1) := by decide +kernel
theorem dX4_meanError_42 : decode cX4_meanError 42 = .ok (.lcmp, 1) := by decide +kernel
theorem dX4_meanError_43 : decode cX4_meanError 43 = .ok (.ifCond .ge 19, 3) := by decide +kernel
theorem dX4_meanError_46 : decode cX4_meanError 46 = .ok (.lload_n 2, 1) := by decide +kernel
theorem dX4_meanError_47 : decode cX4_meanError 47 = .ok (.aload_n 0, 1) := by decide +kernel
theorem dX4_meanError_48 : decode cX4_meanError 48 = .ok (.iload 4, 2) := by decide +kernel
theorem dX4_meanError_50 : decode cX4_meanError 50 = .ok (.iload_n 1, 1) := by decide +kernel
theorem dX4_meanError_51 : decode cX4_meanError 51 = .ok (.invokevirtual 140, 3) := by decide +kernel
theorem dX4_meanError_54 : decode cX4_meanError 54 = .ok (.ladd, 1) := by decide +kernel
theorem dX4_meanError_55 : decode cX4_meanError 55 = .ok (.lstore_n 2, 1) := by decide +kernel
theorem dX4_meanError_56 : decode cX4_meanError 56 = .ok (.iinc 4 1, 3) := by decide +kernel
theorem dX4_meanError_59 : decode cX4_meanError 59 = .ok (.goto (-27), 3) := by decide +kernel
theorem dX4_meanError_62 : decode cX4_meanError 62 = .ok (.lload_n 2, 1) := by decide +kernel
theorem dX4_meanError_63 : decode cX4_meanError 63 = .ok (.l2d, 1) := by decide +kernel
theorem dX4_meanError_64 : decode cX4_meanError 64 = .ok (.dstore 4, 2) := by decide +kernel
theorem dX4_meanError_66 : decode cX4_meanError 66 = .ok (.aload_n 0, 1) := by decide +kernel
theorem dX4_meanError_67 : decode cX4_meanError 67 = .ok (.getfield 7, 3) := by decide +kernel
theorem dX4_meanError_70 : decode cX4_meanError 70 = .ok (.bipush 38, 2) := by decide +kernel
theorem dX4_meanError_72 : decode cX4_meanError 72 = .ok (.laload, 1) := by decide +kernel
theorem dX4_meanError_73 : decode cX4_meanError 73 = .ok (.l2d, 1) := by decide +kernel
theorem dX4_meanError_74 : decode cX4_meanError 74 = .ok (.dstore 6, 2) := by decide +kernel
theorem dX4_meanError_76 : decode cX4_meanError 76 = .ok (.dload 4, 2) := by decide +kernel
theorem dX4_meanError_78 : decode cX4_meanError 78 = .ok (.dload 6, 2) := by decide +kernel
theorem dX4_meanError_80 : decode cX4_meanError 80 = .ok (.ddiv, 1) := by decide +kernel
theorem dX4_meanError_81 : decode cX4_meanError 81 = .ok (.dreturn, 1) := by decide +kernel
theorem dX4_relativeDrift_0 : decode cX4_relativeDrift 0 = .ok (.aload_n 0, 1) := by decide +kernel
theorem dX4_relativeDrift_1 : decode cX4_relativeDrift 1 = .ok (.iload_n 1, 1) := by decide +kernel
theorem dX4_relativeDrift_2 : decode cX4_relativeDrift 2 = .ok (.invokevirtual 104, 3) := by decide +kernel
theorem dX4_relativeDrift_5 : decode cX4_relativeDrift 5 = .ok (.istore_n 2, 1) := by decide +kernel
theorem dX4_relativeDrift_6 : decode cX4_relativeDrift 6 = .ok (.iload_n 2, 1) := by decide +kernel
theorem dX4_relativeDrift_7 : decode cX4_relativeDrift 7 = .ok (.ifCond .eq 22, 3) := by decide +kernel
theorem dX4_relativeDrift_10 : decode cX4_relativeDrift 10 = .ok (.aload_n 0, 1) := by decide +kernel
theorem dX4_relativeDrift_11 : decode cX4_relativeDrift 11 = .ok (.iload_n 1, 1) := by decide +kernel
theorem dX4_relativeDrift_12 : decode cX4_relativeDrift 12 = .ok (.iconst 3, 1) := by decide +kernel
theorem dX4_relativeDrift_13 : decode cX4_relativeDrift 13 = .ok (.bipush 6, 2) := by decide +kernel
theorem dX4_relativeDrift_15 : decode cX4_relativeDrift 15 = .ok (.invokevirtual 110, 3) := by decide +kernel
theorem dX4_relativeDrift_18 : decode cX4_relativeDrift 18 = .ok (.aload_n 0, 1) := by decide +kernel
theorem dX4_relativeDrift_19 : decode cX4_relativeDrift 19 = .ok (.iload_n 1, 1) := by decide +kernel
theorem dX4_relativeDrift_20 : decode cX4_relativeDrift 20 = .ok (.iconst 2, 1) := by decide +kernel
theorem dX4_relativeDrift_21 : decode cX4_relativeDrift 21 = .ok (.iconst 3, 1) := by decide +kernel
theorem dX4_relativeDrift_22 : decode cX4_relativeDrift 22 = .ok (.invokevirtual 110, 3) := by decide +kernel
theorem dX4_relativeDrift_25 : decode cX4_relativeDrift 25 = .ok (.ladd, 1) := by decide +kernel
theorem dX4_relativeDrift_26 : decode cX4_relativeDrift 26 = .ok (.goto 4, 3) := by decide +kernel
theorem dX4_relativeDrift_29 : decode cX4_relativeDrift 29 = .ok (.lconst 0, 1) := by decide +kernel
theorem dX4_relativeDrift_30 : decode cX4_relativeDrift 30 = .ok (.lstore_n 3, 1) := by decide +kernel
theorem dX4_relativeDrift_31 : decode cX4_relativeDrift 31 = .ok (.aload_n 0, 1) := by decide +kernel
theorem dX4_relativeDrift_32 : decode cX4_relativeDrift 32 = .ok (.iload_n 2, 1) := by decide +kernel
theorem dX4_relativeDrift_33 : decode cX4_relativeDrift 33 = .ok (.lload_n 3, 1) := by decide +kernel
theorem dX4_relativeDrift_34 : decode cX4_relativeDrift 34 = .ok (.lconst 0, 1) := by decide +kernel
theorem dX4_relativeDrift_35 : decode cX4_relativeDrift 35 = .ok (.lcmp, 1) := by decide +kernel
theorem dX4_relativeDrift_36 : decode cX4_relativeDrift 36 = .ok (.ifCond .eq 7, 3) := by decide +kernel
theorem dX4_relativeDrift_39 : decode cX4_relativeDrift 39 = .ok (.iconst 1, 1) := by decide +kernel
theorem dX4_relativeDrift_40 : decode cX4_relativeDrift 40 = .ok (.goto 4, 3) := by decide +kernel
theorem dX4_relativeDrift_43 : decode cX4_relativeDrift 43 = .ok (.iconst 0, 1) := by decide +kernel
theorem dX4_relativeDrift_44 : decode cX4_relativeDrift 44 = .ok (.iconst 1, 1) := by decide +kernel
theorem dX4_relativeDrift_45 : decode cX4_relativeDrift 45 = .ok (.invokevirtual 45, 3) := by decide +kernel
theorem dX4_relativeDrift_48 : decode cX4_relativeDrift 48 = .ok (.ifCond .ne 5, 3) := by decide +kernel
theorem dX4_relativeDrift_51 : decode cX4_relativeDrift 51 = .ok (.dconst 0, 1) := by decide +kernel
theorem dX4_relativeDrift_52 : decode cX4_relativeDrift 52 = .ok (.dreturn, 1) := by decide +kernel
theorem dX4_relativeDrift_53 : decode cX4_relativeDrift 53 = .ok (.aload_n 0, 1) := by decide +kernel
theorem dX4_relativeDrift_54 : decode cX4_relativeDrift 54 = .ok (.iload_n 1, 1) := by decide +kernel
theorem dX4_relativeDrift_55 : decode cX4_relativeDrift 55 = .ok (.iconst 1, 1) := by decide +kernel
theorem dX4_relativeDrift_56 : decode cX4_relativeDrift 56 = .ok (.iconst 4, 1) := by decide +kernel
theorem dX4_relativeDrift_57 : decode cX4_relativeDrift 57 = .ok (.invokevirtual 110, 3) := by decide +kernel
theorem dX4_relativeDrift_60 : decode cX4_relativeDrift 60 = .ok (.aload_n 0, 1) := by decide +kernel
theorem dX4_relativeDrift_61 : decode cX4_relativeDrift 61 = .ok (.iload_n 1, 1) := by decide +kernel
theorem dX4_relativeDrift_62 : decode cX4_relativeDrift 62 = .ok (.iconst 4, 1) := by decide +kernel
theorem dX4_relativeDrift_63 : decode cX4_relativeDrift 63 = .ok (.iconst 5, 1) := by decide +kernel
theorem dX4_relativeDrift_64 : decode cX4_relativeDrift 64 = .ok (.invokevirtual 110, 3) := by decide +kernel
theorem dX4_relativeDrift_67 : decode cX4_relativeDrift 67 = .ok (.ladd, 1) := by decide +kernel
theorem dX4_relativeDrift_68 : decode cX4_relativeDrift 68 = .ok (.l2d, 1) := by decide +kernel
theorem dX4_relativeDrift_69 : decode cX4_relativeDrift 69 = .ok (.dstore 5, 2) := by decide +kernel
theorem dX4_relativeDrift_71 : decode cX4_relativeDrift 71 = .ok (.lload_n 3, 1) := by decide +kernel
theorem dX4_relativeDrift_72 : decode cX4_relativeDrift 72 = .ok (.l2d, 1) := by decide +kernel
theorem dX4_relativeDrift_73 : decode cX4_relativeDrift 73 = .ok (.dstore 7, 2) := by decide +kernel
theorem dX4_relativeDrift_75 : decode cX4_relativeDrift 75 = .ok (.dload 5, 2) := by decide +kernel
theorem dX4_relativeDrift_77 : decode cX4_relativeDrift 77 = .ok (.dload 7, 2) := by decide +kernel
theorem dX4_relativeDrift_79 : decode cX4_relativeDrift 79 = .ok (.ddiv, 1) := by decide +kernel
theorem dX4_relativeDrift_80 : decode cX4_relativeDrift 80 = .ok (.dconst 1, 1) := by decide +kernel
theorem dX4_relativeDrift_81 : decode cX4_relativeDrift 81 = .ok (.dsub, 1) := by decide +kernel
theorem dX4_relativeDrift_82 : decode cX4_relativeDrift 82 = .ok (.ldc2_w 143, 3) := by decide +kernel
theorem dX4_relativeDrift_85 : decode cX4_relativeDrift 85 = .ok (.dmul, 1) := by decide +kernel
theorem dX4_relativeDrift_86 : decode cX4_relativeDrift 86 = .ok (.dreturn, 1) := by decide +kernel
theorem dX4_excess_0 : decode cX4_excess 0 = .ok (.aload_n 0, 1) := by decide +kernel
theorem dX4_excess_1 : decode cX4_excess 1 = .ok (.aload_n 0, 1) := by decide +kernel
theorem dX4_excess_2 : decode cX4_excess 2 = .ok (.iload_n 1, 1) := by decide +kernel
theorem dX4_excess_3 : decode cX4_excess 3 = .ok (.iload_n 2, 1) := by decide +kernel
theorem dX4_excess_4 : decode cX4_excess 4 = .ok (.invokevirtual 134, 3) := by decide +kernel
theorem dX4_excess_7 : decode cX4_excess 7 = .ok (.iconst 2, 1) := by decide +kernel
theorem dX4_excess_8 : decode cX4_excess 8 = .ok (.invokevirtual 119, 3) := by decide +kernel
theorem dX4_excess_11 : decode cX4_excess 11 = .ok (.aload_n 0, 1) := by decide +kernel
theorem dX4_excess_12 : decode cX4_excess 12 = .ok (.iload_n 1, 1) := by decide +kernel
theorem dX4_excess_13 : decode cX4_excess 13 = .ok (.iload_n 2, 1) := by decide +kernel
theorem dX4_excess_14 : decode cX4_excess 14 = .ok (.invokevirtual 67, 3) := by decide +kernel
theorem dX4_excess_17 : decode cX4_excess 17 = .ok (.lsub, 1) := by decide +kernel
theorem dX4_excess_18 : decode cX4_excess 18 = .ok (.lreturn, 1) := by decide +kernel
theorem dX4_calibrate_0 : decode cX4_calibrate 0 = .ok (.aload_n 0, 1) := by decide +kernel
theorem dX4_calibrate_1 : decode cX4_calibrate 1 = .ok (.iload_n 1, 1) := by decide +kernel
theorem dX4_calibrate_2 : decode cX4_calibrate 2 = .ok (.invokevirtual 64, 3) := by decide +kernel
theorem dX4_calibrate_5 : decode cX4_calibrate 5 = .ok (.ifCond .eq 23, 3) := by decide +kernel
theorem dX4_calibrate_8 : decode cX4_calibrate 8 = .ok (.aload_n 0, 1) := by decide +kernel
theorem dX4_calibrate_9 : decode cX4_calibrate 9 = .ok (.iload_n 2, 1) := by decide +kernel
theorem dX4_calibrate_10 : decode cX4_calibrate 10 = .ok (.invokevirtual 64, 3) := by decide +kernel
theorem dX4_calibrate_13 : decode cX4_calibrate 13 = .ok (.ifCond .eq 15, 3) := by decide +kernel
theorem dX4_calibrate_16 : decode cX4_calibrate 16 = .ok (.aload_n 0, 1) := by decide +kernel
theorem dX4_calibrate_17 : decode cX4_calibrate 17 = .ok (.iload_n 3, 1) := by decide +kernel
theorem dX4_calibrate_18 : decode cX4_calibrate 18 = .ok (.invokevirtual 64, 3) := by decide +kernel
theorem dX4_calibrate_21 : decode cX4_calibrate 21 = .ok (.ifCond .eq 7, 3) := by decide +kernel
theorem dX4_calibrate_24 : decode cX4_calibrate 24 = .ok (.iconst 1, 1) := by decide +kernel
theorem dX4_calibrate_25 : decode cX4_calibrate 25 = .ok (.goto 4, 3) := by decide +kernel
theorem dX4_calibrate_28 : decode cX4_calibrate 28 = .ok (.iconst 0, 1) := by decide +kernel
theorem dX4_calibrate_29 : decode cX4_calibrate 29 = .ok (.istore 4, 2) := by decide +kernel
theorem dX4_calibrate_31 : decode cX4_calibrate 31 = .ok (.iload 4, 2) := by decide +kernel
theorem dX4_calibrate_33 : decode cX4_calibrate 33 = .ok (.ifCond .eq 37, 3) := by decide +kernel
theorem dX4_calibrate_36 : decode cX4_calibrate 36 = .ok (.aload_n 0, 1) := by decide +kernel
theorem dX4_calibrate_37 : decode cX4_calibrate 37 = .ok (.iload_n 1, 1) := by decide +kernel
theorem dX4_calibrate_38 : decode cX4_calibrate 38 = .ok (.iload_n 2, 1) := by decide +kernel
theorem dX4_calibrate_39 : decode cX4_calibrate 39 = .ok (.invokevirtual 134, 3) := by decide +kernel
theorem dX4_calibrate_42 : decode cX4_calibrate 42 = .ok (.iconst (-1), 1) := by decide +kernel
theorem dX4_calibrate_43 : decode cX4_calibrate 43 = .ok (.if_icmp .eq 27, 3) := by decide +kernel
theorem dX4_calibrate_46 : decode cX4_calibrate 46 = .ok (.aload_n 0, 1) := by decide +kernel
theorem dX4_calibrate_47 : decode cX4_calibrate 47 = .ok (.iload_n 1, 1) := by decide +kernel
theorem dX4_calibrate_48 : decode cX4_calibrate 48 = .ok (.iload_n 3, 1) := by decide +kernel
theorem dX4_calibrate_49 : decode cX4_calibrate 49 = .ok (.invokevirtual 134, 3) := by decide +kernel
theorem dX4_calibrate_52 : decode cX4_calibrate 52 = .ok (.iconst (-1), 1) := by decide +kernel
theorem dX4_calibrate_53 : decode cX4_calibrate 53 = .ok (.if_icmp .eq 17, 3) := by decide +kernel
theorem dX4_calibrate_56 : decode cX4_calibrate 56 = .ok (.aload_n 0, 1) := by decide +kernel
theorem dX4_calibrate_57 : decode cX4_calibrate 57 = .ok (.iload_n 2, 1) := by decide +kernel
theorem dX4_calibrate_58 : decode cX4_calibrate 58 = .ok (.iload_n 3, 1) := by decide +kernel
theorem dX4_calibrate_59 : decode cX4_calibrate 59 = .ok (.invokevirtual 134, 3) := by decide +kernel
theorem dX4_calibrate_62 : decode cX4_calibrate 62 = .ok (.iconst (-1), 1) := by decide +kernel
theorem dX4_calibrate_63 : decode cX4_calibrate 63 = .ok (.if_icmp .eq 7, 3) := by decide +kernel
theorem dX4_calibrate_66 : decode cX4_calibrate 66 = .ok (.iconst 1, 1) := by decide +kernel
theorem dX4_calibrate_67 : decode cX4_calibrate 67 = .ok (.goto 4, 3) := by decide +kernel
theorem dX4_calibrate_70 : decode cX4_calibrate 70 = .ok (.iconst 0, 1) := by decide +kernel
theorem dX4_calibrate_71 : decode cX4_calibrate 71 = .ok (.istore 5, 2) := by decide +kernel
theorem dX4_calibrate_73 : decode cX4_calibrate 73 = .ok (.aload_n 0, 1) := by decide +kernel
theorem dX4_calibrate_74 : decode cX4_calibrate 74 = .ok (.iload 4, 2) := by decide +kernel
theorem dX4_calibrate_76 : decode cX4_calibrate 76 = .ok (.iload_n 1, 1) := by decide +kernel
theorem dX4_calibrate_77 : decode cX4_calibrate 77 = .ok (.iload_n 2, 1) := by decide +kernel
theorem dX4_calibrate_78 : decode cX4_calibrate 78 = .ok (.if_icmp .eq 17, 3) := by decide +kernel
theorem dX4_calibrate_81 : decode cX4_calibrate 81 = .ok (.iload_n 1, 1) := by decide +kernel
theorem dX4_calibrate_82 : decode cX4_calibrate 82 = .ok (.iload_n 3, 1) := by decide +kernel
theorem dX4_calibrate_83 : decode cX4_calibrate 83 = .ok (.if_icmp .eq 12, 3) := by decide +kernel
theorem dX4_calibrate_86 : decode cX4_calibrate 86 = .ok (.iload_n 2, 1) := by decide +kernel
theorem dX4_calibrate_87 : decode cX4_calibrate 87 = .ok (.iload_n 3, 1) := by decide +kernel
theorem dX4_calibrate_88 : decode cX4_calibrate 88 = .ok (.if_icmp .eq 7, 3) := by decide +kernel
theorem dX4_calibrate_91 : decode cX4_calibrate 91 = .ok (.iconst 1, 1) := by decide +kernel
theorem dX4_calibrate_92 : decode cX4_calibrate 92 = .ok (.goto 4, 3) := by decide +kernel
theorem dX4_calibrate_95 : decode cX4_calibrate 95 = .ok (.iconst 0, 1) := by decide +kernel
theorem dX4_calibrate_96 : decode cX4_calibrate 96 = .ok (.iload 5, 2) := by decide +kernel
theorem dX4_calibrate_98 : decode cX4_calibrate 98 = .ok (.invokevirtual 45, 3) := by decide +kernel
theorem dX4_calibrate_101 : decode cX4_calibrate 101 = .ok (.ifCond .ne 5, 3) := by decide +kernel
theorem dX4_calibrate_104 : decode cX4_calibrate 104 = .ok (.iconst 0, 1) := by decide +kernel
theorem dX4_calibrate_105 : decode cX4_calibrate 105 = .ok (.ireturn, 1) := by decide +kernel
theorem dX4_calibrate_106 : decode cX4_calibrate 106 = .ok (.aload_n 0, 1) := by decide +kernel
theorem dX4_calibrate_107 : decode cX4_calibrate 107 = .ok (.invokevirtual 49, 3) := by decide +kernel
theorem dX4_calibrate_110 : decode cX4_calibrate 110 = .ok (.aload_n 0, 1) := by decide +kernel
theorem dX4_calibrate_111 : decode cX4_calibrate 111 = .ok (.iload_n 1, 1) := by decide +kernel
theorem dX4_calibrate_112 : decode cX4_calibrate 112 = .ok (.iload_n 2, 1) := by decide +kernel
theorem dX4_calibrate_113 : decode cX4_calibrate 113 = .ok (.invokevirtual 145, 3) := by decide +kernel
theorem dX4_calibrate_116 : decode cX4_calibrate 116 = .ok (.lstore 6, 2) := by decide +kernel
theorem dX4_calibrate_118 : decode cX4_calibrate 118 = .ok (.aload_n 0, 1) := by decide +kernel
theorem dX4_calibrate_119 : decode cX4_calibrate 119 = .ok (.iload_n 1, 1) := by decide +kernel
theorem dX4_calibrate_120 : decode cX4_calibrate 120 = .ok (.iload_n 3, 1) := by decide +kernel
theorem dX4_calibrate_121 : decode cX4_calibrate 121 = .ok (.invokevirtual 145, 3) := by decide +kernel
theorem dX4_calibrate_124 : decode cX4_calibrate 124 = .ok (.lstore 8, 2) := by decide +kernel
theorem dX4_calibrate_126 : decode cX4_calibrate 126 = .ok (.aload_n 0, 1) := by decide +kernel
theorem dX4_calibrate_127 : decode cX4_calibrate 127 = .ok (.iload_n 2, 1) := by decide +kernel
theorem dX4_calibrate_128 : decode cX4_calibrate 128 = .ok (.iload_n 3, 1) := by decide +kernel
theorem dX4_calibrate_129 : decode cX4_calibrate 129 = .ok (.invokevirtual 145, 3) := by decide +kernel
theorem dX4_calibrate_132 : decode cX4_calibrate 132 = .ok (.lstore 10, 2) := by decide +kernel
theorem dX4_calibrate_134 : decode cX4_calibrate 134 = .ok (.aload_n 0, 1) := by decide +kernel
theorem dX4_calibrate_135 : decode cX4_calibrate 135 = .ok (.getfield 7, 3) := by decide +kernel
theorem dX4_calibrate_138 : decode cX4_calibrate 138 = .ok (.iconst 2, 1) := by decide +kernel
theorem dX4_calibrate_139 : decode cX4_calibrate 139 = .ok (.bipush 6, 2) := by decide +kernel
theorem dX4_calibrate_141 : decode cX4_calibrate 141 = .ok (.iload_n 1, 1) := by decide +kernel
theorem dX4_calibrate_142 : decode cX4_calibrate 142 = .ok (.imul, 1) := by decide +kernel
theorem dX4_calibrate_143 : decode cX4_calibrate 143 = .ok (.iadd, 1) := by decide +kernel
theorem dX4_calibrate_144 : decode cX4_calibrate 144 = .ok (.iconst 5, 1) := by decide +kernel
theorem dX4_calibrate_145 : decode cX4_calibrate 145 = .ok (.iadd, 1) := by decide +kernel
theorem dX4_calibrate_146 : decode cX4_calibrate 146 = .ok (.lload 6, 2) := by decide +kernel
theorem dX4_calibrate_148 : decode cX4_calibrate 148 = .ok (.lload 8, 2) := by decide +kernel
theorem dX4_calibrate_150 : decode cX4_calibrate 150 = .ok (.ladd, 1) := by decide +kernel
theorem dX4_calibrate_151 : decode cX4_calibrate 151 = .ok (.lload 10, 2) := by decide +kernel
theorem dX4_calibrate_153 : decode cX4_calibrate 153 = .ok (.lsub, 1) := by decide +kernel
theorem dX4_calibrate_154 : decode cX4_calibrate 154 = .ok (.ldc2_w 54, 3) := by decide +kernel
theorem dX4_calibrate_157 : decode cX4_calibrate 157 = .ok (.invokestatic 114, 3) := by decide +kernel
theorem dX4_calibrate_160 : decode cX4_calibrate 160 = .ok (.lastore, 1) := by decide +kernel
theorem dX4_calibrate_161 : decode cX4_calibrate 161 = .ok (.aload_n 0, 1) := by decide +kernel
theorem dX4_calibrate_162 : decode cX4_calibrate 162 = .ok (.getfield 7, 3) := by decide +kernel
theorem dX4_calibrate_165 : decode cX4_calibrate 165 = .ok (.iconst 2, 1) := by decide +kernel
theorem dX4_calibrate_166 : decode cX4_calibrate 166 = .ok (.bipush 6, 2) := by decide +kernel
theorem dX4_calibrate_168 : decode cX4_calibrate 168 = .ok (.iload_n 2, 1) := by decide +kernel
theorem dX4_calibrate_169 : decode cX4_calibrate 169 = .ok (.imul, 1) := by decide +kernel
theorem dX4_calibrate_170 : decode cX4_calibrate 170 = .ok (.iadd, 1) := by decide +kernel
theorem dX4_calibrate_171 : decode cX4_calibrate 171 = .ok (.iconst 5, 1) := by decide +kernel
theorem dX4_calibrate_172 : decode cX4_calibrate 172 = .ok (.iadd, 1) := by decide +kernel
theorem dX4_calibrate_173 : decode cX4_calibrate 173 = .ok (.lload 6, 2) := by decide +kernel
theorem dX4_calibrate_175 : decode cX4_calibrate 175 = .ok (.lload 10, 2) := by decide +kernel
theorem dX4_calibrate_177 : decode cX4_calibrate 177 = .ok (.ladd, 1) := by decide +kernel
theorem dX4_calibrate_178 : decode cX4_calibrate 178 = .ok (.lload 8, 2) := by decide +kernel
theorem dX4_calibrate_180 : decode cX4_calibrate 180 = .ok (.lsub, 1) := by decide +kernel
theorem dX4_calibrate_181 : decode cX4_calibrate 181 = .ok (.ldc2_w 54, 3) := by decide +kernel
theorem dX4_calibrate_184 : decode cX4_calibrate 184 = .ok (.invokestatic 114, 3) := by decide +kernel
theorem dX4_calibrate_187 : decode cX4_calibrate 187 = .ok (.lastore, 1) := by decide +kernel
theorem dX4_calibrate_188 : decode cX4_calibrate 188 = .ok (.aload_n 0, 1) := by decide +kernel
theorem dX4_calibrate_189 : decode cX4_calibrate 189 = .ok (.getfield 7, 3) := by decide +kernel
theorem dX4_calibrate_192 : decode cX4_calibrate 192 = .ok (.iconst 2, 1) := by decide +kernel
theorem dX4_calibrate_193 : decode cX4_calibrate 193 = .ok (.bipush 6, 2) := by decide +kernel
theorem dX4_calibrate_195 : decode cX4_calibrate 195 = .ok (.iload_n 3, 1) := by decide +kernel
theorem dX4_calibrate_196 : decode cX4_calibrate 196 = .ok (.imul, 1) := by decide +kernel
theorem dX4_calibrate_197 : decode cX4_calibrate 197 = .ok (.iadd, 1) := by decide +kernel
theorem dX4_calibrate_198 : decode cX4_calibrate 198 = .ok (.iconst 5, 1) := by decide +kernel
theorem dX4_calibrate_199 : decode cX4_calibrate 199 = .ok (.iadd, 1) := by decide +kernel
theorem dX4_calibrate_200 : decode cX4_calibrate 200 = .ok (.lload 8, 2) := by decide +kernel
theorem dX4_calibrate_202 : decode cX4_calibrate 202 = .ok (.lload 10, 2) := by decide +kernel
theorem dX4_calibrate_204 : decode cX4_calibrate 204 = .ok (.ladd, 1) := by decide +kernel
theorem dX4_calibrate_205 : decode cX4_calibrate 205 = .ok (.lload 6, 2) := by decide +kernel
theorem dX4_calibrate_207 : decode cX4_calibrate 207 = .ok (.lsub, 1) := by decide +kernel
theorem dX4_calibrate_208 : decode cX4_calibrate 208 = .ok (.ldc2_w 54, 3) := by decide +kernel
theorem dX4_calibrate_211 : decode cX4_calibrate 211 = .ok (.invokestatic 114, 3) := by decide +kernel
theorem dX4_calibrate_214 : decode cX4_calibrate 214 = .ok (.lastore, 1) := by decide +kernel
theorem dX4_calibrate_215 : decode cX4_calibrate 215 = .ok (.aload_n 0, 1) := by decide +kernel
theorem dX4_calibrate_216 : decode cX4_calibrate 216 = .ok (.iload_n 1, 1) := by decide +kernel
theorem dX4_calibrate_217 : decode cX4_calibrate 217 = .ok (.iconst 5, 1) := by decide +kernel
theorem dX4_calibrate_218 : decode cX4_calibrate 218 = .ok (.invokevirtual 56, 3) := by decide +kernel
theorem dX4_calibrate_221 : decode cX4_calibrate 221 = .ok (.aload_n 0, 1) := by decide +kernel
theorem dX4_calibrate_222 : decode cX4_calibrate 222 = .ok (.iload_n 2, 1) := by decide +kernel
theorem dX4_calibrate_223 : decode cX4_calibrate 223 = .ok (.iconst 5, 1) := by decide +kernel
theorem dX4_calibrate_224 : decode cX4_calibrate 224 = .ok (.invokevirtual 56, 3) := by decide +kernel
theorem dX4_calibrate_227 : decode cX4_calibrate 227 = .ok (.ladd, 1) := by decide +kernel
theorem dX4_calibrate_228 : decode cX4_calibrate 228 = .ok (.aload_n 0, 1) := by decide +kernel
theorem dX4_calibrate_229 : decode cX4_calibrate 229 = .ok (.iload_n 3, 1) := by decide +kernel
theorem dX4_calibrate_230 : decode cX4_calibrate 230 = .ok (.iconst 5, 1) := by decide +kernel
theorem dX4_calibrate_231 : decode cX4_calibrate 231 = .ok (.invokevirtual 56, 3) := by decide +kernel
theorem dX4_calibrate_234 : decode cX4_calibrate 234 = .ok (.ladd, 1) := by decide +kernel
theorem dX4_calibrate_235 : decode cX4_calibrate 235 = .ok (.l2i, 1) := by decide +kernel
theorem dX4_calibrate_236 : decode cX4_calibrate 236 = .ok (.ireturn, 1) := by decide +kernel
theorem dX4_right_0 : decode cX4_right 0 = .ok (.aload_n 0, 1) := by decide +kernel
theorem dX4_right_1 : decode cX4_right 1 = .ok (.aload_n 0, 1) := by decide +kernel
theorem dX4_right_2 : decode cX4_right 2 = .ok (.iload_n 1, 1) := by decide +kernel
theorem dX4_right_3 : decode cX4_right 3 = .ok (.iload_n 2, 1) := by decide +kernel
theorem dX4_right_4 : decode cX4_right 4 = .ok (.invokevirtual 134, 3) := by decide +kernel
theorem dX4_right_7 : decode cX4_right 7 = .ok (.iload 4, 2) := by decide +kernel
theorem dX4_right_9 : decode cX4_right 9 = .ok (.invokevirtual 131, 3) := by decide +kernel
theorem dX4_right_12 : decode cX4_right 12 = .ok (.lstore 5, 2) := by decide +kernel
theorem dX4_right_14 : decode cX4_right 14 = .ok (.aload_n 0, 1) := by decide +kernel
theorem dX4_right_15 : decode cX4_right 15 = .ok (.aload_n 0, 1) := by decide +kernel
theorem dX4_right_16 : decode cX4_right 16 = .ok (.iload_n 1, 1) := by decide +kernel
theorem dX4_right_17 : decode cX4_right 17 = .ok (.iload_n 3, 1) := by decide +kernel
theorem dX4_right_18 : decode cX4_right 18 = .ok (.invokevirtual 134, 3) := by decide +kernel
theorem dX4_right_21 : decode cX4_right 21 = .ok (.iload 4, 2) := by decide +kernel
theorem dX4_right_23 : decode cX4_right 23 = .ok (.invokevirtual 131, 3) := by decide +kernel
theorem dX4_right_26 : decode cX4_right 26 = .ok (.lstore 7, 2) := by decide +kernel
theorem dX4_right_28 : decode cX4_right 28 = .ok (.lload 5, 2) := by decide +kernel
theorem dX4_right_30 : decode cX4_right 30 = .ok (.lload 5, 2) := by decide +kernel
theorem dX4_right_32 : decode cX4_right 32 = .ok (.lmul, 1) := by decide +kernel
theorem dX4_right_33 : decode cX4_right 33 = .ok (.lload 7, 2) := by decide +kernel
theorem dX4_right_35 : decode cX4_right 35 = .ok (.lload 7, 2) := by decide +kernel
theorem dX4_right_37 : decode cX4_right 37 = .ok (.lmul, 1) := by decide +kernel
theorem dX4_right_38 : decode cX4_right 38 = .ok (.lsub, 1) := by decide +kernel
theorem dX4_right_39 : decode cX4_right 39 = .ok (.aload_n 0, 1) := by decide +kernel
theorem dX4_right_40 : decode cX4_right 40 = .ok (.iload_n 3, 1) := by decide +kernel
theorem dX4_right_41 : decode cX4_right 41 = .ok (.iconst 0, 1) := by decide +kernel
theorem dX4_right_42 : decode cX4_right 42 = .ok (.invokevirtual 56, 3) := by decide +kernel
theorem dX4_right_45 : decode cX4_right 45 = .ok (.aload_n 0, 1) := by decide +kernel
theorem dX4_right_46 : decode cX4_right 46 = .ok (.iload_n 3, 1) := by decide +kernel
theorem dX4_right_47 : decode cX4_right 47 = .ok (.iconst 0, 1) := by decide +kernel
theorem dX4_right_48 : decode cX4_right 48 = .ok (.invokevirtual 56, 3) := by decide +kernel
theorem dX4_right_51 : decode cX4_right 51 = .ok (.lmul, 1) := by decide +kernel
theorem dX4_right_52 : decode cX4_right 52 = .ok (.ladd, 1) := by decide +kernel
theorem dX4_right_53 : decode cX4_right 53 = .ok (.aload_n 0, 1) := by decide +kernel
theorem dX4_right_54 : decode cX4_right 54 = .ok (.iload_n 2, 1) := by decide +kernel
theorem dX4_right_55 : decode cX4_right 55 = .ok (.iconst 0, 1) := by decide +kernel
theorem dX4_right_56 : decode cX4_right 56 = .ok (.invokevirtual 56, 3) := by decide +kernel
theorem dX4_right_59 : decode cX4_right 59 = .ok (.aload_n 0, 1) := by decide +kernel
theorem dX4_right_60 : decode cX4_right 60 = .ok (.iload_n 2, 1) := by decide +kernel
theorem dX4_right_61 : decode cX4_right 61 = .ok (.iconst 0, 1) := by decide +kernel
theorem dX4_right_62 : decode cX4_right 62 = .ok (.invokevirtual 56, 3) := by decide +kernel
theorem dX4_right_65 : decode cX4_right 65 = .ok (.lmul, 1) := by decide +kernel
theorem dX4_right_66 : decode cX4_right 66 = .ok (.lsub, 1) := by decide +kernel
theorem dX4_right_67 : decode cX4_right 67 = .ok (.aload_n 0, 1) := by decide +kernel
theorem dX4_right_68 : decode cX4_right 68 = .ok (.iload_n 3, 1) := by decide +kernel
theorem dX4_right_69 : decode cX4_right 69 = .ok (.iconst 1, 1) := by decide +kernel
theorem dX4_right_70 : decode cX4_right 70 = .ok (.invokevirtual 56, 3) := by decide +kernel
theorem dX4_right_73 : decode cX4_right 73 = .ok (.aload_n 0, 1) := by decide +kernel
theorem dX4_right_74 : decode cX4_right 74 = .ok (.iload_n 3, 1) := by decide +kernel
theorem dX4_right_75 : decode cX4_right 75 = .ok (.iconst 1, 1) := by decide +kernel
theorem dX4_right_76 : decode cX4_right 76 = .ok (.invokevirtual 56, 3) := by decide +kernel
theorem dX4_right_79 : decode cX4_right 79 = .ok (.lmul, 1) := by decide +kernel
theorem dX4_right_80 : decode cX4_right 80 = .ok (.ladd, 1) := by decide +kernel
theorem dX4_right_81 : decode cX4_right 81 = .ok (.aload_n 0, 1) := by decide +kernel
theorem dX4_right_82 : decode cX4_right 82 = .ok (.iload_n 2, 1) := by decide +kernel
theorem dX4_right_83 : decode cX4_right 83 = .ok (.iconst 1, 1) := by decide +kernel
theorem dX4_right_84 : decode cX4_right 84 = .ok (.invokevirtual 56, 3) := by decide +kernel
theorem dX4_right_87 : decode cX4_right 87 = .ok (.aload_n 0, 1) := by decide +kernel
theorem dX4_right_88 : decode cX4_right 88 = .ok (.iload_n 2, 1) := by decide +kernel
theorem dX4_right_89 : decode cX4_right 89 = .ok (.iconst 1, 1) := by decide +kernel
theorem dX4_right_90 : decode cX4_right 90 = .ok (.invokevirtual 56, 3) := by decide +kernel
theorem dX4_right_93 : decode cX4_right 93 = .ok (.lmul, 1) := by decide +kernel
theorem dX4_right_94 : decode cX4_right 94 = .ok (.lsub, 1) := by decide +kernel
theorem dX4_right_95 : decode cX4_right 95 = .ok (.lreturn, 1) := by decide +kernel
theorem dX4_fix_0 : decode cX4_fix 0 = .ok (.iload_n 2, 1) := by decide +kernel
theorem dX4_fix_1 : decode cX4_fix 1 = .ok (.bipush 100, 2) := by decide +kernel
theorem dX4_fix_3 : decode cX4_fix 3 = .ok (.idiv, 1) := by decide +kernel
theorem dX4_fix_4 : decode cX4_fix 4 = .ok (.istore 5, 2) := by decide +kernel
theorem dX4_fix_6 : decode cX4_fix 6 = .ok (.iload_n 2, 1) := by decide +kernel
theorem dX4_fix_7 : decode cX4_fix 7 = .ok (.bipush 10, 2) := by decide +kernel
theorem dX4_fix_9 : decode cX4_fix 9 = .ok (.idiv, 1) := by decide +kernel
theorem dX4_fix_10 : decode cX4_fix 10 = .ok (.bipush 10, 2) := by decide +kernel
theorem dX4_fix_12 : decode cX4_fix 12 = .ok (.irem, 1) := by decide +kernel
theorem dX4_fix_13 : decode cX4_fix 13 = .ok (.istore 6, 2) := by decide +kernel
theorem dX4_fix_15 : decode cX4_fix 15 = .ok (.iload_n 2, 1) := by decide +kernel
theorem dX4_fix_16 : decode cX4_fix 16 = .ok (.bipush 10, 2) := by decide +kernel
theorem dX4_fix_18 : decode cX4_fix 18 = .ok (.irem, 1) := by decide +kernel
theorem dX4_fix_19 : decode cX4_fix 19 = .ok (.istore 7, 2) := by decide +kernel
theorem dX4_fix_21 : decode cX4_fix 21 = .ok (.aload_n 0, 1) := by decide +kernel
theorem dX4_fix_22 : decode cX4_fix 22 = .ok (.iload_n 1, 1) := by decide +kernel
theorem dX4_fix_23 : decode cX4_fix 23 = .ok (.invokevirtual 64, 3) := by decide +kernel
theorem dX4_fix_26 : decode cX4_fix 26 = .ok (.ifCond .eq 46, 3) := by decide +kernel
theorem dX4_fix_29 : decode cX4_fix 29 = .ok (.iload_n 2, 1) := by decide +kernel
theorem dX4_fix_30 : decode cX4_fix 30 = .ok (.i2l, 1) := by decide +kernel
theorem dX4_fix_31 : decode cX4_fix 31 = .ok (.lconst 0, 1) := by decide +kernel
theorem dX4_fix_32 : decode cX4_fix 32 = .ok (.ldc2_w 148, 3) := by decide +kernel
theorem dX4_fix_35 : decode cX4_fix 35 = .ok (.invokestatic 23, 3) := by decide +kernel
theorem dX4_fix_38 : decode cX4_fix 38 = .ok (.ifCond .eq 34, 3) := by decide +kernel
theorem dX4_fix_41 : decode cX4_fix 41 = .ok (.aload_n 0, 1) := by decide +kernel
theorem dX4_fix_42 : decode cX4_fix 42 = .ok (.iload 5, 2) := by decide +kernel
theorem dX4_fix_44 : decode cX4_fix 44 = .ok (.invokevirtual 64, 3) := by decide +kernel
theorem dX4_fix_47 : decode cX4_fix 47 = .ok (.ifCond .eq 25, 3) := by decide +kernel
theorem dX4_fix_50 : decode cX4_fix 50 = .ok (.aload_n 0, 1) := by decide +kernel
theorem dX4_fix_51 : decode cX4_fix 51 = .ok (.iload 6, 2) := by decide +kernel
theorem dX4_fix_53 : decode cX4_fix 53 = .ok (.invokevirtual 64, 3) := by decide +kernel
theorem dX4_fix_56 : decode cX4_fix 56 = .ok (.ifCond .eq 16, 3) := by decide +kernel
theorem dX4_fix_59 : decode cX4_fix 59 = .ok (.aload_n 0, 1) := by decide +kernel
theorem dX4_fix_60 : decode cX4_fix 60 = .ok (.iload 7, 2) := by decide +kernel
theorem dX4_fix_62 : decode cX4_fix 62 = .ok (.invokevirtual 64, 3) := by decide +kernel
theorem dX4_fix_65 : decode cX4_fix 65 = .ok (.ifCond .eq 7, 3) := by decide +kernel
theorem dX4_fix_68 : decode cX4_fix 68 = .ok (.iconst 1, 1) := by decide +kernel
theorem dX4_fix_69 : decode cX4_fix 69 = .ok (.goto 4, 3) := by decide +kernel
theorem dX4_fix_72 : decode cX4_fix 72 = .ok (.iconst 0, 1) := by decide +kernel
theorem dX4_fix_73 : decode cX4_fix 73 = .ok (.istore 8, 2) := by decide +kernel
theorem dX4_fix_75 : decode cX4_fix 75 = .ok (.iload 5, 2) := by decide +kernel
theorem dX4_fix_77 : decode cX4_fix 77 = .ok (.iload 6, 2) := by decide +kernel
theorem dX4_fix_79 : decode cX4_fix 79 = .ok (.if_icmp .eq 39, 3) := by decide +kernel
theorem dX4_fix_82 : decode cX4_fix 82 = .ok (.iload 5, 2) := by decide +kernel
theorem dX4_fix_84 : decode cX4_fix 84 = .ok (.iload 7, 2) := by decide +kernel
theorem dX4_fix_86 : decode cX4_fix 86 = .ok (.if_icmp .eq 32, 3) := by decide +kernel
theorem dX4_fix_89 : decode cX4_fix 89 = .ok (.iload 6, 2) := by decide +kernel
theorem dX4_fix_91 : decode cX4_fix 91 = .ok (.iload 7, 2) := by decide +kernel
theorem dX4_fix_93 : decode cX4_fix 93 = .ok (.if_icmp .eq 25, 3) := by decide +kernel
theorem dX4_fix_96 : decode cX4_fix 96 = .ok (.iload_n 1, 1) := by decide +kernel
theorem dX4_fix_97 : decode cX4_fix 97 = .ok (.iload 5, 2) := by decide +kernel
theorem dX4_fix_99 : decode cX4_fix 99 = .ok (.if_icmp .eq 19, 3) := by decide +kernel
theorem dX4_fix_102 : decode cX4_fix 102 = .ok (.iload_n 1, 1) := by decide +kernel
theorem dX4_fix_103 : decode cX4_fix 103 = .ok (.iload 6, 2) := by decide +kernel
theorem dX4_fix_105 : decode cX4_fix 105 = .ok (.if_icmp .eq 13, 3) := by decide +kernel
theorem dX4_fix_108 : decode cX4_fix 108 = .ok (.iload_n 1, 1) := by decide +kernel
theorem dX4_fix_109 : decode cX4_fix 109 = .ok (.iload 7, 2) := by decide +kernel
theorem dX4_fix_111 : decode cX4_fix 111 = .ok (.if_icmp .eq 7, 3) := by decide +kernel
theorem dX4_fix_114 : decode cX4_fix 114 = .ok (.iconst 1, 1) := by decide +kernel
theorem dX4_fix_115 : decode cX4_fix 115 = .ok (.goto 4, 3) := by decide +kernel
theorem dX4_fix_118 : decode cX4_fix 118 = .ok (.iconst 0, 1) := by decide +kernel
theorem dX4_fix_119 : decode cX4_fix 119 = .ok (.istore 9, 2) := by decide +kernel
theorem dX4_fix_121 : decode cX4_fix 121 = .ok (.iload 8, 2) := by decide +kernel
theorem dX4_fix_123 : decode cX4_fix 123 = .ok (.ifCond .eq 40, 3) := by decide +kernel
theorem dX4_fix_126 : decode cX4_fix 126 = .ok (.aload_n 0, 1) := by decide +kernel
theorem dX4_fix_127 : decode cX4_fix 127 = .ok (.iload_n 1, 1) := by decide +kernel
theorem dX4_fix_128 : decode cX4_fix 128 = .ok (.iload 5, 2) := by decide +kernel
theorem dX4_fix_130 : decode cX4_fix 130 = .ok (.invokevirtual 134, 3) := by decide +kernel
theorem dX4_fix_133 : decode cX4_fix 133 = .ok (.iconst (-1), 1) := by decide +kernel
theorem dX4_fix_134 : decode cX4_fix 134 = .ok (.if_icmp .eq 29, 3) := by decide +kernel
theorem dX4_fix_137 : decode cX4_fix 137 = .ok (.aload_n 0, 1) := by decide +kernel
theorem dX4_fix_138 : decode cX4_fix 138 = .ok (.iload_n 1, 1) := by decide +kernel
theorem dX4_fix_139 : decode cX4_fix 139 = .ok (.iload 6, 2) := by decide +kernel
theorem dX4_fix_141 : decode cX4_fix 141 = .ok (.invokevirtual 134, 3) := by decide +kernel
theorem dX4_fix_144 : decode cX4_fix 144 = .ok (.iconst (-1), 1) := by decide +kernel
theorem dX4_fix_145 : decode cX4_fix 145 = .ok (.if_icmp .eq 18, 3) := by decide +kernel
theorem dX4_fix_148 : decode cX4_fix 148 = .ok (.aload_n 0, 1) := by decide +kernel
theorem dX4_fix_149 : decode cX4_fix 149 = .ok (.iload_n 1, 1) := by decide +kernel
theorem dX4_fix_150 : decode cX4_fix 150 = .ok (.iload 7, 2) := by decide +kernel
theorem dX4_fix_152 : decode cX4_fix 152 = .ok (.invokevirtual 134, 3) := by decide +kernel
theorem dX4_fix_155 : decode cX4_fix 155 = .ok (.iconst (-1), 1) := by decide +kernel
theorem dX4_fix_156 : decode cX4_fix 156 = .ok (.if_icmp .eq 7, 3) := by decide +kernel
theorem dX4_fix_159 : decode cX4_fix 159 = .ok (.iconst 1, 1) := by decide +kernel
theorem dX4_fix_160 : decode cX4_fix 160 = .ok (.goto 4, 3) := by decide +kernel
theorem dX4_fix_163 : decode cX4_fix 163 = .ok (.iconst 0, 1) := by decide +kernel
theorem dX4_fix_164 : decode cX4_fix 164 = .ok (.istore 10, 2) := by decide +kernel
theorem dX4_fix_166 : decode cX4_fix 166 = .ok (.aload_n 0, 1) := by decide +kernel
theorem dX4_fix_167 : decode cX4_fix 167 = .ok (.iload 8, 2) := by decide +kernel
theorem dX4_fix_169 : decode cX4_fix 169 = .ok (.iload 9, 2) := by decide +kernel
theorem dX4_fix_171 : decode cX4_fix 171 = .ok (.ifCond .eq 25, 3) := by decide +kernel
theorem dX4_fix_174 : decode cX4_fix 174 = .ok (.iload_n 3, 1) := by decide +kernel
theorem dX4_fix_175 : decode cX4_fix 175 = .ok (.invokestatic 128, 3) := by decide +kernel
theorem dX4_fix_178 : decode cX4_fix 178 = .ok (.ifCond .eq 18, 3) := by decide +kernel
theorem dX4_fix_181 : decode cX4_fix 181 = .ok (.iload 4, 2) := by decide +kernel
theorem dX4_fix_183 : decode cX4_fix 183 = .ok (.i2l, 1) := by decide +kernel
theorem dX4_fix_184 : decode cX4_fix 184 = .ok (.lconst 0, 1) := by decide +kernel
theorem dX4_fix_185 : decode cX4_fix 185 = .ok (.lconst 1, 1) := by decide +kernel
theorem dX4_fix_186 : decode cX4_fix 186 = .ok (.invokestatic 23, 3) := by decide +kernel
theorem dX4_fix_189 : decode cX4_fix 189 = .ok (.ifCond .eq 7, 3) := by decide +kernel
theorem dX4_fix_192 : decode cX4_fix 192 = .ok (.iconst 1, 1) := by decide +kernel
theorem dX4_fix_193 : decode cX4_fix 193 = .ok (.goto 4, 3) := by decide +kernel
theorem dX4_fix_196 : decode cX4_fix 196 = .ok (.iconst 0, 1) := by decide +kernel
theorem dX4_fix_197 : decode cX4_fix 197 = .ok (.iload 10, 2) := by decide +kernel
theorem dX4_fix_199 : decode cX4_fix 199 = .ok (.invokevirtual 45, 3) := by decide +kernel
theorem dX4_fix_202 : decode cX4_fix 202 = .ok (.ifCond .ne 5, 3) := by decide +kernel
theorem dX4_fix_205 : decode cX4_fix 205 = .ok (.iconst 0, 1) := by decide +kernel
theorem dX4_fix_206 : decode cX4_fix 206 = .ok (.ireturn, 1) := by decide +kernel
theorem dX4_fix_207 : decode cX4_fix 207 = .ok (.ldc2_w 54, 3) := by decide +kernel
theorem dX4_fix_210 : decode cX4_fix 210 = .ok (.aload_n 0, 1) := by decide +kernel
theorem dX4_fix_211 : decode cX4_fix 211 = .ok (.iload 6, 2) := by decide +kernel
theorem dX4_fix_213 : decode cX4_fix 213 = .ok (.iconst 0, 1) := by decide +kernel
theorem dX4_fix_214 : decode cX4_fix 214 = .ok (.invokevirtual 56, 3) := by decide +kernel
theorem dX4_fix_217 : decode cX4_fix 217 = .ok (.aload_n 0, 1) := by decide +kernel
theorem dX4_fix_218 : decode cX4_fix 218 = .ok (.iload 5, 2) := by decide +kernel
theorem dX4_fix_220 : decode cX4_fix 220 = .ok (.iconst 0, 1) := by decide +kernel
theorem dX4_fix_221 : decode cX4_fix 221 = .ok (.invokevirtual 56, 3) := by decide +kernel
theorem dX4_fix_224 : decode cX4_fix 224 = .ok (.lsub, 1) := by decide +kernel
theorem dX4_fix_225 : decode cX4_fix 225 = .ok (.lmul, 1) := by decide +kernel
theorem dX4_fix_226 : decode cX4_fix 226 = .ok (.lstore 11, 2) := by decide +kernel
theorem dX4_fix_228 : decode cX4_fix 228 = .ok (.ldc2_w 54, 3) := by decide +kernel
theorem dX4_fix_231 : decode cX4_fix 231 = .ok (.aload_n 0, 1) := by decide +kernel
theorem dX4_fix_232 : decode cX4_fix 232 = .ok (.iload 6, 2) := by decide +kernel
theorem dX4_fix_234 : decode cX4_fix 234 = .ok (.iconst 1, 1) := by decide +kernel
theorem dX4_fix_235 : decode cX4_fix 235 = .ok (.invokevirtual 56, 3) := by decide +kernel
theorem dX4_fix_238 : decode cX4_fix 238 = .ok (.aload_n 0, 1) := by decide +kernel
theorem dX4_fix_239 : decode cX4_fix 239 = .ok (.iload 5, 2) := by decide +kernel
theorem dX4_fix_241 : decode cX4_fix 241 = .ok (.iconst 1, 1) := by decide +kernel
theorem dX4_fix_242 : decode cX4_fix 242 = .ok (.invokevirtual 56, 3) := by decide +kernel
theorem dX4_fix_245 : decode cX4_fix 245 = .ok (.lsub, 1) := by decide +kernel
theorem dX4_fix_246 : decode cX4_fix 246 = .ok (.lmul, 1) := by decide +kernel
theorem dX4_fix_247 : decode cX4_fix 247 = .ok (.lstore 13, 2) := by decide +kernel
theorem dX4_fix_249 : decode cX4_fix 249 = .ok (.aload_n 0, 1) := by decide +kernel
theorem dX4_fix_250 : decode cX4_fix 250 = .ok (.iload_n 1, 1) := by decide +kernel
theorem dX4_fix_251 : decode cX4_fix 251 = .ok (.iload 5, 2) := by decide +kernel
theorem dX4_fix_253 : decode cX4_fix 253 = .ok (.iload 6, 2) := by decide +kernel
theorem dX4_fix_255 : decode cX4_fix 255 = .ok (.iload_n 3, 1) := by decide +kernel
theorem dX4_fix_256 : decode cX4_fix 256 = .ok (.invokevirtual 150, 3) := by decide +kernel
theorem dX4_fix_259 : decode cX4_fix 259 = .ok (.lstore 15, 2) := by decide +kernel
theorem dX4_fix_261 : decode cX4_fix 261 = .ok (.ldc2_w 54, 3) := by decide +kernel
theorem dX4_fix_264 : decode cX4_fix 264 = .ok (.aload_n 0, 1) := by decide +kernel
theorem dX4_fix_265 : decode cX4_fix 265 = .ok (.iload 7, 2) := by decide +kernel
theorem dX4_fix_267 : decode cX4_fix 267 = .ok (.iconst 0, 1) := by decide +kernel
theorem dX4_fix_268 : decode cX4_fix 268 = .ok (.invokevirtual 56, 3) := by decide +kernel
theorem dX4_fix_271 : decode cX4_fix 271 = .ok (.aload_n 0, 1) := by decide +kernel
theorem dX4_fix_272 : decode cX4_fix 272 = .ok (.iload 5, 2) := by decide +kernel
theorem dX4_fix_274 : decode cX4_fix 274 = .ok (.iconst 0, 1) := by decide +kernel
theorem dX4_fix_275 : decode cX4_fix 275 = .ok (.invokevirtual 56, 3) := by decide +kernel
theorem dX4_fix_278 : decode cX4_fix 278 = .ok (.lsub, 1) := by decide +kernel
theorem dX4_fix_279 : decode cX4_fix 279 = .ok (.lmul, 1) := by decide +kernel
theorem dX4_fix_280 : decode cX4_fix 280 = .ok (.lstore 17, 2) := by decide +kernel
theorem dX4_fix_282 : decode cX4_fix 282 = .ok (.ldc2_w 54, 3) := by decide +kernel
theorem dX4_fix_285 : decode cX4_fix 285 = .ok (.aload_n 0, 1) := by decide +kernel
theorem dX4_fix_286 : decode cX4_fix 286 = .ok (.iload 7, 2) := by decide +kernel
theorem dX4_fix_288 : decode cX4_fix 288 = .ok (.iconst 1, 1) := by decide +kernel
theorem dX4_fix_289 : decode cX4_fix 289 = .ok (.invokevirtual 56, 3) := by decide +kernel
theorem dX4_fix_292 : decode cX4_fix 292 = .ok (.aload_n 0, 1) := by decide +kernel
theorem dX4_fix_293 : decode cX4_fix 293 = .ok (.iload 5, 2) := by decide +kernel
theorem dX4_fix_295 : decode cX4_fix 295 = .ok (.iconst 1, 1) := by decide +kernel
theorem dX4_fix_296 : decode cX4_fix 296 = .ok (.invokevirtual 56, 3) := by decide +kernel
theorem dX4_fix_299 : decode cX4_fix 299 = .ok (.lsub, 1) := by decide +kernel
theorem dX4_fix_300 : decode cX4_fix 300 = .ok (.lmul, 1) := by decide +kernel
theorem dX4_fix_301 : decode cX4_fix 301 = .ok (.lstore 19, 2) := by decide +kernel
theorem dX4_fix_303 : decode cX4_fix 303 = .ok (.aload_n 0, 1) := by decide +kernel
theorem dX4_fix_304 : decode cX4_fix 304 = .ok (.iload_n 1, 1) := by decide +kernel
theorem dX4_fix_305 : decode cX4_fix 305 = .ok (.iload 5, 2) := by decide +kernel
theorem dX4_fix_307 : decode cX4_fix 307 = .ok (.iload 7, 2) := by decide +kernel
theorem dX4_fix_309 : decode cX4_fix 309 = .ok (.iload_n 3, 1) := by decide +kernel
theorem dX4_fix_310 : decode cX4_fix 310 = .ok (.invokevirtual 150, 3) := by decide +kernel
theorem dX4_fix_313 : decode cX4_fix 313 = .ok (.lstore 21, 2) := by decide +kernel
theorem dX4_fix_315 : decode cX4_fix 315 = .ok (.lload 11, 2) := by decide +kernel
theorem dX4_fix_317 : decode cX4_fix 317 = .ok (.lload 19, 2) := by decide +kernel
theorem dX4_fix_319 : decode cX4_fix 319 = .ok (.lmul, 1) := by decide +kernel
theorem dX4_fix_320 : decode cX4_fix 320 = .ok (.lload 17, 2) := by decide +kernel
theorem dX4_fix_322 : decode cX4_fix 322 = .ok (.lload 13, 2) := by decide +kernel
theorem dX4_fix_324 : decode cX4_fix 324 = .ok (.lmul, 1) := by decide +kernel
theorem dX4_fix_325 : decode cX4_fix 325 = .ok (.lsub, 1) := by decide +kernel
theorem dX4_fix_326 : decode cX4_fix 326 = .ok (.lstore 23, 2) := by decide +kernel
theorem dX4_fix_328 : decode cX4_fix 328 = .ok (.iload 4, 2) := by decide +kernel
theorem dX4_fix_330 : decode cX4_fix 330 = .ok (.ifCond .ne 17, 3) := by decide +kernel
theorem dX4_fix_333 : decode cX4_fix 333 = .ok (.lload 15, 2) := by decide +kernel
theorem dX4_fix_335 : decode cX4_fix 335 = .ok (.lload 19, 2) := by decide +kernel
theorem dX4_fix_337 : decode cX4_fix 337 = .ok (.lmul, 1) := by decide +kernel
theorem dX4_fix_338 : decode cX4_fix 338 = .ok (.lload 21, 2) := by decide +kernel
theorem dX4_fix_340 : decode cX4_fix 340 = .ok (.lload 13, 2) := by decide +kernel
theorem dX4_fix_342 : decode cX4_fix 342 = .ok (.lmul, 1) := by decide +kernel
theorem dX4_fix_343 : decode cX4_fix 343 = .ok (.lsub, 1) := by decide +kernel
theorem dX4_fix_344 : decode cX4_fix 344 = .ok (.goto 14, 3) := by decide +kernel
theorem dX4_fix_347 : decode cX4_fix 347 = .ok (.lload 11, 2) := by decide +kernel
theorem dX4_fix_349 : decode cX4_fix 349 = .ok (.lload 21, 2) := by decide +kernel
theorem dX4_fix_351 : decode cX4_fix 351 = .ok (.lmul, 1) := by decide +kernel
theorem dX4_fix_352 : decode cX4_fix 352 = .ok (.lload 17, 2) := by decide +kernel
theorem dX4_fix_354 : decode cX4_fix 354 = .ok (.lload 15, 2) := by decide +kernel
theorem dX4_fix_356 : decode cX4_fix 356 = .ok (.lmul, 1) := by decide +kernel
theorem dX4_fix_357 : decode cX4_fix 357 = .ok (.lsub, 1) := by decide +kernel
theorem dX4_fix_358 : decode cX4_fix 358 = .ok (.lstore 25, 2) := by decide +kernel
theorem dX4_fix_360 : decode cX4_fix 360 = .ok (.lload 23, 2) := by decide +kernel
theorem dX4_fix_362 : decode cX4_fix 362 = .ok (.lconst 0, 1) := by decide +kernel
theorem dX4_fix_363 : decode cX4_fix 363 = .ok (.lcmp, 1) := by decide +kernel
theorem dX4_fix_364 : decode cX4_fix 364 = .ok (.ifCond .ne 7, 3) := by decide +kernel
theorem dX4_fix_367 : decode cX4_fix 367 = .ok (.lconst 0, 1) := by decide +kernel
theorem dX4_fix_368 : decode cX4_fix 368 = .ok (.goto 10, 3) := by decide +kernel
theorem dX4_fix_371 : decode cX4_fix 371 = .ok (.lload 25, 2) := by decide +kernel
theorem dX4_fix_373 : decode cX4_fix 373 = .ok (.lload 23, 2) := by decide +kernel
theorem dX4_fix_375 : decode cX4_fix 375 = .ok (.invokestatic 114, 3) := by decide +kernel
theorem dX4_fix_378 : decode cX4_fix 378 = .ok (.lstore 27, 2) := by decide +kernel
theorem dX4_fix_380 : decode cX4_fix 380 = .ok (.aload_n 0, 1) := by decide +kernel
theorem dX4_fix_381 : decode cX4_fix 381 = .ok (.lload 23, 2) := by decide +kernel
theorem dX4_fix_383 : decode cX4_fix 383 = .ok (.lconst 0, 1) := by decide +kernel
theorem dX4_fix_384 : decode cX4_fix 384 = .ok (.lcmp, 1) := by decide +kernel
theorem dX4_fix_385 : decode cX4_fix 385 = .ok (.ifCond .eq 17, 3) := by decide +kernel
theorem dX4_fix_388 : decode cX4_fix 388 = .ok (.lload 27, 2) := by decide +kernel
theorem dX4_fix_390 : decode cX4_fix 390 = .ok (.ldc2_w 154, 3) := by decide +kernel
theorem dX4_fix_393 : decode cX4_fix 393 = .ok (.ldc2_w 156, 3) := by decide +kernel
theorem dX4_fix_396 : decode cX4_fix 396 = .ok (.invokestatic 23, 3) := by decide +kernel
theorem dX4_fix_399 : decode cX4_fix 399 = .ok (.ifCond .ne 7, 3) := by decide +kernel
theorem dX4_fix_402 : decode cX4_fix 402 = .ok (.iconst 4, 1) := by decide +kernel
theorem dX4_fix_403 : decode cX4_fix 403 = .ok (.goto 4, 3) := by decide +kernel
theorem dX4_fix_406 : decode cX4_fix 406 = .ok (.iconst 0, 1) := by decide +kernel
theorem dX4_fix_407 : decode cX4_fix 407 = .ok (.putfield 16, 3) := by decide +kernel
theorem dX4_fix_410 : decode cX4_fix 410 = .ok (.aload_n 0, 1) := by decide +kernel
theorem dX4_fix_411 : decode cX4_fix 411 = .ok (.getfield 16, 3) := by decide +kernel
theorem dX4_fix_414 : decode cX4_fix 414 = .ok (.ifCond .ne 9, 3) := by decide +kernel
theorem dX4_fix_417 : decode cX4_fix 417 = .ok (.lload 27, 2) := by decide +kernel
theorem dX4_fix_419 : decode cX4_fix 419 = .ok (.l2i, 1) := by decide +kernel
theorem dX4_fix_420 : decode cX4_fix 420 = .ok (.goto 4, 3) := by decide +kernel
theorem dX4_fix_423 : decode cX4_fix 423 = .ok (.iconst 0, 1) := by decide +kernel
theorem dX4_fix_424 : decode cX4_fix 424 = .ok (.ireturn, 1) := by decide +kernel
theorem dX4_undo_0 : decode cX4_undo 0 = .ok (.aload_n 0, 1) := by decide +kernel
theorem dX4_undo_1 : decode cX4_undo 1 = .ok (.aload_n 0, 1) := by decide +kernel
theorem dX4_undo_2 : decode cX4_undo 2 = .ok (.getfield 20, 3) := by decide +kernel
theorem dX4_undo_5 : decode cX4_undo 5 = .ok (.ifCond .le 7, 3) := by decide +kernel
theorem dX4_undo_8 : decode cX4_undo 8 = .ok (.iconst 1, 1) := by decide +kernel
theorem dX4_undo_9 : decode cX4_undo 9 = .ok (.goto 4, 3) := by decide +kernel
theorem dX4_undo_12 : decode cX4_undo 12 = .ok (.iconst 0, 1) := by decide +kernel
theorem dX4_undo_13 : decode cX4_undo 13 = .ok (.iconst 1, 1) := by decide +kernel
theorem dX4_undo_14 : decode cX4_undo 14 = .ok (.iconst 1, 1) := by decide +kernel
theorem dX4_undo_15 : decode cX4_undo 15 = .ok (.invokevirtual 45, 3) := by decide +kernel
theorem dX4_undo_18 : decode cX4_undo 18 = .ok (.ifCond .ne 5, 3) := by decide +kernel
theorem dX4_undo_21 : decode cX4_undo 21 = .ok (.iconst 0, 1) := by decide +kernel
theorem dX4_undo_22 : decode cX4_undo 22 = .ok (.ireturn, 1) := by decide +kernel
theorem dX4_undo_23 : decode cX4_undo 23 = .ok (.aload_n 0, 1) := by decide +kernel
theorem dX4_undo_24 : decode cX4_undo 24 = .ok (.dup, 1) := by decide +kernel
theorem dX4_undo_25 : decode cX4_undo 25 = .ok (.getfield 20, 3) := by decide +kernel
theorem dX4_undo_28 : decode cX4_undo 28 = .ok (.iconst 1, 1) := by decide +kernel
theorem dX4_undo_29 : decode cX4_undo 29 = .ok (.isub, 1) := by decide +kernel
theorem dX4_undo_30 : decode cX4_undo 30 = .ok (.putfield 20, 3) := by decide +kernel
theorem dX4_undo_33 : decode cX4_undo 33 = .ok (.iconst 0, 1) := by decide +kernel
theorem dX4_undo_34 : decode cX4_undo 34 = .ok (.istore_n 1, 1) := by decide +kernel
theorem dX4_undo_35 : decode cX4_undo 35 = .ok (.iload_n 1, 1) := by decide +kernel
theorem dX4_undo_36 : decode cX4_undo 36 = .ok (.sipush 460, 3) := by decide +kernel
theorem dX4_undo_39 : decode cX4_undo 39 = .ok (.if_icmp .ge 30, 3) := by decide +kernel
theorem dX4_undo_42 : decode cX4_undo 42 = .ok (.aload_n 0, 1) := by decide +kernel
theorem dX4_undo_43 : decode cX4_undo 43 = .ok (.getfield 7, 3) := by decide +kernel
theorem dX4_undo_46 : decode cX4_undo 46 = .ok (.iload_n 1, 1) := by decide +kernel
theorem dX4_undo_47 : decode cX4_undo 47 = .ok (.aload_n 0, 1) := by decide +kernel
theorem dX4_undo_48 : decode cX4_undo 48 = .ok (.getfield 13, 3) := by decide +kernel
theorem dX4_undo_51 : decode cX4_undo 51 = .ok (.sipush 460, 3) := by decide +kernel
theorem dX4_undo_54 : decode cX4_undo 54 = .ok (.aload_n 0, 1) := by decide +kernel
theorem dX4_undo_55 : decode cX4_undo 55 = .ok (.getfield 20, 3) := by decide +kernel
theorem dX4_undo_58 : decode cX4_undo 58 = .ok (.imul, 1) := by decide +kernel
theorem dX4_undo_59 : decode cX4_undo 59 = .ok (.iload_n 1, 1) := by decide +kernel
theorem dX4_undo_60 : decode cX4_undo 60 = .ok (.iadd, 1) := by decide +kernel
theorem dX4_undo_61 : decode cX4_undo 61 = .ok (.laload, 1) := by decide +kernel
theorem dX4_undo_62 : decode cX4_undo 62 = .ok (.lastore, 1) := by decide +kernel
theorem dX4_undo_63 : decode cX4_undo 63 = .ok (.iinc 1 1, 3) := by decide +kernel
theorem dX4_undo_66 : decode cX4_undo 66 = .ok (.goto (-31), 3) := by decide +kernel
theorem dX4_undo_69 : decode cX4_undo 69 = .ok (.aload_n 0, 1) := by decide +kernel
theorem dX4_undo_70 : decode cX4_undo 70 = .ok (.getfield 20, 3) := by decide +kernel
theorem dX4_undo_73 : decode cX4_undo 73 = .ok (.ireturn, 1) := by decide +kernel
theorem dX4_sums_0 : decode cX4_sums 0 = .ok (.lload_n 1, 1) := by decide +kernel
theorem dX4_sums_1 : decode cX4_sums 1 = .ok (.lstore 5, 2) := by decide +kernel
theorem dX4_sums_3 : decode cX4_sums 3 = .ok (.iconst 0, 1) := by decide +kernel
theorem dX4_sums_4 : decode cX4_sums 4 = .ok (.istore 7, 2) := by decide +kernel
theorem dX4_sums_6 : decode cX4_sums 6 = .ok (.iload 7, 2) := by decide +kernel
theorem dX4_sums_8 : decode cX4_sums 8 = .ok (.iload 4, 2) := by decide +kernel
theorem dX4_sums_10 : decode cX4_sums 10 = .ok (.if_icmp .ge 27, 3) := by decide +kernel
theorem dX4_sums_13 : decode cX4_sums 13 = .ok (.ldc2_w 158, 3) := by decide +kernel
theorem dX4_sums_16 : decode cX4_sums 16 = .ok (.lload 5, 2) := by decide +kernel
theorem dX4_sums_18 : decode cX4_sums 18 = .ok (.lmul, 1) := by decide +kernel
theorem dX4_sums_19 : decode cX4_sums 19 = .ok (.aload_n 0, 1) := by decide +kernel
theorem dX4_sums_20 : decode cX4_sums 20 = .ok (.getfield 7, 3) := by decide +kernel
theorem dX4_sums_23 : decode cX4_sums 23 = .ok (.iload_n 3, 1) := by decide +kernel
theorem dX4_sums_24 : decode cX4_sums 24 = .ok (.iload 7, 2) := by decide +kernel
theorem dX4_sums_26 : decode cX4_sums 26 = .ok (.iadd, 1) := by decide +kernel
theorem dX4_sums_27 : decode cX4_sums 27 = .ok (.laload, 1) := by decide +kernel
theorem dX4_sums_28 : decode cX4_sums 28 = .ok (.ladd, 1) := by decide +kernel
theorem dX4_sums_29 : decode cX4_sums 29 = .ok (.lstore 5, 2) := by decide +kernel
theorem dX4_sums_31 : decode cX4_sums 31 = .ok (.iinc 7 1, 3) := by decide +kernel
theorem dX4_sums_34 : decode cX4_sums 34 = .ok (.goto (-28), 3) := by decide +kernel
theorem dX4_sums_37 : decode cX4_sums 37 = .ok (.lload 5, 2) := by decide +kernel
theorem dX4_sums_39 : decode cX4_sums 39 = .ok (.lreturn, 1) := by decide +kernel
theorem dX4_digest_0 : decode cX4_digest 0 = .ok (.aload_n 0, 1) := by decide +kernel
theorem dX4_digest_1 : decode cX4_digest 1 = .ok (.iconst 0, 1) := by decide +kernel
theorem dX4_digest_2 : decode cX4_digest 2 = .ok (.putfield 16, 3) := by decide +kernel
theorem dX4_digest_5 : decode cX4_digest 5 = .ok (.aload_n 0, 1) := by decide +kernel
theorem dX4_digest_6 : decode cX4_digest 6 = .ok (.ldc2_w 160, 3) := by decide +kernel
theorem dX4_digest_9 : decode cX4_digest 9 = .ok (.iconst 0, 1) := by decide +kernel
theorem dX4_digest_10 : decode cX4_digest 10 = .ok (.iconst 2, 1) := by decide +kernel
theorem dX4_digest_11 : decode cX4_digest 11 = .ok (.invokevirtual 162, 3) := by decide +kernel
theorem dX4_digest_14 : decode cX4_digest 14 = .ok (.lstore_n 1, 1) := by decide +kernel
theorem dX4_digest_15 : decode cX4_digest 15 = .ok (.iconst 0, 1) := by decide +kernel
theorem dX4_digest_16 : decode cX4_digest 16 = .ok (.istore_n 3, 1) := by decide +kernel
theorem dX4_digest_17 : decode cX4_digest 17 = .ok (.iload_n 3, 1) := by decide +kernel
theorem dX4_digest_18 : decode cX4_digest 18 = .ok (.i2l, 1) := by decide +kernel
theorem dX4_digest_19 : decode cX4_digest 19 = .ok (.aload_n 0, 1) := by decide +kernel
theorem dX4_digest_20 : decode cX4_digest 20 = .ok (.getfield 7, 3) := by decide +kernel
theorem dX4_digest_23 : decode cX4_digest 23 = .ok (.iconst 1, 1) := by decide +kernel
theorem dX4_digest_24 : decode cX4_digest 24 = .ok (.laload, 1) := by decide +kernel
theorem dX4_digest_25 : decode cX4_digest 25 = .ok (.lcmp, 1) := by decide +kernel
theorem dX4_digest_26 : decode cX4_digest 26 = .ok (.ifCond .ge 39, 3) := by decide +kernel
theorem dX4_digest_29 : decode cX4_digest 29 = .ok (.ldc2_w 158, 3) := by decide +kernel
theorem dX4_digest_32 : decode cX4_digest 32 = .ok (.aload_n 0, 1) := by decide +kernel
theorem dX4_digest_33 : decode cX4_digest 33 = .ok (.lload_n 1, 1) := by decide +kernel
theorem dX4_digest_34 : decode cX4_digest 34 = .ok (.iconst 2, 1) := by decide +kernel
theorem dX4_digest_35 : decode cX4_digest 35 = .ok (.bipush 6, 2) := by decide +kernel
theorem dX4_digest_37 : decode cX4_digest 37 = .ok (.iload_n 3, 1) := by decide +kernel
theorem dX4_digest_38 : decode cX4_digest 38 = .ok (.imul, 1) := by decide +kernel
theorem dX4_digest_39 : decode cX4_digest 39 = .ok (.iadd, 1) := by decide +kernel
theorem dX4_digest_40 : decode cX4_digest 40 = .ok (.bipush 6, 2) := by decide +kernel
theorem dX4_digest_42 : decode cX4_digest 42 = .ok (.invokevirtual 162, 3) := by decide +kernel
theorem dX4_digest_45 : decode cX4_digest 45 = .ok (.lmul, 1) := by decide +kernel
theorem dX4_digest_46 : decode cX4_digest 46 = .ok (.aload_n 0, 1) := by decide +kernel
theorem dX4_digest_47 : decode cX4_digest 47 = .ok (.iload_n 3, 1) := by decide +kernel
theorem dX4_digest_48 : decode cX4_digest 48 = .ok (.aload_n 0, 1) := by decide +kernel
theorem dX4_digest_49 : decode cX4_digest 49 = .ok (.getfield 7, 3) := by decide +kernel
theorem dX4_digest_52 : decode cX4_digest 52 = .ok (.iconst 0, 1) := by decide +kernel
theorem dX4_digest_53 : decode cX4_digest 53 = .ok (.laload, 1) := by decide +kernel
theorem dX4_digest_54 : decode cX4_digest 54 = .ok (.invokevirtual 76, 3) := by decide +kernel
theorem dX4_digest_57 : decode cX4_digest 57 = .ok (.ladd, 1) := by decide +kernel
theorem dX4_digest_58 : decode cX4_digest 58 = .ok (.lstore_n 1, 1) := by decide +kernel
theorem dX4_digest_59 : decode cX4_digest 59 = .ok (.iinc 3 1, 3) := by decide +kernel
theorem dX4_digest_62 : decode cX4_digest 62 = .ok (.goto (-45), 3) := by decide +kernel
theorem dX4_digest_65 : decode cX4_digest 65 = .ok (.ldc2_w 158, 3) := by decide +kernel
theorem dX4_digest_68 : decode cX4_digest 68 = .ok (.lload_n 1, 1) := by decide +kernel
theorem dX4_digest_69 : decode cX4_digest 69 = .ok (.lmul, 1) := by decide +kernel
theorem dX4_digest_70 : decode cX4_digest 70 = .ok (.aload_n 0, 1) := by decide +kernel
theorem dX4_digest_71 : decode cX4_digest 71 = .ok (.getfield 7, 3) := by decide +kernel
theorem dX4_digest_74 : decode cX4_digest 74 = .ok (.bipush 38, 2) := by decide +kernel
theorem dX4_digest_76 : decode cX4_digest 76 = .ok (.laload, 1) := by decide +kernel
theorem dX4_digest_77 : decode cX4_digest 77 = .ok (.ladd, 1) := by decide +kernel
theorem dX4_digest_78 : decode cX4_digest 78 = .ok (.lstore_n 1, 1) := by decide +kernel
theorem dX4_digest_79 : decode cX4_digest 79 = .ok (.iconst 0, 1) := by decide +kernel
theorem dX4_digest_80 : decode cX4_digest 80 = .ok (.istore_n 3, 1) := by decide +kernel
theorem dX4_digest_81 : decode cX4_digest 81 = .ok (.iload_n 3, 1) := by decide +kernel
theorem dX4_digest_82 : decode cX4_digest 82 = .ok (.i2l, 1) := by decide +kernel
theorem dX4_digest_83 : decode cX4_digest 83 = .ok (.aload_n 0, 1) := by decide +kernel
theorem dX4_digest_84 : decode cX4_digest 84 = .ok (.getfield 7, 3) := by decide +kernel
theorem dX4_digest_87 : decode cX4_digest 87 = .ok (.bipush 38, 2) := by decide +kernel
theorem dX4_digest_89 : decode cX4_digest 89 = .ok (.laload, 1) := by decide +kernel
theorem dX4_digest_90 : decode cX4_digest 90 = .ok (.lcmp, 1) := by decide +kernel
theorem dX4_digest_91 : decode cX4_digest 91 = .ok (.ifCond .ge 53, 3) := by decide +kernel
theorem dX4_digest_94 : decode cX4_digest 94 = .ok (.aload_n 0, 1) := by decide +kernel
theorem dX4_digest_95 : decode cX4_digest 95 = .ok (.lload_n 1, 1) := by decide +kernel
theorem dX4_digest_96 : decode cX4_digest 96 = .ok (.bipush 39, 2) := by decide +kernel
theorem dX4_digest_98 : decode cX4_digest 98 = .ok (.bipush 8, 2) := by decide +kernel
theorem dX4_digest_100 : decode cX4_digest 100 = .ok (.iload_n 3, 1) := by decide +kernel
theorem dX4_digest_101 : decode cX4_digest 101 = .ok (.imul, 1) := by decide +kernel
theorem dX4_digest_102 : decode cX4_digest 102 = .ok (.iadd, 1) := by decide +kernel
theorem dX4_digest_103 : decode cX4_digest 103 = .ok (.bipush 8, 2) := by decide +kernel
theorem dX4_digest_105 : decode cX4_digest 105 = .ok (.invokevirtual 162, 3) := by decide +kernel
theorem dX4_digest_108 : decode cX4_digest 108 = .ok (.lstore_n 1, 1) := by decide +kernel
theorem dX4_digest_109 : decode cX4_digest 109 = .ok (.iconst 0, 1) := by decide +kernel
theorem dX4_digest_110 : decode cX4_digest 110 = .ok (.istore 4, 2) := by decide +kernel
theorem dX4_digest_112 : decode cX4_digest 112 = .ok (.iload 4, 2) := by decide +kernel
theorem dX4_digest_114 : decode cX4_digest 114 = .ok (.iconst 3, 1) := by decide +kernel
theorem dX4_digest_115 : decode cX4_digest 115 = .ok (.if_icmp .ge 23, 3) := by decide +kernel
theorem dX4_digest_118 : decode cX4_digest 118 = .ok (.ldc2_w 158, 3) := by decide +kernel
theorem dX4_digest_121 : decode cX4_digest 121 = .ok (.lload_n 1, 1) := by decide +kernel
theorem dX4_digest_122 : decode cX4_digest 122 = .ok (.lmul, 1) := by decide +kernel
theorem dX4_digest_123 : decode cX4_digest 123 = .ok (.aload_n 0, 1) := by decide +kernel
theorem dX4_digest_124 : decode cX4_digest 124 = .ok (.iload_n 3, 1) := by decide +kernel
theorem dX4_digest_125 : decode cX4_digest 125 = .ok (.iload 4, 2) := by decide +kernel
theorem dX4_digest_127 : decode cX4_digest 127 = .ok (.invokevirtual 131, 3) := by decide +kernel
theorem dX4_digest_130 : decode cX4_digest 130 = .ok (.ladd, 1) := by decide +kernel
theorem dX4_digest_131 : decode cX4_digest 131 = .ok (.lstore_n 1, 1) := by decide +kernel
theorem dX4_digest_132 : decode cX4_digest 132 = .ok (.iinc 4 1, 3) := by decide +kernel
theorem dX4_digest_135 : decode cX4_digest 135 = .ok (.goto (-23), 3) := by decide +kernel
theorem dX4_digest_138 : decode cX4_digest 138 = .ok (.iinc 3 1, 3) := by decide +kernel
theorem dX4_digest_141 : decode cX4_digest 141 = .ok (.goto (-60), 3) := by decide +kernel
theorem dX4_digest_144 : decode cX4_digest 144 = .ok (.ldc2_w 158, 3) := by decide +kernel
theorem dX4_digest_147 : decode cX4_digest 147 = .ok (.lload_n 1, 1) := by decide +kernel
theorem dX4_digest_148 : decode cX4_digest 148 = .ok (.lmul, 1) := by decide +kernel
theorem dX4_digest_149 : decode cX4_digest 149 = .ok (.aload_n 0, 1) := by decide +kernel
theorem dX4_digest_150 : decode cX4_digest 150 = .ok (.getfield 7, 3) := by decide +kernel
theorem dX4_digest_153 : decode cX4_digest 153 = .ok (.sipush 359, 3) := by decide +kernel
theorem dX4_digest_156 : decode cX4_digest 156 = .ok (.laload, 1) := by decide +kernel
theorem dX4_digest_157 : decode cX4_digest 157 = .ok (.ladd, 1) := by decide +kernel
theorem dX4_digest_158 : decode cX4_digest 158 = .ok (.lstore_n 1, 1) := by decide +kernel
theorem dX4_digest_159 : decode cX4_digest 159 = .ok (.iconst 0, 1) := by decide +kernel
theorem dX4_digest_160 : decode cX4_digest 160 = .ok (.istore_n 3, 1) := by decide +kernel
theorem dX4_digest_161 : decode cX4_digest 161 = .ok (.iload_n 3, 1) := by decide +kernel
theorem dX4_digest_162 : decode cX4_digest 162 = .ok (.i2l, 1) := by decide +kernel
theorem dX4_digest_163 : decode cX4_digest 163 = .ok (.aload_n 0, 1) := by decide +kernel
theorem dX4_digest_164 : decode cX4_digest 164 = .ok (.getfield 7, 3) := by decide +kernel
theorem dX4_digest_167 : decode cX4_digest 167 = .ok (.sipush 359, 3) := by decide +kernel
theorem dX4_digest_170 : decode cX4_digest 170 = .ok (.laload, 1) := by decide +kernel
theorem dX4_digest_171 : decode cX4_digest 171 = .ok (.lcmp, 1) := by decide +kernel
theorem dX4_digest_172 : decode cX4_digest 172 = .ok (.ifCond .ge 27, 3) := by decide +kernel
theorem dX4_digest_175 : decode cX4_digest 175 = .ok (.aload_n 0, 1) := by decide +kernel
theorem dX4_digest_176 : decode cX4_digest 176 = .ok (.lload_n 1, 1) := by decide +kernel
theorem dX4_digest_177 : decode cX4_digest 177 = .ok (.sipush 360, 3) := by decide +kernel
theorem dX4_digest_180 : decode cX4_digest 180 = .ok (.iconst 5, 1) := by decide +kernel
theorem dX4_digest_181 : decode cX4_digest 181 = .ok (.aload_n 0, 1) := by decide +kernel
theorem dX4_digest_182 : decode cX4_digest 182 = .ok (.iload_n 3, 1) := by decide +kernel
theorem dX4_digest_183 : decode cX4_digest 183 = .ok (.invokevirtual 96, 3) := by decide +kernel
theorem dX4_digest_186 : decode cX4_digest 186 = .ok (.imul, 1) := by decide +kernel
theorem dX4_digest_187 : decode cX4_digest 187 = .ok (.iadd, 1) := by decide +kernel
theorem dX4_digest_188 : decode cX4_digest 188 = .ok (.iconst 5, 1) := by decide +kernel
theorem dX4_digest_189 : decode cX4_digest 189 = .ok (.invokevirtual 162, 3) := by decide +kernel
theorem dX4_digest_192 : decode cX4_digest 192 = .ok (.lstore_n 1, 1) := by decide +kernel
theorem dX4_digest_193 : decode cX4_digest 193 = .ok (.iinc 3 1, 3) := by decide +kernel
theorem dX4_digest_196 : decode cX4_digest 196 = .ok (.goto (-35), 3) := by decide +kernel
theorem dX4_digest_199 : decode cX4_digest 199 = .ok (.ldc2_w 158, 3) := by decide +kernel
theorem dX4_digest_202 : decode cX4_digest 202 = .ok (.lload_n 1, 1) := by decide +kernel
theorem dX4_digest_203 : decode cX4_digest 203 = .ok (.lmul, 1) := by decide +kernel
theorem dX4_digest_204 : decode cX4_digest 204 = .ok (.aload_n 0, 1) := by decide +kernel
theorem dX4_digest_205 : decode cX4_digest 205 = .ok (.getfield 20, 3) := by decide +kernel
theorem dX4_digest_208 : decode cX4_digest 208 = .ok (.i2l, 1) := by decide +kernel
theorem dX4_digest_209 : decode cX4_digest 209 = .ok (.ladd, 1) := by decide +kernel
theorem dX4_digest_210 : decode cX4_digest 210 = .ok (.lreturn, 1) := by decide +kernel
end
section
theorem dL_addNode_0 : decode cL_addNode 0 = .ok (.aload 6, 2) := by decide +kernel
theorem dL_addNode_2 : decode cL_addNode 2 = .ok (.iconst 0, 1) := by decide +kernel
theorem dL_addNode_3 : decode cL_addNode 3 = .ok (.aload_n 0, 1) := by decide +kernel
theorem dL_addNode_4 : decode cL_addNode 4 = .ok (.iload_n 1, 1) := by decide +kernel
theorem dL_addNode_5 : decode cL_addNode 5 = .ok (.iload_n 2, 1) := by decide +kernel
theorem dL_addNode_6 : decode cL_addNode 6 = .ok (.iload_n 3, 1) := by decide +kernel
theorem dL_addNode_7 : decode cL_addNode 7 = .ok (.iload 4, 2) := by decide +kernel
theorem dL_addNode_9 : decode cL_addNode 9 = .ok (.iload 5, 2) := by decide +kernel
theorem dL_addNode_11 : decode cL_addNode 11 = .ok (.invokevirtual 7, 3) := by decide +kernel
theorem dL_addNode_14 : decode cL_addNode 14 = .ok (.i2l, 1) := by decide +kernel
theorem dL_addNode_15 : decode cL_addNode 15 = .ok (.lastore, 1) := by decide +kernel
theorem dL_addNode_16 : decode cL_addNode 16 = .ok (.goto 11, 3) := by decide +kernel
theorem dL_addNode_19 : decode cL_addNode 19 = .ok (.astore 7, 2) := by decide +kernel
theorem dL_addNode_21 : decode cL_addNode 21 = .ok (.iconst 1, 1) := by decide +kernel
theorem dL_addNode_22 : decode cL_addNode 22 = .ok (.ireturn, 1) := by decide +kernel
theorem dL_addNode_23 : decode cL_addNode 23 = .ok (.astore 7, 2) := by decide +kernel
theorem dL_addNode_25 : decode cL_addNode 25 = .ok (.iconst 2, 1) := by decide +kernel
theorem dL_addNode_26 : decode cL_addNode 26 = .ok (.ireturn, 1) := by decide +kernel
theorem dL_addNode_27 : decode cL_addNode 27 = .ok (.iconst 0, 1) := by decide +kernel
theorem dL_addNode_28 : decode cL_addNode 28 = .ok (.ireturn, 1) := by decide +kernel
theorem dL_move_0 : decode cL_move 0 = .ok (.aload 4, 2) := by decide +kernel
theorem dL_move_2 : decode cL_move 2 = .ok (.iconst 0, 1) := by decide +kernel
theorem dL_move_3 : decode cL_move 3 = .ok (.aload_n 0, 1) := by decide +kernel
theorem dL_move_4 : decode cL_move 4 = .ok (.iload_n 1, 1) := by decide +kernel
theorem dL_move_5 : decode cL_move 5 = .ok (.iload_n 2, 1) := by decide +kernel
theorem dL_move_6 : decode cL_move 6 = .ok (.iload_n 3, 1) := by decide +kernel
theorem dL_move_7 : decode cL_move 7 = .ok (.invokevirtual 17, 3) := by decide +kernel
theorem dL_move_10 : decode cL_move 10 = .ok (.i2l, 1) := by decide +kernel
theorem dL_move_11 : decode cL_move 11 = .ok (.lastore, 1) := by decide +kernel
theorem dL_move_12 : decode cL_move 12 = .ok (.goto 11, 3) := by decide +kernel
theorem dL_move_15 : decode cL_move 15 = .ok (.astore 5, 2) := by decide +kernel
theorem dL_move_17 : decode cL_move 17 = .ok (.iconst 1, 1) := by decide +kernel
theorem dL_move_18 : decode cL_move 18 = .ok (.ireturn, 1) := by decide +kernel
theorem dL_move_19 : decode cL_move 19 = .ok (.astore 5, 2) := by decide +kernel
theorem dL_move_21 : decode cL_move 21 = .ok (.iconst 2, 1) := by decide +kernel
theorem dL_move_22 : decode cL_move 22 = .ok (.ireturn, 1) := by decide +kernel
theorem dL_move_23 : decode cL_move 23 = .ok (.iconst 0, 1) := by decide +kernel
theorem dL_move_24 : decode cL_move 24 = .ok (.ireturn, 1) := by decide +kernel
theorem dL_assume_0 : decode cL_assume 0 = .ok (.aload_n 3, 1) := by decide +kernel
theorem dL_assume_1 : decode cL_assume 1 = .ok (.iconst 0, 1) := by decide +kernel
theorem dL_assume_2 : decode cL_assume 2 = .ok (.aload_n 0, 1) := by decide +kernel
theorem dL_assume_3 : decode cL_assume 3 = .ok (.iload_n 1, 1) := by decide +kernel
theorem dL_assume_4 : decode cL_assume 4 = .ok (.iload_n 2, 1) := by decide +kernel
theorem dL_assume_5 : decode cL_assume 5 = .ok (.invokevirtual 23, 3) := by decide +kernel
theorem dL_assume_8 : decode cL_assume 8 = .ok (.i2l, 1) := by decide +kernel
theorem dL_assume_9 : decode cL_assume 9 = .ok (.lastore, 1) := by decide +kernel
theorem dL_assume_10 : decode cL_assume 10 = .ok (.goto 11, 3) := by decide +kernel
theorem dL_assume_13 : decode cL_assume 13 = .ok (.astore 4, 2) := by decide +kernel
theorem dL_assume_15 : decode cL_assume 15 = .ok (.iconst 1, 1) := by decide +kernel
theorem dL_assume_16 : decode cL_assume 16 = .ok (.ireturn, 1) := by decide +kernel
theorem dL_assume_17 : decode cL_assume 17 = .ok (.astore 4, 2) := by decide +kernel
theorem dL_assume_19 : decode cL_assume 19 = .ok (.iconst 2, 1) := by decide +kernel
theorem dL_assume_20 : decode cL_assume 20 = .ok (.ireturn, 1) := by decide +kernel
theorem dL_assume_21 : decode cL_assume 21 = .ok (.iconst 0, 1) := by decide +kernel
theorem dL_assume_22 : decode cL_assume 22 = .ok (.ireturn, 1) := by decide +kernel
theorem dL_assumed_0 : decode cL_assumed 0 = .ok (.aload_n 2, 1) := by decide +kernel
theorem dL_assumed_1 : decode cL_assumed 1 = .ok (.iconst 0, 1) := by decide +kernel
theorem dL_assumed_2 : decode cL_assumed 2 = .ok (.aload_n 0, 1) := by decide +kernel
theorem dL_assumed_3 : decode cL_assumed 3 = .ok (.iload_n 1, 1) := by decide +kernel
theorem dL_assumed_4 : decode cL_assumed 4 = .ok (.invokevirtual 27, 3) := by decide +kernel
theorem dL_assumed_7 : decode cL_assumed 7 = .ok (.i2l, 1) := by decide +kernel
theorem dL_assumed_8 : decode cL_assumed 8 = .ok (.lastore, 1) := by decide +kernel
theorem dL_assumed_9 : decode cL_assumed 9 = .ok (.goto 6, 3) := by decide +kernel
theorem dL_assumed_12 : decode cL_assumed 12 = .ok (.astore_n 3, 1) := by decide +kernel
theorem dL_assumed_13 : decode cL_assumed 13 = .ok (.iconst 1, 1) := by decide +kernel
theorem dL_assumed_14 : decode cL_assumed 14 = .ok (.ireturn, 1) := by decide +kernel
theorem dL_assumed_15 : decode cL_assumed 15 = .ok (.iconst 0, 1) := by decide +kernel
theorem dL_assumed_16 : decode cL_assumed 16 = .ok (.ireturn, 1) := by decide +kernel
theorem dL_distance_0 : decode cL_distance 0 = .ok (.aload_n 3, 1) := by decide +kernel
theorem dL_distance_1 : decode cL_distance 1 = .ok (.iconst 0, 1) := by decide +kernel
theorem dL_distance_2 : decode cL_distance 2 = .ok (.aload_n 0, 1) := by decide +kernel
theorem dL_distance_3 : decode cL_distance 3 = .ok (.iload_n 1, 1) := by decide +kernel
theorem dL_distance_4 : decode cL_distance 4 = .ok (.iload_n 2, 1) := by decide +kernel
theorem dL_distance_5 : decode cL_distance 5 = .ok (.invokevirtual 31, 3) := by decide +kernel
theorem dL_distance_8 : decode cL_distance 8 = .ok (.i2l, 1) := by decide +kernel
theorem dL_distance_9 : decode cL_distance 9 = .ok (.lastore, 1) := by decide +kernel
theorem dL_distance_10 : decode cL_distance 10 = .ok (.goto 7, 3) := by decide +kernel
theorem dL_distance_13 : decode cL_distance 13 = .ok (.astore 4, 2) := by decide +kernel
theorem dL_distance_15 : decode cL_distance 15 = .ok (.iconst 1, 1) := by decide +kernel
theorem dL_distance_16 : decode cL_distance 16 = .ok (.ireturn, 1) := by decide +kernel
theorem dL_distance_17 : decode cL_distance 17 = .ok (.iconst 0, 1) := by decide +kernel
theorem dL_distance_18 : decode cL_distance 18 = .ok (.ireturn, 1) := by decide +kernel
theorem dL_counter_0 : decode cL_counter 0 = .ok (.aload_n 3, 1) := by decide +kernel
theorem dL_counter_1 : decode cL_counter 1 = .ok (.iconst 0, 1) := by decide +kernel
theorem dL_counter_2 : decode cL_counter 2 = .ok (.aload_n 0, 1) := by decide +kernel
theorem dL_counter_3 : decode cL_counter 3 = .ok (.iload_n 1, 1) := by decide +kernel
theorem dL_counter_4 : decode cL_counter 4 = .ok (.iload_n 2, 1) := by decide +kernel
theorem dL_counter_5 : decode cL_counter 5 = .ok (.invokevirtual 34, 3) := by decide +kernel
theorem dL_counter_8 : decode cL_counter 8 = .ok (.i2l, 1) := by decide +kernel
theorem dL_counter_9 : decode cL_counter 9 = .ok (.lastore, 1) := by decide +kernel
theorem dL_counter_10 : decode cL_counter 10 = .ok (.goto 11, 3) := by decide +kernel
theorem dL_counter_13 : decode cL_counter 13 = .ok (.astore 4, 2) := by decide +kernel
theorem dL_counter_15 : decode cL_counter 15 = .ok (.iconst 1, 1) := by decide +kernel
theorem dL_counter_16 : decode cL_counter 16 = .ok (.ireturn, 1) := by decide +kernel
theorem dL_counter_17 : decode cL_counter 17 = .ok (.astore 4, 2) := by decide +kernel
theorem dL_counter_19 : decode cL_counter 19 = .ok (.iconst 2, 1) := by decide +kernel
theorem dL_counter_20 : decode cL_counter 20 = .ok (.ireturn, 1) := by decide +kernel
theorem dL_counter_21 : decode cL_counter 21 = .ok (.iconst 0, 1) := by decide +kernel
theorem dL_counter_22 : decode cL_counter 22 = .ok (.ireturn, 1) := by decide +kernel
theorem dL_exchange_0 : decode cL_exchange 0 = .ok (.aload 5, 2) := by decide +kernel
theorem dL_exchange_2 : decode cL_exchange 2 = .ok (.iconst 0, 1) := by decide +kernel
theorem dL_exchange_3 : decode cL_exchange 3 = .ok (.aload_n 0, 1) := by decide +kernel
theorem dL_exchange_4 : decode cL_exchange 4 = .ok (.iload_n 1, 1) := by decide +kernel
theorem dL_exchange_5 : decode cL_exchange 5 = .ok (.iload_n 2, 1) := by decide +kernel
theorem dL_exchange_6 : decode cL_exchange 6 = .ok (.iload_n 3, 1) := by decide +kernel
theorem dL_exchange_7 : decode cL_exchange 7 = .ok (.iload 4, 2) := by decide +kernel
theorem dL_exchange_9 : decode cL_exchange 9 = .ok (.invokevirtual 37, 3) := by decide +kernel
theorem dL_exchange_12 : decode cL_exchange 12 = .ok (.i2l, 1) := by decide +kernel
theorem dL_exchange_13 : decode cL_exchange 13 = .ok (.lastore, 1) := by decide +kernel
theorem dL_exchange_14 : decode cL_exchange 14 = .ok (.goto 15, 3) := by decide +kernel
theorem dL_exchange_17 : decode cL_exchange 17 = .ok (.astore 6, 2) := by decide +kernel
theorem dL_exchange_19 : decode cL_exchange 19 = .ok (.iconst 1, 1) := by decide +kernel
theorem dL_exchange_20 : decode cL_exchange 20 = .ok (.ireturn, 1) := by decide +kernel
theorem dL_exchange_21 : decode cL_exchange 21 = .ok (.astore 6, 2) := by decide +kernel
theorem dL_exchange_23 : decode cL_exchange 23 = .ok (.iconst 2, 1) := by decide +kernel
theorem dL_exchange_24 : decode cL_exchange 24 = .ok (.ireturn, 1) := by decide +kernel
theorem dL_exchange_25 : decode cL_exchange 25 = .ok (.astore 6, 2) := by decide +kernel
theorem dL_exchange_27 : decode cL_exchange 27 = .ok (.iconst 3, 1) := by decide +kernel
theorem dL_exchange_28 : decode cL_exchange 28 = .ok (.ireturn, 1) := by decide +kernel
theorem dL_exchange_29 : decode cL_exchange 29 = .ok (.iconst 0, 1) := by decide +kernel
theorem dL_exchange_30 : decode cL_exchange 30 = .ok (.ireturn, 1) := by decide +kernel
theorem dL_plan_0 : decode cL_plan 0 = .ok (.aload 6, 2) := by decide +kernel
theorem dL_plan_2 : decode cL_plan 2 = .ok (.iconst 0, 1) := by decide +kernel
theorem dL_plan_3 : decode cL_plan 3 = .ok (.aload_n 0, 1) := by decide +kernel
theorem dL_plan_4 : decode cL_plan 4 = .ok (.iload_n 1, 1) := by decide +kernel
theorem dL_plan_5 : decode cL_plan 5 = .ok (.iload_n 2, 1) := by decide +kernel
theorem dL_plan_6 : decode cL_plan 6 = .ok (.iload_n 3, 1) := by decide +kernel
theorem dL_plan_7 : decode cL_plan 7 = .ok (.iload 4, 2) := by decide +kernel
theorem dL_plan_9 : decode cL_plan 9 = .ok (.iload 5, 2) := by decide +kernel
theorem dL_plan_11 : decode cL_plan 11 = .ok (.invokevirtual 41, 3) := by decide +kernel
theorem dL_plan_14 : decode cL_plan 14 = .ok (.i2l, 1) := by decide +kernel
theorem dL_plan_15 : decode cL_plan 15 = .ok (.lastore, 1) := by decide +kernel
theorem dL_plan_16 : decode cL_plan 16 = .ok (.goto 15, 3) := by decide +kernel
theorem dL_plan_19 : decode cL_plan 19 = .ok (.astore 7, 2) := by decide +kernel
theorem dL_plan_21 : decode cL_plan 21 = .ok (.iconst 1, 1) := by decide +kernel
theorem dL_plan_22 : decode cL_plan 22 = .ok (.ireturn, 1) := by decide +kernel
theorem dL_plan_23 : decode cL_plan 23 = .ok (.astore 7, 2) := by decide +kernel
theorem dL_plan_25 : decode cL_plan 25 = .ok (.iconst 2, 1) := by decide +kernel
theorem dL_plan_26 : decode cL_plan 26 = .ok (.ireturn, 1) := by decide +kernel
theorem dL_plan_27 : decode cL_plan 27 = .ok (.astore 7, 2) := by decide +kernel
theorem dL_plan_29 : decode cL_plan 29 = .ok (.iconst 3, 1) := by decide +kernel
theorem dL_plan_30 : decode cL_plan 30 = .ok (.ireturn, 1) := by decide +kernel
theorem dL_plan_31 : decode cL_plan 31 = .ok (.iconst 0, 1) := by decide +kernel
theorem dL_plan_32 : decode cL_plan 32 = .ok (.ireturn, 1) := by decide +kernel
theorem dL_run_0 : decode cL_run 0 = .ok (.aload_n 2, 1) := by decide +kernel
theorem dL_run_1 : decode cL_run 1 = .ok (.iconst 0, 1) := by decide +kernel
theorem dL_run_2 : decode cL_run 2 = .ok (.aload_n 0, 1) := by decide +kernel
theorem dL_run_3 : decode cL_run 3 = .ok (.iload_n 1, 1) := by decide +kernel
theorem dL_run_4 : decode cL_run 4 = .ok (.invokevirtual 44, 3) := by decide +kernel
theorem dL_run_7 : decode cL_run 7 = .ok (.i2l, 1) := by decide +kernel
theorem dL_run_8 : decode cL_run 8 = .ok (.lastore, 1) := by decide +kernel
theorem dL_run_9 : decode cL_run 9 = .ok (.goto 6, 3) := by decide +kernel
theorem dL_run_12 : decode cL_run 12 = .ok (.astore_n 3, 1) := by decide +kernel
theorem dL_run_13 : decode cL_run 13 = .ok (.iconst 1, 1) := by decide +kernel
theorem dL_run_14 : decode cL_run 14 = .ok (.ireturn, 1) := by decide +kernel
theorem dL_run_15 : decode cL_run 15 = .ok (.iconst 0, 1) := by decide +kernel
theorem dL_run_16 : decode cL_run 16 = .ok (.ireturn, 1) := by decide +kernel
theorem dL_stamp_0 : decode cL_stamp 0 = .ok (.aload_n 3, 1) := by decide +kernel
theorem dL_stamp_1 : decode cL_stamp 1 = .ok (.iconst 0, 1) := by decide +kernel
theorem dL_stamp_2 : decode cL_stamp 2 = .ok (.aload_n 0, 1) := by decide +kernel
theorem dL_stamp_3 : decode cL_stamp 3 = .ok (.iload_n 1, 1) := by decide +kernel
theorem dL_stamp_4 : decode cL_stamp 4 = .ok (.iload_n 2, 1) := by decide +kernel
theorem dL_stamp_5 : decode cL_stamp 5 = .ok (.invokevirtual 47, 3) := by decide +kernel
theorem dL_stamp_8 : decode cL_stamp 8 = .ok (.i2l, 1) := by decide +kernel
theorem dL_stamp_9 : decode cL_stamp 9 = .ok (.lastore, 1) := by decide +kernel
theorem dL_stamp_10 : decode cL_stamp 10 = .ok (.goto 11, 3) := by decide +kernel
theorem dL_stamp_13 : decode cL_stamp 13 = .ok (.astore 4, 2) := by decide +kernel
theorem dL_stamp_15 : decode cL_stamp 15 = .ok (.iconst 1, 1) := by decide +kernel
theorem dL_stamp_16 : decode cL_stamp 16 = .ok (.ireturn, 1) := by decide +kernel
theorem dL_stamp_17 : decode cL_stamp 17 = .ok (.astore 4, 2) := by decide +kernel
theorem dL_stamp_19 : decode cL_stamp 19 = .ok (.iconst 2, 1) := by decide +kernel
theorem dL_stamp_20 : decode cL_stamp 20 = .ok (.ireturn, 1) := by decide +kernel
theorem dL_stamp_21 : decode cL_stamp 21 = .ok (.iconst 0, 1) := by decide +kernel
theorem dL_stamp_22 : decode cL_stamp 22 = .ok (.ireturn, 1) := by decide +kernel
theorem dL_party_0 : decode cL_party 0 = .ok (.aload_n 3, 1) := by decide +kernel
theorem dL_party_1 : decode cL_party 1 = .ok (.iconst 0, 1) := by decide +kernel
theorem dL_party_2 : decode cL_party 2 = .ok (.aload_n 0, 1) := by decide +kernel
theorem dL_party_3 : decode cL_party 3 = .ok (.iload_n 1, 1) := by decide +kernel
theorem dL_party_4 : decode cL_party 4 = .ok (.iload_n 2, 1) := by decide +kernel
theorem dL_party_5 : decode cL_party 5 = .ok (.invokevirtual 50, 3) := by decide +kernel
theorem dL_party_8 : decode cL_party 8 = .ok (.i2l, 1) := by decide +kernel
theorem dL_party_9 : decode cL_party 9 = .ok (.lastore, 1) := by decide +kernel
theorem dL_party_10 : decode cL_party 10 = .ok (.goto 11, 3) := by decide +kernel
theorem dL_party_13 : decode cL_party 13 = .ok (.astore 4, 2) := by decide +kernel
theorem dL_party_15 : decode cL_party 15 = .ok (.iconst 1, 1) := by decide +kernel
theorem dL_party_16 : decode cL_party 16 = .ok (.ireturn, 1) := by decide +kernel
theorem dL_party_17 : decode cL_party 17 = .ok (.astore 4, 2) := by decide +kernel
theorem dL_party_19 : decode cL_party 19 = .ok (.iconst 2, 1) := by decide +kernel
theorem dL_party_20 : decode cL_party 20 = .ok (.ireturn, 1) := by decide +kernel
theorem dL_party_21 : decode cL_party 21 = .ok (.iconst 0, 1) := by decide +kernel
theorem dL_party_22 : decode cL_party 22 = .ok (.ireturn, 1) := by decide +kernel
theorem dL_range_0 : decode cL_range 0 = .ok (.aload_n 3, 1) := by decide +kernel
theorem dL_range_1 : decode cL_range 1 = .ok (.iconst 0, 1) := by decide +kernel
theorem dL_range_2 : decode cL_range 2 = .ok (.aload_n 0, 1) := by decide +kernel
theorem dL_range_3 : decode cL_range 3 = .ok (.iload_n 1, 1) := by decide +kernel
theorem dL_range_4 : decode cL_range 4 = .ok (.iload_n 2, 1) := by decide +kernel
theorem dL_range_5 : decode cL_range 5 = .ok (.invokevirtual 53, 3) := by decide +kernel
theorem dL_range_8 : decode cL_range 8 = .ok (.i2l, 1) := by decide +kernel
theorem dL_range_9 : decode cL_range 9 = .ok (.lastore, 1) := by decide +kernel
theorem dL_range_10 : decode cL_range 10 = .ok (.goto 11, 3) := by decide +kernel
theorem dL_range_13 : decode cL_range 13 = .ok (.astore 4, 2) := by decide +kernel
theorem dL_range_15 : decode cL_range 15 = .ok (.iconst 1, 1) := by decide +kernel
theorem dL_range_16 : decode cL_range 16 = .ok (.ireturn, 1) := by decide +kernel
theorem dL_range_17 : decode cL_range 17 = .ok (.astore 4, 2) := by decide +kernel
theorem dL_range_19 : decode cL_range 19 = .ok (.iconst 2, 1) := by decide +kernel
theorem dL_range_20 : decode cL_range 20 = .ok (.ireturn, 1) := by decide +kernel
theorem dL_range_21 : decode cL_range 21 = .ok (.iconst 0, 1) := by decide +kernel
theorem dL_range_22 : decode cL_range 22 = .ok (.ireturn, 1) := by decide +kernel
theorem dL_latestRange_0 : decode cL_latestRange 0 = .ok (.aload 4, 2) := by decide +kernel
theorem dL_latestRange_2 : decode cL_latestRange 2 = .ok (.iconst 0, 1) := by decide +kernel
theorem dL_latestRange_3 : decode cL_latestRange 3 = .ok (.aload_n 0, 1) := by decide +kernel
theorem dL_latestRange_4 : decode cL_latestRange 4 = .ok (.iload_n 1, 1) := by decide +kernel
theorem dL_latestRange_5 : decode cL_latestRange 5 = .ok (.iload_n 2, 1) := by decide +kernel
theorem dL_latestRange_6 : decode cL_latestRange 6 = .ok (.iload_n 3, 1) := by decide +kernel
theorem dL_latestRange_7 : decode cL_latestRange 7 = .ok (.invokevirtual 56, 3) := by decide +kernel
theorem dL_latestRange_10 : decode cL_latestRange 10 = .ok (.i2l, 1) := by decide +kernel
theorem dL_latestRange_11 : decode cL_latestRange 11 = .ok (.lastore, 1) := by decide +kernel
theorem dL_latestRange_12 : decode cL_latestRange 12 = .ok (.goto 15, 3) := by decide +kernel
theorem dL_latestRange_15 : decode cL_latestRange 15 = .ok (.astore 5, 2) := by decide +kernel
theorem dL_latestRange_17 : decode cL_latestRange 17 = .ok (.iconst 1, 1) := by decide +kernel
theorem dL_latestRange_18 : decode cL_latestRange 18 = .ok (.ireturn, 1) := by decide +kernel
theorem dL_latestRange_19 : decode cL_latestRange 19 = .ok (.astore 5, 2) := by decide +kernel
theorem dL_latestRange_21 : decode cL_latestRange 21 = .ok (.iconst 2, 1) := by decide +kernel
theorem dL_latestRange_22 : decode cL_latestRange 22 = .ok (.ireturn, 1) := by decide +kernel
theorem dL_latestRange_23 : decode cL_latestRange 23 = .ok (.astore 5, 2) := by decide +kernel
theorem dL_latestRange_25 : decode cL_latestRange 25 = .ok (.iconst 3, 1) := by decide +kernel
theorem dL_latestRange_26 : decode cL_latestRange 26 = .ok (.ireturn, 1) := by decide +kernel
theorem dL_latestRange_27 : decode cL_latestRange 27 = .ok (.iconst 0, 1) := by decide +kernel
theorem dL_latestRange_28 : decode cL_latestRange 28 = .ok (.ireturn, 1) := by decide +kernel
theorem dL_worstError_0 : decode cL_worstError 0 = .ok (.aload_n 2, 1) := by decide +kernel
theorem dL_worstError_1 : decode cL_worstError 1 = .ok (.iconst 0, 1) := by decide +kernel
theorem dL_worstError_2 : decode cL_worstError 2 = .ok (.aload_n 0, 1) := by decide +kernel
theorem dL_worstError_3 : decode cL_worstError 3 = .ok (.iload_n 1, 1) := by decide +kernel
theorem dL_worstError_4 : decode cL_worstError 4 = .ok (.invokevirtual 59, 3) := by decide +kernel
theorem dL_worstError_7 : decode cL_worstError 7 = .ok (.i2l, 1) := by decide +kernel
theorem dL_worstError_8 : decode cL_worstError 8 = .ok (.lastore, 1) := by decide +kernel
theorem dL_worstError_9 : decode cL_worstError 9 = .ok (.goto 6, 3) := by decide +kernel
theorem dL_worstError_12 : decode cL_worstError 12 = .ok (.astore_n 3, 1) := by decide +kernel
theorem dL_worstError_13 : decode cL_worstError 13 = .ok (.iconst 1, 1) := by decide +kernel
theorem dL_worstError_14 : decode cL_worstError 14 = .ok (.ireturn, 1) := by decide +kernel
theorem dL_worstError_15 : decode cL_worstError 15 = .ok (.iconst 0, 1) := by decide +kernel
theorem dL_worstError_16 : decode cL_worstError 16 = .ok (.ireturn, 1) := by decide +kernel
theorem dL_meanError_0 : decode cL_meanError 0 = .ok (.aload_n 2, 1) := by decide +kernel
theorem dL_meanError_1 : decode cL_meanError 1 = .ok (.iconst 0, 1) := by decide +kernel
theorem dL_meanError_2 : decode cL_meanError 2 = .ok (.aload_n 0, 1) := by decide +kernel
theorem dL_meanError_3 : decode cL_meanError 3 = .ok (.iload_n 1, 1) := by decide +kernel
theorem dL_meanError_4 : decode cL_meanError 4 = .ok (.invokevirtual 62, 3) := by decide +kernel
theorem dL_meanError_7 : decode cL_meanError 7 = .ok (.dastore, 1) := by decide +kernel
theorem dL_meanError_8 : decode cL_meanError 8 = .ok (.goto 6, 3) := by decide +kernel
theorem dL_meanError_11 : decode cL_meanError 11 = .ok (.astore_n 3, 1) := by decide +kernel
theorem dL_meanError_12 : decode cL_meanError 12 = .ok (.iconst 1, 1) := by decide +kernel
theorem dL_meanError_13 : decode cL_meanError 13 = .ok (.ireturn, 1) := by decide +kernel
theorem dL_meanError_14 : decode cL_meanError 14 = .ok (.iconst 0, 1) := by decide +kernel
theorem dL_meanError_15 : decode cL_meanError 15 = .ok (.ireturn, 1) := by decide +kernel
theorem dL_relativeDrift_0 : decode cL_relativeDrift 0 = .ok (.aload_n 2, 1) := by decide +kernel
theorem dL_relativeDrift_1 : decode cL_relativeDrift 1 = .ok (.iconst 0, 1) := by decide +kernel
theorem dL_relativeDrift_2 : decode cL_relativeDrift 2 = .ok (.aload_n 0, 1) := by decide +kernel
theorem dL_relativeDrift_3 : decode cL_relativeDrift 3 = .ok (.iload_n 1, 1) := by decide +kernel
theorem dL_relativeDrift_4 : decode cL_relativeDrift 4 = .ok (.invokevirtual 66, 3) := by decide +kernel
theorem dL_relativeDrift_7 : decode cL_relativeDrift 7 = .ok (.dastore, 1) := by decide +kernel
theorem dL_relativeDrift_8 : decode cL_relativeDrift 8 = .ok (.goto 9, 3) := by decide +kernel
theorem dL_relativeDrift_11 : decode cL_relativeDrift 11 = .ok (.astore_n 3, 1) := by decide +kernel
theorem dL_relativeDrift_12 : decode cL_relativeDrift 12 = .ok (.iconst 1, 1) := by decide +kernel
theorem dL_relativeDrift_13 : decode cL_relativeDrift 13 = .ok (.ireturn, 1) := by decide +kernel
theorem dL_relativeDrift_14 : decode cL_relativeDrift 14 = .ok (.astore_n 3, 1) := by decide +kernel
theorem dL_relativeDrift_15 : decode cL_relativeDrift 15 = .ok (.iconst 2, 1) := by decide +kernel
theorem dL_relativeDrift_16 : decode cL_relativeDrift 16 = .ok (.ireturn, 1) := by decide +kernel
theorem dL_relativeDrift_17 : decode cL_relativeDrift 17 = .ok (.iconst 0, 1) := by decide +kernel
theorem dL_relativeDrift_18 : decode cL_relativeDrift 18 = .ok (.ireturn, 1) := by decide +kernel
theorem dL_calibrate_0 : decode cL_calibrate 0 = .ok (.aload 4, 2) := by decide +kernel
theorem dL_calibrate_2 : decode cL_calibrate 2 = .ok (.iconst 0, 1) := by decide +kernel
theorem dL_calibrate_3 : decode cL_calibrate 3 = .ok (.aload_n 0, 1) := by decide +kernel
theorem dL_calibrate_4 : decode cL_calibrate 4 = .ok (.iload_n 1, 1) := by decide +kernel
theorem dL_calibrate_5 : decode cL_calibrate 5 = .ok (.iload_n 2, 1) := by decide +kernel
theorem dL_calibrate_6 : decode cL_calibrate 6 = .ok (.iload_n 3, 1) := by decide +kernel
theorem dL_calibrate_7 : decode cL_calibrate 7 = .ok (.invokevirtual 71, 3) := by decide +kernel
theorem dL_calibrate_10 : decode cL_calibrate 10 = .ok (.i2l, 1) := by decide +kernel
theorem dL_calibrate_11 : decode cL_calibrate 11 = .ok (.lastore, 1) := by decide +kernel
theorem dL_calibrate_12 : decode cL_calibrate 12 = .ok (.goto 15, 3) := by decide +kernel
theorem dL_calibrate_15 : decode cL_calibrate 15 = .ok (.astore 5, 2) := by decide +kernel
theorem dL_calibrate_17 : decode cL_calibrate 17 = .ok (.iconst 1, 1) := by decide +kernel
theorem dL_calibrate_18 : decode cL_calibrate 18 = .ok (.ireturn, 1) := by decide +kernel
theorem dL_calibrate_19 : decode cL_calibrate 19 = .ok (.astore 5, 2) := by decide +kernel
theorem dL_calibrate_21 : decode cL_calibrate 21 = .ok (.iconst 2, 1) := by decide +kernel
theorem dL_calibrate_22 : decode cL_calibrate 22 = .ok (.ireturn, 1) := by decide +kernel
theorem dL_calibrate_23 : decode cL_calibrate 23 = .ok (.astore 5, 2) := by decide +kernel
theorem dL_calibrate_25 : decode cL_calibrate 25 = .ok (.iconst 3, 1) := by decide +kernel
theorem dL_calibrate_26 : decode cL_calibrate 26 = .ok (.ireturn, 1) := by decide +kernel
theorem dL_calibrate_27 : decode cL_calibrate 27 = .ok (.iconst 0, 1) := by decide +kernel
theorem dL_calibrate_28 : decode cL_calibrate 28 = .ok (.ireturn, 1) := by decide +kernel
theorem dL_fix_0 : decode cL_fix 0 = .ok (.aload 5, 2) := by decide +kernel
theorem dL_fix_2 : decode cL_fix 2 = .ok (.iconst 0, 1) := by decide +kernel
theorem dL_fix_3 : decode cL_fix 3 = .ok (.aload_n 0, 1) := by decide +kernel
theorem dL_fix_4 : decode cL_fix 4 = .ok (.iload_n 1, 1) := by decide +kernel
theorem dL_fix_5 : decode cL_fix 5 = .ok (.iload_n 2, 1) := by decide +kernel
theorem dL_fix_6 : decode cL_fix 6 = .ok (.iload_n 3, 1) := by decide +kernel
theorem dL_fix_7 : decode cL_fix 7 = .ok (.iload 4, 2) := by decide +kernel
theorem dL_fix_9 : decode cL_fix 9 = .ok (.invokevirtual 74, 3) := by decide +kernel
theorem dL_fix_12 : decode cL_fix 12 = .ok (.i2l, 1) := by decide +kernel
theorem dL_fix_13 : decode cL_fix 13 = .ok (.lastore, 1) := by decide +kernel
theorem dL_fix_14 : decode cL_fix 14 = .ok (.goto 19, 3) := by decide +kernel
theorem dL_fix_17 : decode cL_fix 17 = .ok (.astore 6, 2) := by decide +kernel
theorem dL_fix_19 : decode cL_fix 19 = .ok (.iconst 1, 1) := by decide +kernel
theorem dL_fix_20 : decode cL_fix 20 = .ok (.ireturn, 1) := by decide +kernel
theorem dL_fix_21 : decode cL_fix 21 = .ok (.astore 6, 2) := by decide +kernel
theorem dL_fix_23 : decode cL_fix 23 = .ok (.iconst 2, 1) := by decide +kernel
theorem dL_fix_24 : decode cL_fix 24 = .ok (.ireturn, 1) := by decide +kernel
theorem dL_fix_25 : decode cL_fix 25 = .ok (.astore 6, 2) := by decide +kernel
theorem dL_fix_27 : decode cL_fix 27 = .ok (.iconst 3, 1) := by decide +kernel
theorem dL_fix_28 : decode cL_fix 28 = .ok (.ireturn, 1) := by decide +kernel
theorem dL_fix_29 : decode cL_fix 29 = .ok (.astore 6, 2) := by decide +kernel
theorem dL_fix_31 : decode cL_fix 31 = .ok (.iconst 4, 1) := by decide +kernel
theorem dL_fix_32 : decode cL_fix 32 = .ok (.ireturn, 1) := by decide +kernel
theorem dL_fix_33 : decode cL_fix 33 = .ok (.iconst 0, 1) := by decide +kernel
theorem dL_fix_34 : decode cL_fix 34 = .ok (.ireturn, 1) := by decide +kernel
theorem dL_undo_0 : decode cL_undo 0 = .ok (.aload_n 1, 1) := by decide +kernel
theorem dL_undo_1 : decode cL_undo 1 = .ok (.iconst 0, 1) := by decide +kernel
theorem dL_undo_2 : decode cL_undo 2 = .ok (.aload_n 0, 1) := by decide +kernel
theorem dL_undo_3 : decode cL_undo 3 = .ok (.invokevirtual 77, 3) := by decide +kernel
theorem dL_undo_6 : decode cL_undo 6 = .ok (.i2l, 1) := by decide +kernel
theorem dL_undo_7 : decode cL_undo 7 = .ok (.lastore, 1) := by decide +kernel
theorem dL_undo_8 : decode cL_undo 8 = .ok (.goto 6, 3) := by decide +kernel
theorem dL_undo_11 : decode cL_undo 11 = .ok (.astore_n 2, 1) := by decide +kernel
theorem dL_undo_12 : decode cL_undo 12 = .ok (.iconst 1, 1) := by decide +kernel
theorem dL_undo_13 : decode cL_undo 13 = .ok (.ireturn, 1) := by decide +kernel
theorem dL_undo_14 : decode cL_undo 14 = .ok (.iconst 0, 1) := by decide +kernel
theorem dL_undo_15 : decode cL_undo 15 = .ok (.ireturn, 1) := by decide +kernel
theorem dL_law_0 : decode cL_law 0 = .ok (.new 8, 3) := by decide +kernel
theorem dL_law_3 : decode cL_law 3 = .ok (.dup, 1) := by decide +kernel
theorem dL_law_4 : decode cL_law 4 = .ok (.invokespecial 81, 3) := by decide +kernel
theorem dL_law_7 : decode cL_law 7 = .ok (.astore_n 1, 1) := by decide +kernel
theorem dL_law_8 : decode cL_law 8 = .ok (.new 82, 3) := by decide +kernel
theorem dL_law_11 : decode cL_law 11 = .ok (.dup, 1) := by decide +kernel
theorem dL_law_12 : decode cL_law 12 = .ok (.invokespecial 84, 3) := by decide +kernel
theorem dL_law_15 : decode cL_law 15 = .ok (.astore_n 2, 1) := by decide +kernel
theorem dL_law_16 : decode cL_law 16 = .ok (.iconst 1, 1) := by decide +kernel
theorem dL_law_17 : decode cL_law 17 = .ok (.newarray .long, 2) := by decide +kernel
theorem dL_law_19 : decode cL_law 19 = .ok (.astore_n 3, 1) := by decide +kernel
theorem dL_law_20 : decode cL_law 20 = .ok (.iconst 1, 1) := by decide +kernel
theorem dL_law_21 : decode cL_law 21 = .ok (.newarray .double, 2) := by decide +kernel
theorem dL_law_23 : decode cL_law 23 = .ok (.astore 4, 2) := by decide +kernel
theorem dL_law_25 : decode cL_law 25 = .ok (.iconst 0, 1) := by decide +kernel
theorem dL_law_26 : decode cL_law 26 = .ok (.istore 5, 2) := by decide +kernel
theorem dL_law_28 : decode cL_law 28 = .ok (.iload 5, 2) := by decide +kernel
theorem dL_law_30 : decode cL_law 30 = .ok (.aload_n 0, 1) := by decide +kernel
theorem dL_law_31 : decode cL_law 31 = .ok (.arraylength, 1) := by decide +kernel
theorem dL_law_32 : decode cL_law 32 = .ok (.bipush 6, 2) := by decide +kernel
theorem dL_law_34 : decode cL_law 34 = .ok (.isub, 1) := by decide +kernel
theorem dL_law_35 : decode cL_law 35 = .ok (.if_icmp .gt 1583, 3) := by decide +kernel
theorem dL_law_38 : decode cL_law 38 = .ok (.aload_n 0, 1) := by decide +kernel
theorem dL_law_39 : decode cL_law 39 = .ok (.iload 5, 2) := by decide +kernel
theorem dL_law_41 : decode cL_law 41 = .ok (.iaload, 1) := by decide +kernel
theorem dL_law_42 : decode cL_law 42 = .ok (.bipush 31, 2) := by decide +kernel
theorem dL_law_44 : decode cL_law 44 = .ok (.iand, 1) := by decide +kernel
theorem dL_law_45 : decode cL_law 45 = .ok (.tableswitch 1567 0 22 #[107, 211, 291, 359, 415, 483, 551, 643, 747, 760, 816, 830, 843, 911, 979, 1047, 1127, 1183, 1260, 1337, 1417, 1509, 1553], 107) := by decide +kernel
theorem dL_law_152 : decode cL_law 152 = .ok (.aload_n 1, 1) := by decide +kernel
theorem dL_law_153 : decode cL_law 153 = .ok (.aload_n 0, 1) := by decide +kernel
theorem dL_law_154 : decode cL_law 154 = .ok (.iload 5, 2) := by decide +kernel
theorem dL_law_156 : decode cL_law 156 = .ok (.iconst 1, 1) := by decide +kernel
theorem dL_law_157 : decode cL_law 157 = .ok (.iadd, 1) := by decide +kernel
theorem dL_law_158 : decode cL_law 158 = .ok (.iaload, 1) := by decide +kernel
theorem dL_law_159 : decode cL_law 159 = .ok (.aload_n 0, 1) := by decide +kernel
theorem dL_law_160 : decode cL_law 160 = .ok (.iload 5, 2) := by decide +kernel
theorem dL_law_162 : decode cL_law 162 = .ok (.iconst 2, 1) := by decide +kernel
theorem dL_law_163 : decode cL_law 163 = .ok (.iadd, 1) := by decide +kernel
theorem dL_law_164 : decode cL_law 164 = .ok (.iaload, 1) := by decide +kernel
theorem dL_law_165 : decode cL_law 165 = .ok (.aload_n 0, 1) := by decide +kernel
theorem dL_law_166 : decode cL_law 166 = .ok (.iload 5, 2) := by decide +kernel
theorem dL_law_168 : decode cL_law 168 = .ok (.iconst 3, 1) := by decide +kernel
theorem dL_law_169 : decode cL_law 169 = .ok (.iadd, 1) := by decide +kernel
theorem dL_law_170 : decode cL_law 170 = .ok (.iaload, 1) := by decide +kernel
theorem dL_law_171 : decode cL_law 171 = .ok (.aload_n 0, 1) := by decide +kernel
theorem dL_law_172 : decode cL_law 172 = .ok (.iload 5, 2) := by decide +kernel
theorem dL_law_174 : decode cL_law 174 = .ok (.iconst 4, 1) := by decide +kernel
theorem dL_law_175 : decode cL_law 175 = .ok (.iadd, 1) := by decide +kernel
theorem dL_law_176 : decode cL_law 176 = .ok (.iaload, 1) := by decide +kernel
theorem dL_law_177 : decode cL_law 177 = .ok (.aload_n 0, 1) := by decide +kernel
theorem dL_law_178 : decode cL_law 178 = .ok (.iload 5, 2) := by decide +kernel
theorem dL_law_180 : decode cL_law 180 = .ok (.iconst 5, 1) := by decide +kernel
theorem dL_law_181 : decode cL_law 181 = .ok (.iadd, 1) := by decide +kernel
theorem dL_law_182 : decode cL_law 182 = .ok (.iaload, 1) := by decide +kernel
theorem dL_law_183 : decode cL_law 183 = .ok (.aload_n 3, 1) := by decide +kernel
theorem dL_law_184 : decode cL_law 184 = .ok (.invokestatic 85, 3) := by decide +kernel
theorem dL_law_187 : decode cL_law 187 = .ok (.istore 6, 2) := by decide +kernel
theorem dL_law_189 : decode cL_law 189 = .ok (.aload_n 2, 1) := by decide +kernel
theorem dL_law_190 : decode cL_law 190 = .ok (.aload_n 0, 1) := by decide +kernel
theorem dL_law_191 : decode cL_law 191 = .ok (.iload 5, 2) := by decide +kernel
theorem dL_law_193 : decode cL_law 193 = .ok (.iconst 1, 1) := by decide +kernel
theorem dL_law_194 : decode cL_law 194 = .ok (.iadd, 1) := by decide +kernel
theorem dL_law_195 : decode cL_law 195 = .ok (.iaload, 1) := by decide +kernel
theorem dL_law_196 : decode cL_law 196 = .ok (.aload_n 0, 1) := by decide +kernel
theorem dL_law_197 : decode cL_law 197 = .ok (.iload 5, 2) := by decide +kernel
theorem dL_law_199 : decode cL_law 199 = .ok (.iconst 2, 1) := by decide +kernel
theorem dL_law_200 : decode cL_law 200 = .ok (.iadd, 1) := by decide +kernel
theorem dL_law_201 : decode cL_law 201 = .ok (.iaload, 1) := by decide +kernel
theorem dL_law_202 : decode cL_law 202 = .ok (.aload_n 0, 1) := by decide +kernel
theorem dL_law_203 : decode cL_law 203 = .ok (.iload 5, 2) := by decide +kernel
theorem dL_law_205 : decode cL_law 205 = .ok (.iconst 3, 1) := by decide +kernel
theorem dL_law_206 : decode cL_law 206 = .ok (.iadd, 1) := by decide +kernel
theorem dL_law_207 : decode cL_law 207 = .ok (.iaload, 1) := by decide +kernel
theorem dL_law_208 : decode cL_law 208 = .ok (.aload_n 0, 1) := by decide +kernel
theorem dL_law_209 : decode cL_law 209 = .ok (.iload 5, 2) := by decide +kernel
theorem dL_law_211 : decode cL_law 211 = .ok (.iconst 4, 1) := by decide +kernel
theorem dL_law_212 : decode cL_law 212 = .ok (.iadd, 1) := by decide +kernel
theorem dL_law_213 : decode cL_law 213 = .ok (.iaload, 1) := by decide +kernel
theorem dL_law_214 : decode cL_law 214 = .ok (.aload_n 0, 1) := by decide +kernel
theorem dL_law_215 : decode cL_law 215 = .ok (.iload 5, 2) := by decide +kernel
theorem dL_law_217 : decode cL_law 217 = .ok (.iconst 5, 1) := by decide +kernel
theorem dL_law_218 : decode cL_law 218 = .ok (.iadd, 1) := by decide +kernel
theorem dL_law_219 : decode cL_law 219 = .ok (.iaload, 1) := by decide +kernel
theorem dL_law_220 : decode cL_law 220 = .ok (.invokevirtual 90, 3) := by decide +kernel
theorem dL_law_223 : decode cL_law 223 = .ok (.istore 7, 2) := by decide +kernel
theorem dL_law_225 : decode cL_law 225 = .ok (.aload_n 2, 1) := by decide +kernel
theorem dL_law_226 : decode cL_law 226 = .ok (.invokevirtual 91, 3) := by decide +kernel
theorem dL_law_229 : decode cL_law 229 = .ok (.iload 6, 2) := by decide +kernel
theorem dL_law_231 : decode cL_law 231 = .ok (.if_icmp .eq 5, 3) := by decide +kernel
theorem dL_law_234 : decode cL_law 234 = .ok (.iconst 0, 1) := by decide +kernel
theorem dL_law_235 : decode cL_law 235 = .ok (.ireturn, 1) := by decide +kernel
theorem dL_law_236 : decode cL_law 236 = .ok (.iload 6, 2) := by decide +kernel
theorem dL_law_238 : decode cL_law 238 = .ok (.ifCond .ne 15, 3) := by decide +kernel
theorem dL_law_241 : decode cL_law 241 = .ok (.aload_n 3, 1) := by decide +kernel
theorem dL_law_242 : decode cL_law 242 = .ok (.iconst 0, 1) := by decide +kernel
theorem dL_law_243 : decode cL_law 243 = .ok (.laload, 1) := by decide +kernel
theorem dL_law_244 : decode cL_law 244 = .ok (.iload 7, 2) := by decide +kernel
theorem dL_law_246 : decode cL_law 246 = .ok (.i2l, 1) := by decide +kernel
theorem dL_law_247 : decode cL_law 247 = .ok (.lcmp, 1) := by decide +kernel
theorem dL_law_248 : decode cL_law 248 = .ok (.ifCond .eq 5, 3) := by decide +kernel
theorem dL_law_251 : decode cL_law 251 = .ok (.iconst 0, 1) := by decide +kernel
theorem dL_law_252 : decode cL_law 252 = .ok (.ireturn, 1) := by decide +kernel
theorem dL_law_253 : decode cL_law 253 = .ok (.goto 1359, 3) := by decide +kernel
theorem dL_law_256 : decode cL_law 256 = .ok (.aload_n 1, 1) := by decide +kernel
theorem dL_law_257 : decode cL_law 257 = .ok (.aload_n 0, 1) := by decide +kernel
theorem dL_law_258 : decode cL_law 258 = .ok (.iload 5, 2) := by decide +kernel
theorem dL_law_260 : decode cL_law 260 = .ok (.iconst 1, 1) := by decide +kernel
theorem dL_law_261 : decode cL_law 261 = .ok (.iadd, 1) := by decide +kernel
theorem dL_law_262 : decode cL_law 262 = .ok (.iaload, 1) := by decide +kernel
theorem dL_law_263 : decode cL_law 263 = .ok (.aload_n 0, 1) := by decide +kernel
theorem dL_law_264 : decode cL_law 264 = .ok (.iload 5, 2) := by decide +kernel
theorem dL_law_266 : decode cL_law 266 = .ok (.iconst 2, 1) := by decide +kernel
theorem dL_law_267 : decode cL_law 267 = .ok (.iadd, 1) := by decide +kernel
theorem dL_law_268 : decode cL_law 268 = .ok (.iaload, 1) := by decide +kernel
theorem dL_law_269 : decode cL_law 269 = .ok (.aload_n 0, 1) := by decide +kernel
theorem dL_law_270 : decode cL_law 270 = .ok (.iload 5, 2) := by decide +kernel
theorem dL_law_272 : decode cL_law 272 = .ok (.iconst 3, 1) := by decide +kernel
theorem dL_law_273 : decode cL_law 273 = .ok (.iadd, 1) := by decide +kernel
theorem dL_law_274 : decode cL_law 274 = .ok (.iaload, 1) := by decide +kernel
theorem dL_law_275 : decode cL_law 275 = .ok (.aload_n 3, 1) := by decide +kernel
theorem dL_law_276 : decode cL_law 276 = .ok (.invokestatic 94, 3) := by decide +kernel
theorem dL_law_279 : decode cL_law 279 = .ok (.istore 6, 2) := by decide +kernel
theorem dL_law_281 : decode cL_law 281 = .ok (.aload_n 2, 1) := by decide +kernel
theorem dL_law_282 : decode cL_law 282 = .ok (.aload_n 0, 1) := by decide +kernel
theorem dL_law_283 : decode cL_law 283 = .ok (.iload 5, 2) := by decide +kernel
theorem dL_law_285 : decode cL_law 285 = .ok (.iconst 1, 1) := by decide +kernel
theorem dL_law_286 : decode cL_law 286 = .ok (.iadd, 1) := by decide +kernel
theorem dL_law_287 : decode cL_law 287 = .ok (.iaload, 1) := by decide +kernel
theorem dL_law_288 : decode cL_law 288 = .ok (.aload_n 0, 1) := by decide +kernel
theorem dL_law_289 : decode cL_law 289 = .ok (.iload 5, 2) := by decide +kernel
theorem dL_law_291 : decode cL_law 291 = .ok (.iconst 2, 1) := by decide +kernel
theorem dL_law_292 : decode cL_law 292 = .ok (.iadd, 1) := by decide +kernel
theorem dL_law_293 : decode cL_law 293 = .ok (.iaload, 1) := by decide +kernel
theorem dL_law_294 : decode cL_law 294 = .ok (.aload_n 0, 1) := by decide +kernel
theorem dL_law_295 : decode cL_law 295 = .ok (.iload 5, 2) := by decide +kernel
theorem dL_law_297 : decode cL_law 297 = .ok (.iconst 3, 1) := by decide +kernel
theorem dL_law_298 : decode cL_law 298 = .ok (.iadd, 1) := by decide +kernel
theorem dL_law_299 : decode cL_law 299 = .ok (.iaload, 1) := by decide +kernel
theorem dL_law_300 : decode cL_law 300 = .ok (.invokevirtual 97, 3) := by decide +kernel
theorem dL_law_303 : decode cL_law 303 = .ok (.istore 7, 2) := by decide +kernel
theorem dL_law_305 : decode cL_law 305 = .ok (.aload_n 2, 1) := by decide +kernel
theorem dL_law_306 : decode cL_law 306 = .ok (.invokevirtual 91, 3) := by decide +kernel
theorem dL_law_309 : decode cL_law 309 = .ok (.iload 6, 2) := by decide +kernel
theorem dL_law_311 : decode cL_law 311 = .ok (.if_icmp .eq 5, 3) := by decide +kernel
theorem dL_law_314 : decode cL_law 314 = .ok (.iconst 0, 1) := by decide +kernel
theorem dL_law_315 : decode cL_law 315 = .ok (.ireturn, 1) := by decide +kernel
theorem dL_law_316 : decode cL_law 316 = .ok (.iload 6, 2) := by decide +kernel
theorem dL_law_318 : decode cL_law 318 = .ok (.ifCond .ne 15, 3) := by decide +kernel
theorem dL_law_321 : decode cL_law 321 = .ok (.aload_n 3, 1) := by decide +kernel
theorem dL_law_322 : decode cL_law 322 = .ok (.iconst 0, 1) := by decide +kernel
theorem dL_law_323 : decode cL_law 323 = .ok (.laload, 1) := by decide +kernel
theorem dL_law_324 : decode cL_law 324 = .ok (.iload 7, 2) := by decide +kernel
theorem dL_law_326 : decode cL_law 326 = .ok (.i2l, 1) := by decide +kernel
theorem dL_law_327 : decode cL_law 327 = .ok (.lcmp, 1) := by decide +kernel
theorem dL_law_328 : decode cL_law 328 = .ok (.ifCond .eq 5, 3) := by decide +kernel
theorem dL_law_331 : decode cL_law 331 = .ok (.iconst 0, 1) := by decide +kernel
theorem dL_law_332 : decode cL_law 332 = .ok (.ireturn, 1) := by decide +kernel
theorem dL_law_333 : decode cL_law 333 = .ok (.goto 1279, 3) := by decide +kernel
theorem dL_law_336 : decode cL_law 336 = .ok (.aload_n 1, 1) := by decide +kernel
theorem dL_law_337 : decode cL_law 337 = .ok (.aload_n 0, 1) := by decide +kernel
theorem dL_law_338 : decode cL_law 338 = .ok (.iload 5, 2) := by decide +kernel
theorem dL_law_340 : decode cL_law 340 = .ok (.iconst 1, 1) := by decide +kernel
theorem dL_law_341 : decode cL_law 341 = .ok (.iadd, 1) := by decide +kernel
theorem dL_law_342 : decode cL_law 342 = .ok (.iaload, 1) := by decide +kernel
theorem dL_law_343 : decode cL_law 343 = .ok (.aload_n 0, 1) := by decide +kernel
theorem dL_law_344 : decode cL_law 344 = .ok (.iload 5, 2) := by decide +kernel
theorem dL_law_346 : decode cL_law 346 = .ok (.iconst 2, 1) := by decide +kernel
theorem dL_law_347 : decode cL_law 347 = .ok (.iadd, 1) := by decide +kernel
theorem dL_law_348 : decode cL_law 348 = .ok (.iaload, 1) := by decide +kernel
theorem dL_law_349 : decode cL_law 349 = .ok (.aload_n 3, 1) := by decide +kernel
theorem dL_law_350 : decode cL_law 350 = .ok (.invokestatic 98, 3) := by decide +kernel
theorem dL_law_353 : decode cL_law 353 = .ok (.istore 6, 2) := by decide +kernel
theorem dL_law_355 : decode cL_law 355 = .ok (.aload_n 2, 1) := by decide +kernel
theorem dL_law_356 : decode cL_law 356 = .ok (.aload_n 0, 1) := by decide +kernel
theorem dL_law_357 : decode cL_law 357 = .ok (.iload 5, 2) := by decide +kernel
theorem dL_law_359 : decode cL_law 359 = .ok (.iconst 1, 1) := by decide +kernel
theorem dL_law_360 : decode cL_law 360 = .ok (.iadd, 1) := by decide +kernel
theorem dL_law_361 : decode cL_law 361 = .ok (.iaload, 1) := by decide +kernel
theorem dL_law_362 : decode cL_law 362 = .ok (.aload_n 0, 1) := by decide +kernel
theorem dL_law_363 : decode cL_law 363 = .ok (.iload 5, 2) := by decide +kernel
theorem dL_law_365 : decode cL_law 365 = .ok (.iconst 2, 1) := by decide +kernel
theorem dL_law_366 : decode cL_law 366 = .ok (.iadd, 1) := by decide +kernel
theorem dL_law_367 : decode cL_law 367 = .ok (.iaload, 1) := by decide +kernel
theorem dL_law_368 : decode cL_law 368 = .ok (.invokevirtual 101, 3) := by decide +kernel
theorem dL_law_371 : decode cL_law 371 = .ok (.istore 7, 2) := by decide +kernel
theorem dL_law_373 : decode cL_law 373 = .ok (.aload_n 2, 1) := by decide +kernel
theorem dL_law_374 : decode cL_law 374 = .ok (.invokevirtual 91, 3) := by decide +kernel
theorem dL_law_377 : decode cL_law 377 = .ok (.iload 6, 2) := by decide +kernel
theorem dL_law_379 : decode cL_law 379 = .ok (.if_icmp .eq 5, 3) := by decide +kernel
theorem dL_law_382 : decode cL_law 382 = .ok (.iconst 0, 1) := by decide +kernel
theorem dL_law_383 : decode cL_law 383 = .ok (.ireturn, 1) := by decide +kernel
theorem dL_law_384 : decode cL_law 384 = .ok (.iload 6, 2) := by decide +kernel
theorem dL_law_386 : decode cL_law 386 = .ok (.ifCond .ne 15, 3) := by decide +kernel
theorem dL_law_389 : decode cL_law 389 = .ok (.aload_n 3, 1) := by decide +kernel
theorem dL_law_390 : decode cL_law 390 = .ok (.iconst 0, 1) := by decide +kernel
theorem dL_law_391 : decode cL_law 391 = .ok (.laload, 1) := by decide +kernel
theorem dL_law_392 : decode cL_law 392 = .ok (.iload 7, 2) := by decide +kernel
theorem dL_law_394 : decode cL_law 394 = .ok (.i2l, 1) := by decide +kernel
theorem dL_law_395 : decode cL_law 395 = .ok (.lcmp, 1) := by decide +kernel
theorem dL_law_396 : decode cL_law 396 = .ok (.ifCond .eq 5, 3) := by decide +kernel
theorem dL_law_399 : decode cL_law 399 = .ok (.iconst 0, 1) := by decide +kernel
theorem dL_law_400 : decode cL_law 400 = .ok (.ireturn, 1) := by decide +kernel
theorem dL_law_401 : decode cL_law 401 = .ok (.goto 1211, 3) := by decide +kernel
theorem dL_law_404 : decode cL_law 404 = .ok (.aload_n 1, 1) := by decide +kernel
theorem dL_law_405 : decode cL_law 405 = .ok (.aload_n 0, 1) := by decide +kernel
theorem dL_law_406 : decode cL_law 406 = .ok (.iload 5, 2) := by decide +kernel
theorem dL_law_408 : decode cL_law 408 = .ok (.iconst 1, 1) := by decide +kernel
theorem dL_law_409 : decode cL_law 409 = .ok (.iadd, 1) := by decide +kernel
theorem dL_law_410 : decode cL_law 410 = .ok (.iaload, 1) := by decide +kernel
theorem dL_law_411 : decode cL_law 411 = .ok (.aload_n 3, 1) := by decide +kernel
theorem dL_law_412 : decode cL_law 412 = .ok (.invokestatic 102, 3) := by decide +kernel
theorem dL_law_415 : decode cL_law 415 = .ok (.istore 6, 2) := by decide +kernel
theorem dL_law_417 : decode cL_law 417 = .ok (.aload_n 2, 1) := by decide +kernel
theorem dL_law_418 : decode cL_law 418 = .ok (.aload_n 0, 1) := by decide +kernel
theorem dL_law_419 : decode cL_law 419 = .ok (.iload 5, 2) := by decide +kernel
theorem dL_law_421 : decode cL_law 421 = .ok (.iconst 1, 1) := by decide +kernel
theorem dL_law_422 : decode cL_law 422 = .ok (.iadd, 1) := by decide +kernel
theorem dL_law_423 : decode cL_law 423 = .ok (.iaload, 1) := by decide +kernel
theorem dL_law_424 : decode cL_law 424 = .ok (.invokevirtual 105, 3) := by decide +kernel
theorem dL_law_427 : decode cL_law 427 = .ok (.istore 7, 2) := by decide +kernel
theorem dL_law_429 : decode cL_law 429 = .ok (.aload_n 2, 1) := by decide +kernel
theorem dL_law_430 : decode cL_law 430 = .ok (.invokevirtual 91, 3) := by decide +kernel
theorem dL_law_433 : decode cL_law 433 = .ok (.iload 6, 2) := by decide +kernel
theorem dL_law_435 : decode cL_law 435 = .ok (.if_icmp .eq 5, 3) := by decide +kernel
theorem dL_law_438 : decode cL_law 438 = .ok (.iconst 0, 1) := by decide +kernel
theorem dL_law_439 : decode cL_law 439 = .ok (.ireturn, 1) := by decide +kernel
theorem dL_law_440 : decode cL_law 440 = .ok (.iload 6, 2) := by decide +kernel
theorem dL_law_442 : decode cL_law 442 = .ok (.ifCond .ne 15, 3) := by decide +kernel
theorem dL_law_445 : decode cL_law 445 = .ok (.aload_n 3, 1) := by decide +kernel
theorem dL_law_446 : decode cL_law 446 = .ok (.iconst 0, 1) := by decide +kernel
theorem dL_law_447 : decode cL_law 447 = .ok (.laload, 1) := by decide +kernel
theorem dL_law_448 : decode cL_law 448 = .ok (.iload 7, 2) := by decide +kernel
theorem dL_law_450 : decode cL_law 450 = .ok (.i2l, 1) := by decide +kernel
theorem dL_law_451 : decode cL_law 451 = .ok (.lcmp, 1) := by decide +kernel
theorem dL_law_452 : decode cL_law 452 = .ok (.ifCond .eq 5, 3) := by decide +kernel
theorem dL_law_455 : decode cL_law 455 = .ok (.iconst 0, 1) := by decide +kernel
theorem dL_law_456 : decode cL_law 456 = .ok (.ireturn, 1) := by decide +kernel
theorem dL_law_457 : decode cL_law 457 = .ok (.goto 1155, 3) := by decide +kernel
theorem dL_law_460 : decode cL_law 460 = .ok (.aload_n 1, 1) := by decide +kernel
theorem dL_law_461 : decode cL_law 461 = .ok (.aload_n 0, 1) := by decide +kernel
theorem dL_law_462 : decode cL_law 462 = .ok (.iload 5, 2) := by decide +kernel
theorem dL_law_464 : decode cL_law 464 = .ok (.iconst 1, 1) := by decide +kernel
theorem dL_law_465 : decode cL_law 465 = .ok (.iadd, 1) := by decide +kernel
theorem dL_law_466 : decode cL_law 466 = .ok (.iaload, 1) := by decide +kernel
theorem dL_law_467 : decode cL_law 467 = .ok (.aload_n 0, 1) := by decide +kernel
theorem dL_law_468 : decode cL_law 468 = .ok (.iload 5, 2) := by decide +kernel
theorem dL_law_470 : decode cL_law 470 = .ok (.iconst 2, 1) := by decide +kernel
theorem dL_law_471 : decode cL_law 471 = .ok (.iadd, 1) := by decide +kernel
theorem dL_law_472 : decode cL_law 472 = .ok (.iaload, 1) := by decide +kernel
theorem dL_law_473 : decode cL_law 473 = .ok (.aload_n 3, 1) := by decide +kernel
theorem dL_law_474 : decode cL_law 474 = .ok (.invokestatic 106, 3) := by decide +kernel
theorem dL_law_477 : decode cL_law 477 = .ok (.istore 6, 2) := by decide +kernel
theorem dL_law_479 : decode cL_law 479 = .ok (.aload_n 2, 1) := by decide +kernel
theorem dL_law_480 : decode cL_law 480 = .ok (.aload_n 0, 1) := by decide +kernel
theorem dL_law_481 : decode cL_law 481 = .ok (.iload 5, 2) := by decide +kernel
theorem dL_law_483 : decode cL_law 483 = .ok (.iconst 1, 1) := by decide +kernel
theorem dL_law_484 : decode cL_law 484 = .ok (.iadd, 1) := by decide +kernel
theorem dL_law_485 : decode cL_law 485 = .ok (.iaload, 1) := by decide +kernel
theorem dL_law_486 : decode cL_law 486 = .ok (.aload_n 0, 1) := by decide +kernel
theorem dL_law_487 : decode cL_law 487 = .ok (.iload 5, 2) := by decide +kernel
theorem dL_law_489 : decode cL_law 489 = .ok (.iconst 2, 1) := by decide +kernel
theorem dL_law_490 : decode cL_law 490 = .ok (.iadd, 1) := by decide +kernel
theorem dL_law_491 : decode cL_law 491 = .ok (.iaload, 1) := by decide +kernel
theorem dL_law_492 : decode cL_law 492 = .ok (.invokevirtual 108, 3) := by decide +kernel
theorem dL_law_495 : decode cL_law 495 = .ok (.istore 7, 2) := by decide +kernel
theorem dL_law_497 : decode cL_law 497 = .ok (.aload_n 2, 1) := by decide +kernel
theorem dL_law_498 : decode cL_law 498 = .ok (.invokevirtual 91, 3) := by decide +kernel
theorem dL_law_501 : decode cL_law 501 = .ok (.iload 6, 2) := by decide +kernel
theorem dL_law_503 : decode cL_law 503 = .ok (.if_icmp .eq 5, 3) := by decide +kernel
theorem dL_law_506 : decode cL_law 506 = .ok (.iconst 0, 1) := by decide +kernel
theorem dL_law_507 : decode cL_law 507 = .ok (.ireturn, 1) := by decide +kernel
theorem dL_law_508 : decode cL_law 508 = .ok (.iload 6, 2) := by decide +kernel
theorem dL_law_510 : decode cL_law 510 = .ok (.ifCond .ne 15, 3) := by decide +kernel
theorem dL_law_513 : decode cL_law 513 = .ok (.aload_n 3, 1) := by decide +kernel
theorem dL_law_514 : decode cL_law 514 = .ok (.iconst 0, 1) := by decide +kernel
theorem dL_law_515 : decode cL_law 515 = .ok (.laload, 1) := by decide +kernel
theorem dL_law_516 : decode cL_law 516 = .ok (.iload 7, 2) := by decide +kernel
theorem dL_law_518 : decode cL_law 518 = .ok (.i2l, 1) := by decide +kernel
theorem dL_law_519 : decode cL_law 519 = .ok (.lcmp, 1) := by decide +kernel
theorem dL_law_520 : decode cL_law 520 = .ok (.ifCond .eq 5, 3) := by decide +kernel
theorem dL_law_523 : decode cL_law 523 = .ok (.iconst 0, 1) := by decide +kernel
theorem dL_law_524 : decode cL_law 524 = .ok (.ireturn, 1) := by decide +kernel
theorem dL_law_525 : decode cL_law 525 = .ok (.goto 1087, 3) := by decide +kernel
theorem dL_law_528 : decode cL_law 528 = .ok (.aload_n 1, 1) := by decide +kernel
theorem dL_law_529 : decode cL_law 529 = .ok (.aload_n 0, 1) := by decide +kernel
theorem dL_law_530 : decode cL_law 530 = .ok (.iload 5, 2) := by decide +kernel
theorem dL_law_532 : decode cL_law 532 = .ok (.iconst 1, 1) := by decide +kernel
theorem dL_law_533 : decode cL_law 533 = .ok (.iadd, 1) := by decide +kernel
theorem dL_law_534 : decode cL_law 534 = .ok (.iaload, 1) := by decide +kernel
theorem dL_law_535 : decode cL_law 535 = .ok (.aload_n 0, 1) := by decide +kernel
theorem dL_law_536 : decode cL_law 536 = .ok (.iload 5, 2) := by decide +kernel
theorem dL_law_538 : decode cL_law 538 = .ok (.iconst 2, 1) := by decide +kernel
theorem dL_law_539 : decode cL_law 539 = .ok (.iadd, 1) := by decide +kernel
theorem dL_law_540 : decode cL_law 540 = .ok (.iaload, 1) := by decide +kernel
theorem dL_law_541 : decode cL_law 541 = .ok (.aload_n 3, 1) := by decide +kernel
theorem dL_law_542 : decode cL_law 542 = .ok (.invokestatic 109, 3) := by decide +kernel
theorem dL_law_545 : decode cL_law 545 = .ok (.istore 6, 2) := by decide +kernel
theorem dL_law_547 : decode cL_law 547 = .ok (.aload_n 2, 1) := by decide +kernel
theorem dL_law_548 : decode cL_law 548 = .ok (.aload_n 0, 1) := by decide +kernel
theorem dL_law_549 : decode cL_law 549 = .ok (.iload 5, 2) := by decide +kernel
theorem dL_law_551 : decode cL_law 551 = .ok (.iconst 1, 1) := by decide +kernel
theorem dL_law_552 : decode cL_law 552 = .ok (.iadd, 1) := by decide +kernel
theorem dL_law_553 : decode cL_law 553 = .ok (.iaload, 1) := by decide +kernel
theorem dL_law_554 : decode cL_law 554 = .ok (.aload_n 0, 1) := by decide +kernel
theorem dL_law_555 : decode cL_law 555 = .ok (.iload 5, 2) := by decide +kernel
theorem dL_law_557 : decode cL_law 557 = .ok (.iconst 2, 1) := by decide +kernel
theorem dL_law_558 : decode cL_law 558 = .ok (.iadd, 1) := by decide +kernel
theorem dL_law_559 : decode cL_law 559 = .ok (.iaload, 1) := by decide +kernel
theorem dL_law_560 : decode cL_law 560 = .ok (.invokevirtual 111, 3) := by decide +kernel
theorem dL_law_563 : decode cL_law 563 = .ok (.istore 7, 2) := by decide +kernel
theorem dL_law_565 : decode cL_law 565 = .ok (.aload_n 2, 1) := by decide +kernel
theorem dL_law_566 : decode cL_law 566 = .ok (.invokevirtual 91, 3) := by decide +kernel
theorem dL_law_569 : decode cL_law 569 = .ok (.iload 6, 2) := by decide +kernel
theorem dL_law_571 : decode cL_law 571 = .ok (.if_icmp .eq 5, 3) := by decide +kernel
theorem dL_law_574 : decode cL_law 574 = .ok (.iconst 0, 1) := by decide +kernel
theorem dL_law_575 : decode cL_law 575 = .ok (.ireturn, 1) := by decide +kernel
theorem dL_law_576 : decode cL_law 576 = .ok (.iload 6, 2) := by decide +kernel
theorem dL_law_578 : decode cL_law 578 = .ok (.ifCond .ne 15, 3) := by decide +kernel
theorem dL_law_581 : decode cL_law 581 = .ok (.aload_n 3, 1) := by decide +kernel
theorem dL_law_582 : decode cL_law 582 = .ok (.iconst 0, 1) := by decide +kernel
theorem dL_law_583 : decode cL_law 583 = .ok (.laload, 1) := by decide +kernel
theorem dL_law_584 : decode cL_law 584 = .ok (.iload 7, 2) := by decide +kernel
theorem dL_law_586 : decode cL_law 586 = .ok (.i2l, 1) := by decide +kernel
theorem dL_law_587 : decode cL_law 587 = .ok (.lcmp, 1) := by decide +kernel
theorem dL_law_588 : decode cL_law 588 = .ok (.ifCond .eq 5, 3) := by decide +kernel
theorem dL_law_591 : decode cL_law 591 = .ok (.iconst 0, 1) := by decide +kernel
theorem dL_law_592 : decode cL_law 592 = .ok (.ireturn, 1) := by decide +kernel
theorem dL_law_593 : decode cL_law 593 = .ok (.goto 1019, 3) := by decide +kernel
theorem dL_law_596 : decode cL_law 596 = .ok (.aload_n 1, 1) := by decide +kernel
theorem dL_law_597 : decode cL_law 597 = .ok (.aload_n 0, 1) := by decide +kernel
end
section
theorem dL_law_598 : decode cL_law 598 = .ok (.iload 5, 2) := by decide +kernel
theorem dL_law_600 : decode cL_law 600 = .ok (.iconst 1, 1) := by decide +kernel
theorem dL_law_601 : decode cL_law 601 = .ok (.iadd, 1) := by decide +kernel
theorem dL_law_602 : decode cL_law 602 = .ok (.iaload, 1) := by decide +kernel
theorem dL_law_603 : decode cL_law 603 = .ok (.aload_n 0, 1) := by decide +kernel
theorem dL_law_604 : decode cL_law 604 = .ok (.iload 5, 2) := by decide +kernel
theorem dL_law_606 : decode cL_law 606 = .ok (.iconst 2, 1) := by decide +kernel
theorem dL_law_607 : decode cL_law 607 = .ok (.iadd, 1) := by decide +kernel
theorem dL_law_608 : decode cL_law 608 = .ok (.iaload, 1) := by decide +kernel
theorem dL_law_609 : decode cL_law 609 = .ok (.aload_n 0, 1) := by decide +kernel
theorem dL_law_610 : decode cL_law 610 = .ok (.iload 5, 2) := by decide +kernel
theorem dL_law_612 : decode cL_law 612 = .ok (.iconst 3, 1) := by decide +kernel
theorem dL_law_613 : decode cL_law 613 = .ok (.iadd, 1) := by decide +kernel
theorem dL_law_614 : decode cL_law 614 = .ok (.iaload, 1) := by decide +kernel
theorem dL_law_615 : decode cL_law 615 = .ok (.aload_n 0, 1) := by decide +kernel
theorem dL_law_616 : decode cL_law 616 = .ok (.iload 5, 2) := by decide +kernel
theorem dL_law_618 : decode cL_law 618 = .ok (.iconst 4, 1) := by decide +kernel
theorem dL_law_619 : decode cL_law 619 = .ok (.iadd, 1) := by decide +kernel
theorem dL_law_620 : decode cL_law 620 = .ok (.iaload, 1) := by decide +kernel
theorem dL_law_621 : decode cL_law 621 = .ok (.aload_n 3, 1) := by decide +kernel
theorem dL_law_622 : decode cL_law 622 = .ok (.invokestatic 112, 3) := by decide +kernel
theorem dL_law_625 : decode cL_law 625 = .ok (.istore 6, 2) := by decide +kernel
theorem dL_law_627 : decode cL_law 627 = .ok (.aload_n 2, 1) := by decide +kernel
theorem dL_law_628 : decode cL_law 628 = .ok (.aload_n 0, 1) := by decide +kernel
theorem dL_law_629 : decode cL_law 629 = .ok (.iload 5, 2) := by decide +kernel
theorem dL_law_631 : decode cL_law 631 = .ok (.iconst 1, 1) := by decide +kernel
theorem dL_law_632 : decode cL_law 632 = .ok (.iadd, 1) := by decide +kernel
theorem dL_law_633 : decode cL_law 633 = .ok (.iaload, 1) := by decide +kernel
theorem dL_law_634 : decode cL_law 634 = .ok (.aload_n 0, 1) := by decide +kernel
theorem dL_law_635 : decode cL_law 635 = .ok (.iload 5, 2) := by decide +kernel
theorem dL_law_637 : decode cL_law 637 = .ok (.iconst 2, 1) := by decide +kernel
theorem dL_law_638 : decode cL_law 638 = .ok (.iadd, 1) := by decide +kernel
theorem dL_law_639 : decode cL_law 639 = .ok (.iaload, 1) := by decide +kernel
theorem dL_law_640 : decode cL_law 640 = .ok (.aload_n 0, 1) := by decide +kernel
theorem dL_law_641 : decode cL_law 641 = .ok (.iload 5, 2) := by decide +kernel
theorem dL_law_643 : decode cL_law 643 = .ok (.iconst 3, 1) := by decide +kernel
theorem dL_law_644 : decode cL_law 644 = .ok (.iadd, 1) := by decide +kernel
theorem dL_law_645 : decode cL_law 645 = .ok (.iaload, 1) := by decide +kernel
theorem dL_law_646 : decode cL_law 646 = .ok (.aload_n 0, 1) := by decide +kernel
theorem dL_law_647 : decode cL_law 647 = .ok (.iload 5, 2) := by decide +kernel
theorem dL_law_649 : decode cL_law 649 = .ok (.iconst 4, 1) := by decide +kernel
theorem dL_law_650 : decode cL_law 650 = .ok (.iadd, 1) := by decide +kernel
theorem dL_law_651 : decode cL_law 651 = .ok (.iaload, 1) := by decide +kernel
theorem dL_law_652 : decode cL_law 652 = .ok (.invokevirtual 115, 3) := by decide +kernel
theorem dL_law_655 : decode cL_law 655 = .ok (.istore 7, 2) := by decide +kernel
theorem dL_law_657 : decode cL_law 657 = .ok (.aload_n 2, 1) := by decide +kernel
theorem dL_law_658 : decode cL_law 658 = .ok (.invokevirtual 91, 3) := by decide +kernel
theorem dL_law_661 : decode cL_law 661 = .ok (.iload 6, 2) := by decide +kernel
theorem dL_law_663 : decode cL_law 663 = .ok (.if_icmp .eq 5, 3) := by decide +kernel
theorem dL_law_666 : decode cL_law 666 = .ok (.iconst 0, 1) := by decide +kernel
theorem dL_law_667 : decode cL_law 667 = .ok (.ireturn, 1) := by decide +kernel
theorem dL_law_668 : decode cL_law 668 = .ok (.iload 6, 2) := by decide +kernel
theorem dL_law_670 : decode cL_law 670 = .ok (.ifCond .ne 15, 3) := by decide +kernel
theorem dL_law_673 : decode cL_law 673 = .ok (.aload_n 3, 1) := by decide +kernel
theorem dL_law_674 : decode cL_law 674 = .ok (.iconst 0, 1) := by decide +kernel
theorem dL_law_675 : decode cL_law 675 = .ok (.laload, 1) := by decide +kernel
theorem dL_law_676 : decode cL_law 676 = .ok (.iload 7, 2) := by decide +kernel
theorem dL_law_678 : decode cL_law 678 = .ok (.i2l, 1) := by decide +kernel
theorem dL_law_679 : decode cL_law 679 = .ok (.lcmp, 1) := by decide +kernel
theorem dL_law_680 : decode cL_law 680 = .ok (.ifCond .eq 5, 3) := by decide +kernel
theorem dL_law_683 : decode cL_law 683 = .ok (.iconst 0, 1) := by decide +kernel
theorem dL_law_684 : decode cL_law 684 = .ok (.ireturn, 1) := by decide +kernel
theorem dL_law_685 : decode cL_law 685 = .ok (.goto 927, 3) := by decide +kernel
theorem dL_law_688 : decode cL_law 688 = .ok (.aload_n 1, 1) := by decide +kernel
theorem dL_law_689 : decode cL_law 689 = .ok (.aload_n 0, 1) := by decide +kernel
theorem dL_law_690 : decode cL_law 690 = .ok (.iload 5, 2) := by decide +kernel
theorem dL_law_692 : decode cL_law 692 = .ok (.iconst 1, 1) := by decide +kernel
theorem dL_law_693 : decode cL_law 693 = .ok (.iadd, 1) := by decide +kernel
theorem dL_law_694 : decode cL_law 694 = .ok (.iaload, 1) := by decide +kernel
theorem dL_law_695 : decode cL_law 695 = .ok (.aload_n 0, 1) := by decide +kernel
theorem dL_law_696 : decode cL_law 696 = .ok (.iload 5, 2) := by decide +kernel
theorem dL_law_698 : decode cL_law 698 = .ok (.iconst 2, 1) := by decide +kernel
theorem dL_law_699 : decode cL_law 699 = .ok (.iadd, 1) := by decide +kernel
theorem dL_law_700 : decode cL_law 700 = .ok (.iaload, 1) := by decide +kernel
theorem dL_law_701 : decode cL_law 701 = .ok (.aload_n 0, 1) := by decide +kernel
theorem dL_law_702 : decode cL_law 702 = .ok (.iload 5, 2) := by decide +kernel
theorem dL_law_704 : decode cL_law 704 = .ok (.iconst 3, 1) := by decide +kernel
theorem dL_law_705 : decode cL_law 705 = .ok (.iadd, 1) := by decide +kernel
theorem dL_law_706 : decode cL_law 706 = .ok (.iaload, 1) := by decide +kernel
theorem dL_law_707 : decode cL_law 707 = .ok (.aload_n 0, 1) := by decide +kernel
theorem dL_law_708 : decode cL_law 708 = .ok (.iload 5, 2) := by decide +kernel
theorem dL_law_710 : decode cL_law 710 = .ok (.iconst 4, 1) := by decide +kernel
theorem dL_law_711 : decode cL_law 711 = .ok (.iadd, 1) := by decide +kernel
theorem dL_law_712 : decode cL_law 712 = .ok (.iaload, 1) := by decide +kernel
theorem dL_law_713 : decode cL_law 713 = .ok (.aload_n 0, 1) := by decide +kernel
theorem dL_law_714 : decode cL_law 714 = .ok (.iload 5, 2) := by decide +kernel
theorem dL_law_716 : decode cL_law 716 = .ok (.iconst 5, 1) := by decide +kernel
theorem dL_law_717 : decode cL_law 717 = .ok (.iadd, 1) := by decide +kernel
theorem dL_law_718 : decode cL_law 718 = .ok (.iaload, 1) := by decide +kernel
theorem dL_law_719 : decode cL_law 719 = .ok (.aload_n 3, 1) := by decide +kernel
theorem dL_law_720 : decode cL_law 720 = .ok (.invokestatic 116, 3) := by decide +kernel
theorem dL_law_723 : decode cL_law 723 = .ok (.istore 6, 2) := by decide +kernel
theorem dL_law_725 : decode cL_law 725 = .ok (.aload_n 2, 1) := by decide +kernel
theorem dL_law_726 : decode cL_law 726 = .ok (.aload_n 0, 1) := by decide +kernel
theorem dL_law_727 : decode cL_law 727 = .ok (.iload 5, 2) := by decide +kernel
theorem dL_law_729 : decode cL_law 729 = .ok (.iconst 1, 1) := by decide +kernel
theorem dL_law_730 : decode cL_law 730 = .ok (.iadd, 1) := by decide +kernel
theorem dL_law_731 : decode cL_law 731 = .ok (.iaload, 1) := by decide +kernel
theorem dL_law_732 : decode cL_law 732 = .ok (.aload_n 0, 1) := by decide +kernel
theorem dL_law_733 : decode cL_law 733 = .ok (.iload 5, 2) := by decide +kernel
theorem dL_law_735 : decode cL_law 735 = .ok (.iconst 2, 1) := by decide +kernel
theorem dL_law_736 : decode cL_law 736 = .ok (.iadd, 1) := by decide +kernel
theorem dL_law_737 : decode cL_law 737 = .ok (.iaload, 1) := by decide +kernel
theorem dL_law_738 : decode cL_law 738 = .ok (.aload_n 0, 1) := by decide +kernel
theorem dL_law_739 : decode cL_law 739 = .ok (.iload 5, 2) := by decide +kernel
theorem dL_law_741 : decode cL_law 741 = .ok (.iconst 3, 1) := by decide +kernel
theorem dL_law_742 : decode cL_law 742 = .ok (.iadd, 1) := by decide +kernel
theorem dL_law_743 : decode cL_law 743 = .ok (.iaload, 1) := by decide +kernel
theorem dL_law_744 : decode cL_law 744 = .ok (.aload_n 0, 1) := by decide +kernel
theorem dL_law_745 : decode cL_law 745 = .ok (.iload 5, 2) := by decide +kernel
theorem dL_law_747 : decode cL_law 747 = .ok (.iconst 4, 1) := by decide +kernel
theorem dL_law_748 : decode cL_law 748 = .ok (.iadd, 1) := by decide +kernel
theorem dL_law_749 : decode cL_law 749 = .ok (.iaload, 1) := by decide +kernel
theorem dL_law_750 : decode cL_law 750 = .ok (.aload_n 0, 1) := by decide +kernel
theorem dL_law_751 : decode cL_law 751 = .ok (.iload 5, 2) := by decide +kernel
theorem dL_law_753 : decode cL_law 753 = .ok (.iconst 5, 1) := by decide +kernel
theorem dL_law_754 : decode cL_law 754 = .ok (.iadd, 1) := by decide +kernel
theorem dL_law_755 : decode cL_law 755 = .ok (.iaload, 1) := by decide +kernel
theorem dL_law_756 : decode cL_law 756 = .ok (.invokevirtual 118, 3) := by decide +kernel
theorem dL_law_759 : decode cL_law 759 = .ok (.istore 7, 2) := by decide +kernel
theorem dL_law_761 : decode cL_law 761 = .ok (.aload_n 2, 1) := by decide +kernel
theorem dL_law_762 : decode cL_law 762 = .ok (.invokevirtual 91, 3) := by decide +kernel
theorem dL_law_765 : decode cL_law 765 = .ok (.iload 6, 2) := by decide +kernel
theorem dL_law_767 : decode cL_law 767 = .ok (.if_icmp .eq 5, 3) := by decide +kernel
theorem dL_law_770 : decode cL_law 770 = .ok (.iconst 0, 1) := by decide +kernel
theorem dL_law_771 : decode cL_law 771 = .ok (.ireturn, 1) := by decide +kernel
theorem dL_law_772 : decode cL_law 772 = .ok (.iload 6, 2) := by decide +kernel
theorem dL_law_774 : decode cL_law 774 = .ok (.ifCond .ne 15, 3) := by decide +kernel
theorem dL_law_777 : decode cL_law 777 = .ok (.aload_n 3, 1) := by decide +kernel
theorem dL_law_778 : decode cL_law 778 = .ok (.iconst 0, 1) := by decide +kernel
theorem dL_law_779 : decode cL_law 779 = .ok (.laload, 1) := by decide +kernel
theorem dL_law_780 : decode cL_law 780 = .ok (.iload 7, 2) := by decide +kernel
theorem dL_law_782 : decode cL_law 782 = .ok (.i2l, 1) := by decide +kernel
theorem dL_law_783 : decode cL_law 783 = .ok (.lcmp, 1) := by decide +kernel
theorem dL_law_784 : decode cL_law 784 = .ok (.ifCond .eq 5, 3) := by decide +kernel
theorem dL_law_787 : decode cL_law 787 = .ok (.iconst 0, 1) := by decide +kernel
theorem dL_law_788 : decode cL_law 788 = .ok (.ireturn, 1) := by decide +kernel
theorem dL_law_789 : decode cL_law 789 = .ok (.goto 823, 3) := by decide +kernel
theorem dL_law_792 : decode cL_law 792 = .ok (.aload_n 1, 1) := by decide +kernel
theorem dL_law_793 : decode cL_law 793 = .ok (.invokevirtual 119, 3) := by decide +kernel
theorem dL_law_796 : decode cL_law 796 = .ok (.aload_n 2, 1) := by decide +kernel
theorem dL_law_797 : decode cL_law 797 = .ok (.invokevirtual 122, 3) := by decide +kernel
theorem dL_law_800 : decode cL_law 800 = .ok (.if_icmp .eq 812, 3) := by decide +kernel
theorem dL_law_803 : decode cL_law 803 = .ok (.iconst 0, 1) := by decide +kernel
theorem dL_law_804 : decode cL_law 804 = .ok (.ireturn, 1) := by decide +kernel
theorem dL_law_805 : decode cL_law 805 = .ok (.aload_n 1, 1) := by decide +kernel
theorem dL_law_806 : decode cL_law 806 = .ok (.aload_n 0, 1) := by decide +kernel
theorem dL_law_807 : decode cL_law 807 = .ok (.iload 5, 2) := by decide +kernel
theorem dL_law_809 : decode cL_law 809 = .ok (.iconst 1, 1) := by decide +kernel
theorem dL_law_810 : decode cL_law 810 = .ok (.iadd, 1) := by decide +kernel
theorem dL_law_811 : decode cL_law 811 = .ok (.iaload, 1) := by decide +kernel
theorem dL_law_812 : decode cL_law 812 = .ok (.aload_n 3, 1) := by decide +kernel
theorem dL_law_813 : decode cL_law 813 = .ok (.invokestatic 123, 3) := by decide +kernel
theorem dL_law_816 : decode cL_law 816 = .ok (.istore 6, 2) := by decide +kernel
theorem dL_law_818 : decode cL_law 818 = .ok (.aload_n 2, 1) := by decide +kernel
theorem dL_law_819 : decode cL_law 819 = .ok (.aload_n 0, 1) := by decide +kernel
theorem dL_law_820 : decode cL_law 820 = .ok (.iload 5, 2) := by decide +kernel
theorem dL_law_822 : decode cL_law 822 = .ok (.iconst 1, 1) := by decide +kernel
theorem dL_law_823 : decode cL_law 823 = .ok (.iadd, 1) := by decide +kernel
theorem dL_law_824 : decode cL_law 824 = .ok (.iaload, 1) := by decide +kernel
theorem dL_law_825 : decode cL_law 825 = .ok (.invokevirtual 125, 3) := by decide +kernel
theorem dL_law_828 : decode cL_law 828 = .ok (.istore 7, 2) := by decide +kernel
theorem dL_law_830 : decode cL_law 830 = .ok (.aload_n 2, 1) := by decide +kernel
theorem dL_law_831 : decode cL_law 831 = .ok (.invokevirtual 91, 3) := by decide +kernel
theorem dL_law_834 : decode cL_law 834 = .ok (.iload 6, 2) := by decide +kernel
theorem dL_law_836 : decode cL_law 836 = .ok (.if_icmp .eq 5, 3) := by decide +kernel
theorem dL_law_839 : decode cL_law 839 = .ok (.iconst 0, 1) := by decide +kernel
theorem dL_law_840 : decode cL_law 840 = .ok (.ireturn, 1) := by decide +kernel
theorem dL_law_841 : decode cL_law 841 = .ok (.iload 6, 2) := by decide +kernel
theorem dL_law_843 : decode cL_law 843 = .ok (.ifCond .ne 15, 3) := by decide +kernel
theorem dL_law_846 : decode cL_law 846 = .ok (.aload_n 3, 1) := by decide +kernel
theorem dL_law_847 : decode cL_law 847 = .ok (.iconst 0, 1) := by decide +kernel
theorem dL_law_848 : decode cL_law 848 = .ok (.laload, 1) := by decide +kernel
theorem dL_law_849 : decode cL_law 849 = .ok (.iload 7, 2) := by decide +kernel
theorem dL_law_851 : decode cL_law 851 = .ok (.i2l, 1) := by decide +kernel
theorem dL_law_852 : decode cL_law 852 = .ok (.lcmp, 1) := by decide +kernel
theorem dL_law_853 : decode cL_law 853 = .ok (.ifCond .eq 5, 3) := by decide +kernel
theorem dL_law_856 : decode cL_law 856 = .ok (.iconst 0, 1) := by decide +kernel
theorem dL_law_857 : decode cL_law 857 = .ok (.ireturn, 1) := by decide +kernel
theorem dL_law_858 : decode cL_law 858 = .ok (.goto 754, 3) := by decide +kernel
theorem dL_law_861 : decode cL_law 861 = .ok (.aload_n 1, 1) := by decide +kernel
theorem dL_law_862 : decode cL_law 862 = .ok (.invokevirtual 126, 3) := by decide +kernel
theorem dL_law_865 : decode cL_law 865 = .ok (.aload_n 2, 1) := by decide +kernel
theorem dL_law_866 : decode cL_law 866 = .ok (.invokevirtual 130, 3) := by decide +kernel
theorem dL_law_869 : decode cL_law 869 = .ok (.lcmp, 1) := by decide +kernel
theorem dL_law_870 : decode cL_law 870 = .ok (.ifCond .eq 742, 3) := by decide +kernel
theorem dL_law_873 : decode cL_law 873 = .ok (.iconst 0, 1) := by decide +kernel
theorem dL_law_874 : decode cL_law 874 = .ok (.ireturn, 1) := by decide +kernel
theorem dL_law_875 : decode cL_law 875 = .ok (.aload_n 1, 1) := by decide +kernel
theorem dL_law_876 : decode cL_law 876 = .ok (.invokevirtual 131, 3) := by decide +kernel
theorem dL_law_879 : decode cL_law 879 = .ok (.aload_n 2, 1) := by decide +kernel
theorem dL_law_880 : decode cL_law 880 = .ok (.invokevirtual 134, 3) := by decide +kernel
theorem dL_law_883 : decode cL_law 883 = .ok (.if_icmp .eq 729, 3) := by decide +kernel
theorem dL_law_886 : decode cL_law 886 = .ok (.iconst 0, 1) := by decide +kernel
theorem dL_law_887 : decode cL_law 887 = .ok (.ireturn, 1) := by decide +kernel
theorem dL_law_888 : decode cL_law 888 = .ok (.aload_n 1, 1) := by decide +kernel
theorem dL_law_889 : decode cL_law 889 = .ok (.aload_n 0, 1) := by decide +kernel
theorem dL_law_890 : decode cL_law 890 = .ok (.iload 5, 2) := by decide +kernel
theorem dL_law_892 : decode cL_law 892 = .ok (.iconst 1, 1) := by decide +kernel
theorem dL_law_893 : decode cL_law 893 = .ok (.iadd, 1) := by decide +kernel
theorem dL_law_894 : decode cL_law 894 = .ok (.iaload, 1) := by decide +kernel
theorem dL_law_895 : decode cL_law 895 = .ok (.aload_n 0, 1) := by decide +kernel
theorem dL_law_896 : decode cL_law 896 = .ok (.iload 5, 2) := by decide +kernel
theorem dL_law_898 : decode cL_law 898 = .ok (.iconst 2, 1) := by decide +kernel
theorem dL_law_899 : decode cL_law 899 = .ok (.iadd, 1) := by decide +kernel
theorem dL_law_900 : decode cL_law 900 = .ok (.iaload, 1) := by decide +kernel
theorem dL_law_901 : decode cL_law 901 = .ok (.aload_n 3, 1) := by decide +kernel
theorem dL_law_902 : decode cL_law 902 = .ok (.invokestatic 135, 3) := by decide +kernel
theorem dL_law_905 : decode cL_law 905 = .ok (.istore 6, 2) := by decide +kernel
theorem dL_law_907 : decode cL_law 907 = .ok (.aload_n 2, 1) := by decide +kernel
theorem dL_law_908 : decode cL_law 908 = .ok (.aload_n 0, 1) := by decide +kernel
theorem dL_law_909 : decode cL_law 909 = .ok (.iload 5, 2) := by decide +kernel
theorem dL_law_911 : decode cL_law 911 = .ok (.iconst 1, 1) := by decide +kernel
theorem dL_law_912 : decode cL_law 912 = .ok (.iadd, 1) := by decide +kernel
theorem dL_law_913 : decode cL_law 913 = .ok (.iaload, 1) := by decide +kernel
theorem dL_law_914 : decode cL_law 914 = .ok (.aload_n 0, 1) := by decide +kernel
theorem dL_law_915 : decode cL_law 915 = .ok (.iload 5, 2) := by decide +kernel
theorem dL_law_917 : decode cL_law 917 = .ok (.iconst 2, 1) := by decide +kernel
theorem dL_law_918 : decode cL_law 918 = .ok (.iadd, 1) := by decide +kernel
theorem dL_law_919 : decode cL_law 919 = .ok (.iaload, 1) := by decide +kernel
theorem dL_law_920 : decode cL_law 920 = .ok (.invokevirtual 137, 3) := by decide +kernel
theorem dL_law_923 : decode cL_law 923 = .ok (.istore 7, 2) := by decide +kernel
theorem dL_law_925 : decode cL_law 925 = .ok (.aload_n 2, 1) := by decide +kernel
theorem dL_law_926 : decode cL_law 926 = .ok (.invokevirtual 91, 3) := by decide +kernel
theorem dL_law_929 : decode cL_law 929 = .ok (.iload 6, 2) := by decide +kernel
theorem dL_law_931 : decode cL_law 931 = .ok (.if_icmp .eq 5, 3) := by decide +kernel
theorem dL_law_934 : decode cL_law 934 = .ok (.iconst 0, 1) := by decide +kernel
theorem dL_law_935 : decode cL_law 935 = .ok (.ireturn, 1) := by decide +kernel
theorem dL_law_936 : decode cL_law 936 = .ok (.iload 6, 2) := by decide +kernel
theorem dL_law_938 : decode cL_law 938 = .ok (.ifCond .ne 15, 3) := by decide +kernel
theorem dL_law_941 : decode cL_law 941 = .ok (.aload_n 3, 1) := by decide +kernel
theorem dL_law_942 : decode cL_law 942 = .ok (.iconst 0, 1) := by decide +kernel
theorem dL_law_943 : decode cL_law 943 = .ok (.laload, 1) := by decide +kernel
theorem dL_law_944 : decode cL_law 944 = .ok (.iload 7, 2) := by decide +kernel
theorem dL_law_946 : decode cL_law 946 = .ok (.i2l, 1) := by decide +kernel
theorem dL_law_947 : decode cL_law 947 = .ok (.lcmp, 1) := by decide +kernel
theorem dL_law_948 : decode cL_law 948 = .ok (.ifCond .eq 5, 3) := by decide +kernel
theorem dL_law_951 : decode cL_law 951 = .ok (.iconst 0, 1) := by decide +kernel
theorem dL_law_952 : decode cL_law 952 = .ok (.ireturn, 1) := by decide +kernel
theorem dL_law_953 : decode cL_law 953 = .ok (.goto 659, 3) := by decide +kernel
theorem dL_law_956 : decode cL_law 956 = .ok (.aload_n 1, 1) := by decide +kernel
theorem dL_law_957 : decode cL_law 957 = .ok (.aload_n 0, 1) := by decide +kernel
theorem dL_law_958 : decode cL_law 958 = .ok (.iload 5, 2) := by decide +kernel
theorem dL_law_960 : decode cL_law 960 = .ok (.iconst 1, 1) := by decide +kernel
theorem dL_law_961 : decode cL_law 961 = .ok (.iadd, 1) := by decide +kernel
theorem dL_law_962 : decode cL_law 962 = .ok (.iaload, 1) := by decide +kernel
theorem dL_law_963 : decode cL_law 963 = .ok (.aload_n 0, 1) := by decide +kernel
theorem dL_law_964 : decode cL_law 964 = .ok (.iload 5, 2) := by decide +kernel
theorem dL_law_966 : decode cL_law 966 = .ok (.iconst 2, 1) := by decide +kernel
theorem dL_law_967 : decode cL_law 967 = .ok (.iadd, 1) := by decide +kernel
theorem dL_law_968 : decode cL_law 968 = .ok (.iaload, 1) := by decide +kernel
theorem dL_law_969 : decode cL_law 969 = .ok (.aload_n 3, 1) := by decide +kernel
theorem dL_law_970 : decode cL_law 970 = .ok (.invokestatic 138, 3) := by decide +kernel
theorem dL_law_973 : decode cL_law 973 = .ok (.istore 6, 2) := by decide +kernel
theorem dL_law_975 : decode cL_law 975 = .ok (.aload_n 2, 1) := by decide +kernel
theorem dL_law_976 : decode cL_law 976 = .ok (.aload_n 0, 1) := by decide +kernel
theorem dL_law_977 : decode cL_law 977 = .ok (.iload 5, 2) := by decide +kernel
theorem dL_law_979 : decode cL_law 979 = .ok (.iconst 1, 1) := by decide +kernel
theorem dL_law_980 : decode cL_law 980 = .ok (.iadd, 1) := by decide +kernel
theorem dL_law_981 : decode cL_law 981 = .ok (.iaload, 1) := by decide +kernel
theorem dL_law_982 : decode cL_law 982 = .ok (.aload_n 0, 1) := by decide +kernel
theorem dL_law_983 : decode cL_law 983 = .ok (.iload 5, 2) := by decide +kernel
theorem dL_law_985 : decode cL_law 985 = .ok (.iconst 2, 1) := by decide +kernel
theorem dL_law_986 : decode cL_law 986 = .ok (.iadd, 1) := by decide +kernel
theorem dL_law_987 : decode cL_law 987 = .ok (.iaload, 1) := by decide +kernel
theorem dL_law_988 : decode cL_law 988 = .ok (.invokevirtual 140, 3) := by decide +kernel
theorem dL_law_991 : decode cL_law 991 = .ok (.istore 7, 2) := by decide +kernel
theorem dL_law_993 : decode cL_law 993 = .ok (.aload_n 2, 1) := by decide +kernel
theorem dL_law_994 : decode cL_law 994 = .ok (.invokevirtual 91, 3) := by decide +kernel
theorem dL_law_997 : decode cL_law 997 = .ok (.iload 6, 2) := by decide +kernel
theorem dL_law_999 : decode cL_law 999 = .ok (.if_icmp .eq 5, 3) := by decide +kernel
theorem dL_law_1002 : decode cL_law 1002 = .ok (.iconst 0, 1) := by decide +kernel
theorem dL_law_1003 : decode cL_law 1003 = .ok (.ireturn, 1) := by decide +kernel
theorem dL_law_1004 : decode cL_law 1004 = .ok (.iload 6, 2) := by decide +kernel
theorem dL_law_1006 : decode cL_law 1006 = .ok (.ifCond .ne 15, 3) := by decide +kernel
theorem dL_law_1009 : decode cL_law 1009 = .ok (.aload_n 3, 1) := by decide +kernel
theorem dL_law_1010 : decode cL_law 1010 = .ok (.iconst 0, 1) := by decide +kernel
theorem dL_law_1011 : decode cL_law 1011 = .ok (.laload, 1) := by decide +kernel
theorem dL_law_1012 : decode cL_law 1012 = .ok (.iload 7, 2) := by decide +kernel
theorem dL_law_1014 : decode cL_law 1014 = .ok (.i2l, 1) := by decide +kernel
theorem dL_law_1015 : decode cL_law 1015 = .ok (.lcmp, 1) := by decide +kernel
theorem dL_law_1016 : decode cL_law 1016 = .ok (.ifCond .eq 5, 3) := by decide +kernel
theorem dL_law_1019 : decode cL_law 1019 = .ok (.iconst 0, 1) := by decide +kernel
theorem dL_law_1020 : decode cL_law 1020 = .ok (.ireturn, 1) := by decide +kernel
theorem dL_law_1021 : decode cL_law 1021 = .ok (.goto 591, 3) := by decide +kernel
theorem dL_law_1024 : decode cL_law 1024 = .ok (.aload_n 1, 1) := by decide +kernel
theorem dL_law_1025 : decode cL_law 1025 = .ok (.aload_n 0, 1) := by decide +kernel
theorem dL_law_1026 : decode cL_law 1026 = .ok (.iload 5, 2) := by decide +kernel
theorem dL_law_1028 : decode cL_law 1028 = .ok (.iconst 1, 1) := by decide +kernel
theorem dL_law_1029 : decode cL_law 1029 = .ok (.iadd, 1) := by decide +kernel
theorem dL_law_1030 : decode cL_law 1030 = .ok (.iaload, 1) := by decide +kernel
theorem dL_law_1031 : decode cL_law 1031 = .ok (.aload_n 0, 1) := by decide +kernel
theorem dL_law_1032 : decode cL_law 1032 = .ok (.iload 5, 2) := by decide +kernel
theorem dL_law_1034 : decode cL_law 1034 = .ok (.iconst 2, 1) := by decide +kernel
theorem dL_law_1035 : decode cL_law 1035 = .ok (.iadd, 1) := by decide +kernel
theorem dL_law_1036 : decode cL_law 1036 = .ok (.iaload, 1) := by decide +kernel
theorem dL_law_1037 : decode cL_law 1037 = .ok (.aload_n 3, 1) := by decide +kernel
theorem dL_law_1038 : decode cL_law 1038 = .ok (.invokestatic 141, 3) := by decide +kernel
theorem dL_law_1041 : decode cL_law 1041 = .ok (.istore 6, 2) := by decide +kernel
theorem dL_law_1043 : decode cL_law 1043 = .ok (.aload_n 2, 1) := by decide +kernel
theorem dL_law_1044 : decode cL_law 1044 = .ok (.aload_n 0, 1) := by decide +kernel
theorem dL_law_1045 : decode cL_law 1045 = .ok (.iload 5, 2) := by decide +kernel
theorem dL_law_1047 : decode cL_law 1047 = .ok (.iconst 1, 1) := by decide +kernel
theorem dL_law_1048 : decode cL_law 1048 = .ok (.iadd, 1) := by decide +kernel
theorem dL_law_1049 : decode cL_law 1049 = .ok (.iaload, 1) := by decide +kernel
theorem dL_law_1050 : decode cL_law 1050 = .ok (.aload_n 0, 1) := by decide +kernel
theorem dL_law_1051 : decode cL_law 1051 = .ok (.iload 5, 2) := by decide +kernel
theorem dL_law_1053 : decode cL_law 1053 = .ok (.iconst 2, 1) := by decide +kernel
theorem dL_law_1054 : decode cL_law 1054 = .ok (.iadd, 1) := by decide +kernel
theorem dL_law_1055 : decode cL_law 1055 = .ok (.iaload, 1) := by decide +kernel
theorem dL_law_1056 : decode cL_law 1056 = .ok (.invokevirtual 143, 3) := by decide +kernel
theorem dL_law_1059 : decode cL_law 1059 = .ok (.istore 7, 2) := by decide +kernel
theorem dL_law_1061 : decode cL_law 1061 = .ok (.aload_n 2, 1) := by decide +kernel
theorem dL_law_1062 : decode cL_law 1062 = .ok (.invokevirtual 91, 3) := by decide +kernel
theorem dL_law_1065 : decode cL_law 1065 = .ok (.iload 6, 2) := by decide +kernel
theorem dL_law_1067 : decode cL_law 1067 = .ok (.if_icmp .eq 5, 3) := by decide +kernel
theorem dL_law_1070 : decode cL_law 1070 = .ok (.iconst 0, 1) := by decide +kernel
theorem dL_law_1071 : decode cL_law 1071 = .ok (.ireturn, 1) := by decide +kernel
theorem dL_law_1072 : decode cL_law 1072 = .ok (.iload 6, 2) := by decide +kernel
theorem dL_law_1074 : decode cL_law 1074 = .ok (.ifCond .ne 15, 3) := by decide +kernel
theorem dL_law_1077 : decode cL_law 1077 = .ok (.aload_n 3, 1) := by decide +kernel
theorem dL_law_1078 : decode cL_law 1078 = .ok (.iconst 0, 1) := by decide +kernel
theorem dL_law_1079 : decode cL_law 1079 = .ok (.laload, 1) := by decide +kernel
theorem dL_law_1080 : decode cL_law 1080 = .ok (.iload 7, 2) := by decide +kernel
theorem dL_law_1082 : decode cL_law 1082 = .ok (.i2l, 1) := by decide +kernel
theorem dL_law_1083 : decode cL_law 1083 = .ok (.lcmp, 1) := by decide +kernel
theorem dL_law_1084 : decode cL_law 1084 = .ok (.ifCond .eq 5, 3) := by decide +kernel
theorem dL_law_1087 : decode cL_law 1087 = .ok (.iconst 0, 1) := by decide +kernel
theorem dL_law_1088 : decode cL_law 1088 = .ok (.ireturn, 1) := by decide +kernel
theorem dL_law_1089 : decode cL_law 1089 = .ok (.goto 523, 3) := by decide +kernel
end
section
theorem dL_law_1092 : decode cL_law 1092 = .ok (.aload_n 1, 1) := by decide +kernel
theorem dL_law_1093 : decode cL_law 1093 = .ok (.aload_n 0, 1) := by decide +kernel
theorem dL_law_1094 : decode cL_law 1094 = .ok (.iload 5, 2) := by decide +kernel
theorem dL_law_1096 : decode cL_law 1096 = .ok (.iconst 1, 1) := by decide +kernel
theorem dL_law_1097 : decode cL_law 1097 = .ok (.iadd, 1) := by decide +kernel
theorem dL_law_1098 : decode cL_law 1098 = .ok (.iaload, 1) := by decide +kernel
theorem dL_law_1099 : decode cL_law 1099 = .ok (.aload_n 0, 1) := by decide +kernel
theorem dL_law_1100 : decode cL_law 1100 = .ok (.iload 5, 2) := by decide +kernel
theorem dL_law_1102 : decode cL_law 1102 = .ok (.iconst 2, 1) := by decide +kernel
theorem dL_law_1103 : decode cL_law 1103 = .ok (.iadd, 1) := by decide +kernel
theorem dL_law_1104 : decode cL_law 1104 = .ok (.iaload, 1) := by decide +kernel
theorem dL_law_1105 : decode cL_law 1105 = .ok (.aload_n 0, 1) := by decide +kernel
theorem dL_law_1106 : decode cL_law 1106 = .ok (.iload 5, 2) := by decide +kernel
theorem dL_law_1108 : decode cL_law 1108 = .ok (.iconst 3, 1) := by decide +kernel
theorem dL_law_1109 : decode cL_law 1109 = .ok (.iadd, 1) := by decide +kernel
theorem dL_law_1110 : decode cL_law 1110 = .ok (.iaload, 1) := by decide +kernel
theorem dL_law_1111 : decode cL_law 1111 = .ok (.aload_n 3, 1) := by decide +kernel
theorem dL_law_1112 : decode cL_law 1112 = .ok (.invokestatic 144, 3) := by decide +kernel
theorem dL_law_1115 : decode cL_law 1115 = .ok (.istore 6, 2) := by decide +kernel
theorem dL_law_1117 : decode cL_law 1117 = .ok (.aload_n 2, 1) := by decide +kernel
theorem dL_law_1118 : decode cL_law 1118 = .ok (.aload_n 0, 1) := by decide +kernel
theorem dL_law_1119 : decode cL_law 1119 = .ok (.iload 5, 2) := by decide +kernel
theorem dL_law_1121 : decode cL_law 1121 = .ok (.iconst 1, 1) := by decide +kernel
theorem dL_law_1122 : decode cL_law 1122 = .ok (.iadd, 1) := by decide +kernel
theorem dL_law_1123 : decode cL_law 1123 = .ok (.iaload, 1) := by decide +kernel
theorem dL_law_1124 : decode cL_law 1124 = .ok (.aload_n 0, 1) := by decide +kernel
theorem dL_law_1125 : decode cL_law 1125 = .ok (.iload 5, 2) := by decide +kernel
theorem dL_law_1127 : decode cL_law 1127 = .ok (.iconst 2, 1) := by decide +kernel
theorem dL_law_1128 : decode cL_law 1128 = .ok (.iadd, 1) := by decide +kernel
theorem dL_law_1129 : decode cL_law 1129 = .ok (.iaload, 1) := by decide +kernel
theorem dL_law_1130 : decode cL_law 1130 = .ok (.aload_n 0, 1) := by decide +kernel
theorem dL_law_1131 : decode cL_law 1131 = .ok (.iload 5, 2) := by decide +kernel
theorem dL_law_1133 : decode cL_law 1133 = .ok (.iconst 3, 1) := by decide +kernel
theorem dL_law_1134 : decode cL_law 1134 = .ok (.iadd, 1) := by decide +kernel
theorem dL_law_1135 : decode cL_law 1135 = .ok (.iaload, 1) := by decide +kernel
theorem dL_law_1136 : decode cL_law 1136 = .ok (.invokevirtual 146, 3) := by decide +kernel
theorem dL_law_1139 : decode cL_law 1139 = .ok (.istore 7, 2) := by decide +kernel
theorem dL_law_1141 : decode cL_law 1141 = .ok (.aload_n 2, 1) := by decide +kernel
theorem dL_law_1142 : decode cL_law 1142 = .ok (.invokevirtual 91, 3) := by decide +kernel
theorem dL_law_1145 : decode cL_law 1145 = .ok (.iload 6, 2) := by decide +kernel
theorem dL_law_1147 : decode cL_law 1147 = .ok (.if_icmp .eq 5, 3) := by decide +kernel
theorem dL_law_1150 : decode cL_law 1150 = .ok (.iconst 0, 1) := by decide +kernel
theorem dL_law_1151 : decode cL_law 1151 = .ok (.ireturn, 1) := by decide +kernel
theorem dL_law_1152 : decode cL_law 1152 = .ok (.iload 6, 2) := by decide +kernel
theorem dL_law_1154 : decode cL_law 1154 = .ok (.ifCond .ne 15, 3) := by decide +kernel
theorem dL_law_1157 : decode cL_law 1157 = .ok (.aload_n 3, 1) := by decide +kernel
theorem dL_law_1158 : decode cL_law 1158 = .ok (.iconst 0, 1) := by decide +kernel
theorem dL_law_1159 : decode cL_law 1159 = .ok (.laload, 1) := by decide +kernel
theorem dL_law_1160 : decode cL_law 1160 = .ok (.iload 7, 2) := by decide +kernel
theorem dL_law_1162 : decode cL_law 1162 = .ok (.i2l, 1) := by decide +kernel
theorem dL_law_1163 : decode cL_law 1163 = .ok (.lcmp, 1) := by decide +kernel
theorem dL_law_1164 : decode cL_law 1164 = .ok (.ifCond .eq 5, 3) := by decide +kernel
theorem dL_law_1167 : decode cL_law 1167 = .ok (.iconst 0, 1) := by decide +kernel
theorem dL_law_1168 : decode cL_law 1168 = .ok (.ireturn, 1) := by decide +kernel
theorem dL_law_1169 : decode cL_law 1169 = .ok (.goto 443, 3) := by decide +kernel
theorem dL_law_1172 : decode cL_law 1172 = .ok (.aload_n 1, 1) := by decide +kernel
theorem dL_law_1173 : decode cL_law 1173 = .ok (.aload_n 0, 1) := by decide +kernel
theorem dL_law_1174 : decode cL_law 1174 = .ok (.iload 5, 2) := by decide +kernel
theorem dL_law_1176 : decode cL_law 1176 = .ok (.iconst 1, 1) := by decide +kernel
theorem dL_law_1177 : decode cL_law 1177 = .ok (.iadd, 1) := by decide +kernel
theorem dL_law_1178 : decode cL_law 1178 = .ok (.iaload, 1) := by decide +kernel
theorem dL_law_1179 : decode cL_law 1179 = .ok (.aload_n 3, 1) := by decide +kernel
theorem dL_law_1180 : decode cL_law 1180 = .ok (.invokestatic 147, 3) := by decide +kernel
theorem dL_law_1183 : decode cL_law 1183 = .ok (.istore 6, 2) := by decide +kernel
theorem dL_law_1185 : decode cL_law 1185 = .ok (.aload_n 2, 1) := by decide +kernel
theorem dL_law_1186 : decode cL_law 1186 = .ok (.aload_n 0, 1) := by decide +kernel
theorem dL_law_1187 : decode cL_law 1187 = .ok (.iload 5, 2) := by decide +kernel
theorem dL_law_1189 : decode cL_law 1189 = .ok (.iconst 1, 1) := by decide +kernel
theorem dL_law_1190 : decode cL_law 1190 = .ok (.iadd, 1) := by decide +kernel
theorem dL_law_1191 : decode cL_law 1191 = .ok (.iaload, 1) := by decide +kernel
theorem dL_law_1192 : decode cL_law 1192 = .ok (.invokevirtual 149, 3) := by decide +kernel
theorem dL_law_1195 : decode cL_law 1195 = .ok (.istore 7, 2) := by decide +kernel
theorem dL_law_1197 : decode cL_law 1197 = .ok (.aload_n 2, 1) := by decide +kernel
theorem dL_law_1198 : decode cL_law 1198 = .ok (.invokevirtual 91, 3) := by decide +kernel
theorem dL_law_1201 : decode cL_law 1201 = .ok (.iload 6, 2) := by decide +kernel
theorem dL_law_1203 : decode cL_law 1203 = .ok (.if_icmp .eq 5, 3) := by decide +kernel
theorem dL_law_1206 : decode cL_law 1206 = .ok (.iconst 0, 1) := by decide +kernel
theorem dL_law_1207 : decode cL_law 1207 = .ok (.ireturn, 1) := by decide +kernel
theorem dL_law_1208 : decode cL_law 1208 = .ok (.iload 6, 2) := by decide +kernel
theorem dL_law_1210 : decode cL_law 1210 = .ok (.ifCond .ne 15, 3) := by decide +kernel
theorem dL_law_1213 : decode cL_law 1213 = .ok (.aload_n 3, 1) := by decide +kernel
theorem dL_law_1214 : decode cL_law 1214 = .ok (.iconst 0, 1) := by decide +kernel
theorem dL_law_1215 : decode cL_law 1215 = .ok (.laload, 1) := by decide +kernel
theorem dL_law_1216 : decode cL_law 1216 = .ok (.iload 7, 2) := by decide +kernel
theorem dL_law_1218 : decode cL_law 1218 = .ok (.i2l, 1) := by decide +kernel
theorem dL_law_1219 : decode cL_law 1219 = .ok (.lcmp, 1) := by decide +kernel
theorem dL_law_1220 : decode cL_law 1220 = .ok (.ifCond .eq 5, 3) := by decide +kernel
theorem dL_law_1223 : decode cL_law 1223 = .ok (.iconst 0, 1) := by decide +kernel
theorem dL_law_1224 : decode cL_law 1224 = .ok (.ireturn, 1) := by decide +kernel
theorem dL_law_1225 : decode cL_law 1225 = .ok (.goto 387, 3) := by decide +kernel
theorem dL_law_1228 : decode cL_law 1228 = .ok (.aload_n 1, 1) := by decide +kernel
theorem dL_law_1229 : decode cL_law 1229 = .ok (.aload_n 0, 1) := by decide +kernel
theorem dL_law_1230 : decode cL_law 1230 = .ok (.iload 5, 2) := by decide +kernel
theorem dL_law_1232 : decode cL_law 1232 = .ok (.iconst 1, 1) := by decide +kernel
theorem dL_law_1233 : decode cL_law 1233 = .ok (.iadd, 1) := by decide +kernel
theorem dL_law_1234 : decode cL_law 1234 = .ok (.iaload, 1) := by decide +kernel
theorem dL_law_1235 : decode cL_law 1235 = .ok (.aload 4, 2) := by decide +kernel
theorem dL_law_1237 : decode cL_law 1237 = .ok (.invokestatic 150, 3) := by decide +kernel
theorem dL_law_1240 : decode cL_law 1240 = .ok (.istore 6, 2) := by decide +kernel
theorem dL_law_1242 : decode cL_law 1242 = .ok (.aload_n 2, 1) := by decide +kernel
theorem dL_law_1243 : decode cL_law 1243 = .ok (.aload_n 0, 1) := by decide +kernel
theorem dL_law_1244 : decode cL_law 1244 = .ok (.iload 5, 2) := by decide +kernel
theorem dL_law_1246 : decode cL_law 1246 = .ok (.iconst 1, 1) := by decide +kernel
theorem dL_law_1247 : decode cL_law 1247 = .ok (.iadd, 1) := by decide +kernel
theorem dL_law_1248 : decode cL_law 1248 = .ok (.iaload, 1) := by decide +kernel
theorem dL_law_1249 : decode cL_law 1249 = .ok (.invokevirtual 153, 3) := by decide +kernel
theorem dL_law_1252 : decode cL_law 1252 = .ok (.dstore 7, 2) := by decide +kernel
theorem dL_law_1254 : decode cL_law 1254 = .ok (.aload_n 2, 1) := by decide +kernel
theorem dL_law_1255 : decode cL_law 1255 = .ok (.invokevirtual 91, 3) := by decide +kernel
theorem dL_law_1258 : decode cL_law 1258 = .ok (.iload 6, 2) := by decide +kernel
theorem dL_law_1260 : decode cL_law 1260 = .ok (.if_icmp .eq 5, 3) := by decide +kernel
theorem dL_law_1263 : decode cL_law 1263 = .ok (.iconst 0, 1) := by decide +kernel
theorem dL_law_1264 : decode cL_law 1264 = .ok (.ireturn, 1) := by decide +kernel
theorem dL_law_1265 : decode cL_law 1265 = .ok (.iload 6, 2) := by decide +kernel
theorem dL_law_1267 : decode cL_law 1267 = .ok (.ifCond .ne 35, 3) := by decide +kernel
theorem dL_law_1270 : decode cL_law 1270 = .ok (.aload 4, 2) := by decide +kernel
theorem dL_law_1272 : decode cL_law 1272 = .ok (.iconst 0, 1) := by decide +kernel
theorem dL_law_1273 : decode cL_law 1273 = .ok (.daload, 1) := by decide +kernel
theorem dL_law_1274 : decode cL_law 1274 = .ok (.dload 7, 2) := by decide +kernel
theorem dL_law_1276 : decode cL_law 1276 = .ok (.dcmp .l, 1) := by decide +kernel
theorem dL_law_1277 : decode cL_law 1277 = .ok (.ifCond .eq 25, 3) := by decide +kernel
theorem dL_law_1280 : decode cL_law 1280 = .ok (.aload 4, 2) := by decide +kernel
theorem dL_law_1282 : decode cL_law 1282 = .ok (.iconst 0, 1) := by decide +kernel
theorem dL_law_1283 : decode cL_law 1283 = .ok (.daload, 1) := by decide +kernel
theorem dL_law_1284 : decode cL_law 1284 = .ok (.aload 4, 2) := by decide +kernel
theorem dL_law_1286 : decode cL_law 1286 = .ok (.iconst 0, 1) := by decide +kernel
theorem dL_law_1287 : decode cL_law 1287 = .ok (.daload, 1) := by decide +kernel
theorem dL_law_1288 : decode cL_law 1288 = .ok (.dcmp .l, 1) := by decide +kernel
theorem dL_law_1289 : decode cL_law 1289 = .ok (.ifCond .eq 11, 3) := by decide +kernel
theorem dL_law_1292 : decode cL_law 1292 = .ok (.dload 7, 2) := by decide +kernel
theorem dL_law_1294 : decode cL_law 1294 = .ok (.dload 7, 2) := by decide +kernel
theorem dL_law_1296 : decode cL_law 1296 = .ok (.dcmp .l, 1) := by decide +kernel
theorem dL_law_1297 : decode cL_law 1297 = .ok (.ifCond .ne 5, 3) := by decide +kernel
theorem dL_law_1300 : decode cL_law 1300 = .ok (.iconst 0, 1) := by decide +kernel
theorem dL_law_1301 : decode cL_law 1301 = .ok (.ireturn, 1) := by decide +kernel
theorem dL_law_1302 : decode cL_law 1302 = .ok (.goto 310, 3) := by decide +kernel
theorem dL_law_1305 : decode cL_law 1305 = .ok (.aload_n 1, 1) := by decide +kernel
theorem dL_law_1306 : decode cL_law 1306 = .ok (.aload_n 0, 1) := by decide +kernel
theorem dL_law_1307 : decode cL_law 1307 = .ok (.iload 5, 2) := by decide +kernel
theorem dL_law_1309 : decode cL_law 1309 = .ok (.iconst 1, 1) := by decide +kernel
theorem dL_law_1310 : decode cL_law 1310 = .ok (.iadd, 1) := by decide +kernel
theorem dL_law_1311 : decode cL_law 1311 = .ok (.iaload, 1) := by decide +kernel
theorem dL_law_1312 : decode cL_law 1312 = .ok (.aload 4, 2) := by decide +kernel
theorem dL_law_1314 : decode cL_law 1314 = .ok (.invokestatic 154, 3) := by decide +kernel
theorem dL_law_1317 : decode cL_law 1317 = .ok (.istore 6, 2) := by decide +kernel
theorem dL_law_1319 : decode cL_law 1319 = .ok (.aload_n 2, 1) := by decide +kernel
theorem dL_law_1320 : decode cL_law 1320 = .ok (.aload_n 0, 1) := by decide +kernel
theorem dL_law_1321 : decode cL_law 1321 = .ok (.iload 5, 2) := by decide +kernel
theorem dL_law_1323 : decode cL_law 1323 = .ok (.iconst 1, 1) := by decide +kernel
theorem dL_law_1324 : decode cL_law 1324 = .ok (.iadd, 1) := by decide +kernel
theorem dL_law_1325 : decode cL_law 1325 = .ok (.iaload, 1) := by decide +kernel
theorem dL_law_1326 : decode cL_law 1326 = .ok (.invokevirtual 156, 3) := by decide +kernel
theorem dL_law_1329 : decode cL_law 1329 = .ok (.dstore 7, 2) := by decide +kernel
theorem dL_law_1331 : decode cL_law 1331 = .ok (.aload_n 2, 1) := by decide +kernel
theorem dL_law_1332 : decode cL_law 1332 = .ok (.invokevirtual 91, 3) := by decide +kernel
theorem dL_law_1335 : decode cL_law 1335 = .ok (.iload 6, 2) := by decide +kernel
theorem dL_law_1337 : decode cL_law 1337 = .ok (.if_icmp .eq 5, 3) := by decide +kernel
theorem dL_law_1340 : decode cL_law 1340 = .ok (.iconst 0, 1) := by decide +kernel
theorem dL_law_1341 : decode cL_law 1341 = .ok (.ireturn, 1) := by decide +kernel
theorem dL_law_1342 : decode cL_law 1342 = .ok (.iload 6, 2) := by decide +kernel
theorem dL_law_1344 : decode cL_law 1344 = .ok (.ifCond .ne 35, 3) := by decide +kernel
theorem dL_law_1347 : decode cL_law 1347 = .ok (.aload 4, 2) := by decide +kernel
theorem dL_law_1349 : decode cL_law 1349 = .ok (.iconst 0, 1) := by decide +kernel
theorem dL_law_1350 : decode cL_law 1350 = .ok (.daload, 1) := by decide +kernel
theorem dL_law_1351 : decode cL_law 1351 = .ok (.dload 7, 2) := by decide +kernel
theorem dL_law_1353 : decode cL_law 1353 = .ok (.dcmp .l, 1) := by decide +kernel
theorem dL_law_1354 : decode cL_law 1354 = .ok (.ifCond .eq 25, 3) := by decide +kernel
theorem dL_law_1357 : decode cL_law 1357 = .ok (.aload 4, 2) := by decide +kernel
theorem dL_law_1359 : decode cL_law 1359 = .ok (.iconst 0, 1) := by decide +kernel
theorem dL_law_1360 : decode cL_law 1360 = .ok (.daload, 1) := by decide +kernel
theorem dL_law_1361 : decode cL_law 1361 = .ok (.aload 4, 2) := by decide +kernel
theorem dL_law_1363 : decode cL_law 1363 = .ok (.iconst 0, 1) := by decide +kernel
theorem dL_law_1364 : decode cL_law 1364 = .ok (.daload, 1) := by decide +kernel
theorem dL_law_1365 : decode cL_law 1365 = .ok (.dcmp .l, 1) := by decide +kernel
theorem dL_law_1366 : decode cL_law 1366 = .ok (.ifCond .eq 11, 3) := by decide +kernel
theorem dL_law_1369 : decode cL_law 1369 = .ok (.dload 7, 2) := by decide +kernel
theorem dL_law_1371 : decode cL_law 1371 = .ok (.dload 7, 2) := by decide +kernel
theorem dL_law_1373 : decode cL_law 1373 = .ok (.dcmp .l, 1) := by decide +kernel
theorem dL_law_1374 : decode cL_law 1374 = .ok (.ifCond .ne 5, 3) := by decide +kernel
theorem dL_law_1377 : decode cL_law 1377 = .ok (.iconst 0, 1) := by decide +kernel
theorem dL_law_1378 : decode cL_law 1378 = .ok (.ireturn, 1) := by decide +kernel
theorem dL_law_1379 : decode cL_law 1379 = .ok (.goto 233, 3) := by decide +kernel
theorem dL_law_1382 : decode cL_law 1382 = .ok (.aload_n 1, 1) := by decide +kernel
theorem dL_law_1383 : decode cL_law 1383 = .ok (.aload_n 0, 1) := by decide +kernel
theorem dL_law_1384 : decode cL_law 1384 = .ok (.iload 5, 2) := by decide +kernel
theorem dL_law_1386 : decode cL_law 1386 = .ok (.iconst 1, 1) := by decide +kernel
theorem dL_law_1387 : decode cL_law 1387 = .ok (.iadd, 1) := by decide +kernel
theorem dL_law_1388 : decode cL_law 1388 = .ok (.iaload, 1) := by decide +kernel
theorem dL_law_1389 : decode cL_law 1389 = .ok (.aload_n 0, 1) := by decide +kernel
theorem dL_law_1390 : decode cL_law 1390 = .ok (.iload 5, 2) := by decide +kernel
theorem dL_law_1392 : decode cL_law 1392 = .ok (.iconst 2, 1) := by decide +kernel
theorem dL_law_1393 : decode cL_law 1393 = .ok (.iadd, 1) := by decide +kernel
theorem dL_law_1394 : decode cL_law 1394 = .ok (.iaload, 1) := by decide +kernel
theorem dL_law_1395 : decode cL_law 1395 = .ok (.aload_n 0, 1) := by decide +kernel
theorem dL_law_1396 : decode cL_law 1396 = .ok (.iload 5, 2) := by decide +kernel
theorem dL_law_1398 : decode cL_law 1398 = .ok (.iconst 3, 1) := by decide +kernel
theorem dL_law_1399 : decode cL_law 1399 = .ok (.iadd, 1) := by decide +kernel
theorem dL_law_1400 : decode cL_law 1400 = .ok (.iaload, 1) := by decide +kernel
theorem dL_law_1401 : decode cL_law 1401 = .ok (.aload_n 3, 1) := by decide +kernel
theorem dL_law_1402 : decode cL_law 1402 = .ok (.invokestatic 157, 3) := by decide +kernel
theorem dL_law_1405 : decode cL_law 1405 = .ok (.istore 6, 2) := by decide +kernel
theorem dL_law_1407 : decode cL_law 1407 = .ok (.aload_n 2, 1) := by decide +kernel
theorem dL_law_1408 : decode cL_law 1408 = .ok (.aload_n 0, 1) := by decide +kernel
theorem dL_law_1409 : decode cL_law 1409 = .ok (.iload 5, 2) := by decide +kernel
theorem dL_law_1411 : decode cL_law 1411 = .ok (.iconst 1, 1) := by decide +kernel
theorem dL_law_1412 : decode cL_law 1412 = .ok (.iadd, 1) := by decide +kernel
theorem dL_law_1413 : decode cL_law 1413 = .ok (.iaload, 1) := by decide +kernel
theorem dL_law_1414 : decode cL_law 1414 = .ok (.aload_n 0, 1) := by decide +kernel
theorem dL_law_1415 : decode cL_law 1415 = .ok (.iload 5, 2) := by decide +kernel
theorem dL_law_1417 : decode cL_law 1417 = .ok (.iconst 2, 1) := by decide +kernel
theorem dL_law_1418 : decode cL_law 1418 = .ok (.iadd, 1) := by decide +kernel
theorem dL_law_1419 : decode cL_law 1419 = .ok (.iaload, 1) := by decide +kernel
theorem dL_law_1420 : decode cL_law 1420 = .ok (.aload_n 0, 1) := by decide +kernel
theorem dL_law_1421 : decode cL_law 1421 = .ok (.iload 5, 2) := by decide +kernel
theorem dL_law_1423 : decode cL_law 1423 = .ok (.iconst 3, 1) := by decide +kernel
theorem dL_law_1424 : decode cL_law 1424 = .ok (.iadd, 1) := by decide +kernel
theorem dL_law_1425 : decode cL_law 1425 = .ok (.iaload, 1) := by decide +kernel
theorem dL_law_1426 : decode cL_law 1426 = .ok (.invokevirtual 159, 3) := by decide +kernel
theorem dL_law_1429 : decode cL_law 1429 = .ok (.istore 7, 2) := by decide +kernel
theorem dL_law_1431 : decode cL_law 1431 = .ok (.aload_n 2, 1) := by decide +kernel
theorem dL_law_1432 : decode cL_law 1432 = .ok (.invokevirtual 91, 3) := by decide +kernel
theorem dL_law_1435 : decode cL_law 1435 = .ok (.iload 6, 2) := by decide +kernel
theorem dL_law_1437 : decode cL_law 1437 = .ok (.if_icmp .eq 5, 3) := by decide +kernel
theorem dL_law_1440 : decode cL_law 1440 = .ok (.iconst 0, 1) := by decide +kernel
theorem dL_law_1441 : decode cL_law 1441 = .ok (.ireturn, 1) := by decide +kernel
theorem dL_law_1442 : decode cL_law 1442 = .ok (.iload 6, 2) := by decide +kernel
theorem dL_law_1444 : decode cL_law 1444 = .ok (.ifCond .ne 15, 3) := by decide +kernel
theorem dL_law_1447 : decode cL_law 1447 = .ok (.aload_n 3, 1) := by decide +kernel
theorem dL_law_1448 : decode cL_law 1448 = .ok (.iconst 0, 1) := by decide +kernel
theorem dL_law_1449 : decode cL_law 1449 = .ok (.laload, 1) := by decide +kernel
theorem dL_law_1450 : decode cL_law 1450 = .ok (.iload 7, 2) := by decide +kernel
theorem dL_law_1452 : decode cL_law 1452 = .ok (.i2l, 1) := by decide +kernel
theorem dL_law_1453 : decode cL_law 1453 = .ok (.lcmp, 1) := by decide +kernel
theorem dL_law_1454 : decode cL_law 1454 = .ok (.ifCond .eq 5, 3) := by decide +kernel
theorem dL_law_1457 : decode cL_law 1457 = .ok (.iconst 0, 1) := by decide +kernel
theorem dL_law_1458 : decode cL_law 1458 = .ok (.ireturn, 1) := by decide +kernel
theorem dL_law_1459 : decode cL_law 1459 = .ok (.goto 153, 3) := by decide +kernel
theorem dL_law_1462 : decode cL_law 1462 = .ok (.aload_n 1, 1) := by decide +kernel
theorem dL_law_1463 : decode cL_law 1463 = .ok (.aload_n 0, 1) := by decide +kernel
theorem dL_law_1464 : decode cL_law 1464 = .ok (.iload 5, 2) := by decide +kernel
theorem dL_law_1466 : decode cL_law 1466 = .ok (.iconst 1, 1) := by decide +kernel
theorem dL_law_1467 : decode cL_law 1467 = .ok (.iadd, 1) := by decide +kernel
theorem dL_law_1468 : decode cL_law 1468 = .ok (.iaload, 1) := by decide +kernel
theorem dL_law_1469 : decode cL_law 1469 = .ok (.aload_n 0, 1) := by decide +kernel
theorem dL_law_1470 : decode cL_law 1470 = .ok (.iload 5, 2) := by decide +kernel
theorem dL_law_1472 : decode cL_law 1472 = .ok (.iconst 2, 1) := by decide +kernel
theorem dL_law_1473 : decode cL_law 1473 = .ok (.iadd, 1) := by decide +kernel
theorem dL_law_1474 : decode cL_law 1474 = .ok (.iaload, 1) := by decide +kernel
theorem dL_law_1475 : decode cL_law 1475 = .ok (.aload_n 0, 1) := by decide +kernel
theorem dL_law_1476 : decode cL_law 1476 = .ok (.iload 5, 2) := by decide +kernel
theorem dL_law_1478 : decode cL_law 1478 = .ok (.iconst 3, 1) := by decide +kernel
theorem dL_law_1479 : decode cL_law 1479 = .ok (.iadd, 1) := by decide +kernel
theorem dL_law_1480 : decode cL_law 1480 = .ok (.iaload, 1) := by decide +kernel
theorem dL_law_1481 : decode cL_law 1481 = .ok (.aload_n 0, 1) := by decide +kernel
theorem dL_law_1482 : decode cL_law 1482 = .ok (.iload 5, 2) := by decide +kernel
theorem dL_law_1484 : decode cL_law 1484 = .ok (.iconst 4, 1) := by decide +kernel
theorem dL_law_1485 : decode cL_law 1485 = .ok (.iadd, 1) := by decide +kernel
theorem dL_law_1486 : decode cL_law 1486 = .ok (.iaload, 1) := by decide +kernel
theorem dL_law_1487 : decode cL_law 1487 = .ok (.aload_n 3, 1) := by decide +kernel
theorem dL_law_1488 : decode cL_law 1488 = .ok (.invokestatic 160, 3) := by decide +kernel
theorem dL_law_1491 : decode cL_law 1491 = .ok (.istore 6, 2) := by decide +kernel
theorem dL_law_1493 : decode cL_law 1493 = .ok (.aload_n 2, 1) := by decide +kernel
theorem dL_law_1494 : decode cL_law 1494 = .ok (.aload_n 0, 1) := by decide +kernel
theorem dL_law_1495 : decode cL_law 1495 = .ok (.iload 5, 2) := by decide +kernel
theorem dL_law_1497 : decode cL_law 1497 = .ok (.iconst 1, 1) := by decide +kernel
theorem dL_law_1498 : decode cL_law 1498 = .ok (.iadd, 1) := by decide +kernel
theorem dL_law_1499 : decode cL_law 1499 = .ok (.iaload, 1) := by decide +kernel
theorem dL_law_1500 : decode cL_law 1500 = .ok (.aload_n 0, 1) := by decide +kernel
theorem dL_law_1501 : decode cL_law 1501 = .ok (.iload 5, 2) := by decide +kernel
theorem dL_law_1503 : decode cL_law 1503 = .ok (.iconst 2, 1) := by decide +kernel
theorem dL_law_1504 : decode cL_law 1504 = .ok (.iadd, 1) := by decide +kernel
theorem dL_law_1505 : decode cL_law 1505 = .ok (.iaload, 1) := by decide +kernel
theorem dL_law_1506 : decode cL_law 1506 = .ok (.aload_n 0, 1) := by decide +kernel
theorem dL_law_1507 : decode cL_law 1507 = .ok (.iload 5, 2) := by decide +kernel
theorem dL_law_1509 : decode cL_law 1509 = .ok (.iconst 3, 1) := by decide +kernel
theorem dL_law_1510 : decode cL_law 1510 = .ok (.iadd, 1) := by decide +kernel
theorem dL_law_1511 : decode cL_law 1511 = .ok (.iaload, 1) := by decide +kernel
theorem dL_law_1512 : decode cL_law 1512 = .ok (.aload_n 0, 1) := by decide +kernel
theorem dL_law_1513 : decode cL_law 1513 = .ok (.iload 5, 2) := by decide +kernel
theorem dL_law_1515 : decode cL_law 1515 = .ok (.iconst 4, 1) := by decide +kernel
theorem dL_law_1516 : decode cL_law 1516 = .ok (.iadd, 1) := by decide +kernel
theorem dL_law_1517 : decode cL_law 1517 = .ok (.iaload, 1) := by decide +kernel
theorem dL_law_1518 : decode cL_law 1518 = .ok (.invokevirtual 162, 3) := by decide +kernel
theorem dL_law_1521 : decode cL_law 1521 = .ok (.istore 7, 2) := by decide +kernel
theorem dL_law_1523 : decode cL_law 1523 = .ok (.aload_n 2, 1) := by decide +kernel
theorem dL_law_1524 : decode cL_law 1524 = .ok (.invokevirtual 91, 3) := by decide +kernel
theorem dL_law_1527 : decode cL_law 1527 = .ok (.iload 6, 2) := by decide +kernel
theorem dL_law_1529 : decode cL_law 1529 = .ok (.if_icmp .eq 5, 3) := by decide +kernel
theorem dL_law_1532 : decode cL_law 1532 = .ok (.iconst 0, 1) := by decide +kernel
theorem dL_law_1533 : decode cL_law 1533 = .ok (.ireturn, 1) := by decide +kernel
theorem dL_law_1534 : decode cL_law 1534 = .ok (.iload 6, 2) := by decide +kernel
theorem dL_law_1536 : decode cL_law 1536 = .ok (.ifCond .ne 15, 3) := by decide +kernel
theorem dL_law_1539 : decode cL_law 1539 = .ok (.aload_n 3, 1) := by decide +kernel
theorem dL_law_1540 : decode cL_law 1540 = .ok (.iconst 0, 1) := by decide +kernel
theorem dL_law_1541 : decode cL_law 1541 = .ok (.laload, 1) := by decide +kernel
theorem dL_law_1542 : decode cL_law 1542 = .ok (.iload 7, 2) := by decide +kernel
theorem dL_law_1544 : decode cL_law 1544 = .ok (.i2l, 1) := by decide +kernel
theorem dL_law_1545 : decode cL_law 1545 = .ok (.lcmp, 1) := by decide +kernel
theorem dL_law_1546 : decode cL_law 1546 = .ok (.ifCond .eq 5, 3) := by decide +kernel
theorem dL_law_1549 : decode cL_law 1549 = .ok (.iconst 0, 1) := by decide +kernel
theorem dL_law_1550 : decode cL_law 1550 = .ok (.ireturn, 1) := by decide +kernel
theorem dL_law_1551 : decode cL_law 1551 = .ok (.goto 61, 3) := by decide +kernel
theorem dL_law_1554 : decode cL_law 1554 = .ok (.aload_n 1, 1) := by decide +kernel
theorem dL_law_1555 : decode cL_law 1555 = .ok (.aload_n 3, 1) := by decide +kernel
theorem dL_law_1556 : decode cL_law 1556 = .ok (.invokestatic 163, 3) := by decide +kernel
theorem dL_law_1559 : decode cL_law 1559 = .ok (.istore 6, 2) := by decide +kernel
theorem dL_law_1561 : decode cL_law 1561 = .ok (.aload_n 2, 1) := by decide +kernel
theorem dL_law_1562 : decode cL_law 1562 = .ok (.invokevirtual 166, 3) := by decide +kernel
theorem dL_law_1565 : decode cL_law 1565 = .ok (.istore 7, 2) := by decide +kernel
theorem dL_law_1567 : decode cL_law 1567 = .ok (.aload_n 2, 1) := by decide +kernel
theorem dL_law_1568 : decode cL_law 1568 = .ok (.invokevirtual 91, 3) := by decide +kernel
theorem dL_law_1571 : decode cL_law 1571 = .ok (.iload 6, 2) := by decide +kernel
theorem dL_law_1573 : decode cL_law 1573 = .ok (.if_icmp .eq 5, 3) := by decide +kernel
theorem dL_law_1576 : decode cL_law 1576 = .ok (.iconst 0, 1) := by decide +kernel
theorem dL_law_1577 : decode cL_law 1577 = .ok (.ireturn, 1) := by decide +kernel
theorem dL_law_1578 : decode cL_law 1578 = .ok (.iload 6, 2) := by decide +kernel
theorem dL_law_1580 : decode cL_law 1580 = .ok (.ifCond .ne 15, 3) := by decide +kernel
theorem dL_law_1583 : decode cL_law 1583 = .ok (.aload_n 3, 1) := by decide +kernel
theorem dL_law_1584 : decode cL_law 1584 = .ok (.iconst 0, 1) := by decide +kernel
theorem dL_law_1585 : decode cL_law 1585 = .ok (.laload, 1) := by decide +kernel
theorem dL_law_1586 : decode cL_law 1586 = .ok (.iload 7, 2) := by decide +kernel
theorem dL_law_1588 : decode cL_law 1588 = .ok (.i2l, 1) := by decide +kernel
theorem dL_law_1589 : decode cL_law 1589 = .ok (.lcmp, 1) := by decide +kernel
theorem dL_law_1590 : decode cL_law 1590 = .ok (.ifCond .eq 5, 3) := by decide +kernel
theorem dL_law_1593 : decode cL_law 1593 = .ok (.iconst 0, 1) := by decide +kernel
theorem dL_law_1594 : decode cL_law 1594 = .ok (.ireturn, 1) := by decide +kernel
theorem dL_law_1595 : decode cL_law 1595 = .ok (.goto 17, 3) := by decide +kernel
theorem dL_law_1598 : decode cL_law 1598 = .ok (.aload_n 1, 1) := by decide +kernel
theorem dL_law_1599 : decode cL_law 1599 = .ok (.invokevirtual 167, 3) := by decide +kernel
theorem dL_law_1602 : decode cL_law 1602 = .ok (.aload_n 2, 1) := by decide +kernel
theorem dL_law_1603 : decode cL_law 1603 = .ok (.invokevirtual 170, 3) := by decide +kernel
theorem dL_law_1606 : decode cL_law 1606 = .ok (.lcmp, 1) := by decide +kernel
theorem dL_law_1607 : decode cL_law 1607 = .ok (.ifCond .eq 5, 3) := by decide +kernel
theorem dL_law_1610 : decode cL_law 1610 = .ok (.iconst 0, 1) := by decide +kernel
theorem dL_law_1611 : decode cL_law 1611 = .ok (.ireturn, 1) := by decide +kernel
theorem dL_law_1612 : decode cL_law 1612 = .ok (.iinc 5 6, 3) := by decide +kernel
theorem dL_law_1615 : decode cL_law 1615 = .ok (.goto (-1587), 3) := by decide +kernel
theorem dL_law_1618 : decode cL_law 1618 = .ok (.iconst 1, 1) := by decide +kernel
theorem dL_law_1619 : decode cL_law 1619 = .ok (.ireturn, 1) := by decide +kernel
end
section
/-! rows of our own: one list of words, one environment, calls by what they read and write -/
def wq (y : MethodName) (b : ByteArray) (mL : Nat) (rt : Option FieldType) : List Cond := Cond.code y b mL rt :: WA
def wqW (y : MethodName) (b : ByteArray) (mL : Nat) (rt : Option FieldType) (hh : List (Nat × Nat × Nat × Nat)) : List Cond := Cond.codeWith y b mL rt hh :: WA
theorem gV {own : String} {idx : Nat} {y : MethodName} {C : String} {b : ByteArray} {mL : Nat} {rt : Option FieldType} (h1 : Cond.methodLink own idx y ∈ WA) (h2 : Cond.instanceMethod y ∈ WA) (h3 : Cond.selects C y y ∈ WA) (h4 : Cond.initialized C ∈ WA) (h5 : Cond.code y b mL rt ∈ WA) : GoodIn WA (wsV own idx C y (wq y b mL rt)) := by
  refine wa_good fun w h => ?_
  simp only [wsV, wq, List.cons_append, List.nil_append, List.mem_cons] at h
  rcases h with rfl | rfl | rfl | rfl | rfl | h
  · exact h1
  · exact h2
  · exact h3
  · exact h4
  · exact h5
  · exact h
theorem gS {own : String} {idx : Nat} {y : MethodName} {b : ByteArray} {mL : Nat} {rt : Option FieldType} (h1 : Cond.methodLink own idx y ∈ WA) (h2 : Cond.static y ∈ WA) (h4 : Cond.initialized y.cls ∈ WA) (h5 : Cond.code y b mL rt ∈ WA) : GoodIn WA (va_wsS own idx y (wq y b mL rt)) := by
  refine wa_good fun w h => ?_
  simp only [va_wsS, wq, List.cons_append, List.nil_append, List.mem_cons] at h
  rcases h with rfl | rfl | rfl | rfl | h
  · exact h1
  · exact h2
  · exact h4
  · exact h5
  · exact h
theorem gC {y : MethodName} {b : ByteArray} {mL : Nat} {rt : Option FieldType} (h5 : Cond.code y b mL rt ∈ WA) : GoodIn WA (wq y b mL rt) := by
  refine wa_good fun w h => ?_
  simp only [wq, List.mem_cons] at h
  rcases h with rfl | h
  · exact h5
  · exact h
/-! the environment: classes and array classes, private members of nest mates, what is cast to what, the texts -/
abbrev EK : Type := va_G × ClassId × ClassId × ClassId × ClassId
def tyA (K : EK) : List (ClassId × FieldType) := [(K.2.1, .int), (K.2.2.1, .long), (K.2.2.2.1, .object "RangingNet$State"), (K.2.2.2.2, .double)]
def nsF : List (String × Nat × String × String × String × String) := [(RX3, 49, "RangingNet$Table", "count", "I", "RangingNet"), (RX1, 59, "RangingNet$Table", "count", "I", "RangingNet"), (RX3, 105, "RangingNet$State", "time", "J", "RangingNet"), (RX3, 28, "RangingNet$State", "nodes", "LRangingNet$Table;", "RangingNet"), (RX3, 84, "RangingNet$State", "records", "LRangingNet$Table;", "RangingNet"), (RX3, 94, "RangingNet$State", "plans", "LRangingNet$Table;", "RangingNet"), (RX3, 169, "RangingNet$History", "count", "I", "RangingNet")]
def nsM : List (String × Nat × MethodName × String) := [(RX1, 115, yX3_mix, "RangingNet"), (RX1, 38, yX3_floorLength, "RangingNet"), (RX1, 41, yX3_squareOf, "RangingNet")]
def xIA : String := "java/lang/IllegalArgumentException"
def xIS : String := "java/lang/IllegalStateException"
def xIO : String := "java/lang/IndexOutOfBoundsException"
def xAR : String := "java/lang/ArithmeticException"
def xcC : List String := [xIA, xIS, xIO, xAR]
def xcN : List (String × String) := [(xIA, xIS), (xIA, xIO), (xIA, xAR), (xIS, xIA), (xIS, xIO), (xIS, xAR), (xIO, xIA), (xIO, xIS), (xIO, xAR), (xAR, xIA), (xAR, xIS), (xAR, xIO)]
def xcS : List (Nat × String) := [(193, "an argument is out of range"), (40, "no room for another node"), (198, "no such node"), (196, "the nodes are not all different"), (87, "no room for another exchange"), (97, "no room for another plan"), (200, "no such exchange"), (205, "no exchange between these nodes"), (138, "no time passed on the responder's counter"), (151, "anchors are written with three digits"), (209, "the anchors stand in one line"), (219, "the coordinate does not fit into an int"), (170, "no saved state")]
def xcD : List MethodName := [⟨"java/lang/RuntimeException", "<init>", "(Ljava/lang/String;)V"⟩, ⟨"java/lang/Exception", "<init>", "(Ljava/lang/String;)V"⟩, ⟨"java/lang/Throwable", "<init>", "(Ljava/lang/String;)V"⟩]
def EV (K : EK) (U : State) : Prop := va_K K.1 vwCl (tyA K) U ∧ (∀ q ∈ nsF, va_Nw (.fieldLinkNest q.1 q.2.1 q.2.2.1 q.2.2.2.1 q.2.2.2.2.1 q.2.2.2.2.2) U) ∧ (∀ q ∈ nsM, va_Nw (.methodLinkNest q.1 q.2.1 q.2.2.1 q.2.2.2) U) ∧ va_AO "RangingNet$State" U ∧ (∀ q ∈ xcC, va_Nw (.castable q q) U) ∧ (∀ q ∈ xcS, ∃ a : Nat, vk_R RX3 q.1 q.2 a U) ∧ (∀ q ∈ xcN, va_Nc q.1 q.2 U) ∧ ∀ q ∈ xcD, va_Nw (.declares q) U
theorem EV_warm {K : EK} {s U : State} (hW : s.WarmedH U.vm) (h : EV K s) : EV K U :=
  ⟨va_K.moved hW.alike h.1, fun q hq => va_Nw.warmF hW (h.2.1 q hq), fun q hq => va_Nw.warmM hW (h.2.2.1 q hq), va_AO.moved hW.alike h.2.2.2.1, fun q hq => va_Nw.warmC hW (h.2.2.2.2.1 q hq), fun q hq => by
    obtain ⟨a, ha⟩ := h.2.2.2.2.2.1 q hq
    exact ⟨a, vk_R.warm hW ha⟩, fun q hq => va_Nc.moved hW.alike (h.2.2.2.2.2.2.1 q hq), fun q hq => va_Nw.warmD hW (h.2.2.2.2.2.2.2 q hq)⟩
theorem EV_same {K : EK} {u U : State} (hv : u.vm = U.vm) (h : EV K u) : EV K U := by
  have hA : u.vm.Alike U.vm := by rw [hv]; exact Vm.Alike.refl U.vm
  exact ⟨va_K.moved hA h.1, fun q hq => va_Nw.same rfl hv (h.2.1 q hq), fun q hq => va_Nw.same rfl hv (h.2.2.1 q hq), va_AO.moved hA h.2.2.2.1, fun q hq => va_Nw.same rfl hv (h.2.2.2.2.1 q hq), fun q hq => by
    obtain ⟨a, ha⟩ := h.2.2.2.2.2.1 q hq
    exact ⟨a, vk_R.same hv.symm ha⟩, fun q hq => va_Nc.moved hA (h.2.2.2.2.2.2.1 q hq), fun q hq => va_Nw.same rfl hv (h.2.2.2.2.2.2.2 q hq)⟩
/-! rooms by levels -/
abbrev rmL (L mc ms : Nat) : Room := { frames := L, cells := mc, slots := ms, locals := 40 * L }
/-! what a method starts from -/
def NF : Nat → Prop := fun _ => False
def ZS (A : Nat → Prop) (U : State) (H : Heap) : Prop := vx_Zq Bundle.tN "UNASSIGNED_STACK" Bundle.steD A U H ∧ vx_Zq Bundle.tN "SUPPRESSED_SENTINEL" Bundle.listD A U H
def PR (K : EK) (ws : va_W) (U : State) : Prop := EV K U ∧ va_P K.1 vwCl ws U.heap
def PX (K : EK) (ws : va_W) (U : State) : Prop := EV K U ∧ va_P K.1 vwCl ws U.heap ∧ ZS (fun q => U.heap.size ≤ q) U U.heap
def PW (K : EK) (sz : Nat) (ws : va_W) (U : State) : Prop := EV K U ∧ U.heap.size = sz ∧ va_P K.1 vwCl ws U.heap ∧ va_D (fun _ => True) ws
def PY (K : EK) (sz : Nat) (ws : va_W) (U : State) : Prop := PW K sz ws U ∧ ZS (va_A ws sz) U U.heap
def Bw {S : Type} (K : EK) (sz : Nat) (ws : va_W) (w1 : S → va_W) : S → State → Prop := fun u t => va_P K.1 vwCl (w1 u) t.heap ∧ va_D (va_A ws sz) (w1 u)
def XX (bx : String → Prop) : String → State → State → Prop := vx_X (fun _ : Unit => True) (fun E _ _ => bx E) NF
def SV (post : Prop) : Array Value → State → Outcome → State → Prop := fun _ st o t => o = .returned none ∧ post ∧ t.heap = st.heap
/-- no new heap at an answer: the answer is a cell that is there -/
def SA (post : Nat → Prop) : Array Value → State → Outcome → State → Prop := fun _ st o t => ∃ r : Nat, o = .returned (some (.ref r)) ∧ post r ∧ t.heap = st.heap
def RC (C : String) (o : Nat) (wc : va_W) : Prop := ∃ (k ci : Nat) (fs : List Value) (q : vw_C), wc[k]? = some (o, .inr (ci, fs)) ∧ vwCl[ci]? = some q ∧ q.1 = C
theorem PR_blind {K : EK} {ws : va_W} {av : List Value} : FrameBlind (va_Pc av (PR K ws)) := fun _ _ _ _ q => ⟨q.1, EV_same rfl q.2.1, q.2.2⟩
theorem PW_blind {K : EK} {sz : Nat} {ws : va_W} {av : List Value} : FrameBlind (va_Pc av (PW K sz ws)) := fun _ _ _ _ q => ⟨q.1, EV_same rfl q.2.1, q.2.2⟩
theorem ZS_moved {A : Nat → Prop} {u U : State} {H : Heap} (hvm : u.vm.Alike U.vm) (h : ZS A u H) : ZS A U H := ⟨vx_Zq.moved hvm h.1, vx_Zq.moved hvm h.2⟩
theorem ZS_kept {A : Nat → Prop} {U : State} {H H1 : Heap} (h : ZS A U H) (hq : ∀ a : Nat, a < H.size → ¬ A a → H1[a]? = H[a]?) : ZS A U H1 := ⟨vx_Zq.kept h.1 hq, vx_Zq.kept h.2 hq⟩
theorem ZS_narrow {A B : Nat → Prop} {U : State} {H : Heap} (h : ZS A U H) (hAB : ∀ q, B q → A q) : ZS B U H := ⟨vx_Zq.narrow h.1 hAB, vx_Zq.narrow h.2 hAB⟩
theorem PX_blind {K : EK} {ws : va_W} {av : List Value} : FrameBlind (va_Pc av (PX K ws)) := fun _ U _ _ q => ⟨q.1, EV_same rfl q.2.1, q.2.2.1, ZS_moved (Vm.Alike.refl U.vm) q.2.2.2⟩
theorem PY_blind {K : EK} {sz : Nat} {ws : va_W} {av : List Value} : FrameBlind (va_Pc av (PY K sz ws)) := fun _ U _ _ q => ⟨q.1, ⟨EV_same rfl q.2.1.1, q.2.1.2⟩, ZS_moved (Vm.Alike.refl U.vm) q.2.2⟩
theorem ms_fm {α β : Type} {f : α → Option β} : ∀ {is : List α} {l : List β}, is.map f = l.map some → is.filterMap f = l
  | [], [], _ => rfl
  | [], _ :: _, h => by cases h
  | _ :: _, [], h => by cases h
  | i :: is, x :: l, h => by
    simp only [List.map_cons, List.cons.injEq] at h
    rw [List.filterMap_cons, h.1, ms_fm h.2]
/-! heads of bodies -/
theorem ofWF {l : Launch} {y : MethodName} {ws ws' : List Cond} {rm : Room} {Pc : Array Value → State → Prop} {Qc : Array Value → State → Outcome → State → Prop} {mc ms : Nat} {free : Addr → Prop} {cc : ByteArray} {maxL : Nat} {ret : Option FieldType}
    (hy : plainFor y = true) (hw : ws = Cond.code y cc maxL ret :: ws')
    (body : ∀ p e s m args below meth c s₁, BodyLoose p l y (headSpec ws rm) cc maxL ret e s m args below meth c s₁ → c.maxLocals = maxL → Pc args s →
      W p l e (headSpec ws rm).room s m args below meth c s.heap [] 0 0 (MQ below Qc args s mc ms free) (entryFrame m args maxL)) : Met l y ws rm Pc Qc mc ms free := by
  refine MetFree.of_bodySF (code := cc) (maxLocals := maxL) (ret := ret) hy ?_ ?_
  · intro args s m h hn
    obtain ⟨meth, c, h1, h2, h3, h4, h5, h6, -, -⟩ := Cond.code_spec hn (atoms_spec (ws := ws) h _ (by rw [hw]; exact List.mem_cons_self))
    exact ⟨meth, c, h1, h2, h3, h4, h5, h6⟩
  · intro p e s m args below meth c s₁ B hml hP _
    have hh0 : s₁.heap = s.heap := by rw [B.state]; rfl
    obtain ⟨t, a1, o, b1, b2, b3⟩ := body p e s m args below meth c s₁ B hml hP s₁ hh0 (Stand.of_body B)
    exact ⟨t, o, a1, b1, b2, ⟨b3.1, b3.2⟩⟩
section HD
variable {l : Launch} {y : MethodName} {b : ByteArray} {mL : Nat} {rt : Option FieldType} {rm : Room} {K : EK} {ws : va_W} {av : List Value} {Qc : Array Value → State → Outcome → State → Prop}
theorem hdR (hy : plainFor y = true) (hav : (lg_sl av).length ≤ mL)
    (body : ∀ (p : Program) (e : Env) (s : State) (m : MethodId) (below : List Frame) (meth : Method) (c : Code), p.tables.exec = Jvm.exec → c.code = b → meth.sig.returnType = rt → meth.locks = false → c.maxLocals = mL → s.vm.findClass y.cls = some m.cls → (∀ w ∈ WA, w.before av.toArray s = true) → EV K s → va_P K.1 vwCl ws s.heap →
      ∀ ls : Array Slot, lv_has ls mL (lv_args 0 av) → W p l e rm s m av.toArray below meth c s.heap [] 0 0 (MQ below Qc av.toArray s 0 0 NF) (F0 m 0 ls [])) : Met l y (wq y b mL rt) rm (va_Pc av (PR K ws)) Qc 0 0 NF := by
  refine ofWF (cc := b) (maxL := mL) (ret := rt) hy rfl ?_
  intro p e s m args below meth c s₁ B hml hv
  obtain ⟨rfl, hE, hP⟩ := hv
  have hts := atoms_spec (ws := wq y b mL rt) B.pre
  have hl := lv_entry av (n := mL) hav
  rw [lg_entry_eq]
  generalize (lg_sl av ++ List.replicate (mL - (lg_sl av).length) Slot.unset).toArray = ls at hl ⊢
  exact body p e s m below meth c B.exec B.bytes B.returns B.notSynchronized hml (findClass_of_methodNamed B.named) (fun w h => hts w (List.mem_cons_of_mem _ h)) hE hP ls hl
theorem hdW {sz mc ms : Nat} (hy : plainFor y = true) (hav : (lg_sl av).length ≤ mL)
    (body : ∀ (p : Program) (e : Env) (s : State) (m : MethodId) (below : List Frame) (meth : Method) (c : Code), p.tables.exec = Jvm.exec → c.code = b → meth.sig.returnType = rt → meth.locks = false → c.maxLocals = mL → s.vm.findClass y.cls = some m.cls → meth.name = y.name → (∀ w ∈ WA, w.before av.toArray s = true) → EV K s → va_P K.1 vwCl ws s.heap →
      ∀ A : Nat → Prop, A = va_A ws sz → s.heap.size = sz → (∀ q : Nat, s.heap.size ≤ q → A q) → va_D A ws → va_S A s.heap s.heap [] →
      ∀ ls : Array Slot, lv_has ls mL (lv_args 0 av) → W p l e rm s m av.toArray below meth c s.heap [] 0 0 (MQ below Qc av.toArray s mc ms A) (F0 m 0 ls [])) : Met l y (wq y b mL rt) rm (va_Pc av (PW K sz ws)) Qc mc ms (va_A ws sz) := by
  refine ofWF (cc := b) (maxL := mL) (ret := rt) hy rfl ?_
  intro p e s m args below meth c s₁ B hml hv
  obtain ⟨rfl, hE, hz, hP, hD⟩ := hv
  have hts := atoms_spec (ws := wq y b mL rt) B.pre
  have hl := lv_entry av (n := mL) hav
  rw [lg_entry_eq]
  generalize (lg_sl av ++ List.replicate (mL - (lg_sl av).length) Slot.unset).toArray = ls at hl ⊢
  exact body p e s m below meth c B.exec B.bytes B.returns B.notSynchronized hml (findClass_of_methodNamed B.named) (name_of_methodNamed B.named B.method).1 (fun w h => hts w (List.mem_cons_of_mem _ h)) hE hP _ rfl hz (fun q h => Or.inr (by rw [← hz]; exact h)) hD.self va_S.rf ls hl
theorem hdX {mc ms : Nat} {XC : String → State → State → Prop} (hy : plainName y.cls = true) (hav : (lg_sl av).length ≤ mL)
    (body : ∀ (p : Program) (e : Env) (s : State) (m : MethodId) (below : List Frame) (meth : Method) (c : Code), p.tables.exec = Jvm.exec → c.code = b → meth.sig.returnType = rt → meth.locks = false → c.maxLocals = mL → s.vm.findClass y.cls = some m.cls → (∀ w ∈ WA, w.before av.toArray s = true) → (∀ x ∈ c.exceptionTable.toList, False) → EV K s → va_P K.1 vwCl ws s.heap →
      ∀ A : Nat → Prop, (∀ q : Nat, s.heap.size ≤ q → A q) → ZS A s s.heap →
      ∀ ls : Array Slot, lv_has ls mL (lv_args 0 av) → W p l e rm s m av.toArray below meth c s.heap [] 0 0 (vx_MQ below Qc XC av.toArray s mc ms NF) (F0 m 0 ls [])) : vx_Met l y (wq y b mL rt) rm (va_Pc av (PX K ws)) Qc XC mc ms NF := by
  refine vx_ofW (cc := b) (maxL := mL) (ret := rt) hy rfl ?_
  intro p e s m args below meth c s₁ B hml htab hv
  obtain ⟨rfl, hE, hP, hZ⟩ := hv
  have hts := atoms_spec (ws := wq y b mL rt) B.pre
  have hl := lv_entry av (n := mL) hav
  rw [lg_entry_eq]
  generalize (lg_sl av ++ List.replicate (mL - (lg_sl av).length) Slot.unset).toArray = ls at hl ⊢
  exact body p e s m below meth c B.exec B.bytes B.returns B.notSynchronized hml (findClass_of_methodNamed B.named) (fun w h => hts w (List.mem_cons_of_mem _ h)) htab hE hP _ (fun q h => h) hZ ls hl
theorem hdY {sz mc ms : Nat} {XC : String → State → State → Prop} (hy : plainName y.cls = true) (hav : (lg_sl av).length ≤ mL)
    (body : ∀ (p : Program) (e : Env) (s : State) (m : MethodId) (below : List Frame) (meth : Method) (c : Code), p.tables.exec = Jvm.exec → c.code = b → meth.sig.returnType = rt → meth.locks = false → c.maxLocals = mL → s.vm.findClass y.cls = some m.cls → (∀ w ∈ WA, w.before av.toArray s = true) → (∀ x ∈ c.exceptionTable.toList, False) → EV K s → va_P K.1 vwCl ws s.heap →
      ∀ A : Nat → Prop, A = va_A ws sz → s.heap.size = sz → (∀ q : Nat, s.heap.size ≤ q → A q) → va_D A ws → va_S A s.heap s.heap [] → ZS A s s.heap →
      ∀ ls : Array Slot, lv_has ls mL (lv_args 0 av) → W p l e rm s m av.toArray below meth c s.heap [] 0 0 (vx_MQ below Qc XC av.toArray s mc ms A) (F0 m 0 ls [])) : vx_Met l y (wq y b mL rt) rm (va_Pc av (PY K sz ws)) Qc XC mc ms (va_A ws sz) := by
  refine vx_ofW (cc := b) (maxL := mL) (ret := rt) hy rfl ?_
  intro p e s m args below meth c s₁ B hml htab hv
  obtain ⟨rfl, ⟨hE, hz, hP, hD⟩, hZ⟩ := hv
  have hts := atoms_spec (ws := wq y b mL rt) B.pre
  have hl := lv_entry av (n := mL) hav
  rw [lg_entry_eq]
  generalize (lg_sl av ++ List.replicate (mL - (lg_sl av).length) Slot.unset).toArray = ls at hl ⊢
  exact body p e s m below meth c B.exec B.bytes B.returns B.notSynchronized hml (findClass_of_methodNamed B.named) (fun w h => hts w (List.mem_cons_of_mem _ h)) htab hE hP _ rfl hz (fun q h => Or.inr (by rw [← hz]; exact h)) hD.self va_S.rf hZ ls hl
end HD
end
section
/-! ends, and calls: readers, writers, checkers -/
section EC
variable {p : Program} {l : Launch} {e : Env} {R : Room} {s : State} {m : MethodId} {args : Array Value} {below : List Frame} {meth : Method} {c : Code} {H : Heap} {locs : List Loc} {cells slots mc ms : Nat} {Q : State → Prop} {cc : ByteArray} {pc : Nat} {ls : Array Slot} {free : Addr → Prop}
theorem eI {post : Int32 → Prop} {v : Int32} (hx : p.tables.exec = Jvm.exec) (hb : c.code = cc) (hr : meth.sig.returnType = some .int) (hlocks : meth.locks = false) (hp : post v) (hdg : decode cc pc = .ok (.ireturn, 1)) : W p l e R s m args below meth c s.heap [] cells slots (MQ below (vp_Si post) args s cells slots free) (F0 m pc ls [.int v]) :=
  W.iret (v := v) hx hb hr (fun _ ht _ => ⟨v, rfl, hp, ht⟩) (fun _ h => nomatch h) hdg hlocks
theorem eZ {post : Int32 → Prop} {v : Int32} (hx : p.tables.exec = Jvm.exec) (hb : c.code = cc) (hr : meth.sig.returnType = some .boolean) (hlocks : meth.locks = false) (h01 : v = 0 ∨ v = 1) (hp : post v) (hdg : decode cc pc = .ok (.ireturn, 1)) : W p l e R s m args below meth c s.heap [] cells slots (MQ below (vp_Si post) args s cells slots free) (F0 m pc ls [.int v]) :=
  W.zret (v := v) hx hb hr (by rcases h01 with rfl | rfl <;> rfl) (fun _ ht _ => ⟨v, rfl, hp, ht⟩) (fun _ h => nomatch h) hdg hlocks
theorem eL {post : Int64 → Prop} {v : Int64} (hx : p.tables.exec = Jvm.exec) (hb : c.code = cc) (hr : meth.sig.returnType = some .long) (hlocks : meth.locks = false) (hp : post v) (hdg : decode cc pc = .ok (.lreturn, 1)) : W p l e R s m args below meth c s.heap [] cells slots (MQ below (vp_Sl post) args s cells slots free) (F0 m pc ls [.long v]) :=
  W.lret (v := v) hx hb hr (fun _ ht _ => ⟨v, rfl, hp, ht⟩) (fun _ h => nomatch h) hdg hlocks
theorem eD {post : UInt64 → Prop} {v : UInt64} (hx : p.tables.exec = Jvm.exec) (hb : c.code = cc) (hr : meth.sig.returnType = some .double) (hlocks : meth.locks = false) (hp : post v) (hdg : decode cc pc = .ok (.dreturn, 1)) : W p l e R s m args below meth c s.heap [] cells slots (MQ below (vp_Sd post) args s cells slots free) (F0 m pc ls [.double v]) :=
  W.dret (v := v) hx hb hr (fun _ ht _ => ⟨v, rfl, hp, ht⟩) (fun _ h => nomatch h) hdg hlocks
theorem eV {post : Prop} (hx : p.tables.exec = Jvm.exec) (hb : c.code = cc) (hr : meth.sig.returnType = none) (hlocks : meth.locks = false) (hp : post) (hdg : decode cc pc = .ok (.return_, 1)) : W p l e R s m args below meth c s.heap [] cells slots (MQ below (SV post) args s cells slots free) (F0 m pc ls []) :=
  W.vret hx hb hr (fun _ ht _ => ⟨rfl, hp, ht⟩) (fun _ h => nomatch h) hdg hlocks
theorem eA {post : Nat → Prop} {v : Nat} {C : String} (hx : p.tables.exec = Jvm.exec) (hb : c.code = cc) (hr : meth.sig.returnType = some (.object C)) (hlocks : meth.locks = false) (hp : post v) (hdg : decode cc pc = .ok (.areturn, 1)) : W p l e R s m args below meth c s.heap [] cells slots (MQ below (SA post) args s cells slots free) (F0 m pc ls [.ref v]) :=
  W.aret (v := .ref v) hx hb hr (Or.inl ⟨C, rfl⟩) (Or.inr ⟨v, rfl⟩) (fun _ ht _ => ⟨v, rfl, hp, ht⟩) (fun _ h => nomatch h) hdg hlocks
/-- ends of writers: the world behind, in the order of the contract -/
theorem fI {S : Type} {post : Int32 → S → Prop} {K : EK} {sz : Nat} {ws wf : va_W} {w1 : S → va_W} {A : Nat → Prop} {v : Int32} (u : S) (hx : p.tables.exec = Jvm.exec) (hb : c.code = cc) (hr : meth.sig.returnType = some .int) (hlocks : meth.locks = false) (hAe : A = va_A ws sz) (hP : va_P K.1 vwCl wf H) (hD : va_D A wf) (hS : va_S A s.heap H locs) (is : List Nat) (hn : va_nd is = true) (hs : is.map (fun i => wf[i]?) = (w1 u).map some) (hp : post v u) (hdg : decode cc pc = .ok (.ireturn, 1)) :
    W p l e R s m args below meth c H locs cells slots (MQ below (va_Qi post (Bw K sz ws w1) (va_A ws sz)) args s cells slots A) (F0 m pc ls [.int v]) := by
  subst hAe
  exact W.iret (v := v) hx hb hr (fun t ht _ => ⟨⟨v, u, rfl, hp, by rw [ht]; exact hP.sub is (ms_fm hs), hD.sub is hn hs⟩, hS.F ht⟩) hS.2.2 hdg hlocks
theorem fZ {S : Type} {post : Int32 → S → Prop} {K : EK} {sz : Nat} {ws wf : va_W} {w1 : S → va_W} {A : Nat → Prop} {v : Int32} (u : S) (hx : p.tables.exec = Jvm.exec) (hb : c.code = cc) (hr : meth.sig.returnType = some .boolean) (hlocks : meth.locks = false) (hAe : A = va_A ws sz) (hP : va_P K.1 vwCl wf H) (hD : va_D A wf) (hS : va_S A s.heap H locs) (is : List Nat) (hn : va_nd is = true) (hs : is.map (fun i => wf[i]?) = (w1 u).map some) (h01 : v = 0 ∨ v = 1) (hp : post v u) (hdg : decode cc pc = .ok (.ireturn, 1)) :
    W p l e R s m args below meth c H locs cells slots (MQ below (va_Qi post (Bw K sz ws w1) (va_A ws sz)) args s cells slots A) (F0 m pc ls [.int v]) := by
  subst hAe
  exact W.zret (v := v) hx hb hr (by rcases h01 with rfl | rfl <;> rfl) (fun t ht _ => ⟨⟨v, u, rfl, hp, by rw [ht]; exact hP.sub is (ms_fm hs), hD.sub is hn hs⟩, hS.F ht⟩) hS.2.2 hdg hlocks
theorem fL {S : Type} {post : Int64 → S → Prop} {K : EK} {sz : Nat} {ws wf : va_W} {w1 : S → va_W} {A : Nat → Prop} {v : Int64} (u : S) (hx : p.tables.exec = Jvm.exec) (hb : c.code = cc) (hr : meth.sig.returnType = some .long) (hlocks : meth.locks = false) (hAe : A = va_A ws sz) (hP : va_P K.1 vwCl wf H) (hD : va_D A wf) (hS : va_S A s.heap H locs) (is : List Nat) (hn : va_nd is = true) (hs : is.map (fun i => wf[i]?) = (w1 u).map some) (hp : post v u) (hdg : decode cc pc = .ok (.lreturn, 1)) :
    W p l e R s m args below meth c H locs cells slots (MQ below (va_Ql post (Bw K sz ws w1) (va_A ws sz)) args s cells slots A) (F0 m pc ls [.long v]) := by
  subst hAe
  exact W.lret (v := v) hx hb hr (fun t ht _ => ⟨⟨v, u, rfl, hp, by rw [ht]; exact hP.sub is (ms_fm hs), hD.sub is hn hs⟩, hS.F ht⟩) hS.2.2 hdg hlocks
theorem fD {S : Type} {post : UInt64 → S → Prop} {K : EK} {sz : Nat} {ws wf : va_W} {w1 : S → va_W} {A : Nat → Prop} {v : UInt64} (u : S) (hx : p.tables.exec = Jvm.exec) (hb : c.code = cc) (hr : meth.sig.returnType = some .double) (hlocks : meth.locks = false) (hAe : A = va_A ws sz) (hP : va_P K.1 vwCl wf H) (hD : va_D A wf) (hS : va_S A s.heap H locs) (is : List Nat) (hn : va_nd is = true) (hs : is.map (fun i => wf[i]?) = (w1 u).map some) (hp : post v u) (hdg : decode cc pc = .ok (.dreturn, 1)) :
    W p l e R s m args below meth c H locs cells slots (MQ below (va_Qd post (Bw K sz ws w1) (va_A ws sz)) args s cells slots A) (F0 m pc ls [.double v]) := by
  subst hAe
  exact W.dret (v := v) hx hb hr (fun t ht _ => ⟨⟨v, u, rfl, hp, by rw [ht]; exact hP.sub is (ms_fm hs), hD.sub is hn hs⟩, hS.F ht⟩) hS.2.2 hdg hlocks
theorem fV {S : Type} {post : S → Prop} {K : EK} {sz : Nat} {ws wf : va_W} {w1 : S → va_W} {A : Nat → Prop} (u : S) (hx : p.tables.exec = Jvm.exec) (hb : c.code = cc) (hr : meth.sig.returnType = none) (hlocks : meth.locks = false) (hAe : A = va_A ws sz) (hP : va_P K.1 vwCl wf H) (hD : va_D A wf) (hS : va_S A s.heap H locs) (is : List Nat) (hn : va_nd is = true) (hs : is.map (fun i => wf[i]?) = (w1 u).map some) (hp : post u) (hdg : decode cc pc = .ok (.return_, 1)) :
    W p l e R s m args below meth c H locs cells slots (MQ below (va_Qv post (Bw K sz ws w1) (va_A ws sz)) args s cells slots A) (F0 m pc ls []) := by
  subst hAe
  exact W.vret hx hb hr (fun t ht _ => ⟨⟨u, rfl, hp, by rw [ht]; exact hP.sub is (ms_fm hs), hD.sub is hn hs⟩, hS.F ht⟩) hS.2.2 hdg hlocks
/-- a join: what comes behind, once for all values on top -/
theorem jn {P : Int32 → Prop} (pcJ : Nat) (rest : List Value) {st0 : List Value} (h1 : ∀ v, P v → W p l e R s m args below meth c H locs cells slots Q (F0 m pcJ ls (.int v :: rest))) (h2 : (∀ v, P v → W p l e R s m args below meth c H locs cells slots Q (F0 m pcJ ls (.int v :: rest))) → W p l e R s m args below meth c H locs cells slots Q (F0 m pc ls st0)) : W p l e R s m args below meth c H locs cells slots Q (F0 m pc ls st0) := h2 h1
theorem jnL {P : Int64 → Prop} (pcJ : Nat) (rest : List Value) {st0 : List Value} (h1 : ∀ v, P v → W p l e R s m args below meth c H locs cells slots Q (F0 m pcJ ls (.long v :: rest))) (h2 : (∀ v, P v → W p l e R s m args below meth c H locs cells slots Q (F0 m pcJ ls (.long v :: rest))) → W p l e R s m args below meth c H locs cells slots Q (F0 m pc ls st0)) : W p l e R s m args below meth c H locs cells slots Q (F0 m pc ls st0) := h2 h1
/-- a join without a value -/
theorem jn0 (pcJ : Nat) {st1 st0 : List Value} (h1 : W p l e R s m args below meth c H locs cells slots Q (F0 m pcJ ls st1)) (h2 : W p l e R s m args below meth c H locs cells slots Q (F0 m pcJ ls st1) → W p l e R s m args below meth c H locs cells slots Q (F0 m pc ls st0)) : W p l e R s m args below meth c H locs cells slots Q (F0 m pc ls st0) := h2 h1
/-- a loop that only reads: its locals by a list, a measure that falls -/
theorem lpR {α : Type} (I : α → Prop) (μ : α → Nat) (LV : α → List (Nat × Value)) (nL pcH : Nat)
    (body : ∀ a : α, I a → (∀ b : α, I b → μ b < μ a → ∀ ls : Array Slot, lv_has ls nL (LV b) → W p l e R s m args below meth c H locs cells slots Q (F0 m pcH ls [])) → ∀ ls : Array Slot, lv_has ls nL (LV a) → W p l e R s m args below meth c H locs cells slots Q (F0 m pcH ls [])) :
    ∀ a : α, I a → ∀ ls : Array Slot, lv_has ls nL (LV a) → W p l e R s m args below meth c H locs cells slots Q (F0 m pcH ls []) := by
  have key : ∀ (n : Nat) (a : α), μ a < n → I a → ∀ ls : Array Slot, lv_has ls nL (LV a) → W p l e R s m args below meth c H locs cells slots Q (F0 m pcH ls []) := by
    intro n
    induction n with
    | zero => intro a h; exact absurd h (Nat.not_lt_zero _)
    | succ n ih => intro a h ha; exact body a ha (fun b hb hm => ih b (by omega) hb)
  exact fun a ha => key (μ a + 1) a (Nat.lt_succ_self _) ha
/-- a loop that writes its world -/
theorem lpW {α : Type} {K : EK} {A : Nat → Prop} {H0 : Heap} (I : α → Prop) (μ : α → Nat) (LV : α → List (Nat × Value)) (WS : α → va_W) (nL pcH : Nat)
    (body : ∀ a : α, I a → (∀ b : α, I b → μ b < μ a → ∀ (ls : Array Slot) (H : Heap) (locs : List Loc), lv_has ls nL (LV b) → va_P K.1 vwCl (WS b) H → va_D A (WS b) → va_S A H0 H locs → W p l e R s m args below meth c H locs cells slots Q (F0 m pcH ls [])) → ∀ (ls : Array Slot) (H : Heap) (locs : List Loc), lv_has ls nL (LV a) → va_P K.1 vwCl (WS a) H → va_D A (WS a) → va_S A H0 H locs → W p l e R s m args below meth c H locs cells slots Q (F0 m pcH ls [])) :
    ∀ a : α, I a → ∀ (ls : Array Slot) (H : Heap) (locs : List Loc), lv_has ls nL (LV a) → va_P K.1 vwCl (WS a) H → va_D A (WS a) → va_S A H0 H locs → W p l e R s m args below meth c H locs cells slots Q (F0 m pcH ls []) := by
  have key : ∀ (n : Nat) (a : α), μ a < n → I a → ∀ (ls : Array Slot) (H : Heap) (locs : List Loc), lv_has ls nL (LV a) → va_P K.1 vwCl (WS a) H → va_D A (WS a) → va_S A H0 H locs → W p l e R s m args below meth c H locs cells slots Q (F0 m pcH ls []) := by
    intro n
    induction n with
    | zero => intro a h; exact absurd h (Nat.not_lt_zero _)
    | succ n ih => intro a h ha; exact body a ha (fun b hb hm => ih b (by omega) hb)
  exact fun a ha => key (μ a + 1) a (Nat.lt_succ_self _) ha
end EC
theorem run_call {p : Program} {l : Launch} {e : Env} {R : Room} {s : State} {m : MethodId} {args : Array Value} {below : List Frame} {meth : Method} {c : Code} {H : Heap} {locs : List Loc} {cells slots mc ms : Nat} {g : JFrame} {rest : List Value} {Qa : State → Outcome → State → Prop} {free : Addr → Prop} (h : va_Run p l e R s m args below meth c H locs cells slots mc ms g rest Qa free) : CallRun p l e R s m args below meth c H locs cells slots mc ms g rest Qa free := by
  intro T hT X
  obtain ⟨v, st₀, t, T', L, h0, X', hL, e1, -, hq, st⟩ := h T hT X
  exact ⟨v, st₀, t, T', L, h0, X', hL, e1, hq, st⟩
section RD
variable {p : Program} {l : Launch} {e : Env} {R : Room} {s : State} {m : MethodId} {args : Array Value} {below : List Frame} {meth : Method} {c : Code} {H : Heap} {locs : List Loc} {cells slots : Nat} {Q : State → Prop} {cc : ByteArray} {pc : Nat} {ls : Array Slot} {st0 : List Value}
variable {y : MethodName} {b : ByteArray} {mL nL idx o : Nat} {rt : Option FieldType} {rm : Room} {K : EK} {ws wc : va_W} {own : String}
abbrev okN (y : MethodName) (n : Nat) : Prop := y.cls ≠ "java/lang/invoke/MethodHandle" ∧ y.cls ≠ "java/lang/invoke/VarHandle" ∧ (parseMethodDescriptor y.desc).map (fun d => d.parameters.length) = some n
abbrev okR (R rm : Room) (mL : Nat) : Prop := (rm.frames + 1 ≤ R.frames ∧ 8 + (mL + 11) + rm.locals ≤ R.locals) ∧ rm.cells = 0 ∧ rm.slots = 0
theorem rd_recv {C : String} {H : Heap} (hE : EV K s) (hP : va_P K.1 vwCl wc H) (h : RC C o wc) : ∃ cellB : Cell, H[o]? = some cellB ∧ cellB.vm.isStatics = false ∧ s.vm.findClass C = some cellB.cls := by
  obtain ⟨k, ci, fs, q, h1, h2, rfl⟩ := h
  exact va_recv hE.1 hP (ci := ci) (q0 := k) h2 h1
/-- a reader, called on an object -/
theorem rdV {Qc : Array Value → State → Outcome → State → Prop} {As rest : List Value} (hM : Met l y (wq y b mL rt) rm (va_Pc (.ref o :: As) (PR K wc)) Qc 0 0 NF) (S : CallFix p m c cc nL s args WA own) (hg : GoodIn WA (wsV own idx y.cls y (wq y b mL rt))) (hd : okN y As.length) (hR : okR R rm mL) (hE : EV K s) (hP : va_P K.1 vwCl ws H) (is : List Nat) (hs : is.map (fun i => ws[i]?) = wc.map some) (hrc : RC y.cls o wc)
    (hsize : ls.size = nL) (hst : st0 = As.reverse ++ .ref o :: rest) (hcat : (rest.map fun v => v.category).sum ≤ 8) (hdg : decode cc pc = .ok (.invokevirtual idx, 3)) (hc : cells ≤ R.cells ∧ slots ≤ R.slots) : CallRun p l e R s m args below meth c H locs cells slots 0 0 (F0 m pc ls st0) rest (Qc (Value.ref o :: As).toArray) NF := by
  have hP2 := hP.sub is (ms_fm hs)
  exact W.runV (As := As) (rest := rest) S hM (cwV As.length S.2.2.2.2 hg rfl hR.2.1 hR.2.2 ⟨rfl, hd⟩ hR.1) ⟨PR_blind, rd_recv hE hP2 hrc, fun U hU hW => ⟨rfl, EV_warm hW hE, by rw [hU]; exact hP2⟩⟩ rfl rfl hsize hst (lv_room hcat) hdg hc
theorem rdS {Qc : Array Value → State → Outcome → State → Prop} {As rest : List Value} (hM : Met l y (wq y b mL rt) rm (va_Pc As (PR K wc)) Qc 0 0 NF) (S : CallFix p m c cc nL s args WA own) (hg : GoodIn WA (va_wsS own idx y (wq y b mL rt))) (hd : okN y As.length) (hR : okR R rm mL) (hE : EV K s) (hP : va_P K.1 vwCl ws H) (is : List Nat) (hs : is.map (fun i => ws[i]?) = wc.map some)
    (hsize : ls.size = nL) (hst : st0 = As.reverse ++ rest) (hcat : (rest.map fun v => v.category).sum ≤ 8) (hdg : decode cc pc = .ok (.invokestatic idx, 3)) (hc : cells ≤ R.cells ∧ slots ≤ R.slots) : CallRun p l e R s m args below meth c H locs cells slots 0 0 (F0 m pc ls st0) rest (Qc As.toArray) NF := by
  have hP2 := hP.sub is (ms_fm hs)
  exact W.runS (As := As) (rest := rest) S hM (va_cwS As.length S.2.2.2.2 hg rfl hR.2.1 hR.2.2 hd hR.1) ⟨PR_blind, fun U hU hW => ⟨rfl, EV_warm hW hE, by rw [hU]; exact hP2⟩⟩ rfl rfl hsize hst (lv_room hcat) hdg hc
theorem rdN {Qc : Array Value → State → Outcome → State → Prop} {host : String} {As rest : List Value} (hM : Met l y (wq y b mL rt) rm (va_Pc As (PR K wc)) Qc 0 0 NF) (S : CallFix p m c cc nL s args WA own) (hg : Cond.code y b mL rt ∈ WA ∧ Cond.static y ∈ WA ∧ Cond.initialized y.cls ∈ WA ∧ (own, idx, y, host) ∈ nsM) (hd : okN y As.length) (hR : okR R rm mL) (hE : EV K s) (hP : va_P K.1 vwCl ws H) (is : List Nat) (hs : is.map (fun i => ws[i]?) = wc.map some)
    (hsize : ls.size = nL) (hst : st0 = As.reverse ++ rest) (hcat : (rest.map fun v => v.category).sum ≤ 8) (hdg : decode cc pc = .ok (.invokestatic idx, 3)) (hc : cells ≤ R.cells ∧ slots ≤ R.slots) : CallRun p l e R s m args below meth c H locs cells slots 0 0 (F0 m pc ls st0) rest (Qc As.toArray) NF := by
  have hP2 := hP.sub is (ms_fm hs)
  exact run_call (va_runSN (As := As) (rest := rest) (host := host) S hM ⟨va_cnB As.length S.2.2.2.2 (gC hg.1) rfl hR.2.1 hR.2.2 (hE.2.2.1 _ hg.2.2.2) (S.2.2.2.2 _ hg.2.2.1) hd hR.1, S.2.2.2.2 _ hg.2.1, trivial⟩ ⟨PR_blind, fun U hU hW => ⟨rfl, EV_warm hW hE, by rw [hU]; exact hP2⟩⟩ rfl rfl hsize hst (lv_room hcat) hdg hc)
theorem goI {post : Int32 → Prop} {a : Array Value} {rest : List Value} (hr : CallRun p l e R s m args below meth c H locs cells slots 0 0 (F0 m pc ls st0) rest (vp_Si post a) NF) (kk : ∀ r : Int32, post r → W p l e R s m args below meth c H locs cells slots Q (F0 m (pc + 3) ls (.int r :: rest))) : W p l e R s m args below meth c H locs cells slots Q (F0 m pc ls st0) := vp_callSi hr kk
theorem goL {post : Int64 → Prop} {a : Array Value} {rest : List Value} (hr : CallRun p l e R s m args below meth c H locs cells slots 0 0 (F0 m pc ls st0) rest (vp_Sl post a) NF) (kk : ∀ r : Int64, post r → W p l e R s m args below meth c H locs cells slots Q (F0 m (pc + 3) ls (.long r :: rest))) : W p l e R s m args below meth c H locs cells slots Q (F0 m pc ls st0) := vp_callSl hr kk
theorem goV {post : Prop} {a : Array Value} {rest : List Value} (hr : CallRun p l e R s m args below meth c H locs cells slots 0 0 (F0 m pc ls st0) rest (SV post a) NF) (kk : post → W p l e R s m args below meth c H locs cells slots Q (F0 m (pc + 3) ls rest)) : W p l e R s m args below meth c H locs cells slots Q (F0 m pc ls st0) := by
  intro T hT X
  obtain ⟨v, st₀, t, T', L, h0, X', hL, e1, ⟨hv, hp, hh⟩, st⟩ := hr T hT X
  cases hv
  obtain ⟨t2, a1, b1⟩ := kk hp T' (by rw [e1, hh, h0]) (Stand.forget X' (fun q h => (hL q h).elim))
  exact ⟨t2, st t2 a1, b1⟩
theorem goA {post : Nat → Prop} {a : Array Value} {rest : List Value} (hr : CallRun p l e R s m args below meth c H locs cells slots 0 0 (F0 m pc ls st0) rest (SA post a) NF) (kk : ∀ r : Nat, post r → W p l e R s m args below meth c H locs cells slots Q (F0 m (pc + 3) ls (.ref r :: rest))) : W p l e R s m args below meth c H locs cells slots Q (F0 m pc ls st0) := by
  intro T hT X
  obtain ⟨v, st₀, t, T', L, h0, X', hL, e1, ⟨r, hv, hp, hh⟩, st⟩ := hr T hT X
  cases hv
  obtain ⟨t2, a1, b1⟩ := kk r hp T' (by rw [e1, hh, h0]) (Stand.forget X' (fun q h => (hL q h).elim))
  exact ⟨t2, st t2 a1, b1⟩
end RD
section WR
variable {p : Program} {l : Launch} {e : Env} {R : Room} {s : State} {m : MethodId} {args : Array Value} {below : List Frame} {meth : Method} {c : Code} {H : Heap} {locs : List Loc} {cells slots : Nat} {Q : State → Prop} {cc : ByteArray} {pc : Nat} {ls : Array Slot} {st0 : List Value}
variable {y : MethodName} {b : ByteArray} {mL nL idx o mc ms : Nat} {rt : Option FieldType} {rm : Room} {K : EK} {ws wc wr : va_W} {own : String} {A : Nat → Prop}
abbrev okW (R rm : Room) (mL mc ms cells slots : Nat) : Prop := (rm.frames + 1 ≤ R.frames ∧ 8 + (mL + 11) + rm.locals ≤ R.locals) ∧ (rm.cells = mc ∧ rm.slots = ms) ∧ cells + mc ≤ R.cells ∧ slots + ms ≤ R.slots
theorem wrV {Qc : Array Value → State → Outcome → State → Prop} {As rest : List Value} (hM : Met l y (wq y b mL rt) rm (va_Pc (.ref o :: As) (PW K H.size wc)) Qc mc ms (va_A wc H.size)) (S : CallFix p m c cc nL s args WA own) (hg : GoodIn WA (wsV own idx y.cls y (wq y b mL rt))) (hd : okN y As.length) (hR : okW R rm mL mc ms cells slots) (hE : EV K s) (hP : va_P K.1 vwCl ws H) (hD : va_D A ws) (is : List Nat) (hn : va_nd is = true) (hs : is.map (fun i => ws[i]?) = wc.map some) (hrc : RC y.cls o wc)
    (hsize : ls.size = nL) (hst : st0 = As.reverse ++ .ref o :: rest) (hcat : (rest.map fun v => v.category).sum ≤ 8) (hdg : decode cc pc = .ok (.invokevirtual idx, 3)) : va_Run p l e R s m args below meth c H locs cells slots mc ms (F0 m pc ls st0) rest (Qc (Value.ref o :: As).toArray) (va_A wc H.size) := by
  have hP2 := hP.sub is (ms_fm hs)
  have hD2 := hD.sub is hn hs
  exact va_runV (As := As) (rest := rest) S hM (cwV As.length S.2.2.2.2 hg rfl hR.2.1.1 hR.2.1.2 ⟨rfl, hd⟩ hR.1) ⟨PW_blind, rd_recv hE hP2 hrc, fun U hU hW => ⟨rfl, EV_warm hW hE, by rw [hU], by rw [hU]; exact hP2, hD2.weaken (fun _ _ _ _ => trivial)⟩⟩ rfl rfl hsize hst (lv_room hcat) hdg hR.2.2
/-- .. a constructor -/
theorem wrI {Qc : Array Value → State → Outcome → State → Prop} {As rest : List Value} (hM : Met l y (wq y b mL none) rm (va_Pc (.ref o :: As) (PW K H.size wc)) Qc mc ms (va_A wc H.size)) (S : CallFix p m c cc nL s args WA own) (hg : Cond.methodLink own idx y ∈ WA ∧ Cond.instanceMethod y ∈ WA ∧ Cond.initialized y.cls ∈ WA ∧ Cond.code y b mL none ∈ WA ∧ y.name = "<init>") (hd : okN y As.length) (hR : okW R rm mL mc ms cells slots) (hE : EV K s) (hP : va_P K.1 vwCl ws H) (hD : va_D A ws) (is : List Nat) (hn : va_nd is = true) (hs : is.map (fun i => ws[i]?) = wc.map some)
    (hsize : ls.size = nL) (hst : st0 = As.reverse ++ .ref o :: rest) (hcat : (rest.map fun v => v.category).sum ≤ 8) (hdg : decode cc pc = .ok (.invokespecial idx, 3)) : va_Run p l e R s m args below meth c H locs cells slots mc ms (F0 m pc ls st0) rest (Qc (Value.ref o :: As).toArray) (va_A wc H.size) := by
  have hP2 := hP.sub is (ms_fm hs)
  have hD2 := hD.sub is hn hs
  exact va_runI (As := As) (rest := rest) S hM (cwI As.length S.2.2.2.2 (gC hg.2.2.2.1) rfl hR.2.1.1 hR.2.1.2 (S.2.2.2.2 _ hg.2.2.1) (S.2.2.2.2 _ hg.1) (S.2.2.2.2 _ hg.2.1) hg.2.2.2.2 hd hR.1) ⟨PW_blind, fun U hU hW => ⟨rfl, EV_warm hW hE, by rw [hU], by rw [hU]; exact hP2, hD2.weaken (fun _ _ _ _ => trivial)⟩⟩ rfl rfl hsize hst (lv_room hcat) hdg hR.2.2
/-- the world behind a writer: the rest and what came back, in an order of the caller's -/
theorem wr_join {S : Type} {w1 : S → va_W} {H1 : Heap} {u : S} {t : State} (hP : va_P K.1 vwCl ws H) (hD : va_D A ws) (hF : ∀ q, va_A wc H.size q → A q) (isC isR : List Nat) (hC : isC.map (fun i => ws[i]?) = wc.map some) (hRr : isR.map (fun i => ws[i]?) = wr.map some) (hn : va_nd isR = true) (hdis : ∀ i ∈ isR, i ∉ isC) (hk : ∀ q : Nat, q < H.size → ¬ va_A wc H.size q → H1[q]? = H[q]?) (ht : t.heap = H1) (hB : Bw K H.size wc w1 u t) (ip : List Nat) {wf : va_W} (hip : va_nd ip = true) (hf : ip.map (fun i => (wr ++ w1 u)[i]?) = wf.map some) : va_P K.1 vwCl wf H1 ∧ va_D A wf := by
  obtain ⟨h1, h2⟩ := hB
  rw [ht] at h1
  obtain ⟨g1, g2⟩ := va_join hP hD isC isR hC hRr hn hdis hk hF h1 h2
  exact ⟨g1.sub ip (ms_fm hf), g2.sub ip hip hf⟩
abbrev okJ {S : Type} (ws wc wr : va_W) (w1 wf : S → va_W) (isC isR ip : List Nat) : Prop := isC.map (fun i => ws[i]?) = wc.map some ∧ isR.map (fun i => ws[i]?) = wr.map some ∧ va_nd isR = true ∧ (∀ i ∈ isR, i ∉ isC) ∧ va_nd ip = true ∧ ∀ u : S, ip.map (fun i => (wr ++ w1 u)[i]?) = (wf u).map some
theorem woI {S : Type} {post : Int32 → S → Prop} {w1 : S → va_W} {a : Array Value} {rest : List Value} (hr : va_Run p l e R s m args below meth c H locs cells slots mc ms (F0 m pc ls st0) rest (va_Qi post (Bw K H.size wc w1) (va_A wc H.size) a) (va_A wc H.size)) (hP : va_P K.1 vwCl ws H) (hD : va_D A ws) (hS : va_S A s.heap H locs) (hA : ∀ q : Nat, s.heap.size ≤ q → A q) (wr : va_W) (wf : S → va_W) (isC isR ip : List Nat) (J : okJ ws wc wr w1 wf isC isR ip)
    (kk : ∀ (r : Int32) (u : S) (H1 : Heap) (locs1 : List Loc), post r u → va_P K.1 vwCl (wf u) H1 → va_D A (wf u) → va_S A s.heap H1 locs1 → W p l e R s m args below meth c H1 locs1 (cells + mc) (slots + ms) Q (F0 m (pc + 3) ls (.int r :: rest))) : W p l e R s m args below meth c H locs cells slots Q (F0 m pc ls st0) := by
  have hF := va_free (wc := wc) hD hS hA isC J.1
  refine va_calli hr hS (fun q _ h => hF q h) hF (fun r u t H1 locs1 ht hvm hp hB hz hk hS1 => ?_)
  obtain ⟨g1, g2⟩ := wr_join hP hD hF isC isR J.1 J.2.1 J.2.2.1 J.2.2.2.1 hk ht hB ip J.2.2.2.2.1 (J.2.2.2.2.2 u)
  exact kk r u H1 locs1 hp g1 g2 hS1
theorem woL {S : Type} {post : Int64 → S → Prop} {w1 : S → va_W} {a : Array Value} {rest : List Value} (hr : va_Run p l e R s m args below meth c H locs cells slots mc ms (F0 m pc ls st0) rest (va_Ql post (Bw K H.size wc w1) (va_A wc H.size) a) (va_A wc H.size)) (hP : va_P K.1 vwCl ws H) (hD : va_D A ws) (hS : va_S A s.heap H locs) (hA : ∀ q : Nat, s.heap.size ≤ q → A q) (wr : va_W) (wf : S → va_W) (isC isR ip : List Nat) (J : okJ ws wc wr w1 wf isC isR ip)
    (kk : ∀ (r : Int64) (u : S) (H1 : Heap) (locs1 : List Loc), post r u → va_P K.1 vwCl (wf u) H1 → va_D A (wf u) → va_S A s.heap H1 locs1 → W p l e R s m args below meth c H1 locs1 (cells + mc) (slots + ms) Q (F0 m (pc + 3) ls (.long r :: rest))) : W p l e R s m args below meth c H locs cells slots Q (F0 m pc ls st0) := by
  have hF := va_free (wc := wc) hD hS hA isC J.1
  refine va_calll hr hS (fun q _ h => hF q h) hF (fun r u t H1 locs1 ht hvm hp hB hz hk hS1 => ?_)
  obtain ⟨g1, g2⟩ := wr_join hP hD hF isC isR J.1 J.2.1 J.2.2.1 J.2.2.2.1 hk ht hB ip J.2.2.2.2.1 (J.2.2.2.2.2 u)
  exact kk r u H1 locs1 hp g1 g2 hS1
theorem woD {S : Type} {post : UInt64 → S → Prop} {w1 : S → va_W} {a : Array Value} {rest : List Value} (hr : va_Run p l e R s m args below meth c H locs cells slots mc ms (F0 m pc ls st0) rest (va_Qd post (Bw K H.size wc w1) (va_A wc H.size) a) (va_A wc H.size)) (hP : va_P K.1 vwCl ws H) (hD : va_D A ws) (hS : va_S A s.heap H locs) (hA : ∀ q : Nat, s.heap.size ≤ q → A q) (wr : va_W) (wf : S → va_W) (isC isR ip : List Nat) (J : okJ ws wc wr w1 wf isC isR ip)
    (kk : ∀ (r : UInt64) (u : S) (H1 : Heap) (locs1 : List Loc), post r u → va_P K.1 vwCl (wf u) H1 → va_D A (wf u) → va_S A s.heap H1 locs1 → W p l e R s m args below meth c H1 locs1 (cells + mc) (slots + ms) Q (F0 m (pc + 3) ls (.double r :: rest))) : W p l e R s m args below meth c H locs cells slots Q (F0 m pc ls st0) := by
  have hF := va_free (wc := wc) hD hS hA isC J.1
  refine va_calld hr hS (fun q _ h => hF q h) hF (fun r u t H1 locs1 ht hvm hp hB hz hk hS1 => ?_)
  obtain ⟨g1, g2⟩ := wr_join hP hD hF isC isR J.1 J.2.1 J.2.2.1 J.2.2.2.1 hk ht hB ip J.2.2.2.2.1 (J.2.2.2.2.2 u)
  exact kk r u H1 locs1 hp g1 g2 hS1
theorem woV {S : Type} {post : S → Prop} {w1 : S → va_W} {a : Array Value} {rest : List Value} (hr : va_Run p l e R s m args below meth c H locs cells slots mc ms (F0 m pc ls st0) rest (va_Qv post (Bw K H.size wc w1) (va_A wc H.size) a) (va_A wc H.size)) (hP : va_P K.1 vwCl ws H) (hD : va_D A ws) (hS : va_S A s.heap H locs) (hA : ∀ q : Nat, s.heap.size ≤ q → A q) (wr : va_W) (wf : S → va_W) (isC isR ip : List Nat) (J : okJ ws wc wr w1 wf isC isR ip)
    (kk : ∀ (u : S) (H1 : Heap) (locs1 : List Loc), post u → va_P K.1 vwCl (wf u) H1 → va_D A (wf u) → va_S A s.heap H1 locs1 → W p l e R s m args below meth c H1 locs1 (cells + mc) (slots + ms) Q (F0 m (pc + 3) ls rest)) : W p l e R s m args below meth c H locs cells slots Q (F0 m pc ls st0) := by
  have hF := va_free (wc := wc) hD hS hA isC J.1
  refine va_callv hr hS (fun q _ h => hF q h) hF (fun u t H1 locs1 ht hvm hp hB hz hk hS1 => ?_)
  obtain ⟨g1, g2⟩ := wr_join hP hD hF isC isR J.1 J.2.1 J.2.2.1 J.2.2.2.1 hk ht hB ip J.2.2.2.2.1 (J.2.2.2.2.2 u)
  exact kk u H1 locs1 hp g1 g2 hS1
end WR
section CK
variable {p : Program} {l : Launch} {e : Env} {R : Room} {s : State} {m : MethodId} {args : Array Value} {below : List Frame} {meth : Method} {c : Code} {cells slots : Nat} {cc : ByteArray} {pc : Nat} {ls : Array Slot} {st0 : List Value}
variable {y : MethodName} {b : ByteArray} {mL nL idx o mc ms mc0 ms0 : Nat} {rt : Option FieldType} {rm : Room} {K : EK} {ws wc : va_W} {own : String} {A : Nat → Prop} {Qc Qc0 : Array Value → State → Outcome → State → Prop} {bx bx0 : String → Prop} {free : Addr → Prop}
theorem ck_pre {av : List Value} (hE : EV K s) (hP : va_P K.1 vwCl wc s.heap) (hA : ∀ q : Nat, s.heap.size ≤ q → A q) (hZ : ZS A s s.heap) (U : State) (hU : U.heap = s.heap) (hW : s.WarmedH U.vm) : va_Pc av (PX K wc) av.toArray U :=
  ⟨rfl, EV_warm hW hE, by rw [hU]; exact hP, by rw [hU]; exact ZS_narrow (ZS_moved hW.alike hZ) hA⟩
theorem ckV {As rest : List Value} (hM : vx_Met l y (wq y b mL rt) rm (va_Pc (.ref o :: As) (PX K wc)) Qc (XX bx) mc ms NF) (S : CallFix p m c cc nL s args WA own) (hg : GoodIn WA (wsV own idx y.cls y (wq y b mL rt))) (hd : okN y As.length) (hR : okW R rm mL mc ms cells slots) (hE : EV K s) (hP : va_P K.1 vwCl ws s.heap) (hA : ∀ q : Nat, s.heap.size ≤ q → A q) (hZ : ZS A s s.heap) (is : List Nat) (hs : is.map (fun i => ws[i]?) = wc.map some) (hrc : RC y.cls o wc)
    (hsize : ls.size = nL) (hst : st0 = As.reverse ++ .ref o :: rest) (hcat : (rest.map fun v => v.category).sum ≤ 8) (hdg : decode cc pc = .ok (.invokevirtual idx, 3)) : vx_Run p l e R s m args below meth c s.heap [] cells slots mc ms (F0 m pc ls st0) rest (Qc (Value.ref o :: As).toArray) (XX bx) NF := by
  have hP2 := hP.sub is (ms_fm hs)
  exact vx_runV (As := As) (rest := rest) S hM (cwV As.length S.2.2.2.2 hg rfl hR.2.1.1 hR.2.1.2 ⟨rfl, hd⟩ hR.1) ⟨PX_blind, rd_recv hE hP2 hrc, fun U hU hW => ck_pre hE hP2 hA hZ U hU hW⟩ rfl rfl hsize hst (lv_room hcat) hdg hR.2.2
theorem ckS {As rest : List Value} (hM : vx_Met l y (wq y b mL rt) rm (va_Pc As (PX K wc)) Qc (XX bx) mc ms NF) (S : CallFix p m c cc nL s args WA own) (hg : GoodIn WA (va_wsS own idx y (wq y b mL rt))) (hd : okN y As.length) (hR : okW R rm mL mc ms cells slots) (hE : EV K s) (hP : va_P K.1 vwCl ws s.heap) (hA : ∀ q : Nat, s.heap.size ≤ q → A q) (hZ : ZS A s s.heap) (is : List Nat) (hs : is.map (fun i => ws[i]?) = wc.map some)
    (hsize : ls.size = nL) (hst : st0 = As.reverse ++ rest) (hcat : (rest.map fun v => v.category).sum ≤ 8) (hdg : decode cc pc = .ok (.invokestatic idx, 3)) : vx_Run p l e R s m args below meth c s.heap [] cells slots mc ms (F0 m pc ls st0) rest (Qc As.toArray) (XX bx) NF := by
  have hP2 := hP.sub is (ms_fm hs)
  exact vx_runS (As := As) (rest := rest) S hM (va_cwS As.length S.2.2.2.2 hg rfl hR.2.1.1 hR.2.1.2 hd hR.1) ⟨PX_blind, fun U hU hW => ck_pre hE hP2 hA hZ U hU hW⟩ rfl rfl hsize hst (lv_room hcat) hdg hR.2.2
/-- it throws: so do we -/
theorem ck_out {rest : List Value} {T' : State} {q : Addr} {L : List Loc} {E : String} {ce : Cell} {st₀ t : State} {k n : Nat} (htab : ∀ x ∈ c.exceptionTable.toList, False) (hlocks : meth.locks = false) (h0 : st₀.heap = s.heap) (X' : Stand p l e R s m args below meth c T' ([] ++ L) k n) (hL : ∀ z ∈ L, NF z.base) (e1 : T'.heap = t.heap) (hX : XX bx E st₀ t) (hce : t.heap[q]? = some ce) (hcv : ce.vm = .none) (hcl : s.vm.findClass E = some ce.cls) (hb0 : ∀ E, bx E → bx0 E) (hk : k ≤ mc0) (hn : n ≤ ms0) :
    ∃ t2, Steps p.tables e below ((T'.setTop (F0 m pc ls rest)).pushFrame (.throwing q)) t2 ∧ vx_MQ below Qc0 (XX bx0) args s mc0 ms0 free t2 := by
  obtain ⟨u, -, hb, hF⟩ := hX
  have K1 : vx_W p l e R s m args below meth c T'.heap [] k n (vx_MQ below Qc0 (XX bx0) args s mc0 ms0 free) (F0 m pc ls rest) q := by
    refine vx_out (fun x hx => (htab x hx).elim) hlocks (by rw [e1]; exact hce) hcv hcl (fun t9 ht9 _ => ⟨(), trivial, hb0 _ hb, ?_⟩) (fun _ h => nomatch h) hk hn
    refine ⟨?_, fun z hz hN => ?_⟩
    · rw [ht9, e1, ← h0]; exact hF.1
    · rw [ht9, e1, ← h0]; exact hF.2 z (by rw [h0]; exact hz) hN
  exact K1 T' rfl (Stand.forget X' (fun z h => (hL z (by simpa using h)).elim))
theorem coV {post : Prop} {a : Array Value} {rest : List Value} (hr : vx_Run p l e R s m args below meth c s.heap [] cells slots mc ms (F0 m pc ls st0) rest (SV post a) (XX bx) NF) (htab : ∀ x ∈ c.exceptionTable.toList, False) (hlocks : meth.locks = false) (hc : cells + mc ≤ mc0 ∧ slots + ms ≤ ms0) (hb0 : ∀ E, bx E → bx0 E)
    (kk : post → W p l e R s m args below meth c s.heap [] (cells + mc) (slots + ms) (vx_MQ below Qc0 (XX bx0) args s mc0 ms0 free) (F0 m (pc + 3) ls rest)) : W p l e R s m args below meth c s.heap [] cells slots (vx_MQ below Qc0 (XX bx0) args s mc0 ms0 free) (F0 m pc ls st0) := by
  intro T hT X
  rcases hr T hT X with ⟨v, st₀, t, T', L, h0, X', hL, e1, e2, ⟨hv, hp, hh⟩, st⟩ | ⟨q, st₀, t, T', L, E, ce, h0, X', hL, e1, e2, hX, hce, hcv, hcl, st⟩
  · cases hv
    obtain ⟨t2, a1, b1⟩ := kk hp T' (by rw [e1, hh, h0]) (Stand.forget X' (fun q h => (hL q (by simpa using h)).elim))
    exact ⟨t2, st t2 a1, b1⟩
  · obtain ⟨t2, a1, b1⟩ := ck_out (rest := rest) (pc := pc) (ls := ls) (Qc0 := Qc0) (free := free) htab hlocks h0 X' hL e1 hX hce hcv hcl hb0 hc.1 hc.2
    exact ⟨t2, st.trans a1, b1⟩
theorem coI {post : Int32 → Prop} {a : Array Value} {rest : List Value} (hr : vx_Run p l e R s m args below meth c s.heap [] cells slots mc ms (F0 m pc ls st0) rest (vp_Si post a) (XX bx) NF) (htab : ∀ x ∈ c.exceptionTable.toList, False) (hlocks : meth.locks = false) (hc : cells + mc ≤ mc0 ∧ slots + ms ≤ ms0) (hb0 : ∀ E, bx E → bx0 E)
    (kk : ∀ r : Int32, post r → W p l e R s m args below meth c s.heap [] (cells + mc) (slots + ms) (vx_MQ below Qc0 (XX bx0) args s mc0 ms0 free) (F0 m (pc + 3) ls (.int r :: rest))) : W p l e R s m args below meth c s.heap [] cells slots (vx_MQ below Qc0 (XX bx0) args s mc0 ms0 free) (F0 m pc ls st0) := by
  intro T hT X
  rcases hr T hT X with ⟨v, st₀, t, T', L, h0, X', hL, e1, e2, ⟨r, hv, hp, hh⟩, st⟩ | ⟨q, st₀, t, T', L, E, ce, h0, X', hL, e1, e2, hX, hce, hcv, hcl, st⟩
  · cases hv
    obtain ⟨t2, a1, b1⟩ := kk r hp T' (by rw [e1, hh, h0]) (Stand.forget X' (fun q h => (hL q (by simpa using h)).elim))
    exact ⟨t2, st t2 a1, b1⟩
  · obtain ⟨t2, a1, b1⟩ := ck_out (rest := rest) (pc := pc) (ls := ls) (Qc0 := Qc0) (free := free) htab hlocks h0 X' hL e1 hX hce hcv hcl hb0 hc.1 hc.2
    exact ⟨t2, st.trans a1, b1⟩
/-- throw new E(text), of the class RangingNet -/
theorem thr {E text : String} {ik is ic : Nat} {rest : List Value} (hx : p.tables.exec = Jvm.exec) (hb : c.code = cc) (hl : l.stackTraces = false) (hown : s.vm.findClass RX3 = some m.cls) (hts : ∀ w ∈ WA, w.before args s = true) (hE : EV K s) (hA : ∀ q : Nat, s.heap.size ≤ q → A q) (hZ : ZS A s s.heap)
    (hfit : Bundle.fit E = true) (hlk : Cond.classLink RX3 ik E ∈ WA) (hini : Cond.initialized E ∈ WA) (hstr : (is, text) ∈ xcS) (hcas : E ∈ xcC) (hat : ∀ w ∈ (vx_atS RX3 ic E ["java/lang/RuntimeException", "java/lang/Exception"]).filter goodWord, w ∈ WA) (hat2 : ∀ w ∈ (vx_atS RX3 ic E ["java/lang/RuntimeException", "java/lang/Exception"]).filter (fun w => !goodWord w), w ∈ [Cond.castable E E] ++ xcD.map Cond.declares) (hgood : ∀ w ∈ Cond.classLink RX3 ik E :: Cond.initialized E :: vx_atS RX3 ic E ["java/lang/RuntimeException", "java/lang/Exception"], vx_ot w = true)
    (hsize : ls.size = c.maxLocals) (d0 : decode cc pc = .ok (.new ik, 3)) (d3 : decode cc (pc + 3) = .ok (.dup, 1)) (d4 : decode cc (pc + 4) = .ok (.ldc is, 2)) (d6 : decode cc (pc + 6) = .ok (.invokespecial ic, 3)) (d9 : decode cc (pc + 9) = .ok (.athrow, 1)) (htab : ∀ x ∈ c.exceptionTable.toList, False) (hlocks : meth.locks = false)
    (hR : 5 < R.frames ∧ (rest.map fun v => v.category).sum + 82 ≤ R.locals ∧ cells + 1 ≤ R.cells ∧ slots + 6 ≤ R.slots) (hc : cells + 1 ≤ mc0 ∧ slots + 6 ≤ ms0) (hbx : bx0 E) : W p l e R s m args below meth c s.heap [] cells slots (vx_MQ below Qc0 (XX bx0) args s mc0 ms0 free) (F0 m pc ls rest) := by
  obtain ⟨sa, hsa⟩ := hE.2.2.2.2.2.1 _ hstr
  refine vx_throwS (A := A) (names := ["java/lang/RuntimeException", "java/lang/Exception"]) (cls := E) (own := RX3) hx hb hl hown hfit (by decide +kernel) (hts _ hlk) (hts _ hini) hsa ?_ hgood hZ.1 hZ.2 va_S.rf hsize d0 d3 d4 d6 d9 (fun x h => (htab x h).elim) hR.1 hR.2.1 hR.2.2.1 hR.2.2.2 hlocks (fun t _ hz hk => ⟨(), trivial, hbx, hz, fun q h _ => hk q h⟩) (fun _ h => nomatch h) hc.1 hc.2
  refine vx_hat (B := [Cond.castable E E] ++ xcD.map Cond.declares) (fun w h => hts w (hat w h)) hat2 (vx_c (va_Nw.use rfl (hE.2.2.2.2.1 _ hcas)) (fun w hw => ?_))
  obtain ⟨q, hq, rfl⟩ := List.mem_map.mp hw
  exact va_Nw.use rfl (hE.2.2.2.2.2.2.2 q hq)
theorem thr_IAE {text : String} {ik is : Nat} {rest : List Value} (hx : p.tables.exec = Jvm.exec) (hb : c.code = cc) (hl : l.stackTraces = false) (hown : s.vm.findClass RX3 = some m.cls) (hts : ∀ w ∈ WA, w.before args s = true) (hE : EV K s) (hA : ∀ q : Nat, s.heap.size ≤ q → A q) (hZ : ZS A s s.heap) (hlk : Cond.classLink RX3 ik "java/lang/IllegalArgumentException" ∈ WA) (hstr : (is, text) ∈ xcS)
    (hsize : ls.size = c.maxLocals) (d0 : decode cc pc = .ok (.new ik, 3)) (d3 : decode cc (pc + 3) = .ok (.dup, 1)) (d4 : decode cc (pc + 4) = .ok (.ldc is, 2)) (d6 : decode cc (pc + 6) = .ok (.invokespecial 195, 3)) (d9 : decode cc (pc + 9) = .ok (.athrow, 1)) (htab : ∀ x ∈ c.exceptionTable.toList, False) (hlocks : meth.locks = false)
    (hR : 5 < R.frames ∧ (rest.map fun v => v.category).sum + 82 ≤ R.locals ∧ cells + 1 ≤ R.cells ∧ slots + 6 ≤ R.slots) (hc : cells + 1 ≤ mc0 ∧ slots + 6 ≤ ms0) (hbx : bx0 xIA) : W p l e R s m args below meth c s.heap [] cells slots (vx_MQ below Qc0 (XX bx0) args s mc0 ms0 free) (F0 m pc ls rest) :=
  thr (E := xIA) hx hb hl hown hts hE hA hZ (by decide +kernel) hlk kn_IllegalArgumentException hstr (List.mem_of_getElem? (i := 0) rfl) at_IAE (by decide +kernel) (List.forall_mem_cons.mpr ⟨rfl, by decide +kernel⟩) hsize d0 d3 d4 d6 d9 htab hlocks hR hc hbx
theorem thr_ISE {text : String} {ik is : Nat} {rest : List Value} (hx : p.tables.exec = Jvm.exec) (hb : c.code = cc) (hl : l.stackTraces = false) (hown : s.vm.findClass RX3 = some m.cls) (hts : ∀ w ∈ WA, w.before args s = true) (hE : EV K s) (hA : ∀ q : Nat, s.heap.size ≤ q → A q) (hZ : ZS A s s.heap) (hlk : Cond.classLink RX3 ik "java/lang/IllegalStateException" ∈ WA) (hstr : (is, text) ∈ xcS)
    (hsize : ls.size = c.maxLocals) (d0 : decode cc pc = .ok (.new ik, 3)) (d3 : decode cc (pc + 3) = .ok (.dup, 1)) (d4 : decode cc (pc + 4) = .ok (.ldc is, 2)) (d6 : decode cc (pc + 6) = .ok (.invokespecial 42, 3)) (d9 : decode cc (pc + 9) = .ok (.athrow, 1)) (htab : ∀ x ∈ c.exceptionTable.toList, False) (hlocks : meth.locks = false)
    (hR : 5 < R.frames ∧ (rest.map fun v => v.category).sum + 82 ≤ R.locals ∧ cells + 1 ≤ R.cells ∧ slots + 6 ≤ R.slots) (hc : cells + 1 ≤ mc0 ∧ slots + 6 ≤ ms0) (hbx : bx0 xIS) : W p l e R s m args below meth c s.heap [] cells slots (vx_MQ below Qc0 (XX bx0) args s mc0 ms0 free) (F0 m pc ls rest) :=
  thr (E := xIS) hx hb hl hown hts hE hA hZ (by decide +kernel) hlk kn_IllegalStateException hstr (List.mem_of_getElem? (i := 1) rfl) at_ISE (by decide +kernel) (List.forall_mem_cons.mpr ⟨rfl, by decide +kernel⟩) hsize d0 d3 d4 d6 d9 htab hlocks hR hc hbx
theorem thr_IOE {text : String} {ik is : Nat} {rest : List Value} (hx : p.tables.exec = Jvm.exec) (hb : c.code = cc) (hl : l.stackTraces = false) (hown : s.vm.findClass RX3 = some m.cls) (hts : ∀ w ∈ WA, w.before args s = true) (hE : EV K s) (hA : ∀ q : Nat, s.heap.size ≤ q → A q) (hZ : ZS A s s.heap) (hlk : Cond.classLink RX3 ik "java/lang/IndexOutOfBoundsException" ∈ WA) (hstr : (is, text) ∈ xcS)
    (hsize : ls.size = c.maxLocals) (d0 : decode cc pc = .ok (.new ik, 3)) (d3 : decode cc (pc + 3) = .ok (.dup, 1)) (d4 : decode cc (pc + 4) = .ok (.ldc is, 2)) (d6 : decode cc (pc + 6) = .ok (.invokespecial 153, 3)) (d9 : decode cc (pc + 9) = .ok (.athrow, 1)) (htab : ∀ x ∈ c.exceptionTable.toList, False) (hlocks : meth.locks = false)
    (hR : 5 < R.frames ∧ (rest.map fun v => v.category).sum + 82 ≤ R.locals ∧ cells + 1 ≤ R.cells ∧ slots + 6 ≤ R.slots) (hc : cells + 1 ≤ mc0 ∧ slots + 6 ≤ ms0) (hbx : bx0 xIO) : W p l e R s m args below meth c s.heap [] cells slots (vx_MQ below Qc0 (XX bx0) args s mc0 ms0 free) (F0 m pc ls rest) :=
  thr (E := xIO) hx hb hl hown hts hE hA hZ (by decide +kernel) hlk kn_IndexOutOfBoundsException hstr (List.mem_of_getElem? (i := 2) rfl) at_IOE (by decide +kernel) (List.forall_mem_cons.mpr ⟨rfl, by decide +kernel⟩) hsize d0 d3 d4 d6 d9 htab hlocks hR hc hbx
theorem thr_AE {text : String} {ik is : Nat} {rest : List Value} (hx : p.tables.exec = Jvm.exec) (hb : c.code = cc) (hl : l.stackTraces = false) (hown : s.vm.findClass RX3 = some m.cls) (hts : ∀ w ∈ WA, w.before args s = true) (hE : EV K s) (hA : ∀ q : Nat, s.heap.size ≤ q → A q) (hZ : ZS A s s.heap) (hlk : Cond.classLink RX3 ik "java/lang/ArithmeticException" ∈ WA) (hstr : (is, text) ∈ xcS)
    (hsize : ls.size = c.maxLocals) (d0 : decode cc pc = .ok (.new ik, 3)) (d3 : decode cc (pc + 3) = .ok (.dup, 1)) (d4 : decode cc (pc + 4) = .ok (.ldc is, 2)) (d6 : decode cc (pc + 6) = .ok (.invokespecial 140, 3)) (d9 : decode cc (pc + 9) = .ok (.athrow, 1)) (htab : ∀ x ∈ c.exceptionTable.toList, False) (hlocks : meth.locks = false)
    (hR : 5 < R.frames ∧ (rest.map fun v => v.category).sum + 82 ≤ R.locals ∧ cells + 1 ≤ R.cells ∧ slots + 6 ≤ R.slots) (hc : cells + 1 ≤ mc0 ∧ slots + 6 ≤ ms0) (hbx : bx0 xAR) : W p l e R s m args below meth c s.heap [] cells slots (vx_MQ below Qc0 (XX bx0) args s mc0 ms0 free) (F0 m pc ls rest) :=
  thr (E := xAR) hx hb hl hown hts hE hA hZ (by decide +kernel) hlk kn_ArithmeticException hstr (List.mem_of_getElem? (i := 3) rfl) at_AE (by decide +kernel) (List.forall_mem_cons.mpr ⟨rfl, by decide +kernel⟩) hsize d0 d3 d4 d6 d9 htab hlocks hR hc hbx
end CK
end
section
/-! plain facts to paste, each family by itself; over the kit's nI, lN and upd -/
/-! ===== drawers: more things than places ===== -/
theorem fb_holes : ∀ (m n : Nat) (f : Nat → Nat), (∀ i, i < n → f i < m) → (∀ i j, i < j → j < n → f i ≠ f j) → n ≤ m := by
  intro m
  induction m with
  | zero =>
    intro n f h1 _
    rcases Nat.eq_zero_or_pos n with h | h
    · omega
    · exact absurd (h1 0 h) (Nat.not_lt_zero _)
  | succ m ih =>
    intro n f h1 h2
    by_cases hx : ∃ i, i < n ∧ f i = m
    · obtain ⟨a, ha, hfa⟩ := hx
      have hg := ih (n - 1) (fun i => if i < a then f i else f (i + 1)) (by
        intro i hi
        by_cases q : i < a
        · simp only [if_pos q]
          have b1 := h1 i (by omega)
          have b2 := h2 i a q ha
          omega
        · simp only [if_neg q]
          have b1 := h1 (i + 1) (by omega)
          have b2 := h2 a (i + 1) (by omega) (by omega)
          omega) (by
        intro i j hij hj
        by_cases q : i < a
        · by_cases r : j < a
          · simp only [if_pos q, if_pos r]
            exact h2 i j hij (by omega)
          · simp only [if_pos q, if_neg r]
            exact h2 i (j + 1) (by omega) (by omega)
        · have r : ¬ j < a := by omega
          simp only [if_neg q, if_neg r]
          exact h2 (i + 1) (j + 1) (by omega) (by omega))
      omega
    · have hg := ih n f (fun i hi => by
        have b1 := h1 i hi
        have b2 : f i ≠ m := fun e => hx ⟨i, hi, e⟩
        omega) h2
      omega
/-- two of them in one place -/
theorem fb_twice {m n : Nat} {f : Nat → Nat} (h : ∀ i, i < n → f i < m) (hm : m < n) : ∃ i j, i < j ∧ j < n ∧ f i = f j := by
  refine Classical.byContradiction fun hx => ?_
  have := fb_holes m n f h (fun i j hij hj e => hx ⟨i, j, hij, hj, e⟩)
  omega
/-- as many as places, none twice: each place is taken -/
theorem fb_onto {n : Nat} {f : Nat → Nat} (h : ∀ i, i < n → f i < n) (h2 : ∀ i j, i < j → j < n → f i ≠ f j) {y : Nat} (hy : y < n) : ∃ i, i < n ∧ f i = y := by
  refine Classical.byContradiction fun hx => ?_
  have hne : ∀ i, i < n → f i ≠ y := fun i hi e => hx ⟨i, hi, e⟩
  have := fb_holes (n - 1) n (fun i => if f i < y then f i else f i - 1) (by
    intro i hi
    have b1 := h i hi
    have b2 := hne i hi
    by_cases q : f i < y
    · simp only [if_pos q]; omega
    · simp only [if_neg q]; omega) (by
    intro i j hij hj
    have b1 := hne i (by omega)
    have b2 := hne j hj
    have b3 := h2 i j hij hj
    by_cases q : f i < y
    · by_cases r : f j < y
      · simp only [if_pos q, if_pos r]; exact b3
      · simp only [if_pos q, if_neg r]; omega
    · by_cases r : f j < y
      · simp only [if_neg q, if_pos r]; omega
      · simp only [if_neg q, if_neg r]; omega)
  omega
/-! ===== how many places have a property ===== -/
def fb_ct (p : Nat → Bool) : Nat → Nat
  | 0 => 0
  | n + 1 => fb_ct p n + (if p n then 1 else 0)
theorem fb_ct_succ (p : Nat → Bool) (n : Nat) : fb_ct p (n + 1) = fb_ct p n + (if p n then 1 else 0) := rfl
theorem fb_ct_le (p : Nat → Bool) : ∀ n, fb_ct p n ≤ n
  | 0 => Nat.le_refl _
  | n + 1 => by
    have h := fb_ct_le p n
    rw [fb_ct_succ]
    split <;> omega
theorem fb_ct_step (p : Nat → Bool) (m : Nat) : ∀ n, fb_ct p m ≤ fb_ct p (m + n)
  | 0 => Nat.le_refl _
  | n + 1 => by
    have h := fb_ct_step p m n
    show fb_ct p m ≤ fb_ct p (m + n + 1)
    rw [fb_ct_succ]
    omega
theorem fb_ct_mono (p : Nat → Bool) {m n : Nat} (h : m ≤ n) : fb_ct p m ≤ fb_ct p n := by
  have := fb_ct_step p m (n - m)
  rwa [Nat.add_sub_cancel' h] at this
theorem fb_ct_cong {p q : Nat → Bool} : ∀ {n : Nat}, (∀ k, k < n → p k = q k) → fb_ct p n = fb_ct q n
  | 0, _ => rfl
  | n + 1, h => by
    rw [fb_ct_succ, fb_ct_succ, fb_ct_cong (fun k hk => h k (by omega)), h n (by omega)]
/-- one place changed -/
theorem fb_ct_out (p : Nat → Bool) (b : Bool) {i n : Nat} (h : n ≤ i) : fb_ct (fun k => if k = i then b else p k) n = fb_ct p n :=
  fb_ct_cong fun k hk => if_neg (by omega)
theorem fb_ct_upd (p : Nat → Bool) (b : Bool) {i : Nat} : ∀ {n : Nat}, i < n → fb_ct (fun k => if k = i then b else p k) n + (if p i then 1 else 0) = fb_ct p n + (if b then 1 else 0)
  | 0, h => absurd h (Nat.not_lt_zero i)
  | n + 1, h => by
    rw [fb_ct_succ, fb_ct_succ]
    rcases Nat.lt_or_ge i n with q | q
    · have := fb_ct_upd p b q
      have e : (if n = i then b else p n) = p n := if_neg (by omega)
      rw [e]
      omega
    · have e : i = n := by omega
      subst e
      rw [fb_ct_out p b (Nat.le_refl _)]
      simp only [if_true]
      omega
theorem fb_ct_sub {p q : Nat → Bool} : ∀ {n : Nat}, (∀ k, k < n → p k = true → q k = true) → fb_ct p n ≤ fb_ct q n
  | 0, _ => Nat.le_refl _
  | n + 1, h => by
    have h1 := fb_ct_sub (n := n) (p := p) (q := q) (fun k hk => h k (by omega))
    have h2 := h n (by omega)
    rw [fb_ct_succ, fb_ct_succ]
    cases hp : p n <;> cases hq : q n <;> simp_all <;> omega
theorem fb_ct_or {p q : Nat → Bool} : ∀ {n : Nat}, (∀ k, k < n → ¬ (p k = true ∧ q k = true)) → fb_ct (fun k => p k || q k) n = fb_ct p n + fb_ct q n
  | 0, _ => rfl
  | n + 1, h => by
    have h1 := fb_ct_or (n := n) (p := p) (q := q) (fun k hk => h k (by omega))
    have h2 := h n (by omega)
    rw [fb_ct_succ, fb_ct_succ, fb_ct_succ, h1]
    cases hp : p n <;> cases hq : q n <;> simp_all <;> omega
theorem fb_ct_not (p : Nat → Bool) : ∀ n, fb_ct p n + fb_ct (fun k => !p k) n = n
  | 0 => rfl
  | n + 1 => by
    have h := fb_ct_not p n
    rw [fb_ct_succ, fb_ct_succ]
    cases p n <;> simp <;> omega
theorem fb_ct_split (p : Nat → Bool) (m : Nat) : ∀ n, fb_ct p (m + n) = fb_ct p m + fb_ct (fun k => p (m + k)) n
  | 0 => rfl
  | n + 1 => by
    have h := fb_ct_split p m n
    show fb_ct p (m + n + 1) = _
    rw [fb_ct_succ, fb_ct_succ, h, Nat.add_assoc]
theorem fb_ct_zero {p : Nat → Bool} : ∀ {n : Nat}, fb_ct p n = 0 ↔ ∀ k, k < n → p k = false
  | 0 => ⟨fun _ k hk => absurd hk (Nat.not_lt_zero k), fun _ => rfl⟩
  | n + 1 => by
    have h := fb_ct_zero (p := p) (n := n)
    rw [fb_ct_succ]
    constructor
    · intro e k hk
      have e1 : fb_ct p n = 0 := by omega
      rcases Nat.lt_or_ge k n with q | q
      · exact h.mp e1 k q
      · have ek : k = n := by omega
        subst ek
        cases hp : p k
        · rfl
        · simp [hp] at e
    · intro a
      rw [h.mpr (fun k hk => a k (by omega)), a n (by omega)]
      rfl
theorem fb_ct_pos {p : Nat → Bool} {n : Nat} : 0 < fb_ct p n ↔ ∃ k, k < n ∧ p k = true := by
  constructor
  · intro h
    refine Classical.byContradiction fun hx => ?_
    have := fb_ct_zero.mpr (fun k hk => by
      cases hp : p k
      · rfl
      · exact absurd ⟨k, hk, hp⟩ hx : ∀ k, k < n → p k = false)
    omega
  · rintro ⟨k, hk, hp⟩
    rcases Nat.eq_zero_or_pos (fb_ct p n) with e | e
    · have := fb_ct_zero.mp e k hk
      rw [this] at hp
      cases hp
    · exact e
theorem fb_ct_all {p : Nat → Bool} {n : Nat} : fb_ct p n = n ↔ ∀ k, k < n → p k = true := by
  have h := fb_ct_not p n
  constructor
  · intro e k hk
    have z : fb_ct (fun k => !p k) n = 0 := by omega
    have := fb_ct_zero.mp z k hk
    cases hp : p k
    · simp [hp] at this
    · rfl
  · intro a
    have z : fb_ct (fun k => !p k) n = 0 := fb_ct_zero.mpr (fun k hk => by simp [a k hk])
    omega
/-- the k-th place with the property -/
theorem fb_ct_kth {p : Nat → Bool} {k : Nat} : ∀ {n : Nat}, k < fb_ct p n → ∃ i, i < n ∧ p i = true ∧ fb_ct p i = k
  | 0, h => absurd h (Nat.not_lt_zero k)
  | n + 1, h => by
    rcases Nat.lt_or_ge k (fb_ct p n) with q | q
    · obtain ⟨i, h1, h2⟩ := fb_ct_kth q
      exact ⟨i, by omega, h2⟩
    · rw [fb_ct_succ] at h
      cases hp : p n
      · simp [hp] at h; omega
      · simp [hp] at h
        exact ⟨n, by omega, hp, by omega⟩
theorem fb_ct_kth_one {p : Nat → Bool} {i j : Nat} (hi : p i = true) (hj : p j = true) (e : fb_ct p i = fb_ct p j) : i = j := by
  have key : ∀ a b : Nat, a < b → p a = true → fb_ct p a < fb_ct p b := by
    intro a b hab ha
    have h := fb_ct_mono p (show a + 1 ≤ b from hab)
    rw [fb_ct_succ, ha] at h
    simp at h
    omega
  rcases Nat.lt_trichotomy i j with q | q | q
  · have := key i j q hi; omega
  · exact q
  · have := key j i q hj; omega
/-! ===== the least, the first, the best so far; that there is one alone ===== -/
theorem fb_first {p : Nat → Prop} [DecidablePred p] : ∀ {n : Nat}, (∃ i, i < n ∧ p i) → ∃ i, i < n ∧ p i ∧ ∀ j, j < i → ¬ p j
  | 0, h => by obtain ⟨i, hi, -⟩ := h; exact absurd hi (Nat.not_lt_zero i)
  | n + 1, h => by
    by_cases q : ∃ i, i < n ∧ p i
    · obtain ⟨i, h1, h2⟩ := fb_first q
      exact ⟨i, by omega, h2⟩
    · obtain ⟨i, h1, h2⟩ := h
      have e : i = n := by
        rcases Nat.lt_or_ge i n with r | r
        · exact absurd ⟨i, r, h2⟩ q
        · omega
      subst e
      exact ⟨i, by omega, h2, fun j hj hp => q ⟨j, hj, hp⟩⟩
theorem fb_first_one {p : Nat → Prop} {i j : Nat} (hi : p i) (hi2 : ∀ k, k < i → ¬ p k) (hj : p j) (hj2 : ∀ k, k < j → ¬ p k) : i = j := by
  rcases Nat.lt_trichotomy i j with q | q | q
  · exact absurd hi (hj2 i q)
  · exact q
  · exact absurd hj (hi2 j q)
theorem fb_last {p : Nat → Prop} [DecidablePred p] : ∀ {n : Nat}, (∃ i, i < n ∧ p i) → ∃ i, i < n ∧ p i ∧ ∀ j, i < j → j < n → ¬ p j
  | 0, h => by obtain ⟨i, hi, -⟩ := h; exact absurd hi (Nat.not_lt_zero i)
  | n + 1, h => by
    by_cases q : p n
    · exact ⟨n, by omega, q, fun j h1 h2 => by omega⟩
    · obtain ⟨i, h1, h2⟩ := h
      have hi : i < n := by
        rcases Nat.lt_or_ge i n with r | r
        · exact r
        · have e : i = n := by omega
          subst e
          exact absurd h2 q
      obtain ⟨i2, a1, a2, a3⟩ := fb_last (n := n) ⟨i, hi, h2⟩
      refine ⟨i2, by omega, a2, fun j b1 b2 => ?_⟩
      rcases Nat.lt_or_ge j n with r | r
      · exact a3 j b1 r
      · have e : j = n := by omega
        subst e
        exact q
/-- the first greatest -/
theorem fb_best (f : Nat → Int) : ∀ {n : Nat}, 0 < n → ∃ i, i < n ∧ (∀ j, j < n → f j ≤ f i) ∧ ∀ j, j < i → f j < f i
  | 0, h => absurd h (Nat.lt_irrefl 0)
  | 1, _ => ⟨0, by omega, fun j hj => by have e : j = 0 := by omega
                                         subst e; exact Int.le_refl _, fun j hj => absurd hj (Nat.not_lt_zero j)⟩
  | n + 2, _ => by
    obtain ⟨i, h1, h2, h3⟩ := fb_best f (n := n + 1) (by omega)
    by_cases q : f i < f (n + 1)
    · refine ⟨n + 1, by omega, fun j hj => ?_, fun j hj => ?_⟩
      · rcases Nat.lt_or_ge j (n + 1) with r | r
        · have := h2 j r; omega
        · have e : j = n + 1 := by omega
          subst e; exact Int.le_refl _
      · have := h2 j hj; omega
    · refine ⟨i, by omega, fun j hj => ?_, h3⟩
      rcases Nat.lt_or_ge j (n + 1) with r | r
      · exact h2 j r
      · have e : j = n + 1 := by omega
        subst e; omega
theorem fb_best_one {f : Nat → Int} {n i j : Nat} (hi : i < n) (hi2 : ∀ k, k < n → f k ≤ f i) (hi3 : ∀ k, k < i → f k < f i) (hj : j < n) (hj2 : ∀ k, k < n → f k ≤ f j) (hj3 : ∀ k, k < j → f k < f j) : i = j := by
  rcases Nat.lt_trichotomy i j with q | q | q
  · have a := hj3 i q
    have b := hi2 j hj
    omega
  · exact q
  · have a := hi3 j q
    have b := hj2 i hi
    omega
/-- the first least -/
theorem fb_low (f : Nat → Int) {n : Nat} (h : 0 < n) : ∃ i, i < n ∧ (∀ j, j < n → f i ≤ f j) ∧ ∀ j, j < i → f i < f j := by
  obtain ⟨i, h1, h2, h3⟩ := fb_best (fun k => -f k) h
  exact ⟨i, h1, fun j hj => by have := h2 j hj; omega, fun j hj => by have := h3 j hj; omega⟩
/-! ===== signed ints as whole numbers, within bounds ===== -/
theorem fb_rng (x : Int32) : -2147483648 ≤ x.toInt ∧ x.toInt < 2147483648 := by
  have h1 := Int32.le_toInt x
  have h2 := Int32.toInt_lt x
  omega
theorem fb_bmod {z : Int} (h1 : -2147483648 ≤ z) (h2 : z < 2147483648) : z.bmod (2 ^ 32) = z := by
  rw [Int.bmod_eq_of_le (by omega) (by omega)]
theorem fb_addI {x y : Int32} (h1 : -2147483648 ≤ x.toInt + y.toInt) (h2 : x.toInt + y.toInt < 2147483648) : (x + y).toInt = x.toInt + y.toInt := by
  rw [Int32.toInt_add, fb_bmod h1 h2]
theorem fb_subI {x y : Int32} (h1 : -2147483648 ≤ x.toInt - y.toInt) (h2 : x.toInt - y.toInt < 2147483648) : (x - y).toInt = x.toInt - y.toInt := by
  rw [Int32.toInt_sub, fb_bmod h1 h2]
theorem fb_mulI {x y : Int32} (h1 : -2147483648 ≤ x.toInt * y.toInt) (h2 : x.toInt * y.toInt < 2147483648) : (x * y).toInt = x.toInt * y.toInt := by
  rw [Int32.toInt_mul, fb_bmod h1 h2]
theorem fb_negI {x : Int32} (h : x.toInt ≠ -2147483648) : (-x).toInt = -x.toInt := by
  have := fb_rng x
  rw [Int32.toInt_neg, fb_bmod (by omega) (by omega)]
theorem fb_ofI {z : Int} (h1 : -2147483648 ≤ z) (h2 : z < 2147483648) : (Int32.ofInt z).toInt = z := by
  rw [Int32.toInt_ofInt, fb_bmod h1 h2]
theorem fb_asI (x : Int32) : Int32.ofInt x.toInt = x := Int32.ofInt_toInt x
theorem fb_rngL (x : Int64) : -9223372036854775808 ≤ x.toInt ∧ x.toInt < 9223372036854775808 := by
  have h1 := Int64.le_toInt x
  have h2 := Int64.toInt_lt x
  omega
theorem fb_bmodL {z : Int} (h1 : -9223372036854775808 ≤ z) (h2 : z < 9223372036854775808) : z.bmod (2 ^ 64) = z := by
  rw [Int.bmod_eq_of_le (by omega) (by omega)]
theorem fb_addL {x y : Int64} (h1 : -9223372036854775808 ≤ x.toInt + y.toInt) (h2 : x.toInt + y.toInt < 9223372036854775808) : (x + y).toInt = x.toInt + y.toInt := by
  rw [Int64.toInt_add, fb_bmodL h1 h2]
theorem fb_subL {x y : Int64} (h1 : -9223372036854775808 ≤ x.toInt - y.toInt) (h2 : x.toInt - y.toInt < 9223372036854775808) : (x - y).toInt = x.toInt - y.toInt := by
  rw [Int64.toInt_sub, fb_bmodL h1 h2]
theorem fb_mulL {x y : Int64} (h1 : -9223372036854775808 ≤ x.toInt * y.toInt) (h2 : x.toInt * y.toInt < 9223372036854775808) : (x * y).toInt = x.toInt * y.toInt := by
  rw [Int64.toInt_mul, fb_bmodL h1 h2]
/-! plain facts on numbers and arrays, to paste: each family by itself; over the kit's rows on nI and upd -/
/-! ===== order of ints, in all its forms, and through longs ===== -/
theorem fa_lt (a b : Int32) : a < b ↔ a.toInt < b.toInt := Int32.lt_iff_toInt_lt
theorem fa_le (a b : Int32) : a ≤ b ↔ a.toInt ≤ b.toInt := Int32.le_iff_toInt_le
theorem fa_eq (a b : Int32) : a = b ↔ a.toInt = b.toInt := Int32.toInt_inj.symm
theorem fa_lt64 (a b : Int64) : a < b ↔ a.toInt < b.toInt := Int64.lt_iff_toInt_lt
theorem fa_le64 (a b : Int64) : a ≤ b ↔ a.toInt ≤ b.toInt := Int64.le_iff_toInt_le
theorem fa_eq64 (a b : Int64) : a = b ↔ a.toInt = b.toInt := Int64.toInt_inj.symm
/-- a comparison of two ints taken as longs -/
theorem fa_wide_lt (a b : Int32) : a.toInt64 < b.toInt64 ↔ a < b := by rw [fa_lt64, fa_lt, Int32.toInt_toInt64, Int32.toInt_toInt64]
theorem fa_wide_le (a b : Int32) : a.toInt64 ≤ b.toInt64 ↔ a ≤ b := by rw [fa_le64, fa_le, Int32.toInt_toInt64, Int32.toInt_toInt64]
theorem fa_wide_eq (a b : Int32) : a.toInt64 = b.toInt64 ↔ a = b := by rw [fa_eq64, fa_eq, Int32.toInt_toInt64, Int32.toInt_toInt64]
/-- one strict comparison gives all the others -/
theorem fa_of_lt {a b : Int32} (h : a < b) : a ≤ b ∧ ¬ b ≤ a ∧ ¬ b < a ∧ a ≠ b ∧ b ≠ a := by
  rw [fa_lt] at h
  refine ⟨?_, ?_, ?_, ?_, ?_⟩
  · rw [fa_le]; omega
  · rw [fa_le]; omega
  · rw [fa_lt]; omega
  · intro e; rw [fa_eq] at e; omega
  · intro e; rw [fa_eq] at e; omega
theorem fa_of_nlt {a b : Int32} (h : ¬ a < b) : b ≤ a := by
  rw [fa_lt] at h
  rw [fa_le]
  omega
theorem fa_of_nle {a b : Int32} (h : ¬ a ≤ b) : b < a := by
  rw [fa_le] at h
  rw [fa_lt]
  omega
theorem fa_le_ne {a b : Int32} (h : a ≤ b) (h2 : a ≠ b) : a < b := by
  rw [fa_le] at h
  rw [fa_lt]
  have h3 : a.toInt ≠ b.toInt := fun e => h2 ((fa_eq a b).mpr e)
  omega
theorem fa_three (a b : Int32) : a < b ∨ a = b ∨ b < a := by
  rw [fa_lt, fa_lt, fa_eq]
  omega
theorem fa_trans {a b c : Int32} (h : a < b) (h2 : b ≤ c) : a < c := by
  rw [fa_lt] at *
  rw [fa_le] at h2
  omega
/-! ===== small literals as numbers ===== -/
theorem fa_lit (n : Nat) : (OfNat.ofNat n : Int32) = nI n := rfl
theorem fa_litL (n : Nat) : (OfNat.ofNat n : Int64) = lN n := rfl
end
section
/-! numbers: quotients, remainders, roots -/
theorem b2_32 : (2 : Int) ^ 32 = 4294967296 := by decide
theorem b2_64 : (2 : Int) ^ 64 = 18446744073709551616 := by decide
theorem lN_T {n : Nat} (h : n < 2 ^ 63) : (lN n).toInt = (n : Int) := pk_lT h
theorem i64T (x : Int32) : x.toInt64.toInt = x.toInt := Int32.toInt_toInt64 x
theorem i32T {x : Int64} (h1 : -2147483648 ≤ x.toInt) (h2 : x.toInt < 2147483648) : x.toInt32.toInt = x.toInt := by
  rw [Int64.toInt_toInt32]
  exact fb_bmod h1 h2
theorem eqI {x y : Int32} (h : x.toInt = y.toInt) : x = y := Int32.toInt_inj.mp h
theorem eqL {x y : Int64} (h : x.toInt = y.toInt) : x = y := Int64.toInt_inj.mp h
theorem ltI {x y : Int32} : x < y ↔ x.toInt < y.toInt := Int32.lt_iff_toInt_lt
theorem leI {x y : Int32} : x ≤ y ↔ x.toInt ≤ y.toInt := Int32.le_iff_toInt_le
theorem ltL {x y : Int64} : x < y ↔ x.toInt < y.toInt := Int64.lt_iff_toInt_lt
theorem leL {x y : Int64} : x ≤ y ↔ x.toInt ≤ y.toInt := Int64.le_iff_toInt_le
theorem xorI_neg {x y : Int32} (hy : 0 ≤ y.toInt) : x ^^^ y < 0 ↔ x.toInt < 0 := by
  rw [ltI, Int32.toInt_zero, ← Int32.toInt_toBitVec, Int32.toBitVec_xor, ← Int32.toInt_toBitVec x]
  rw [← Int32.toInt_toBitVec y] at hy
  have h1 : y.toBitVec.msb = false := by rw [BitVec.msb_eq_toInt]; exact decide_eq_false (by omega)
  have e1 : ((x.toBitVec ^^^ y.toBitVec).toInt < 0) ↔ (x.toBitVec ^^^ y.toBitVec).msb = true := by rw [BitVec.msb_eq_toInt, decide_eq_true_eq]
  have e2 : (x.toBitVec.toInt < 0) ↔ x.toBitVec.msb = true := by rw [BitVec.msb_eq_toInt, decide_eq_true_eq]
  rw [e1, e2, BitVec.msb_xor, h1, Bool.xor_false]
theorem xorL_neg {x y : Int64} : x ^^^ y < 0 ↔ ¬ (x.toInt < 0 ↔ y.toInt < 0) := by
  rw [ltL, Int64.toInt_zero, ← Int64.toInt_toBitVec, Int64.toBitVec_xor, ← Int64.toInt_toBitVec x, ← Int64.toInt_toBitVec y]
  have e1 : ((x.toBitVec ^^^ y.toBitVec).toInt < 0) ↔ (x.toBitVec ^^^ y.toBitVec).msb = true := by rw [BitVec.msb_eq_toInt, decide_eq_true_eq]
  have e2 : (x.toBitVec.toInt < 0) ↔ x.toBitVec.msb = true := by rw [BitVec.msb_eq_toInt, decide_eq_true_eq]
  have e3 : (y.toBitVec.toInt < 0) ↔ y.toBitVec.msb = true := by rw [BitVec.msb_eq_toInt, decide_eq_true_eq]
  rw [e1, e2, e3, BitVec.msb_xor]
  cases x.toBitVec.msb <;> cases y.toBitVec.msb <;> simp
theorem tdiv_rng {a b lo hi : Int} (hb : 0 < b) (h1 : lo ≤ a) (h2 : a ≤ hi) (hl : lo ≤ 0) (hh : 0 ≤ hi) : lo ≤ a.tdiv b ∧ a.tdiv b ≤ hi := by
  have e := Int.tmod_add_mul_tdiv a b
  rcases Int.le_total 0 a with h | h
  · have g1 := Int.tdiv_nonneg h (Int.le_of_lt hb)
    have g2 : a.tdiv b ≤ a := Int.tdiv_le_self b h
    omega
  · have g0 : (-a).tdiv b = -(a.tdiv b) := Int.neg_tdiv a b
    have g1 := Int.tdiv_nonneg (a := -a) (b := b) (by omega) (Int.le_of_lt hb)
    have g2 : (-a).tdiv b ≤ -a := Int.tdiv_le_self b (by omega)
    omega
theorem ne1I {y : Int32} (h : 0 < y.toInt) : y ≠ -1 := by
  intro q
  rw [q] at h
  exact absurd h (by decide)
theorem ne1L {y : Int64} (h : 0 < y.toInt) : y ≠ -1 := by
  intro q
  rw [q] at h
  exact absurd h (by decide)
theorem divI {x y : Int32} (h : 0 < y.toInt) : (x / y).toInt = x.toInt.tdiv y.toInt := Int32.toInt_div_of_ne_right x y (ne1I h)
theorem divL {x y : Int64} (h : 0 < y.toInt) : (x / y).toInt = x.toInt.tdiv y.toInt := Int64.toInt_div_of_ne_right x y (ne1L h)
theorem remI {x y : Int32} (h : 0 < y.toInt) : (x - x / y * y).toInt = x.toInt.tmod y.toInt := by
  have r := fb_rng x
  have e := Int.tmod_add_mul_tdiv x.toInt y.toInt
  have m1 := Int.lt_tmod_of_pos x.toInt h
  have m2 := Int.tmod_lt_of_pos x.toInt h
  have ry := fb_rng y
  have hm : x.toInt.tdiv y.toInt * y.toInt = x.toInt - x.toInt.tmod y.toInt := by rw [Int.mul_comm]; omega
  have sg : (0 ≤ x.toInt → 0 ≤ x.toInt.tmod y.toInt) ∧ (x.toInt ≤ 0 → x.toInt.tmod y.toInt ≤ 0) := by
    refine ⟨fun h0 => by rw [Int.tmod_eq_emod_of_nonneg h0]; exact Int.emod_nonneg _ (by omega), fun h0 => ?_⟩
    have e2 : x.toInt.tmod y.toInt = -((-x.toInt).tmod y.toInt) := by rw [Int.neg_tmod, Int.neg_neg]
    rw [e2, Int.tmod_eq_emod_of_nonneg (by omega)]
    have := Int.emod_nonneg (-x.toInt) (by omega : y.toInt ≠ 0)
    omega
  have hb : (x / y * y).toInt = x.toInt - x.toInt.tmod y.toInt := by
    rw [fb_mulI (by rw [divI h, hm]; omega) (by rw [divI h, hm]; omega), divI h, hm]
  rw [fb_subI (by rw [hb]; omega) (by rw [hb]; omega), hb]
  omega
theorem remL {x y : Int64} (h : 0 < y.toInt) : (x - x / y * y).toInt = x.toInt.tmod y.toInt := by
  have r := fb_rngL x
  have e := Int.tmod_add_mul_tdiv x.toInt y.toInt
  have m1 := Int.lt_tmod_of_pos x.toInt h
  have m2 := Int.tmod_lt_of_pos x.toInt h
  have ry := fb_rngL y
  have hm : x.toInt.tdiv y.toInt * y.toInt = x.toInt - x.toInt.tmod y.toInt := by rw [Int.mul_comm]; omega
  have sg : (0 ≤ x.toInt → 0 ≤ x.toInt.tmod y.toInt) ∧ (x.toInt ≤ 0 → x.toInt.tmod y.toInt ≤ 0) := by
    refine ⟨fun h0 => by rw [Int.tmod_eq_emod_of_nonneg h0]; exact Int.emod_nonneg _ (by omega), fun h0 => ?_⟩
    have e2 : x.toInt.tmod y.toInt = -((-x.toInt).tmod y.toInt) := by rw [Int.neg_tmod, Int.neg_neg]
    rw [e2, Int.tmod_eq_emod_of_nonneg (by omega)]
    have := Int.emod_nonneg (-x.toInt) (by omega : y.toInt ≠ 0)
    omega
  have hb : (x / y * y).toInt = x.toInt - x.toInt.tmod y.toInt := by
    rw [fb_mulL (by rw [divL h, hm]; omega) (by rw [divL h, hm]; omega), divL h, hm]
  rw [fb_subL (by rw [hb]; omega) (by rw [hb]; omega), hb]
  omega
theorem tmod_np {a b : Int} (ha : a ≤ 0) (hb : 0 < b) : a.tmod b ≤ 0 := by
  have e2 : a.tmod b = -((-a).tmod b) := by rw [Int.neg_tmod, Int.neg_neg]
  rw [e2, Int.tmod_eq_emod_of_nonneg (by omega)]
  have := Int.emod_nonneg (-a) (by omega : b ≠ 0)
  omega
/-- floor of a remainder out of the machine's -/
theorem fm_neg {a b : Int} (hb : 0 < b) (ha : a < 0) (h0 : a.tmod b ≠ 0) : a % b = a.tmod b + b := by
  have e := @Int.emod_eq_tmod a b
  rw [if_neg (by
    rintro (h | h)
    · omega
    · exact h0 (by rw [Int.tmod_eq_emod, if_pos (Or.inr h), Int.emod_eq_zero_of_dvd h]; rfl))] at e
  omega
theorem fm_pos {a b : Int} (h : 0 ≤ a ∨ a.tmod b = 0) : a % b = a.tmod b := by
  rcases h with h | h
  · exact (Int.tmod_eq_emod_of_nonneg h).symm
  · rw [h]
    exact Int.emod_eq_zero_of_dvd (Int.dvd_of_tmod_eq_zero h)
/-- the JDK's floorDiv of two longs -/
def flD (x y : Int64) : Int64 := if x ^^^ y < 0 ∧ ¬ x / y * y = x then x / y - 1 else x / y
theorem flD_pos {x y : Int64} (h : 0 < y.toInt) : (flD x y).toInt = x.toInt / y.toInt := by
  have e := Int.tmod_add_mul_tdiv x.toInt y.toInt
  have r := fb_rngL x
  have hr := remL (x := x) h
  have hq := divL (x := x) h
  have hz : x / y * y = x ↔ x.toInt.tmod y.toInt = 0 := by
    rw [← hr]
    constructor
    · intro q; rw [q, Int64.sub_self]; rfl
    · intro q
      have q2 : x - x / y * y = 0 := eqL (by rw [q]; rfl)
      have q3 := congrArg (· + x / y * y) q2
      simpa using q3.symm
  have e2 := @Int.tdiv_eq_ediv x.toInt y.toInt
  have q1 := tdiv_rng h r.1 (Int.le_of_lt r.2) (by omega) (by omega)
  unfold flD
  by_cases hc : x ^^^ y < 0 ∧ ¬ x / y * y = x
  · rw [if_pos hc]
    have n1 : x.toInt < 0 := by
      have := xorL_neg.mp hc.1
      rcases Int.lt_or_le x.toInt 0 with q | q
      · exact q
      · exact absurd ⟨fun z => by omega, fun z => by omega⟩ this
    have n2 : ¬ y.toInt ∣ x.toInt := fun d => hc.2 (hz.mpr (by rw [Int.tmod_eq_emod, if_pos (Or.inr d), Int.emod_eq_zero_of_dvd d]; rfl))
    rw [if_neg (by rintro (q | q); omega; exact n2 q), Int.sign_eq_one_of_pos h] at e2
    have em := Int.emod_add_mul_ediv x.toInt y.toInt
    have hlo : -9223372036854775808 ≤ x.toInt / y.toInt := by
      have := Int.le_ediv_of_mul_le (a := -9223372036854775808) h (show (-9223372036854775808 : Int) * y.toInt ≤ x.toInt by omega)
      exact this
    rw [fb_subL (by rw [hq, Int64.toInt_one]; omega) (by rw [hq, Int64.toInt_one]; omega), hq, Int64.toInt_one]
    omega
  · rw [if_neg hc, hq, e2]
    by_cases n1 : x.toInt < 0
    · have hs : x ^^^ y < 0 := xorL_neg.mpr (fun q => by have := q.mp n1; omega)
      have hzz : x / y * y = x := Classical.byContradiction fun q => hc ⟨hs, q⟩
      rw [if_pos (Or.inr (Int.dvd_of_tmod_eq_zero (hz.mp hzz)))]
      omega
    · rw [if_pos (Or.inl (by omega))]
      omega
/-- whole roots -/
def isq : Nat → Nat
  | 0 => 0
  | n + 1 => if (isq n + 1) * (isq n + 1) ≤ n + 1 then isq n + 1 else isq n
theorem isq_spec : ∀ n, isq n * isq n ≤ n ∧ n < (isq n + 1) * (isq n + 1)
  | 0 => ⟨Nat.le_refl _, by decide⟩
  | n + 1 => by
    obtain ⟨h1, h2⟩ := isq_spec n
    rw [isq]
    split
    · rename_i h
      refine ⟨h, ?_⟩
      have : (isq n + 1 + 1) * (isq n + 1 + 1) = (isq n + 1) * (isq n + 1) + 2 * (isq n + 1) + 1 := by
        simp only [Nat.add_mul, Nat.mul_add, Nat.mul_one, Nat.one_mul]; omega
      omega
    · rename_i h
      exact ⟨by omega, by omega⟩
theorem isq_uniq {n k : Nat} (h1 : k * k ≤ n) (h2 : n < (k + 1) * (k + 1)) : isq n = k := by
  obtain ⟨g1, g2⟩ := isq_spec n
  rcases Nat.lt_trichotomy (isq n) k with q | q | q
  · have := Nat.mul_le_mul (show isq n + 1 ≤ k by omega) (show isq n + 1 ≤ k by omega)
    omega
  · exact q
  · have := Nat.mul_le_mul (show k + 1 ≤ isq n by omega) (show k + 1 ≤ isq n by omega)
    omega
theorem isq_lt {n k : Nat} (h : n < k * k) : isq n < k := by
  obtain ⟨g1, g2⟩ := isq_spec n
  rcases Nat.lt_or_ge (isq n) k with q | q
  · exact q
  · have := Nat.mul_le_mul q q
    omega
end
section
/-! what is computed, in whole numbers, out of the class's own rows: fn the nodes', fr the records', fp the plans' -/
def nd (fn : Nat → Int32) (i c : Nat) : Int := (fn (i * 6 + c)).toInt
def rd (fr : Nat → Int32) (e c : Nat) : Int := (fr (e * 8 + c)).toInt
def dsq (fn : Nat → Int32) (i j : Nat) : Int := (nd fn i 0 - nd fn j 0) * (nd fn i 0 - nd fn j 0) + (nd fn i 1 - nd fn j 1) * (nd fn i 1 - nd fn j 1)
def dst (fn : Nat → Int32) (i j : Nat) : Nat := isq (dsq fn i j).toNat
def nOk (fn : Nat → Int32) (i : Nat) : Prop := (-1000 ≤ nd fn i 0 ∧ nd fn i 0 ≤ 1000) ∧ (-1000 ≤ nd fn i 1 ∧ nd fn i 1 ≤ 1000) ∧ (-100 ≤ nd fn i 2 ∧ nd fn i 2 ≤ 100) ∧ (0 ≤ nd fn i 3 ∧ nd fn i 3 ≤ 1048575) ∧ (0 ≤ nd fn i 4 ∧ nd fn i 4 ≤ 200) ∧ (-1000000 ≤ nd fn i 5 ∧ nd fn i 5 ≤ 1000000)
def ini (fr : Nat → Int32) (e : Nat) : Nat := (rd fr e 0).toNat
def rsp (fr : Nat → Int32) (e : Nat) : Nat := (rd fr e 1).toNat
def rOk (kn : Nat) (fr : Nat → Int32) (e : Nat) : Prop := (fr (e * 8 + 0) = nI (ini fr e) ∧ ini fr e < kn) ∧ (fr (e * 8 + 1) = nI (rsp fr e) ∧ rsp fr e < kn) ∧ ∀ c, 2 ≤ c → c < 8 → 0 ≤ rd fr e c ∧ rd fr e c < 1048576
def ctr (fn : Nat → Int32) (i : Nat) (T : Int) : Int := (T * (1000000 + nd fn i 2) / 1000000 + nd fn i 3) % 1048576
def elp (fr : Nat → Int32) (e a b : Nat) : Int := (rd fr e b - rd fr e a) % 1048576
def raw (fr : Nat → Int32) (e m : Nat) : Int :=
  if m = 0 then (elp fr e 2 5 - elp fr e 3 4) / 2
  else if m = 1 then (elp fr e 2 5 - elp fr e 3 4 + elp fr e 4 7 - elp fr e 5 6) / 4
  else if elp fr e 2 5 + elp fr e 4 7 + elp fr e 5 6 + elp fr e 3 4 = 0 then 0
  else (elp fr e 2 5 * elp fr e 4 7 - elp fr e 5 6 * elp fr e 3 4) / (elp fr e 2 5 + elp fr e 4 7 + elp fr e 5 6 + elp fr e 3 4)
def rng (fn fr : Nat → Int32) (e m : Nat) : Int := raw fr e m - nd fn (ini fr e) 5 - nd fn (rsp fr e) 5
def len (fn fr : Nat → Int32) (e : Nat) : Nat := dst fn (ini fr e) (rsp fr e)
def err (fn fr : Nat → Int32) (e m : Nat) : Int := rng fn fr e m - len fn fr e
def exs (fn fr : Nat → Int32) (e : Nat) : Int := raw fr e 2 - len fn fr e
theorem sq_le {x n : Int} (h1 : -n ≤ x) (h2 : x ≤ n) : 0 ≤ x * x ∧ x * x ≤ n * n := by
  rcases Int.le_total 0 x with h | h
  · exact ⟨Int.mul_nonneg h h, Int.mul_le_mul h2 h2 h (by omega)⟩
  · have e : x * x = (-x) * (-x) := by rw [Int.neg_mul_neg]
    rw [e]
    exact ⟨Int.mul_nonneg (by omega) (by omega), Int.mul_le_mul (by omega) (by omega) (by omega) (by omega)⟩
theorem dsq_rng {fn : Nat → Int32} {i j : Nat} (hi : nOk fn i) (hj : nOk fn j) : 0 ≤ dsq fn i j ∧ dsq fn i j ≤ 8000000 := by
  have a := sq_le (x := nd fn i 0 - nd fn j 0) (n := 2000) (by have := hi.1; have := hj.1; omega) (by have := hi.1; have := hj.1; omega)
  have b := sq_le (x := nd fn i 1 - nd fn j 1) (n := 2000) (by have := hi.2.1; have := hj.2.1; omega) (by have := hi.2.1; have := hj.2.1; omega)
  unfold dsq
  omega
theorem dst_lt {fn : Nat → Int32} {i j : Nat} (hi : nOk fn i) (hj : nOk fn j) : dst fn i j < 2829 := by
  have := dsq_rng hi hj
  exact isq_lt (by omega)
theorem elp_rng (fr : Nat → Int32) (e a b : Nat) : 0 ≤ elp fr e a b ∧ elp fr e a b < 1048576 := ⟨Int.emod_nonneg _ (by decide), Int.emod_lt_of_pos _ (by decide)⟩
theorem mul_rng {a b : Int} (ha : 0 ≤ a) (hb : 0 ≤ b) (h1 : a < 1048576) (h2 : b < 1048576) : 0 ≤ a * b ∧ a * b < 1099511627776 := by
  refine ⟨Int.mul_nonneg ha hb, ?_⟩
  have := Int.mul_le_mul (show a ≤ 1048575 by omega) (show b ≤ 1048575 by omega) hb (by decide)
  omega
/-- a quotient of ranges -/
theorem quo_rng {a b c d : Int} (ha : 0 ≤ a) (hb : 0 ≤ b) (hc : 0 ≤ c) (hd : 0 ≤ d) (h1 : a < 1048576) (h2 : b < 1048576) (h3 : c < 1048576) (h4 : d < 1048576) (h0 : ¬ a + b + c + d = 0) : -1048576 ≤ (a * b - c * d) / (a + b + c + d) ∧ (a * b - c * d) / (a + b + c + d) ≤ 1048576 := by
  have hp : 0 < a + b + c + d := by omega
  have e1 : a * b ≤ 1048576 * b := Int.mul_le_mul_of_nonneg_right (by omega) hb
  have e2 : c * d ≤ 1048576 * d := Int.mul_le_mul_of_nonneg_right (by omega) hd
  have e3 := Int.mul_nonneg ha hb
  have e4 := Int.mul_nonneg hc hd
  refine ⟨Int.le_ediv_of_mul_le hp (by omega), ?_⟩
  have := Int.ediv_lt_of_lt_mul (a := a * b - c * d) (b := 1048577) hp (by omega)
  omega
theorem raw_rng (fr : Nat → Int32) (e m : Nat) : -1048576 ≤ raw fr e m ∧ raw fr e m ≤ 1048576 := by
  have a := elp_rng fr e 2 5
  have b := elp_rng fr e 3 4
  have c := elp_rng fr e 4 7
  have d := elp_rng fr e 5 6
  unfold raw
  split
  · omega
  · split
    · omega
    · split
      · omega
      · rename_i h
        have q := quo_rng (a := elp fr e 2 5) (b := elp fr e 4 7) (c := elp fr e 5 6) (d := elp fr e 3 4) a.1 c.1 d.1 b.1 a.2 c.2 d.2 b.2 h
        exact q
theorem rng_rng {kn : Nat} {fn fr : Nat → Int32} {e : Nat} (m : Nat) (hn : ∀ i, i < kn → nOk fn i) (hr : rOk kn fr e) : -3048576 ≤ rng fn fr e m ∧ rng fn fr e m ≤ 3048576 := by
  have a := raw_rng fr e m
  have b := (hn _ hr.1.2).2.2.2.2.2
  have c := (hn _ hr.2.1.2).2.2.2.2.2
  unfold rng
  omega
theorem len_lt {kn : Nat} {fn fr : Nat → Int32} {e : Nat} (hn : ∀ i, i < kn → nOk fn i) (hr : rOk kn fr e) : len fn fr e < 2829 := dst_lt (hn _ hr.1.2) (hn _ hr.2.1.2)
/-- the latest record between two nodes, of the first n -/
def btw (fr : Nat → Int32) (a b e : Nat) : Prop := (ini fr e = a ∧ rsp fr e = b) ∨ (ini fr e = b ∧ rsp fr e = a)
def isLat (fr : Nat → Int32) (a b n e : Nat) : Prop := e < n ∧ btw fr a b e ∧ ∀ j, e < j → j < n → ¬ btw fr a b j
def noLat (fr : Nat → Int32) (a b n : Nat) : Prop := ∀ j, j < n → ¬ btw fr a b j
theorem btw_swap {fr : Nat → Int32} {a b e : Nat} : btw fr a b e ↔ btw fr b a e := ⟨Or.symm, Or.symm⟩
theorem lat_one {fr : Nat → Int32} {a b n e f : Nat} (h1 : isLat fr a b n e) (h2 : isLat fr a b n f) : e = f := by
  rcases Nat.lt_trichotomy e f with q | q | q
  · exact absurd h2.2.1 (h1.2.2 f q h2.1)
  · exact q
  · exact absurd h1.2.1 (h2.2.2 e q h1.1)
end
section
theorem dvI_eq {x y : Int32} (h : 0 < y.toInt) : x / y * y = x ↔ x.toInt.tmod y.toInt = 0 := by
  rw [← remI h]
  constructor
  · intro q; rw [q, Int32.sub_self]; rfl
  · intro q
    have q2 : x - x / y * y = 0 := eqI (by rw [q]; rfl)
    have q3 := congrArg (· + x / y * y) q2
    simpa using q3.symm
theorem fd_neg {a b : Int} (hb : 0 < b) (ha : a < 0) (h0 : a.tmod b ≠ 0) : a / b = a.tdiv b - 1 := by
  have e := @Int.tdiv_eq_ediv a b
  rw [if_neg (by
    rintro (h | h)
    · omega
    · exact h0 (by rw [Int.tmod_eq_emod, if_pos (Or.inr h), Int.emod_eq_zero_of_dvd h]; rfl)), Int.sign_eq_one_of_pos hb] at e
  omega
theorem fd_pos {a b : Int} (h : 0 ≤ a ∨ a.tmod b = 0) : a / b = a.tdiv b := by
  rcases h with h | h
  · exact (Int.tdiv_eq_ediv_of_nonneg h).symm
  · exact (Int.tdiv_eq_ediv_of_dvd (Int.dvd_of_tmod_eq_zero h)).symm
set_option maxHeartbeats 4000000 in
set_option maxRecDepth 100000 in
theorem c_floorModI (l : Launch) (K : EK) (x y : Int32) (hy : 0 < y.toInt) : Met l yJ9_floorMod_7cf53 (wq yJ9_floorMod_7cf53 cJ9_floorMod_7cf53 3 (some .int)) (rmL 1 0 0) (va_Pc [.int x, .int y] (PR K [])) (vp_Si (fun r => r.toInt = x.toInt % y.toInt)) 0 0 NF := by
  refine hdR (by decide +kernel) (Nat.le_of_ble_eq_true rfl) ?_
  intro pp ee s mm bl9 me9 cd hx hb hr hlocks hml hown hts hE hP ls hl
  have hown : s.vm.findClass RJ9 = some mm.cls := hown
  have hP : va_P K.1 vwCl [] s.heap := hP
  have hl : lv_has ls 3 [(0, .int x), (1, .int y)] := hl
  have h0 : ¬ y = 0 := fun q => by rw [q] at hy; exact absurd hy (by decide)
  have m1 := Int.lt_tmod_of_pos x.toInt hy
  have m2 := Int.tmod_lt_of_pos x.toInt hy
  have ry := fb_rng y
  refine lv_iload_n hx hb dJ9_floorMod_7cf53_0 rfl (lv_at hl 0 rfl) ?_
  refine lv_iload_n hx hb dJ9_floorMod_7cf53_1 rfl (lv_at hl 1 rfl) ?_
  refine lv_irem hx hb dJ9_floorMod_7cf53_2 h0 ?_
  refine lv_topi (fun v2 e2 => ?_)
  have q2 : v2.toInt = x.toInt.tmod y.toInt := by rw [e2]; exact remI hy
  refine lv_istore_n (lv' := [(2, .int v2), (0, .int x), (1, .int y)]) hx hb dJ9_floorMod_7cf53_3 rfl hl (by decide) rfl (fun ls hl => ?_)
  refine lv_iload_n hx hb dJ9_floorMod_7cf53_4 rfl (lv_at hl 1 rfl) ?_
  refine lv_iload_n hx hb dJ9_floorMod_7cf53_5 rfl (lv_at hl 2 rfl) ?_
  refine lv_ixor hx hb dJ9_floorMod_7cf53_6 ?_
  refine lv_topi (fun v6 e6 => ?_)
  refine lv_if_ge (tgt := 18) hx hb dJ9_floorMod_7cf53_7 (by decide) (fun c7 => ?_) (fun c7 => ?_)
  · refine lv_iload_n hx hb dJ9_floorMod_7cf53_18 rfl (lv_at hl 0 rfl) ?_
    exact eI (v := v2) hx hb hr hlocks (by rw [q2]; exact (fm_pos (Or.inl (by have := mt (xorI_neg (x := x) (Int.le_of_lt hy)).mpr (by rw [← e6]; exact fun q => absurd (leI.mp c7) (by have := ltI.mp q; omega)); omega))).symm) dJ9_floorMod_7cf53_19
  · refine lv_iload_n hx hb dJ9_floorMod_7cf53_10 rfl (lv_at hl 0 rfl) ?_
    refine lv_if_eq (tgt := 18) hx hb dJ9_floorMod_7cf53_11 (by decide) (fun c11 => ?_) (fun c11 => ?_)
    · refine lv_iload_n hx hb dJ9_floorMod_7cf53_18 rfl (lv_at hl 0 rfl) ?_
      exact eI (v := v2) hx hb hr hlocks (by rw [q2]; exact (fm_pos (Or.inr (by rw [← q2, c11]; rfl))).symm) dJ9_floorMod_7cf53_19
    · refine lv_iload_n hx hb dJ9_floorMod_7cf53_14 rfl (lv_at hl 0 rfl) ?_
      refine lv_iload_n hx hb dJ9_floorMod_7cf53_15 rfl (lv_at hl 2 rfl) ?_
      refine lv_iadd hx hb dJ9_floorMod_7cf53_16 ?_
      refine lv_topi (fun v16 e16 => ?_)
      have hn : x.toInt < 0 := (xorI_neg (Int.le_of_lt hy)).mp (e6 ▸ ltI.mpr (Int.not_le.mp (mt leI.mpr c7)))
      have sg := tmod_np (Int.le_of_lt hn) hy
      exact eI (v := v16) hx hb hr hlocks (by rw [e16, fb_addI (by rw [q2]; omega) (by rw [q2]; omega), q2]; exact (fm_neg hy hn (fun q => c11 (eqI (by rw [q2, q]; rfl)))).symm) dJ9_floorMod_7cf53_17
set_option maxHeartbeats 4000000 in
set_option maxRecDepth 100000 in
theorem c_floorModL (l : Launch) (K : EK) (x y : Int64) (hy : 0 < y.toInt) : Met l yJ9_floorMod_f86c9 (wq yJ9_floorMod_f86c9 cJ9_floorMod_f86c9 6 (some .long)) (rmL 1 0 0) (va_Pc [.long x, .long y] (PR K [])) (vp_Sl (fun r => r.toInt = x.toInt % y.toInt)) 0 0 NF := by
  refine hdR (by decide +kernel) (Nat.le_of_ble_eq_true rfl) ?_
  intro pp ee s mm bl9 me9 cd hx hb hr hlocks hml hown hts hE hP ls hl
  have hown : s.vm.findClass RJ9 = some mm.cls := hown
  have hP : va_P K.1 vwCl [] s.heap := hP
  have hl : lv_has ls 6 [(0, .long x), (2, .long y)] := hl
  have h0 : ¬ y = 0 := fun q => by rw [q] at hy; exact absurd hy (by decide)
  have m1 := Int.lt_tmod_of_pos x.toInt hy
  have m2 := Int.tmod_lt_of_pos x.toInt hy
  have ry := fb_rngL y
  refine lv_lload_n hx hb dJ9_floorMod_f86c9_0 rfl (lv_at hl 0 rfl) ?_
  refine lv_lload_n hx hb dJ9_floorMod_f86c9_1 rfl (lv_at hl 1 rfl) ?_
  refine lv_lrem hx hb dJ9_floorMod_f86c9_2 h0 ?_
  refine lv_topl (fun v2 e2 => ?_)
  have q2 : v2.toInt = x.toInt.tmod y.toInt := by rw [e2]; exact remL hy
  refine lv_lstore (lv' := [(4, .long v2), (0, .long x), (2, .long y)]) hx hb dJ9_floorMod_f86c9_3 hl (by decide) rfl (fun ls hl => ?_)
  refine lv_lload_n hx hb dJ9_floorMod_f86c9_5 rfl (lv_at hl 1 rfl) ?_
  refine lv_lload_n hx hb dJ9_floorMod_f86c9_6 rfl (lv_at hl 2 rfl) ?_
  refine lv_lxor hx hb dJ9_floorMod_f86c9_7 ?_
  refine lv_topl (fun v7 e7 => ?_)
  refine lv_lconst (v := lN 0) hx hb dJ9_floorMod_f86c9_8 (by decide) ?_
  refine W.lcmp hx hb dJ9_floorMod_f86c9_9 ?_
  refine lv_if_ge (tgt := 25) hx hb dJ9_floorMod_f86c9_10 (by decide) (fun c10 => ?_) (fun c10 => ?_)
  · have c10 := (lg_cmp_ge _ _).mp c10
    refine lv_lload hx hb dJ9_floorMod_f86c9_25 (lv_at hl 0 rfl) ?_
    exact eL (v := v2) hx hb hr hlocks (by rw [q2]; exact (fm_pos (Or.inl (by have := mt (xorL_neg (x := x) (y := y)).mpr (by rw [← e7]; exact fun q => absurd (leL.mp c10) (by have := ltL.mp q; exact Int.not_le.mpr this)); omega))).symm) dJ9_floorMod_f86c9_27
  · have c10 := fun q => c10 ((lg_cmp_ge _ _).mpr q)
    refine lv_lload hx hb dJ9_floorMod_f86c9_13 (lv_at hl 0 rfl) ?_
    refine lv_lconst (v := lN 0) hx hb dJ9_floorMod_f86c9_15 (by decide) ?_
    refine W.lcmp hx hb dJ9_floorMod_f86c9_16 ?_
    refine lv_if_eq (tgt := 25) hx hb dJ9_floorMod_f86c9_17 (by decide) (fun c17 => ?_) (fun c17 => ?_)
    · have c17 := (lg_cmp_eq _ _).mp c17
      refine lv_lload hx hb dJ9_floorMod_f86c9_25 (lv_at hl 0 rfl) ?_
      exact eL (v := v2) hx hb hr hlocks (by rw [q2]; exact (fm_pos (Or.inr (by rw [← q2, c17]; rfl))).symm) dJ9_floorMod_f86c9_27
    · have c17 := fun q => c17 ((lg_cmp_eq _ _).mpr q)
      refine lv_lload hx hb dJ9_floorMod_f86c9_20 (lv_at hl 0 rfl) ?_
      refine lv_lload_n hx hb dJ9_floorMod_f86c9_22 rfl (lv_at hl 2 rfl) ?_
      refine lv_ladd hx hb dJ9_floorMod_f86c9_23 ?_
      refine lv_topl (fun v23 e23 => ?_)
      have hn : x.toInt < 0 := by have := xorL_neg.mp (e7 ▸ (ltL.mpr (Int.not_le.mp (mt leL.mpr c10)))); omega
      have sg := tmod_np (Int.le_of_lt hn) hy
      exact eL (v := v23) hx hb hr hlocks (by rw [e23, fb_addL (by rw [q2]; omega) (by rw [q2]; omega), q2]; exact (fm_neg hy hn (fun q => c17 (eqL (by rw [q2, q]; rfl)))).symm) dJ9_floorMod_f86c9_24
set_option maxHeartbeats 4000000 in
set_option maxRecDepth 100000 in
theorem c_floorDivL (l : Launch) (K : EK) (x y : Int64) (hy : ¬ y = 0) : Met l yJ9_floorDiv_f86c9 (wq yJ9_floorDiv_f86c9 cJ9_floorDiv_f86c9 6 (some .long)) (rmL 1 0 0) (va_Pc [.long x, .long y] (PR K [])) (vp_Sl (fun r => r = flD x y)) 0 0 NF := by
  refine hdR (by decide +kernel) (Nat.le_of_ble_eq_true rfl) ?_
  intro pp ee s mm bl9 me9 cd hx hb hr hlocks hml hown hts hE hP ls hl
  have hown : s.vm.findClass RJ9 = some mm.cls := hown
  have hP : va_P K.1 vwCl [] s.heap := hP
  have hl : lv_has ls 6 [(0, .long x), (2, .long y)] := hl
  refine lv_lload_n hx hb dJ9_floorDiv_f86c9_0 rfl (lv_at hl 0 rfl) ?_
  refine lv_lload_n hx hb dJ9_floorDiv_f86c9_1 rfl (lv_at hl 1 rfl) ?_
  refine lv_ldiv hx hb dJ9_floorDiv_f86c9_2 hy ?_
  refine lv_topl (fun v2 e2 => ?_)
  refine lv_lstore (lv' := [(4, .long v2), (0, .long x), (2, .long y)]) hx hb dJ9_floorDiv_f86c9_3 hl (by decide) rfl (fun ls hl => ?_)
  refine lv_lload_n hx hb dJ9_floorDiv_f86c9_5 rfl (lv_at hl 1 rfl) ?_
  refine lv_lload_n hx hb dJ9_floorDiv_f86c9_6 rfl (lv_at hl 2 rfl) ?_
  refine lv_lxor hx hb dJ9_floorDiv_f86c9_7 ?_
  refine lv_topl (fun v7 e7 => ?_)
  refine lv_lconst (v := lN 0) hx hb dJ9_floorDiv_f86c9_8 (by decide) ?_
  refine W.lcmp hx hb dJ9_floorDiv_f86c9_9 ?_
  refine lv_if_ge (tgt := 27) hx hb dJ9_floorDiv_f86c9_10 (by decide) (fun c10 => ?_) (fun c10 => ?_)
  · have c10 := (lg_cmp_ge _ _).mp c10
    refine lv_lload hx hb dJ9_floorDiv_f86c9_27 (lv_at hl 0 rfl) ?_
    exact eL (v := v2) hx hb hr hlocks (by rw [e2]; exact (if_neg (fun q => absurd (ltL.mp q.1) (by rw [← e7]; exact Int.not_lt.mpr (leL.mp c10)))).symm) dJ9_floorDiv_f86c9_29
  · have c10 := fun q => c10 ((lg_cmp_ge _ _).mpr q)
    refine lv_lload hx hb dJ9_floorDiv_f86c9_13 (lv_at hl 0 rfl) ?_
    refine lv_lload_n hx hb dJ9_floorDiv_f86c9_15 rfl (lv_at hl 2 rfl) ?_
    refine lv_lmul hx hb dJ9_floorDiv_f86c9_16 ?_
    refine lv_topl (fun v16 e16 => ?_)
    refine lv_lload_n hx hb dJ9_floorDiv_f86c9_17 rfl (lv_at hl 1 rfl) ?_
    refine W.lcmp hx hb dJ9_floorDiv_f86c9_18 ?_
    refine lv_if_eq (tgt := 27) hx hb dJ9_floorDiv_f86c9_19 (by decide) (fun c19 => ?_) (fun c19 => ?_)
    · have c19 := (lg_cmp_eq _ _).mp c19
      refine lv_lload hx hb dJ9_floorDiv_f86c9_27 (lv_at hl 0 rfl) ?_
      exact eL (v := v2) hx hb hr hlocks (by rw [e2]; exact (if_neg (fun q => q.2 (by rw [← e2, ← e16]; exact c19))).symm) dJ9_floorDiv_f86c9_29
    · have c19 := fun q => c19 ((lg_cmp_eq _ _).mpr q)
      refine lv_lload hx hb dJ9_floorDiv_f86c9_22 (lv_at hl 0 rfl) ?_
      refine lv_lconst (v := lN 1) hx hb dJ9_floorDiv_f86c9_24 (by decide) ?_
      refine lv_lsub hx hb dJ9_floorDiv_f86c9_25 ?_
      refine lv_topl (fun v25 e25 => ?_)
      exact eL (v := v25) hx hb hr hlocks (by rw [e25, e2]; exact (if_pos ⟨by rw [← e7]; exact ltL.mpr (Int.not_le.mp (mt leL.mpr c10)), by rw [← e2, ← e16]; exact c19⟩).symm) dJ9_floorDiv_f86c9_26
set_option maxHeartbeats 4000000 in
set_option maxRecDepth 100000 in
theorem c_floorDivI (l : Launch) (K : EK) (x y : Int32) (hy : 0 < y.toInt) (hx2 : -2147483648 < x.toInt) : Met l yJ9_floorDiv_7cf53 (wq yJ9_floorDiv_7cf53 cJ9_floorDiv_7cf53 3 (some .int)) (rmL 1 0 0) (va_Pc [.int x, .int y] (PR K [])) (vp_Si (fun r => r.toInt = x.toInt / y.toInt)) 0 0 NF := by
  refine hdR (by decide +kernel) (Nat.le_of_ble_eq_true rfl) ?_
  intro pp ee s mm bl9 me9 cd hx hb hr hlocks hml hown hts hE hP ls hl
  have hown : s.vm.findClass RJ9 = some mm.cls := hown
  have hP : va_P K.1 vwCl [] s.heap := hP
  have hl : lv_has ls 3 [(0, .int x), (1, .int y)] := hl
  have h0 : ¬ y = 0 := fun q => by rw [q] at hy; exact absurd hy (by decide)
  have m1 := tdiv_rng (a := x.toInt) (b := y.toInt) (lo := -2147483647) (hi := 2147483647) hy (by omega) (by have := fb_rng x; omega) (by omega) (by omega)
  refine lv_iload_n hx hb dJ9_floorDiv_7cf53_0 rfl (lv_at hl 0 rfl) ?_
  refine lv_iload_n hx hb dJ9_floorDiv_7cf53_1 rfl (lv_at hl 1 rfl) ?_
  refine lv_idiv hx hb dJ9_floorDiv_7cf53_2 h0 ?_
  refine lv_topi (fun v2 e2 => ?_)
  have q2 : v2.toInt = x.toInt.tdiv y.toInt := by rw [e2]; exact divI hy
  refine lv_istore_n (lv' := [(2, .int v2), (0, .int x), (1, .int y)]) hx hb dJ9_floorDiv_7cf53_3 rfl hl (by decide) rfl (fun ls hl => ?_)
  refine lv_iload_n hx hb dJ9_floorDiv_7cf53_4 rfl (lv_at hl 1 rfl) ?_
  refine lv_iload_n hx hb dJ9_floorDiv_7cf53_5 rfl (lv_at hl 2 rfl) ?_
  refine lv_ixor hx hb dJ9_floorDiv_7cf53_6 ?_
  refine lv_topi (fun v6 e6 => ?_)
  refine lv_if_ge (tgt := 21) hx hb dJ9_floorDiv_7cf53_7 (by decide) (fun c7 => ?_) (fun c7 => ?_)
  · refine lv_iload_n hx hb dJ9_floorDiv_7cf53_21 rfl (lv_at hl 0 rfl) ?_
    exact eI (v := v2) hx hb hr hlocks (by rw [q2]; exact (fd_pos (Or.inl (by have := mt (xorI_neg (x := x) (Int.le_of_lt hy)).mpr (by rw [← e6]; exact fun q => absurd (leI.mp c7) (Int.not_le.mpr (ltI.mp q))); omega))).symm) dJ9_floorDiv_7cf53_22
  · refine lv_iload_n hx hb dJ9_floorDiv_7cf53_10 rfl (lv_at hl 0 rfl) ?_
    refine lv_iload_n hx hb dJ9_floorDiv_7cf53_11 rfl (lv_at hl 2 rfl) ?_
    refine lv_imul hx hb dJ9_floorDiv_7cf53_12 ?_
    refine lv_topi (fun v12 e12 => ?_)
    refine lv_iload_n hx hb dJ9_floorDiv_7cf53_13 rfl (lv_at hl 1 rfl) ?_
    refine lv_icmp_eq (tgt := 21) hx hb dJ9_floorDiv_7cf53_14 (by decide) (fun c14 => ?_) (fun c14 => ?_)
    · refine lv_iload_n hx hb dJ9_floorDiv_7cf53_21 rfl (lv_at hl 0 rfl) ?_
      exact eI (v := v2) hx hb hr hlocks (by rw [q2]; exact (fd_pos (Or.inr ((dvI_eq hy).mp (by rw [← e2, ← e12]; exact c14)))).symm) dJ9_floorDiv_7cf53_22
    · refine lv_iload_n hx hb dJ9_floorDiv_7cf53_17 rfl (lv_at hl 0 rfl) ?_
      refine lv_iconst (v := nI 1) hx hb dJ9_floorDiv_7cf53_18 (by decide) ?_
      refine lv_isub hx hb dJ9_floorDiv_7cf53_19 ?_
      refine lv_topi (fun v19 e19 => ?_)
      exact eI (v := v19) hx hb hr hlocks (by rw [e19, fb_subI (by rw [q2, nI_toInt (by decide)]; omega) (by rw [q2, nI_toInt (by decide)]; omega), q2, nI_toInt (by decide)]; exact (fd_neg hy (xorI_neg (Int.le_of_lt hy) |>.mp (e6 ▸ (ltI.mpr (Int.not_le.mp (mt leI.mpr c7))))) (fun q => c14 (by rw [e12, e2]; exact (dvI_eq hy).mpr q))).symm) dJ9_floorDiv_7cf53_20
end
section
theorem nI_z {n : Nat} (h : n < 2 ^ 31) : nI n = 0 ↔ n = 0 := by rw [← nI_0]; exact nI_eq h (by decide)
theorem nI_gz {n : Nat} (h : n < 2 ^ 31) : 0 < nI n ↔ 0 < n := by rw [← nI_0]; exact nI_ltI (by decide) h
theorem nI_lz {n : Nat} (h : n < 2 ^ 31) : nI n ≤ 0 ↔ n ≤ 0 := by rw [← nI_0]; exact nI_leI h (by decide)
set_option maxHeartbeats 4000000 in
set_option maxRecDepth 100000 in
theorem c_isFull (l : Launch) (K : EK) (o b n wN c : Nat) (f : Nat → Int32) (h1 : (c + 1) * wN < 2 ^ 31) (hn : n < 2 ^ 31) (hc : c < 2 ^ 30) : Met l yX2_isFull (wq yX2_isFull cX2_isFull 1 (some .boolean)) (rmL 1 0 0) (va_Pc [.ref o] (PR K [(o, .inr (4, [.ref b, .int (nI wN), .int (nI c)])), (b, .inl (K.2.1, n, .inl (f)))])) (vp_Si (fun r => (r = 1 ∧ n < (c + 1) * wN) ∨ (r = 0 ∧ (c + 1) * wN ≤ n))) 0 0 NF := by
  refine hdR (by decide +kernel) (Nat.le_of_ble_eq_true rfl) ?_
  intro pp ee s mm bl9 me9 cd hx hb hr hlocks hml hown hts hE hP ls hl
  have hown : s.vm.findClass RX2 = some mm.cls := hown
  have hP : va_P K.1 vwCl [(o, .inr (4, [.ref b, .int (nI wN), .int (nI c)])), (b, .inl (K.2.1, n, .inl (f)))] s.heap := hP
  have hl : lv_has ls 1 [(0, .ref o)] := hl
  refine lv_aload_n hx hb dX2_isFull_0 rfl (lv_at hl 0 rfl) ?_
  refine va_get (D := K.1) (ci := 4) (v := .int (nI c)) (C := RX2) (T := TX2) (N := 3) hx hb hts inX2 hown hE.1 hP 0 rfl rfl 2 (by decide) (hts _ kf_X2_19) (fun _ h9 => h9) rfl dX2_isFull_1 ?_
  refine lv_iconst (v := nI 1) hx hb dX2_isFull_4 (by decide) ?_
  refine lv_iadd hx hb dX2_isFull_5 ?_
  rw [nI_add c 1]
  refine lv_aload_n hx hb dX2_isFull_6 rfl (lv_at hl 0 rfl) ?_
  refine va_get (D := K.1) (ci := 4) (v := .int (nI wN)) (C := RX2) (T := TX2) (N := 3) hx hb hts inX2 hown hE.1 hP 0 rfl rfl 1 (by decide) (hts _ kf_X2_15) (fun _ h9 => h9) rfl dX2_isFull_7 ?_
  refine lv_imul hx hb dX2_isFull_10 ?_
  rw [pk_mul (c + 1) wN]
  refine lv_aload_n hx hb dX2_isFull_11 rfl (lv_at hl 0 rfl) ?_
  refine va_get (D := K.1) (ci := 4) (v := .ref b) (C := RX2) (T := TX2) (N := 3) hx hb hts inX2 hown hE.1 hP 0 rfl rfl 0 (by decide) (hts _ kf_X2_9) (fun _ h9 => h9) rfl dX2_isFull_12 ?_
  refine va_alen hx hb hE.1 hP 1 0 rfl rfl rfl dX2_isFull_15 ?_
  refine lv_icmp_le (tgt := 23) hx hb dX2_isFull_16 (by decide) (fun c16 => ?_) (fun c16 => ?_)
  · have c16 := (nI_leI (a := (c + 1) * wN) (b := n) (by omega) (by omega)).mp c16
    refine lv_iconst (v := nI 0) hx hb dX2_isFull_23 (by decide) ?_
    exact eZ (v := nI 0) hx hb hr hlocks (by first | exact Or.inl rfl | exact Or.inr rfl | assumption) (Or.inr ⟨rfl, by omega⟩) dX2_isFull_24
  · have c16 := mt (nI_leI (a := (c + 1) * wN) (b := n) (by omega) (by omega)).mpr c16
    refine lv_iconst (v := nI 1) hx hb dX2_isFull_19 (by decide) ?_
    refine lv_goto (tgt := 24) hx hb dX2_isFull_20 (by decide) ?_
    exact eZ (v := nI 1) hx hb hr hlocks (by first | exact Or.inl rfl | exact Or.inr rfl | assumption) (Or.inl ⟨rfl, by omega⟩) dX2_isFull_24
set_option maxHeartbeats 4000000 in
set_option maxRecDepth 100000 in
theorem c_get (l : Launch) (K : EK) (o b n wN c i j : Nat) (f : Nat → Int32) (hlt : i * wN + j < n) (hn : n < 2 ^ 31) : Met l yX2_get (wq yX2_get cX2_get 4 (some .int)) (rmL 1 0 0) (va_Pc [.ref o, .int (nI i), .int (nI j)] (PR K [(o, .inr (4, [.ref b, .int (nI wN), .int (nI c)])), (b, .inl (K.2.1, n, .inl (f)))])) (vp_Si (fun r => r = f (i * wN + j))) 0 0 NF := by
  refine hdR (by decide +kernel) (Nat.le_of_ble_eq_true rfl) ?_
  intro pp ee s mm bl9 me9 cd hx hb hr hlocks hml hown hts hE hP ls hl
  have hown : s.vm.findClass RX2 = some mm.cls := hown
  have hP : va_P K.1 vwCl [(o, .inr (4, [.ref b, .int (nI wN), .int (nI c)])), (b, .inl (K.2.1, n, .inl (f)))] s.heap := hP
  have hl : lv_has ls 4 [(0, .ref o), (1, .int (nI i)), (2, .int (nI j))] := hl
  refine lv_iload_n hx hb dX2_get_0 rfl (lv_at hl 1 rfl) ?_
  refine lv_aload_n hx hb dX2_get_1 rfl (lv_at hl 0 rfl) ?_
  refine va_get (D := K.1) (ci := 4) (v := .int (nI wN)) (C := RX2) (T := TX2) (N := 3) hx hb hts inX2 hown hE.1 hP 0 rfl rfl 1 (by decide) (hts _ kf_X2_15) (fun _ h9 => h9) rfl dX2_get_2 ?_
  refine lv_imul hx hb dX2_get_5 ?_
  rw [pk_mul i wN]
  refine lv_iload_n hx hb dX2_get_6 rfl (lv_at hl 2 rfl) ?_
  refine lv_iadd hx hb dX2_get_7 ?_
  rw [nI_add (i * wN) j]
  refine lv_istore_n (lv' := [(3, .int (nI (i * wN + j))), (0, .ref o), (1, .int (nI i)), (2, .int (nI j))]) hx hb dX2_get_8 rfl hl (by decide) rfl (fun ls hl => ?_)
  refine lv_iload_n hx hb dX2_get_9 rfl (lv_at hl 0 rfl) ?_
  refine lv_if_lt (tgt := 31) hx hb dX2_get_10 (by decide) (fun c10 => ?_) (fun c10 => ?_)
  · exact absurd c10 (nI_pos (by omega))
  · refine lv_iload_n hx hb dX2_get_13 rfl (lv_at hl 0 rfl) ?_
    refine lv_aload_n hx hb dX2_get_14 rfl (lv_at hl 1 rfl) ?_
    refine va_get (D := K.1) (ci := 4) (v := .ref b) (C := RX2) (T := TX2) (N := 3) hx hb hts inX2 hown hE.1 hP 0 rfl rfl 0 (by decide) (hts _ kf_X2_9) (fun _ h9 => h9) rfl dX2_get_15 ?_
    refine va_alen hx hb hE.1 hP 1 0 rfl rfl rfl dX2_get_18 ?_
    refine lv_icmp_ge (tgt := 31) hx hb dX2_get_19 (by decide) (fun c19 => ?_) (fun c19 => ?_)
    · have c19 := (nI_leI (a := n) (b := i * wN + j) (by omega) (by omega)).mp c19
      omega
    · have c19 := mt (nI_leI (a := n) (b := i * wN + j) (by omega) (by omega)).mpr c19
      refine lv_aload_n hx hb dX2_get_22 rfl (lv_at hl 1 rfl) ?_
      refine va_get (D := K.1) (ci := 4) (v := .ref b) (C := RX2) (T := TX2) (N := 3) hx hb hts inX2 hown hE.1 hP 0 rfl rfl 0 (by decide) (hts _ kf_X2_9) (fun _ h9 => h9) rfl dX2_get_23 ?_
      refine lv_iload_n hx hb dX2_get_26 rfl (lv_at hl 0 rfl) ?_
      have i27 : nI (i * wN + j) = nI (i * wN + j) := rfl
      have j27 : i * wN + j < n := hlt
      refine va_iald hx hb hE.1 hP 1 0 rfl rfl (by rw [i27]; exact vp_in_nI j27 (by omega)) dX2_get_27 ?_
      rw [i27, nI_clamp (by omega)]
      refine lv_topi (fun v27 e27 => ?_)
      refine lv_goto (tgt := 32) hx hb dX2_get_28 (by decide) ?_
      exact eI (v := v27) hx hb hr hlocks (e27) dX2_get_32
set_option maxHeartbeats 4000000 in
set_option maxRecDepth 100000 in
theorem c_set (l : Launch) (K : EK) (o b n wN c i j sz : Nat) (f : Nat → Int32) (x : Int32) (hlt : i * wN + j < n) (hn : n < 2 ^ 31) : Met l yX2_set (wq yX2_set cX2_set 5 none) (rmL 1 0 0) (va_Pc [.ref o, .int (nI i), .int (nI j), .int x] (PW K sz [(o, .inr (4, [.ref b, .int (nI wN), .int (nI c)])), (b, .inl (K.2.1, n, .inl (f)))])) (va_Qv (fun (u : Unit) => True) (Bw K sz [(o, .inr (4, [.ref b, .int (nI wN), .int (nI c)])), (b, .inl (K.2.1, n, .inl (f)))] (fun (u : Unit) => [(o, .inr (4, [.ref b, .int (nI wN), .int (nI c)])), (b, .inl (K.2.1, n, .inl (upd f (i * wN + j) x)))])) (va_A [(o, .inr (4, [.ref b, .int (nI wN), .int (nI c)])), (b, .inl (K.2.1, n, .inl (f)))] sz)) 0 0 (va_A [(o, .inr (4, [.ref b, .int (nI wN), .int (nI c)])), (b, .inl (K.2.1, n, .inl (f)))] sz) := by
  refine hdW (by decide +kernel) (Nat.le_of_ble_eq_true rfl) ?_
  intro pp ee s mm bl9 me9 cd hx hb hr hlocks hml hown hin hts hE hP A hAe hsz hA hD hS ls hl
  have hown : s.vm.findClass RX2 = some mm.cls := hown
  have hP : va_P K.1 vwCl [(o, .inr (4, [.ref b, .int (nI wN), .int (nI c)])), (b, .inl (K.2.1, n, .inl (f)))] s.heap := hP
  have hD : va_D A [(o, .inr (4, [.ref b, .int (nI wN), .int (nI c)])), (b, .inl (K.2.1, n, .inl (f)))] := hD
  have hl : lv_has ls 5 [(0, .ref o), (1, .int (nI i)), (2, .int (nI j)), (3, .int x)] := hl
  refine lv_iload_n hx hb dX2_set_0 rfl (lv_at hl 1 rfl) ?_
  refine lv_aload_n hx hb dX2_set_1 rfl (lv_at hl 0 rfl) ?_
  refine va_get (D := K.1) (ci := 4) (v := .int (nI wN)) (C := RX2) (T := TX2) (N := 3) hx hb hts inX2 hown hE.1 hP 0 rfl rfl 1 (by decide) (hts _ kf_X2_15) (fun _ h9 => h9) rfl dX2_set_2 ?_
  refine lv_imul hx hb dX2_set_5 ?_
  rw [pk_mul i wN]
  refine lv_iload_n hx hb dX2_set_6 rfl (lv_at hl 2 rfl) ?_
  refine lv_iadd hx hb dX2_set_7 ?_
  rw [nI_add (i * wN) j]
  refine lv_istore (lv' := [(4, .int (nI (i * wN + j))), (0, .ref o), (1, .int (nI i)), (2, .int (nI j)), (3, .int x)]) hx hb dX2_set_8 hl (by decide) rfl (fun ls hl => ?_)
  refine lv_iload hx hb dX2_set_10 (lv_at hl 0 rfl) ?_
  refine lv_if_lt (tgt := 33) hx hb dX2_set_12 (by decide) (fun c12 => ?_) (fun c12 => ?_)
  · exact absurd c12 (nI_pos (by omega))
  · refine lv_iload hx hb dX2_set_15 (lv_at hl 0 rfl) ?_
    refine lv_aload_n hx hb dX2_set_17 rfl (lv_at hl 1 rfl) ?_
    refine va_get (D := K.1) (ci := 4) (v := .ref b) (C := RX2) (T := TX2) (N := 3) hx hb hts inX2 hown hE.1 hP 0 rfl rfl 0 (by decide) (hts _ kf_X2_9) (fun _ h9 => h9) rfl dX2_set_18 ?_
    refine va_alen hx hb hE.1 hP 1 0 rfl rfl rfl dX2_set_21 ?_
    refine lv_icmp_ge (tgt := 33) hx hb dX2_set_22 (by decide) (fun c22 => ?_) (fun c22 => ?_)
    · have c22 := (nI_leI (a := n) (b := i * wN + j) (by omega) (by omega)).mp c22
      omega
    · have c22 := mt (nI_leI (a := n) (b := i * wN + j) (by omega) (by omega)).mpr c22
      refine lv_aload_n hx hb dX2_set_25 rfl (lv_at hl 1 rfl) ?_
      refine va_get (D := K.1) (ci := 4) (v := .ref b) (C := RX2) (T := TX2) (N := 3) hx hb hts inX2 hown hE.1 hP 0 rfl rfl 0 (by decide) (hts _ kf_X2_9) (fun _ h9 => h9) rfl dX2_set_26 ?_
      refine lv_iload hx hb dX2_set_29 (lv_at hl 0 rfl) ?_
      refine lv_iload_n hx hb dX2_set_31 rfl (lv_at hl 4 rfl) ?_
      have i32 : nI (i * wN + j) = nI (i * wN + j) := rfl
      have j32 : i * wN + j < n := hlt
      refine va_iast hx hb hE.1 hP hD hS 1 0 rfl rfl (by rw [i32]; exact vp_in_nI j32 (by omega)) dX2_set_32 (fun H locs hP hD hS => ?_)
      rw [i32, nI_clamp (by omega)] at hP hD
      have hP : va_P K.1 vwCl [(o, .inr (4, [.ref b, .int (nI wN), .int (nI c)])), (b, .inl (K.2.1, n, .inl (upd f (i * wN + j) x)))] H := hP
      have hD : va_D A [(o, .inr (4, [.ref b, .int (nI wN), .int (nI c)])), (b, .inl (K.2.1, n, .inl (upd f (i * wN + j) x)))] := hD
      exact fV (()) hx hb hr hlocks hAe hP hD hS [0, 1] (by decide) rfl (trivial) dX2_set_33
set_option maxHeartbeats 4000000 in
set_option maxRecDepth 100000 in
theorem c_openRow (l : Launch) (K : EK) (o b n wN c i sz : Nat) (f : Nat → Int32) (hi : i ≤ c) (h1 : (c + 1) * wN ≤ n) (hn : n < 2 ^ 31) (hc : c < 2 ^ 30) : Met l yX2_openRow (wq yX2_openRow cX2_openRow 2 (some .int)) (rmL 3 0 0) (va_Pc [.ref o, .int (nI i)] (PW K sz [(o, .inr (4, [.ref b, .int (nI wN), .int (nI c)])), (b, .inl (K.2.1, n, .inl (f)))])) (va_Qi (fun r (u : Unit) => r = nI i) (Bw K sz [(o, .inr (4, [.ref b, .int (nI wN), .int (nI c)])), (b, .inl (K.2.1, n, .inl (f)))] (fun (u : Unit) => [(o, .inr (4, [.ref b, .int (nI wN), .int (nI (c + 1))])), (b, .inl (K.2.1, n, .inl (va_cpy f f (i * wN) ((i + 1) * wN) ((c - i) * wN))))])) (va_A [(o, .inr (4, [.ref b, .int (nI wN), .int (nI c)])), (b, .inl (K.2.1, n, .inl (f)))] sz)) 0 0 (va_A [(o, .inr (4, [.ref b, .int (nI wN), .int (nI c)])), (b, .inl (K.2.1, n, .inl (f)))] sz) := by
  refine hdW (by decide +kernel) (Nat.le_of_ble_eq_true rfl) ?_
  intro pp ee s mm bl9 me9 cd hx hb hr hlocks hml hown hin hts hE hP A hAe hsz hA hD hS ls hl
  have hown : s.vm.findClass RX2 = some mm.cls := hown
  have hP : va_P K.1 vwCl [(o, .inr (4, [.ref b, .int (nI wN), .int (nI c)])), (b, .inl (K.2.1, n, .inl (f)))] s.heap := hP
  have hD : va_D A [(o, .inr (4, [.ref b, .int (nI wN), .int (nI c)])), (b, .inl (K.2.1, n, .inl (f)))] := hD
  have hl : lv_has ls 2 [(0, .ref o), (1, .int (nI i))] := hl
  have g1 : i * wN + (c - i) * wN = c * wN := by rw [← Nat.add_mul]; congr 1; omega
  have g2 : (i + 1) * wN + (c - i) * wN = (c + 1) * wN := by rw [← Nat.add_mul]; congr 1; omega
  have g3 : c * wN ≤ (c + 1) * wN := Nat.mul_le_mul_right _ (by omega)
  have g4 : (i + 1) * wN ≤ (c + 1) * wN := Nat.mul_le_mul_right _ (by omega)
  have g5 : i * wN ≤ (i + 1) * wN := Nat.mul_le_mul_right _ (by omega)
  refine lv_aload_n hx hb dX2_openRow_0 rfl (lv_at hl 0 rfl) ?_
  refine goI (rdV (As := []) (rest := []) (c_isFull l K o b n wN c f (by omega) hn hc) ⟨hx, hb, hml, hown, hts⟩ (gV kl_X2_22 ki_X2_isFull ks_X2_isFull kn_X2 kc_X2_isFull) (by show okN yX2_isFull 0; decide +kernel) ⟨⟨Nat.le_of_ble_eq_true rfl, Nat.le_of_ble_eq_true rfl⟩, rfl, rfl⟩ hE hP [0, 1] rfl ⟨0, 4, _, _, rfl, rfl, rfl⟩ hl.1 rfl (Nat.le_of_ble_eq_true rfl) dX2_openRow_1 ⟨Nat.le_of_ble_eq_true rfl, Nat.le_of_ble_eq_true rfl⟩) (fun v1 e1 => ?_)
  refine lv_if_ne (tgt := 19) hx hb dX2_openRow_4 (by decide) (fun c4 => ?_) (fun c4 => ?_)
  · rcases e1 with q | q
    · omega
    · exact absurd q.1 c4
  · refine lv_iload_n hx hb dX2_openRow_7 rfl (lv_at hl 1 rfl) ?_
    refine lv_if_lt (tgt := 19) hx hb dX2_openRow_8 (by decide) (fun c8 => ?_) (fun c8 => ?_)
    · exact absurd c8 (nI_pos (by omega))
    · refine lv_iload_n hx hb dX2_openRow_11 rfl (lv_at hl 1 rfl) ?_
      refine lv_aload_n hx hb dX2_openRow_12 rfl (lv_at hl 0 rfl) ?_
      refine va_get (D := K.1) (ci := 4) (v := .int (nI c)) (C := RX2) (T := TX2) (N := 3) hx hb hts inX2 hown hE.1 hP 0 rfl rfl 2 (by decide) (hts _ kf_X2_19) (fun _ h9 => h9) rfl dX2_openRow_13 ?_
      refine lv_icmp_le (tgt := 21) hx hb dX2_openRow_16 (by decide) (fun c16 => ?_) (fun c16 => ?_)
      · have c16 := (nI_leI (a := i) (b := c) (by omega) (by omega)).mp c16
        refine lv_aload_n hx hb dX2_openRow_21 rfl (lv_at hl 0 rfl) ?_
        refine va_get (D := K.1) (ci := 4) (v := .ref b) (C := RX2) (T := TX2) (N := 3) hx hb hts inX2 hown hE.1 hP 0 rfl rfl 0 (by decide) (hts _ kf_X2_9) (fun _ h9 => h9) rfl dX2_openRow_22 ?_
        refine lv_iload_n hx hb dX2_openRow_25 rfl (lv_at hl 1 rfl) ?_
        refine lv_aload_n hx hb dX2_openRow_26 rfl (lv_at hl 0 rfl) ?_
        refine va_get (D := K.1) (ci := 4) (v := .int (nI wN)) (C := RX2) (T := TX2) (N := 3) hx hb hts inX2 hown hE.1 hP 0 rfl rfl 1 (by decide) (hts _ kf_X2_15) (fun _ h9 => h9) rfl dX2_openRow_27 ?_
        refine lv_imul hx hb dX2_openRow_30 ?_
        rw [pk_mul i wN]
        refine lv_aload_n hx hb dX2_openRow_31 rfl (lv_at hl 0 rfl) ?_
        refine va_get (D := K.1) (ci := 4) (v := .ref b) (C := RX2) (T := TX2) (N := 3) hx hb hts inX2 hown hE.1 hP 0 rfl rfl 0 (by decide) (hts _ kf_X2_9) (fun _ h9 => h9) rfl dX2_openRow_32 ?_
        refine lv_iload_n hx hb dX2_openRow_35 rfl (lv_at hl 1 rfl) ?_
        refine lv_iconst (v := nI 1) hx hb dX2_openRow_36 (by decide) ?_
        refine lv_iadd hx hb dX2_openRow_37 ?_
        rw [nI_add i 1]
        refine lv_aload_n hx hb dX2_openRow_38 rfl (lv_at hl 0 rfl) ?_
        refine va_get (D := K.1) (ci := 4) (v := .int (nI wN)) (C := RX2) (T := TX2) (N := 3) hx hb hts inX2 hown hE.1 hP 0 rfl rfl 1 (by decide) (hts _ kf_X2_15) (fun _ h9 => h9) rfl dX2_openRow_39 ?_
        refine lv_imul hx hb dX2_openRow_42 ?_
        rw [pk_mul (i + 1) wN]
        refine lv_aload_n hx hb dX2_openRow_43 rfl (lv_at hl 0 rfl) ?_
        refine va_get (D := K.1) (ci := 4) (v := .int (nI c)) (C := RX2) (T := TX2) (N := 3) hx hb hts inX2 hown hE.1 hP 0 rfl rfl 2 (by decide) (hts _ kf_X2_19) (fun _ h9 => h9) rfl dX2_openRow_44 ?_
        refine lv_iload_n hx hb dX2_openRow_47 rfl (lv_at hl 1 rfl) ?_
        refine lv_isub hx hb dX2_openRow_48 ?_
        rw [pk_sub (hi : i ≤ c)]
        refine lv_aload_n hx hb dX2_openRow_49 rfl (lv_at hl 0 rfl) ?_
        refine va_get (D := K.1) (ci := 4) (v := .int (nI wN)) (C := RX2) (T := TX2) (N := 3) hx hb hts inX2 hown hE.1 hP 0 rfl rfl 1 (by decide) (hts _ kf_X2_15) (fun _ h9 => h9) rfl dX2_openRow_50 ?_
        refine lv_imul hx hb dX2_openRow_53 ?_
        rw [pk_mul (c - i) wN]
        refine va_copyi hx hb (hml.trans hl.1.symm) hown (hts _ kl_X2_26) (hts _ kx_arraycopyName) (hts _ kt_arraycopyName) (hts _ kn_J10) hE.1 hP hD hS 1 1 0 0 rfl rfl rfl rfl rfl (nI_pos (by omega)) (nI_pos (by omega)) (nI_pos (by omega)) (by rw [nI_clamp (show i * wN < 2 ^ 31 from by omega), nI_clamp (show (c - i) * wN < 2 ^ 31 from by omega)]; omega) (by rw [nI_clamp (show (i + 1) * wN < 2 ^ 31 from by omega), nI_clamp (show (c - i) * wN < 2 ^ 31 from by omega)]; omega) (fun _ _ => rfl) (Nat.le_of_ble_eq_true rfl) (by decide +kernel) dX2_openRow_54 (fun H locs hP hD hS => ?_)
        rw [nI_clamp (show i * wN < 2 ^ 31 from by omega), nI_clamp (show (i + 1) * wN < 2 ^ 31 from by omega), nI_clamp (show (c - i) * wN < 2 ^ 31 from by omega)] at hP hD
        have hP : va_P K.1 vwCl [(o, .inr (4, [.ref b, .int (nI wN), .int (nI c)])), (b, .inl (K.2.1, n, .inl (va_cpy f f (i * wN) ((i + 1) * wN) ((c - i) * wN))))] H := hP
        have hD : va_D A [(o, .inr (4, [.ref b, .int (nI wN), .int (nI c)])), (b, .inl (K.2.1, n, .inl (va_cpy f f (i * wN) ((i + 1) * wN) ((c - i) * wN))))] := hD
        refine lv_aload_n hx hb dX2_openRow_57 rfl (lv_at hl 0 rfl) ?_
        refine lv_dup hx hb dX2_openRow_58 rfl ?_
        refine va_get (D := K.1) (ci := 4) (v := .int (nI c)) (C := RX2) (T := TX2) (N := 3) hx hb hts inX2 hown hE.1 hP 0 rfl rfl 2 (by decide) (hts _ kf_X2_19) (fun _ h9 => h9) rfl dX2_openRow_59 ?_
        refine lv_iconst (v := nI 1) hx hb dX2_openRow_62 (by decide) ?_
        refine lv_iadd hx hb dX2_openRow_63 ?_
        rw [nI_add c 1]
        refine va_put (D := K.1) (ci := 4) (v := .int (nI (c + 1))) (ty := .int) (C := RX2) (T := TX2) (N := 3) hx hb hts inX2 tyX2 tyX2_ok nmX2 hown hE.1 hP hD hS 0 rfl rfl 2 (by decide) (hts _ kf_X2_19) (fun _ h9 => h9) rfl (by decide +kernel) rfl rfl (Nat.le_of_ble_eq_true rfl) dX2_openRow_64 (fun H locs hP hD hS => ?_)
        have hP : va_P K.1 vwCl [(o, .inr (4, [.ref b, .int (nI wN), .int (nI (c + 1))])), (b, .inl (K.2.1, n, .inl (va_cpy f f (i * wN) ((i + 1) * wN) ((c - i) * wN))))] H := hP
        have hD : va_D A [(o, .inr (4, [.ref b, .int (nI wN), .int (nI (c + 1))])), (b, .inl (K.2.1, n, .inl (va_cpy f f (i * wN) ((i + 1) * wN) ((c - i) * wN))))] := hD
        refine lv_iload_n hx hb dX2_openRow_67 rfl (lv_at hl 1 rfl) ?_
        exact fI (v := nI i) (()) hx hb hr hlocks hAe hP hD hS [0, 1] (by decide) rfl (rfl) dX2_openRow_68
      · have c16 := mt (nI_leI (a := i) (b := c) (by omega) (by omega)).mpr c16
        omega
set_option maxHeartbeats 4000000 in
set_option maxRecDepth 100000 in
theorem c_removeFirstRow (l : Launch) (K : EK) (o b n wN c sz : Nat) (f : Nat → Int32) (h1 : (c + 1) * wN ≤ n) (hn : n < 2 ^ 31) (hc : c < 2 ^ 30) : Met l yX2_removeFirstRow (wq yX2_removeFirstRow cX2_removeFirstRow 1 none) (rmL 3 0 0) (va_Pc [.ref o] (PW K sz [(o, .inr (4, [.ref b, .int (nI wN), .int (nI (c + 1))])), (b, .inl (K.2.1, n, .inl (f)))])) (va_Qv (fun (u : Unit) => True) (Bw K sz [(o, .inr (4, [.ref b, .int (nI wN), .int (nI (c + 1))])), (b, .inl (K.2.1, n, .inl (f)))] (fun (u : Unit) => [(o, .inr (4, [.ref b, .int (nI wN), .int (nI c)])), (b, .inl (K.2.1, n, .inl (va_cpy f f wN 0 (c * wN))))])) (va_A [(o, .inr (4, [.ref b, .int (nI wN), .int (nI (c + 1))])), (b, .inl (K.2.1, n, .inl (f)))] sz)) 0 0 (va_A [(o, .inr (4, [.ref b, .int (nI wN), .int (nI (c + 1))])), (b, .inl (K.2.1, n, .inl (f)))] sz) := by
  refine hdW (by decide +kernel) (Nat.le_of_ble_eq_true rfl) ?_
  intro pp ee s mm bl9 me9 cd hx hb hr hlocks hml hown hin hts hE hP A hAe hsz hA hD hS ls hl
  have hown : s.vm.findClass RX2 = some mm.cls := hown
  have hP : va_P K.1 vwCl [(o, .inr (4, [.ref b, .int (nI wN), .int (nI (c + 1))])), (b, .inl (K.2.1, n, .inl (f)))] s.heap := hP
  have hD : va_D A [(o, .inr (4, [.ref b, .int (nI wN), .int (nI (c + 1))])), (b, .inl (K.2.1, n, .inl (f)))] := hD
  have hl : lv_has ls 1 [(0, .ref o)] := hl
  have g2 : (c + 1) * wN = c * wN + wN := by rw [Nat.add_mul, Nat.one_mul]
  refine lv_aload_n hx hb dX2_removeFirstRow_0 rfl (lv_at hl 0 rfl) ?_
  refine va_get (D := K.1) (ci := 4) (v := .int (nI (c + 1))) (C := RX2) (T := TX2) (N := 3) hx hb hts inX2 hown hE.1 hP 0 rfl rfl 2 (by decide) (hts _ kf_X2_19) (fun _ h9 => h9) rfl dX2_removeFirstRow_1 ?_
  refine lv_if_le (tgt := 42) hx hb dX2_removeFirstRow_4 (by decide) (fun c4 => ?_) (fun c4 => ?_)
  · have c4 := (nI_lz (n := c + 1) (by omega)).mp c4
    omega
  · have c4 := mt (nI_lz (n := c + 1) (by omega)).mpr c4
    refine lv_aload_n hx hb dX2_removeFirstRow_7 rfl (lv_at hl 0 rfl) ?_
    refine lv_dup hx hb dX2_removeFirstRow_8 rfl ?_
    refine va_get (D := K.1) (ci := 4) (v := .int (nI (c + 1))) (C := RX2) (T := TX2) (N := 3) hx hb hts inX2 hown hE.1 hP 0 rfl rfl 2 (by decide) (hts _ kf_X2_19) (fun _ h9 => h9) rfl dX2_removeFirstRow_9 ?_
    refine lv_iconst (v := nI 1) hx hb dX2_removeFirstRow_12 (by decide) ?_
    refine lv_isub hx hb dX2_removeFirstRow_13 ?_
    rw [pk_sub (by omega : 1 ≤ c + 1)]
    rw [show (c + 1) - 1 = c from by omega]
    refine va_put (D := K.1) (ci := 4) (v := .int (nI c)) (ty := .int) (C := RX2) (T := TX2) (N := 3) hx hb hts inX2 tyX2 tyX2_ok nmX2 hown hE.1 hP hD hS 0 rfl rfl 2 (by decide) (hts _ kf_X2_19) (fun _ h9 => h9) rfl (by decide +kernel) rfl rfl (Nat.le_of_ble_eq_true rfl) dX2_removeFirstRow_14 (fun H locs hP hD hS => ?_)
    have hP : va_P K.1 vwCl [(o, .inr (4, [.ref b, .int (nI wN), .int (nI c)])), (b, .inl (K.2.1, n, .inl (f)))] H := hP
    have hD : va_D A [(o, .inr (4, [.ref b, .int (nI wN), .int (nI c)])), (b, .inl (K.2.1, n, .inl (f)))] := hD
    refine lv_aload_n hx hb dX2_removeFirstRow_17 rfl (lv_at hl 0 rfl) ?_
    refine va_get (D := K.1) (ci := 4) (v := .ref b) (C := RX2) (T := TX2) (N := 3) hx hb hts inX2 hown hE.1 hP 0 rfl rfl 0 (by decide) (hts _ kf_X2_9) (fun _ h9 => h9) rfl dX2_removeFirstRow_18 ?_
    refine lv_aload_n hx hb dX2_removeFirstRow_21 rfl (lv_at hl 0 rfl) ?_
    refine va_get (D := K.1) (ci := 4) (v := .int (nI wN)) (C := RX2) (T := TX2) (N := 3) hx hb hts inX2 hown hE.1 hP 0 rfl rfl 1 (by decide) (hts _ kf_X2_15) (fun _ h9 => h9) rfl dX2_removeFirstRow_22 ?_
    refine lv_aload_n hx hb dX2_removeFirstRow_25 rfl (lv_at hl 0 rfl) ?_
    refine va_get (D := K.1) (ci := 4) (v := .ref b) (C := RX2) (T := TX2) (N := 3) hx hb hts inX2 hown hE.1 hP 0 rfl rfl 0 (by decide) (hts _ kf_X2_9) (fun _ h9 => h9) rfl dX2_removeFirstRow_26 ?_
    refine lv_iconst (v := nI 0) hx hb dX2_removeFirstRow_29 (by decide) ?_
    refine lv_aload_n hx hb dX2_removeFirstRow_30 rfl (lv_at hl 0 rfl) ?_
    refine va_get (D := K.1) (ci := 4) (v := .int (nI c)) (C := RX2) (T := TX2) (N := 3) hx hb hts inX2 hown hE.1 hP 0 rfl rfl 2 (by decide) (hts _ kf_X2_19) (fun _ h9 => h9) rfl dX2_removeFirstRow_31 ?_
    refine lv_aload_n hx hb dX2_removeFirstRow_34 rfl (lv_at hl 0 rfl) ?_
    refine va_get (D := K.1) (ci := 4) (v := .int (nI wN)) (C := RX2) (T := TX2) (N := 3) hx hb hts inX2 hown hE.1 hP 0 rfl rfl 1 (by decide) (hts _ kf_X2_15) (fun _ h9 => h9) rfl dX2_removeFirstRow_35 ?_
    refine lv_imul hx hb dX2_removeFirstRow_38 ?_
    rw [pk_mul c wN]
    refine va_copyi hx hb (hml.trans hl.1.symm) hown (hts _ kl_X2_26) (hts _ kx_arraycopyName) (hts _ kt_arraycopyName) (hts _ kn_J10) hE.1 hP hD hS 1 1 0 0 rfl rfl rfl rfl rfl (nI_pos (by omega)) (nI_pos (by omega)) (nI_pos (by omega)) (by rw [nI_clamp (show wN < 2 ^ 31 from by omega), nI_clamp (show c * wN < 2 ^ 31 from by omega)]; omega) (by rw [nI_clamp (show 0 < 2 ^ 31 from by omega), nI_clamp (show c * wN < 2 ^ 31 from by omega)]; omega) (fun _ _ => rfl) (Nat.le_of_ble_eq_true rfl) (by decide +kernel) dX2_removeFirstRow_39 (fun H locs hP hD hS => ?_)
    rw [nI_clamp (show wN < 2 ^ 31 from by omega), nI_clamp (show 0 < 2 ^ 31 from by omega), nI_clamp (show c * wN < 2 ^ 31 from by omega)] at hP hD
    have hP : va_P K.1 vwCl [(o, .inr (4, [.ref b, .int (nI wN), .int (nI c)])), (b, .inl (K.2.1, n, .inl (va_cpy f f wN 0 (c * wN))))] H := hP
    have hD : va_D A [(o, .inr (4, [.ref b, .int (nI wN), .int (nI c)])), (b, .inl (K.2.1, n, .inl (va_cpy f f wN 0 (c * wN))))] := hD
    exact fV (()) hx hb hr hlocks hAe hP hD hS [0, 1] (by decide) rfl (trivial) dX2_removeFirstRow_42
set_option maxHeartbeats 4000000 in
set_option maxRecDepth 100000 in
theorem c_tcopy (l : Launch) (K : EK) (o b n wN c sz o2 b2 n2 w2 c2 : Nat) (f g : Nat → Int32) (h1 : c2 * wN ≤ n) (h2 : c2 * wN ≤ n2) (hn : n < 2 ^ 31) (hn2 : n2 < 2 ^ 31) : Met l yX2_copyFrom (wq yX2_copyFrom cX2_copyFrom 3 none) (rmL 3 0 0) (va_Pc [.ref o, .ref o2] (PW K sz [(o, .inr (4, [.ref b, .int (nI wN), .int (nI c)])), (b, .inl (K.2.1, n, .inl (f))), (o2, .inr (4, [.ref b2, .int (nI w2), .int (nI c2)])), (b2, .inl (K.2.1, n2, .inl (g)))])) (va_Qv (fun (u : Unit) => True) (Bw K sz [(o, .inr (4, [.ref b, .int (nI wN), .int (nI c)])), (b, .inl (K.2.1, n, .inl (f))), (o2, .inr (4, [.ref b2, .int (nI w2), .int (nI c2)])), (b2, .inl (K.2.1, n2, .inl (g)))] (fun (u : Unit) => [(o, .inr (4, [.ref b, .int (nI wN), .int (nI c2)])), (b, .inl (K.2.1, n, .inl (va_cpy g f 0 0 (c2 * wN)))), (o2, .inr (4, [.ref b2, .int (nI w2), .int (nI c2)])), (b2, .inl (K.2.1, n2, .inl (g)))])) (va_A [(o, .inr (4, [.ref b, .int (nI wN), .int (nI c)])), (b, .inl (K.2.1, n, .inl (f))), (o2, .inr (4, [.ref b2, .int (nI w2), .int (nI c2)])), (b2, .inl (K.2.1, n2, .inl (g)))] sz)) 0 0 (va_A [(o, .inr (4, [.ref b, .int (nI wN), .int (nI c)])), (b, .inl (K.2.1, n, .inl (f))), (o2, .inr (4, [.ref b2, .int (nI w2), .int (nI c2)])), (b2, .inl (K.2.1, n2, .inl (g)))] sz) := by
  refine hdW (by decide +kernel) (Nat.le_of_ble_eq_true rfl) ?_
  intro pp ee s mm bl9 me9 cd hx hb hr hlocks hml hown hin hts hE hP A hAe hsz hA hD hS ls hl
  have hown : s.vm.findClass RX2 = some mm.cls := hown
  have hP : va_P K.1 vwCl [(o, .inr (4, [.ref b, .int (nI wN), .int (nI c)])), (b, .inl (K.2.1, n, .inl (f))), (o2, .inr (4, [.ref b2, .int (nI w2), .int (nI c2)])), (b2, .inl (K.2.1, n2, .inl (g)))] s.heap := hP
  have hD : va_D A [(o, .inr (4, [.ref b, .int (nI wN), .int (nI c)])), (b, .inl (K.2.1, n, .inl (f))), (o2, .inr (4, [.ref b2, .int (nI w2), .int (nI c2)])), (b2, .inl (K.2.1, n2, .inl (g)))] := hD
  have hl : lv_has ls 3 [(0, .ref o), (1, .ref o2)] := hl
  refine lv_aload_n hx hb dX2_copyFrom_0 rfl (lv_at hl 1 rfl) ?_
  refine va_get (D := K.1) (ci := 4) (v := .int (nI c2)) (C := RX2) (T := TX2) (N := 3) hx hb hts inX2 hown hE.1 hP 2 rfl rfl 2 (by decide) (hts _ kf_X2_19) (fun _ h9 => h9) rfl dX2_copyFrom_1 ?_
  refine lv_aload_n hx hb dX2_copyFrom_4 rfl (lv_at hl 0 rfl) ?_
  refine va_get (D := K.1) (ci := 4) (v := .int (nI wN)) (C := RX2) (T := TX2) (N := 3) hx hb hts inX2 hown hE.1 hP 0 rfl rfl 1 (by decide) (hts _ kf_X2_15) (fun _ h9 => h9) rfl dX2_copyFrom_5 ?_
  refine lv_imul hx hb dX2_copyFrom_8 ?_
  rw [pk_mul c2 wN]
  refine lv_istore_n (lv' := [(2, .int (nI (c2 * wN))), (0, .ref o), (1, .ref o2)]) hx hb dX2_copyFrom_9 rfl hl (by decide) rfl (fun ls hl => ?_)
  refine lv_iload_n hx hb dX2_copyFrom_10 rfl (lv_at hl 0 rfl) ?_
  refine lv_aload_n hx hb dX2_copyFrom_11 rfl (lv_at hl 1 rfl) ?_
  refine va_get (D := K.1) (ci := 4) (v := .ref b) (C := RX2) (T := TX2) (N := 3) hx hb hts inX2 hown hE.1 hP 0 rfl rfl 0 (by decide) (hts _ kf_X2_9) (fun _ h9 => h9) rfl dX2_copyFrom_12 ?_
  refine va_alen hx hb hE.1 hP 1 0 rfl rfl rfl dX2_copyFrom_15 ?_
  refine lv_icmp_gt (tgt := 50) hx hb dX2_copyFrom_16 (by decide) (fun c16 => ?_) (fun c16 => ?_)
  · have c16 := (nI_ltI (a := n) (b := c2 * wN) (by omega) (by omega)).mp c16
    omega
  · have c16 := mt (nI_ltI (a := n) (b := c2 * wN) (by omega) (by omega)).mpr c16
    refine lv_iload_n hx hb dX2_copyFrom_19 rfl (lv_at hl 0 rfl) ?_
    refine lv_aload_n hx hb dX2_copyFrom_20 rfl (lv_at hl 2 rfl) ?_
    refine va_get (D := K.1) (ci := 4) (v := .ref b2) (C := RX2) (T := TX2) (N := 3) hx hb hts inX2 hown hE.1 hP 2 rfl rfl 0 (by decide) (hts _ kf_X2_9) (fun _ h9 => h9) rfl dX2_copyFrom_21 ?_
    refine va_alen hx hb hE.1 hP 3 0 rfl rfl rfl dX2_copyFrom_24 ?_
    refine lv_icmp_gt (tgt := 50) hx hb dX2_copyFrom_25 (by decide) (fun c25 => ?_) (fun c25 => ?_)
    · have c25 := (nI_ltI (a := n2) (b := c2 * wN) (by omega) (by omega)).mp c25
      omega
    · have c25 := mt (nI_ltI (a := n2) (b := c2 * wN) (by omega) (by omega)).mpr c25
      refine lv_aload_n hx hb dX2_copyFrom_28 rfl (lv_at hl 2 rfl) ?_
      refine va_get (D := K.1) (ci := 4) (v := .ref b2) (C := RX2) (T := TX2) (N := 3) hx hb hts inX2 hown hE.1 hP 2 rfl rfl 0 (by decide) (hts _ kf_X2_9) (fun _ h9 => h9) rfl dX2_copyFrom_29 ?_
      refine lv_iconst (v := nI 0) hx hb dX2_copyFrom_32 (by decide) ?_
      refine lv_aload_n hx hb dX2_copyFrom_33 rfl (lv_at hl 1 rfl) ?_
      refine va_get (D := K.1) (ci := 4) (v := .ref b) (C := RX2) (T := TX2) (N := 3) hx hb hts inX2 hown hE.1 hP 0 rfl rfl 0 (by decide) (hts _ kf_X2_9) (fun _ h9 => h9) rfl dX2_copyFrom_34 ?_
      refine lv_iconst (v := nI 0) hx hb dX2_copyFrom_37 (by decide) ?_
      refine lv_iload_n hx hb dX2_copyFrom_38 rfl (lv_at hl 0 rfl) ?_
      refine va_copyi hx hb (hml.trans hl.1.symm) hown (hts _ kl_X2_26) (hts _ kx_arraycopyName) (hts _ kt_arraycopyName) (hts _ kn_J10) hE.1 hP hD hS 3 1 0 0 rfl rfl rfl rfl rfl (nI_pos (by omega)) (nI_pos (by omega)) (nI_pos (by omega)) (by rw [nI_clamp (show 0 < 2 ^ 31 from by omega), nI_clamp (show c2 * wN < 2 ^ 31 from by omega)]; omega) (by rw [nI_clamp (show 0 < 2 ^ 31 from by omega), nI_clamp (show c2 * wN < 2 ^ 31 from by omega)]; omega) (fun _ _ => rfl) (Nat.le_of_ble_eq_true rfl) (by decide +kernel) dX2_copyFrom_39 (fun H locs hP hD hS => ?_)
      rw [nI_clamp (show 0 < 2 ^ 31 from by omega), nI_clamp (show c2 * wN < 2 ^ 31 from by omega)] at hP hD
      have hP : va_P K.1 vwCl [(o, .inr (4, [.ref b, .int (nI wN), .int (nI c)])), (b, .inl (K.2.1, n, .inl (va_cpy g f 0 0 (c2 * wN)))), (o2, .inr (4, [.ref b2, .int (nI w2), .int (nI c2)])), (b2, .inl (K.2.1, n2, .inl (g)))] H := hP
      have hD : va_D A [(o, .inr (4, [.ref b, .int (nI wN), .int (nI c)])), (b, .inl (K.2.1, n, .inl (va_cpy g f 0 0 (c2 * wN)))), (o2, .inr (4, [.ref b2, .int (nI w2), .int (nI c2)])), (b2, .inl (K.2.1, n2, .inl (g)))] := hD
      refine lv_aload_n hx hb dX2_copyFrom_42 rfl (lv_at hl 1 rfl) ?_
      refine lv_aload_n hx hb dX2_copyFrom_43 rfl (lv_at hl 2 rfl) ?_
      refine va_get (D := K.1) (ci := 4) (v := .int (nI c2)) (C := RX2) (T := TX2) (N := 3) hx hb hts inX2 hown hE.1 hP 2 rfl rfl 2 (by decide) (hts _ kf_X2_19) (fun _ h9 => h9) rfl dX2_copyFrom_44 ?_
      refine va_put (D := K.1) (ci := 4) (v := .int (nI c2)) (ty := .int) (C := RX2) (T := TX2) (N := 3) hx hb hts inX2 tyX2 tyX2_ok nmX2 hown hE.1 hP hD hS 0 rfl rfl 2 (by decide) (hts _ kf_X2_19) (fun _ h9 => h9) rfl (by decide +kernel) rfl rfl (Nat.le_of_ble_eq_true rfl) dX2_copyFrom_47 (fun H locs hP hD hS => ?_)
      have hP : va_P K.1 vwCl [(o, .inr (4, [.ref b, .int (nI wN), .int (nI c2)])), (b, .inl (K.2.1, n, .inl (va_cpy g f 0 0 (c2 * wN)))), (o2, .inr (4, [.ref b2, .int (nI w2), .int (nI c2)])), (b2, .inl (K.2.1, n2, .inl (g)))] H := hP
      have hD : va_D A [(o, .inr (4, [.ref b, .int (nI wN), .int (nI c2)])), (b, .inl (K.2.1, n, .inl (va_cpy g f 0 0 (c2 * wN)))), (o2, .inr (4, [.ref b2, .int (nI w2), .int (nI c2)])), (b2, .inl (K.2.1, n2, .inl (g)))] := hD
      exact fV (()) hx hb hr hlocks hAe hP hD hS [0, 1, 2, 3] (by decide) rfl (trivial) dX2_copyFrom_50
end
section
theorem sub1 (n : Nat) : nI n - nI 1 = nI n + -1 := by
  refine eqI ?_
  rw [Int32.toInt_sub, Int32.toInt_add]
  rfl
set_option maxHeartbeats 4000000 in
set_option maxRecDepth 100000 in
theorem c_floorLength (l : Launch) (K : EK) (dx dy : Int32) (h1 : -2000 ≤ dx.toInt ∧ dx.toInt ≤ 2000) (h2 : -2000 ≤ dy.toInt ∧ dy.toInt ≤ 2000) : Met l yX3_floorLength (wq yX3_floorLength cX3_floorLength 6 (some .int)) (rmL 1 0 0) (va_Pc [.int dx, .int dy] (PR K [])) (vp_Si (fun r => r = nI (isq (dx.toInt * dx.toInt + dy.toInt * dy.toInt).toNat))) 0 0 NF := by
  refine hdR (by decide +kernel) (Nat.le_of_ble_eq_true rfl) ?_
  intro pp ee s mm bl9 me9 cd hx hb hr hlocks hml hown hts hE hP ls hl
  have hown : s.vm.findClass RX3 = some mm.cls := hown
  have hP : va_P K.1 vwCl [] s.heap := hP
  have hl : lv_has ls 6 [(0, .int dx), (1, .int dy)] := hl
  have g1 := sq_le (x := dx.toInt) (n := 2000) h1.1 h1.2
  have g2 := sq_le (x := dy.toInt) (n := 2000) h2.1 h2.2
  obtain ⟨S, hSe⟩ : ∃ S : Nat, (dx.toInt * dx.toInt + dy.toInt * dy.toInt).toNat = S := ⟨_, rfl⟩
  have hS2 : S < 4096 * 4096 := by omega
  refine lv_iload_n hx hb dX3_floorLength_0 rfl (lv_at hl 0 rfl) ?_
  refine lv_iload_n hx hb dX3_floorLength_1 rfl (lv_at hl 0 rfl) ?_
  refine lv_imul hx hb dX3_floorLength_2 ?_
  refine lv_topi (fun v2 e2 => ?_)
  refine lv_iload_n hx hb dX3_floorLength_3 rfl (lv_at hl 1 rfl) ?_
  refine lv_iload_n hx hb dX3_floorLength_4 rfl (lv_at hl 1 rfl) ?_
  refine lv_imul hx hb dX3_floorLength_5 ?_
  refine lv_topi (fun v5 e5 => ?_)
  refine lv_iadd hx hb dX3_floorLength_6 ?_
  refine lv_topi (fun v6 e6 => ?_)
  have hS1 : v6 = nI S := by
    have q2 : v2.toInt = dx.toInt * dx.toInt := by rw [e2]; exact fb_mulI (by omega) (by omega)
    have q5 : v5.toInt = dy.toInt * dy.toInt := by rw [e5]; exact fb_mulI (by omega) (by omega)
    refine eqI ?_
    rw [e6, fb_addI (by omega) (by omega), nI_toInt (by omega)]
    omega
  refine lv_istore_n (lv' := [(2, .int v6), (0, .int dx), (1, .int dy)]) hx hb dX3_floorLength_7 rfl hl (by decide) rfl (fun ls hl => ?_)
  rw [hS1] at hl
  refine lv_iconst (v := nI 0) hx hb dX3_floorLength_8 (by decide) ?_
  refine lv_istore_n (lv' := [(3, .int (nI 0)), (2, .int (nI S)), (0, .int dx), (1, .int dy)]) hx hb dX3_floorLength_9 rfl hl (by decide) rfl (fun ls hl => ?_)
  refine lv_sipush (v := nI 2048) hx hb dX3_floorLength_10 (by decide) ?_
  refine lv_istore (lv' := [(4, .int (nI 2048)), (3, .int (nI 0)), (2, .int (nI S)), (0, .int dx), (1, .int dy)]) hx hb dX3_floorLength_13 hl (by decide) rfl (fun ls hl => ?_)
  refine lpR (α := Nat × Nat × Nat) (fun (x9 : Nat × Nat × Nat) => x9.1 * x9.1 ≤ S ∧ S < (x9.1 + 2 ^ x9.2.1) * (x9.1 + 2 ^ x9.2.1) ∧ x9.2.2 = 2 ^ x9.2.1 / 2 ∧ x9.2.1 ≤ 12) (fun (x9 : Nat × Nat × Nat) => x9.2.1) (fun (x9 : Nat × Nat × Nat) => [(0, .int dx), (1, .int dy), (2, .int (nI S)), (3, .int (nI x9.1)), (4, .int (nI x9.2.2))]) 6 15 (fun x9 hI15 ih15 ls hl => ?_) (0, 12, 2048) (⟨Nat.zero_le _, by have := hS2; simpa using this, by decide, by decide⟩) ls (lv_sub hl [3, 4, 2, 1, 0] rfl)
  obtain ⟨k, j, bt⟩ := x9
  have hI15 : k * k ≤ S ∧ S < (k + 2 ^ j) * (k + 2 ^ j) ∧ bt = 2 ^ j / 2 ∧ j ≤ 12 := hI15
  have hl : lv_has ls 6 [(0, .int dx), (1, .int dy), (2, .int (nI S)), (3, .int (nI k)), (4, .int (nI bt))] := hl
  have hk : k < 4096 := by
    rcases Nat.lt_or_ge k 4096 with q | q
    · exact q
    · have := Nat.mul_le_mul q q
      omega
  have h2j : 2 ^ j ≤ 2 ^ 12 := Nat.pow_le_pow_right (by decide) hI15.2.2.2
  have hsq := Nat.mul_le_mul (show k + bt ≤ 8192 by have := hI15.2.2.1; omega) (show k + bt ≤ 8192 by have := hI15.2.2.1; omega)
  refine lv_iload hx hb dX3_floorLength_15 (lv_at hl 4 rfl) ?_
  refine lv_if_le (tgt := 47) hx hb dX3_floorLength_17 (by decide) (fun c17 => ?_) (fun c17 => ?_)
  · have c17 := (nI_lz (n := bt) (by omega)).mp c17
    refine lv_iload_n hx hb dX3_floorLength_47 rfl (lv_at hl 3 rfl) ?_
    have hj0 : j = 0 := by
      rcases j with _ | j
      · rfl
      · have := Nat.pow_pos (n := j) (show 0 < 2 by decide)
        have e9 := hI15.2.2.1
        rw [Nat.pow_succ] at e9
        omega
    subst hj0
    exact eI (v := nI k) hx hb hr hlocks (by rw [hSe]; exact congrArg nI (isq_uniq hI15.1 (by simpa using hI15.2.1)).symm) dX3_floorLength_48
  · have c17 := mt (nI_lz (n := bt) (by omega)).mpr c17
    obtain ⟨j, rfl⟩ : ∃ z, j = z + 1 := ⟨j - 1, by have := hI15.2.2.1; rcases j with _ | j <;> simp_all⟩
    have hbt : bt = 2 ^ j := by rw [hI15.2.2.1, Nat.pow_succ]; omega
    refine lv_iload_n hx hb dX3_floorLength_20 rfl (lv_at hl 3 rfl) ?_
    refine lv_iload hx hb dX3_floorLength_21 (lv_at hl 4 rfl) ?_
    refine lv_iadd hx hb dX3_floorLength_23 ?_
    rw [nI_add k bt]
    refine lv_istore (lv' := [(5, .int (nI (k + bt))), (0, .int dx), (1, .int dy), (2, .int (nI S)), (3, .int (nI k)), (4, .int (nI bt))]) hx hb dX3_floorLength_24 hl (by decide) rfl (fun ls hl => ?_)
    refine lv_iload hx hb dX3_floorLength_26 (lv_at hl 0 rfl) ?_
    refine lv_iload hx hb dX3_floorLength_28 (lv_at hl 0 rfl) ?_
    refine lv_imul hx hb dX3_floorLength_30 ?_
    rw [pk_mul (k + bt) (k + bt)]
    refine lv_iload_n hx hb dX3_floorLength_31 rfl (lv_at hl 3 rfl) ?_
    refine lv_icmp_gt (tgt := 38) hx hb dX3_floorLength_32 (by decide) (fun c32 => ?_) (fun c32 => ?_)
    · have c32 := (nI_ltI (a := S) (b := (k + bt) * (k + bt)) (by omega) (by omega)).mp c32
      refine lv_iload hx hb dX3_floorLength_38 (lv_at hl 5 rfl) ?_
      refine lv_iconst (v := nI 2) hx hb dX3_floorLength_40 (by decide) ?_
      refine lv_idiv hx hb dX3_floorLength_41 (by decide) ?_
      rw [pk_div (a := bt) (d := 2) (by omega) (by omega) (by omega)]
      refine lv_istore (lv' := [(4, .int (nI (bt / 2))), (5, .int (nI (k + bt))), (0, .int dx), (1, .int dy), (2, .int (nI S)), (3, .int (nI k))]) hx hb dX3_floorLength_42 hl (by decide) rfl (fun ls hl => ?_)
      refine lv_goto (tgt := 15) hx hb dX3_floorLength_44 (by decide) ?_
      have hB15 : k * k ≤ S ∧ S < (k + 2 ^ j) * (k + 2 ^ j) ∧ (bt / 2) = 2 ^ j / 2 ∧ j ≤ 12 := ⟨hI15.1, by rw [← hbt]; exact c32, by rw [hbt], by omega⟩
      exact ih15 (k, j, bt / 2) (hB15) (Nat.lt_succ_self j) ls (lv_sub hl [2, 3, 4, 5, 0] rfl)
    · have c32 := mt (nI_ltI (a := S) (b := (k + bt) * (k + bt)) (by omega) (by omega)).mpr c32
      refine lv_iload hx hb dX3_floorLength_35 (lv_at hl 0 rfl) ?_
      refine lv_istore_n (lv' := [(3, .int (nI (k + bt))), (5, .int (nI (k + bt))), (0, .int dx), (1, .int dy), (2, .int (nI S)), (4, .int (nI bt))]) hx hb dX3_floorLength_37 rfl hl (by decide) rfl (fun ls hl => ?_)
      refine lv_iload hx hb dX3_floorLength_38 (lv_at hl 5 rfl) ?_
      refine lv_iconst (v := nI 2) hx hb dX3_floorLength_40 (by decide) ?_
      refine lv_idiv hx hb dX3_floorLength_41 (by decide) ?_
      rw [pk_div (a := bt) (d := 2) (by omega) (by omega) (by omega)]
      refine lv_istore (lv' := [(4, .int (nI (bt / 2))), (3, .int (nI (k + bt))), (5, .int (nI (k + bt))), (0, .int dx), (1, .int dy), (2, .int (nI S))]) hx hb dX3_floorLength_42 hl (by decide) rfl (fun ls hl => ?_)
      refine lv_goto (tgt := 15) hx hb dX3_floorLength_44 (by decide) ?_
      have hB15 : (k + bt) * (k + bt) ≤ S ∧ S < ((k + bt) + 2 ^ j) * ((k + bt) + 2 ^ j) ∧ (bt / 2) = 2 ^ j / 2 ∧ j ≤ 12 := ⟨Nat.le_of_not_lt c32, by rw [show k + bt + 2 ^ j = k + 2 ^ (j + 1) by rw [hbt, Nat.pow_succ]; omega]; exact hI15.2.1, by rw [hbt], by omega⟩
      exact ih15 (k + bt, j, bt / 2) (hB15) (Nat.lt_succ_self j) ls (lv_sub hl [3, 4, 5, 1, 0] rfl)
set_option maxHeartbeats 4000000 in
set_option maxRecDepth 100000 in
theorem c_squareOf (l : Launch) (K : EK) (x : Int32) : Met l yX3_squareOf (wq yX3_squareOf cX3_squareOf 1 (some .long)) (rmL 1 0 0) (va_Pc [.int x] (PR K [])) (vp_Sl (fun r => r = x.toInt64 * x.toInt64)) 0 0 NF := by
  refine hdR (by decide +kernel) (Nat.le_of_ble_eq_true rfl) ?_
  intro pp ee s mm bl9 me9 cd hx hb hr hlocks hml hown hts hE hP ls hl
  have hown : s.vm.findClass RX3 = some mm.cls := hown
  have hP : va_P K.1 vwCl [] s.heap := hP
  have hl : lv_has ls 1 [(0, .int x)] := hl
  refine lv_iload_n hx hb dX3_squareOf_0 rfl (lv_at hl 0 rfl) ?_
  refine lv_i2l hx hb dX3_squareOf_1 rfl ?_
  refine lv_topl (fun v1 e1 => ?_)
  refine lv_iload_n hx hb dX3_squareOf_2 rfl (lv_at hl 0 rfl) ?_
  refine lv_i2l hx hb dX3_squareOf_3 rfl ?_
  refine lv_topl (fun v3 e3 => ?_)
  refine lv_lmul hx hb dX3_squareOf_4 ?_
  refine lv_topl (fun v4 e4 => ?_)
  exact eL (v := v4) hx hb hr hlocks (by rw [e4, e1, e3]) dX3_squareOf_5
set_option maxHeartbeats 4000000 in
set_option maxRecDepth 100000 in
theorem c_mix (l : Launch) (K : EK) (h x : Int64) : Met l yX3_mix (wq yX3_mix cX3_mix 4 (some .long)) (rmL 1 0 0) (va_Pc [.long h, .long x] (PR K [])) (vp_Sl (fun r => r = 31 * h + x)) 0 0 NF := by
  refine hdR (by decide +kernel) (Nat.le_of_ble_eq_true rfl) ?_
  intro pp ee s mm bl9 me9 cd hx hb hr hlocks hml hown hts hE hP ls hl
  have hown : s.vm.findClass RX3 = some mm.cls := hown
  have hP : va_P K.1 vwCl [] s.heap := hP
  have hl : lv_has ls 4 [(0, .long h), (2, .long x)] := hl
  refine lv_ldc2 (v := lN 31) hx hb hown (hts _ kw_X3_221) dX3_mix_0 ?_
  refine lv_lload_n hx hb dX3_mix_3 rfl (lv_at hl 0 rfl) ?_
  refine lv_lmul hx hb dX3_mix_4 ?_
  refine lv_topl (fun v4 e4 => ?_)
  refine lv_lload_n hx hb dX3_mix_5 rfl (lv_at hl 1 rfl) ?_
  refine lv_ladd hx hb dX3_mix_6 ?_
  refine lv_topl (fun v6 e6 => ?_)
  exact eL (v := v6) hx hb hr hlocks (by rw [e6, e4]; rfl) dX3_mix_7
set_option maxHeartbeats 4000000 in
set_option maxRecDepth 100000 in
theorem c_lengthBetween (l : Launch) (K : EK) (a : Nat → Nat) (t : Int64) (kn : Nat) (fn : Nat → Int32) (kr : Nat) (fr : Nat → Int32) (kp : Nat) (fp : Nat → Int32) (i j : Nat) (h1 : i < 6) (h2 : j < 6) (hi : nOk fn i) (hj : nOk fn j) : Met l yX1_lengthBetween (wq yX1_lengthBetween cX1_lengthBetween 3 (some .int)) (rmL 2 0 0) (va_Pc [.ref (a 0), .int (nI i), .int (nI j)] (PR K [(a 0, .inr (3, [.long t, .ref (a 1), .ref (a 2), .ref (a 3)])), (a 1, .inr (4, [.ref (a 4), .int (nI 6), .int (nI kn)])), (a 2, .inr (4, [.ref (a 5), .int (nI 8), .int (nI kr)])), (a 3, .inr (4, [.ref (a 6), .int (nI 5), .int (nI kp)])), (a 4, .inl (K.2.1, 36, .inl (fn))), (a 5, .inl (K.2.1, 320, .inl (fr))), (a 6, .inl (K.2.1, 100, .inl (fp)))])) (vp_Si (fun r => r = nI (dst fn i j))) 0 0 NF := by
  refine hdR (by decide +kernel) (Nat.le_of_ble_eq_true rfl) ?_
  intro pp ee s mm bl9 me9 cd hx hb hr hlocks hml hown hts hE hP ls hl
  have hown : s.vm.findClass RX1 = some mm.cls := hown
  have hP : va_P K.1 vwCl [(a 0, .inr (3, [.long t, .ref (a 1), .ref (a 2), .ref (a 3)])), (a 1, .inr (4, [.ref (a 4), .int (nI 6), .int (nI kn)])), (a 2, .inr (4, [.ref (a 5), .int (nI 8), .int (nI kr)])), (a 3, .inr (4, [.ref (a 6), .int (nI 5), .int (nI kp)])), (a 4, .inl (K.2.1, 36, .inl (fn))), (a 5, .inl (K.2.1, 320, .inl (fr))), (a 6, .inl (K.2.1, 100, .inl (fp)))] s.heap := hP
  have hl : lv_has ls 3 [(0, .ref (a 0)), (1, .int (nI i)), (2, .int (nI j))] := hl
  refine lv_aload_n hx hb dX1_lengthBetween_0 rfl (lv_at hl 0 rfl) ?_
  refine va_get (D := K.1) (ci := 3) (v := .ref (a 1)) (C := RX1) (T := TX1) (N := 4) hx hb hts inX1 hown hE.1 hP 0 rfl rfl 1 (by decide) (hts _ kf_X1_14) (fun _ h9 => h9) rfl dX1_lengthBetween_1 ?_
  refine lv_iload_n hx hb dX1_lengthBetween_4 rfl (lv_at hl 1 rfl) ?_
  refine lv_iconst (v := nI 0) hx hb dX1_lengthBetween_5 (by decide) ?_
  refine goI (rdV (As := [.int (nI i), .int (nI 0)]) (rest := []) (c_get l K (a 1) (a 4) 36 6 kn i 0 fn (by omega) (by omega)) ⟨hx, hb, hml, hown, hts⟩ (gV kl_X1_34 ki_X2_get ks_X2_get kn_X2 kc_X2_get) (by show okN yX2_get 2; decide +kernel) ⟨⟨Nat.le_of_ble_eq_true rfl, Nat.le_of_ble_eq_true rfl⟩, rfl, rfl⟩ hE hP [1, 4] rfl ⟨0, 4, _, _, rfl, rfl, rfl⟩ hl.1 rfl (Nat.le_of_ble_eq_true rfl) dX1_lengthBetween_6 ⟨Nat.le_of_ble_eq_true rfl, Nat.le_of_ble_eq_true rfl⟩) (fun v6 e6 => ?_)
  refine lv_aload_n hx hb dX1_lengthBetween_9 rfl (lv_at hl 0 rfl) ?_
  refine va_get (D := K.1) (ci := 3) (v := .ref (a 1)) (C := RX1) (T := TX1) (N := 4) hx hb hts inX1 hown hE.1 hP 0 rfl rfl 1 (by decide) (hts _ kf_X1_14) (fun _ h9 => h9) rfl dX1_lengthBetween_10 ?_
  refine lv_iload_n hx hb dX1_lengthBetween_13 rfl (lv_at hl 2 rfl) ?_
  refine lv_iconst (v := nI 0) hx hb dX1_lengthBetween_14 (by decide) ?_
  refine goI (rdV (As := [.int (nI j), .int (nI 0)]) (rest := [.int v6]) (c_get l K (a 1) (a 4) 36 6 kn j 0 fn (by omega) (by omega)) ⟨hx, hb, hml, hown, hts⟩ (gV kl_X1_34 ki_X2_get ks_X2_get kn_X2 kc_X2_get) (by show okN yX2_get 2; decide +kernel) ⟨⟨Nat.le_of_ble_eq_true rfl, Nat.le_of_ble_eq_true rfl⟩, rfl, rfl⟩ hE hP [1, 4] rfl ⟨0, 4, _, _, rfl, rfl, rfl⟩ hl.1 rfl (Nat.le_of_ble_eq_true rfl) dX1_lengthBetween_15 ⟨Nat.le_of_ble_eq_true rfl, Nat.le_of_ble_eq_true rfl⟩) (fun v15 e15 => ?_)
  refine lv_isub hx hb dX1_lengthBetween_18 ?_
  refine lv_topi (fun v18 e18 => ?_)
  have q18 : v18.toInt = nd fn i 0 - nd fn j 0 := by rw [e18, e6, e15]; exact fb_subI (by have := hi.1; have := hj.1; unfold nd at *; omega) (by have := hi.1; have := hj.1; unfold nd at *; omega)
  refine lv_aload_n hx hb dX1_lengthBetween_19 rfl (lv_at hl 0 rfl) ?_
  refine va_get (D := K.1) (ci := 3) (v := .ref (a 1)) (C := RX1) (T := TX1) (N := 4) hx hb hts inX1 hown hE.1 hP 0 rfl rfl 1 (by decide) (hts _ kf_X1_14) (fun _ h9 => h9) rfl dX1_lengthBetween_20 ?_
  refine lv_iload_n hx hb dX1_lengthBetween_23 rfl (lv_at hl 1 rfl) ?_
  refine lv_iconst (v := nI 1) hx hb dX1_lengthBetween_24 (by decide) ?_
  refine goI (rdV (As := [.int (nI i), .int (nI 1)]) (rest := [.int v18]) (c_get l K (a 1) (a 4) 36 6 kn i 1 fn (by omega) (by omega)) ⟨hx, hb, hml, hown, hts⟩ (gV kl_X1_34 ki_X2_get ks_X2_get kn_X2 kc_X2_get) (by show okN yX2_get 2; decide +kernel) ⟨⟨Nat.le_of_ble_eq_true rfl, Nat.le_of_ble_eq_true rfl⟩, rfl, rfl⟩ hE hP [1, 4] rfl ⟨0, 4, _, _, rfl, rfl, rfl⟩ hl.1 rfl (Nat.le_of_ble_eq_true rfl) dX1_lengthBetween_25 ⟨Nat.le_of_ble_eq_true rfl, Nat.le_of_ble_eq_true rfl⟩) (fun v25 e25 => ?_)
  refine lv_aload_n hx hb dX1_lengthBetween_28 rfl (lv_at hl 0 rfl) ?_
  refine va_get (D := K.1) (ci := 3) (v := .ref (a 1)) (C := RX1) (T := TX1) (N := 4) hx hb hts inX1 hown hE.1 hP 0 rfl rfl 1 (by decide) (hts _ kf_X1_14) (fun _ h9 => h9) rfl dX1_lengthBetween_29 ?_
  refine lv_iload_n hx hb dX1_lengthBetween_32 rfl (lv_at hl 2 rfl) ?_
  refine lv_iconst (v := nI 1) hx hb dX1_lengthBetween_33 (by decide) ?_
  refine goI (rdV (As := [.int (nI j), .int (nI 1)]) (rest := [.int v25, .int v18]) (c_get l K (a 1) (a 4) 36 6 kn j 1 fn (by omega) (by omega)) ⟨hx, hb, hml, hown, hts⟩ (gV kl_X1_34 ki_X2_get ks_X2_get kn_X2 kc_X2_get) (by show okN yX2_get 2; decide +kernel) ⟨⟨Nat.le_of_ble_eq_true rfl, Nat.le_of_ble_eq_true rfl⟩, rfl, rfl⟩ hE hP [1, 4] rfl ⟨0, 4, _, _, rfl, rfl, rfl⟩ hl.1 rfl (Nat.le_of_ble_eq_true rfl) dX1_lengthBetween_34 ⟨Nat.le_of_ble_eq_true rfl, Nat.le_of_ble_eq_true rfl⟩) (fun v34 e34 => ?_)
  refine lv_isub hx hb dX1_lengthBetween_37 ?_
  refine lv_topi (fun v37 e37 => ?_)
  have q37 : v37.toInt = nd fn i 1 - nd fn j 1 := by rw [e37, e25, e34]; exact fb_subI (by have := hi.2.1; have := hj.2.1; unfold nd at *; omega) (by have := hi.2.1; have := hj.2.1; unfold nd at *; omega)
  have hi1 := hi.1; have hi2 := hi.2.1; have hj1 := hj.1; have hj2 := hj.2.1
  refine goI (rdN (host := "RangingNet") (As := [.int v18, .int v37]) (rest := []) (c_floorLength l K v18 v37 ⟨by rw [q18]; omega, by rw [q18]; omega⟩ ⟨by rw [q37]; omega, by rw [q37]; omega⟩) ⟨hx, hb, hml, hown, hts⟩ ⟨kc_X3_floorLength, kt_X3_floorLength, kn_X3, List.mem_of_getElem? (i := 1) rfl⟩ (by show okN yX3_floorLength 2; decide +kernel) ⟨⟨Nat.le_of_ble_eq_true rfl, Nat.le_of_ble_eq_true rfl⟩, rfl, rfl⟩ hE hP [] rfl hl.1 rfl (Nat.le_of_ble_eq_true rfl) dX1_lengthBetween_38 ⟨Nat.le_of_ble_eq_true rfl, Nat.le_of_ble_eq_true rfl⟩) (fun v38 e38 => ?_)
  exact eI (v := v38) hx hb hr hlocks (by rw [e38, q18, q37]; rfl) dX1_lengthBetween_41
set_option maxHeartbeats 4000000 in
set_option maxRecDepth 100000 in
theorem c_squareFromOrigin (l : Launch) (K : EK) (a : Nat → Nat) (t : Int64) (kn : Nat) (fn : Nat → Int32) (kr : Nat) (fr : Nat → Int32) (kp : Nat) (fp : Nat → Int32) (i : Nat) (h1 : i < 6) : Met l yX1_squareFromOrigin (wq yX1_squareFromOrigin cX1_squareFromOrigin 2 (some .long)) (rmL 2 0 0) (va_Pc [.ref (a 0), .int (nI i)] (PR K [(a 0, .inr (3, [.long t, .ref (a 1), .ref (a 2), .ref (a 3)])), (a 1, .inr (4, [.ref (a 4), .int (nI 6), .int (nI kn)])), (a 2, .inr (4, [.ref (a 5), .int (nI 8), .int (nI kr)])), (a 3, .inr (4, [.ref (a 6), .int (nI 5), .int (nI kp)])), (a 4, .inl (K.2.1, 36, .inl (fn))), (a 5, .inl (K.2.1, 320, .inl (fr))), (a 6, .inl (K.2.1, 100, .inl (fp)))])) (vp_Sl (fun r => r = (fn (i * 6 + 0)).toInt64 * (fn (i * 6 + 0)).toInt64 + (fn (i * 6 + 1)).toInt64 * (fn (i * 6 + 1)).toInt64)) 0 0 NF := by
  refine hdR (by decide +kernel) (Nat.le_of_ble_eq_true rfl) ?_
  intro pp ee s mm bl9 me9 cd hx hb hr hlocks hml hown hts hE hP ls hl
  have hown : s.vm.findClass RX1 = some mm.cls := hown
  have hP : va_P K.1 vwCl [(a 0, .inr (3, [.long t, .ref (a 1), .ref (a 2), .ref (a 3)])), (a 1, .inr (4, [.ref (a 4), .int (nI 6), .int (nI kn)])), (a 2, .inr (4, [.ref (a 5), .int (nI 8), .int (nI kr)])), (a 3, .inr (4, [.ref (a 6), .int (nI 5), .int (nI kp)])), (a 4, .inl (K.2.1, 36, .inl (fn))), (a 5, .inl (K.2.1, 320, .inl (fr))), (a 6, .inl (K.2.1, 100, .inl (fp)))] s.heap := hP
  have hl : lv_has ls 2 [(0, .ref (a 0)), (1, .int (nI i))] := hl
  refine lv_aload_n hx hb dX1_squareFromOrigin_0 rfl (lv_at hl 0 rfl) ?_
  refine va_get (D := K.1) (ci := 3) (v := .ref (a 1)) (C := RX1) (T := TX1) (N := 4) hx hb hts inX1 hown hE.1 hP 0 rfl rfl 1 (by decide) (hts _ kf_X1_14) (fun _ h9 => h9) rfl dX1_squareFromOrigin_1 ?_
  refine lv_iload_n hx hb dX1_squareFromOrigin_4 rfl (lv_at hl 1 rfl) ?_
  refine lv_iconst (v := nI 0) hx hb dX1_squareFromOrigin_5 (by decide) ?_
  refine goI (rdV (As := [.int (nI i), .int (nI 0)]) (rest := []) (c_get l K (a 1) (a 4) 36 6 kn i 0 fn (by omega) (by omega)) ⟨hx, hb, hml, hown, hts⟩ (gV kl_X1_34 ki_X2_get ks_X2_get kn_X2 kc_X2_get) (by show okN yX2_get 2; decide +kernel) ⟨⟨Nat.le_of_ble_eq_true rfl, Nat.le_of_ble_eq_true rfl⟩, rfl, rfl⟩ hE hP [1, 4] rfl ⟨0, 4, _, _, rfl, rfl, rfl⟩ hl.1 rfl (Nat.le_of_ble_eq_true rfl) dX1_squareFromOrigin_6 ⟨Nat.le_of_ble_eq_true rfl, Nat.le_of_ble_eq_true rfl⟩) (fun v6 e6 => ?_)
  refine goL (rdN (host := "RangingNet") (As := [.int v6]) (rest := []) (c_squareOf l K v6) ⟨hx, hb, hml, hown, hts⟩ ⟨kc_X3_squareOf, kt_X3_squareOf, kn_X3, List.mem_of_getElem? (i := 2) rfl⟩ (by show okN yX3_squareOf 1; decide +kernel) ⟨⟨Nat.le_of_ble_eq_true rfl, Nat.le_of_ble_eq_true rfl⟩, rfl, rfl⟩ hE hP [] rfl hl.1 rfl (Nat.le_of_ble_eq_true rfl) dX1_squareFromOrigin_9 ⟨Nat.le_of_ble_eq_true rfl, Nat.le_of_ble_eq_true rfl⟩) (fun v9 e9 => ?_)
  refine lv_aload_n hx hb dX1_squareFromOrigin_12 rfl (lv_at hl 0 rfl) ?_
  refine va_get (D := K.1) (ci := 3) (v := .ref (a 1)) (C := RX1) (T := TX1) (N := 4) hx hb hts inX1 hown hE.1 hP 0 rfl rfl 1 (by decide) (hts _ kf_X1_14) (fun _ h9 => h9) rfl dX1_squareFromOrigin_13 ?_
  refine lv_iload_n hx hb dX1_squareFromOrigin_16 rfl (lv_at hl 1 rfl) ?_
  refine lv_iconst (v := nI 1) hx hb dX1_squareFromOrigin_17 (by decide) ?_
  refine goI (rdV (As := [.int (nI i), .int (nI 1)]) (rest := [.long v9]) (c_get l K (a 1) (a 4) 36 6 kn i 1 fn (by omega) (by omega)) ⟨hx, hb, hml, hown, hts⟩ (gV kl_X1_34 ki_X2_get ks_X2_get kn_X2 kc_X2_get) (by show okN yX2_get 2; decide +kernel) ⟨⟨Nat.le_of_ble_eq_true rfl, Nat.le_of_ble_eq_true rfl⟩, rfl, rfl⟩ hE hP [1, 4] rfl ⟨0, 4, _, _, rfl, rfl, rfl⟩ hl.1 rfl (Nat.le_of_ble_eq_true rfl) dX1_squareFromOrigin_18 ⟨Nat.le_of_ble_eq_true rfl, Nat.le_of_ble_eq_true rfl⟩) (fun v18 e18 => ?_)
  refine goL (rdN (host := "RangingNet") (As := [.int v18]) (rest := [.long v9]) (c_squareOf l K v18) ⟨hx, hb, hml, hown, hts⟩ ⟨kc_X3_squareOf, kt_X3_squareOf, kn_X3, List.mem_of_getElem? (i := 2) rfl⟩ (by show okN yX3_squareOf 1; decide +kernel) ⟨⟨Nat.le_of_ble_eq_true rfl, Nat.le_of_ble_eq_true rfl⟩, rfl, rfl⟩ hE hP [] rfl hl.1 rfl (Nat.le_of_ble_eq_true rfl) dX1_squareFromOrigin_21 ⟨Nat.le_of_ble_eq_true rfl, Nat.le_of_ble_eq_true rfl⟩) (fun v21 e21 => ?_)
  refine lv_ladd hx hb dX1_squareFromOrigin_24 ?_
  refine lv_topl (fun v24 e24 => ?_)
  exact eL (v := v24) hx hb hr hlocks (by rw [e24, e9, e21, e6, e18]) dX1_squareFromOrigin_25
set_option maxHeartbeats 4000000 in
set_option maxRecDepth 100000 in
theorem c_counterAt (l : Launch) (K : EK) (a : Nat → Nat) (t : Int64) (kn : Nat) (fn : Nat → Int32) (kr : Nat) (fr : Nat → Int32) (kp : Nat) (fp : Nat → Int32) (i : Nat) (T : Int64) (h1 : i < 6) (hi : nOk fn i) (hT : 0 ≤ T.toInt ∧ T.toInt ≤ 1000000000000) : Met l yX1_counterAt (wq yX1_counterAt cX1_counterAt 6 (some .int)) (rmL 2 0 0) (va_Pc [.ref (a 0), .int (nI i), .long T] (PR K [(a 0, .inr (3, [.long t, .ref (a 1), .ref (a 2), .ref (a 3)])), (a 1, .inr (4, [.ref (a 4), .int (nI 6), .int (nI kn)])), (a 2, .inr (4, [.ref (a 5), .int (nI 8), .int (nI kr)])), (a 3, .inr (4, [.ref (a 6), .int (nI 5), .int (nI kp)])), (a 4, .inl (K.2.1, 36, .inl (fn))), (a 5, .inl (K.2.1, 320, .inl (fr))), (a 6, .inl (K.2.1, 100, .inl (fp)))])) (vp_Si (fun r => r.toInt = ctr fn i T.toInt)) 0 0 NF := by
  refine hdR (by decide +kernel) (Nat.le_of_ble_eq_true rfl) ?_
  intro pp ee s mm bl9 me9 cd hx hb hr hlocks hml hown hts hE hP ls hl
  have hown : s.vm.findClass RX1 = some mm.cls := hown
  have hP : va_P K.1 vwCl [(a 0, .inr (3, [.long t, .ref (a 1), .ref (a 2), .ref (a 3)])), (a 1, .inr (4, [.ref (a 4), .int (nI 6), .int (nI kn)])), (a 2, .inr (4, [.ref (a 5), .int (nI 8), .int (nI kr)])), (a 3, .inr (4, [.ref (a 6), .int (nI 5), .int (nI kp)])), (a 4, .inl (K.2.1, 36, .inl (fn))), (a 5, .inl (K.2.1, 320, .inl (fr))), (a 6, .inl (K.2.1, 100, .inl (fp)))] s.heap := hP
  have hl : lv_has ls 6 [(0, .ref (a 0)), (1, .int (nI i)), (2, .long T)] := hl
  refine lv_lload_n hx hb dX1_counterAt_0 rfl (lv_at hl 2 rfl) ?_
  refine lv_ldc (v := nI 1000000) hx hb hown (hts _ kv_X1_45) dX1_counterAt_1 ?_
  refine lv_aload_n hx hb dX1_counterAt_3 rfl (lv_at hl 0 rfl) ?_
  refine va_get (D := K.1) (ci := 3) (v := .ref (a 1)) (C := RX1) (T := TX1) (N := 4) hx hb hts inX1 hown hE.1 hP 0 rfl rfl 1 (by decide) (hts _ kf_X1_14) (fun _ h9 => h9) rfl dX1_counterAt_4 ?_
  refine lv_iload_n hx hb dX1_counterAt_7 rfl (lv_at hl 1 rfl) ?_
  refine lv_iconst (v := nI 2) hx hb dX1_counterAt_8 (by decide) ?_
  refine goI (rdV (As := [.int (nI i), .int (nI 2)]) (rest := [.int (nI 1000000), .long T]) (c_get l K (a 1) (a 4) 36 6 kn i 2 fn (by omega) (by omega)) ⟨hx, hb, hml, hown, hts⟩ (gV kl_X1_34 ki_X2_get ks_X2_get kn_X2 kc_X2_get) (by show okN yX2_get 2; decide +kernel) ⟨⟨Nat.le_of_ble_eq_true rfl, Nat.le_of_ble_eq_true rfl⟩, rfl, rfl⟩ hE hP [1, 4] rfl ⟨0, 4, _, _, rfl, rfl, rfl⟩ hl.1 rfl (Nat.le_of_ble_eq_true rfl) dX1_counterAt_9 ⟨Nat.le_of_ble_eq_true rfl, Nat.le_of_ble_eq_true rfl⟩) (fun v9 e9 => ?_)
  refine lv_iadd hx hb dX1_counterAt_12 ?_
  refine lv_topi (fun v12 e12 => ?_)
  refine lv_i2l hx hb dX1_counterAt_13 rfl ?_
  refine lv_topl (fun v13 e13 => ?_)
  refine lv_lmul hx hb dX1_counterAt_14 ?_
  refine lv_topl (fun v14 e14 => ?_)
  refine lv_ldc2 (v := lN 1000000) hx hb hown (hts _ kw_X1_46) dX1_counterAt_15 ?_
  refine lv_ldiv hx hb dX1_counterAt_18 (by decide) ?_
  refine lv_topl (fun v18 e18 => ?_)
  refine lv_lstore (lv' := [(4, .long v18), (0, .ref (a 0)), (1, .int (nI i)), (2, .long T)]) hx hb dX1_counterAt_19 hl (by decide) rfl (fun ls hl => ?_)
  refine lv_lload hx hb dX1_counterAt_21 (lv_at hl 0 rfl) ?_
  refine lv_aload_n hx hb dX1_counterAt_23 rfl (lv_at hl 1 rfl) ?_
  refine va_get (D := K.1) (ci := 3) (v := .ref (a 1)) (C := RX1) (T := TX1) (N := 4) hx hb hts inX1 hown hE.1 hP 0 rfl rfl 1 (by decide) (hts _ kf_X1_14) (fun _ h9 => h9) rfl dX1_counterAt_24 ?_
  refine lv_iload_n hx hb dX1_counterAt_27 rfl (lv_at hl 2 rfl) ?_
  refine lv_iconst (v := nI 3) hx hb dX1_counterAt_28 (by decide) ?_
  refine goI (rdV (As := [.int (nI i), .int (nI 3)]) (rest := [.long v18]) (c_get l K (a 1) (a 4) 36 6 kn i 3 fn (by omega) (by omega)) ⟨hx, hb, hml, hown, hts⟩ (gV kl_X1_34 ki_X2_get ks_X2_get kn_X2 kc_X2_get) (by show okN yX2_get 2; decide +kernel) ⟨⟨Nat.le_of_ble_eq_true rfl, Nat.le_of_ble_eq_true rfl⟩, rfl, rfl⟩ hE hP [1, 4] rfl ⟨0, 4, _, _, rfl, rfl, rfl⟩ hl.1 rfl (Nat.le_of_ble_eq_true rfl) dX1_counterAt_29 ⟨Nat.le_of_ble_eq_true rfl, Nat.le_of_ble_eq_true rfl⟩) (fun v29 e29 => ?_)
  refine lv_i2l hx hb dX1_counterAt_32 rfl ?_
  refine lv_topl (fun v32 e32 => ?_)
  refine lv_ladd hx hb dX1_counterAt_33 ?_
  refine lv_topl (fun v33 e33 => ?_)
  refine lv_ldc2 (v := lN 1048576) hx hb hown (hts _ kw_X1_48) dX1_counterAt_34 ?_
  refine goL (rdS (As := [.long v33, .long (lN 1048576)]) (rest := []) (c_floorModL l K v33 (lN 1048576) (by decide)) ⟨hx, hb, hml, hown, hts⟩ (gS kl_X1_50 kt_J9_floorMod_f86c9 kn_J9 kc_J9_floorMod_f86c9) (by show okN yJ9_floorMod_f86c9 2; decide +kernel) ⟨⟨Nat.le_of_ble_eq_true rfl, Nat.le_of_ble_eq_true rfl⟩, rfl, rfl⟩ hE hP [] rfl hl.1 rfl (Nat.le_of_ble_eq_true rfl) dX1_counterAt_37 ⟨Nat.le_of_ble_eq_true rfl, Nat.le_of_ble_eq_true rfl⟩) (fun v37 e37 => ?_)
  refine lv_l2i hx hb dX1_counterAt_40 rfl ?_
  refine lv_topi (fun v40 e40 => ?_)
  have q9 : v9.toInt = nd fn i 2 := by rw [e9]; rfl
  have hq := hi.2.2.1
  have hq2 := hi.2.2.2.1
  have q9 : v9.toInt = nd fn i 2 := by rw [e9]; rfl
  have q29 : v29.toInt = nd fn i 3 := by rw [e29]; rfl
  have q12 : v12.toInt = 1000000 + nd fn i 2 := by rw [e12, fb_addI (by rw [q9, nI_toInt (by decide)]; omega) (by rw [q9, nI_toInt (by decide)]; omega), q9, nI_toInt (by decide)]; rfl
  have q13 : v13.toInt = 1000000 + nd fn i 2 := by rw [e13, i64T, q12]
  have g1 : 0 ≤ T.toInt * (1000000 + nd fn i 2) := Int.mul_nonneg hT.1 (by omega)
  have g2 : T.toInt * (1000000 + nd fn i 2) ≤ 1000000000000 * 1000100 := Int.mul_le_mul hT.2 (by omega) (by omega) (by omega)
  have q14 : v14.toInt = T.toInt * (1000000 + nd fn i 2) := by rw [e14, fb_mulL (by rw [q13]; omega) (by rw [q13]; omega), q13]
  have q18 : v18.toInt = T.toInt * (1000000 + nd fn i 2) / 1000000 := by rw [e18, divL (by decide), q14, lN_T (by decide)]; exact Int.tdiv_eq_ediv_of_nonneg g1
  have q32 : v32.toInt = nd fn i 3 := by rw [e32, i64T, q29]
  have q33 : v33.toInt = T.toInt * (1000000 + nd fn i 2) / 1000000 + nd fn i 3 := by rw [e33, fb_addL (by rw [q18, q32]; omega) (by rw [q18, q32]; omega), q18, q32]
  have q37 : v37.toInt = ctr fn i T.toInt := by rw [e37, q33, lN_T (by decide)]; rfl
  have g3 : 0 ≤ ctr fn i T.toInt ∧ ctr fn i T.toInt < 1048576 := ⟨Int.emod_nonneg _ (by decide), Int.emod_lt_of_pos _ (by decide)⟩
  exact eI (v := v40) hx hb hr hlocks (by rw [e40, i32T (by omega) (by omega), q37]) dX1_counterAt_41
set_option maxHeartbeats 4000000 in
set_option maxRecDepth 100000 in
theorem c_elapsed (l : Launch) (K : EK) (a : Nat → Nat) (t : Int64) (kn : Nat) (fn : Nat → Int32) (kr : Nat) (fr : Nat → Int32) (kp : Nat) (fp : Nat → Int32) (e x y : Nat) (h1 : e < 40) (hx1 : x < 8) (hy1 : y < 8) (hxr : 0 ≤ rd fr e x ∧ rd fr e x < 1048576) (hyr : 0 ≤ rd fr e y ∧ rd fr e y < 1048576) : Met l yX1_elapsed (wq yX1_elapsed cX1_elapsed 4 (some .int)) (rmL 2 0 0) (va_Pc [.ref (a 0), .int (nI e), .int (nI x), .int (nI y)] (PR K [(a 0, .inr (3, [.long t, .ref (a 1), .ref (a 2), .ref (a 3)])), (a 1, .inr (4, [.ref (a 4), .int (nI 6), .int (nI kn)])), (a 2, .inr (4, [.ref (a 5), .int (nI 8), .int (nI kr)])), (a 3, .inr (4, [.ref (a 6), .int (nI 5), .int (nI kp)])), (a 4, .inl (K.2.1, 36, .inl (fn))), (a 5, .inl (K.2.1, 320, .inl (fr))), (a 6, .inl (K.2.1, 100, .inl (fp)))])) (vp_Si (fun r => r.toInt = elp fr e x y)) 0 0 NF := by
  refine hdR (by decide +kernel) (Nat.le_of_ble_eq_true rfl) ?_
  intro pp ee s mm bl9 me9 cd hx hb hr hlocks hml hown hts hE hP ls hl
  have hown : s.vm.findClass RX1 = some mm.cls := hown
  have hP : va_P K.1 vwCl [(a 0, .inr (3, [.long t, .ref (a 1), .ref (a 2), .ref (a 3)])), (a 1, .inr (4, [.ref (a 4), .int (nI 6), .int (nI kn)])), (a 2, .inr (4, [.ref (a 5), .int (nI 8), .int (nI kr)])), (a 3, .inr (4, [.ref (a 6), .int (nI 5), .int (nI kp)])), (a 4, .inl (K.2.1, 36, .inl (fn))), (a 5, .inl (K.2.1, 320, .inl (fr))), (a 6, .inl (K.2.1, 100, .inl (fp)))] s.heap := hP
  have hl : lv_has ls 4 [(0, .ref (a 0)), (1, .int (nI e)), (2, .int (nI x)), (3, .int (nI y))] := hl
  refine lv_aload_n hx hb dX1_elapsed_0 rfl (lv_at hl 0 rfl) ?_
  refine va_get (D := K.1) (ci := 3) (v := .ref (a 2)) (C := RX1) (T := TX1) (N := 4) hx hb hts inX1 hown hE.1 hP 0 rfl rfl 2 (by decide) (hts _ kf_X1_20) (fun _ h9 => h9) rfl dX1_elapsed_1 ?_
  refine lv_iload_n hx hb dX1_elapsed_4 rfl (lv_at hl 1 rfl) ?_
  refine lv_iload_n hx hb dX1_elapsed_5 rfl (lv_at hl 3 rfl) ?_
  refine goI (rdV (As := [.int (nI e), .int (nI y)]) (rest := []) (c_get l K (a 2) (a 5) 320 8 kr e y fr (by omega) (by omega)) ⟨hx, hb, hml, hown, hts⟩ (gV kl_X1_34 ki_X2_get ks_X2_get kn_X2 kc_X2_get) (by show okN yX2_get 2; decide +kernel) ⟨⟨Nat.le_of_ble_eq_true rfl, Nat.le_of_ble_eq_true rfl⟩, rfl, rfl⟩ hE hP [2, 5] rfl ⟨0, 4, _, _, rfl, rfl, rfl⟩ hl.1 rfl (Nat.le_of_ble_eq_true rfl) dX1_elapsed_6 ⟨Nat.le_of_ble_eq_true rfl, Nat.le_of_ble_eq_true rfl⟩) (fun v6 e6 => ?_)
  refine lv_aload_n hx hb dX1_elapsed_9 rfl (lv_at hl 0 rfl) ?_
  refine va_get (D := K.1) (ci := 3) (v := .ref (a 2)) (C := RX1) (T := TX1) (N := 4) hx hb hts inX1 hown hE.1 hP 0 rfl rfl 2 (by decide) (hts _ kf_X1_20) (fun _ h9 => h9) rfl dX1_elapsed_10 ?_
  refine lv_iload_n hx hb dX1_elapsed_13 rfl (lv_at hl 1 rfl) ?_
  refine lv_iload_n hx hb dX1_elapsed_14 rfl (lv_at hl 2 rfl) ?_
  refine goI (rdV (As := [.int (nI e), .int (nI x)]) (rest := [.int v6]) (c_get l K (a 2) (a 5) 320 8 kr e x fr (by omega) (by omega)) ⟨hx, hb, hml, hown, hts⟩ (gV kl_X1_34 ki_X2_get ks_X2_get kn_X2 kc_X2_get) (by show okN yX2_get 2; decide +kernel) ⟨⟨Nat.le_of_ble_eq_true rfl, Nat.le_of_ble_eq_true rfl⟩, rfl, rfl⟩ hE hP [2, 5] rfl ⟨0, 4, _, _, rfl, rfl, rfl⟩ hl.1 rfl (Nat.le_of_ble_eq_true rfl) dX1_elapsed_15 ⟨Nat.le_of_ble_eq_true rfl, Nat.le_of_ble_eq_true rfl⟩) (fun v15 e15 => ?_)
  refine lv_isub hx hb dX1_elapsed_18 ?_
  refine lv_topi (fun v18 e18 => ?_)
  refine lv_ldc (v := nI 1048576) hx hb hown (hts _ kv_X1_92) dX1_elapsed_19 ?_
  refine goI (rdS (As := [.int v18, .int (nI 1048576)]) (rest := []) (c_floorModI l K v18 (nI 1048576) (by decide)) ⟨hx, hb, hml, hown, hts⟩ (gS kl_X1_93 kt_J9_floorMod_7cf53 kn_J9 kc_J9_floorMod_7cf53) (by show okN yJ9_floorMod_7cf53 2; decide +kernel) ⟨⟨Nat.le_of_ble_eq_true rfl, Nat.le_of_ble_eq_true rfl⟩, rfl, rfl⟩ hE hP [] rfl hl.1 rfl (Nat.le_of_ble_eq_true rfl) dX1_elapsed_21 ⟨Nat.le_of_ble_eq_true rfl, Nat.le_of_ble_eq_true rfl⟩) (fun v21 e21 => ?_)
  have q18 : v18.toInt = rd fr e y - rd fr e x := by rw [e18, e6, e15]; exact fb_subI (by unfold rd at *; omega) (by unfold rd at *; omega)
  exact eI (v := v21) hx hb hr hlocks (by rw [e21, q18, nI_toInt (by decide)]; rfl) dX1_elapsed_24
set_option maxHeartbeats 4000000 in
set_option maxRecDepth 100000 in
theorem c_rawRangeOf (l : Launch) (K : EK) (a : Nat → Nat) (t : Int64) (kn : Nat) (fn : Nat → Int32) (kr : Nat) (fr : Nat → Int32) (kp : Nat) (fp : Nat → Int32) (e m : Nat) (h1 : e < 40) (hm : m < 3) (hs : ∀ c, 2 ≤ c → c < 8 → 0 ≤ rd fr e c ∧ rd fr e c < 1048576) : Met l yX1_rawRangeOf (wq yX1_rawRangeOf cX1_rawRangeOf 13 (some .int)) (rmL 3 0 0) (va_Pc [.ref (a 0), .int (nI e), .int (nI m)] (PR K [(a 0, .inr (3, [.long t, .ref (a 1), .ref (a 2), .ref (a 3)])), (a 1, .inr (4, [.ref (a 4), .int (nI 6), .int (nI kn)])), (a 2, .inr (4, [.ref (a 5), .int (nI 8), .int (nI kr)])), (a 3, .inr (4, [.ref (a 6), .int (nI 5), .int (nI kp)])), (a 4, .inl (K.2.1, 36, .inl (fn))), (a 5, .inl (K.2.1, 320, .inl (fr))), (a 6, .inl (K.2.1, 100, .inl (fp)))])) (vp_Si (fun r => r.toInt = raw fr e m)) 0 0 NF := by
  refine hdR (by decide +kernel) (Nat.le_of_ble_eq_true rfl) ?_
  intro pp ee s mm bl9 me9 cd hx hb hr hlocks hml hown hts hE hP ls hl
  have hown : s.vm.findClass RX1 = some mm.cls := hown
  have hP : va_P K.1 vwCl [(a 0, .inr (3, [.long t, .ref (a 1), .ref (a 2), .ref (a 3)])), (a 1, .inr (4, [.ref (a 4), .int (nI 6), .int (nI kn)])), (a 2, .inr (4, [.ref (a 5), .int (nI 8), .int (nI kr)])), (a 3, .inr (4, [.ref (a 6), .int (nI 5), .int (nI kp)])), (a 4, .inl (K.2.1, 36, .inl (fn))), (a 5, .inl (K.2.1, 320, .inl (fr))), (a 6, .inl (K.2.1, 100, .inl (fp)))] s.heap := hP
  have hl : lv_has ls 13 [(0, .ref (a 0)), (1, .int (nI e)), (2, .int (nI m))] := hl
  have k1 := elp_rng fr e 2 5
  have k2 := elp_rng fr e 3 4
  have k3 := elp_rng fr e 4 7
  have k4 := elp_rng fr e 5 6
  have k5 := raw_rng fr e m
  have k6 := mul_rng k1.1 k3.1 k1.2 k3.2
  have k7 := mul_rng k4.1 k2.1 k4.2 k2.2
  refine lv_aload_n hx hb dX1_rawRangeOf_0 rfl (lv_at hl 0 rfl) ?_
  refine lv_iload_n hx hb dX1_rawRangeOf_1 rfl (lv_at hl 1 rfl) ?_
  refine lv_iconst (v := nI 2) hx hb dX1_rawRangeOf_2 (by decide) ?_
  refine lv_iconst (v := nI 5) hx hb dX1_rawRangeOf_3 (by decide) ?_
  refine goI (rdV (As := [.int (nI e), .int (nI 2), .int (nI 5)]) (rest := []) (c_elapsed l K a t kn fn kr fr kp fp e 2 5 (by omega) (by decide) (by decide) (hs _ (by decide) (by decide)) (hs _ (by decide) (by decide))) ⟨hx, hb, hml, hown, hts⟩ (gV kl_X1_95 ki_X1_elapsed ks_X1_elapsed kn_X1 kc_X1_elapsed) (by show okN yX1_elapsed 3; decide +kernel) ⟨⟨Nat.le_of_ble_eq_true rfl, Nat.le_of_ble_eq_true rfl⟩, rfl, rfl⟩ hE hP [0, 1, 2, 3, 4, 5, 6] rfl ⟨0, 3, _, _, rfl, rfl, rfl⟩ hl.1 rfl (Nat.le_of_ble_eq_true rfl) dX1_rawRangeOf_4 ⟨Nat.le_of_ble_eq_true rfl, Nat.le_of_ble_eq_true rfl⟩) (fun v4 e4 => ?_)
  refine lv_i2l hx hb dX1_rawRangeOf_7 rfl ?_
  refine lv_topl (fun v7 e7 => ?_)
  have q7 : v7.toInt = elp fr e 2 5 := by rw [e7, i64T, e4]
  refine lv_lstore_n (lv' := [(3, .long v7), (0, .ref (a 0)), (1, .int (nI e)), (2, .int (nI m))]) hx hb dX1_rawRangeOf_8 rfl hl (by decide) rfl (fun ls hl => ?_)
  refine lv_aload_n hx hb dX1_rawRangeOf_9 rfl (lv_at hl 1 rfl) ?_
  refine lv_iload_n hx hb dX1_rawRangeOf_10 rfl (lv_at hl 2 rfl) ?_
  refine lv_iconst (v := nI 3) hx hb dX1_rawRangeOf_11 (by decide) ?_
  refine lv_iconst (v := nI 4) hx hb dX1_rawRangeOf_12 (by decide) ?_
  refine goI (rdV (As := [.int (nI e), .int (nI 3), .int (nI 4)]) (rest := []) (c_elapsed l K a t kn fn kr fr kp fp e 3 4 (by omega) (by decide) (by decide) (hs _ (by decide) (by decide)) (hs _ (by decide) (by decide))) ⟨hx, hb, hml, hown, hts⟩ (gV kl_X1_95 ki_X1_elapsed ks_X1_elapsed kn_X1 kc_X1_elapsed) (by show okN yX1_elapsed 3; decide +kernel) ⟨⟨Nat.le_of_ble_eq_true rfl, Nat.le_of_ble_eq_true rfl⟩, rfl, rfl⟩ hE hP [0, 1, 2, 3, 4, 5, 6] rfl ⟨0, 3, _, _, rfl, rfl, rfl⟩ hl.1 rfl (Nat.le_of_ble_eq_true rfl) dX1_rawRangeOf_13 ⟨Nat.le_of_ble_eq_true rfl, Nat.le_of_ble_eq_true rfl⟩) (fun v13 e13 => ?_)
  refine lv_i2l hx hb dX1_rawRangeOf_16 rfl ?_
  refine lv_topl (fun v16 e16 => ?_)
  have q16 : v16.toInt = elp fr e 3 4 := by rw [e16, i64T, e13]
  refine lv_lstore (lv' := [(5, .long v16), (3, .long v7), (0, .ref (a 0)), (1, .int (nI e)), (2, .int (nI m))]) hx hb dX1_rawRangeOf_17 hl (by decide) rfl (fun ls hl => ?_)
  refine lv_aload_n hx hb dX1_rawRangeOf_19 rfl (lv_at hl 2 rfl) ?_
  refine lv_iload_n hx hb dX1_rawRangeOf_20 rfl (lv_at hl 3 rfl) ?_
  refine lv_iconst (v := nI 4) hx hb dX1_rawRangeOf_21 (by decide) ?_
  refine lv_bipush (v := nI 7) hx hb dX1_rawRangeOf_22 (by decide) ?_
  refine goI (rdV (As := [.int (nI e), .int (nI 4), .int (nI 7)]) (rest := []) (c_elapsed l K a t kn fn kr fr kp fp e 4 7 (by omega) (by decide) (by decide) (hs _ (by decide) (by decide)) (hs _ (by decide) (by decide))) ⟨hx, hb, hml, hown, hts⟩ (gV kl_X1_95 ki_X1_elapsed ks_X1_elapsed kn_X1 kc_X1_elapsed) (by show okN yX1_elapsed 3; decide +kernel) ⟨⟨Nat.le_of_ble_eq_true rfl, Nat.le_of_ble_eq_true rfl⟩, rfl, rfl⟩ hE hP [0, 1, 2, 3, 4, 5, 6] rfl ⟨0, 3, _, _, rfl, rfl, rfl⟩ hl.1 rfl (Nat.le_of_ble_eq_true rfl) dX1_rawRangeOf_24 ⟨Nat.le_of_ble_eq_true rfl, Nat.le_of_ble_eq_true rfl⟩) (fun v24 e24 => ?_)
  refine lv_i2l hx hb dX1_rawRangeOf_27 rfl ?_
  refine lv_topl (fun v27 e27 => ?_)
  have q27 : v27.toInt = elp fr e 4 7 := by rw [e27, i64T, e24]
  refine lv_lstore (lv' := [(7, .long v27), (5, .long v16), (3, .long v7), (0, .ref (a 0)), (1, .int (nI e)), (2, .int (nI m))]) hx hb dX1_rawRangeOf_28 hl (by decide) rfl (fun ls hl => ?_)
  refine lv_aload_n hx hb dX1_rawRangeOf_30 rfl (lv_at hl 3 rfl) ?_
  refine lv_iload_n hx hb dX1_rawRangeOf_31 rfl (lv_at hl 4 rfl) ?_
  refine lv_iconst (v := nI 5) hx hb dX1_rawRangeOf_32 (by decide) ?_
  refine lv_bipush (v := nI 6) hx hb dX1_rawRangeOf_33 (by decide) ?_
  refine goI (rdV (As := [.int (nI e), .int (nI 5), .int (nI 6)]) (rest := []) (c_elapsed l K a t kn fn kr fr kp fp e 5 6 (by omega) (by decide) (by decide) (hs _ (by decide) (by decide)) (hs _ (by decide) (by decide))) ⟨hx, hb, hml, hown, hts⟩ (gV kl_X1_95 ki_X1_elapsed ks_X1_elapsed kn_X1 kc_X1_elapsed) (by show okN yX1_elapsed 3; decide +kernel) ⟨⟨Nat.le_of_ble_eq_true rfl, Nat.le_of_ble_eq_true rfl⟩, rfl, rfl⟩ hE hP [0, 1, 2, 3, 4, 5, 6] rfl ⟨0, 3, _, _, rfl, rfl, rfl⟩ hl.1 rfl (Nat.le_of_ble_eq_true rfl) dX1_rawRangeOf_35 ⟨Nat.le_of_ble_eq_true rfl, Nat.le_of_ble_eq_true rfl⟩) (fun v35 e35 => ?_)
  refine lv_i2l hx hb dX1_rawRangeOf_38 rfl ?_
  refine lv_topl (fun v38 e38 => ?_)
  have q38 : v38.toInt = elp fr e 5 6 := by rw [e38, i64T, e35]
  refine lv_lstore (lv' := [(9, .long v38), (7, .long v27), (5, .long v16), (3, .long v7), (0, .ref (a 0)), (1, .int (nI e)), (2, .int (nI m))]) hx hb dX1_rawRangeOf_39 hl (by decide) rfl (fun ls hl => ?_)
  refine lv_iload_n hx hb dX1_rawRangeOf_41 rfl (lv_at hl 6 rfl) ?_
  refine lv_if_ne (tgt := 57) hx hb dX1_rawRangeOf_42 (by decide) (fun c42 => ?_) (fun c42 => ?_)
  · have c42 := mt (nI_z (n := m) (by omega)).mpr c42
    refine lv_iload_n hx hb dX1_rawRangeOf_57 rfl (lv_at hl 6 rfl) ?_
    refine lv_iconst (v := nI 1) hx hb dX1_rawRangeOf_58 (by decide) ?_
    refine lv_icmp_ne (tgt := 80) hx hb dX1_rawRangeOf_59 (by decide) (fun c59 => ?_) (fun c59 => ?_)
    · have c59 := mt (nI_eq (a := m) (b := 1) (by omega) (by omega)).mpr c59
      refine lv_lload_n hx hb dX1_rawRangeOf_80 rfl (lv_at hl 3 rfl) ?_
      refine lv_lload hx hb dX1_rawRangeOf_81 (lv_at hl 1 rfl) ?_
      refine lv_ladd hx hb dX1_rawRangeOf_83 ?_
      refine lv_topl (fun v83 e83 => ?_)
      refine lv_lload hx hb dX1_rawRangeOf_84 (lv_at hl 0 rfl) ?_
      refine lv_ladd hx hb dX1_rawRangeOf_86 ?_
      refine lv_topl (fun v86 e86 => ?_)
      refine lv_lload hx hb dX1_rawRangeOf_87 (lv_at hl 2 rfl) ?_
      refine lv_ladd hx hb dX1_rawRangeOf_89 ?_
      refine lv_topl (fun v89 e89 => ?_)
      have q83 : v83.toInt = elp fr e 2 5 + elp fr e 4 7 := by rw [e83, fb_addL (by omega) (by omega), q7, q27]
      have q86 : v86.toInt = elp fr e 2 5 + elp fr e 4 7 + elp fr e 5 6 := by rw [e86, fb_addL (by omega) (by omega), q83, q38]
      have q89 : v89.toInt = elp fr e 2 5 + elp fr e 4 7 + elp fr e 5 6 + elp fr e 3 4 := by rw [e89, fb_addL (by omega) (by omega), q86, q16]
      refine lv_lstore (lv' := [(11, .long v89), (9, .long v38), (7, .long v27), (5, .long v16), (3, .long v7), (0, .ref (a 0)), (1, .int (nI e)), (2, .int (nI m))]) hx hb dX1_rawRangeOf_90 hl (by decide) rfl (fun ls hl => ?_)
      refine lv_lload hx hb dX1_rawRangeOf_92 (lv_at hl 0 rfl) ?_
      refine lv_lconst (v := lN 0) hx hb dX1_rawRangeOf_94 (by decide) ?_
      refine W.lcmp hx hb dX1_rawRangeOf_95 ?_
      refine lv_if_ne (tgt := 103) hx hb dX1_rawRangeOf_96 (by decide) (fun c96 => ?_) (fun c96 => ?_)
      · have c96 := fun q => c96 ((lg_cmp_eq _ _).mpr q)
        refine lv_lload_n hx hb dX1_rawRangeOf_103 rfl (lv_at hl 4 rfl) ?_
        refine lv_lload hx hb dX1_rawRangeOf_104 (lv_at hl 2 rfl) ?_
        refine lv_lmul hx hb dX1_rawRangeOf_106 ?_
        refine lv_topl (fun v106 e106 => ?_)
        refine lv_lload hx hb dX1_rawRangeOf_107 (lv_at hl 1 rfl) ?_
        refine lv_lload hx hb dX1_rawRangeOf_109 (lv_at hl 3 rfl) ?_
        refine lv_lmul hx hb dX1_rawRangeOf_111 ?_
        refine lv_topl (fun v111 e111 => ?_)
        refine lv_lsub hx hb dX1_rawRangeOf_112 ?_
        refine lv_topl (fun v112 e112 => ?_)
        refine lv_lload hx hb dX1_rawRangeOf_113 (lv_at hl 0 rfl) ?_
        refine goL (rdS (As := [.long v112, .long v89]) (rest := []) (c_floorDivL l K v112 v89 (fun q => c96 q)) ⟨hx, hb, hml, hown, hts⟩ (gS kl_X1_101 kt_J9_floorDiv_f86c9 kn_J9 kc_J9_floorDiv_f86c9) (by show okN yJ9_floorDiv_f86c9 2; decide +kernel) ⟨⟨Nat.le_of_ble_eq_true rfl, Nat.le_of_ble_eq_true rfl⟩, rfl, rfl⟩ hE hP [] rfl hl.1 rfl (Nat.le_of_ble_eq_true rfl) dX1_rawRangeOf_115 ⟨Nat.le_of_ble_eq_true rfl, Nat.le_of_ble_eq_true rfl⟩) (fun v115 e115 => ?_)
        refine lv_l2i hx hb dX1_rawRangeOf_118 rfl ?_
        refine lv_topi (fun v118 e118 => ?_)
        have q106 : v106.toInt = elp fr e 2 5 * elp fr e 4 7 := by rw [e106, fb_mulL (by rw [q7, q27]; omega) (by rw [q7, q27]; omega), q7, q27]
        have q111 : v111.toInt = elp fr e 5 6 * elp fr e 3 4 := by rw [e111, fb_mulL (by rw [q38, q16]; omega) (by rw [q38, q16]; omega), q38, q16]
        have q112 : v112.toInt = elp fr e 2 5 * elp fr e 4 7 - elp fr e 5 6 * elp fr e 3 4 := by rw [e112, fb_subL (by omega) (by omega), q106, q111]
        have hne : ¬ elp fr e 2 5 + elp fr e 4 7 + elp fr e 5 6 + elp fr e 3 4 = 0 := fun q => c96 (eqL (by rw [q89, q, lN_T (by decide)]; rfl))
        have q115 : v115.toInt = raw fr e m := by rw [e115, flD_pos (by omega), q112, q89, raw, if_neg c42, if_neg c59, if_neg hne]
        exact eI (v := v118) hx hb hr hlocks (by rw [e118, i32T (by omega) (by omega), q115]) dX1_rawRangeOf_119
      · have c96 := (lg_cmp_eq _ _).mp c96
        refine lv_iconst (v := nI 0) hx hb dX1_rawRangeOf_99 (by decide) ?_
        refine lv_goto (tgt := 119) hx hb dX1_rawRangeOf_100 (by decide) ?_
        have q9 := congrArg Int64.toInt c96
        rw [q89, lN_T (by decide)] at q9
        exact eI (v := nI 0) hx hb hr hlocks (by rw [raw, if_neg c42, if_neg c59, if_pos (by simpa using q9)]; rfl) dX1_rawRangeOf_119
    · have c59 := (nI_eq (a := m) (b := 1) (by omega) (by omega)).mp c59
      refine lv_lload_n hx hb dX1_rawRangeOf_62 rfl (lv_at hl 3 rfl) ?_
      refine lv_lload hx hb dX1_rawRangeOf_63 (lv_at hl 2 rfl) ?_
      refine lv_lsub hx hb dX1_rawRangeOf_65 ?_
      refine lv_topl (fun v65 e65 => ?_)
      refine lv_lload hx hb dX1_rawRangeOf_66 (lv_at hl 1 rfl) ?_
      refine lv_ladd hx hb dX1_rawRangeOf_68 ?_
      refine lv_topl (fun v68 e68 => ?_)
      refine lv_lload hx hb dX1_rawRangeOf_69 (lv_at hl 0 rfl) ?_
      refine lv_lsub hx hb dX1_rawRangeOf_71 ?_
      refine lv_topl (fun v71 e71 => ?_)
      refine lv_ldc2 (v := lN 4) hx hb hown (hts _ kw_X1_104) dX1_rawRangeOf_72 ?_
      refine goL (rdS (As := [.long v71, .long (lN 4)]) (rest := []) (c_floorDivL l K v71 (lN 4) (by decide)) ⟨hx, hb, hml, hown, hts⟩ (gS kl_X1_101 kt_J9_floorDiv_f86c9 kn_J9 kc_J9_floorDiv_f86c9) (by show okN yJ9_floorDiv_f86c9 2; decide +kernel) ⟨⟨Nat.le_of_ble_eq_true rfl, Nat.le_of_ble_eq_true rfl⟩, rfl, rfl⟩ hE hP [] rfl hl.1 rfl (Nat.le_of_ble_eq_true rfl) dX1_rawRangeOf_75 ⟨Nat.le_of_ble_eq_true rfl, Nat.le_of_ble_eq_true rfl⟩) (fun v75 e75 => ?_)
      refine lv_l2i hx hb dX1_rawRangeOf_78 rfl ?_
      refine lv_topi (fun v78 e78 => ?_)
      have q65 : v65.toInt = elp fr e 2 5 - elp fr e 3 4 := by rw [e65, fb_subL (by omega) (by omega), q7, q16]
      have q68 : v68.toInt = elp fr e 2 5 - elp fr e 3 4 + elp fr e 4 7 := by rw [e68, fb_addL (by omega) (by omega), q65, q27]
      have q71 : v71.toInt = elp fr e 2 5 - elp fr e 3 4 + elp fr e 4 7 - elp fr e 5 6 := by rw [e71, fb_subL (by omega) (by omega), q68, q38]
      have q75 : v75.toInt = raw fr e m := by rw [e75, flD_pos (by decide), q71, lN_T (by decide), raw, if_neg c42, if_pos c59]; rfl
      exact eI (v := v78) hx hb hr hlocks (by rw [e78, i32T (by omega) (by omega), q75]) dX1_rawRangeOf_79
  · have c42 := (nI_z (n := m) (by omega)).mp c42
    refine lv_lload_n hx hb dX1_rawRangeOf_45 rfl (lv_at hl 3 rfl) ?_
    refine lv_lload hx hb dX1_rawRangeOf_46 (lv_at hl 2 rfl) ?_
    refine lv_lsub hx hb dX1_rawRangeOf_48 ?_
    refine lv_topl (fun v48 e48 => ?_)
    refine lv_ldc2 (v := lN 2) hx hb hown (hts _ kw_X1_99) dX1_rawRangeOf_49 ?_
    refine goL (rdS (As := [.long v48, .long (lN 2)]) (rest := []) (c_floorDivL l K v48 (lN 2) (by decide)) ⟨hx, hb, hml, hown, hts⟩ (gS kl_X1_101 kt_J9_floorDiv_f86c9 kn_J9 kc_J9_floorDiv_f86c9) (by show okN yJ9_floorDiv_f86c9 2; decide +kernel) ⟨⟨Nat.le_of_ble_eq_true rfl, Nat.le_of_ble_eq_true rfl⟩, rfl, rfl⟩ hE hP [] rfl hl.1 rfl (Nat.le_of_ble_eq_true rfl) dX1_rawRangeOf_52 ⟨Nat.le_of_ble_eq_true rfl, Nat.le_of_ble_eq_true rfl⟩) (fun v52 e52 => ?_)
    refine lv_l2i hx hb dX1_rawRangeOf_55 rfl ?_
    refine lv_topi (fun v55 e55 => ?_)
    have q48 : v48.toInt = elp fr e 2 5 - elp fr e 3 4 := by rw [e48, fb_subL (by omega) (by omega), q7, q16]
    have q52 : v52.toInt = raw fr e m := by rw [e52, flD_pos (by decide), q48, lN_T (by decide), raw, if_pos c42]; rfl
    exact eI (v := v55) hx hb hr hlocks (by rw [e55, i32T (by omega) (by omega), q52]) dX1_rawRangeOf_56
set_option maxHeartbeats 4000000 in
set_option maxRecDepth 100000 in
theorem c_rangeOf (l : Launch) (K : EK) (a : Nat → Nat) (t : Int64) (kn : Nat) (fn : Nat → Int32) (kr : Nat) (fr : Nat → Int32) (kp : Nat) (fp : Nat → Int32) (e m : Nat) (h1 : e < 40) (hk : kn ≤ 6) (hm : m < 3) (hn : ∀ i, i < kn → nOk fn i) (hr2 : rOk kn fr e) : Met l yX1_rangeOf (wq yX1_rangeOf cX1_rangeOf 3 (some .int)) (rmL 4 0 0) (va_Pc [.ref (a 0), .int (nI e), .int (nI m)] (PR K [(a 0, .inr (3, [.long t, .ref (a 1), .ref (a 2), .ref (a 3)])), (a 1, .inr (4, [.ref (a 4), .int (nI 6), .int (nI kn)])), (a 2, .inr (4, [.ref (a 5), .int (nI 8), .int (nI kr)])), (a 3, .inr (4, [.ref (a 6), .int (nI 5), .int (nI kp)])), (a 4, .inl (K.2.1, 36, .inl (fn))), (a 5, .inl (K.2.1, 320, .inl (fr))), (a 6, .inl (K.2.1, 100, .inl (fp)))])) (vp_Si (fun r => r.toInt = rng fn fr e m)) 0 0 NF := by
  refine hdR (by decide +kernel) (Nat.le_of_ble_eq_true rfl) ?_
  intro pp ee s mm bl9 me9 cd hx hb hr hlocks hml hown hts hE hP ls hl
  have hown : s.vm.findClass RX1 = some mm.cls := hown
  have hP : va_P K.1 vwCl [(a 0, .inr (3, [.long t, .ref (a 1), .ref (a 2), .ref (a 3)])), (a 1, .inr (4, [.ref (a 4), .int (nI 6), .int (nI kn)])), (a 2, .inr (4, [.ref (a 5), .int (nI 8), .int (nI kr)])), (a 3, .inr (4, [.ref (a 6), .int (nI 5), .int (nI kp)])), (a 4, .inl (K.2.1, 36, .inl (fn))), (a 5, .inl (K.2.1, 320, .inl (fr))), (a 6, .inl (K.2.1, 100, .inl (fp)))] s.heap := hP
  have hl : lv_has ls 3 [(0, .ref (a 0)), (1, .int (nI e)), (2, .int (nI m))] := hl
  refine lv_aload_n hx hb dX1_rangeOf_0 rfl (lv_at hl 0 rfl) ?_
  refine lv_iload_n hx hb dX1_rangeOf_1 rfl (lv_at hl 1 rfl) ?_
  refine lv_iload_n hx hb dX1_rangeOf_2 rfl (lv_at hl 2 rfl) ?_
  refine goI (rdV (As := [.int (nI e), .int (nI m)]) (rest := []) (c_rawRangeOf l K a t kn fn kr fr kp fp e m (by omega) (by omega) hr2.2.2) ⟨hx, hb, hml, hown, hts⟩ (gV kl_X1_106 ki_X1_rawRangeOf ks_X1_rawRangeOf kn_X1 kc_X1_rawRangeOf) (by show okN yX1_rawRangeOf 2; decide +kernel) ⟨⟨Nat.le_of_ble_eq_true rfl, Nat.le_of_ble_eq_true rfl⟩, rfl, rfl⟩ hE hP [0, 1, 2, 3, 4, 5, 6] rfl ⟨0, 3, _, _, rfl, rfl, rfl⟩ hl.1 rfl (Nat.le_of_ble_eq_true rfl) dX1_rangeOf_3 ⟨Nat.le_of_ble_eq_true rfl, Nat.le_of_ble_eq_true rfl⟩) (fun v3 e3 => ?_)
  refine lv_aload_n hx hb dX1_rangeOf_6 rfl (lv_at hl 0 rfl) ?_
  refine va_get (D := K.1) (ci := 3) (v := .ref (a 1)) (C := RX1) (T := TX1) (N := 4) hx hb hts inX1 hown hE.1 hP 0 rfl rfl 1 (by decide) (hts _ kf_X1_14) (fun _ h9 => h9) rfl dX1_rangeOf_7 ?_
  refine lv_aload_n hx hb dX1_rangeOf_10 rfl (lv_at hl 0 rfl) ?_
  refine va_get (D := K.1) (ci := 3) (v := .ref (a 2)) (C := RX1) (T := TX1) (N := 4) hx hb hts inX1 hown hE.1 hP 0 rfl rfl 2 (by decide) (hts _ kf_X1_20) (fun _ h9 => h9) rfl dX1_rangeOf_11 ?_
  refine lv_iload_n hx hb dX1_rangeOf_14 rfl (lv_at hl 1 rfl) ?_
  refine lv_iconst (v := nI 0) hx hb dX1_rangeOf_15 (by decide) ?_
  refine goI (rdV (As := [.int (nI e), .int (nI 0)]) (rest := [.ref (a 1), .int v3]) (c_get l K (a 2) (a 5) 320 8 kr e 0 fr (by omega) (by omega)) ⟨hx, hb, hml, hown, hts⟩ (gV kl_X1_34 ki_X2_get ks_X2_get kn_X2 kc_X2_get) (by show okN yX2_get 2; decide +kernel) ⟨⟨Nat.le_of_ble_eq_true rfl, Nat.le_of_ble_eq_true rfl⟩, rfl, rfl⟩ hE hP [2, 5] rfl ⟨0, 4, _, _, rfl, rfl, rfl⟩ hl.1 rfl (Nat.le_of_ble_eq_true rfl) dX1_rangeOf_16 ⟨Nat.le_of_ble_eq_true rfl, Nat.le_of_ble_eq_true rfl⟩) (fun v16 e16 => ?_)
  refine lv_iconst (v := nI 5) hx hb dX1_rangeOf_19 (by decide) ?_
  rw [e16, hr2.1.1]
  refine goI (rdV (As := [.int (nI (ini fr e)), .int (nI 5)]) (rest := [.int v3]) (c_get l K (a 1) (a 4) 36 6 kn (ini fr e) 5 fn (by have := hr2.1.2; omega) (by omega)) ⟨hx, hb, hml, hown, hts⟩ (gV kl_X1_34 ki_X2_get ks_X2_get kn_X2 kc_X2_get) (by show okN yX2_get 2; decide +kernel) ⟨⟨Nat.le_of_ble_eq_true rfl, Nat.le_of_ble_eq_true rfl⟩, rfl, rfl⟩ hE hP [1, 4] rfl ⟨0, 4, _, _, rfl, rfl, rfl⟩ hl.1 rfl (Nat.le_of_ble_eq_true rfl) dX1_rangeOf_20 ⟨Nat.le_of_ble_eq_true rfl, Nat.le_of_ble_eq_true rfl⟩) (fun v20 e20 => ?_)
  refine lv_isub hx hb dX1_rangeOf_23 ?_
  refine lv_topi (fun v23 e23 => ?_)
  refine lv_aload_n hx hb dX1_rangeOf_24 rfl (lv_at hl 0 rfl) ?_
  refine va_get (D := K.1) (ci := 3) (v := .ref (a 1)) (C := RX1) (T := TX1) (N := 4) hx hb hts inX1 hown hE.1 hP 0 rfl rfl 1 (by decide) (hts _ kf_X1_14) (fun _ h9 => h9) rfl dX1_rangeOf_25 ?_
  refine lv_aload_n hx hb dX1_rangeOf_28 rfl (lv_at hl 0 rfl) ?_
  refine va_get (D := K.1) (ci := 3) (v := .ref (a 2)) (C := RX1) (T := TX1) (N := 4) hx hb hts inX1 hown hE.1 hP 0 rfl rfl 2 (by decide) (hts _ kf_X1_20) (fun _ h9 => h9) rfl dX1_rangeOf_29 ?_
  refine lv_iload_n hx hb dX1_rangeOf_32 rfl (lv_at hl 1 rfl) ?_
  refine lv_iconst (v := nI 1) hx hb dX1_rangeOf_33 (by decide) ?_
  refine goI (rdV (As := [.int (nI e), .int (nI 1)]) (rest := [.ref (a 1), .int v23]) (c_get l K (a 2) (a 5) 320 8 kr e 1 fr (by omega) (by omega)) ⟨hx, hb, hml, hown, hts⟩ (gV kl_X1_34 ki_X2_get ks_X2_get kn_X2 kc_X2_get) (by show okN yX2_get 2; decide +kernel) ⟨⟨Nat.le_of_ble_eq_true rfl, Nat.le_of_ble_eq_true rfl⟩, rfl, rfl⟩ hE hP [2, 5] rfl ⟨0, 4, _, _, rfl, rfl, rfl⟩ hl.1 rfl (Nat.le_of_ble_eq_true rfl) dX1_rangeOf_34 ⟨Nat.le_of_ble_eq_true rfl, Nat.le_of_ble_eq_true rfl⟩) (fun v34 e34 => ?_)
  refine lv_iconst (v := nI 5) hx hb dX1_rangeOf_37 (by decide) ?_
  rw [e34, hr2.2.1.1]
  refine goI (rdV (As := [.int (nI (rsp fr e)), .int (nI 5)]) (rest := [.int v23]) (c_get l K (a 1) (a 4) 36 6 kn (rsp fr e) 5 fn (by have := hr2.2.1.2; omega) (by omega)) ⟨hx, hb, hml, hown, hts⟩ (gV kl_X1_34 ki_X2_get ks_X2_get kn_X2 kc_X2_get) (by show okN yX2_get 2; decide +kernel) ⟨⟨Nat.le_of_ble_eq_true rfl, Nat.le_of_ble_eq_true rfl⟩, rfl, rfl⟩ hE hP [1, 4] rfl ⟨0, 4, _, _, rfl, rfl, rfl⟩ hl.1 rfl (Nat.le_of_ble_eq_true rfl) dX1_rangeOf_38 ⟨Nat.le_of_ble_eq_true rfl, Nat.le_of_ble_eq_true rfl⟩) (fun v38 e38 => ?_)
  refine lv_isub hx hb dX1_rangeOf_41 ?_
  refine lv_topi (fun v41 e41 => ?_)
  have k1 := (hn _ hr2.1.2).2.2.2.2.2
  have k2 := (hn _ hr2.2.1.2).2.2.2.2.2
  have k3 := raw_rng fr e m
  have q20 : v20.toInt = nd fn (ini fr e) 5 := by rw [e20]; rfl
  have q38 : v38.toInt = nd fn (rsp fr e) 5 := by rw [e38]; rfl
  have q23 : v23.toInt = raw fr e m - nd fn (ini fr e) 5 := by rw [e23, fb_subI (by omega) (by omega), e3, q20]
  exact eI (v := v41) hx hb hr hlocks (by rw [e41, fb_subI (by omega) (by omega), q23, q38]; rfl) dX1_rangeOf_42
set_option maxHeartbeats 4000000 in
set_option maxRecDepth 100000 in
theorem c_lengthOf (l : Launch) (K : EK) (a : Nat → Nat) (t : Int64) (kn : Nat) (fn : Nat → Int32) (kr : Nat) (fr : Nat → Int32) (kp : Nat) (fp : Nat → Int32) (e : Nat) (h1 : e < 40) (hk : kn ≤ 6) (hn : ∀ i, i < kn → nOk fn i) (hr2 : rOk kn fr e) : Met l yX1_lengthOf (wq yX1_lengthOf cX1_lengthOf 2 (some .int)) (rmL 3 0 0) (va_Pc [.ref (a 0), .int (nI e)] (PR K [(a 0, .inr (3, [.long t, .ref (a 1), .ref (a 2), .ref (a 3)])), (a 1, .inr (4, [.ref (a 4), .int (nI 6), .int (nI kn)])), (a 2, .inr (4, [.ref (a 5), .int (nI 8), .int (nI kr)])), (a 3, .inr (4, [.ref (a 6), .int (nI 5), .int (nI kp)])), (a 4, .inl (K.2.1, 36, .inl (fn))), (a 5, .inl (K.2.1, 320, .inl (fr))), (a 6, .inl (K.2.1, 100, .inl (fp)))])) (vp_Si (fun r => r = nI (len fn fr e))) 0 0 NF := by
  refine hdR (by decide +kernel) (Nat.le_of_ble_eq_true rfl) ?_
  intro pp ee s mm bl9 me9 cd hx hb hr hlocks hml hown hts hE hP ls hl
  have hown : s.vm.findClass RX1 = some mm.cls := hown
  have hP : va_P K.1 vwCl [(a 0, .inr (3, [.long t, .ref (a 1), .ref (a 2), .ref (a 3)])), (a 1, .inr (4, [.ref (a 4), .int (nI 6), .int (nI kn)])), (a 2, .inr (4, [.ref (a 5), .int (nI 8), .int (nI kr)])), (a 3, .inr (4, [.ref (a 6), .int (nI 5), .int (nI kp)])), (a 4, .inl (K.2.1, 36, .inl (fn))), (a 5, .inl (K.2.1, 320, .inl (fr))), (a 6, .inl (K.2.1, 100, .inl (fp)))] s.heap := hP
  have hl : lv_has ls 2 [(0, .ref (a 0)), (1, .int (nI e))] := hl
  refine lv_aload_n hx hb dX1_lengthOf_0 rfl (lv_at hl 0 rfl) ?_
  refine lv_aload_n hx hb dX1_lengthOf_1 rfl (lv_at hl 0 rfl) ?_
  refine va_get (D := K.1) (ci := 3) (v := .ref (a 2)) (C := RX1) (T := TX1) (N := 4) hx hb hts inX1 hown hE.1 hP 0 rfl rfl 2 (by decide) (hts _ kf_X1_20) (fun _ h9 => h9) rfl dX1_lengthOf_2 ?_
  refine lv_iload_n hx hb dX1_lengthOf_5 rfl (lv_at hl 1 rfl) ?_
  refine lv_iconst (v := nI 0) hx hb dX1_lengthOf_6 (by decide) ?_
  refine goI (rdV (As := [.int (nI e), .int (nI 0)]) (rest := [.ref (a 0)]) (c_get l K (a 2) (a 5) 320 8 kr e 0 fr (by omega) (by omega)) ⟨hx, hb, hml, hown, hts⟩ (gV kl_X1_34 ki_X2_get ks_X2_get kn_X2 kc_X2_get) (by show okN yX2_get 2; decide +kernel) ⟨⟨Nat.le_of_ble_eq_true rfl, Nat.le_of_ble_eq_true rfl⟩, rfl, rfl⟩ hE hP [2, 5] rfl ⟨0, 4, _, _, rfl, rfl, rfl⟩ hl.1 rfl (Nat.le_of_ble_eq_true rfl) dX1_lengthOf_7 ⟨Nat.le_of_ble_eq_true rfl, Nat.le_of_ble_eq_true rfl⟩) (fun v7 e7 => ?_)
  refine lv_aload_n hx hb dX1_lengthOf_10 rfl (lv_at hl 0 rfl) ?_
  refine va_get (D := K.1) (ci := 3) (v := .ref (a 2)) (C := RX1) (T := TX1) (N := 4) hx hb hts inX1 hown hE.1 hP 0 rfl rfl 2 (by decide) (hts _ kf_X1_20) (fun _ h9 => h9) rfl dX1_lengthOf_11 ?_
  refine lv_iload_n hx hb dX1_lengthOf_14 rfl (lv_at hl 1 rfl) ?_
  refine lv_iconst (v := nI 1) hx hb dX1_lengthOf_15 (by decide) ?_
  refine goI (rdV (As := [.int (nI e), .int (nI 1)]) (rest := [.int v7, .ref (a 0)]) (c_get l K (a 2) (a 5) 320 8 kr e 1 fr (by omega) (by omega)) ⟨hx, hb, hml, hown, hts⟩ (gV kl_X1_34 ki_X2_get ks_X2_get kn_X2 kc_X2_get) (by show okN yX2_get 2; decide +kernel) ⟨⟨Nat.le_of_ble_eq_true rfl, Nat.le_of_ble_eq_true rfl⟩, rfl, rfl⟩ hE hP [2, 5] rfl ⟨0, 4, _, _, rfl, rfl, rfl⟩ hl.1 rfl (Nat.le_of_ble_eq_true rfl) dX1_lengthOf_16 ⟨Nat.le_of_ble_eq_true rfl, Nat.le_of_ble_eq_true rfl⟩) (fun v16 e16 => ?_)
  rw [e7, hr2.1.1]
  rw [e16, hr2.2.1.1]
  refine goI (rdV (As := [.int (nI (ini fr e)), .int (nI (rsp fr e))]) (rest := []) (c_lengthBetween l K a t kn fn kr fr kp fp (ini fr e) (rsp fr e) (by have := hr2.1.2; omega) (by have := hr2.2.1.2; omega) (hn _ hr2.1.2) (hn _ hr2.2.1.2)) ⟨hx, hb, hml, hown, hts⟩ (gV kl_X1_56 ki_X1_lengthBetween ks_X1_lengthBetween kn_X1 kc_X1_lengthBetween) (by show okN yX1_lengthBetween 2; decide +kernel) ⟨⟨Nat.le_of_ble_eq_true rfl, Nat.le_of_ble_eq_true rfl⟩, rfl, rfl⟩ hE hP [0, 1, 2, 3, 4, 5, 6] rfl ⟨0, 3, _, _, rfl, rfl, rfl⟩ hl.1 rfl (Nat.le_of_ble_eq_true rfl) dX1_lengthOf_19 ⟨Nat.le_of_ble_eq_true rfl, Nat.le_of_ble_eq_true rfl⟩) (fun v19 e19 => ?_)
  exact eI (v := v19) hx hb hr hlocks (e19) dX1_lengthOf_22
set_option maxHeartbeats 4000000 in
set_option maxRecDepth 100000 in
theorem c_errorOf (l : Launch) (K : EK) (a : Nat → Nat) (t : Int64) (kn : Nat) (fn : Nat → Int32) (kr : Nat) (fr : Nat → Int32) (kp : Nat) (fp : Nat → Int32) (e m : Nat) (h1 : e < 40) (hk : kn ≤ 6) (hm : m < 3) (hn : ∀ i, i < kn → nOk fn i) (hr2 : rOk kn fr e) : Met l yX1_errorOf (wq yX1_errorOf cX1_errorOf 3 (some .int)) (rmL 5 0 0) (va_Pc [.ref (a 0), .int (nI e), .int (nI m)] (PR K [(a 0, .inr (3, [.long t, .ref (a 1), .ref (a 2), .ref (a 3)])), (a 1, .inr (4, [.ref (a 4), .int (nI 6), .int (nI kn)])), (a 2, .inr (4, [.ref (a 5), .int (nI 8), .int (nI kr)])), (a 3, .inr (4, [.ref (a 6), .int (nI 5), .int (nI kp)])), (a 4, .inl (K.2.1, 36, .inl (fn))), (a 5, .inl (K.2.1, 320, .inl (fr))), (a 6, .inl (K.2.1, 100, .inl (fp)))])) (vp_Si (fun r => r.toInt = err fn fr e m)) 0 0 NF := by
  refine hdR (by decide +kernel) (Nat.le_of_ble_eq_true rfl) ?_
  intro pp ee s mm bl9 me9 cd hx hb hr hlocks hml hown hts hE hP ls hl
  have hown : s.vm.findClass RX1 = some mm.cls := hown
  have hP : va_P K.1 vwCl [(a 0, .inr (3, [.long t, .ref (a 1), .ref (a 2), .ref (a 3)])), (a 1, .inr (4, [.ref (a 4), .int (nI 6), .int (nI kn)])), (a 2, .inr (4, [.ref (a 5), .int (nI 8), .int (nI kr)])), (a 3, .inr (4, [.ref (a 6), .int (nI 5), .int (nI kp)])), (a 4, .inl (K.2.1, 36, .inl (fn))), (a 5, .inl (K.2.1, 320, .inl (fr))), (a 6, .inl (K.2.1, 100, .inl (fp)))] s.heap := hP
  have hl : lv_has ls 3 [(0, .ref (a 0)), (1, .int (nI e)), (2, .int (nI m))] := hl
  refine lv_aload_n hx hb dX1_errorOf_0 rfl (lv_at hl 0 rfl) ?_
  refine lv_iload_n hx hb dX1_errorOf_1 rfl (lv_at hl 1 rfl) ?_
  refine lv_iload_n hx hb dX1_errorOf_2 rfl (lv_at hl 2 rfl) ?_
  refine goI (rdV (As := [.int (nI e), .int (nI m)]) (rest := []) (c_rangeOf l K a t kn fn kr fr kp fp e m (by omega) (by omega) (by omega) hn hr2) ⟨hx, hb, hml, hown, hts⟩ (gV kl_X1_109 ki_X1_rangeOf ks_X1_rangeOf kn_X1 kc_X1_rangeOf) (by show okN yX1_rangeOf 2; decide +kernel) ⟨⟨Nat.le_of_ble_eq_true rfl, Nat.le_of_ble_eq_true rfl⟩, rfl, rfl⟩ hE hP [0, 1, 2, 3, 4, 5, 6] rfl ⟨0, 3, _, _, rfl, rfl, rfl⟩ hl.1 rfl (Nat.le_of_ble_eq_true rfl) dX1_errorOf_3 ⟨Nat.le_of_ble_eq_true rfl, Nat.le_of_ble_eq_true rfl⟩) (fun v3 e3 => ?_)
  refine lv_aload_n hx hb dX1_errorOf_6 rfl (lv_at hl 0 rfl) ?_
  refine lv_iload_n hx hb dX1_errorOf_7 rfl (lv_at hl 1 rfl) ?_
  refine goI (rdV (As := [.int (nI e)]) (rest := [.int v3]) (c_lengthOf l K a t kn fn kr fr kp fp e (by omega) (by omega) hn hr2) ⟨hx, hb, hml, hown, hts⟩ (gV kl_X1_112 ki_X1_lengthOf ks_X1_lengthOf kn_X1 kc_X1_lengthOf) (by show okN yX1_lengthOf 1; decide +kernel) ⟨⟨Nat.le_of_ble_eq_true rfl, Nat.le_of_ble_eq_true rfl⟩, rfl, rfl⟩ hE hP [0, 1, 2, 3, 4, 5, 6] rfl ⟨0, 3, _, _, rfl, rfl, rfl⟩ hl.1 rfl (Nat.le_of_ble_eq_true rfl) dX1_errorOf_8 ⟨Nat.le_of_ble_eq_true rfl, Nat.le_of_ble_eq_true rfl⟩) (fun v8 e8 => ?_)
  refine lv_isub hx hb dX1_errorOf_11 ?_
  refine lv_topi (fun v11 e11 => ?_)
  have k2 := rng_rng m hn hr2
  have k3 := len_lt hn hr2
  have k4 := raw_rng fr e 2
  have q8 : v8.toInt = len fn fr e := by rw [e8]; exact nI_toInt (by omega)
  exact eI (v := v11) hx hb hr hlocks (by rw [e11, fb_subI (by omega) (by omega), e3, q8]; rfl) dX1_errorOf_12
set_option maxHeartbeats 4000000 in
set_option maxRecDepth 100000 in
theorem c_excessOf (l : Launch) (K : EK) (a : Nat → Nat) (t : Int64) (kn : Nat) (fn : Nat → Int32) (kr : Nat) (fr : Nat → Int32) (kp : Nat) (fp : Nat → Int32) (e : Nat) (h1 : e < 40) (hk : kn ≤ 6) (hn : ∀ i, i < kn → nOk fn i) (hr2 : rOk kn fr e) : Met l yX1_excessOf (wq yX1_excessOf cX1_excessOf 2 (some .int)) (rmL 5 0 0) (va_Pc [.ref (a 0), .int (nI e)] (PR K [(a 0, .inr (3, [.long t, .ref (a 1), .ref (a 2), .ref (a 3)])), (a 1, .inr (4, [.ref (a 4), .int (nI 6), .int (nI kn)])), (a 2, .inr (4, [.ref (a 5), .int (nI 8), .int (nI kr)])), (a 3, .inr (4, [.ref (a 6), .int (nI 5), .int (nI kp)])), (a 4, .inl (K.2.1, 36, .inl (fn))), (a 5, .inl (K.2.1, 320, .inl (fr))), (a 6, .inl (K.2.1, 100, .inl (fp)))])) (vp_Si (fun r => r.toInt = exs fn fr e)) 0 0 NF := by
  refine hdR (by decide +kernel) (Nat.le_of_ble_eq_true rfl) ?_
  intro pp ee s mm bl9 me9 cd hx hb hr hlocks hml hown hts hE hP ls hl
  have hown : s.vm.findClass RX1 = some mm.cls := hown
  have hP : va_P K.1 vwCl [(a 0, .inr (3, [.long t, .ref (a 1), .ref (a 2), .ref (a 3)])), (a 1, .inr (4, [.ref (a 4), .int (nI 6), .int (nI kn)])), (a 2, .inr (4, [.ref (a 5), .int (nI 8), .int (nI kr)])), (a 3, .inr (4, [.ref (a 6), .int (nI 5), .int (nI kp)])), (a 4, .inl (K.2.1, 36, .inl (fn))), (a 5, .inl (K.2.1, 320, .inl (fr))), (a 6, .inl (K.2.1, 100, .inl (fp)))] s.heap := hP
  have hl : lv_has ls 2 [(0, .ref (a 0)), (1, .int (nI e))] := hl
  refine lv_aload_n hx hb dX1_excessOf_0 rfl (lv_at hl 0 rfl) ?_
  refine lv_iload_n hx hb dX1_excessOf_1 rfl (lv_at hl 1 rfl) ?_
  refine lv_iconst (v := nI 2) hx hb dX1_excessOf_2 (by decide) ?_
  refine goI (rdV (As := [.int (nI e), .int (nI 2)]) (rest := []) (c_rawRangeOf l K a t kn fn kr fr kp fp e 2 (by omega) (by omega) hr2.2.2) ⟨hx, hb, hml, hown, hts⟩ (gV kl_X1_106 ki_X1_rawRangeOf ks_X1_rawRangeOf kn_X1 kc_X1_rawRangeOf) (by show okN yX1_rawRangeOf 2; decide +kernel) ⟨⟨Nat.le_of_ble_eq_true rfl, Nat.le_of_ble_eq_true rfl⟩, rfl, rfl⟩ hE hP [0, 1, 2, 3, 4, 5, 6] rfl ⟨0, 3, _, _, rfl, rfl, rfl⟩ hl.1 rfl (Nat.le_of_ble_eq_true rfl) dX1_excessOf_3 ⟨Nat.le_of_ble_eq_true rfl, Nat.le_of_ble_eq_true rfl⟩) (fun v3 e3 => ?_)
  refine lv_aload_n hx hb dX1_excessOf_6 rfl (lv_at hl 0 rfl) ?_
  refine lv_iload_n hx hb dX1_excessOf_7 rfl (lv_at hl 1 rfl) ?_
  refine goI (rdV (As := [.int (nI e)]) (rest := [.int v3]) (c_lengthOf l K a t kn fn kr fr kp fp e (by omega) (by omega) hn hr2) ⟨hx, hb, hml, hown, hts⟩ (gV kl_X1_112 ki_X1_lengthOf ks_X1_lengthOf kn_X1 kc_X1_lengthOf) (by show okN yX1_lengthOf 1; decide +kernel) ⟨⟨Nat.le_of_ble_eq_true rfl, Nat.le_of_ble_eq_true rfl⟩, rfl, rfl⟩ hE hP [0, 1, 2, 3, 4, 5, 6] rfl ⟨0, 3, _, _, rfl, rfl, rfl⟩ hl.1 rfl (Nat.le_of_ble_eq_true rfl) dX1_excessOf_8 ⟨Nat.le_of_ble_eq_true rfl, Nat.le_of_ble_eq_true rfl⟩) (fun v8 e8 => ?_)
  refine lv_isub hx hb dX1_excessOf_11 ?_
  refine lv_topi (fun v11 e11 => ?_)
  have k3 := len_lt hn hr2
  have k4 := raw_rng fr e 2
  have q8 : v8.toInt = len fn fr e := by rw [e8]; exact nI_toInt (by omega)
  exact eI (v := v11) hx hb hr hlocks (by rw [e11, fb_subI (by omega) (by omega), e3, q8]; rfl) dX1_excessOf_12
set_option maxHeartbeats 4000000 in
set_option maxRecDepth 100000 in
theorem c_latestBetween (l : Launch) (K : EK) (a : Nat → Nat) (t : Int64) (kn : Nat) (fn : Nat → Int32) (kr : Nat) (fr : Nat → Int32) (kp : Nat) (fp : Nat → Int32) (i j : Nat) (hi : i < 6) (hj : j < 6) (hk : kn ≤ 6) (hkr : kr ≤ 40) (hrs : ∀ e, e < kr → rOk kn fr e) : Met l yX1_latestBetween (wq yX1_latestBetween cX1_latestBetween 6 (some .int)) (rmL 2 0 0) (va_Pc [.ref (a 0), .int (nI i), .int (nI j)] (PR K [(a 0, .inr (3, [.long t, .ref (a 1), .ref (a 2), .ref (a 3)])), (a 1, .inr (4, [.ref (a 4), .int (nI 6), .int (nI kn)])), (a 2, .inr (4, [.ref (a 5), .int (nI 8), .int (nI kr)])), (a 3, .inr (4, [.ref (a 6), .int (nI 5), .int (nI kp)])), (a 4, .inl (K.2.1, 36, .inl (fn))), (a 5, .inl (K.2.1, 320, .inl (fr))), (a 6, .inl (K.2.1, 100, .inl (fp)))])) (vp_Si (fun r => (r = -1 ∧ noLat fr i j kr) ∨ ∃ e, r = nI e ∧ isLat fr i j kr e)) 0 0 NF := by
  refine hdR (by decide +kernel) (Nat.le_of_ble_eq_true rfl) ?_
  intro pp ee s mm bl9 me9 cd hx hb hr hlocks hml hown hts hE hP ls hl
  have hown : s.vm.findClass RX1 = some mm.cls := hown
  have hP : va_P K.1 vwCl [(a 0, .inr (3, [.long t, .ref (a 1), .ref (a 2), .ref (a 3)])), (a 1, .inr (4, [.ref (a 4), .int (nI 6), .int (nI kn)])), (a 2, .inr (4, [.ref (a 5), .int (nI 8), .int (nI kr)])), (a 3, .inr (4, [.ref (a 6), .int (nI 5), .int (nI kp)])), (a 4, .inl (K.2.1, 36, .inl (fn))), (a 5, .inl (K.2.1, 320, .inl (fr))), (a 6, .inl (K.2.1, 100, .inl (fp)))] s.heap := hP
  have hl : lv_has ls 6 [(0, .ref (a 0)), (1, .int (nI i)), (2, .int (nI j))] := hl
  refine lv_aload_n hx hb dX1_latestBetween_0 rfl (lv_at hl 0 rfl) ?_
  refine va_get (D := K.1) (ci := 3) (v := .ref (a 2)) (C := RX1) (T := TX1) (N := 4) hx hb hts inX1 hown hE.1 hP 0 rfl rfl 2 (by decide) (hts _ kf_X1_20) (fun _ h9 => h9) rfl dX1_latestBetween_1 ?_
  refine va_getN (D := K.1) (ci := 4) (v := .int (nI kr)) (C := RX2) (T := TX2) (N := 3) hx hb hts inX2 hown hE.1 hP 2 rfl rfl 2 (by decide) (va_Nw.use rfl (hE.2.1 _ (List.mem_of_getElem? (i := 1) rfl))) (fun _ h9 => h9) rfl dX1_latestBetween_4 ?_
  refine lv_iconst (v := nI 1) hx hb dX1_latestBetween_7 (by decide) ?_
  refine lv_isub hx hb dX1_latestBetween_8 ?_
  refine lv_topi (fun v8 e8 => ?_)
  rw [show v8 = nI kr + -1 from by rw [e8]; exact sub1 _]
  refine lv_istore_n (lv' := [(3, .int (nI kr + -1)), (0, .ref (a 0)), (1, .int (nI i)), (2, .int (nI j))]) hx hb dX1_latestBetween_9 rfl hl (by decide) rfl (fun ls hl => ?_)
  refine lpR (α := Nat) (fun (x9 : Nat) => x9 ≤ kr ∧ ∀ q, x9 ≤ q → q < kr → ¬ btw fr i j q) (fun (x9 : Nat) => x9) (fun (x9 : Nat) => [(0, .ref (a 0)), (1, .int (nI i)), (2, .int (nI j)), (3, .int (nI x9 + -1))]) 6 10 (fun x9 hI10 ih10 ls hl => ?_) kr (⟨Nat.le_refl _, fun q q1 q2 => absurd q2 (by omega)⟩) ls (lv_sub hl [1, 2, 3, 0] rfl)
  obtain ⟨n, rfl⟩ : ∃ z, z = x9 := ⟨_, rfl⟩
  have hI10 : n ≤ kr ∧ ∀ q, n ≤ q → q < kr → ¬ btw fr i j q := hI10
  have hl : lv_has ls 6 [(0, .ref (a 0)), (1, .int (nI i)), (2, .int (nI j)), (3, .int (nI n + -1))] := hl
  refine lv_iload_n hx hb dX1_latestBetween_10 rfl (lv_at hl 3 rfl) ?_
  refine lv_if_lt (tgt := 68) hx hb dX1_latestBetween_11 (by decide) (fun c11 => ?_) (fun c11 => ?_)
  · refine lv_iconst (v := -1) hx hb dX1_latestBetween_68 (by decide) ?_
    have hn0 : n = 0 := by
      rcases n with _ | n
      · rfl
      · rw [pk_m1] at c11
        exact absurd c11 (nI_pos (by omega))
    exact eI (v := -1) hx hb hr hlocks (Or.inl ⟨rfl, fun q q2 => hI10.2 q (by omega) q2⟩) dX1_latestBetween_69
  · obtain ⟨z, rfl⟩ : ∃ z, n = z + 1 := ⟨n - 1, by rcases n with _ | n <;> first | omega | exact absurd (by decide) c11⟩
    have hr2 := hrs z (by omega)
    rw [pk_m1] at hl
    have hl : lv_has ls 6 [(0, .ref (a 0)), (1, .int (nI i)), (2, .int (nI j)), (3, .int (nI z))] := hl
    refine lv_aload_n hx hb dX1_latestBetween_14 rfl (lv_at hl 0 rfl) ?_
    refine va_get (D := K.1) (ci := 3) (v := .ref (a 2)) (C := RX1) (T := TX1) (N := 4) hx hb hts inX1 hown hE.1 hP 0 rfl rfl 2 (by decide) (hts _ kf_X1_20) (fun _ h9 => h9) rfl dX1_latestBetween_15 ?_
    refine lv_iload_n hx hb dX1_latestBetween_18 rfl (lv_at hl 3 rfl) ?_
    refine lv_iconst (v := nI 0) hx hb dX1_latestBetween_19 (by decide) ?_
    refine goI (rdV (As := [.int (nI z), .int (nI 0)]) (rest := []) (c_get l K (a 2) (a 5) 320 8 kr z 0 fr (by omega) (by omega)) ⟨hx, hb, hml, hown, hts⟩ (gV kl_X1_34 ki_X2_get ks_X2_get kn_X2 kc_X2_get) (by show okN yX2_get 2; decide +kernel) ⟨⟨Nat.le_of_ble_eq_true rfl, Nat.le_of_ble_eq_true rfl⟩, rfl, rfl⟩ hE hP [2, 5] rfl ⟨0, 4, _, _, rfl, rfl, rfl⟩ hl.1 rfl (Nat.le_of_ble_eq_true rfl) dX1_latestBetween_20 ⟨Nat.le_of_ble_eq_true rfl, Nat.le_of_ble_eq_true rfl⟩) (fun v20 e20 => ?_)
    refine lv_istore (lv' := [(4, .int v20), (0, .ref (a 0)), (1, .int (nI i)), (2, .int (nI j)), (3, .int (nI z))]) hx hb dX1_latestBetween_23 hl (by decide) rfl (fun ls hl => ?_)
    refine lv_aload_n hx hb dX1_latestBetween_25 rfl (lv_at hl 1 rfl) ?_
    refine va_get (D := K.1) (ci := 3) (v := .ref (a 2)) (C := RX1) (T := TX1) (N := 4) hx hb hts inX1 hown hE.1 hP 0 rfl rfl 2 (by decide) (hts _ kf_X1_20) (fun _ h9 => h9) rfl dX1_latestBetween_26 ?_
    refine lv_iload_n hx hb dX1_latestBetween_29 rfl (lv_at hl 4 rfl) ?_
    refine lv_iconst (v := nI 1) hx hb dX1_latestBetween_30 (by decide) ?_
    refine goI (rdV (As := [.int (nI z), .int (nI 1)]) (rest := []) (c_get l K (a 2) (a 5) 320 8 kr z 1 fr (by omega) (by omega)) ⟨hx, hb, hml, hown, hts⟩ (gV kl_X1_34 ki_X2_get ks_X2_get kn_X2 kc_X2_get) (by show okN yX2_get 2; decide +kernel) ⟨⟨Nat.le_of_ble_eq_true rfl, Nat.le_of_ble_eq_true rfl⟩, rfl, rfl⟩ hE hP [2, 5] rfl ⟨0, 4, _, _, rfl, rfl, rfl⟩ hl.1 rfl (Nat.le_of_ble_eq_true rfl) dX1_latestBetween_31 ⟨Nat.le_of_ble_eq_true rfl, Nat.le_of_ble_eq_true rfl⟩) (fun v31 e31 => ?_)
    refine lv_istore (lv' := [(5, .int v31), (4, .int v20), (0, .ref (a 0)), (1, .int (nI i)), (2, .int (nI j)), (3, .int (nI z))]) hx hb dX1_latestBetween_34 hl (by decide) rfl (fun ls hl => ?_)
    rw [e20, hr2.1.1, e31, hr2.2.1.1] at hl
    have g1 := hr2.1.2
    have g2 := hr2.2.1.2
    refine lv_iload hx hb dX1_latestBetween_36 (lv_at hl 1 rfl) ?_
    refine lv_iload_n hx hb dX1_latestBetween_38 rfl (lv_at hl 3 rfl) ?_
    refine lv_icmp_ne (tgt := 48) hx hb dX1_latestBetween_39 (by decide) (fun c39 => ?_) (fun c39 => ?_)
    · have c39 := mt (nI_eq (a := ini fr z) (b := i) (by omega) (by omega)).mpr c39
      refine lv_iload hx hb dX1_latestBetween_48 (lv_at hl 1 rfl) ?_
      refine lv_iload_n hx hb dX1_latestBetween_50 rfl (lv_at hl 4 rfl) ?_
      refine lv_icmp_ne (tgt := 62) hx hb dX1_latestBetween_51 (by decide) (fun c51 => ?_) (fun c51 => ?_)
      · have c51 := mt (nI_eq (a := ini fr z) (b := j) (by omega) (by omega)).mpr c51
        have hstep : ∀ q, z ≤ q → q < kr → ¬ btw fr i j q := fun q q1 q2 => by
          rcases Nat.lt_or_ge z q with g | g
          · exact hI10.2 q g q2
          · have : q = z := by omega
            subst this
            rintro (⟨u1, u2⟩ | ⟨u1, u2⟩) <;> simp_all
        obtain ⟨v62, e62⟩ : ∃ y : Int32, y = (nI z) + (-1) := ⟨_, rfl⟩
        refine lv_iinc (v := v62) (lv' := [(3, .int v62), (5, .int (nI (rsp fr z))), (4, .int (nI (ini fr z))), (0, .ref (a 0)), (1, .int (nI i)), (2, .int (nI j))]) hx hb dX1_latestBetween_62 hl (k := 5) rfl (by rw [e62]; rfl) (by decide) rfl (fun ls hl => ?_)
        rw [show v62 = nI z + -1 from e62] at hl
        refine lv_goto (tgt := 10) hx hb dX1_latestBetween_65 (by decide) ?_
        have hB10 : z ≤ kr ∧ ∀ q, z ≤ q → q < kr → ¬ btw fr i j q := ⟨by omega, hstep⟩
        exact ih10 z (hB10) (Nat.lt_succ_self z) ls (lv_sub hl [3, 4, 5, 0] rfl)
      · have c51 := (nI_eq (a := ini fr z) (b := j) (by omega) (by omega)).mp c51
        refine lv_iload hx hb dX1_latestBetween_54 (lv_at hl 0 rfl) ?_
        refine lv_iload_n hx hb dX1_latestBetween_56 rfl (lv_at hl 3 rfl) ?_
        refine lv_icmp_ne (tgt := 62) hx hb dX1_latestBetween_57 (by decide) (fun c57 => ?_) (fun c57 => ?_)
        · have c57 := mt (nI_eq (a := rsp fr z) (b := i) (by omega) (by omega)).mpr c57
          have hstep : ∀ q, z ≤ q → q < kr → ¬ btw fr i j q := fun q q1 q2 => by
            rcases Nat.lt_or_ge z q with g | g
            · exact hI10.2 q g q2
            · have : q = z := by omega
              subst this
              rintro (⟨u1, u2⟩ | ⟨u1, u2⟩) <;> simp_all
          obtain ⟨v62, e62⟩ : ∃ y : Int32, y = (nI z) + (-1) := ⟨_, rfl⟩
          refine lv_iinc (v := v62) (lv' := [(3, .int v62), (5, .int (nI (rsp fr z))), (4, .int (nI (ini fr z))), (0, .ref (a 0)), (1, .int (nI i)), (2, .int (nI j))]) hx hb dX1_latestBetween_62 hl (k := 5) rfl (by rw [e62]; rfl) (by decide) rfl (fun ls hl => ?_)
          rw [show v62 = nI z + -1 from e62] at hl
          refine lv_goto (tgt := 10) hx hb dX1_latestBetween_65 (by decide) ?_
          have hB10 : z ≤ kr ∧ ∀ q, z ≤ q → q < kr → ¬ btw fr i j q := ⟨by omega, hstep⟩
          exact ih10 z (hB10) (Nat.lt_succ_self z) ls (lv_sub hl [3, 4, 5, 0] rfl)
        · have c57 := (nI_eq (a := rsp fr z) (b := i) (by omega) (by omega)).mp c57
          refine lv_iload_n hx hb dX1_latestBetween_60 rfl (lv_at hl 5 rfl) ?_
          exact eI (v := nI z) hx hb hr hlocks (Or.inr ⟨z, rfl, by omega, by first | exact Or.inl ⟨c39, c45⟩ | exact Or.inr ⟨c51, c57⟩, fun q q1 q2 => hI10.2 q q1 q2⟩) dX1_latestBetween_61
    · have c39 := (nI_eq (a := ini fr z) (b := i) (by omega) (by omega)).mp c39
      refine lv_iload hx hb dX1_latestBetween_42 (lv_at hl 0 rfl) ?_
      refine lv_iload_n hx hb dX1_latestBetween_44 rfl (lv_at hl 4 rfl) ?_
      refine lv_icmp_eq (tgt := 60) hx hb dX1_latestBetween_45 (by decide) (fun c45 => ?_) (fun c45 => ?_)
      · have c45 := (nI_eq (a := rsp fr z) (b := j) (by omega) (by omega)).mp c45
        refine lv_iload_n hx hb dX1_latestBetween_60 rfl (lv_at hl 5 rfl) ?_
        exact eI (v := nI z) hx hb hr hlocks (Or.inr ⟨z, rfl, by omega, by first | exact Or.inl ⟨c39, c45⟩ | exact Or.inr ⟨c51, c57⟩, fun q q1 q2 => hI10.2 q q1 q2⟩) dX1_latestBetween_61
      · have c45 := mt (nI_eq (a := rsp fr z) (b := j) (by omega) (by omega)).mpr c45
        refine lv_iload hx hb dX1_latestBetween_48 (lv_at hl 1 rfl) ?_
        refine lv_iload_n hx hb dX1_latestBetween_50 rfl (lv_at hl 4 rfl) ?_
        refine lv_icmp_ne (tgt := 62) hx hb dX1_latestBetween_51 (by decide) (fun c51 => ?_) (fun c51 => ?_)
        · have c51 := mt (nI_eq (a := ini fr z) (b := j) (by omega) (by omega)).mpr c51
          have hstep : ∀ q, z ≤ q → q < kr → ¬ btw fr i j q := fun q q1 q2 => by
            rcases Nat.lt_or_ge z q with g | g
            · exact hI10.2 q g q2
            · have : q = z := by omega
              subst this
              rintro (⟨u1, u2⟩ | ⟨u1, u2⟩) <;> simp_all
          obtain ⟨v62, e62⟩ : ∃ y : Int32, y = (nI z) + (-1) := ⟨_, rfl⟩
          refine lv_iinc (v := v62) (lv' := [(3, .int v62), (5, .int (nI (rsp fr z))), (4, .int (nI (ini fr z))), (0, .ref (a 0)), (1, .int (nI i)), (2, .int (nI j))]) hx hb dX1_latestBetween_62 hl (k := 5) rfl (by rw [e62]; rfl) (by decide) rfl (fun ls hl => ?_)
          rw [show v62 = nI z + -1 from e62] at hl
          refine lv_goto (tgt := 10) hx hb dX1_latestBetween_65 (by decide) ?_
          have hB10 : z ≤ kr ∧ ∀ q, z ≤ q → q < kr → ¬ btw fr i j q := ⟨by omega, hstep⟩
          exact ih10 z (hB10) (Nat.lt_succ_self z) ls (lv_sub hl [3, 4, 5, 0] rfl)
        · have c51 := (nI_eq (a := ini fr z) (b := j) (by omega) (by omega)).mp c51
          refine lv_iload hx hb dX1_latestBetween_54 (lv_at hl 0 rfl) ?_
          refine lv_iload_n hx hb dX1_latestBetween_56 rfl (lv_at hl 3 rfl) ?_
          refine lv_icmp_ne (tgt := 62) hx hb dX1_latestBetween_57 (by decide) (fun c57 => ?_) (fun c57 => ?_)
          · have c57 := mt (nI_eq (a := rsp fr z) (b := i) (by omega) (by omega)).mpr c57
            have hstep : ∀ q, z ≤ q → q < kr → ¬ btw fr i j q := fun q q1 q2 => by
              rcases Nat.lt_or_ge z q with g | g
              · exact hI10.2 q g q2
              · have : q = z := by omega
                subst this
                rintro (⟨u1, u2⟩ | ⟨u1, u2⟩) <;> simp_all
            obtain ⟨v62, e62⟩ : ∃ y : Int32, y = (nI z) + (-1) := ⟨_, rfl⟩
            refine lv_iinc (v := v62) (lv' := [(3, .int v62), (5, .int (nI (rsp fr z))), (4, .int (nI (ini fr z))), (0, .ref (a 0)), (1, .int (nI i)), (2, .int (nI j))]) hx hb dX1_latestBetween_62 hl (k := 5) rfl (by rw [e62]; rfl) (by decide) rfl (fun ls hl => ?_)
            rw [show v62 = nI z + -1 from e62] at hl
            refine lv_goto (tgt := 10) hx hb dX1_latestBetween_65 (by decide) ?_
            have hB10 : z ≤ kr ∧ ∀ q, z ≤ q → q < kr → ¬ btw fr i j q := ⟨by omega, hstep⟩
            exact ih10 z (hB10) (Nat.lt_succ_self z) ls (lv_sub hl [3, 4, 5, 0] rfl)
          · have c57 := (nI_eq (a := rsp fr z) (b := i) (by omega) (by omega)).mp c57
            refine lv_iload_n hx hb dX1_latestBetween_60 rfl (lv_at hl 5 rfl) ?_
            exact eI (v := nI z) hx hb hr hlocks (Or.inr ⟨z, rfl, by omega, by first | exact Or.inl ⟨c39, c45⟩ | exact Or.inr ⟨c51, c57⟩, fun q q1 q2 => hI10.2 q q1 q2⟩) dX1_latestBetween_61
end
