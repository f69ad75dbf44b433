section
-- ===== PART A: goes FIRST, ahead of the names: the tables' words, and 'selects' of the private methods out of them =====
/-- a private method of a class that the tables say can be made, by its rows of tables_1 -/
def lw_okq (q : MethodName × Nat) : Prop := (q.1.cls ≠ "java/lang/invoke/MethodHandle" ∧ q.1.cls ≠ "java/lang/invoke/VarHandle") ∧ Cond.instantiable q.1.cls q.2 ∈ tables_1 ∧ Cond.privateMethod q.1 ∈ tables_1 ∧ Cond.instanceMethod q.1 ∈ tables_1
theorem lw_p0 : lw_okq (⟨"ClosedSums$Polynomial", "settle", "(I)V"⟩, 2) := ⟨⟨by decide +kernel, by decide +kernel⟩, List.mem_of_getElem? (i := 26) (by decide +kernel), List.mem_of_getElem? (i := 121) (by decide +kernel), List.mem_of_getElem? (i := 122) (by decide +kernel)⟩
theorem lw_p1 : lw_okq (⟨"ClosedSums", "forget", "()V"⟩, 7) := ⟨⟨by decide +kernel, by decide +kernel⟩, List.mem_of_getElem? (i := 18) (by decide +kernel), List.mem_of_getElem? (i := 225) (by decide +kernel), List.mem_of_getElem? (i := 226) (by decide +kernel)⟩
theorem lw_p2 : lw_okq (⟨"ClosedSums", "requirePower", "(I)V"⟩, 7) := ⟨⟨by decide +kernel, by decide +kernel⟩, List.mem_of_getElem? (i := 18) (by decide +kernel), List.mem_of_getElem? (i := 257) (by decide +kernel), List.mem_of_getElem? (i := 258) (by decide +kernel)⟩
theorem lw_p3 : lw_okq (⟨"java/lang/Throwable", "fillInStackTrace", "(I)Ljava/lang/Throwable;"⟩, 6) := ⟨⟨by decide +kernel, by decide +kernel⟩, List.mem_of_getElem? (i := 299) (by decide +kernel), List.mem_of_getElem? (i := 297) (by decide +kernel), List.mem_of_getElem? (i := 298) (by decide +kernel)⟩
theorem lw_p4 : lw_okq (⟨"ClosedSums", "side", "(Z)LClosedSums$Polynomial;"⟩, 7) := ⟨⟨by decide +kernel, by decide +kernel⟩, List.mem_of_getElem? (i := 18) (by decide +kernel), List.mem_of_getElem? (i := 329) (by decide +kernel), List.mem_of_getElem? (i := 330) (by decide +kernel)⟩
theorem lw_p5 : lw_okq (⟨"ClosedSums", "requireRatio", "()V"⟩, 7) := ⟨⟨by decide +kernel, by decide +kernel⟩, List.mem_of_getElem? (i := 18) (by decide +kernel), List.mem_of_getElem? (i := 355) (by decide +kernel), List.mem_of_getElem? (i := 356) (by decide +kernel)⟩
theorem lw_p6 : lw_okq (⟨"ClosedSums", "requirePart", "(I)V"⟩, 7) := ⟨⟨by decide +kernel, by decide +kernel⟩, List.mem_of_getElem? (i := 18) (by decide +kernel), List.mem_of_getElem? (i := 461) (by decide +kernel), List.mem_of_getElem? (i := 462) (by decide +kernel)⟩
theorem lw_p7 : lw_okq (⟨"ClosedSums$Equation", "start", "(LClosedSums$RatioSplit;)V"⟩, 8) := ⟨⟨by decide +kernel, by decide +kernel⟩, List.mem_of_getElem? (i := 88) (by decide +kernel), List.mem_of_getElem? (i := 489) (by decide +kernel), List.mem_of_getElem? (i := 490) (by decide +kernel)⟩
theorem lw_p8 : lw_okq (⟨"ClosedSums$Equation", "solve", "()I"⟩, 8) := ⟨⟨by decide +kernel, by decide +kernel⟩, List.mem_of_getElem? (i := 88) (by decide +kernel), List.mem_of_getElem? (i := 497) (by decide +kernel), List.mem_of_getElem? (i := 498) (by decide +kernel)⟩
theorem lw_p9 : lw_okq (⟨"ClosedSums$Equation", "fill", "(LClosedSums$Pair;I)V"⟩, 8) := ⟨⟨by decide +kernel, by decide +kernel⟩, List.mem_of_getElem? (i := 88) (by decide +kernel), List.mem_of_getElem? (i := 501) (by decide +kernel), List.mem_of_getElem? (i := 502) (by decide +kernel)⟩
theorem lw_p10 : lw_okq (⟨"ClosedSums$Equation", "lower", "(LClosedSums$Pair;)V"⟩, 8) := ⟨⟨by decide +kernel, by decide +kernel⟩, List.mem_of_getElem? (i := 88) (by decide +kernel), List.mem_of_getElem? (i := 507) (by decide +kernel), List.mem_of_getElem? (i := 508) (by decide +kernel)⟩
theorem lw_p11 : lw_okq (⟨"ClosedSums$Equation", "keep", "(LClosedSums$Pair;)V"⟩, 8) := ⟨⟨by decide +kernel, by decide +kernel⟩, List.mem_of_getElem? (i := 88) (by decide +kernel), List.mem_of_getElem? (i := 515) (by decide +kernel), List.mem_of_getElem? (i := 516) (by decide +kernel)⟩
theorem lw_p12 : lw_okq (⟨"ClosedSums", "requireAnswer", "()V"⟩, 7) := ⟨⟨by decide +kernel, by decide +kernel⟩, List.mem_of_getElem? (i := 18) (by decide +kernel), List.mem_of_getElem? (i := 534) (by decide +kernel), List.mem_of_getElem? (i := 535) (by decide +kernel)⟩
theorem lw_p13 : lw_okq (⟨"ClosedSums", "requirePlace", "(I)V"⟩, 7) := ⟨⟨by decide +kernel, by decide +kernel⟩, List.mem_of_getElem? (i := 18) (by decide +kernel), List.mem_of_getElem? (i := 595) (by decide +kernel), List.mem_of_getElem? (i := 596) (by decide +kernel)⟩
theorem lw_p14 : lw_okq (⟨"ClosedSums", "requireTerm", "(I)V"⟩, 7) := ⟨⟨by decide +kernel, by decide +kernel⟩, List.mem_of_getElem? (i := 18) (by decide +kernel), List.mem_of_getElem? (i := 600) (by decide +kernel), List.mem_of_getElem? (i := 601) (by decide +kernel)⟩
theorem lw_p15 : lw_okq (⟨"ClosedSumsModel", "isPower", "(I)Z"⟩, 18) := ⟨⟨by decide +kernel, by decide +kernel⟩, List.mem_of_getElem? (i := 626) (by decide +kernel), List.mem_of_getElem? (i := 696) (by decide +kernel), List.mem_of_getElem? (i := 697) (by decide +kernel)⟩
def lw_privs_1 : List (MethodName × Nat) := [(⟨"ClosedSums$Polynomial", "settle", "(I)V"⟩, 2), (⟨"ClosedSums", "forget", "()V"⟩, 7), (⟨"ClosedSums", "requirePower", "(I)V"⟩, 7), (⟨"java/lang/Throwable", "fillInStackTrace", "(I)Ljava/lang/Throwable;"⟩, 6), (⟨"ClosedSums", "side", "(Z)LClosedSums$Polynomial;"⟩, 7), (⟨"ClosedSums", "requireRatio", "()V"⟩, 7), (⟨"ClosedSums", "requirePart", "(I)V"⟩, 7), (⟨"ClosedSums$Equation", "start", "(LClosedSums$RatioSplit;)V"⟩, 8), (⟨"ClosedSums$Equation", "solve", "()I"⟩, 8), (⟨"ClosedSums$Equation", "fill", "(LClosedSums$Pair;I)V"⟩, 8), (⟨"ClosedSums$Equation", "lower", "(LClosedSums$Pair;)V"⟩, 8), (⟨"ClosedSums$Equation", "keep", "(LClosedSums$Pair;)V"⟩, 8), (⟨"ClosedSums", "requireAnswer", "()V"⟩, 7), (⟨"ClosedSums", "requirePlace", "(I)V"⟩, 7), (⟨"ClosedSums", "requireTerm", "(I)V"⟩, 7), (⟨"ClosedSumsModel", "isPower", "(I)Z"⟩, 18)]
theorem lw_r1 : ∀ q ∈ lw_privs_1, lw_okq q := List.forall_mem_cons.mpr ⟨lw_p0, List.forall_mem_cons.mpr ⟨lw_p1, List.forall_mem_cons.mpr ⟨lw_p2, List.forall_mem_cons.mpr ⟨lw_p3, List.forall_mem_cons.mpr ⟨lw_p4, List.forall_mem_cons.mpr ⟨lw_p5, List.forall_mem_cons.mpr ⟨lw_p6, List.forall_mem_cons.mpr ⟨lw_p7, List.forall_mem_cons.mpr ⟨lw_p8, List.forall_mem_cons.mpr ⟨lw_p9, List.forall_mem_cons.mpr ⟨lw_p10, List.forall_mem_cons.mpr ⟨lw_p11, List.forall_mem_cons.mpr ⟨lw_p12, List.forall_mem_cons.mpr ⟨lw_p13, List.forall_mem_cons.mpr ⟨lw_p14, List.forall_mem_cons.mpr ⟨lw_p15, fun _ h => absurd h List.not_mem_nil⟩⟩⟩⟩⟩⟩⟩⟩⟩⟩⟩⟩⟩⟩⟩⟩
theorem lw_p16 : lw_okq (⟨"ClosedSumsModel", "isNone", "()Z"⟩, 18) := ⟨⟨by decide +kernel, by decide +kernel⟩, List.mem_of_getElem? (i := 626) (by decide +kernel), List.mem_of_getElem? (i := 733) (by decide +kernel), List.mem_of_getElem? (i := 734) (by decide +kernel)⟩
theorem lw_p17 : lw_okq (⟨"ClosedSumsModel", "findSplit", "()V"⟩, 18) := ⟨⟨by decide +kernel, by decide +kernel⟩, List.mem_of_getElem? (i := 626) (by decide +kernel), List.mem_of_getElem? (i := 738) (by decide +kernel), List.mem_of_getElem? (i := 739) (by decide +kernel)⟩
theorem lw_p18 : lw_okq (⟨"ClosedSumsModel", "common", "()V"⟩, 18) := ⟨⟨by decide +kernel, by decide +kernel⟩, List.mem_of_getElem? (i := 626) (by decide +kernel), List.mem_of_getElem? (i := 745) (by decide +kernel), List.mem_of_getElem? (i := 746) (by decide +kernel)⟩
theorem lw_p19 : lw_okq (⟨"ClosedSumsModel", "divide", "([J[J)V"⟩, 18) := ⟨⟨by decide +kernel, by decide +kernel⟩, List.mem_of_getElem? (i := 626) (by decide +kernel), List.mem_of_getElem? (i := 749) (by decide +kernel), List.mem_of_getElem? (i := 750) (by decide +kernel)⟩
theorem lw_p20 : lw_okq (⟨"ClosedSumsModel", "multiply", "([J[J)V"⟩, 18) := ⟨⟨by decide +kernel, by decide +kernel⟩, List.mem_of_getElem? (i := 626) (by decide +kernel), List.mem_of_getElem? (i := 757) (by decide +kernel), List.mem_of_getElem? (i := 758) (by decide +kernel)⟩
theorem lw_p21 : lw_okq (⟨"ClosedSumsModel", "takes", "(I)Z"⟩, 18) := ⟨⟨by decide +kernel, by decide +kernel⟩, List.mem_of_getElem? (i := 626) (by decide +kernel), List.mem_of_getElem? (i := 765) (by decide +kernel), List.mem_of_getElem? (i := 766) (by decide +kernel)⟩
theorem lw_p22 : lw_okq (⟨"ClosedSumsModel", "solve", "()I"⟩, 18) := ⟨⟨by decide +kernel, by decide +kernel⟩, List.mem_of_getElem? (i := 626) (by decide +kernel), List.mem_of_getElem? (i := 779) (by decide +kernel), List.mem_of_getElem? (i := 780) (by decide +kernel)⟩
theorem lw_p23 : lw_okq (⟨"ClosedSumsModel", "fill", "()V"⟩, 18) := ⟨⟨by decide +kernel, by decide +kernel⟩, List.mem_of_getElem? (i := 626) (by decide +kernel), List.mem_of_getElem? (i := 783) (by decide +kernel), List.mem_of_getElem? (i := 784) (by decide +kernel)⟩
theorem lw_p24 : lw_okq (⟨"ClosedSumsModel", "bringOut", "(III)V"⟩, 18) := ⟨⟨by decide +kernel, by decide +kernel⟩, List.mem_of_getElem? (i := 626) (by decide +kernel), List.mem_of_getElem? (i := 787) (by decide +kernel), List.mem_of_getElem? (i := 788) (by decide +kernel)⟩
theorem lw_p25 : lw_okq (⟨"ClosedSumsModel", "isAnswered", "()Z"⟩, 18) := ⟨⟨by decide +kernel, by decide +kernel⟩, List.mem_of_getElem? (i := 626) (by decide +kernel), List.mem_of_getElem? (i := 795) (by decide +kernel), List.mem_of_getElem? (i := 796) (by decide +kernel)⟩
theorem lw_p26 : lw_okq (⟨"ClosedSumsModel", "isClosed", "()Z"⟩, 18) := ⟨⟨by decide +kernel, by decide +kernel⟩, List.mem_of_getElem? (i := 626) (by decide +kernel), List.mem_of_getElem? (i := 804) (by decide +kernel), List.mem_of_getElem? (i := 805) (by decide +kernel)⟩
theorem lw_p27 : lw_okq (⟨"ClosedSumsModel", "raise", "(I)I"⟩, 18) := ⟨⟨by decide +kernel, by decide +kernel⟩, List.mem_of_getElem? (i := 626) (by decide +kernel), List.mem_of_getElem? (i := 820) (by decide +kernel), List.mem_of_getElem? (i := 821) (by decide +kernel)⟩
theorem lw_p28 : lw_okq (⟨"ClosedSumsModel", "reaches", "(I)Z"⟩, 18) := ⟨⟨by decide +kernel, by decide +kernel⟩, List.mem_of_getElem? (i := 626) (by decide +kernel), List.mem_of_getElem? (i := 824) (by decide +kernel), List.mem_of_getElem? (i := 825) (by decide +kernel)⟩
def lw_privs_2 : List (MethodName × Nat) := [(⟨"ClosedSumsModel", "isNone", "()Z"⟩, 18), (⟨"ClosedSumsModel", "findSplit", "()V"⟩, 18), (⟨"ClosedSumsModel", "common", "()V"⟩, 18), (⟨"ClosedSumsModel", "divide", "([J[J)V"⟩, 18), (⟨"ClosedSumsModel", "multiply", "([J[J)V"⟩, 18), (⟨"ClosedSumsModel", "takes", "(I)Z"⟩, 18), (⟨"ClosedSumsModel", "solve", "()I"⟩, 18), (⟨"ClosedSumsModel", "fill", "()V"⟩, 18), (⟨"ClosedSumsModel", "bringOut", "(III)V"⟩, 18), (⟨"ClosedSumsModel", "isAnswered", "()Z"⟩, 18), (⟨"ClosedSumsModel", "isClosed", "()Z"⟩, 18), (⟨"ClosedSumsModel", "raise", "(I)I"⟩, 18), (⟨"ClosedSumsModel", "reaches", "(I)Z"⟩, 18)]
theorem lw_r2 : ∀ q ∈ lw_privs_2, lw_okq q := List.forall_mem_cons.mpr ⟨lw_p16, List.forall_mem_cons.mpr ⟨lw_p17, List.forall_mem_cons.mpr ⟨lw_p18, List.forall_mem_cons.mpr ⟨lw_p19, List.forall_mem_cons.mpr ⟨lw_p20, List.forall_mem_cons.mpr ⟨lw_p21, List.forall_mem_cons.mpr ⟨lw_p22, List.forall_mem_cons.mpr ⟨lw_p23, List.forall_mem_cons.mpr ⟨lw_p24, List.forall_mem_cons.mpr ⟨lw_p25, List.forall_mem_cons.mpr ⟨lw_p26, List.forall_mem_cons.mpr ⟨lw_p27, List.forall_mem_cons.mpr ⟨lw_p28, fun _ h => absurd h List.not_mem_nil⟩⟩⟩⟩⟩⟩⟩⟩⟩⟩⟩⟩⟩
def lw_privs : List (MethodName × Nat) := lw_privs_1 ++ (lw_privs_2)
def lw_tbl : List Cond := k2_sels lw_privs ++ tables_1
theorem lw_privs_ok : ∀ q ∈ lw_privs, lw_okq q := by
  show ∀ q ∈ lw_privs_1 ++ (lw_privs_2), lw_okq q
  exact List.forall_mem_append.mpr ⟨lw_r1, lw_r2⟩
end
section
/-! ===== BEGIN words of one list among another's, by their places ===== -/
theorem goodIn_r {big : List Cond} (ws : List Cond) (ps : List Nat) (hp : ws = ps.filterMap (fun i => big[i]?)) (h : ws.all goodWord = true) : GoodIn big ws := by
  intro w hw
  have h1 := List.all_eq_true.mp h w hw
  rw [hp] at hw
  obtain ⟨i, -, hi⟩ := List.mem_filterMap.mp hw
  have hm : w ∈ big := by first | exact List.mem_of_getElem? hi | exact List.getElem?_mem hi
  exact ⟨hm, good_of_word h1⟩
theorem goodIn_app {big a b : List Cond} (ha : GoodIn big a) (hb : GoodIn big b) : GoodIn big (a ++ b) := fun w h => (List.mem_append.mp h).elim (ha w) (hb w)
theorem goodIn_ca {big a b : List Cond} {c : Cond} (ha : GoodIn big (c :: a)) (hb : GoodIn big b) : GoodIn big (c :: (a ++ b)) := fun w h => (List.mem_cons.mp h).elim (fun e => ha w (List.mem_cons.mpr (Or.inl e))) (fun h => (List.mem_append.mp h).elim (fun h => ha w (List.mem_cons.mpr (Or.inr h))) (hb w))
theorem goodIn_sub {big ws : List Cond} (hm : ∀ w ∈ ws, w ∈ big) (h : ws.all goodWord = true) : GoodIn big ws := fun w hw => ⟨hm w hw, good_of_word (List.all_eq_true.mp h w hw)⟩
/-! ===== END ===== -/

/-! ===== BEGIN exceptions that leave a method, and their catching by the caller (launches without stack traces) ===== -/
section VXA
/-! The laws vx_back, vx_callV, vx_callS, vx_callSW, vx_throw0, vx_throwS follow proofs of the library, with one case more: JvmDerived/Free/Laws.lean (Back.of_free), Shelf42/LK1.lean (callV, callS), Shelf/KitTraced.lean (throwNew0V, throwNewS). -/
/-- where a method has thrown q: the class by its name, the cell, what was written, the world -/
def vx_T (XC : String → State → State → Prop) (st : State) (q : Addr) (t : State) (mc ms : Nat) (free : Addr → Prop) : Prop :=
  ∃ (E : String) (ce : Cell) (L : List Loc), XC E st t ∧ t.heap[q]? = some ce ∧ ce.vm = .none ∧ st.vm.findClass E = some ce.cls ∧ st.WarmedH t.vm ∧ st.sameButNew ({ t with vm := st.vm } : State) L mc ms ∧ ∀ z ∈ L, free z.base
def vx_Q (Qc : Array Value → State → Outcome → State → Prop) (XC : String → State → State → Prop) (mc ms : Nat) (free : Addr → Prop) : Array Value → State → Outcome → State → Prop := fun a st o t =>
  (Qc a st o t ∧ ∃ L, FrameEnd st o t L mc ms ∧ ∀ q ∈ L, free q.base) ∨ ∃ q, o = .threw q ∧ vx_T XC st q t mc ms free
/-- a callee that returns or throws -/
def vx_Met (l : Launch) (y : MethodName) (ws : List Cond) (rm : Room) (Pc : Array Value → State → Prop) (Qc : Array Value → State → Outcome → State → Prop) (XC : String → State → State → Prop) (mc ms : Nat) (free : Addr → Prop) : Prop :=
  MetFree l y (headSpec ws rm) Pc (fun _ _ _ _ _ => True) (vx_Q Qc XC mc ms free)
def vx_Post (XC : String → State → State → Prop) (mc ms : Nat) (free : Addr → Prop) : Pt → Array Value → Addr → Pt → Prop := fun A a q B =>
  ∃ (g : JFrame) (mk : MethodId) (t : State) (L : List Loc) (E : String) (ce : Cell), B.U.heap = t.heap ∧ B.U.vm = t.vm ∧ XC E (A.U.calling g mk a) t ∧ t.heap[q]? = some ce ∧ ce.vm = .none ∧ A.U.vm.findClass E = some ce.cls ∧ B.locs = A.locs ++ L ∧ (∀ z ∈ L, free z.base) ∧ B.cells = A.cells + mc ∧ B.slots = A.slots + ms
def vx_Back (l : Launch) (R : Room) (p : Program) (e : Env) (below : List Frame) (s : State) (sargs : Array Value) (y : MethodName) (len W9 : Nat)
    (Pre : Pt → Array Value → Prop) (Post : Pt → Array Value → Option Value → Pt → Prop) (PostX : Pt → Array Value → Addr → Pt → Prop) : Prop :=
  ∀ (m : MethodId) (meth : Method) (c : Code) (A : Pt) (g : JFrame) (ig : Instr) (mk : MethodId) (a : Array Value),
    Stand p l e R s m sargs below meth c A.U A.locs A.cells A.slots → g.method = m → g.locals.size = c.maxLocals → decode c.code g.pc = .ok (ig, len) →
    2 * g.monitorRoom + (g.stack.map fun v => v.category).sum ≤ W9 → A.U.methodNamed? y = some mk → Pre A a →
    (∃ (v : Option Value) (B : Pt), Stand p l e R s m sargs below meth c B.U B.locs B.cells B.slots ∧ Post A a v B ∧
      Steps p.tables e below (doInvoke e (A.U.setTop g) [] mk a).1 (B.U.setTop { g with pc := g.pc + len, stack := v.toList ++ g.stack })) ∨
    (∃ (q : Addr) (B : Pt), Stand p l e R s m sargs below meth c B.U B.locs B.cells B.slots ∧ PostX A a q B ∧
      Steps p.tables e below (doInvoke e (A.U.setTop g) [] mk a).1 ((B.U.setTop g).pushFrame (.throwing q)))
section Payer
variable {l : Launch} {R : Room} {p : Program} {e : Env} {below : List Frame} {s : State} {sargs : Array Value} {y : MethodName} {len W9 : Nat}
theorem vx_back {ws : List Cond} {rm : Room} {Pc : Array Value → State → Prop} {Qc : Array Value → State → Outcome → State → Prop} {XC : String → State → State → Prop} {mc ms : Nat} {free : Addr → Prop} {bytes : ByteArray} {maxL : Nat} {ret : Option FieldType}
    (hM : vx_Met l y ws rm Pc Qc XC mc ms free) (hblind : FrameBlind Pc) (hrc : rm.cells = mc) (hrs : rm.slots = ms)
    (hframes : rm.frames + 1 ≤ R.frames) (hlocals : W9 + (maxL + 11) + rm.locals ≤ R.locals)
    (hws : ∀ w ∈ ws, ∀ a' U, s.WarmedH U.vm → w.before a' U = true) (hcode : Cond.code y bytes maxL ret ∈ ws) (hinit : ∀ a' U, s.WarmedH U.vm → (Cond.initialized y.cls).before a' U = true) :
    vx_Back l R p e below s sargs y len W9 (PreOf R mc ms Pc) (PostOf Qc mc ms free) (vx_Post XC mc ms free) := by
  intro m meth c A g ig mk a X hg hsize hdg hW hn hp
  have h1 : (headSpec ws rm).pre.before a A.U = true := atoms_intro fun w hw => hws w hw _ _ X.warmed
  have h2 : (Cond.code y bytes maxL ret).before a A.U = true := hws _ hcode _ _ X.warmed
  have h3 : (Cond.initialized y.cls).before a A.U = true := hinit _ _ X.warmed
  have h4 : A.cells + (headSpec ws rm).room.cells ≤ R.cells := by rw [show (headSpec ws rm).room.cells = mc from hrc]; exact hp.1
  have h5 : A.slots + (headSpec ws rm).room.slots ≤ R.slots := by rw [show (headSpec ws rm).room.slots = ms from hrs]; exact hp.2.1
  have hPc : Pc a (A.U.calling g mk a) := hblind _ _ _ _ hp.2.2
  obtain ⟨U, Ls, c0, s0⟩ := A
  dsimp only [Pt.U, Pt.locs, Pt.cells, Pt.slots] at h1 h2 h3 h4 h5 X hn hPc ⊢
  obtain ⟨methY, cY, hmY, hcY, -, hlY, -, -, -, -⟩ := Cond.code_spec hn h2
  obtain ⟨kY, hkY, -⟩ := className_of_methodNamed hn
  have hinitY : kY.init = .initialized := Cond.initialized_spec (findClass_of_methodNamed hn) hkY h3
  have h : At U g.method c below := by rw [hg]; exact X.here
  have hlocals9 : W9 + (maxL + 11) + (headSpec ws rm).room.locals ≤ R.locals := hlocals
  have happ : (headSpec ws rm).appliesLoose y e.platform (U.calling g mk a) = true :=
    Spec.appliesLoose_calling (g := g) h hdg hn hkY hinitY
      (X.room_calling (g := g) (R' := (headSpec ws rm).room) hsize hmY hcY hframes (by rw [hlY]; omega) h4 h5) h1
  obtain ⟨mid, hmid⟩ := h.above
  have hfr : (U.setTop g).frames = (.java g :: mid) ++ below := by rw [State.frames_setTop' g h.top, hmid]; rfl
  obtain ⟨o, s₂, hsteps, -, hend, hq⟩ := Steps.callFree hM p X.admits X.cas X.clock (acts := []) hfr happ hPc trivial
  have hq' : vx_Q Qc XC mc ms free a (U.calling g mk a) o s₂ := hq
  rw [State.frames_setTop' g h.top] at hend
  obtain ⟨g₀, hg0⟩ := Option.isSome_iff_exists.mp h.top
  obtain ⟨r, hr⟩ := State.topJava?_eq_some.mp hg0
  have hr' : (({ U with heap := s₂.heap, slotsUsed := s₂.slotsUsed } : State).setVm s₂.vm).frames = .java g₀ :: r := hr
  rcases hq' with ⟨hqc, L, hfe, hL⟩ | ⟨q, rfl, E, ce, L, hx, hce, hcv, hcl, hW₂, hsm, hL⟩
  · obtain ⟨⟨v, rfl⟩, hW₂, e2, q2, q3, q4, q5, q6⟩ := id hfe
    have e3 : s₂ = ({ (U.calling g mk a).setFrames s₂.frames with heap := s₂.heap, slotsUsed := s₂.slotsUsed } : State).setVm s₂.vm := by
      have : s₂ = ({ s₂ with vm := (U.calling g mk a).vm } : State).setVm s₂.vm := rfl
      rw [e2] at this
      exact this
    obtain ⟨c₂, i₂, len₂, hc₂, hd₂, hf₂⟩ := hend
    have hW' : U.WarmedH s₂.vm := hW₂
    have hcc : c₂ = c := by
      have h1 : s₂.code? g.method = U.code? g.method := by
        rw [State.code?_eq, State.code?_eq, hW'.alike.method?]
      exact Option.some.inj (hc₂.symm.trans (h1.trans h.code))
    subst hcc
    have hlen : len₂ = len := by rw [hdg] at hd₂; cases hd₂; rfl
    subst hlen
    have hs₂ : s₂ = (({ U with heap := s₂.heap, slotsUsed := s₂.slotsUsed } : State).setVm s₂.vm).setTop { g with pc := g.pc + len₂, stack := v.toList ++ g.stack } := by
      refine e3.trans ?_
      rw [hf₂, State.calling_eq h.top, State.setFrames_setFrames, State.setTop_of_frames _ hr', hr]
      rfl
    have hsame : U.sameButNew ({ U with heap := s₂.heap, slotsUsed := s₂.slotsUsed } : State) L mc ms := by
      refine ⟨?_, q2, q3, q4, q5, q6⟩
      obtain ⟨t, ht, -⟩ := State.frames_cons hr
      show ({ U with heap := s₂.heap, slotsUsed := s₂.slotsUsed } : State) = { U.setFrames U.frames with heap := s₂.heap, slotsUsed := s₂.slotsUsed }
      rw [State.setFrames_self ht]
    subst hg
    refine Or.inl ⟨v, ⟨(({ U with heap := s₂.heap, slotsUsed := s₂.slotsUsed } : State).setVm s₂.vm), Ls ++ L, c0 + mc, s0 + ms⟩,
      ⟨X.admits, X.cas, X.clock, X.frames, X.room, X.hears, X.method, X.code, (X.here.setHeapUsed s₂.heap s₂.slotsUsed).setVm hW'.alike, X.tail, State.WarmedH.trans X.warmed hW', X.limits, X.bytes, X.same.trans (hsame.setVm s.vm)⟩,
      ⟨g, mk, s₂, L, rfl, rfl, hqc, rfl, hL, rfl, rfl⟩, ?_⟩
    show Steps p.tables e below _ ((({ U with heap := s₂.heap, slotsUsed := s₂.slotsUsed } : State).setVm s₂.vm).setTop { g with pc := g.pc + len₂, stack := v.toList ++ g.stack })
    rw [← hs₂]
    exact hsteps
  · obtain ⟨e2, q2, q3, q4, q5, q6⟩ := id hsm
    have e3 : s₂ = ({ (U.calling g mk a).setFrames s₂.frames with heap := s₂.heap, slotsUsed := s₂.slotsUsed } : State).setVm s₂.vm := by
      have : s₂ = ({ s₂ with vm := (U.calling g mk a).vm } : State).setVm s₂.vm := rfl
      rw [e2] at this
      exact this
    have hf₂ : s₂.frames = .throwing q :: .java g :: U.frames.tail := hend
    have hW' : U.WarmedH s₂.vm := hW₂
    have hs₂ : s₂ = ((({ U with heap := s₂.heap, slotsUsed := s₂.slotsUsed } : State).setVm s₂.vm).setTop g).pushFrame (.throwing q) := by
      refine e3.trans ?_
      rw [hf₂, State.calling_eq h.top, State.setFrames_setFrames, State.pushFrame, State.frames_setTop _ hr', State.setTop_of_frames _ hr', State.setFrames_setFrames, hr]
      rfl
    have hsame : U.sameButNew ({ U with heap := s₂.heap, slotsUsed := s₂.slotsUsed } : State) L mc ms := by
      refine ⟨?_, q2, q3, q4, q5, q6⟩
      obtain ⟨t, ht, -⟩ := State.frames_cons hr
      show ({ U with heap := s₂.heap, slotsUsed := s₂.slotsUsed } : State) = { U.setFrames U.frames with heap := s₂.heap, slotsUsed := s₂.slotsUsed }
      rw [State.setFrames_self ht]
    subst hg
    refine Or.inr ⟨q, ⟨(({ U with heap := s₂.heap, slotsUsed := s₂.slotsUsed } : State).setVm s₂.vm), Ls ++ L, c0 + mc, s0 + ms⟩,
      ⟨X.admits, X.cas, X.clock, X.frames, X.room, X.hears, X.method, X.code, (X.here.setHeapUsed s₂.heap s₂.slotsUsed).setVm hW'.alike, X.tail, State.WarmedH.trans X.warmed hW', X.limits, X.bytes, X.same.trans (hsame.setVm s.vm)⟩,
      ⟨g, mk, s₂, L, E, ce, rfl, rfl, hx, hce, hcv, hcl, rfl, hL, rfl, rfl⟩, ?_⟩
    show Steps p.tables e below _ (((({ U with heap := s₂.heap, slotsUsed := s₂.slotsUsed } : State).setVm s₂.vm).setTop g).pushFrame (.throwing q))
    rw [← hs₂]
    exact hsteps
end Payer
section Calls
variable {p : Program} {l : Launch} {e : Env} {R : Room} {s : State} {m : MethodId} {args : Array Value} {below : List Frame} {meth : Method} {c : Code} {T : State} {locs : List Loc} {cells slots : Nat}
theorem vx_callV (X : Stand p l e R s m args below meth c T locs cells slots) (hexec : p.tables.exec = Jvm.exec) {own C : String} {index : Nat} {y : MethodName} {bytes : ByteArray} {maxL : Nat} {ret : Option FieldType}
    (hown : s.vm.findClass own = some m.cls) (hlink : (Cond.methodLink own index y).before args s = true) (hinst : (Cond.instanceMethod y).before args s = true) (hsel : (Cond.selects C y y).before args s = true)
    (hcode : (Cond.code y bytes maxL ret).before args s = true) (hy : y.cls ≠ "java/lang/invoke/MethodHandle" ∧ y.cls ≠ "java/lang/invoke/VarHandle")
    {W9 : Nat} {Pre : Pt → Array Value → Prop} {Post : Pt → Array Value → Option Value → Pt → Prop} {PostX : Pt → Array Value → Addr → Pt → Prop} (hK : vx_Back l R p e below s args y 3 W9 Pre Post PostX)
    {b : Addr} {cellB : Cell} (hcell : T.heap[b]? = some cellB) (hobj : cellB.vm.isStatics = false) (hcls : s.vm.findClass C = some cellB.cls)
    {g : JFrame} (hg : g.method = m) (hsize : g.locals.size = c.maxLocals) {argsL rest : List Value} (hlen : ∀ sig, parseMethodDescriptor y.desc = some sig → argsL.length = sig.parameters.length)
    (hstack : g.stack = argsL.reverse ++ .ref b :: rest) (hW : 2 * g.monitorRoom + (rest.map fun v => v.category).sum ≤ W9) (hdg : decode c.code g.pc = .ok (.invokevirtual index, 3))
    (hpre : ∀ vm₁, s.WarmedH vm₁ → Pre ⟨T.setVm vm₁, locs, cells, slots⟩ (Value.ref b :: argsL).toArray) :
    (∃ (v : Option Value) (vm₁ : Vm) (B : Pt), s.WarmedH vm₁ ∧ Stand p l e R s m args below meth c B.U B.locs B.cells B.slots ∧ Post ⟨T.setVm vm₁, locs, cells, slots⟩ (Value.ref b :: argsL).toArray v B ∧
      ∀ target, Steps p.tables e below (B.U.setTop { g with pc := g.pc + 3, stack := v.toList ++ rest }) target → Steps p.tables e below (T.setTop g) target) ∨
    (∃ (q : Addr) (vm₁ : Vm) (B : Pt), s.WarmedH vm₁ ∧ Stand p l e R s m args below meth c B.U B.locs B.cells B.slots ∧ PostX ⟨T.setVm vm₁, locs, cells, slots⟩ (Value.ref b :: argsL).toArray q B ∧
      Steps p.tables e below (T.setTop g) ((B.U.setTop { g with stack := rest }).pushFrame (.throwing q))) := by
  obtain ⟨mk, methM, hnamed, hmethM, hstM, habM⟩ := Cond.instanceMethod_spec hinst
  obtain ⟨methM', cM, hmethM', -, -, -, -, -, -, hsigM⟩ := Cond.code_spec hnamed hcode
  cases hmethM.symm.trans hmethM'
  obtain ⟨c2, r2, m2, q1, q2, q3, q4, kP, hkP, hkPi⟩ := Cond.selects_spec hsel
  cases hcls.symm.trans q1
  cases (State.methodFound?_of_named hnamed hy).symm.trans q2
  cases hnamed.symm.trans q3
  have hselP : selectMethod e.platform s.vm cellB.cls mk = .method mk := by rw [Launch.admits_selectMethod X.admits]; exact q4
  obtain ⟨vm₁, X₁, hstep₁⟩ := X.invokevirtual hexec hown hlink hnamed hmethM hstM hkP hkPi hy (a := b) (cell := cellB) hcell
    (fun z h => by rw [h] at hobj; cases hobj) hselP hmethM habM hkP hkPi (g := g) hg (argsL := argsL) (rest := rest) (hlen _ hsigM) hstack hdg
  rcases hK m meth c ⟨T.setVm vm₁, locs, cells, slots⟩ { g with stack := rest } (.invokevirtual index) mk (Value.ref b :: argsL).toArray X₁ hg hsize hdg hW (X₁.named hnamed) (hpre vm₁ X₁.warmed) with ⟨v, B, X', hpost, hsteps⟩ | ⟨q, B, X', hpost, hsteps⟩
  · exact Or.inl ⟨v, vm₁, B, X₁.warmed, X', hpost, fun target h => hstep₁ _ fun acts => by rw [doInvoke_state]; exact hsteps.trans h⟩
  · exact Or.inr ⟨q, vm₁, B, X₁.warmed, X', hpost, hstep₁ _ fun acts => by rw [doInvoke_state]; exact hsteps⟩
theorem vx_callS (X : Stand p l e R s m args below meth c T locs cells slots) (hexec : p.tables.exec = Jvm.exec) {own : String} {index : Nat} {y : MethodName} {bytes : ByteArray} {maxL : Nat} {ret : Option FieldType}
    (hown : s.vm.findClass own = some m.cls) (hlink : (Cond.methodLink own index y).before args s = true) (hstat : (Cond.static y).before args s = true) (hinit : (Cond.initialized y.cls).before args s = true)
    (hcode : (Cond.code y bytes maxL ret).before args s = true) (hy : y.cls ≠ "java/lang/invoke/MethodHandle" ∧ y.cls ≠ "java/lang/invoke/VarHandle")
    {W9 : Nat} {Pre : Pt → Array Value → Prop} {Post : Pt → Array Value → Option Value → Pt → Prop} {PostX : Pt → Array Value → Addr → Pt → Prop} (hK : vx_Back l R p e below s args y 3 W9 Pre Post PostX)
    {g : JFrame} (hg : g.method = m) (hsize : g.locals.size = c.maxLocals) {argsL rest : List Value} (hlen : ∀ sig, parseMethodDescriptor y.desc = some sig → argsL.length = sig.parameters.length)
    (hstack : g.stack = argsL.reverse ++ rest) (hW : 2 * g.monitorRoom + (rest.map fun v => v.category).sum ≤ W9) (hdg : decode c.code g.pc = .ok (.invokestatic index, 3))
    (hpre : ∀ vm₁, s.WarmedH vm₁ → Pre ⟨T.setVm vm₁, locs, cells, slots⟩ argsL.toArray) :
    (∃ (v : Option Value) (vm₁ : Vm) (B : Pt), s.WarmedH vm₁ ∧ Stand p l e R s m args below meth c B.U B.locs B.cells B.slots ∧ Post ⟨T.setVm vm₁, locs, cells, slots⟩ argsL.toArray v B ∧
      ∀ target, Steps p.tables e below (B.U.setTop { g with pc := g.pc + 3, stack := v.toList ++ rest }) target → Steps p.tables e below (T.setTop g) target) ∨
    (∃ (q : Addr) (vm₁ : Vm) (B : Pt), s.WarmedH vm₁ ∧ Stand p l e R s m args below meth c B.U B.locs B.cells B.slots ∧ PostX ⟨T.setVm vm₁, locs, cells, slots⟩ argsL.toArray q B ∧
      Steps p.tables e below (T.setTop g) ((B.U.setTop { g with stack := rest }).pushFrame (.throwing q))) := by
  obtain ⟨mk, hnamed⟩ := Cond.code_named hcode
  obtain ⟨methM, cM, hmethM, -, -, -, -, -, -, hsigM⟩ := Cond.code_spec hnamed hcode
  have hstatic : methM.isStatic = true := Cond.static_spec hnamed hmethM hstat
  obtain ⟨kP, hkP, -⟩ := className_of_methodNamed hnamed
  have hinitP : kP.init = .initialized := Cond.initialized_spec (findClass_of_methodNamed hnamed) hkP hinit
  obtain ⟨vm₁, X₁, hstep₁⟩ := X.invokestatic hexec hown hlink hnamed hmethM hstatic hkP hinitP hy (g := g) hg (argsL := argsL) (rest := rest) (hlen _ hsigM) hstack hdg
  rcases hK m meth c ⟨T.setVm vm₁, locs, cells, slots⟩ { g with stack := rest } (.invokestatic index) mk argsL.toArray X₁ hg hsize hdg hW (X₁.named hnamed) (hpre vm₁ X₁.warmed) with ⟨v, B, X', hpost, hsteps⟩ | ⟨q, B, X', hpost, hsteps⟩
  · exact Or.inl ⟨v, vm₁, B, X₁.warmed, X', hpost, fun target h => hstep₁ _ fun acts => by rw [doInvoke_state]; exact hsteps.trans h⟩
  · exact Or.inr ⟨q, vm₁, B, X₁.warmed, X', hpost, hstep₁ _ fun acts => by rw [doInvoke_state]; exact hsteps⟩
end Calls
theorem vx_cls {s : State} {T : State} {vm₁ : Vm} {E : String} {k : ClassId} (hW : s.WarmedH vm₁) (h : (T.setVm vm₁).vm.findClass E = some k) : s.vm.findClass E = some k := by
  have h1 : vm₁.findClass E = some k := h
  rw [hW.alike.findClass] at h1
  exact h1
/-- the method's frame g, with q thrown over it -/
def vx_W (p : Program) (l : Launch) (e : Env) (R : Room) (s : State) (m : MethodId) (args : Array Value) (below : List Frame) (meth : Method) (c : Code) (H : Heap) (locs : List Loc) (cells slots : Nat) (Q : State → Prop) (g : JFrame) (q : Addr) : Prop :=
  ∀ T : State, T.heap = H → Stand p l e R s m args below meth c T locs cells slots → ∃ t, Steps p.tables e below ((T.setTop g).pushFrame (.throwing q)) t ∧ Q t
def vx_Run (p : Program) (l : Launch) (e : Env) (R : Room) (s : State) (m : MethodId) (args : Array Value) (below : List Frame) (meth : Method) (c : Code) (H : Heap) (locs : List Loc) (cells slots mc ms : Nat) (g : JFrame) (rest : List Value) (Qa : State → Outcome → State → Prop) (XC : String → State → State → Prop) (free : Addr → Prop) : Prop :=
  ∀ T : State, T.heap = H → Stand p l e R s m args below meth c T locs cells slots →
    (∃ (v : Option Value) (st₀ t T' : State) (L : List Loc), st₀.heap = H ∧ Stand p l e R s m args below meth c T' (locs ++ L) (cells + mc) (slots + ms) ∧ (∀ q ∈ L, free q.base) ∧ T'.heap = t.heap ∧ T'.vm = t.vm ∧ Qa st₀ (.returned v) t ∧
      Goes p e below T g T' { g with pc := g.pc + 3, stack := v.toList ++ rest }) ∨
    (∃ (q : Addr) (st₀ t T' : State) (L : List Loc) (E : String) (ce : Cell), st₀.heap = H ∧ Stand p l e R s m args below meth c T' (locs ++ L) (cells + mc) (slots + ms) ∧ (∀ z ∈ L, free z.base) ∧ T'.heap = t.heap ∧ T'.vm = t.vm ∧ XC E st₀ t ∧ t.heap[q]? = some ce ∧ ce.vm = .none ∧ s.vm.findClass E = some ce.cls ∧
      Steps p.tables e below (T.setTop g) ((T'.setTop { g with stack := rest }).pushFrame (.throwing q)))
def vx_X {S : Type} (px : S → Prop) (B : String → S → State → Prop) (A : Nat → Prop) : String → State → State → Prop := fun E st t => ∃ u : S, px u ∧ B E u t ∧ va_F A st t
section Runs
variable {p : Program} {l : Launch} {e : Env} {R : Room} {s : State} {m : MethodId} {args : Array Value} {below : List Frame} {meth : Method} {c : Code} {H : Heap} {locs : List Loc} {cells slots : Nat}
variable {y : MethodName} {bytes cc : ByteArray} {maxL nL mc ms n index : Nat} {ret : Option FieldType} {ws : List Cond} {rm : Room} {Pc : Array Value → State → Prop} {Qc : Array Value → State → Outcome → State → Prop} {XC : String → State → State → Prop} {free : Addr → Prop} {Ts : List Cond} {own C : String} {b : Addr} {As rest : List Value} {g : JFrame}
theorem vx_callBack (cb : CallB R s args own index y bytes maxL ret ws rm mc ms n) (hM : vx_Met l y ws rm Pc Qc XC mc ms free) (hbl : FrameBlind Pc) : vx_Back l R p e below s args y 3 8 (PreOf R mc ms Pc) (PostOf Qc mc ms free) (vx_Post XC mc ms free) := by
  obtain ⟨hrc, hrs, hfr, hlo, hws, hcw, -, hini, -⟩ := cb
  exact vx_back (bytes := bytes) (maxL := maxL) (ret := ret) hM hbl hrc hrs hfr hlo hws hcw (fun a' U hW => word_at hW (Or.inl (by first | rfl | simp [Cond.onTables, Cond.keeps, Cond.steady])) hini)
theorem vx_runV (S : CallFix p m c cc nL s args Ts own) (hM : vx_Met l y ws rm Pc Qc XC mc ms free) (cw : CallW R s args own C index y bytes maxL ret ws rm mc ms n) (hp : PreV s H C b Pc As)
    (hg : g.method = m) (hn : As.length = n) (hsize : g.locals.size = nL) (hstack : g.stack = As.reverse ++ .ref b :: rest) (hW : 2 * g.monitorRoom + (rest.map fun v => v.category).sum ≤ 8) (hdg : decode cc g.pc = .ok (.invokevirtual index, 3)) (hf : cells + mc ≤ R.cells ∧ slots + ms ≤ R.slots) :
    vx_Run p l e R s m args below meth c H locs cells slots mc ms g rest (Qc (Value.ref b :: As).toArray) XC free := by
  have hK : vx_Back l R p e below s args y 3 8 (PreOf R mc ms Pc) (PostOf Qc mc ms free) (vx_Post XC mc ms free) := vx_callBack cw.1 hM hp.1
  obtain ⟨⟨-, -, -, -, -, -, hcode, -, hy, hlen, hl⟩, hin, hse⟩ := cw
  obtain ⟨hx, hb, hml, ho, -⟩ := S
  obtain ⟨-, ⟨cellB, hcB, hoB, hclB⟩, hPc⟩ := hp
  intro T hT X
  rcases vx_callV X hx (C := C) (bytes := bytes) (maxL := maxL) (ret := ret) ho hl hin hse hcode hy hK (by rw [hT]; exact hcB) hoB hclB hg (hsize.trans hml.symm) (argsL := As) (rest := rest) (fun sig h => hn.trans (hlen sig h)) hstack hW (by rw [hb]; exact hdg)
    (fun vm₁ hW₁ => ⟨hf.1, hf.2, hPc (T.setVm vm₁) hT hW₁⟩) with ⟨v, vm₁, ⟨U', l2, c2, s2⟩, hW₁, X', ⟨g', mk, t, L, e1, e2, hq, h1, hL, h2, h3⟩, st⟩ | ⟨q, vm₁, ⟨U', l2, c2, s2⟩, hW₁, X', ⟨g', mk, t, L, E, ce, e1, e2, hq, hce, hcv, hcl, h1, hL, h2, h3⟩, st⟩
  · dsimp only [Pt.U, Pt.locs, Pt.cells, Pt.slots] at X' e1 e2 h1 h2 h3 st
    subst h1; subst h2; subst h3
    exact Or.inl ⟨v, (T.setVm vm₁).calling g' mk (Value.ref b :: As).toArray, t, U', L, hT, X', hL, e1, e2, hq, st⟩
  · dsimp only [Pt.U, Pt.locs, Pt.cells, Pt.slots] at X' e1 e2 h1 h2 h3 st hcl
    subst h1; subst h2; subst h3
    exact Or.inr ⟨q, (T.setVm vm₁).calling g' mk (Value.ref b :: As).toArray, t, U', L, E, ce, hT, X', hL, e1, e2, hq, hce, hcv, vx_cls hW₁ hcl, st⟩
theorem vx_runS (S : CallFix p m c cc nL s args Ts own) (hM : vx_Met l y ws rm Pc Qc XC mc ms free) (cw : CallB R s args own index y bytes maxL ret ws rm mc ms n ∧ (Cond.static y).before args s = true) (hp : PreS s H Pc As)
    (hg : g.method = m) (hn : As.length = n) (hsize : g.locals.size = nL) (hstack : g.stack = As.reverse ++ rest) (hW : 2 * g.monitorRoom + (rest.map fun v => v.category).sum ≤ 8) (hdg : decode cc g.pc = .ok (.invokestatic index, 3)) (hf : cells + mc ≤ R.cells ∧ slots + ms ≤ R.slots) :
    vx_Run p l e R s m args below meth c H locs cells slots mc ms g rest (Qc As.toArray) XC free := by
  have hK : vx_Back l R p e below s args y 3 8 (PreOf R mc ms Pc) (PostOf Qc mc ms free) (vx_Post XC mc ms free) := vx_callBack cw.1 hM hp.1
  obtain ⟨⟨-, -, -, -, -, -, hcode, hini, hy, hlen, hl⟩, hstt⟩ := cw
  obtain ⟨hx, hb, hml, ho, -⟩ := S
  intro T hT X
  rcases vx_callS X hx (bytes := bytes) (maxL := maxL) (ret := ret) ho hl hstt hini hcode hy hK hg (hsize.trans hml.symm) (argsL := As) (rest := rest) (fun sig h => hn.trans (hlen sig h)) hstack hW (by rw [hb]; exact hdg)
    (fun vm₁ hW₁ => ⟨hf.1, hf.2, hp.2 (T.setVm vm₁) hT hW₁⟩) with ⟨v, vm₁, ⟨U', l2, c2, s2⟩, hW₁, X', ⟨g', mk, t, L, e1, e2, hq, h1, hL, h2, h3⟩, st⟩ | ⟨q, vm₁, ⟨U', l2, c2, s2⟩, hW₁, X', ⟨g', mk, t, L, E, ce, e1, e2, hq, hce, hcv, hcl, h1, hL, h2, h3⟩, st⟩
  · dsimp only [Pt.U, Pt.locs, Pt.cells, Pt.slots] at X' e1 e2 h1 h2 h3 st
    subst h1; subst h2; subst h3
    exact Or.inl ⟨v, (T.setVm vm₁).calling g' mk As.toArray, t, U', L, hT, X', hL, e1, e2, hq, st⟩
  · dsimp only [Pt.U, Pt.locs, Pt.cells, Pt.slots] at X' e1 e2 h1 h2 h3 st hcl
    subst h1; subst h2; subst h3
    exact Or.inr ⟨q, (T.setVm vm₁).calling g' mk As.toArray, t, U', L, E, ce, hT, X', hL, e1, e2, hq, hce, hcv, vx_cls hW₁ hcl, st⟩
end Runs
section Rows
variable {p : Program} {l : Launch} {e : Env} {R : Room} {s : State} {m : MethodId} {args : Array Value} {below : List Frame} {meth : Method} {c : Code} {H : Heap} {locs : List Loc} {cells slots : Nat} {Q : State → Prop}
variable {mc ms : Nat} {free : Addr → Prop} {A0 A1 : Nat → Prop} {H0 : Heap} {a : Array Value} {pc : Nat} {ls : Array Slot} {st0 rest : List Value}
theorem vx_keep {st₀ t T' : State} {L : List Loc} (h0 : st₀.heap = H) (e1 : T'.heap = t.heap) (hS : va_S A0 H0 H locs) (hA : ∀ q, q < H.size → A1 q → A0 q) (hf : ∀ q, free q → A0 q) (hL : ∀ q ∈ L, free q.base) (hF : va_F A1 st₀ t) :
    H.size ≤ T'.heap.size ∧ (∀ q : Nat, q < H.size → ¬ A1 q → T'.heap[q]? = H[q]?) ∧ va_S A0 H0 T'.heap (locs ++ L) := by
  obtain ⟨hz, hk⟩ := hF
  rw [h0] at hz hk
  exact ⟨by rw [e1]; exact hz, fun q h1 h2 => by rw [e1]; exact hk q h1 h2,
    ⟨Nat.le_trans hS.1 (by rw [e1]; exact hz), fun q h1 h2 => by rw [e1, hk q (Nat.lt_of_lt_of_le h1 hS.1) (fun z => h2 (hA q (Nat.lt_of_lt_of_le h1 hS.1) z))]; exact hS.2.1 q h1 h2, fun q hq => by
      rcases List.mem_append.mp hq with h | h
      · exact hS.2.2 q h
      · exact hf _ (hL q h)⟩⟩
theorem vx_calli {S SX : Type} {post : Int32 → S → Prop} {px : SX → Prop} {B : S → State → Prop} {BX : String → SX → State → Prop} {AX : Nat → Prop} (hr : vx_Run p l e R s m args below meth c H locs cells slots mc ms (F0 m pc ls st0) rest (va_Qi post B A1 a) (vx_X px BX AX) free) (hS : va_S A0 H0 H locs) (hA : ∀ q, q < H.size → A1 q → A0 q) (hf : ∀ q, free q → A0 q) (hAX : ∀ q, q < H.size → AX q → A0 q)
    (kx : ∀ (E : String) (ce : Cell) (q9 : Addr) (u : SX) (t : State) (H1 : Heap) (locs1 : List Loc), t.heap = H1 → s.vm.Alike t.vm → px u → BX E u t → H.size ≤ H1.size → (∀ q : Nat, q < H.size → ¬ AX q → H1[q]? = H[q]?) → va_S A0 H0 H1 locs1 → H1[q9]? = some ce → ce.vm = .none → s.vm.findClass E = some ce.cls → vx_W p l e R s m args below meth c H1 locs1 (cells + mc) (slots + ms) Q (F0 m pc ls rest) q9)
    (kk : ∀ (r : Int32) (u : S) (t : State) (H1 : Heap) (locs1 : List Loc), t.heap = H1 → s.vm.Alike t.vm → post r u → B u t → H.size ≤ H1.size → (∀ q : Nat, q < H.size → ¬ A1 q → H1[q]? = H[q]?) → va_S A0 H0 H1 locs1 → W p l e R s m args below meth c H1 locs1 (cells + mc) (slots + ms) Q (F0 m (pc + 3) ls (.int r :: rest))) : W p l e R s m args below meth c H locs cells slots Q (F0 m pc ls st0) := by
  intro T hT X
  rcases hr T hT X with ⟨v, st₀, t, T', L, h0, X', hL, e1, e2, ⟨⟨r, u, hv, hp, hb⟩, hF⟩, st⟩ | ⟨q, st₀, t, T', L, E, ce, h0, X', hL, e1, e2, ⟨u, hp, hb, hF⟩, hce, hcv, hcl, st⟩
  · cases hv
    obtain ⟨k1, k2, k3⟩ := vx_keep h0 e1 hS hA hf hL hF
    obtain ⟨t2, a1, b1⟩ := kk r u t T'.heap (locs ++ L) e1.symm (by rw [← e2]; exact X'.warmed.alike) hp hb k1 k2 k3 T' rfl X'
    exact ⟨t2, st t2 a1, b1⟩
  · obtain ⟨k1, k2, k3⟩ := vx_keep h0 e1 hS hAX hf hL hF
    obtain ⟨t2, a1, b1⟩ := kx E ce q u t T'.heap (locs ++ L) e1.symm (by rw [← e2]; exact X'.warmed.alike) hp hb k1 k2 k3 (by rw [e1]; exact hce) hcv hcl T' rfl X'
    exact ⟨t2, st.trans a1, b1⟩
theorem vx_calll {S SX : Type} {post : Int64 → S → Prop} {px : SX → Prop} {B : S → State → Prop} {BX : String → SX → State → Prop} {AX : Nat → Prop} (hr : vx_Run p l e R s m args below meth c H locs cells slots mc ms (F0 m pc ls st0) rest (va_Ql post B A1 a) (vx_X px BX AX) free) (hS : va_S A0 H0 H locs) (hA : ∀ q, q < H.size → A1 q → A0 q) (hf : ∀ q, free q → A0 q) (hAX : ∀ q, q < H.size → AX q → A0 q)
    (kx : ∀ (E : String) (ce : Cell) (q9 : Addr) (u : SX) (t : State) (H1 : Heap) (locs1 : List Loc), t.heap = H1 → s.vm.Alike t.vm → px u → BX E u t → H.size ≤ H1.size → (∀ q : Nat, q < H.size → ¬ AX q → H1[q]? = H[q]?) → va_S A0 H0 H1 locs1 → H1[q9]? = some ce → ce.vm = .none → s.vm.findClass E = some ce.cls → vx_W p l e R s m args below meth c H1 locs1 (cells + mc) (slots + ms) Q (F0 m pc ls rest) q9)
    (kk : ∀ (r : Int64) (u : S) (t : State) (H1 : Heap) (locs1 : List Loc), t.heap = H1 → s.vm.Alike t.vm → post r u → B u t → H.size ≤ H1.size → (∀ q : Nat, q < H.size → ¬ A1 q → H1[q]? = H[q]?) → va_S A0 H0 H1 locs1 → W p l e R s m args below meth c H1 locs1 (cells + mc) (slots + ms) Q (F0 m (pc + 3) ls (.long r :: rest))) : W p l e R s m args below meth c H locs cells slots Q (F0 m pc ls st0) := by
  intro T hT X
  rcases hr T hT X with ⟨v, st₀, t, T', L, h0, X', hL, e1, e2, ⟨⟨r, u, hv, hp, hb⟩, hF⟩, st⟩ | ⟨q, st₀, t, T', L, E, ce, h0, X', hL, e1, e2, ⟨u, hp, hb, hF⟩, hce, hcv, hcl, st⟩
  · cases hv
    obtain ⟨k1, k2, k3⟩ := vx_keep h0 e1 hS hA hf hL hF
    obtain ⟨t2, a1, b1⟩ := kk r u t T'.heap (locs ++ L) e1.symm (by rw [← e2]; exact X'.warmed.alike) hp hb k1 k2 k3 T' rfl X'
    exact ⟨t2, st t2 a1, b1⟩
  · obtain ⟨k1, k2, k3⟩ := vx_keep h0 e1 hS hAX hf hL hF
    obtain ⟨t2, a1, b1⟩ := kx E ce q u t T'.heap (locs ++ L) e1.symm (by rw [← e2]; exact X'.warmed.alike) hp hb k1 k2 k3 (by rw [e1]; exact hce) hcv hcl T' rfl X'
    exact ⟨t2, st.trans a1, b1⟩
theorem vx_callf {S SX : Type} {post : UInt32 → S → Prop} {px : SX → Prop} {B : S → State → Prop} {BX : String → SX → State → Prop} {AX : Nat → Prop} (hr : vx_Run p l e R s m args below meth c H locs cells slots mc ms (F0 m pc ls st0) rest (va_Qf post B A1 a) (vx_X px BX AX) free) (hS : va_S A0 H0 H locs) (hA : ∀ q, q < H.size → A1 q → A0 q) (hf : ∀ q, free q → A0 q) (hAX : ∀ q, q < H.size → AX q → A0 q)
    (kx : ∀ (E : String) (ce : Cell) (q9 : Addr) (u : SX) (t : State) (H1 : Heap) (locs1 : List Loc), t.heap = H1 → s.vm.Alike t.vm → px u → BX E u t → H.size ≤ H1.size → (∀ q : Nat, q < H.size → ¬ AX q → H1[q]? = H[q]?) → va_S A0 H0 H1 locs1 → H1[q9]? = some ce → ce.vm = .none → s.vm.findClass E = some ce.cls → vx_W p l e R s m args below meth c H1 locs1 (cells + mc) (slots + ms) Q (F0 m pc ls rest) q9)
    (kk : ∀ (r : UInt32) (u : S) (t : State) (H1 : Heap) (locs1 : List Loc), t.heap = H1 → s.vm.Alike t.vm → post r u → B u t → H.size ≤ H1.size → (∀ q : Nat, q < H.size → ¬ A1 q → H1[q]? = H[q]?) → va_S A0 H0 H1 locs1 → W p l e R s m args below meth c H1 locs1 (cells + mc) (slots + ms) Q (F0 m (pc + 3) ls (.float r :: rest))) : W p l e R s m args below meth c H locs cells slots Q (F0 m pc ls st0) := by
  intro T hT X
  rcases hr T hT X with ⟨v, st₀, t, T', L, h0, X', hL, e1, e2, ⟨⟨r, u, hv, hp, hb⟩, hF⟩, st⟩ | ⟨q, st₀, t, T', L, E, ce, h0, X', hL, e1, e2, ⟨u, hp, hb, hF⟩, hce, hcv, hcl, st⟩
  · cases hv
    obtain ⟨k1, k2, k3⟩ := vx_keep h0 e1 hS hA hf hL hF
    obtain ⟨t2, a1, b1⟩ := kk r u t T'.heap (locs ++ L) e1.symm (by rw [← e2]; exact X'.warmed.alike) hp hb k1 k2 k3 T' rfl X'
    exact ⟨t2, st t2 a1, b1⟩
  · obtain ⟨k1, k2, k3⟩ := vx_keep h0 e1 hS hAX hf hL hF
    obtain ⟨t2, a1, b1⟩ := kx E ce q u t T'.heap (locs ++ L) e1.symm (by rw [← e2]; exact X'.warmed.alike) hp hb k1 k2 k3 (by rw [e1]; exact hce) hcv hcl T' rfl X'
    exact ⟨t2, st.trans a1, b1⟩
theorem vx_calld {S SX : Type} {post : UInt64 → S → Prop} {px : SX → Prop} {B : S → State → Prop} {BX : String → SX → State → Prop} {AX : Nat → Prop} (hr : vx_Run p l e R s m args below meth c H locs cells slots mc ms (F0 m pc ls st0) rest (va_Qd post B A1 a) (vx_X px BX AX) free) (hS : va_S A0 H0 H locs) (hA : ∀ q, q < H.size → A1 q → A0 q) (hf : ∀ q, free q → A0 q) (hAX : ∀ q, q < H.size → AX q → A0 q)
    (kx : ∀ (E : String) (ce : Cell) (q9 : Addr) (u : SX) (t : State) (H1 : Heap) (locs1 : List Loc), t.heap = H1 → s.vm.Alike t.vm → px u → BX E u t → H.size ≤ H1.size → (∀ q : Nat, q < H.size → ¬ AX q → H1[q]? = H[q]?) → va_S A0 H0 H1 locs1 → H1[q9]? = some ce → ce.vm = .none → s.vm.findClass E = some ce.cls → vx_W p l e R s m args below meth c H1 locs1 (cells + mc) (slots + ms) Q (F0 m pc ls rest) q9)
    (kk : ∀ (r : UInt64) (u : S) (t : State) (H1 : Heap) (locs1 : List Loc), t.heap = H1 → s.vm.Alike t.vm → post r u → B u t → H.size ≤ H1.size → (∀ q : Nat, q < H.size → ¬ A1 q → H1[q]? = H[q]?) → va_S A0 H0 H1 locs1 → W p l e R s m args below meth c H1 locs1 (cells + mc) (slots + ms) Q (F0 m (pc + 3) ls (.double r :: rest))) : W p l e R s m args below meth c H locs cells slots Q (F0 m pc ls st0) := by
  intro T hT X
  rcases hr T hT X with ⟨v, st₀, t, T', L, h0, X', hL, e1, e2, ⟨⟨r, u, hv, hp, hb⟩, hF⟩, st⟩ | ⟨q, st₀, t, T', L, E, ce, h0, X', hL, e1, e2, ⟨u, hp, hb, hF⟩, hce, hcv, hcl, st⟩
  · cases hv
    obtain ⟨k1, k2, k3⟩ := vx_keep h0 e1 hS hA hf hL hF
    obtain ⟨t2, a1, b1⟩ := kk r u t T'.heap (locs ++ L) e1.symm (by rw [← e2]; exact X'.warmed.alike) hp hb k1 k2 k3 T' rfl X'
    exact ⟨t2, st t2 a1, b1⟩
  · obtain ⟨k1, k2, k3⟩ := vx_keep h0 e1 hS hAX hf hL hF
    obtain ⟨t2, a1, b1⟩ := kx E ce q u t T'.heap (locs ++ L) e1.symm (by rw [← e2]; exact X'.warmed.alike) hp hb k1 k2 k3 (by rw [e1]; exact hce) hcv hcl T' rfl X'
    exact ⟨t2, st.trans a1, b1⟩
theorem vx_callv {S SX : Type} {post : S → Prop} {px : SX → Prop} {B : S → State → Prop} {BX : String → SX → State → Prop} {AX : Nat → Prop} (hr : vx_Run p l e R s m args below meth c H locs cells slots mc ms (F0 m pc ls st0) rest (va_Qv post B A1 a) (vx_X px BX AX) free) (hS : va_S A0 H0 H locs) (hA : ∀ q, q < H.size → A1 q → A0 q) (hf : ∀ q, free q → A0 q) (hAX : ∀ q, q < H.size → AX q → A0 q)
    (kx : ∀ (E : String) (ce : Cell) (q9 : Addr) (u : SX) (t : State) (H1 : Heap) (locs1 : List Loc), t.heap = H1 → s.vm.Alike t.vm → px u → BX E u t → H.size ≤ H1.size → (∀ q : Nat, q < H.size → ¬ AX q → H1[q]? = H[q]?) → va_S A0 H0 H1 locs1 → H1[q9]? = some ce → ce.vm = .none → s.vm.findClass E = some ce.cls → vx_W p l e R s m args below meth c H1 locs1 (cells + mc) (slots + ms) Q (F0 m pc ls rest) q9)
    (kk : ∀ (u : S) (t : State) (H1 : Heap) (locs1 : List Loc), t.heap = H1 → s.vm.Alike t.vm → post u → B u t → H.size ≤ H1.size → (∀ q : Nat, q < H.size → ¬ A1 q → H1[q]? = H[q]?) → va_S A0 H0 H1 locs1 → W p l e R s m args below meth c H1 locs1 (cells + mc) (slots + ms) Q (F0 m (pc + 3) ls (rest))) : W p l e R s m args below meth c H locs cells slots Q (F0 m pc ls st0) := by
  intro T hT X
  rcases hr T hT X with ⟨v, st₀, t, T', L, h0, X', hL, e1, e2, ⟨⟨u, hv, hp, hb⟩, hF⟩, st⟩ | ⟨q, st₀, t, T', L, E, ce, h0, X', hL, e1, e2, ⟨u, hp, hb, hF⟩, hce, hcv, hcl, st⟩
  · cases hv
    obtain ⟨k1, k2, k3⟩ := vx_keep h0 e1 hS hA hf hL hF
    obtain ⟨t2, a1, b1⟩ := kk u t T'.heap (locs ++ L) e1.symm (by rw [← e2]; exact X'.warmed.alike) hp hb k1 k2 k3 T' rfl X'
    exact ⟨t2, st t2 a1, b1⟩
  · obtain ⟨k1, k2, k3⟩ := vx_keep h0 e1 hS hAX hf hL hF
    obtain ⟨t2, a1, b1⟩ := kx E ce q u t T'.heap (locs ++ L) e1.symm (by rw [← e2]; exact X'.warmed.alike) hp hb k1 k2 k3 (by rw [e1]; exact hce) hcv hcl T' rfl X'
    exact ⟨t2, st.trans a1, b1⟩
/-- caught by the row x of this method's table; the rows ahead don't take it -/
theorem vx_catch {own name : String} {E : String} {ce : Cell} {q : Addr} (hown : s.vm.findClass own = some m.cls) (pre : List ExceptionTableEntry) (x : ExceptionTableEntry) (suf : List ExceptionTableEntry) (hsplit : c.exceptionTable.toList = pre ++ x :: suf)
    (hpass : ∀ z ∈ pre, covers z pc = false ∨ (z.catchType ≠ 0 ∧ ∃ nm : String, (Cond.classLink own z.catchType nm).before args s = true ∧ va_Nc E nm s)) (hx : covers x pc = true) (h0 : x.catchType ≠ 0)
    (hlink : (Cond.classLink own x.catchType name).before args s = true) (hcast : (Cond.castable E name).before args s = true) (hcell : H[q]? = some ce) (hv : ce.vm = .none) (hcl : s.vm.findClass E = some ce.cls)
    (kk : W p l e R s m args below meth c H locs cells slots Q (F0 m x.handlerPc ls [.ref q])) : vx_W p l e R s m args below meth c H locs cells slots Q (F0 m pc ls rest) q := by
  sorry
end Rows
section Ends
variable {p : Program} {l : Launch} {e : Env} {R : Room} {s : State} {m : MethodId} {args : Array Value} {below : List Frame} {meth : Method} {c : Code} {H : Heap} {locs : List Loc} {cells slots : Nat} {Q : State → Prop}
variable {mc ms : Nat} {free : Addr → Prop} {A0 A1 : Nat → Prop} {H0 : Heap} {a : Array Value} {ls : Array Slot} {st0 rest : List Value}
variable {Qc : Array Value → State → Outcome → State → Prop} {XC : String → State → State → Prop}
/-- what a body that may throw owes at its end -/
def vx_MQ (below : List Frame) (Qc : Array Value → State → Outcome → State → Prop) (XC : String → State → State → Prop) (a : Array Value) (s : State) (mc ms : Nat) (free : Addr → Prop) : State → Prop := fun t =>
  ∃ o, t.status = .running ∧ Ended t below o ∧ vx_Q Qc XC mc ms free a s o t
theorem vx_ret {g : JFrame} {mc ms : Nat} (k : W p l e R s m args below meth c H locs cells slots (MQ below Qc args s mc ms free) g) : W p l e R s m args below meth c H locs cells slots (vx_MQ below Qc XC args s mc ms free) g := by
  intro T hT X
  obtain ⟨t, a1, o, b1, b2, b3, b4⟩ := k T hT X
  exact ⟨t, a1, o, b1, b2, Or.inl ⟨b3, b4⟩⟩
/-- not caught here: it goes on to the caller -/
theorem vx_widen {g : JFrame} {q : Addr} {k n : Nat} (h1 : cells ≤ k) (h2 : slots ≤ n) (kk : vx_W p l e R s m args below meth c H locs k n Q g q) : vx_W p l e R s m args below meth c H locs cells slots Q g q := fun T hT X => kk T hT (stand_widen X h1 h2)
theorem vx_out {pc : Nat} {E : String} {ce : Cell} {q : Addr} {mc ms : Nat} (hout : ∀ x ∈ c.exceptionTable.toList, covers x pc = false) (hlocks : meth.locks = false) (hcell : H[q]? = some ce) (hv : ce.vm = .none) (hcl : s.vm.findClass E = some ce.cls)
    (hx : ∀ t : State, t.heap = H → s.vm.Alike t.vm → XC E s t) (hf : ∀ z ∈ locs, free z.base) (hc : cells ≤ mc) (hs : slots ≤ ms) :
    vx_W p l e R s m args below meth c H locs cells slots (vx_MQ below Qc XC args s mc ms free) (F0 m pc ls rest) q := by
  intro T hT X
  obtain ⟨st1, hrun, hend, hW, hsm⟩ := X.leaveThrown q (g := F0 m pc ls rest) rfl rfl rfl hout hlocks
  have hcell9 : (T.setFrames (.throwing q :: below)).heap[q]? = some ce := by
    show T.heap[q]? = some ce
    rw [hT]; exact hcell
  exact ⟨_, st1, .threw q, hrun, hend, Or.inr ⟨q, rfl, E, ce, locs, hx _ hT hW.alike, hcell9, hv, hcl, hW, hsm.mono hc hs, hf⟩⟩
theorem vx_frame {U : State} {k n : Nat} (h : s.sameButNew ({ U with vm := s.vm } : State) locs k n) : s.heap.size ≤ U.heap.size ∧ ∀ q : Nat, q < s.heap.size → (∀ z ∈ locs, z.base ≠ q) → U.heap[q]? = s.heap[q]? := by
  obtain ⟨-, h2, -, -, -, h6⟩ := h
  refine ⟨h2, fun q hq hz => ?_⟩
  obtain ⟨c9, e1, e2, e3, e4⟩ := h6 q _ (Array.getElem?_eq_getElem hq)
  have hs : c9.slots = (s.heap[q]).slots := Array.ext_getElem? fun i => e4 i fun hm => hz _ hm rfl
  have h9 : c9 = s.heap[q] := by
    rw [hs] at e2
    exact e2
  have e5 : U.heap[q]? = some c9 := e1
  rw [e5, h9, Array.getElem?_eq_getElem hq]
/-- the words of a throw but the four that speak of the heap -/
def vx_no (w : Cond) : Bool := decide (w ≠ .isRef (.static Bundle.tN "UNASSIGNED_STACK" Bundle.steD)) && decide (w ≠ .isRef (.static Bundle.tN "SUPPRESSED_SENTINEL" Bundle.listD)) && decide (w ≠ .laysStatic Bundle.tN "UNASSIGNED_STACK" Bundle.steD) && decide (w ≠ .laysStatic Bundle.tN "SUPPRESSED_SENTINEL" Bundle.listD)
def vx_at0 (own : String) (ic : Nat) (X : String) (names : List String) : List Cond := (Bundle.ownAtoms0 own ic X names).filter vx_no
def vx_atS (own : String) (ic : Nat) (X : String) (names : List String) : List Cond := (Bundle.ownAtoms own ic X names).filter vx_no
/-- a word that the tables alone decide, or a good one -/
def vx_ot (w : Cond) : Bool := w.onTables || goodWord w
theorem vx_ot_at {args a' : Array Value} {s U : State} {w : Cond} (hW : s.WarmedH U.vm) (hvm : s.vm = U.vm) (hg : vx_ot w = true) (h : w.before args s = true) : w.before a' U = true := by
  simp only [vx_ot, Bool.or_eq_true] at hg
  rcases hg with hg | hg
  · exact va_tabs hg hvm h
  · exact word_at hW (good_of_word hg) h
/-- a list's words: the good ones out of the method's own list, the others by premises of their own -/
theorem vx_hat {args : Array Value} {s : State} {L B : List Cond} (h1 : ∀ w ∈ L.filter goodWord, w.before args s = true) (h2 : ∀ w ∈ L.filter (fun w => !goodWord w), w ∈ B) (h3 : ∀ w ∈ B, w.before args s = true) : ∀ w ∈ L, w.before args s = true := by
  intro w hw
  by_cases g : goodWord w = true
  · exact h1 w (List.mem_filter.mpr ⟨hw, g⟩)
  · refine h3 w (h2 w (List.mem_filter.mpr ⟨hw, ?_⟩))
    show (!goodWord w) = true
    cases hgw : goodWord w
    · rfl
    · exact absurd hgw g
theorem vx_c {args : Array Value} {s : State} {w : Cond} {B : List Cond} (h : w.before args s = true) (t : ∀ w ∈ B, w.before args s = true) : ∀ w' ∈ w :: B, w'.before args s = true := fun w' h' => (List.mem_cons.mp h').elim (fun e => by rw [e]; exact h) (t w')
theorem vx_n {args : Array Value} {s : State} : ∀ w ∈ ([] : List Cond), w.before args s = true := fun _ h => nomatch h
theorem vx_own {args : Array Value} {s : State} {L : List Cond} (h1 : ∀ w ∈ L.filter vx_no, w.before args s = true)
    (hU : (Cond.isRef (.static Bundle.tN "UNASSIGNED_STACK" Bundle.steD)).before args s = true) (hN : (Cond.isRef (.static Bundle.tN "SUPPRESSED_SENTINEL" Bundle.listD)).before args s = true)
    (lU : (Cond.laysStatic Bundle.tN "UNASSIGNED_STACK" Bundle.steD).before args s = true) (lN : (Cond.laysStatic Bundle.tN "SUPPRESSED_SENTINEL" Bundle.listD).before args s = true) : ∀ w ∈ L, w.before args s = true := by
  intro w hw
  by_cases e1 : w = .isRef (.static Bundle.tN "UNASSIGNED_STACK" Bundle.steD)
  · rw [e1]; exact hU
  · by_cases e2 : w = .isRef (.static Bundle.tN "SUPPRESSED_SENTINEL" Bundle.listD)
    · rw [e2]; exact hN
    · by_cases e3 : w = .laysStatic Bundle.tN "UNASSIGNED_STACK" Bundle.steD
      · rw [e3]; exact lU
      · by_cases e4 : w = .laysStatic Bundle.tN "SUPPRESSED_SENTINEL" Bundle.listD
        · rw [e4]; exact lN
        · exact h1 w (List.mem_filter.mpr ⟨hw, by unfold vx_no; rw [decide_eq_true e1, decide_eq_true e2, decide_eq_true e3, decide_eq_true e4]; rfl⟩)
/-- where a static field lies, its class's statics cell in H -/
def vx_L (C n d : String) (A : Nat → Prop) (U : State) (H : Heap) : Prop := ∃ (c : ClassId) (k : Class) (i : Nat) (f : Field) (a : Nat) (cell : Cell), U.vm.findClass C = some c ∧ U.fieldFound? C n d = some (c, k, i, f) ∧ f.isStatic = true ∧ k.statics = some a ∧ H[a]? = some cell ∧ cell.vm.isStatics = true ∧ cell.cls = c ∧ f.slot < cell.slots.size ∧ k.staticTypes[f.slot]? = some f.type ∧ ¬ A a
theorem vx_L.moved {C n d : String} {A : Nat → Prop} {u U : State} {H : Heap} (hvm : u.vm.Alike U.vm) (h : vx_L C n d A u H) : vx_L C n d A U H := by
  obtain ⟨c, k, i, f, a, cell, h1, h2, h3, h4, h5, h6, h7, h8, h9, h10⟩ := h
  obtain ⟨k', hi', he⟩ := State.fieldFound?_setVm hvm h2
  exact ⟨c, k', i, f, a, cell, by rw [hvm.findClass]; exact h1, hi', h3, by rw [he]; exact h4, h5, h6, h7, h8, by rw [he]; exact h9, h10⟩
theorem vx_L.kept {C n d : String} {A : Nat → Prop} {U : State} {H H1 : Heap} (h : vx_L C n d A U H) (hq : ∀ a : Nat, a < H.size → ¬ A a → H1[a]? = H[a]?) : vx_L C n d A U H1 := by
  obtain ⟨c, k, i, f, a, cell, h1, h2, h3, h4, h5, h6, h7, h8, h9, h10⟩ := h
  exact ⟨c, k, i, f, a, cell, h1, h2, h3, h4, by rw [hq a (Array.getElem?_eq_some_iff.mp h5).1 h10]; exact h5, h6, h7, h8, h9, h10⟩
theorem vx_L.narrow {C n d : String} {A B : Nat → Prop} {U : State} {H : Heap} (h : vx_L C n d A U H) (hAB : ∀ q, B q → A q) : vx_L C n d B U H := by
  obtain ⟨c, k, i, f, a, cell, h1, h2, h3, h4, h5, h6, h7, h8, h9, h10⟩ := h
  exact ⟨c, k, i, f, a, cell, h1, h2, h3, h4, h5, h6, h7, h8, h9, fun z => h10 (hAB _ z)⟩
theorem vx_L.word {C n d : String} {A : Nat → Prop} {s : State} {args : Array Value} (h : vx_L C n d A s s.heap) : (Cond.laysStatic C n d).before args s = true := by
  obtain ⟨c, k, i, f, a, cell, h1, h2, h3, h4, h5, h6, h7, h8, h9, -⟩ := h
  show (Cond.laysStatic C n d).holds args s none s [] = true
  exact Cond.laysStatic_of h1 h2 h3 h4 h5 h6 h7 h8 h9
/-- .. and what it holds: null or some reference -/
def vx_Zq (C n d : String) (A : Nat → Prop) (U : State) (H : Heap) : Prop := va_Zq C n d A U H ∧ vx_L C n d A U H
theorem vx_Zq.moved {C n d : String} {A : Nat → Prop} {u U : State} {H : Heap} (hvm : u.vm.Alike U.vm) (h : vx_Zq C n d A u H) : vx_Zq C n d A U H := ⟨va_Zq.moved hvm h.1, vx_L.moved hvm h.2⟩
theorem vx_Zq.kept {C n d : String} {A : Nat → Prop} {U : State} {H H1 : Heap} (h : vx_Zq C n d A U H) (hq : ∀ a : Nat, a < H.size → ¬ A a → H1[a]? = H[a]?) : vx_Zq C n d A U H1 := ⟨va_Zq.kept h.1 hq, vx_L.kept h.2 hq⟩
theorem vx_Zq.narrow {C n d : String} {A B : Nat → Prop} {U : State} {H : Heap} (h : vx_Zq C n d A U H) (hAB : ∀ q, B q → A q) : vx_Zq C n d B U H := ⟨va_Zq.narrow h.1 hAB, vx_L.narrow h.2 hAB⟩
theorem vx_Zqof {args : Array Value} {s : State} {C n d : String} {A : Nat → Prop} (hl : (Cond.laysStatic C n d).before args s = true) (hini : (Cond.initialized C).before args s = true) (h : (Cond.isRef (.static C n d)).before args s = true) (hA : ∀ a : Nat, a < s.heap.size → ¬ A a) : vx_Zq C n d A s s.heap := by
  refine ⟨va_Zqof hl hini h hA, ?_⟩
  obtain ⟨c, k, i, f, a, cell, h1, h2, h3, h4, h5, h6, h7, h8, h9⟩ := Cond.laysStatic_spec hl
  exact ⟨c, k, i, f, a, cell, h1, h2, h3, h4, h5, h6, h7, h8, h9, hA a (Array.getElem?_eq_some_iff.mp h5).1⟩
theorem vx_isRef {C n d : String} {v : Value} {A : Nat → Prop} {s : State} {args : Array Value} (h : va_Z C n d v A s s.heap) (hv : v.isRef = true) : (Cond.isRef (.static C n d)).before args s = true := by
  obtain ⟨cf, kf, fi, f, a, cell, h1, h2, h3, h4, h5, h6, h7, -⟩ := h
  have he : (Term.static C n d).eval args s none [] s = some v := by
    simp [Term.eval, State.fieldNamed?, h1, h2, h4, h5, h6, h7]
  simp only [Cond.before, Cond.holds, Cond.value, he]
  cases v <;> simp_all [Value.isRef]
theorem vx_isRefq {C n d : String} {A : Nat → Prop} {s : State} {args : Array Value} (h : va_Zq C n d A s s.heap) : (Cond.isRef (.static C n d)).before args s = true := by
  rcases h with h | ⟨t, h⟩
  · exact vx_isRef h rfl
  · exact vx_isRef h rfl
/-- the same frame, seen from here: as if the method were called anew in this heap -/
theorem vx_rebase {T : State} (X : Stand p l e R s m args below meth c T locs cells slots) {R' : Room} (hf : R'.frames ≤ R.frames) (hl : R'.locals ≤ R.locals) (hc : cells + R'.cells ≤ R.cells) (hs : slots + R'.slots ≤ R.slots) :
    Stand p l e R' ((T.setVm s.vm).setFrames (.invoking m args :: below)) m args below meth c T [] 0 0 := by
  have htop : (T.setVm s.vm).topJava?.isSome := X.here.top
  have hF : ((T.setVm s.vm).setFrames (.invoking m args :: below)).frames = .invoking m args :: below := State.frames_setFrames _ (State.cur_lt_of_top htop)
  obtain ⟨g₀, hg0⟩ := Option.isSome_iff_exists.mp htop
  obtain ⟨r, hr⟩ := State.topJava?_eq_some.mp hg0
  have hl9 : e.platform.stackLimits (T.setVm s.vm).me = e.platform.stackLimits s.me := X.limits
  have hb9 : (T.setVm s.vm).me.stackBytes = s.me.stackBytes := X.bytes
  refine ⟨X.admits, X.cas, X.clock, hF, ?_, X.hears, X.method, X.code, X.here, X.tail, X.warmed, ?_, ?_, ?_⟩
  · have h := X.room
    have hU : ((T.setVm s.vm).setFrames (.invoking m args :: below)).localsInUse = s.localsInUse := by
      rw [State.localsInUse_invoking hF (meth := meth) (c := c) X.method X.code, State.localsInUse_invoking X.frames X.method X.code]
    simp only [State.hasRoom, Bool.and_eq_true, decide_eq_true_eq] at h ⊢
    obtain ⟨⟨⟨⟨h1, h2, h3, h4, h5, h6⟩, h7⟩, h8⟩, h9⟩ := h
    rw [X.frames, List.length_cons] at h2 h3
    have q1 := X.heapSize
    have q2 := X.used
    simp only [hF, hU, List.length_cons, State.stackLimits_setFrames, State.stackBytes_setFrames, hl9, hb9]
    refine ⟨⟨⟨⟨by omega, by omega, by omega, by omega, by omega, h6⟩, ?_⟩, ?_⟩, X.book⟩
    · show T.heap.size + R'.cells ≤ e.platform.maxCells
      omega
    · show T.slotsUsed + R'.slots ≤ e.platform.maxSlots
      omega
  · rw [State.stackLimits_setFrames]; rfl
  · rw [State.stackBytes_setFrames]; rfl
  · refine ⟨?_, Nat.le_refl _, Nat.le_refl _, ?_, ?_, fun a c9 h9 => ⟨c9, h9, rfl, rfl, fun _ _ => rfl⟩⟩
    · obtain ⟨t, ht, -⟩ := State.frames_cons hr
      show T.setVm s.vm = { ((T.setVm s.vm).setFrames (.invoking m args :: below)).setFrames (T.setVm s.vm).frames with heap := T.heap, slotsUsed := T.slotsUsed }
      rw [State.setFrames_setFrames, State.setFrames_self ht]
      rfl
    · show T.slotsUsed = T.slotsUsed + ((T.heap.toList.drop T.heap.size).map (·.slots.size)).sum
      rw [List.drop_eq_nil_of_le (Nat.le_of_eq Array.length_toList)]
      rfl
    · show ((T.heap.toList.drop T.heap.size).map (·.slots.size)).sum ≤ 0
      rw [List.drop_eq_nil_of_le (Nat.le_of_eq Array.length_toList)]
      exact Nat.le_refl _
/-- 'throw new E()': new; dup; invokespecial; athrow -/
theorem vx_throw0 {cc : ByteArray} {pc : Nat} (hexec : p.tables.exec = Jvm.exec) (hb : c.code = cc) (hl : l.stackTraces = false) {own cls : String} {names : List String} {ik ic mc ms : Nat} {A : Nat → Prop}
    (hown : s.vm.findClass own = some m.cls) (hcls : Bundle.fit cls = true) (hnames : ∀ n ∈ names, Bundle.fit n = true)
    (hk : (Cond.classLink own ik cls).before args s = true) (hini : (Cond.initialized cls).before args s = true) (hat : ∀ w ∈ vx_at0 own ic cls names, w.before args s = true)
    (hgood : ∀ w ∈ Cond.classLink own ik cls :: Cond.initialized cls :: vx_at0 own ic cls names, vx_ot w = true)
    (hU : vx_Zq Bundle.tN "UNASSIGNED_STACK" Bundle.steD A s s.heap) (hN : vx_Zq Bundle.tN "SUPPRESSED_SENTINEL" Bundle.listD A s s.heap) (hS : va_S A s.heap H locs) (hsize : ls.size = c.maxLocals)
    (d0 : decode cc pc = .ok (.new ik, 3)) (d3 : decode cc (pc + 3) = .ok (.dup, 1)) (d4 : decode cc (pc + 4) = .ok (.invokespecial ic, 3)) (d7 : decode cc (pc + 7) = .ok (.athrow, 1))
    (hout : ∀ x ∈ c.exceptionTable.toList, covers x (pc + 7) = false)
    (hRframes : names.length + 3 < R.frames) (hRlocals : (rest.map fun v => v.category).sum + (13 * (names.length + 1) + 42) ≤ R.locals) (hRcells : cells + 1 ≤ R.cells) (hRslots : slots + 6 ≤ R.slots) (hlocks : meth.locks = false)
    (hx : ∀ t : State, s.vm.Alike t.vm → H.size ≤ t.heap.size → (∀ q : Nat, q < H.size → t.heap[q]? = H[q]?) → XC cls s t)
    (hf : ∀ z ∈ locs, free z.base) (hc : cells + 1 ≤ mc) (hs : slots + 6 ≤ ms) :
    W p l e R s m args below meth c H locs cells slots (vx_MQ below Qc XC args s mc ms free) (F0 m pc ls rest) := by
  intro T hT X
  have htr : e.platform.stackTraces = false := (show e.platform.stackTraces = l.stackTraces by rw [X.admits.platform]).trans hl
  have Y := vx_rebase X (R' := { frames := R.frames, locals := R.locals, cells := 1, slots := 6 }) (Nat.le_refl _) (Nat.le_refl _) hRcells hRslots
  obtain ⟨s', hA⟩ : ∃ z, z = (T.setVm s.vm).setFrames (.invoking m args :: below) := ⟨_, rfl⟩
  rw [← hA] at Y
  have hvm : s'.vm = s.vm := by rw [hA]; rfl
  have hhp : s'.heap = H := by rw [hA]; exact hT
  have hW0 : s.WarmedH s'.vm := by rw [hvm]; exact State.WarmedH.refl s
  have hat' : ∀ w ∈ vx_at0 own ic cls names, w.before args s' = true := fun w hw => vx_ot_at hW0 hvm.symm (hgood w (List.mem_cons_of_mem _ (List.mem_cons_of_mem _ hw))) (hat w hw)
  have hk' : (Cond.classLink own ik cls).before args s' = true := vx_ot_at hW0 hvm.symm (hgood _ List.mem_cons_self) hk
  have hini' : (Cond.initialized cls).before args s' = true := vx_ot_at hW0 hvm.symm (hgood _ (List.mem_cons_of_mem _ List.mem_cons_self)) hini
  have hU' : vx_Zq Bundle.tN "UNASSIGNED_STACK" Bundle.steD A s' s'.heap := by rw [hhp]; exact vx_Zq.moved hW0.alike (hU.kept hS.2.1)
  have hN' : vx_Zq Bundle.tN "SUPPRESSED_SENTINEL" Bundle.listD A s' s'.heap := by rw [hhp]; exact vx_Zq.moved hW0.alike (hN.kept hS.2.1)
  have h : ∀ w ∈ Bundle.ownAtoms0 own ic cls names, w.before args s' = true := vx_own hat' (vx_isRefq hU'.1) (vx_isRefq hN'.1) hU'.2.word hN'.2.word
  have hown' : s'.vm.findClass own = some m.cls := by rw [hvm]; exact hown
  have hins : (Cond.instantiable cls 6).before args s' = true := h _ (by simp [Bundle.ownAtoms0])
  obtain ⟨vm₁, cX, kX, hfX, hkX, -, -, X₁, st1⟩ := Y.newCold hexec (own := own) (C := cls) (index := ik) (n := 6) hown' hk' hins hini'
    (g := F0 m pc ls rest) rfl (by rw [hb]; exact d0) (Nat.le_refl _) (Nat.le_refl _)
  generalize hT1 : (T.setVm vm₁).pushCell { cls := cX, slots := kX.instanceTypes.map defaultValue, vm := .none } = T1 at X₁ st1
  have hcat : (Value.ref T.heap.size).category = 1 := rfl
  have hcellA : T1.heap[T.heap.size]? = some (freshCell cX kX) := by rw [← hT1]; exact State.heap_pushCell_size _ _
  have d3' : decode c.code (pc + 3) = .ok (.dup, 1) := by rw [hb]; exact d3
  obtain ⟨U, hsteps, hrun, hend, hW, hsame, ce, hce, hO⟩ := X₁.ctorThrow0 hexec htr (own := own) (cls := cls) (names := names) (ic := ic) hown' hcls hnames h (fun x hx => nomatch hx) hfX hkX hcellA (by rw [hhp, hT]; exact Nat.le_refl _)
    (g := { method := m, pc := pc + 4, locals := ls, stack := .ref T.heap.size :: .ref T.heap.size :: rest, locked := none }) rfl hsize rfl rfl (rest := rest) rfl
    (by rw [hb]; exact d4) (by rw [hb]; exact d7) hout hRframes (by simp only [List.map_cons, List.sum_cons, hcat]; omega) hlocks
  obtain ⟨f1, f2⟩ := vx_frame hsame
  rw [hhp] at f1 f2
  have hWs : s.WarmedH U.vm := State.WarmedH.trans hW0 hW
  have hcl : s.vm.findClass cls = some ce.cls := by
    have h9 := hO.cls
    rw [hvm] at h9
    exact h9
  have hall : s.sameButNew ({ U with vm := s.vm } : State) locs mc ms := by
    subst hA
    obtain ⟨e1, e2⟩ := hsame
    rw [State.setFrames_setFrames] at e1
    have h2 : (T.setVm s.vm).sameButNew ({ U with vm := s.vm } : State) [] (0 + 1) (0 + 6) := ⟨e1, e2⟩
    have h3 := X.same.trans h2
    rw [List.append_nil] at h3
    exact h3.mono hc hs
  refine ⟨U, ?_, .threw T.heap.size, hrun, hend, Or.inr ⟨T.heap.size, rfl, cls, ce, locs, hx U hWs.alike f1 (fun q hq => f2 q hq (fun z hz => nomatch hz)), hce, hO.vm, hcl, hWs, hall, hf⟩⟩
  refine st1 _ ?_
  show Steps p.tables e below (T1.setTop { method := m, pc := pc + 3, locals := ls, stack := .ref T.heap.size :: rest, locked := none }) _
  jvm_step X₁.here [X₁.here.top, hexec, d3', Value.category]
  exact hsteps
/-- 'throw new E("text")': new; dup; ldc; invokespecial; athrow -/
theorem vx_throwS {cc : ByteArray} {pc : Nat} (hexec : p.tables.exec = Jvm.exec) (hb : c.code = cc) (hl : l.stackTraces = false) {own cls text : String} {names : List String} {ik is ic mc ms sa : Nat} {A : Nat → Prop}
    (hown : s.vm.findClass own = some m.cls) (hcls : Bundle.fit cls = true) (hnames : ∀ n ∈ names, Bundle.fit n = true)
    (hk : (Cond.classLink own ik cls).before args s = true) (hini : (Cond.initialized cls).before args s = true) (hstr : vk_R own is text sa s) (hat : ∀ w ∈ vx_atS own ic cls names, w.before args s = true)
    (hgood : ∀ w ∈ Cond.classLink own ik cls :: Cond.initialized cls :: vx_atS own ic cls names, vx_ot w = true)
    (hU : vx_Zq Bundle.tN "UNASSIGNED_STACK" Bundle.steD A s s.heap) (hN : vx_Zq Bundle.tN "SUPPRESSED_SENTINEL" Bundle.listD A s s.heap) (hS : va_S A s.heap H locs) (hsize : ls.size = c.maxLocals)
    (d0 : decode cc pc = .ok (.new ik, 3)) (d3 : decode cc (pc + 3) = .ok (.dup, 1)) (d4 : decode cc (pc + 4) = .ok (.ldc is, 2)) (d6 : decode cc (pc + 6) = .ok (.invokespecial ic, 3)) (d9 : decode cc (pc + 9) = .ok (.athrow, 1))
    (hout : ∀ x ∈ c.exceptionTable.toList, covers x (pc + 9) = false)
    (hRframes : names.length + 3 < R.frames) (hRlocals : (rest.map fun v => v.category).sum + (13 * (names.length + 1) + 43) ≤ R.locals) (hRcells : cells + 1 ≤ R.cells) (hRslots : slots + 6 ≤ R.slots) (hlocks : meth.locks = false)
    (hx : ∀ t : State, s.vm.Alike t.vm → H.size ≤ t.heap.size → (∀ q : Nat, q < H.size → t.heap[q]? = H[q]?) → XC cls s t)
    (hf : ∀ z ∈ locs, free z.base) (hc : cells + 1 ≤ mc) (hs : slots + 6 ≤ ms) :
    W p l e R s m args below meth c H locs cells slots (vx_MQ below Qc XC args s mc ms free) (F0 m pc ls rest) := by
  intro T hT X
  have htr : e.platform.stackTraces = false := (show e.platform.stackTraces = l.stackTraces by rw [X.admits.platform]).trans hl
  have Y := vx_rebase X (R' := { frames := R.frames, locals := R.locals, cells := 1, slots := 6 }) (Nat.le_refl _) (Nat.le_refl _) hRcells hRslots
  obtain ⟨s', hA⟩ : ∃ z, z = (T.setVm s.vm).setFrames (.invoking m args :: below) := ⟨_, rfl⟩
  rw [← hA] at Y
  have hvm : s'.vm = s.vm := by rw [hA]; rfl
  have hhp : s'.heap = H := by rw [hA]; exact hT
  have hW0 : s.WarmedH s'.vm := by rw [hvm]; exact State.WarmedH.refl s
  have hat' : ∀ w ∈ vx_atS own ic cls names, w.before args s' = true := fun w hw => vx_ot_at hW0 hvm.symm (hgood w (List.mem_cons_of_mem _ (List.mem_cons_of_mem _ hw))) (hat w hw)
  have hk' : (Cond.classLink own ik cls).before args s' = true := vx_ot_at hW0 hvm.symm (hgood _ List.mem_cons_self) hk
  have hini' : (Cond.initialized cls).before args s' = true := vx_ot_at hW0 hvm.symm (hgood _ (List.mem_cons_of_mem _ List.mem_cons_self)) hini
  have hU' : vx_Zq Bundle.tN "UNASSIGNED_STACK" Bundle.steD A s' s'.heap := by rw [hhp]; exact vx_Zq.moved hW0.alike (hU.kept hS.2.1)
  have hN' : vx_Zq Bundle.tN "SUPPRESSED_SENTINEL" Bundle.listD A s' s'.heap := by rw [hhp]; exact vx_Zq.moved hW0.alike (hN.kept hS.2.1)
  have h : ∀ w ∈ Bundle.ownAtoms own ic cls names, w.before args s' = true := vx_own hat' (vx_isRefq hU'.1) (vx_isRefq hN'.1) hU'.2.word hN'.2.word
  have hown' : s'.vm.findClass own = some m.cls := by rw [hvm]; exact hown
  have hins : (Cond.instantiable cls 6).before args s' = true := h _ (by simp [Bundle.ownAtoms])
  obtain ⟨vm₁, cX, kX, hfX, hkX, -, -, X₁, st1⟩ := Y.newCold hexec (own := own) (C := cls) (index := ik) (n := 6) hown' hk' hins hini'
    (g := F0 m pc ls rest) rfl (by rw [hb]; exact d0) (Nat.le_refl _) (Nat.le_refl _)
  generalize hT1 : (T.setVm vm₁).pushCell { cls := cX, slots := kX.instanceTypes.map defaultValue, vm := .none } = T1 at X₁ st1
  have hcat : (Value.ref T.heap.size).category = 1 := rfl
  have hcellA : T1.heap[T.heap.size]? = some (freshCell cX kX) := by rw [← hT1]; exact State.heap_pushCell_size _ _
  have d3' : decode c.code (pc + 3) = .ok (.dup, 1) := by rw [hb]; exact d3
  have d4' : decode c.code (pc + 4) = .ok (.ldc is, 2) := by rw [hb]; exact d4
  have hstr' : vk_R own is text sa s' := vk_R.warm hW0 hstr
  obtain ⟨U, hsteps, hrun, hend, hW, hsame, ce, hce, hO⟩ := X₁.ctorThrowS hexec htr (own := own) (cls := cls) (names := names) (ic := ic) hown' hcls hnames h (fun x hx => nomatch hx) hfX hkX hcellA (by rw [hhp, hT]; exact Nat.le_refl _) (msg := .ref sa) rfl
    (g := { method := m, pc := pc + 6, locals := ls, stack := .ref sa :: .ref T.heap.size :: .ref T.heap.size :: rest, locked := none }) rfl hsize rfl rfl (rest := rest) rfl
    (by rw [hb]; exact d6) (by rw [hb]; exact d9) hout hRframes (by simp only [List.map_cons, List.sum_cons, hcat]; omega) hlocks
  obtain ⟨f1, f2⟩ := vx_frame hsame
  rw [hhp] at f1 f2
  have hWs : s.WarmedH U.vm := State.WarmedH.trans hW0 hW
  have hcl : s.vm.findClass cls = some ce.cls := by
    have h9 := hO.cls
    rw [hvm] at h9
    exact h9
  have hall : s.sameButNew ({ U with vm := s.vm } : State) locs mc ms := by
    subst hA
    obtain ⟨e1, e2⟩ := hsame
    rw [State.setFrames_setFrames] at e1
    have h2 : (T.setVm s.vm).sameButNew ({ U with vm := s.vm } : State) [] (0 + 1) (0 + 6) := ⟨e1, e2⟩
    have h3 := X.same.trans h2
    rw [List.append_nil] at h3
    exact h3.mono hc hs
  refine ⟨U, ?_, .threw T.heap.size, hrun, hend, Or.inr ⟨T.heap.size, rfl, cls, ce, locs, hx U hWs.alike f1 (fun q hq => f2 q hq (fun z hz => nomatch hz)), hce, hO.vm, hcl, hWs, hall, hf⟩⟩
  refine st1 _ ?_
  show Steps p.tables e below (T1.setTop { method := m, pc := pc + 3, locals := ls, stack := .ref T.heap.size :: rest, locked := none }) _
  jvm_step X₁.here [X₁.here.top, hexec, d3', Value.category]
  exact X₁.ldcString hexec (own := own) (text := text) (index := is) (a := sa) hown' hstr'.1 hstr'.2
    (g := { method := m, pc := pc + 4, locals := ls, stack := .ref T.heap.size :: .ref T.heap.size :: rest, locked := none }) rfl d4' _ hsteps
/-- 'throw new E("text")', the text by a wide index -/
theorem vx_throwSW {cc : ByteArray} {pc : Nat} (hexec : p.tables.exec = Jvm.exec) (hb : c.code = cc) (hl : l.stackTraces = false) {own cls text : String} {names : List String} {ik is ic mc ms sa : Nat} {A : Nat → Prop}
    (hown : s.vm.findClass own = some m.cls) (hcls : Bundle.fit cls = true) (hnames : ∀ n ∈ names, Bundle.fit n = true)
    (hk : (Cond.classLink own ik cls).before args s = true) (hini : (Cond.initialized cls).before args s = true) (hstr : vk_R own is text sa s) (hat : ∀ w ∈ vx_atS own ic cls names, w.before args s = true)
    (hgood : ∀ w ∈ Cond.classLink own ik cls :: Cond.initialized cls :: vx_atS own ic cls names, vx_ot w = true)
    (hU : vx_Zq Bundle.tN "UNASSIGNED_STACK" Bundle.steD A s s.heap) (hN : vx_Zq Bundle.tN "SUPPRESSED_SENTINEL" Bundle.listD A s s.heap) (hS : va_S A s.heap H locs) (hsize : ls.size = c.maxLocals)
    (d0 : decode cc pc = .ok (.new ik, 3)) (d3 : decode cc (pc + 3) = .ok (.dup, 1)) (d4 : decode cc (pc + 4) = .ok (.ldc_w is, 3)) (d7 : decode cc (pc + 7) = .ok (.invokespecial ic, 3)) (d10 : decode cc (pc + 10) = .ok (.athrow, 1))
    (hout : ∀ x ∈ c.exceptionTable.toList, covers x (pc + 10) = false)
    (hRframes : names.length + 3 < R.frames) (hRlocals : (rest.map fun v => v.category).sum + (13 * (names.length + 1) + 43) ≤ R.locals) (hRcells : cells + 1 ≤ R.cells) (hRslots : slots + 6 ≤ R.slots) (hlocks : meth.locks = false)
    (hx : ∀ t : State, s.vm.Alike t.vm → H.size ≤ t.heap.size → (∀ q : Nat, q < H.size → t.heap[q]? = H[q]?) → XC cls s t)
    (hf : ∀ z ∈ locs, free z.base) (hc : cells + 1 ≤ mc) (hs : slots + 6 ≤ ms) :
    W p l e R s m args below meth c H locs cells slots (vx_MQ below Qc XC args s mc ms free) (F0 m pc ls rest) := by
  intro T hT X
  have htr : e.platform.stackTraces = false := (show e.platform.stackTraces = l.stackTraces by rw [X.admits.platform]).trans hl
  have Y := vx_rebase X (R' := { frames := R.frames, locals := R.locals, cells := 1, slots := 6 }) (Nat.le_refl _) (Nat.le_refl _) hRcells hRslots
  obtain ⟨s', hA⟩ : ∃ z, z = (T.setVm s.vm).setFrames (.invoking m args :: below) := ⟨_, rfl⟩
  rw [← hA] at Y
  have hvm : s'.vm = s.vm := by rw [hA]; rfl
  have hhp : s'.heap = H := by rw [hA]; exact hT
  have hW0 : s.WarmedH s'.vm := by rw [hvm]; exact State.WarmedH.refl s
  have hat' : ∀ w ∈ vx_atS own ic cls names, w.before args s' = true := fun w hw => vx_ot_at hW0 hvm.symm (hgood w (List.mem_cons_of_mem _ (List.mem_cons_of_mem _ hw))) (hat w hw)
  have hk' : (Cond.classLink own ik cls).before args s' = true := vx_ot_at hW0 hvm.symm (hgood _ List.mem_cons_self) hk
  have hini' : (Cond.initialized cls).before args s' = true := vx_ot_at hW0 hvm.symm (hgood _ (List.mem_cons_of_mem _ List.mem_cons_self)) hini
  have hU' : vx_Zq Bundle.tN "UNASSIGNED_STACK" Bundle.steD A s' s'.heap := by rw [hhp]; exact vx_Zq.moved hW0.alike (hU.kept hS.2.1)
  have hN' : vx_Zq Bundle.tN "SUPPRESSED_SENTINEL" Bundle.listD A s' s'.heap := by rw [hhp]; exact vx_Zq.moved hW0.alike (hN.kept hS.2.1)
  have h : ∀ w ∈ Bundle.ownAtoms own ic cls names, w.before args s' = true := vx_own hat' (vx_isRefq hU'.1) (vx_isRefq hN'.1) hU'.2.word hN'.2.word
  have hown' : s'.vm.findClass own = some m.cls := by rw [hvm]; exact hown
  have hins : (Cond.instantiable cls 6).before args s' = true := h _ (by simp [Bundle.ownAtoms])
  obtain ⟨vm₁, cX, kX, hfX, hkX, -, -, X₁, st1⟩ := Y.newCold hexec (own := own) (C := cls) (index := ik) (n := 6) hown' hk' hins hini'
    (g := F0 m pc ls rest) rfl (by rw [hb]; exact d0) (Nat.le_refl _) (Nat.le_refl _)
  generalize hT1 : (T.setVm vm₁).pushCell { cls := cX, slots := kX.instanceTypes.map defaultValue, vm := .none } = T1 at X₁ st1
  have hcat : (Value.ref T.heap.size).category = 1 := rfl
  have hcellA : T1.heap[T.heap.size]? = some (freshCell cX kX) := by rw [← hT1]; exact State.heap_pushCell_size _ _
  have d3' : decode c.code (pc + 3) = .ok (.dup, 1) := by rw [hb]; exact d3
  have d4' : decode c.code (pc + 4) = .ok (.ldc_w is, 3) := by rw [hb]; exact d4
  have hstr' : vk_R own is text sa s' := vk_R.warm hW0 hstr
  obtain ⟨U, hsteps, hrun, hend, hW, hsame, ce, hce, hO⟩ := X₁.ctorThrowS hexec htr (own := own) (cls := cls) (names := names) (ic := ic) hown' hcls hnames h (fun x hx => nomatch hx) hfX hkX hcellA (by rw [hhp, hT]; exact Nat.le_refl _) (msg := .ref sa) rfl
    (g := { method := m, pc := pc + 7, locals := ls, stack := .ref sa :: .ref T.heap.size :: .ref T.heap.size :: rest, locked := none }) rfl hsize rfl rfl (rest := rest) rfl
    (by rw [hb]; exact d7) (by rw [hb]; exact d10) hout hRframes (by simp only [List.map_cons, List.sum_cons, hcat]; omega) hlocks
  obtain ⟨f1, f2⟩ := vx_frame hsame
  rw [hhp] at f1 f2
  have hWs : s.WarmedH U.vm := State.WarmedH.trans hW0 hW
  have hcl : s.vm.findClass cls = some ce.cls := by
    have h9 := hO.cls
    rw [hvm] at h9
    exact h9
  have hall : s.sameButNew ({ U with vm := s.vm } : State) locs mc ms := by
    subst hA
    obtain ⟨e1, e2⟩ := hsame
    rw [State.setFrames_setFrames] at e1
    have h2 : (T.setVm s.vm).sameButNew ({ U with vm := s.vm } : State) [] (0 + 1) (0 + 6) := ⟨e1, e2⟩
    have h3 := X.same.trans h2
    rw [List.append_nil] at h3
    exact h3.mono hc hs
  refine ⟨U, ?_, .threw T.heap.size, hrun, hend, Or.inr ⟨T.heap.size, rfl, cls, ce, locs, hx U hWs.alike f1 (fun q hq => f2 q hq (fun z hz => nomatch hz)), hce, hO.vm, hcl, hWs, hall, hf⟩⟩
  refine st1 _ ?_
  show Steps p.tables e below (T1.setTop { method := m, pc := pc + 3, locals := ls, stack := .ref T.heap.size :: rest, locked := none }) _
  jvm_step X₁.here [X₁.here.top, hexec, d3', Value.category]
  exact X₁.ldcStringW hexec (own := own) (text := text) (index := is) (a := sa) hown' hstr'.1 hstr'.2
    (g := { method := m, pc := pc + 4, locals := ls, stack := .ref T.heap.size :: .ref T.heap.size :: rest, locked := none }) rfl d4' _ hsteps
end Ends
section Bodies
variable {l : Launch}
theorem vx_ofW {y : MethodName} {ws ws' : List Cond} {rm : Room} {Pc : Array Value → State → Prop} {Qc : Array Value → State → Outcome → State → Prop} {XC : String → State → State → Prop} {mc ms : Nat} {free : Addr → Prop} {cc : ByteArray} {maxL : Nat} {ret : Option FieldType}
    (hy : plainName y.cls = true) (hw : ws = Cond.code y cc maxL ret :: ws')
    (body : ∀ p e s m args below meth c s₁, BodyLoose p l y (headSpec ws rm) cc maxL ret e s m args below meth c s₁ → c.maxLocals = maxL → (∀ x ∈ c.exceptionTable.toList, False) → Pc args s →
      W p l e (headSpec ws rm).room s m args below meth c s.heap [] 0 0 (vx_MQ below Qc XC args s mc ms free) (entryFrame m args maxL)) : vx_Met l y ws rm Pc Qc XC mc ms free := by
  refine MetFree.of_bodyS (code := cc) (maxLocals := maxL) (ret := ret) hy ?_ ?_
  · intro args s m h hn
    obtain ⟨meth, c, h1, h2, h3, h4, h5, h6, -, -⟩ := Cond.code_spec hn (atoms_spec (ws := ws) h _ (by rw [hw]; exact List.mem_cons_self))
    exact ⟨meth, c, h1, h2, h3, h4, h5, h6⟩
  · intro p e s m args below meth c s₁ B hml hP _
    have hh0 : s₁.heap = s.heap := by rw [B.state]; rfl
    have ht : ∀ x ∈ c.exceptionTable.toList, False := by
      obtain ⟨meth9, c9, h1, h2, -, -, -, -, h7, -⟩ := Cond.code_spec B.named (atoms_spec (ws := ws) B.pre _ (by rw [hw]; exact List.mem_cons_self))
      cases Option.some.inj (h1.symm.trans B.method)
      cases Option.some.inj (h2.symm.trans (Stand.of_body B).code)
      intro x hx
      rw [Array.isEmpty_iff.mp h7] at hx
      cases hx
    obtain ⟨t, a1, o, b1, b2, b3⟩ := body p e s m args below meth c s₁ B hml ht hP s₁ hh0 (Stand.of_body B)
    exact ⟨t, o, a1, b1, b2, b3⟩
/-- the table of a body with handlers -/
theorem vx_table {p : Program} {x y : MethodName} {S : Spec} {cc bytes : ByteArray} {maxL maxL' : Nat} {ret ret' : Option FieldType} {e : Env} {s s₁ : State} {m : MethodId} {args : Array Value} {below : List Frame} {meth : Method} {c : Code} {hh : List (Nat × Nat × Nat × Nat)}
    (B : BodyLoose p l y S cc maxL ret e s m args below meth c s₁) (h : (Cond.codeWith y bytes maxL' ret' hh).before args s = true) : c.exceptionTable.toList = tableOf hh := by
  obtain ⟨m9, meth9, c9, hn9, h1, h2, -, -, h6, -⟩ := Cond.codeWith_spec h
  cases Option.some.inj (hn9.symm.trans B.named)
  cases Option.some.inj (h1.symm.trans B.method)
  cases Option.some.inj (h2.symm.trans (Stand.of_body B).code)
  rw [← h6, table_eq]
end Bodies
end VXA
/-! ===== END ===== -/
/-! ===== BEGIN a static call of a method with an exception table ===== -/
section VXS
variable {p : Program} {l : Launch} {e : Env} {R : Room} {s : State} {m : MethodId} {args : Array Value} {below : List Frame} {meth : Method} {c : Code} {T : State} {H : Heap} {locs : List Loc} {cells slots : Nat}
abbrev vx_CSW (R : Room) (s : State) (args : Array Value) (own : String) (index : Nat) (y : MethodName) (bytes : ByteArray) (maxL : Nat) (ret : Option FieldType) (hh : List (Nat × Nat × Nat × Nat)) (ws : List Cond) (rm : Room) (mc ms n : Nat) : Prop :=
  (rm.cells = mc ∧ rm.slots = ms ∧ rm.frames + 1 ≤ R.frames ∧ 8 + (maxL + 11) + rm.locals ≤ R.locals ∧ (∀ w ∈ ws, ∀ (a' : Array Value) (U : State), s.WarmedH U.vm → w.before a' U = true) ∧ Cond.codeWith y bytes maxL ret hh ∈ ws) ∧
  (Cond.codeWith y bytes maxL ret hh).before args s = true ∧ (Cond.initialized y.cls).before args s = true ∧ (y.cls ≠ "java/lang/invoke/MethodHandle" ∧ y.cls ≠ "java/lang/invoke/VarHandle") ∧
  (∀ sig, parseMethodDescriptor y.desc = some sig → n = sig.parameters.length) ∧ (Cond.methodLink own index y).before args s = true ∧ (Cond.static y).before args s = true
theorem vx_cwSW {own : String} {index maxL mc ms : Nat} {y : MethodName} {bytes : ByteArray} {ret : Option FieldType} {hh : List (Nat × Nat × Nat × Nat)} {Ts ws ws' : List Cond} {rm : Room} (n : Nat) (ht : ∀ w ∈ Ts, w.before args s = true) (hT : GoodIn Ts (va_wsS own index y ws)) (hw : ws = Cond.codeWith y bytes maxL ret hh :: ws') (hrc : rm.cells = mc) (hrs : rm.slots = ms)
    (hd : y.cls ≠ "java/lang/invoke/MethodHandle" ∧ y.cls ≠ "java/lang/invoke/VarHandle" ∧ (parseMethodDescriptor y.desc).map (fun d => d.parameters.length) = some n) (hR : rm.frames + 1 ≤ R.frames ∧ 8 + (maxL + 11) + rm.locals ≤ R.locals) :
    vx_CSW R s args own index y bytes maxL ret hh ws rm mc ms n := by
  have ok : ∀ w ∈ va_wsS own index y ws, w.before args s = true := fun w h => ht w (hT w h).1
  have hG : GoodIn Ts ws := fun w h => hT w (by unfold va_wsS; exact List.mem_append_right _ h)
  have hc : Cond.codeWith y bytes maxL ret hh ∈ ws := by rw [hw]; exact List.mem_cons_self
  refine ⟨⟨hrc, hrs, hR.1, hR.2, pay_in ht hG, hc⟩, ht _ (hG _ hc).1, ok _ (by simp [va_wsS]), ⟨hd.1, hd.2.1⟩, fun sig h => ?_, ok _ (by simp [va_wsS]), ok _ (by simp [va_wsS])⟩
  have h2 := hd.2.2
  rw [h] at h2
  exact (Option.some.inj h2).symm
theorem vx_callSW (X : Stand p l e R s m args below meth c T locs cells slots) (hexec : p.tables.exec = Jvm.exec) {own : String} {index : Nat} {y : MethodName} {bytes : ByteArray} {maxL : Nat} {ret : Option FieldType} {hh : List (Nat × Nat × Nat × Nat)}
    (hown : s.vm.findClass own = some m.cls) (hlink : (Cond.methodLink own index y).before args s = true) (hstat : (Cond.static y).before args s = true) (hinit : (Cond.initialized y.cls).before args s = true)
    (hcode : (Cond.codeWith y bytes maxL ret hh).before args s = true) (hy : y.cls ≠ "java/lang/invoke/MethodHandle" ∧ y.cls ≠ "java/lang/invoke/VarHandle")
    {W9 : Nat} {Pre : Pt → Array Value → Prop} {Post : Pt → Array Value → Option Value → Pt → Prop} (hK : Back l R p e below s args y 3 W9 Pre Post)
    {g : JFrame} (hg : g.method = m) (hsize : g.locals.size = c.maxLocals) {argsL rest : List Value} (hlen : ∀ sig, parseMethodDescriptor y.desc = some sig → argsL.length = sig.parameters.length)
    (hstack : g.stack = argsL.reverse ++ rest) (hW : 2 * g.monitorRoom + (rest.map fun v => v.category).sum ≤ W9) (hdg : decode c.code g.pc = .ok (.invokestatic index, 3))
    (hpre : ∀ vm₁, s.WarmedH vm₁ → Pre ⟨T.setVm vm₁, locs, cells, slots⟩ argsL.toArray) :
    ∃ (v : Option Value) (vm₁ : Vm) (B : Pt), s.WarmedH vm₁ ∧ Stand p l e R s m args below meth c B.U B.locs B.cells B.slots ∧ Post ⟨T.setVm vm₁, locs, cells, slots⟩ argsL.toArray v B ∧
      ∀ target, Steps p.tables e below (B.U.setTop { g with pc := g.pc + 3, stack := v.toList ++ rest }) target → Steps p.tables e below (T.setTop g) target := by
  obtain ⟨mk, methM, cM, hnamed, hmethM, -, -, -, -, -, -, hsigM⟩ := Cond.codeWith_spec hcode
  have hstatic : methM.isStatic = true := Cond.static_spec hnamed hmethM hstat
  obtain ⟨kP, hkP, -⟩ := className_of_methodNamed hnamed
  have hinitP : kP.init = .initialized := Cond.initialized_spec (findClass_of_methodNamed hnamed) hkP hinit
  obtain ⟨vm₁, X₁, hstep₁⟩ := X.invokestatic hexec hown hlink hnamed hmethM hstatic hkP hinitP hy (g := g) hg (argsL := argsL) (rest := rest) (hlen _ hsigM) hstack hdg
  obtain ⟨v, B, X', hpost, hsteps⟩ := hK m meth c ⟨T.setVm vm₁, locs, cells, slots⟩ { g with stack := rest } (.invokestatic index) mk argsL.toArray X₁ hg hsize hdg hW (X₁.named hnamed) (hpre vm₁ X₁.warmed)
  exact ⟨v, vm₁, B, X₁.warmed, X', hpost, fun target h => hstep₁ _ fun acts => by rw [doInvoke_state]; exact hsteps.trans h⟩
theorem vx_runSW {y : MethodName} {bytes cc : ByteArray} {maxL nL mc ms n index : Nat} {ret : Option FieldType} {hh : List (Nat × Nat × Nat × Nat)} {ws : List Cond} {rm : Room} {Pc : Array Value → State → Prop} {Qc : Array Value → State → Outcome → State → Prop} {free : Addr → Prop} {Ts : List Cond} {own : String} {As rest : List Value} {g : JFrame}
    (S : CallFix p m c cc nL s args Ts own) (hM : Met l y ws rm Pc Qc mc ms free) (cw : vx_CSW R s args own index y bytes maxL ret hh ws rm mc ms n) (hp : PreS s H Pc As)
    (hg : g.method = m) (hn : As.length = n) (hsize : g.locals.size = nL) (hstack : g.stack = As.reverse ++ rest) (hW : 2 * g.monitorRoom + (rest.map fun v => v.category).sum ≤ 8) (hdg : decode cc g.pc = .ok (.invokestatic index, 3)) (hf : cells + mc ≤ R.cells ∧ slots + ms ≤ R.slots) :
    va_Run p l e R s m args below meth c H locs cells slots mc ms g rest (Qc As.toArray) (free) := by
  obtain ⟨⟨hrc, hrs, hfr, hlo, hws, hcw⟩, hcode, hini, hy, hlen, hl, hstt⟩ := cw
  have hK : Back l R p e below s args y 3 8 (PreOf R mc ms Pc) (PostOf Qc mc ms free) := va_backW (hh := hh) (bytes := bytes) (maxL := maxL) (ret := ret) hM hp.1 hrc hrs hfr hlo hws hcw (fun a' U hW => word_at hW (Or.inl (by first | rfl | simp [Cond.onTables, Cond.keeps, Cond.steady])) hini)
  obtain ⟨hx, hb, hml, ho, -⟩ := S
  intro T hT X
  obtain ⟨v, vm₁, ⟨U', l2, c2, s2⟩, hW₁, X', ⟨g', mk, t, L, e1, e2, hq, h1, hL, h2, h3⟩, st⟩ := vx_callSW X hx (hh := hh) (bytes := bytes) (maxL := maxL) (ret := ret) ho hl hstt hini hcode hy hK hg (hsize.trans hml.symm) (argsL := As) (rest := rest) (fun sig h => hn.trans (hlen sig h)) hstack hW (by rw [hb]; exact hdg)
    (fun vm₁ hW₁ => ⟨hf.1, hf.2, hp.2 (T.setVm vm₁) hT hW₁⟩)
  dsimp only [Pt.U, Pt.locs, Pt.cells, Pt.slots] at X' e1 e2 h1 h2 h3 st
  subst h1; subst h2; subst h3
  exact ⟨v, (T.setVm vm₁).calling g' mk As.toArray, t, U', L, hT, X', hL, e1, e2, hq, st⟩
/-- a thing of a world lies in the heap -/
theorem vx_lt {D : va_G} {cl : List vw_C} {ws : va_W} {H1 : Heap} (h : va_P D cl ws H1) {k : Nat} {q : Nat × va_E} (hk : ws[k]? = some q) : q.1 < H1.size := (h k q hk).lt
end VXS
/-! ===== END ===== -/
/-! ===== BEGIN methods with a table of their own: called by a name, returning or throwing ===== -/
section VXH
/-! vx_backW, vx_callVX, vx_callSX, vx_callVW, vx_runVW, vx_runVX, vx_runSX, vx_ofWH follow the same proofs as their sisters above (Free/Laws.lean, Shelf42/LK1.lean); vx_outP calls Shelf42/NT130.lean (outThrough). -/
section
variable {l : Launch} {R : Room} {p : Program} {e : Env} {below : List Frame} {s : State} {sargs : Array Value} {y : MethodName} {len W9 : Nat}
theorem vx_backW {ws : List Cond} {rm : Room} {Pc : Array Value → State → Prop} {Qc : Array Value → State → Outcome → State → Prop} {XC : String → State → State → Prop} {mc ms : Nat} {free : Addr → Prop} {bytes : ByteArray} {maxL : Nat} {ret : Option FieldType} {hh : List (Nat × Nat × Nat × Nat)}
    (hM : vx_Met l y ws rm Pc Qc XC mc ms free) (hblind : FrameBlind Pc) (hrc : rm.cells = mc) (hrs : rm.slots = ms)
    (hframes : rm.frames + 1 ≤ R.frames) (hlocals : W9 + (maxL + 11) + rm.locals ≤ R.locals)
    (hws : ∀ w ∈ ws, ∀ a' U, s.WarmedH U.vm → w.before a' U = true) (hcode : Cond.codeWith y bytes maxL ret hh ∈ ws) (hinit : ∀ a' U, s.WarmedH U.vm → (Cond.initialized y.cls).before a' U = true) :
    vx_Back l R p e below s sargs y len W9 (PreOf R mc ms Pc) (PostOf Qc mc ms free) (vx_Post XC mc ms free) := by
  intro m meth c A g ig mk a X hg hsize hdg hW hn hp
  have h1 : (headSpec ws rm).pre.before a A.U = true := atoms_intro fun w hw => hws w hw _ _ X.warmed
  have h2 : (Cond.codeWith y bytes maxL ret hh).before a A.U = true := hws _ hcode _ _ X.warmed
  have h3 : (Cond.initialized y.cls).before a A.U = true := hinit _ _ X.warmed
  have h4 : A.cells + (headSpec ws rm).room.cells ≤ R.cells := by rw [show (headSpec ws rm).room.cells = mc from hrc]; exact hp.1
  have h5 : A.slots + (headSpec ws rm).room.slots ≤ R.slots := by rw [show (headSpec ws rm).room.slots = ms from hrs]; exact hp.2.1
  have hPc : Pc a (A.U.calling g mk a) := hblind _ _ _ _ hp.2.2
  obtain ⟨U, Ls, c0, s0⟩ := A
  dsimp only [Pt.U, Pt.locs, Pt.cells, Pt.slots] at h1 h2 h3 h4 h5 X hn hPc ⊢
  obtain ⟨m9, methY, cY, hn9, hmY, hcY, -, hlY, -⟩ := Cond.codeWith_spec h2
  cases Option.some.inj (hn9.symm.trans hn)
  obtain ⟨kY, hkY, -⟩ := className_of_methodNamed hn
  have hinitY : kY.init = .initialized := Cond.initialized_spec (findClass_of_methodNamed hn) hkY h3
  have h : At U g.method c below := by rw [hg]; exact X.here
  have hlocals9 : W9 + (maxL + 11) + (headSpec ws rm).room.locals ≤ R.locals := hlocals
  have happ : (headSpec ws rm).appliesLoose y e.platform (U.calling g mk a) = true :=
    Spec.appliesLoose_calling (g := g) h hdg hn hkY hinitY
      (X.room_calling (g := g) (R' := (headSpec ws rm).room) hsize hmY hcY hframes (by rw [hlY]; omega) h4 h5) h1
  obtain ⟨mid, hmid⟩ := h.above
  have hfr : (U.setTop g).frames = (.java g :: mid) ++ below := by rw [State.frames_setTop' g h.top, hmid]; rfl
  obtain ⟨o, s₂, hsteps, -, hend, hq⟩ := Steps.callFree hM p X.admits X.cas X.clock (acts := []) hfr happ hPc trivial
  have hq' : vx_Q Qc XC mc ms free a (U.calling g mk a) o s₂ := hq
  rw [State.frames_setTop' g h.top] at hend
  obtain ⟨g₀, hg0⟩ := Option.isSome_iff_exists.mp h.top
  obtain ⟨r, hr⟩ := State.topJava?_eq_some.mp hg0
  have hr' : (({ U with heap := s₂.heap, slotsUsed := s₂.slotsUsed } : State).setVm s₂.vm).frames = .java g₀ :: r := hr
  rcases hq' with ⟨hqc, L, hfe, hL⟩ | ⟨q, rfl, E, ce, L, hx, hce, hcv, hcl, hW₂, hsm, hL⟩
  · obtain ⟨⟨v, rfl⟩, hW₂, e2, q2, q3, q4, q5, q6⟩ := id hfe
    have e3 : s₂ = ({ (U.calling g mk a).setFrames s₂.frames with heap := s₂.heap, slotsUsed := s₂.slotsUsed } : State).setVm s₂.vm := by
      have : s₂ = ({ s₂ with vm := (U.calling g mk a).vm } : State).setVm s₂.vm := rfl
      rw [e2] at this
      exact this
    obtain ⟨c₂, i₂, len₂, hc₂, hd₂, hf₂⟩ := hend
    have hW' : U.WarmedH s₂.vm := hW₂
    have hcc : c₂ = c := by
      have h1 : s₂.code? g.method = U.code? g.method := by
        rw [State.code?_eq, State.code?_eq, hW'.alike.method?]
      exact Option.some.inj (hc₂.symm.trans (h1.trans h.code))
    subst hcc
    have hlen : len₂ = len := by rw [hdg] at hd₂; cases hd₂; rfl
    subst hlen
    have hs₂ : s₂ = (({ U with heap := s₂.heap, slotsUsed := s₂.slotsUsed } : State).setVm s₂.vm).setTop { g with pc := g.pc + len₂, stack := v.toList ++ g.stack } := by
      refine e3.trans ?_
      rw [hf₂, State.calling_eq h.top, State.setFrames_setFrames, State.setTop_of_frames _ hr', hr]
      rfl
    have hsame : U.sameButNew ({ U with heap := s₂.heap, slotsUsed := s₂.slotsUsed } : State) L mc ms := by
      refine ⟨?_, q2, q3, q4, q5, q6⟩
      obtain ⟨t, ht, -⟩ := State.frames_cons hr
      show ({ U with heap := s₂.heap, slotsUsed := s₂.slotsUsed } : State) = { U.setFrames U.frames with heap := s₂.heap, slotsUsed := s₂.slotsUsed }
      rw [State.setFrames_self ht]
    subst hg
    refine Or.inl ⟨v, ⟨(({ U with heap := s₂.heap, slotsUsed := s₂.slotsUsed } : State).setVm s₂.vm), Ls ++ L, c0 + mc, s0 + ms⟩,
      ⟨X.admits, X.cas, X.clock, X.frames, X.room, X.hears, X.method, X.code, (X.here.setHeapUsed s₂.heap s₂.slotsUsed).setVm hW'.alike, X.tail, State.WarmedH.trans X.warmed hW', X.limits, X.bytes, X.same.trans (hsame.setVm s.vm)⟩,
      ⟨g, mk, s₂, L, rfl, rfl, hqc, rfl, hL, rfl, rfl⟩, ?_⟩
    show Steps p.tables e below _ ((({ U with heap := s₂.heap, slotsUsed := s₂.slotsUsed } : State).setVm s₂.vm).setTop { g with pc := g.pc + len₂, stack := v.toList ++ g.stack })
    rw [← hs₂]
    exact hsteps
  · obtain ⟨e2, q2, q3, q4, q5, q6⟩ := id hsm
    have e3 : s₂ = ({ (U.calling g mk a).setFrames s₂.frames with heap := s₂.heap, slotsUsed := s₂.slotsUsed } : State).setVm s₂.vm := by
      have : s₂ = ({ s₂ with vm := (U.calling g mk a).vm } : State).setVm s₂.vm := rfl
      rw [e2] at this
      exact this
    have hf₂ : s₂.frames = .throwing q :: .java g :: U.frames.tail := hend
    have hW' : U.WarmedH s₂.vm := hW₂
    have hs₂ : s₂ = ((({ U with heap := s₂.heap, slotsUsed := s₂.slotsUsed } : State).setVm s₂.vm).setTop g).pushFrame (.throwing q) := by
      refine e3.trans ?_
      rw [hf₂, State.calling_eq h.top, State.setFrames_setFrames, State.pushFrame, State.frames_setTop _ hr', State.setTop_of_frames _ hr', State.setFrames_setFrames, hr]
      rfl
    have hsame : U.sameButNew ({ U with heap := s₂.heap, slotsUsed := s₂.slotsUsed } : State) L mc ms := by
      refine ⟨?_, q2, q3, q4, q5, q6⟩
      obtain ⟨t, ht, -⟩ := State.frames_cons hr
      show ({ U with heap := s₂.heap, slotsUsed := s₂.slotsUsed } : State) = { U.setFrames U.frames with heap := s₂.heap, slotsUsed := s₂.slotsUsed }
      rw [State.setFrames_self ht]
    subst hg
    refine Or.inr ⟨q, ⟨(({ U with heap := s₂.heap, slotsUsed := s₂.slotsUsed } : State).setVm s₂.vm), Ls ++ L, c0 + mc, s0 + ms⟩,
      ⟨X.admits, X.cas, X.clock, X.frames, X.room, X.hears, X.method, X.code, (X.here.setHeapUsed s₂.heap s₂.slotsUsed).setVm hW'.alike, X.tail, State.WarmedH.trans X.warmed hW', X.limits, X.bytes, X.same.trans (hsame.setVm s.vm)⟩,
      ⟨g, mk, s₂, L, E, ce, rfl, rfl, hx, hce, hcv, hcl, rfl, hL, rfl, rfl⟩, ?_⟩
    show Steps p.tables e below _ (((({ U with heap := s₂.heap, slotsUsed := s₂.slotsUsed } : State).setVm s₂.vm).setTop g).pushFrame (.throwing q))
    rw [← hs₂]
    exact hsteps
end
variable {p : Program} {l : Launch} {e : Env} {R : Room} {s : State} {m : MethodId} {args : Array Value} {below : List Frame} {meth : Method} {c : Code} {T : State} {H : Heap} {locs : List Loc} {cells slots : Nat}
theorem vx_callVX (X : Stand p l e R s m args below meth c T locs cells slots) (hexec : p.tables.exec = Jvm.exec) {own C : String} {index : Nat} {y : MethodName} {bytes : ByteArray} {maxL : Nat} {ret : Option FieldType} {hh : List (Nat × Nat × Nat × Nat)}
    (hown : s.vm.findClass own = some m.cls) (hlink : (Cond.methodLink own index y).before args s = true) (hinst : (Cond.instanceMethod y).before args s = true) (hsel : (Cond.selects C y y).before args s = true)
    (hcode : (Cond.codeWith y bytes maxL ret hh).before args s = true) (hy : y.cls ≠ "java/lang/invoke/MethodHandle" ∧ y.cls ≠ "java/lang/invoke/VarHandle")
    {W9 : Nat} {Pre : Pt → Array Value → Prop} {Post : Pt → Array Value → Option Value → Pt → Prop} {PostX : Pt → Array Value → Addr → Pt → Prop} (hK : vx_Back l R p e below s args y 3 W9 Pre Post PostX)
    {b : Addr} {cellB : Cell} (hcell : T.heap[b]? = some cellB) (hobj : cellB.vm.isStatics = false) (hcls : s.vm.findClass C = some cellB.cls)
    {g : JFrame} (hg : g.method = m) (hsize : g.locals.size = c.maxLocals) {argsL rest : List Value} (hlen : ∀ sig, parseMethodDescriptor y.desc = some sig → argsL.length = sig.parameters.length)
    (hstack : g.stack = argsL.reverse ++ .ref b :: rest) (hW : 2 * g.monitorRoom + (rest.map fun v => v.category).sum ≤ W9) (hdg : decode c.code g.pc = .ok (.invokevirtual index, 3))
    (hpre : ∀ vm₁, s.WarmedH vm₁ → Pre ⟨T.setVm vm₁, locs, cells, slots⟩ (Value.ref b :: argsL).toArray) :
    (∃ (v : Option Value) (vm₁ : Vm) (B : Pt), s.WarmedH vm₁ ∧ Stand p l e R s m args below meth c B.U B.locs B.cells B.slots ∧ Post ⟨T.setVm vm₁, locs, cells, slots⟩ (Value.ref b :: argsL).toArray v B ∧
      ∀ target, Steps p.tables e below (B.U.setTop { g with pc := g.pc + 3, stack := v.toList ++ rest }) target → Steps p.tables e below (T.setTop g) target) ∨
    (∃ (q : Addr) (vm₁ : Vm) (B : Pt), s.WarmedH vm₁ ∧ Stand p l e R s m args below meth c B.U B.locs B.cells B.slots ∧ PostX ⟨T.setVm vm₁, locs, cells, slots⟩ (Value.ref b :: argsL).toArray q B ∧
      Steps p.tables e below (T.setTop g) ((B.U.setTop { g with stack := rest }).pushFrame (.throwing q))) := by
  obtain ⟨mk, methM, hnamed, hmethM, hstM, habM⟩ := Cond.instanceMethod_spec hinst
  obtain ⟨m8, methM', cM, hn8, hmethM', -, -, -, -, -, -, hsigM⟩ := Cond.codeWith_spec hcode
  cases Option.some.inj (hn8.symm.trans hnamed)
  cases hmethM.symm.trans hmethM'
  obtain ⟨c2, r2, m2, q1, q2, q3, q4, kP, hkP, hkPi⟩ := Cond.selects_spec hsel
  cases hcls.symm.trans q1
  cases (State.methodFound?_of_named hnamed hy).symm.trans q2
  cases hnamed.symm.trans q3
  have hselP : selectMethod e.platform s.vm cellB.cls mk = .method mk := by rw [Launch.admits_selectMethod X.admits]; exact q4
  obtain ⟨vm₁, X₁, hstep₁⟩ := X.invokevirtual hexec hown hlink hnamed hmethM hstM hkP hkPi hy (a := b) (cell := cellB) hcell
    (fun z h => by rw [h] at hobj; cases hobj) hselP hmethM habM hkP hkPi (g := g) hg (argsL := argsL) (rest := rest) (hlen _ hsigM) hstack hdg
  rcases hK m meth c ⟨T.setVm vm₁, locs, cells, slots⟩ { g with stack := rest } (.invokevirtual index) mk (Value.ref b :: argsL).toArray X₁ hg hsize hdg hW (X₁.named hnamed) (hpre vm₁ X₁.warmed) with ⟨v, B, X', hpost, hsteps⟩ | ⟨q, B, X', hpost, hsteps⟩
  · exact Or.inl ⟨v, vm₁, B, X₁.warmed, X', hpost, fun target h => hstep₁ _ fun acts => by rw [doInvoke_state]; exact hsteps.trans h⟩
  · exact Or.inr ⟨q, vm₁, B, X₁.warmed, X', hpost, hstep₁ _ fun acts => by rw [doInvoke_state]; exact hsteps⟩
theorem vx_callSX (X : Stand p l e R s m args below meth c T locs cells slots) (hexec : p.tables.exec = Jvm.exec) {own : String} {index : Nat} {y : MethodName} {bytes : ByteArray} {maxL : Nat} {ret : Option FieldType} {hh : List (Nat × Nat × Nat × Nat)}
    (hown : s.vm.findClass own = some m.cls) (hlink : (Cond.methodLink own index y).before args s = true) (hstat : (Cond.static y).before args s = true) (hinit : (Cond.initialized y.cls).before args s = true)
    (hcode : (Cond.codeWith y bytes maxL ret hh).before args s = true) (hy : y.cls ≠ "java/lang/invoke/MethodHandle" ∧ y.cls ≠ "java/lang/invoke/VarHandle")
    {W9 : Nat} {Pre : Pt → Array Value → Prop} {Post : Pt → Array Value → Option Value → Pt → Prop} {PostX : Pt → Array Value → Addr → Pt → Prop} (hK : vx_Back l R p e below s args y 3 W9 Pre Post PostX)
    {g : JFrame} (hg : g.method = m) (hsize : g.locals.size = c.maxLocals) {argsL rest : List Value} (hlen : ∀ sig, parseMethodDescriptor y.desc = some sig → argsL.length = sig.parameters.length)
    (hstack : g.stack = argsL.reverse ++ rest) (hW : 2 * g.monitorRoom + (rest.map fun v => v.category).sum ≤ W9) (hdg : decode c.code g.pc = .ok (.invokestatic index, 3))
    (hpre : ∀ vm₁, s.WarmedH vm₁ → Pre ⟨T.setVm vm₁, locs, cells, slots⟩ argsL.toArray) :
    (∃ (v : Option Value) (vm₁ : Vm) (B : Pt), s.WarmedH vm₁ ∧ Stand p l e R s m args below meth c B.U B.locs B.cells B.slots ∧ Post ⟨T.setVm vm₁, locs, cells, slots⟩ argsL.toArray v B ∧
      ∀ target, Steps p.tables e below (B.U.setTop { g with pc := g.pc + 3, stack := v.toList ++ rest }) target → Steps p.tables e below (T.setTop g) target) ∨
    (∃ (q : Addr) (vm₁ : Vm) (B : Pt), s.WarmedH vm₁ ∧ Stand p l e R s m args below meth c B.U B.locs B.cells B.slots ∧ PostX ⟨T.setVm vm₁, locs, cells, slots⟩ argsL.toArray q B ∧
      Steps p.tables e below (T.setTop g) ((B.U.setTop { g with stack := rest }).pushFrame (.throwing q))) := by
  obtain ⟨mk, methM, cM, hnamed, hmethM, -, -, -, -, -, -, hsigM⟩ := Cond.codeWith_spec hcode
  have hstatic : methM.isStatic = true := Cond.static_spec hnamed hmethM hstat
  obtain ⟨kP, hkP, -⟩ := className_of_methodNamed hnamed
  have hinitP : kP.init = .initialized := Cond.initialized_spec (findClass_of_methodNamed hnamed) hkP hinit
  obtain ⟨vm₁, X₁, hstep₁⟩ := X.invokestatic hexec hown hlink hnamed hmethM hstatic hkP hinitP hy (g := g) hg (argsL := argsL) (rest := rest) (hlen _ hsigM) hstack hdg
  rcases hK m meth c ⟨T.setVm vm₁, locs, cells, slots⟩ { g with stack := rest } (.invokestatic index) mk argsL.toArray X₁ hg hsize hdg hW (X₁.named hnamed) (hpre vm₁ X₁.warmed) with ⟨v, B, X', hpost, hsteps⟩ | ⟨q, B, X', hpost, hsteps⟩
  · exact Or.inl ⟨v, vm₁, B, X₁.warmed, X', hpost, fun target h => hstep₁ _ fun acts => by rw [doInvoke_state]; exact hsteps.trans h⟩
  · exact Or.inr ⟨q, vm₁, B, X₁.warmed, X', hpost, hstep₁ _ fun acts => by rw [doInvoke_state]; exact hsteps⟩
theorem vx_callVW (X : Stand p l e R s m args below meth c T locs cells slots) (hexec : p.tables.exec = Jvm.exec) {own C : String} {index : Nat} {y : MethodName} {bytes : ByteArray} {maxL : Nat} {ret : Option FieldType} {hh : List (Nat × Nat × Nat × Nat)}
    (hown : s.vm.findClass own = some m.cls) (hlink : (Cond.methodLink own index y).before args s = true) (hinst : (Cond.instanceMethod y).before args s = true) (hsel : (Cond.selects C y y).before args s = true)
    (hcode : (Cond.codeWith y bytes maxL ret hh).before args s = true) (hy : y.cls ≠ "java/lang/invoke/MethodHandle" ∧ y.cls ≠ "java/lang/invoke/VarHandle")
    {W9 : Nat} {Pre : Pt → Array Value → Prop} {Post : Pt → Array Value → Option Value → Pt → Prop} (hK : Back l R p e below s args y 3 W9 Pre Post)
    {b : Addr} {cellB : Cell} (hcell : T.heap[b]? = some cellB) (hobj : cellB.vm.isStatics = false) (hcls : s.vm.findClass C = some cellB.cls)
    {g : JFrame} (hg : g.method = m) (hsize : g.locals.size = c.maxLocals) {argsL rest : List Value} (hlen : ∀ sig, parseMethodDescriptor y.desc = some sig → argsL.length = sig.parameters.length)
    (hstack : g.stack = argsL.reverse ++ .ref b :: rest) (hW : 2 * g.monitorRoom + (rest.map fun v => v.category).sum ≤ W9) (hdg : decode c.code g.pc = .ok (.invokevirtual index, 3))
    (hpre : ∀ vm₁, s.WarmedH vm₁ → Pre ⟨T.setVm vm₁, locs, cells, slots⟩ (Value.ref b :: argsL).toArray) :
    ∃ (v : Option Value) (vm₁ : Vm) (B : Pt), s.WarmedH vm₁ ∧ Stand p l e R s m args below meth c B.U B.locs B.cells B.slots ∧ Post ⟨T.setVm vm₁, locs, cells, slots⟩ (Value.ref b :: argsL).toArray v B ∧
      ∀ target, Steps p.tables e below (B.U.setTop { g with pc := g.pc + 3, stack := v.toList ++ rest }) target → Steps p.tables e below (T.setTop g) target := by
  obtain ⟨mk, methM, hnamed, hmethM, hstM, habM⟩ := Cond.instanceMethod_spec hinst
  obtain ⟨m8, methM', cM, hn8, hmethM', -, -, -, -, -, -, hsigM⟩ := Cond.codeWith_spec hcode
  cases Option.some.inj (hn8.symm.trans hnamed)
  cases hmethM.symm.trans hmethM'
  obtain ⟨c2, r2, m2, q1, q2, q3, q4, kP, hkP, hkPi⟩ := Cond.selects_spec hsel
  cases hcls.symm.trans q1
  cases (State.methodFound?_of_named hnamed hy).symm.trans q2
  cases hnamed.symm.trans q3
  have hselP : selectMethod e.platform s.vm cellB.cls mk = .method mk := by rw [Launch.admits_selectMethod X.admits]; exact q4
  obtain ⟨vm₁, X₁, hstep₁⟩ := X.invokevirtual hexec hown hlink hnamed hmethM hstM hkP hkPi hy (a := b) (cell := cellB) hcell
    (fun z h => by rw [h] at hobj; cases hobj) hselP hmethM habM hkP hkPi (g := g) hg (argsL := argsL) (rest := rest) (hlen _ hsigM) hstack hdg
  obtain ⟨v, B, X', hpost, hsteps⟩ := hK m meth c ⟨T.setVm vm₁, locs, cells, slots⟩ { g with stack := rest } (.invokevirtual index) mk (Value.ref b :: argsL).toArray X₁ hg hsize hdg hW (X₁.named hnamed) (hpre vm₁ X₁.warmed)
  exact ⟨v, vm₁, B, X₁.warmed, X', hpost, fun target h => hstep₁ _ fun acts => by rw [doInvoke_state]; exact hsteps.trans h⟩
abbrev vx_CVW (R : Room) (s : State) (args : Array Value) (own C : String) (index : Nat) (y : MethodName) (bytes : ByteArray) (maxL : Nat) (ret : Option FieldType) (hh : List (Nat × Nat × Nat × Nat)) (ws : List Cond) (rm : Room) (mc ms n : Nat) : Prop :=
  (rm.cells = mc ∧ rm.slots = ms ∧ rm.frames + 1 ≤ R.frames ∧ 8 + (maxL + 11) + rm.locals ≤ R.locals ∧ (∀ w ∈ ws, ∀ (a' : Array Value) (U : State), s.WarmedH U.vm → w.before a' U = true) ∧ Cond.codeWith y bytes maxL ret hh ∈ ws) ∧
  (Cond.codeWith y bytes maxL ret hh).before args s = true ∧ (Cond.initialized y.cls).before args s = true ∧ (y.cls ≠ "java/lang/invoke/MethodHandle" ∧ y.cls ≠ "java/lang/invoke/VarHandle") ∧
  (∀ sig, parseMethodDescriptor y.desc = some sig → n = sig.parameters.length) ∧ (Cond.methodLink own index y).before args s = true ∧ (Cond.instanceMethod y).before args s = true ∧ (Cond.selects C y y).before args s = true
theorem vx_cwVW {own C : String} {index maxL mc ms : Nat} {y : MethodName} {bytes : ByteArray} {ret : Option FieldType} {hh : List (Nat × Nat × Nat × Nat)} {Ts ws ws' : List Cond} {rm : Room} (n : Nat) (ht : ∀ w ∈ Ts, w.before args s = true) (hT : GoodIn Ts (wsV own index C y ws)) (hw : ws = Cond.codeWith y bytes maxL ret hh :: ws') (hrc : rm.cells = mc) (hrs : rm.slots = ms)
    (hd : y.cls = C ∧ y.cls ≠ "java/lang/invoke/MethodHandle" ∧ y.cls ≠ "java/lang/invoke/VarHandle" ∧ (parseMethodDescriptor y.desc).map (fun d => d.parameters.length) = some n) (hR : rm.frames + 1 ≤ R.frames ∧ 8 + (maxL + 11) + rm.locals ≤ R.locals) :
    vx_CVW R s args own C index y bytes maxL ret hh ws rm mc ms n := by
  obtain ⟨hC, hd⟩ := hd
  subst hC
  have ok : ∀ w ∈ wsV own index y.cls y ws, w.before args s = true := fun w h => ht w (hT w h).1
  have hG : GoodIn Ts ws := fun w h => hT w (by unfold wsV; exact List.mem_append_right _ h)
  have hc : Cond.codeWith y bytes maxL ret hh ∈ ws := by rw [hw]; exact List.mem_cons_self
  refine ⟨⟨hrc, hrs, hR.1, hR.2, pay_in ht hG, hc⟩, ht _ (hG _ hc).1, ok _ (by simp [wsV]), ⟨hd.1, hd.2.1⟩, fun sig h => ?_, ok _ (by simp [wsV]), ok _ (by simp [wsV]), ok _ (by simp [wsV])⟩
  have h2 := hd.2.2
  rw [h] at h2
  exact (Option.some.inj h2).symm
theorem vx_runVW {y : MethodName} {bytes cc : ByteArray} {maxL nL mc ms n index : Nat} {ret : Option FieldType} {hh : List (Nat × Nat × Nat × Nat)} {ws : List Cond} {rm : Room} {Pc : Array Value → State → Prop} {Qc : Array Value → State → Outcome → State → Prop} {free : Addr → Prop} {Ts : List Cond} {own C : String} {b : Addr} {As rest : List Value} {g : JFrame}
    (S : CallFix p m c cc nL s args Ts own) (hM : Met l y ws rm Pc Qc mc ms free) (cw : vx_CVW R s args own C index y bytes maxL ret hh ws rm mc ms n) (hp : PreV s H C b Pc As)
    (hg : g.method = m) (hn : As.length = n) (hsize : g.locals.size = nL) (hstack : g.stack = As.reverse ++ .ref b :: rest) (hW : 2 * g.monitorRoom + (rest.map fun v => v.category).sum ≤ 8) (hdg : decode cc g.pc = .ok (.invokevirtual index, 3)) (hf : cells + mc ≤ R.cells ∧ slots + ms ≤ R.slots) :
    va_Run p l e R s m args below meth c H locs cells slots mc ms g rest (Qc (Value.ref b :: As).toArray) free := by
  obtain ⟨⟨hrc, hrs, hfr, hlo, hws, hcw⟩, hcode, hini, hy, hlen, hl, hin, hse⟩ := cw
  have hK : Back l R p e below s args y 3 8 (PreOf R mc ms Pc) (PostOf Qc mc ms free) := va_backW (hh := hh) (bytes := bytes) (maxL := maxL) (ret := ret) hM hp.1 hrc hrs hfr hlo hws hcw (fun a' U hW => word_at hW (Or.inl (by first | rfl | simp [Cond.onTables, Cond.keeps, Cond.steady])) hini)
  obtain ⟨hx, hb, hml, ho, -⟩ := S
  obtain ⟨-, ⟨cellB, hcB, hoB, hclB⟩, hPc⟩ := hp
  intro T hT X
  obtain ⟨v, vm₁, ⟨U', l2, c2, s2⟩, hW₁, X', ⟨g', mk, t, L, e1, e2, hq, h1, hL, h2, h3⟩, st⟩ := vx_callVW X hx (C := C) (hh := hh) (bytes := bytes) (maxL := maxL) (ret := ret) ho hl hin hse hcode hy hK (by rw [hT]; exact hcB) hoB hclB hg (hsize.trans hml.symm) (argsL := As) (rest := rest) (fun sig h => hn.trans (hlen sig h)) hstack hW (by rw [hb]; exact hdg)
    (fun vm₁ hW₁ => ⟨hf.1, hf.2, hPc (T.setVm vm₁) hT hW₁⟩)
  dsimp only [Pt.U, Pt.locs, Pt.cells, Pt.slots] at X' e1 e2 h1 h2 h3 st
  subst h1; subst h2; subst h3
  exact ⟨v, (T.setVm vm₁).calling g' mk (Value.ref b :: As).toArray, t, U', L, hT, X', hL, e1, e2, hq, st⟩
section
variable {y : MethodName} {bytes cc : ByteArray} {maxL nL mc ms n index : Nat} {ret : Option FieldType} {ws : List Cond} {rm : Room} {Pc : Array Value → State → Prop} {Qc : Array Value → State → Outcome → State → Prop} {XC : String → State → State → Prop} {free : Addr → Prop} {Ts : List Cond} {own C : String} {b : Addr} {As rest : List Value} {g : JFrame}
theorem vx_runVX {hh : List (Nat × Nat × Nat × Nat)} (S : CallFix p m c cc nL s args Ts own) (hM : vx_Met l y ws rm Pc Qc XC mc ms free) (cw : vx_CVW R s args own C index y bytes maxL ret hh ws rm mc ms n) (hp : PreV s H C b Pc As)
    (hg : g.method = m) (hn : As.length = n) (hsize : g.locals.size = nL) (hstack : g.stack = As.reverse ++ .ref b :: rest) (hW : 2 * g.monitorRoom + (rest.map fun v => v.category).sum ≤ 8) (hdg : decode cc g.pc = .ok (.invokevirtual index, 3)) (hf : cells + mc ≤ R.cells ∧ slots + ms ≤ R.slots) :
    vx_Run p l e R s m args below meth c H locs cells slots mc ms g rest (Qc (Value.ref b :: As).toArray) XC free := by
  obtain ⟨⟨hrc, hrs, hfr, hlo, hws, hcw⟩, hcode, hini, hy, hlen, hl, hin, hse⟩ := cw
  have hK : vx_Back l R p e below s args y 3 8 (PreOf R mc ms Pc) (PostOf Qc mc ms free) (vx_Post XC mc ms free) := vx_backW (hh := hh) (bytes := bytes) (maxL := maxL) (ret := ret) hM hp.1 hrc hrs hfr hlo hws hcw (fun a' U hW => word_at hW (Or.inl (by first | rfl | simp [Cond.onTables, Cond.keeps, Cond.steady])) hini)
  obtain ⟨hx, hb, hml, ho, -⟩ := S
  obtain ⟨-, ⟨cellB, hcB, hoB, hclB⟩, hPc⟩ := hp
  intro T hT X
  rcases vx_callVX X hx (C := C) (hh := hh) (bytes := bytes) (maxL := maxL) (ret := ret) ho hl hin hse hcode hy hK (by rw [hT]; exact hcB) hoB hclB hg (hsize.trans hml.symm) (argsL := As) (rest := rest) (fun sig h => hn.trans (hlen sig h)) hstack hW (by rw [hb]; exact hdg)
    (fun vm₁ hW₁ => ⟨hf.1, hf.2, hPc (T.setVm vm₁) hT hW₁⟩) with ⟨v, vm₁, ⟨U', l2, c2, s2⟩, hW₁, X', ⟨g', mk, t, L, e1, e2, hq, h1, hL, h2, h3⟩, st⟩ | ⟨q, vm₁, ⟨U', l2, c2, s2⟩, hW₁, X', ⟨g', mk, t, L, E, ce, e1, e2, hq, hce, hcv, hcl, h1, hL, h2, h3⟩, st⟩
  · dsimp only [Pt.U, Pt.locs, Pt.cells, Pt.slots] at X' e1 e2 h1 h2 h3 st
    subst h1; subst h2; subst h3
    exact Or.inl ⟨v, (T.setVm vm₁).calling g' mk (Value.ref b :: As).toArray, t, U', L, hT, X', hL, e1, e2, hq, st⟩
  · dsimp only [Pt.U, Pt.locs, Pt.cells, Pt.slots] at X' e1 e2 h1 h2 h3 st hcl
    subst h1; subst h2; subst h3
    exact Or.inr ⟨q, (T.setVm vm₁).calling g' mk (Value.ref b :: As).toArray, t, U', L, E, ce, hT, X', hL, e1, e2, hq, hce, hcv, vx_cls hW₁ hcl, st⟩
theorem vx_runSX {hh : List (Nat × Nat × Nat × Nat)} (S : CallFix p m c cc nL s args Ts own) (hM : vx_Met l y ws rm Pc Qc XC mc ms free) (cw : vx_CSW R s args own index y bytes maxL ret hh ws rm mc ms n) (hp : PreS s H Pc As)
    (hg : g.method = m) (hn : As.length = n) (hsize : g.locals.size = nL) (hstack : g.stack = As.reverse ++ rest) (hW : 2 * g.monitorRoom + (rest.map fun v => v.category).sum ≤ 8) (hdg : decode cc g.pc = .ok (.invokestatic index, 3)) (hf : cells + mc ≤ R.cells ∧ slots + ms ≤ R.slots) :
    vx_Run p l e R s m args below meth c H locs cells slots mc ms g rest (Qc As.toArray) XC free := by
  obtain ⟨⟨hrc, hrs, hfr, hlo, hws, hcw⟩, hcode, hini, hy, hlen, hl, hstt⟩ := cw
  have hK : vx_Back l R p e below s args y 3 8 (PreOf R mc ms Pc) (PostOf Qc mc ms free) (vx_Post XC mc ms free) := vx_backW (hh := hh) (bytes := bytes) (maxL := maxL) (ret := ret) hM hp.1 hrc hrs hfr hlo hws hcw (fun a' U hW => word_at hW (Or.inl (by first | rfl | simp [Cond.onTables, Cond.keeps, Cond.steady])) hini)
  obtain ⟨hx, hb, hml, ho, -⟩ := S
  intro T hT X
  rcases vx_callSX X hx (hh := hh) (bytes := bytes) (maxL := maxL) (ret := ret) ho hl hstt hini hcode hy hK hg (hsize.trans hml.symm) (argsL := As) (rest := rest) (fun sig h => hn.trans (hlen sig h)) hstack hW (by rw [hb]; exact hdg)
    (fun vm₁ hW₁ => ⟨hf.1, hf.2, hp.2 (T.setVm vm₁) hT hW₁⟩) with ⟨v, vm₁, ⟨U', l2, c2, s2⟩, hW₁, X', ⟨g', mk, t, L, e1, e2, hq, h1, hL, h2, h3⟩, st⟩ | ⟨q, vm₁, ⟨U', l2, c2, s2⟩, hW₁, X', ⟨g', mk, t, L, E, ce, e1, e2, hq, hce, hcv, hcl, h1, hL, h2, h3⟩, st⟩
  · dsimp only [Pt.U, Pt.locs, Pt.cells, Pt.slots] at X' e1 e2 h1 h2 h3 st
    subst h1; subst h2; subst h3
    exact Or.inl ⟨v, (T.setVm vm₁).calling g' mk As.toArray, t, U', L, hT, X', hL, e1, e2, hq, st⟩
  · dsimp only [Pt.U, Pt.locs, Pt.cells, Pt.slots] at X' e1 e2 h1 h2 h3 st hcl
    subst h1; subst h2; subst h3
    exact Or.inr ⟨q, (T.setVm vm₁).calling g' mk As.toArray, t, U', L, E, ce, hT, X', hL, e1, e2, hq, hce, hcv, vx_cls hW₁ hcl, st⟩
end
end VXH
theorem vx_ofWH {l : Launch} {y : MethodName} {ws ws' : List Cond} {rm : Room} {Pc : Array Value → State → Prop} {Qc : Array Value → State → Outcome → State → Prop} {XC : String → State → State → Prop} {mc ms : Nat} {free : Addr → Prop} {cc : ByteArray} {maxL : Nat} {ret : Option FieldType} {hh : List (Nat × Nat × Nat × Nat)}
    (hy : plainName y.cls = true) (hw : ws = Cond.codeWith y cc maxL ret hh :: ws')
    (body : ∀ p e s m args below meth c s₁, BodyLoose p l y (headSpec ws rm) cc maxL ret e s m args below meth c s₁ → c.maxLocals = maxL → Pc args s →
      W p l e (headSpec ws rm).room s m args below meth c s.heap [] 0 0 (vx_MQ below Qc XC args s mc ms free) (entryFrame m args maxL)) : vx_Met l y ws rm Pc Qc XC mc ms free := by
  refine MetFree.of_bodyS (code := cc) (maxLocals := maxL) (ret := ret) hy ?_ ?_
  · intro args s m h hn
    obtain ⟨m9, meth, c, hn9, h1, h2, h3, h4, -, h5, h6, -⟩ := Cond.codeWith_spec (atoms_spec (ws := ws) h _ (by rw [hw]; exact List.mem_cons_self))
    cases hn.symm.trans hn9
    exact ⟨meth, c, h1, h2, h3, h4, h5, h6⟩
  · intro p e s m args below meth c s₁ B hml hP _
    have hh0 : s₁.heap = s.heap := by rw [B.state]; rfl
    obtain ⟨t, a1, o, b1, b2, b3⟩ := body p e s m args below meth c s₁ B hml hP s₁ hh0 (Stand.of_body B)
    exact ⟨t, o, a1, b1, b2, b3⟩
/-! ===== END ===== -/
end
section
/-! ===== BEGIN printed: names, fields, word lists, decode rows ===== -/
def RX0 : String := "ClosedSums$Division"
def TX0 : u_T := fun k => match k with
  | 0 => ("ClosedSums$Division", "first", "LClosedSums$Polynomial;", true)
  | 1 => ("ClosedSums$Division", "second", "LClosedSums$Polynomial;", true)
  | 2 => ("ClosedSums$Division", "quotient", "LClosedSums$Polynomial;", true)
  | _ => ("ClosedSums$Division", "common", "LClosedSums$Polynomial;", true)
def tyX0 : Nat → FieldType := fun k => match k with
  | 0 => .object "ClosedSums$Polynomial"
  | 1 => .object "ClosedSums$Polynomial"
  | 2 => .object "ClosedSums$Polynomial"
  | _ => .object "ClosedSums$Polynomial"
abbrev wsX00 : List Cond := u_ws RX0 TX0 4
theorem nmX0 : ∀ a, a < 4 → ∀ b, b < 4 → a ≠ b → (TX0 a).2.1 ≠ (TX0 b).2.1 := by decide +kernel
theorem tyX0_ok : ∀ k, k < 4 → parseFieldDescriptor (TX0 k).2.2.1 = some (tyX0 k) := by decide +kernel
abbrev cX0_init : ByteArray := prog_2_method_1_code
def yX0_init : MethodName := ⟨RX0, "<init>", "()V"⟩
abbrev cX0_commonDivisor : ByteArray := prog_2_method_2_code
def yX0_commonDivisor : MethodName := ⟨RX0, "commonDivisor", "(LClosedSums$Polynomial;LClosedSums$Polynomial;)LClosedSums$Polynomial;"⟩
abbrev cX0_divideOut : ByteArray := prog_2_method_3_code
def yX0_divideOut : MethodName := ⟨RX0, "divideOut", "(LClosedSums$Polynomial;LClosedSums$Polynomial;)V"⟩
def RX1 : String := "ClosedSums$Equation"
def TX1 : u_T := fun k => match k with
  | 0 => ("ClosedSums$Equation", "pairs", "[LClosedSums$Pair;", true)
  | 1 => ("ClosedSums$Equation", "byHighest", "[LClosedSums$Pair;", true)
  | 2 => ("ClosedSums$Equation", "remaining", "LClosedSums$Pair;", true)
  | 3 => ("ClosedSums$Equation", "bottomBefore", "LClosedSums$Polynomial;", true)
  | 4 => ("ClosedSums$Equation", "topGrown", "LClosedSums$Polynomial;", true)
  | 5 => ("ClosedSums$Equation", "placeAfter", "LClosedSums$Polynomial;", true)
  | 6 => ("ClosedSums$Equation", "leastDegree", "I", false)
  | _ => ("ClosedSums$Equation", "known", "Z", false)
def tyX1 : Nat → FieldType := fun k => match k with
  | 0 => .array (.object "ClosedSums$Pair")
  | 1 => .array (.object "ClosedSums$Pair")
  | 2 => .object "ClosedSums$Pair"
  | 3 => .object "ClosedSums$Polynomial"
  | 4 => .object "ClosedSums$Polynomial"
  | 5 => .object "ClosedSums$Polynomial"
  | 6 => .int
  | _ => .boolean
abbrev wsX10 : List Cond := u_ws RX1 TX1 8
theorem nmX1 : ∀ a, a < 8 → ∀ b, b < 8 → a ≠ b → (TX1 a).2.1 ≠ (TX1 b).2.1 := by decide +kernel
theorem tyX1_ok : ∀ k, k < 8 → parseFieldDescriptor (TX1 k).2.2.1 = some (tyX1 k) := by decide +kernel
abbrev cX1_init : ByteArray := prog_3_method_1_code
def yX1_init : MethodName := ⟨RX1, "<init>", "()V"⟩
abbrev cX1_forget : ByteArray := prog_3_method_2_code
def yX1_forget : MethodName := ⟨RX1, "forget", "()V"⟩
abbrev cX1_leastDegree : ByteArray := prog_3_method_3_code
def yX1_leastDegree : MethodName := ⟨RX1, "leastDegree", "()I"⟩
abbrev cX1_solution : ByteArray := prog_3_method_4_code
def yX1_solution : MethodName := ⟨RX1, "solution", "()LClosedSums$Polynomial;"⟩
abbrev cX1_renew : ByteArray := prog_3_method_5_code
def yX1_renew : MethodName := ⟨RX1, "renew", "(LClosedSums$RatioSplit;)V"⟩
abbrev cX1_start : ByteArray := prog_3_method_6_code
def yX1_start : MethodName := ⟨RX1, "start", "(LClosedSums$RatioSplit;)V"⟩
abbrev cX1_solve : ByteArray := prog_3_method_7_code
def yX1_solve : MethodName := ⟨RX1, "solve", "()I"⟩
abbrev cX1_fill : ByteArray := prog_3_method_8_code
def yX1_fill : MethodName := ⟨RX1, "fill", "(LClosedSums$Pair;I)V"⟩
abbrev cX1_lower : ByteArray := prog_3_method_9_code
def yX1_lower : MethodName := ⟨RX1, "lower", "(LClosedSums$Pair;)V"⟩
abbrev cX1_keep : ByteArray := prog_3_method_10_code
def yX1_keep : MethodName := ⟨RX1, "keep", "(LClosedSums$Pair;)V"⟩
abbrev cX1_bottomBefore : ByteArray := prog_3_method_11_code
def yX1_bottomBefore : MethodName := ⟨RX1, "bottomBefore", "()LClosedSums$Polynomial;"⟩
def RX2 : String := "ClosedSums$Fraction"
def TX2 : u_T := fun k => match k with
  | 0 => ("ClosedSums$Fraction", "top", "LClosedSums$Polynomial;", true)
  | 1 => ("ClosedSums$Fraction", "bottom", "LClosedSums$Polynomial;", true)
  | _ => ("ClosedSums$Fraction", "known", "Z", false)
def tyX2 : Nat → FieldType := fun k => match k with
  | 0 => .object "ClosedSums$Polynomial"
  | 1 => .object "ClosedSums$Polynomial"
  | _ => .boolean
abbrev wsX20 : List Cond := u_ws RX2 TX2 3
theorem nmX2 : ∀ a, a < 3 → ∀ b, b < 3 → a ≠ b → (TX2 a).2.1 ≠ (TX2 b).2.1 := by decide +kernel
theorem tyX2_ok : ∀ k, k < 3 → parseFieldDescriptor (TX2 k).2.2.1 = some (tyX2 k) := by decide +kernel
abbrev cX2_init : ByteArray := prog_4_method_1_code
def yX2_init : MethodName := ⟨RX2, "<init>", "()V"⟩
abbrev cX2_forget : ByteArray := prog_4_method_2_code
def yX2_forget : MethodName := ⟨RX2, "forget", "()V"⟩
abbrev cX2_renew : ByteArray := prog_4_method_3_code
def yX2_renew : MethodName := ⟨RX2, "renew", "(LClosedSums$RatioSplit;LClosedSums$Equation;LClosedSums$Division;)V"⟩
abbrev cX2_top : ByteArray := prog_4_method_4_code
def yX2_top : MethodName := ⟨RX2, "top", "()LClosedSums$Polynomial;"⟩
abbrev cX2_bottom : ByteArray := prog_4_method_5_code
def yX2_bottom : MethodName := ⟨RX2, "bottom", "()LClosedSums$Polynomial;"⟩
abbrev cX2_valueAt : ByteArray := prog_4_method_6_code
def yX2_valueAt : MethodName := ⟨RX2, "valueAt", "(I)I"⟩
def RX3 : String := "ClosedSums$Pair"
def TX3 : u_T := fun k => match k with
  | 0 => ("ClosedSums$Pair", "origin", "LClosedSums$Polynomial;", true)
  | _ => ("ClosedSums$Pair", "image", "LClosedSums$Polynomial;", true)
def tyX3 : Nat → FieldType := fun k => match k with
  | 0 => .object "ClosedSums$Polynomial"
  | _ => .object "ClosedSums$Polynomial"
abbrev wsX30 : List Cond := u_ws RX3 TX3 2
theorem nmX3 : ∀ a, a < 2 → ∀ b, b < 2 → a ≠ b → (TX3 a).2.1 ≠ (TX3 b).2.1 := by decide +kernel
theorem tyX3_ok : ∀ k, k < 2 → parseFieldDescriptor (TX3 k).2.2.1 = some (tyX3 k) := by decide +kernel
abbrev cX3_init : ByteArray := prog_5_method_1_code
def yX3_init : MethodName := ⟨RX3, "<init>", "()V"⟩
def RX4 : String := "ClosedSums$Polynomial"
def TX4 : u_T := fun k => match k with
  | 0 => ("ClosedSums$Polynomial", "numbers", "[I", true)
  | _ => ("ClosedSums$Polynomial", "highest", "I", false)
def tyX4 : Nat → FieldType := fun k => match k with
  | 0 => .array .int
  | _ => .int
abbrev wsX40 : List Cond := u_ws RX4 TX4 2
theorem nmX4 : ∀ a, a < 2 → ∀ b, b < 2 → a ≠ b → (TX4 a).2.1 ≠ (TX4 b).2.1 := by decide +kernel
theorem tyX4_ok : ∀ k, k < 2 → parseFieldDescriptor (TX4 k).2.2.1 = some (tyX4 k) := by decide +kernel
abbrev cX4_init : ByteArray := prog_6_method_1_code
def yX4_init : MethodName := ⟨RX4, "<init>", "()V"⟩
abbrev cX4_highest : ByteArray := prog_6_method_2_code
def yX4_highest : MethodName := ⟨RX4, "highest", "()I"⟩
abbrev cX4_isZero : ByteArray := prog_6_method_3_code
def yX4_isZero : MethodName := ⟨RX4, "isZero", "()Z"⟩
abbrev cX4_number : ByteArray := prog_6_method_4_code
def yX4_number : MethodName := ⟨RX4, "number", "(I)I"⟩
abbrev cX4_leading : ByteArray := prog_6_method_5_code
def yX4_leading : MethodName := ⟨RX4, "leading", "()I"⟩
abbrev cX4_setNumber : ByteArray := prog_6_method_6_code
def yX4_setNumber : MethodName := ⟨RX4, "setNumber", "(II)V"⟩
abbrev cX4_becomeNumber : ByteArray := prog_6_method_7_code
def yX4_becomeNumber : MethodName := ⟨RX4, "becomeNumber", "(I)V"⟩
abbrev cX4_copyFrom : ByteArray := prog_6_method_8_code
def yX4_copyFrom : MethodName := ⟨RX4, "copyFrom", "(LClosedSums$Polynomial;)V"⟩
abbrev cX4_scaleBy : ByteArray := prog_6_method_9_code
def yX4_scaleBy : MethodName := ⟨RX4, "scaleBy", "(I)V"⟩
abbrev cX4_addMultiple : ByteArray := prog_6_method_10_code
def yX4_addMultiple : MethodName := ⟨RX4, "addMultiple", "(ILClosedSums$Polynomial;I)V"⟩
abbrev cX4_multiplyBy : ByteArray := prog_6_method_11_code
def yX4_multiplyBy : MethodName := ⟨RX4, "multiplyBy", "(LClosedSums$Polynomial;)V"⟩
abbrev cX4_moveBy : ByteArray := prog_6_method_12_code
def yX4_moveBy : MethodName := ⟨RX4, "moveBy", "(I)V"⟩
abbrev cX4_divideBy : ByteArray := prog_6_method_13_code
def yX4_divideBy : MethodName := ⟨RX4, "divideBy", "(LClosedSums$Polynomial;LClosedSums$Polynomial;)V"⟩
abbrev cX4_valueAt : ByteArray := prog_6_method_14_code
def yX4_valueAt : MethodName := ⟨RX4, "valueAt", "(I)I"⟩
abbrev cX4_settle : ByteArray := prog_6_method_15_code
def yX4_settle : MethodName := ⟨RX4, "settle", "(I)V"⟩
def RX5 : String := "ClosedSums$Progress"
def TX5 : u_T := fun k => match k with
  | 0 => ("ClosedSums$Progress", "terms", "[I", true)
  | _ => ("ClosedSums$Progress", "reached", "I", false)
def tyX5 : Nat → FieldType := fun k => match k with
  | 0 => .array .int
  | _ => .int
abbrev wsX50 : List Cond := u_ws RX5 TX5 2
theorem nmX5 : ∀ a, a < 2 → ∀ b, b < 2 → a ≠ b → (TX5 a).2.1 ≠ (TX5 b).2.1 := by decide +kernel
theorem tyX5_ok : ∀ k, k < 2 → parseFieldDescriptor (TX5 k).2.2.1 = some (tyX5 k) := by decide +kernel
abbrev cX5_init : ByteArray := prog_7_method_1_code
def yX5_init : MethodName := ⟨RX5, "<init>", "()V"⟩
abbrev cX5_forget : ByteArray := prog_7_method_2_code
def yX5_forget : MethodName := ⟨RX5, "forget", "()V"⟩
abbrev cX5_reaches : ByteArray := prog_7_method_3_code
def yX5_reaches : MethodName := ⟨RX5, "reaches", "(ILClosedSums$Polynomial;LClosedSums$Polynomial;)Z"⟩
abbrev cX5_termAt : ByteArray := prog_7_method_4_code
def yX5_termAt : MethodName := ⟨RX5, "termAt", "(I)I"⟩
abbrev cX5_sumBelow : ByteArray := prog_7_method_5_code
def yX5_sumBelow : MethodName := ⟨RX5, "sumBelow", "(I)I"⟩
def RX6 : String := "ClosedSums$RatioSplit"
def TX6 : u_T := fun k => match k with
  | 0 => ("ClosedSums$RatioSplit", "top", "LClosedSums$Polynomial;", true)
  | 1 => ("ClosedSums$RatioSplit", "bottom", "LClosedSums$Polynomial;", true)
  | 2 => ("ClosedSums$RatioSplit", "extra", "LClosedSums$Polynomial;", true)
  | 3 => ("ClosedSums$RatioSplit", "moved", "LClosedSums$Polynomial;", true)
  | 4 => ("ClosedSums$RatioSplit", "commonDegrees", "[I", true)
  | _ => ("ClosedSums$RatioSplit", "known", "Z", false)
def tyX6 : Nat → FieldType := fun k => match k with
  | 0 => .object "ClosedSums$Polynomial"
  | 1 => .object "ClosedSums$Polynomial"
  | 2 => .object "ClosedSums$Polynomial"
  | 3 => .object "ClosedSums$Polynomial"
  | 4 => .array .int
  | _ => .boolean
abbrev wsX60 : List Cond := u_ws RX6 TX6 6
theorem nmX6 : ∀ a, a < 6 → ∀ b, b < 6 → a ≠ b → (TX6 a).2.1 ≠ (TX6 b).2.1 := by decide +kernel
theorem tyX6_ok : ∀ k, k < 6 → parseFieldDescriptor (TX6 k).2.2.1 = some (tyX6 k) := by decide +kernel
abbrev cX6_init : ByteArray := prog_8_method_1_code
def yX6_init : MethodName := ⟨RX6, "<init>", "()V"⟩
abbrev cX6_forget : ByteArray := prog_8_method_2_code
def yX6_forget : MethodName := ⟨RX6, "forget", "()V"⟩
abbrev cX6_renew : ByteArray := prog_8_method_3_code
def yX6_renew : MethodName := ⟨RX6, "renew", "(LClosedSums$Polynomial;LClosedSums$Polynomial;LClosedSums$Division;)V"⟩
abbrev cX6_commonDegree : ByteArray := prog_8_method_4_code
def yX6_commonDegree : MethodName := ⟨RX6, "commonDegree", "(I)I"⟩
abbrev cX6_part : ByteArray := prog_8_method_5_code
def yX6_part : MethodName := ⟨RX6, "part", "(I)LClosedSums$Polynomial;"⟩
def RX7 : String := "ClosedSums"
def TX7 : u_T := fun k => match k with
  | 0 => ("ClosedSums", "ratioTop", "LClosedSums$Polynomial;", true)
  | 1 => ("ClosedSums", "ratioBottom", "LClosedSums$Polynomial;", true)
  | 2 => ("ClosedSums", "division", "LClosedSums$Division;", true)
  | 3 => ("ClosedSums", "parts", "LClosedSums$RatioSplit;", true)
  | 4 => ("ClosedSums", "equation", "LClosedSums$Equation;", true)
  | 5 => ("ClosedSums", "fraction", "LClosedSums$Fraction;", true)
  | _ => ("ClosedSums", "progress", "LClosedSums$Progress;", true)
def tyX7 : Nat → FieldType := fun k => match k with
  | 0 => .object "ClosedSums$Polynomial"
  | 1 => .object "ClosedSums$Polynomial"
  | 2 => .object "ClosedSums$Division"
  | 3 => .object "ClosedSums$RatioSplit"
  | 4 => .object "ClosedSums$Equation"
  | 5 => .object "ClosedSums$Fraction"
  | _ => .object "ClosedSums$Progress"
abbrev wsX70 : List Cond := u_ws RX7 TX7 7
theorem nmX7 : ∀ a, a < 7 → ∀ b, b < 7 → a ≠ b → (TX7 a).2.1 ≠ (TX7 b).2.1 := by decide +kernel
theorem tyX7_ok : ∀ k, k < 7 → parseFieldDescriptor (TX7 k).2.2.1 = some (tyX7 k) := by decide +kernel
abbrev cX7_init : ByteArray := prog_1_method_1_code
def yX7_init : MethodName := ⟨RX7, "<init>", "()V"⟩
abbrev cX7_put : ByteArray := prog_1_method_2_code
def yX7_put : MethodName := ⟨RX7, "put", "(ZIJ)Z"⟩
abbrev cX7_at : ByteArray := prog_1_method_3_code
def yX7_at : MethodName := ⟨RX7, "at", "(ZI)I"⟩
abbrev cX7_found : ByteArray := prog_1_method_4_code
def yX7_found : MethodName := ⟨RX7, "found", "(I)I"⟩
abbrev cX7_degree : ByteArray := prog_1_method_5_code
def yX7_degree : MethodName := ⟨RX7, "degree", "(I)I"⟩
abbrev cX7_split : ByteArray := prog_1_method_6_code
def yX7_split : MethodName := ⟨RX7, "split", "(II)I"⟩
abbrev cX7_run : ByteArray := prog_1_method_7_code
def yX7_run : MethodName := ⟨RX7, "run", "()I"⟩
abbrev cX7_answer : ByteArray := prog_1_method_8_code
def yX7_answer : MethodName := ⟨RX7, "answer", "(I)I"⟩
abbrev cX7_closed : ByteArray := prog_1_method_9_code
def yX7_closed : MethodName := ⟨RX7, "closed", "(ZI)I"⟩
abbrev cX7_value : ByteArray := prog_1_method_10_code
def yX7_value : MethodName := ⟨RX7, "value", "(J)I"⟩
abbrev cX7_term : ByteArray := prog_1_method_11_code
def yX7_term : MethodName := ⟨RX7, "term", "(I)I"⟩
abbrev cX7_sum : ByteArray := prog_1_method_12_code
def yX7_sum : MethodName := ⟨RX7, "sum", "(I)I"⟩
abbrev cX7_shift : ByteArray := prog_1_method_13_code
def yX7_shift : MethodName := ⟨RX7, "shift", "(I)V"⟩
abbrev cX7_clear : ByteArray := prog_1_method_14_code
def yX7_clear : MethodName := ⟨RX7, "clear", "()V"⟩
abbrev cX7_side : ByteArray := prog_1_method_15_code
def yX7_side : MethodName := ⟨RX7, "side", "(Z)LClosedSums$Polynomial;"⟩
abbrev cX7_forget : ByteArray := prog_1_method_16_code
def yX7_forget : MethodName := ⟨RX7, "forget", "()V"⟩
abbrev cX7_requirePower : ByteArray := prog_1_method_17_code
def yX7_requirePower : MethodName := ⟨RX7, "requirePower", "(I)V"⟩
abbrev cX7_requirePlace : ByteArray := prog_1_method_18_code
def yX7_requirePlace : MethodName := ⟨RX7, "requirePlace", "(I)V"⟩
abbrev cX7_requirePart : ByteArray := prog_1_method_19_code
def yX7_requirePart : MethodName := ⟨RX7, "requirePart", "(I)V"⟩
abbrev cX7_requireRatio : ByteArray := prog_1_method_20_code
def yX7_requireRatio : MethodName := ⟨RX7, "requireRatio", "()V"⟩
abbrev cX7_requireAnswer : ByteArray := prog_1_method_21_code
def yX7_requireAnswer : MethodName := ⟨RX7, "requireAnswer", "()V"⟩
abbrev cX7_requireTerm : ByteArray := prog_1_method_22_code
def yX7_requireTerm : MethodName := ⟨RX7, "requireTerm", "(I)V"⟩
abbrev cX7_negative : ByteArray := prog_1_method_23_code
def yX7_negative : MethodName := ⟨RX7, "negative", "(I)I"⟩
abbrev cX7_inverse : ByteArray := prog_1_method_24_code
def yX7_inverse : MethodName := ⟨RX7, "inverse", "(I)I"⟩
def RX8 : String := "ClosedSumsModel"
def TX8 : u_T := fun k => match k with
  | 0 => ("ClosedSumsModel", "code", "I", false)
  | 1 => ("ClosedSumsModel", "top", "[J", true)
  | 2 => ("ClosedSumsModel", "bottom", "[J", true)
  | 3 => ("ClosedSumsModel", "a", "[J", true)
  | 4 => ("ClosedSumsModel", "b", "[J", true)
  | 5 => ("ClosedSumsModel", "c", "[J", true)
  | 6 => ("ClosedSumsModel", "degrees", "[I", true)
  | 7 => ("ClosedSumsModel", "least", "I", false)
  | 8 => ("ClosedSumsModel", "answer", "[J", true)
  | 9 => ("ClosedSumsModel", "closedTop", "[J", true)
  | 10 => ("ClosedSumsModel", "closedBottom", "[J", true)
  | 11 => ("ClosedSumsModel", "g", "[J", true)
  | 12 => ("ClosedSumsModel", "h", "[J", true)
  | 13 => ("ClosedSumsModel", "x", "[J", true)
  | 14 => ("ClosedSumsModel", "quotient", "[J", true)
  | 15 => ("ClosedSumsModel", "table", "[J", true)
  | 16 => ("ClosedSumsModel", "row", "[I", true)
  | _ => ("ClosedSumsModel", "terms", "[J", true)
def tyX8 : Nat → FieldType := fun k => match k with
  | 0 => .int
  | 1 => .array .long
  | 2 => .array .long
  | 3 => .array .long
  | 4 => .array .long
  | 5 => .array .long
  | 6 => .array .int
  | 7 => .int
  | 8 => .array .long
  | 9 => .array .long
  | 10 => .array .long
  | 11 => .array .long
  | 12 => .array .long
  | 13 => .array .long
  | 14 => .array .long
  | 15 => .array .long
  | 16 => .array .int
  | _ => .array .long
abbrev wsX80 : List Cond := u_ws RX8 TX8 18
theorem nmX8 : ∀ a, a < 18 → ∀ b, b < 18 → a ≠ b → (TX8 a).2.1 ≠ (TX8 b).2.1 := by decide +kernel
theorem tyX8_ok : ∀ k, k < 18 → parseFieldDescriptor (TX8 k).2.2.1 = some (tyX8 k) := by decide +kernel
abbrev cX8_init : ByteArray := prog_10_method_1_code
def yX8_init : MethodName := ⟨RX8, "<init>", "()V"⟩
abbrev cX8_thrown : ByteArray := prog_10_method_2_code
def yX8_thrown : MethodName := ⟨RX8, "thrown", "()I"⟩
abbrev cX8_raise : ByteArray := prog_10_method_3_code
def yX8_raise : MethodName := ⟨RX8, "raise", "(I)I"⟩
abbrev cX8_in : ByteArray := prog_10_method_4_code
def yX8_in : MethodName := ⟨RX8, "in", "(JJJ)Z"⟩
abbrev cX8_modulo : ByteArray := prog_10_method_5_code
def yX8_modulo : MethodName := ⟨RX8, "modulo", "(J)J"⟩
abbrev cX8_inverse : ByteArray := prog_10_method_6_code
def yX8_inverse : MethodName := ⟨RX8, "inverse", "(J)J"⟩
abbrev cX8_empty : ByteArray := prog_10_method_7_code
def yX8_empty : MethodName := ⟨RX8, "empty", "([J)V"⟩
abbrev cX8_copy : ByteArray := prog_10_method_8_code
def yX8_copy : MethodName := ⟨RX8, "copy", "([J[J)V"⟩
abbrev cX8_high : ByteArray := prog_10_method_9_code
def yX8_high : MethodName := ⟨RX8, "high", "([J)I"⟩
abbrev cX8_valueAt : ByteArray := prog_10_method_10_code
def yX8_valueAt : MethodName := ⟨RX8, "valueAt", "([JJ)J"⟩
abbrev cX8_move : ByteArray := prog_10_method_11_code
def yX8_move : MethodName := ⟨RX8, "move", "([JJ)V"⟩
abbrev cX8_multiply : ByteArray := prog_10_method_12_code
def yX8_multiply : MethodName := ⟨RX8, "multiply", "([J[J)V"⟩
abbrev cX8_divide : ByteArray := prog_10_method_13_code
def yX8_divide : MethodName := ⟨RX8, "divide", "([J[J)V"⟩
abbrev cX8_common : ByteArray := prog_10_method_14_code
def yX8_common : MethodName := ⟨RX8, "common", "()V"⟩
abbrev cX8_isPower : ByteArray := prog_10_method_15_code
def yX8_isPower : MethodName := ⟨RX8, "isPower", "(I)Z"⟩
abbrev cX8_put : ByteArray := prog_10_method_16_code
def yX8_put : MethodName := ⟨RX8, "put", "(ZIJ)Z"⟩
abbrev cX8_at : ByteArray := prog_10_method_17_code
def yX8_at : MethodName := ⟨RX8, "at", "(ZI)I"⟩
abbrev cX8_shift : ByteArray := prog_10_method_18_code
def yX8_shift : MethodName := ⟨RX8, "shift", "(I)V"⟩
abbrev cX8_clear : ByteArray := prog_10_method_19_code
def yX8_clear : MethodName := ⟨RX8, "clear", "()V"⟩
abbrev cX8_isNone : ByteArray := prog_10_method_20_code
def yX8_isNone : MethodName := ⟨RX8, "isNone", "()Z"⟩
abbrev cX8_findSplit : ByteArray := prog_10_method_21_code
def yX8_findSplit : MethodName := ⟨RX8, "findSplit", "()V"⟩
abbrev cX8_found : ByteArray := prog_10_method_22_code
def yX8_found : MethodName := ⟨RX8, "found", "(I)I"⟩
abbrev cX8_takes : ByteArray := prog_10_method_23_code
def yX8_takes : MethodName := ⟨RX8, "takes", "(I)Z"⟩
abbrev cX8_degree : ByteArray := prog_10_method_24_code
def yX8_degree : MethodName := ⟨RX8, "degree", "(I)I"⟩
abbrev cX8_split : ByteArray := prog_10_method_25_code
def yX8_split : MethodName := ⟨RX8, "split", "(II)I"⟩
abbrev cX8_fill : ByteArray := prog_10_method_26_code
def yX8_fill : MethodName := ⟨RX8, "fill", "()V"⟩
abbrev cX8_solve : ByteArray := prog_10_method_27_code
def yX8_solve : MethodName := ⟨RX8, "solve", "()I"⟩
abbrev cX8_bringOut : ByteArray := prog_10_method_28_code
def yX8_bringOut : MethodName := ⟨RX8, "bringOut", "(III)V"⟩
abbrev cX8_run : ByteArray := prog_10_method_29_code
def yX8_run : MethodName := ⟨RX8, "run", "()I"⟩
abbrev cX8_isAnswered : ByteArray := prog_10_method_30_code
def yX8_isAnswered : MethodName := ⟨RX8, "isAnswered", "()Z"⟩
abbrev cX8_answer : ByteArray := prog_10_method_31_code
def yX8_answer : MethodName := ⟨RX8, "answer", "(I)I"⟩
abbrev cX8_isClosed : ByteArray := prog_10_method_32_code
def yX8_isClosed : MethodName := ⟨RX8, "isClosed", "()Z"⟩
abbrev cX8_closed : ByteArray := prog_10_method_33_code
def yX8_closed : MethodName := ⟨RX8, "closed", "(ZI)I"⟩
abbrev cX8_value : ByteArray := prog_10_method_34_code
def yX8_value : MethodName := ⟨RX8, "value", "(J)I"⟩
abbrev cX8_reaches : ByteArray := prog_10_method_35_code
def yX8_reaches : MethodName := ⟨RX8, "reaches", "(I)Z"⟩
abbrev cX8_term : ByteArray := prog_10_method_36_code
def yX8_term : MethodName := ⟨RX8, "term", "(I)I"⟩
abbrev cX8_sum : ByteArray := prog_10_method_37_code
def yX8_sum : MethodName := ⟨RX8, "sum", "(I)I"⟩
def RJ9 : String := "java/lang/Math"
def TJ9 : u_T := fun k => match k with
  | _ => ("", "", "", false)
def tyJ9 : Nat → FieldType := fun k => match k with
  | _ => .int
abbrev wsJ90 : List Cond := u_ws RJ9 TJ9 0
theorem nmJ9 : ∀ a, a < 0 → ∀ b, b < 0 → a ≠ b → (TJ9 a).2.1 ≠ (TJ9 b).2.1 := by decide +kernel
theorem tyJ9_ok : ∀ k, k < 0 → parseFieldDescriptor (TJ9 k).2.2.1 = some (tyJ9 k) := by decide +kernel
abbrev cJ9_floorMod_7cf53 : ByteArray := prog_15_method_50_code
def yJ9_floorMod_7cf53 : MethodName := ⟨RJ9, "floorMod", "(II)I"⟩
abbrev cJ9_floorMod_f86c9 : ByteArray := prog_15_method_52_code
def yJ9_floorMod_f86c9 : MethodName := ⟨RJ9, "floorMod", "(JJ)J"⟩
abbrev cJ9_max_7cf53 : ByteArray := prog_15_method_65_code
def yJ9_max_7cf53 : MethodName := ⟨RJ9, "max", "(II)I"⟩
abbrev cJ9_min_7cf53 : ByteArray := prog_15_method_69_code
def yJ9_min_7cf53 : MethodName := ⟨RJ9, "min", "(II)I"⟩
def RJ0 : String := "java/lang/String"
def TJ0 : u_T := fun k => match k with
  | _ => ("", "", "", false)
def tyJ0 : Nat → FieldType := fun k => match k with
  | _ => .int
abbrev wsJ00 : List Cond := u_ws RJ0 TJ0 0
theorem nmJ0 : ∀ a, a < 0 → ∀ b, b < 0 → a ≠ b → (TJ0 a).2.1 ≠ (TJ0 b).2.1 := by decide +kernel
theorem tyJ0_ok : ∀ k, k < 0 → parseFieldDescriptor (TJ0 k).2.2.1 = some (tyJ0 k) := by decide +kernel
def RL : String := "ClosedSumsLaw"
abbrev cL_put : ByteArray := method_3_code
def yL_put : MethodName := ⟨RL, "put", "(LClosedSums;ZIJ[J)I"⟩
abbrev cL_at : ByteArray := method_4_code
def yL_at : MethodName := ⟨RL, "at", "(LClosedSums;ZI[J)I"⟩
abbrev cL_found : ByteArray := method_5_code
def yL_found : MethodName := ⟨RL, "found", "(LClosedSums;I[J)I"⟩
abbrev cL_degree : ByteArray := method_6_code
def yL_degree : MethodName := ⟨RL, "degree", "(LClosedSums;I[J)I"⟩
abbrev cL_split : ByteArray := method_7_code
def yL_split : MethodName := ⟨RL, "split", "(LClosedSums;II[J)I"⟩
abbrev cL_run : ByteArray := method_8_code
def yL_run : MethodName := ⟨RL, "run", "(LClosedSums;[J)I"⟩
abbrev cL_answer : ByteArray := method_9_code
def yL_answer : MethodName := ⟨RL, "answer", "(LClosedSums;I[J)I"⟩
abbrev cL_closed : ByteArray := method_10_code
def yL_closed : MethodName := ⟨RL, "closed", "(LClosedSums;ZI[J)I"⟩
abbrev cL_value : ByteArray := method_11_code
def yL_value : MethodName := ⟨RL, "value", "(LClosedSums;J[J)I"⟩
abbrev cL_term : ByteArray := method_12_code
def yL_term : MethodName := ⟨RL, "term", "(LClosedSums;I[J)I"⟩
abbrev cL_sum : ByteArray := method_13_code
def yL_sum : MethodName := ⟨RL, "sum", "(LClosedSums;I[J)I"⟩
abbrev cL_law : ByteArray := code
def yL_law : MethodName := ⟨RL, "law", "([I)Z"⟩
def wsX4_init : List Cond := .code yX4_init cX4_init 1 none :: ([.methodLink RX4 3 objectInit, .instanceMethod objectInit, .code objectInit ⟨#[0xb1]⟩ 1 none, .arrayClass .int, .fieldLink RX4 11 "ClosedSums$Polynomial" "numbers" "[I", .fieldLink RX4 15 "ClosedSums$Polynomial" "highest" "I"] ++ wsX40)
def wsX0_init : List Cond := .code yX0_init cX0_init 1 none :: ([.methodLink RX0 1 objectInit, .instanceMethod objectInit, .code objectInit ⟨#[0xb1]⟩ 1 none, .classLink RX0 7 RX4, .instantiable RX4 2, .initialized RX4, .fieldLink RX0 10 "ClosedSums$Division" "first" "LClosedSums$Polynomial;", .fieldLink RX0 16 "ClosedSums$Division" "second" "LClosedSums$Polynomial;", .fieldLink RX0 19 "ClosedSums$Division" "quotient" "LClosedSums$Polynomial;", .fieldLink RX0 22 "ClosedSums$Division" "common" "LClosedSums$Polynomial;", .instanceMethod yX4_init, .code yX4_init cX4_init 1 none, .methodLink RX4 3 objectInit, .arrayClass .int, .fieldLink RX4 11 "ClosedSums$Polynomial" "numbers" "[I", .fieldLink RX4 15 "ClosedSums$Polynomial" "highest" "I"] ++ wsX40 ++ wsX00)
def wsX4_number : List Cond := .code yX4_number cX4_number 2 (some .int) :: ([.fieldLink RX4 11 "ClosedSums$Polynomial" "numbers" "[I"] ++ wsX40)
def wsX4_copyFrom : List Cond := .code yX4_copyFrom cX4_copyFrom 3 none :: ([.fieldLink RX4 11 "ClosedSums$Polynomial" "numbers" "[I", .fieldLink RX4 15 "ClosedSums$Polynomial" "highest" "I", .methodLink RX4 19 yX4_number, .instanceMethod yX4_number, .selects RX4 yX4_number yX4_number, .initialized RX4, .code yX4_number cX4_number 2 (some .int)] ++ wsX40)
def wsX4_isZero : List Cond := .code yX4_isZero cX4_isZero 1 (some .boolean) :: ([.fieldLink RX4 15 "ClosedSums$Polynomial" "highest" "I"] ++ wsX40)
def wsX4_becomeNumber : List Cond := .code yX4_becomeNumber cX4_becomeNumber 3 none :: ([.fieldLink RX4 11 "ClosedSums$Polynomial" "numbers" "[I", .fieldLink RX4 15 "ClosedSums$Polynomial" "highest" "I"] ++ wsX40)
def wsX4_leading : List Cond := .code yX4_leading cX4_leading 1 (some .int) :: ([.fieldLink RX4 15 "ClosedSums$Polynomial" "highest" "I", .methodLink RX4 19 yX4_number, .instanceMethod yX4_number, .selects RX4 yX4_number yX4_number, .initialized RX4, .code yX4_number cX4_number 2 (some .int), .fieldLink RX4 11 "ClosedSums$Polynomial" "numbers" "[I"] ++ wsX40)
def wsX7_inverse : List Cond := .code yX7_inverse cX7_inverse 4 (some .int) :: ([])
def wsX4_settle : List Cond := .code yX4_settle cX4_settle 3 none :: ([.fieldLink RX4 11 "ClosedSums$Polynomial" "numbers" "[I", .fieldLink RX4 15 "ClosedSums$Polynomial" "highest" "I"] ++ wsX40)
def wsX4_setNumber : List Cond := .code yX4_setNumber cX4_setNumber 3 none :: ([.fieldLink RX4 11 "ClosedSums$Polynomial" "numbers" "[I", .fieldLink RX4 15 "ClosedSums$Polynomial" "highest" "I", .methodLink RX4 23 Lib.Math.max.name, .static Lib.Math.max.name, .initialized "java/lang/Math", .code Lib.Math.max.name Lib.Math.max.code 2 (some .int), .methodLink RX4 29 yX4_settle, .instanceMethod yX4_settle, .selects RX4 yX4_settle yX4_settle, .initialized RX4, .code yX4_settle cX4_settle 3 none] ++ wsX40)
def wsX7_negative : List Cond := .code yX7_negative cX7_negative 1 (some .int) :: ([])
def wsX4_addMultiple : List Cond := .code yX4_addMultiple cX4_addMultiple 7 none :: ([.fieldLink RX4 15 "ClosedSums$Polynomial" "highest" "I", .methodLink RX4 23 Lib.Math.max.name, .static Lib.Math.max.name, .initialized "java/lang/Math", .code Lib.Math.max.name Lib.Math.max.code 2 (some .int), .fieldLink RX4 11 "ClosedSums$Polynomial" "numbers" "[I", .methodLink RX4 19 yX4_number, .instanceMethod yX4_number, .selects RX4 yX4_number yX4_number, .initialized RX4, .code yX4_number cX4_number 2 (some .int), .methodLink RX4 29 yX4_settle, .instanceMethod yX4_settle, .selects RX4 yX4_settle yX4_settle, .code yX4_settle cX4_settle 3 none] ++ wsX40)
def wsX4_divideBy_r1 : List Cond := [Cond.fieldLink RX4 15 "ClosedSums$Polynomial" "highest" "I", Cond.methodLink RX4 40 yX4_becomeNumber, Cond.instanceMethod yX4_becomeNumber, Cond.selects RX4 yX4_becomeNumber yX4_becomeNumber, Cond.initialized RX4, Cond.code yX4_becomeNumber cX4_becomeNumber 3 none, Cond.fieldLink RX4 11 "ClosedSums$Polynomial" "numbers" "[I", Cond.methodLink RX4 33 yX4_isZero, Cond.instanceMethod yX4_isZero, Cond.selects RX4 yX4_isZero yX4_isZero, Cond.code yX4_isZero cX4_isZero 1 (some .boolean), Cond.methodLink RX4 43 yX4_leading, Cond.instanceMethod yX4_leading, Cond.selects RX4 yX4_leading yX4_leading, Cond.code yX4_leading cX4_leading 1 (some .int), Cond.methodLink RX4 19 yX4_number, Cond.instanceMethod yX4_number, Cond.selects RX4 yX4_number yX4_number, Cond.code yX4_number cX4_number 2 (some .int), Cond.static yX7_inverse, Cond.initialized RX7, Cond.code yX7_inverse cX7_inverse 4 (some .int), Cond.methodLink RX4 50 yX4_setNumber, Cond.instanceMethod yX4_setNumber]
def wsX4_divideBy_r2 : List Cond := [Cond.selects RX4 yX4_setNumber yX4_setNumber, Cond.code yX4_setNumber cX4_setNumber 3 none, Cond.methodLink RX4 23 Lib.Math.max.name, Cond.static Lib.Math.max.name, Cond.initialized "java/lang/Math", Cond.code Lib.Math.max.name Lib.Math.max.code 2 (some .int), Cond.methodLink RX4 29 yX4_settle, Cond.instanceMethod yX4_settle, Cond.selects RX4 yX4_settle yX4_settle, Cond.code yX4_settle cX4_settle 3 none, Cond.static yX7_negative, Cond.code yX7_negative cX7_negative 1 (some .int), Cond.methodLink RX4 57 yX4_addMultiple, Cond.instanceMethod yX4_addMultiple, Cond.selects RX4 yX4_addMultiple yX4_addMultiple, Cond.code yX4_addMultiple cX4_addMultiple 7 none]
def wsX4_divideBy : List Cond := .code yX4_divideBy cX4_divideBy 7 none :: ((wsX4_divideBy_r1 ++ wsX4_divideBy_r2) ++ wsX40)
def wsX4_scaleBy : List Cond := .code yX4_scaleBy cX4_scaleBy 3 none :: ([.fieldLink RX4 11 "ClosedSums$Polynomial" "numbers" "[I", .fieldLink RX4 15 "ClosedSums$Polynomial" "highest" "I", .methodLink RX4 29 yX4_settle, .instanceMethod yX4_settle, .selects RX4 yX4_settle yX4_settle, .initialized RX4, .code yX4_settle cX4_settle 3 none] ++ wsX40)
def wsX0_commonDivisor_r1 : List Cond := [Cond.fieldLink RX0 10 "ClosedSums$Division" "first" "LClosedSums$Polynomial;", Cond.fieldLink RX0 16 "ClosedSums$Division" "second" "LClosedSums$Polynomial;", Cond.fieldLink RX0 19 "ClosedSums$Division" "quotient" "LClosedSums$Polynomial;", Cond.fieldLink RX0 22 "ClosedSums$Division" "common" "LClosedSums$Polynomial;", Cond.methodLink RX0 25 yX4_copyFrom, Cond.instanceMethod yX4_copyFrom, Cond.selects RX4 yX4_copyFrom yX4_copyFrom, Cond.initialized RX4, Cond.code yX4_copyFrom cX4_copyFrom 3 none, Cond.fieldLink RX4 11 "ClosedSums$Polynomial" "numbers" "[I", Cond.fieldLink RX4 15 "ClosedSums$Polynomial" "highest" "I", Cond.methodLink RX4 19 yX4_number, Cond.instanceMethod yX4_number, Cond.selects RX4 yX4_number yX4_number, Cond.code yX4_number cX4_number 2 (some .int), Cond.methodLink RX0 29 yX4_isZero, Cond.instanceMethod yX4_isZero, Cond.selects RX4 yX4_isZero yX4_isZero, Cond.code yX4_isZero cX4_isZero 1 (some .boolean), Cond.methodLink RX0 33 yX4_divideBy, Cond.instanceMethod yX4_divideBy, Cond.selects RX4 yX4_divideBy yX4_divideBy, Cond.code yX4_divideBy cX4_divideBy 7 none, Cond.methodLink RX4 40 yX4_becomeNumber]
def wsX0_commonDivisor_r2 : List Cond := [Cond.instanceMethod yX4_becomeNumber, Cond.selects RX4 yX4_becomeNumber yX4_becomeNumber, Cond.code yX4_becomeNumber cX4_becomeNumber 3 none, Cond.methodLink RX4 33 yX4_isZero, Cond.methodLink RX4 43 yX4_leading, Cond.instanceMethod yX4_leading, Cond.selects RX4 yX4_leading yX4_leading, Cond.code yX4_leading cX4_leading 1 (some .int), Cond.static yX7_inverse, Cond.initialized RX7, Cond.code yX7_inverse cX7_inverse 4 (some .int), Cond.methodLink RX4 50 yX4_setNumber, Cond.instanceMethod yX4_setNumber, Cond.selects RX4 yX4_setNumber yX4_setNumber, Cond.code yX4_setNumber cX4_setNumber 3 none, Cond.methodLink RX4 23 Lib.Math.max.name, Cond.static Lib.Math.max.name, Cond.initialized "java/lang/Math", Cond.code Lib.Math.max.name Lib.Math.max.code 2 (some .int), Cond.methodLink RX4 29 yX4_settle, Cond.instanceMethod yX4_settle, Cond.selects RX4 yX4_settle yX4_settle, Cond.code yX4_settle cX4_settle 3 none, Cond.static yX7_negative]
def wsX0_commonDivisor_r3 : List Cond := [Cond.code yX7_negative cX7_negative 1 (some .int), Cond.methodLink RX4 57 yX4_addMultiple, Cond.instanceMethod yX4_addMultiple, Cond.selects RX4 yX4_addMultiple yX4_addMultiple, Cond.code yX4_addMultiple cX4_addMultiple 7 none, Cond.methodLink RX0 37 yX4_leading, Cond.methodLink RX0 47 yX4_scaleBy, Cond.instanceMethod yX4_scaleBy, Cond.selects RX4 yX4_scaleBy yX4_scaleBy, Cond.code yX4_scaleBy cX4_scaleBy 3 none]
def wsX0_commonDivisor : List Cond := .code yX0_commonDivisor cX0_commonDivisor 7 (some (.object "ClosedSums$Polynomial")) :: ((wsX0_commonDivisor_r1 ++ (wsX0_commonDivisor_r2 ++ wsX0_commonDivisor_r3)) ++ wsX00 ++ wsX40)
def wsX0_divideOut_r1 : List Cond := [Cond.fieldLink RX0 19 "ClosedSums$Division" "quotient" "LClosedSums$Polynomial;", Cond.methodLink RX0 33 yX4_divideBy, Cond.instanceMethod yX4_divideBy, Cond.selects RX4 yX4_divideBy yX4_divideBy, Cond.initialized RX4, Cond.code yX4_divideBy cX4_divideBy 7 none, Cond.fieldLink RX4 15 "ClosedSums$Polynomial" "highest" "I", Cond.methodLink RX4 40 yX4_becomeNumber, Cond.instanceMethod yX4_becomeNumber, Cond.selects RX4 yX4_becomeNumber yX4_becomeNumber, Cond.code yX4_becomeNumber cX4_becomeNumber 3 none, Cond.fieldLink RX4 11 "ClosedSums$Polynomial" "numbers" "[I", Cond.methodLink RX4 33 yX4_isZero, Cond.instanceMethod yX4_isZero, Cond.selects RX4 yX4_isZero yX4_isZero, Cond.code yX4_isZero cX4_isZero 1 (some .boolean), Cond.methodLink RX4 43 yX4_leading, Cond.instanceMethod yX4_leading, Cond.selects RX4 yX4_leading yX4_leading, Cond.code yX4_leading cX4_leading 1 (some .int), Cond.methodLink RX4 19 yX4_number, Cond.instanceMethod yX4_number, Cond.selects RX4 yX4_number yX4_number, Cond.code yX4_number cX4_number 2 (some .int)]
def wsX0_divideOut_r2 : List Cond := [Cond.static yX7_inverse, Cond.initialized RX7, Cond.code yX7_inverse cX7_inverse 4 (some .int), Cond.methodLink RX4 50 yX4_setNumber, Cond.instanceMethod yX4_setNumber, Cond.selects RX4 yX4_setNumber yX4_setNumber, Cond.code yX4_setNumber cX4_setNumber 3 none, Cond.methodLink RX4 23 Lib.Math.max.name, Cond.static Lib.Math.max.name, Cond.initialized "java/lang/Math", Cond.code Lib.Math.max.name Lib.Math.max.code 2 (some .int), Cond.methodLink RX4 29 yX4_settle, Cond.instanceMethod yX4_settle, Cond.selects RX4 yX4_settle yX4_settle, Cond.code yX4_settle cX4_settle 3 none, Cond.static yX7_negative, Cond.code yX7_negative cX7_negative 1 (some .int), Cond.methodLink RX4 57 yX4_addMultiple, Cond.instanceMethod yX4_addMultiple, Cond.selects RX4 yX4_addMultiple yX4_addMultiple, Cond.code yX4_addMultiple cX4_addMultiple 7 none, Cond.methodLink RX0 25 yX4_copyFrom, Cond.instanceMethod yX4_copyFrom, Cond.selects RX4 yX4_copyFrom yX4_copyFrom]
def wsX0_divideOut_r3 : List Cond := [Cond.code yX4_copyFrom cX4_copyFrom 3 none]
def wsX0_divideOut : List Cond := .code yX0_divideOut cX0_divideOut 3 none :: ((wsX0_divideOut_r1 ++ (wsX0_divideOut_r2 ++ wsX0_divideOut_r3)) ++ wsX00 ++ wsX40)
def wsX3_init : List Cond := .code yX3_init cX3_init 1 none :: ([.methodLink RX3 1 objectInit, .instanceMethod objectInit, .code objectInit ⟨#[0xb1]⟩ 1 none, .classLink RX3 7 RX4, .instantiable RX4 2, .initialized RX4, .fieldLink RX3 10 "ClosedSums$Pair" "origin" "LClosedSums$Polynomial;", .fieldLink RX3 16 "ClosedSums$Pair" "image" "LClosedSums$Polynomial;", .instanceMethod yX4_init, .code yX4_init cX4_init 1 none, .methodLink RX4 3 objectInit, .arrayClass .int, .fieldLink RX4 11 "ClosedSums$Polynomial" "numbers" "[I", .fieldLink RX4 15 "ClosedSums$Polynomial" "highest" "I"] ++ wsX40 ++ wsX30)
def wsX1_init_r1 : List Cond := [Cond.methodLink RX1 3 objectInit, Cond.instanceMethod objectInit, Cond.code objectInit ⟨#[0xb1]⟩ 1 none, Cond.classLink RX1 9 RX3, Cond.fieldLink RX1 11 "ClosedSums$Equation" "pairs" "[LClosedSums$Pair;", Cond.fieldLink RX1 19 "ClosedSums$Equation" "byHighest" "[LClosedSums$Pair;", Cond.instantiable RX3 2, Cond.initialized RX3, Cond.fieldLink RX1 23 "ClosedSums$Equation" "remaining" "LClosedSums$Pair;", Cond.classLink RX1 17 RX4, Cond.instantiable RX4 2, Cond.initialized RX4, Cond.fieldLink RX1 28 "ClosedSums$Equation" "bottomBefore" "LClosedSums$Polynomial;", Cond.fieldLink RX1 32 "ClosedSums$Equation" "topGrown" "LClosedSums$Polynomial;", Cond.fieldLink RX1 35 "ClosedSums$Equation" "placeAfter" "LClosedSums$Polynomial;", Cond.fieldLink RX1 38 "ClosedSums$Equation" "leastDegree" "I", Cond.fieldLink RX1 42 "ClosedSums$Equation" "known" "Z", Cond.instanceMethod yX3_init, Cond.code yX3_init cX3_init 1 none, Cond.methodLink RX3 1 objectInit, Cond.classLink RX3 7 RX4, Cond.fieldLink RX3 10 "ClosedSums$Pair" "origin" "LClosedSums$Polynomial;", Cond.fieldLink RX3 16 "ClosedSums$Pair" "image" "LClosedSums$Polynomial;", Cond.instanceMethod yX4_init]
def wsX1_init_r2 : List Cond := [Cond.code yX4_init cX4_init 1 none, Cond.methodLink RX4 3 objectInit, Cond.arrayClass .int, Cond.fieldLink RX4 11 "ClosedSums$Polynomial" "numbers" "[I", Cond.fieldLink RX4 15 "ClosedSums$Polynomial" "highest" "I", Cond.methodLink RX1 46 yX4_setNumber, Cond.instanceMethod yX4_setNumber, Cond.selects RX4 yX4_setNumber yX4_setNumber, Cond.code yX4_setNumber cX4_setNumber 3 none, Cond.methodLink RX4 23 Lib.Math.max.name, Cond.static Lib.Math.max.name, Cond.initialized "java/lang/Math", Cond.code Lib.Math.max.name Lib.Math.max.code 2 (some .int), Cond.methodLink RX4 29 yX4_settle, Cond.instanceMethod yX4_settle, Cond.selects RX4 yX4_settle yX4_settle, Cond.code yX4_settle cX4_settle 3 none]
def wsX1_init : List Cond := .code yX1_init cX1_init 2 none :: ((wsX1_init_r1 ++ wsX1_init_r2) ++ wsX10 ++ wsX30 ++ wsX40)
def wsX1_forget : List Cond := .code yX1_forget cX1_forget 1 none :: ([.fieldLink RX1 42 "ClosedSums$Equation" "known" "Z"] ++ wsX10)
def wsX1_leastDegree : List Cond := .code yX1_leastDegree cX1_leastDegree 1 (some .int) :: ([.fieldLink RX1 38 "ClosedSums$Equation" "leastDegree" "I"] ++ wsX10)
def wsX1_solution : List Cond := .code yX1_solution cX1_solution 1 (some (.object "ClosedSums$Polynomial")) :: ([.fieldLink RX1 23 "ClosedSums$Equation" "remaining" "LClosedSums$Pair;", .fieldLink RX1 50 "ClosedSums$Pair" "origin" "LClosedSums$Polynomial;"] ++ wsX10 ++ wsX30)
def wsX6_part : List Cond := .code yX6_part cX6_part 2 (some (.object "ClosedSums$Polynomial")) :: ([.fieldLink RX6 12 "ClosedSums$RatioSplit" "top" "LClosedSums$Polynomial;", .fieldLink RX6 18 "ClosedSums$RatioSplit" "bottom" "LClosedSums$Polynomial;", .fieldLink RX6 21 "ClosedSums$RatioSplit" "extra" "LClosedSums$Polynomial;"] ++ wsX60)
def wsX4_moveBy : List Cond := .code yX4_moveBy cX4_moveBy 4 none :: ([.fieldLink RX4 15 "ClosedSums$Polynomial" "highest" "I", .fieldLink RX4 11 "ClosedSums$Polynomial" "numbers" "[I", .methodLink RX4 37 Lib.Math.min.name, .static Lib.Math.min.name, .initialized "java/lang/Math", .code Lib.Math.min.name Lib.Math.min.code 2 (some .int), .methodLink RX4 19 yX4_number, .instanceMethod yX4_number, .selects RX4 yX4_number yX4_number, .initialized RX4, .code yX4_number cX4_number 2 (some .int)] ++ wsX40)
def wsX1_start_r1 : List Cond := [Cond.fieldLink RX1 19 "ClosedSums$Equation" "byHighest" "[LClosedSums$Pair;", Cond.fieldLink RX1 23 "ClosedSums$Equation" "remaining" "LClosedSums$Pair;", Cond.fieldLink RX1 65 "ClosedSums$Pair" "image" "LClosedSums$Polynomial;", Cond.fieldLink RX1 50 "ClosedSums$Pair" "origin" "LClosedSums$Polynomial;", Cond.fieldLink RX1 28 "ClosedSums$Equation" "bottomBefore" "LClosedSums$Polynomial;", Cond.fieldLink RX1 32 "ClosedSums$Equation" "topGrown" "LClosedSums$Polynomial;", Cond.methodLink RX1 70 yX6_part, Cond.instanceMethod yX6_part, Cond.selects RX6 yX6_part yX6_part, Cond.initialized RX6, Cond.code yX6_part cX6_part 2 (some (.object "ClosedSums$Polynomial")), Cond.fieldLink RX6 12 "ClosedSums$RatioSplit" "top" "LClosedSums$Polynomial;", Cond.fieldLink RX6 18 "ClosedSums$RatioSplit" "bottom" "LClosedSums$Polynomial;", Cond.fieldLink RX6 21 "ClosedSums$RatioSplit" "extra" "LClosedSums$Polynomial;", Cond.methodLink RX1 74 yX4_copyFrom, Cond.instanceMethod yX4_copyFrom, Cond.selects RX4 yX4_copyFrom yX4_copyFrom, Cond.initialized RX4, Cond.code yX4_copyFrom cX4_copyFrom 3 none, Cond.fieldLink RX4 11 "ClosedSums$Polynomial" "numbers" "[I", Cond.fieldLink RX4 15 "ClosedSums$Polynomial" "highest" "I", Cond.methodLink RX4 19 yX4_number, Cond.instanceMethod yX4_number, Cond.selects RX4 yX4_number yX4_number]
def wsX1_start_r2 : List Cond := [Cond.code yX4_number cX4_number 2 (some .int), Cond.methodLink RX1 78 yX4_becomeNumber, Cond.instanceMethod yX4_becomeNumber, Cond.selects RX4 yX4_becomeNumber yX4_becomeNumber, Cond.code yX4_becomeNumber cX4_becomeNumber 3 none, Cond.methodLink RX1 81 yX4_moveBy, Cond.instanceMethod yX4_moveBy, Cond.selects RX4 yX4_moveBy yX4_moveBy, Cond.code yX4_moveBy cX4_moveBy 4 none, Cond.methodLink RX4 37 Lib.Math.min.name, Cond.static Lib.Math.min.name, Cond.initialized "java/lang/Math", Cond.code Lib.Math.min.name Lib.Math.min.code 2 (some .int)]
def wsX1_start : List Cond := .code yX1_start cX1_start 3 none :: ((wsX1_start_r1 ++ wsX1_start_r2) ++ wsX10 ++ wsX30 ++ wsX60 ++ wsX40)
def wsX4_multiplyBy : List Cond := .code yX4_multiplyBy cX4_multiplyBy 6 none :: ([.fieldLink RX4 15 "ClosedSums$Polynomial" "highest" "I", .fieldLink RX4 11 "ClosedSums$Polynomial" "numbers" "[I", .methodLink RX4 37 Lib.Math.min.name, .static Lib.Math.min.name, .initialized "java/lang/Math", .code Lib.Math.min.name Lib.Math.min.code 2 (some .int), .methodLink RX4 33 yX4_isZero, .instanceMethod yX4_isZero, .selects RX4 yX4_isZero yX4_isZero, .initialized RX4, .code yX4_isZero cX4_isZero 1 (some .boolean), .methodLink RX4 19 yX4_number, .instanceMethod yX4_number, .selects RX4 yX4_number yX4_number, .code yX4_number cX4_number 2 (some .int), .methodLink RX4 29 yX4_settle, .instanceMethod yX4_settle, .selects RX4 yX4_settle yX4_settle, .code yX4_settle cX4_settle 3 none] ++ wsX40)
def wsX1_fill_r1 : List Cond := [Cond.fieldLink RX1 50 "ClosedSums$Pair" "origin" "LClosedSums$Polynomial;", Cond.fieldLink RX1 65 "ClosedSums$Pair" "image" "LClosedSums$Polynomial;", Cond.fieldLink RX1 32 "ClosedSums$Equation" "topGrown" "LClosedSums$Polynomial;", Cond.fieldLink RX1 28 "ClosedSums$Equation" "bottomBefore" "LClosedSums$Polynomial;", Cond.fieldLink RX1 35 "ClosedSums$Equation" "placeAfter" "LClosedSums$Polynomial;", Cond.methodLink RX1 78 yX4_becomeNumber, Cond.instanceMethod yX4_becomeNumber, Cond.selects RX4 yX4_becomeNumber yX4_becomeNumber, Cond.initialized RX4, Cond.code yX4_becomeNumber cX4_becomeNumber 3 none, Cond.fieldLink RX4 11 "ClosedSums$Polynomial" "numbers" "[I", Cond.fieldLink RX4 15 "ClosedSums$Polynomial" "highest" "I", Cond.methodLink RX1 46 yX4_setNumber, Cond.instanceMethod yX4_setNumber, Cond.selects RX4 yX4_setNumber yX4_setNumber, Cond.code yX4_setNumber cX4_setNumber 3 none, Cond.methodLink RX4 23 Lib.Math.max.name, Cond.static Lib.Math.max.name, Cond.initialized "java/lang/Math", Cond.code Lib.Math.max.name Lib.Math.max.code 2 (some .int), Cond.methodLink RX4 29 yX4_settle, Cond.instanceMethod yX4_settle, Cond.selects RX4 yX4_settle yX4_settle, Cond.code yX4_settle cX4_settle 3 none]
def wsX1_fill_r2 : List Cond := [Cond.methodLink RX1 74 yX4_copyFrom, Cond.instanceMethod yX4_copyFrom, Cond.selects RX4 yX4_copyFrom yX4_copyFrom, Cond.code yX4_copyFrom cX4_copyFrom 3 none, Cond.methodLink RX4 19 yX4_number, Cond.instanceMethod yX4_number, Cond.selects RX4 yX4_number yX4_number, Cond.code yX4_number cX4_number 2 (some .int), Cond.methodLink RX1 99 yX4_addMultiple, Cond.instanceMethod yX4_addMultiple, Cond.selects RX4 yX4_addMultiple yX4_addMultiple, Cond.code yX4_addMultiple cX4_addMultiple 7 none, Cond.methodLink RX1 103 yX4_multiplyBy, Cond.instanceMethod yX4_multiplyBy, Cond.selects RX4 yX4_multiplyBy yX4_multiplyBy, Cond.code yX4_multiplyBy cX4_multiplyBy 6 none, Cond.methodLink RX4 37 Lib.Math.min.name, Cond.static Lib.Math.min.name, Cond.code Lib.Math.min.name Lib.Math.min.code 2 (some .int), Cond.methodLink RX4 33 yX4_isZero, Cond.instanceMethod yX4_isZero, Cond.selects RX4 yX4_isZero yX4_isZero, Cond.code yX4_isZero cX4_isZero 1 (some .boolean)]
def wsX1_fill : List Cond := .code yX1_fill cX1_fill 3 none :: ((wsX1_fill_r1 ++ wsX1_fill_r2) ++ wsX30 ++ wsX10 ++ wsX40)
def wsX4_highest : List Cond := .code yX4_highest cX4_highest 1 (some .int) :: ([.fieldLink RX4 15 "ClosedSums$Polynomial" "highest" "I"] ++ wsX40)
def wsX1_lower_r1 : List Cond := [Cond.fieldLink RX1 65 "ClosedSums$Pair" "image" "LClosedSums$Polynomial;", Cond.fieldLink RX1 19 "ClosedSums$Equation" "byHighest" "[LClosedSums$Pair;", Cond.methodLink RX1 109 Lib.Math.min.name, Cond.static Lib.Math.min.name, Cond.initialized "java/lang/Math", Cond.code Lib.Math.min.name Lib.Math.min.code 2 (some .int), Cond.fieldLink RX1 50 "ClosedSums$Pair" "origin" "LClosedSums$Polynomial;", Cond.methodLink RX1 106 yX4_highest, Cond.instanceMethod yX4_highest, Cond.selects RX4 yX4_highest yX4_highest, Cond.initialized RX4, Cond.code yX4_highest cX4_highest 1 (some .int), Cond.fieldLink RX4 15 "ClosedSums$Polynomial" "highest" "I", Cond.methodLink RX1 115 yX4_number, Cond.instanceMethod yX4_number, Cond.selects RX4 yX4_number yX4_number, Cond.code yX4_number cX4_number 2 (some .int), Cond.fieldLink RX4 11 "ClosedSums$Polynomial" "numbers" "[I", Cond.static yX7_negative, Cond.initialized RX7, Cond.code yX7_negative cX7_negative 1 (some .int), Cond.methodLink RX1 99 yX4_addMultiple, Cond.instanceMethod yX4_addMultiple, Cond.selects RX4 yX4_addMultiple yX4_addMultiple]
def wsX1_lower_r2 : List Cond := [Cond.code yX4_addMultiple cX4_addMultiple 7 none, Cond.methodLink RX4 23 Lib.Math.max.name, Cond.static Lib.Math.max.name, Cond.code Lib.Math.max.name Lib.Math.max.code 2 (some .int), Cond.methodLink RX4 19 yX4_number, Cond.methodLink RX4 29 yX4_settle, Cond.instanceMethod yX4_settle, Cond.selects RX4 yX4_settle yX4_settle, Cond.code yX4_settle cX4_settle 3 none]
def wsX1_lower : List Cond := .code yX1_lower cX1_lower 6 none :: ((wsX1_lower_r1 ++ wsX1_lower_r2) ++ wsX30 ++ wsX10 ++ wsX40)
def wsX1_keep_r1 : List Cond := [Cond.fieldLink RX1 65 "ClosedSums$Pair" "image" "LClosedSums$Polynomial;", Cond.fieldLink RX1 19 "ClosedSums$Equation" "byHighest" "[LClosedSums$Pair;", Cond.fieldLink RX1 50 "ClosedSums$Pair" "origin" "LClosedSums$Polynomial;", Cond.methodLink RX1 106 yX4_highest, Cond.instanceMethod yX4_highest, Cond.selects RX4 yX4_highest yX4_highest, Cond.initialized RX4, Cond.code yX4_highest cX4_highest 1 (some .int), Cond.fieldLink RX4 15 "ClosedSums$Polynomial" "highest" "I", Cond.methodLink RX1 122 yX4_leading, Cond.instanceMethod yX4_leading, Cond.selects RX4 yX4_leading yX4_leading, Cond.code yX4_leading cX4_leading 1 (some .int), Cond.methodLink RX4 19 yX4_number, Cond.instanceMethod yX4_number, Cond.selects RX4 yX4_number yX4_number, Cond.code yX4_number cX4_number 2 (some .int), Cond.fieldLink RX4 11 "ClosedSums$Polynomial" "numbers" "[I", Cond.static yX7_inverse, Cond.initialized RX7, Cond.code yX7_inverse cX7_inverse 4 (some .int), Cond.methodLink RX1 61 yX4_scaleBy, Cond.instanceMethod yX4_scaleBy, Cond.selects RX4 yX4_scaleBy yX4_scaleBy]
def wsX1_keep_r2 : List Cond := [Cond.code yX4_scaleBy cX4_scaleBy 3 none, Cond.methodLink RX4 29 yX4_settle, Cond.instanceMethod yX4_settle, Cond.selects RX4 yX4_settle yX4_settle, Cond.code yX4_settle cX4_settle 3 none]
def wsX1_keep : List Cond := .code yX1_keep cX1_keep 4 none :: ((wsX1_keep_r1 ++ wsX1_keep_r2) ++ wsX30 ++ wsX10 ++ wsX40)
def wsX1_solve_r1 : List Cond := [Cond.fieldLink RX1 11 "ClosedSums$Equation" "pairs" "[LClosedSums$Pair;", Cond.fieldLink RX1 23 "ClosedSums$Equation" "remaining" "LClosedSums$Pair;", Cond.fieldLink RX1 65 "ClosedSums$Pair" "image" "LClosedSums$Polynomial;", Cond.methodLink RX1 84 yX1_fill, Cond.instanceMethod yX1_fill, Cond.selects RX1 yX1_fill yX1_fill, Cond.initialized RX1, Cond.code yX1_fill cX1_fill 3 none, Cond.fieldLink RX1 50 "ClosedSums$Pair" "origin" "LClosedSums$Polynomial;", Cond.fieldLink RX1 32 "ClosedSums$Equation" "topGrown" "LClosedSums$Polynomial;", Cond.fieldLink RX1 28 "ClosedSums$Equation" "bottomBefore" "LClosedSums$Polynomial;", Cond.fieldLink RX1 35 "ClosedSums$Equation" "placeAfter" "LClosedSums$Polynomial;", Cond.methodLink RX1 78 yX4_becomeNumber, Cond.instanceMethod yX4_becomeNumber, Cond.selects RX4 yX4_becomeNumber yX4_becomeNumber, Cond.initialized RX4, Cond.code yX4_becomeNumber cX4_becomeNumber 3 none, Cond.fieldLink RX4 11 "ClosedSums$Polynomial" "numbers" "[I", Cond.fieldLink RX4 15 "ClosedSums$Polynomial" "highest" "I", Cond.methodLink RX1 46 yX4_setNumber, Cond.instanceMethod yX4_setNumber, Cond.selects RX4 yX4_setNumber yX4_setNumber, Cond.code yX4_setNumber cX4_setNumber 3 none, Cond.methodLink RX4 23 Lib.Math.max.name]
def wsX1_solve_r2 : List Cond := [Cond.static Lib.Math.max.name, Cond.initialized "java/lang/Math", Cond.code Lib.Math.max.name Lib.Math.max.code 2 (some .int), Cond.methodLink RX4 29 yX4_settle, Cond.instanceMethod yX4_settle, Cond.selects RX4 yX4_settle yX4_settle, Cond.code yX4_settle cX4_settle 3 none, Cond.methodLink RX1 74 yX4_copyFrom, Cond.instanceMethod yX4_copyFrom, Cond.selects RX4 yX4_copyFrom yX4_copyFrom, Cond.code yX4_copyFrom cX4_copyFrom 3 none, Cond.methodLink RX4 19 yX4_number, Cond.instanceMethod yX4_number, Cond.selects RX4 yX4_number yX4_number, Cond.code yX4_number cX4_number 2 (some .int), Cond.methodLink RX1 99 yX4_addMultiple, Cond.instanceMethod yX4_addMultiple, Cond.selects RX4 yX4_addMultiple yX4_addMultiple, Cond.code yX4_addMultiple cX4_addMultiple 7 none, Cond.methodLink RX1 103 yX4_multiplyBy, Cond.instanceMethod yX4_multiplyBy, Cond.selects RX4 yX4_multiplyBy yX4_multiplyBy, Cond.code yX4_multiplyBy cX4_multiplyBy 6 none, Cond.methodLink RX4 37 Lib.Math.min.name]
def wsX1_solve_r3 : List Cond := [Cond.static Lib.Math.min.name, Cond.code Lib.Math.min.name Lib.Math.min.code 2 (some .int), Cond.methodLink RX4 33 yX4_isZero, Cond.instanceMethod yX4_isZero, Cond.selects RX4 yX4_isZero yX4_isZero, Cond.code yX4_isZero cX4_isZero 1 (some .boolean), Cond.methodLink RX1 88 yX1_lower, Cond.instanceMethod yX1_lower, Cond.selects RX1 yX1_lower yX1_lower, Cond.code yX1_lower cX1_lower 6 none, Cond.fieldLink RX1 19 "ClosedSums$Equation" "byHighest" "[LClosedSums$Pair;", Cond.methodLink RX1 109 Lib.Math.min.name, Cond.methodLink RX1 106 yX4_highest, Cond.instanceMethod yX4_highest, Cond.selects RX4 yX4_highest yX4_highest, Cond.code yX4_highest cX4_highest 1 (some .int), Cond.methodLink RX1 115 yX4_number, Cond.static yX7_negative, Cond.initialized RX7, Cond.code yX7_negative cX7_negative 1 (some .int), Cond.methodLink RX1 92 yX1_keep, Cond.instanceMethod yX1_keep, Cond.selects RX1 yX1_keep yX1_keep, Cond.code yX1_keep cX1_keep 4 none]
def wsX1_solve_r4 : List Cond := [Cond.methodLink RX1 122 yX4_leading, Cond.instanceMethod yX4_leading, Cond.selects RX4 yX4_leading yX4_leading, Cond.code yX4_leading cX4_leading 1 (some .int), Cond.static yX7_inverse, Cond.code yX7_inverse cX7_inverse 4 (some .int), Cond.methodLink RX1 61 yX4_scaleBy, Cond.instanceMethod yX4_scaleBy, Cond.selects RX4 yX4_scaleBy yX4_scaleBy, Cond.code yX4_scaleBy cX4_scaleBy 3 none, Cond.methodLink RX1 95 yX4_isZero]
def wsX1_solve : List Cond := .code yX1_solve cX1_solve 3 (some .int) :: ((wsX1_solve_r1 ++ (wsX1_solve_r2 ++ (wsX1_solve_r3 ++ wsX1_solve_r4))) ++ wsX10 ++ wsX30 ++ wsX40)
def wsX1_renew_r1 : List Cond := [Cond.fieldLink RX1 42 "ClosedSums$Equation" "known" "Z", Cond.fieldLink RX1 38 "ClosedSums$Equation" "leastDegree" "I", Cond.fieldLink RX1 23 "ClosedSums$Equation" "remaining" "LClosedSums$Pair;", Cond.fieldLink RX1 50 "ClosedSums$Pair" "origin" "LClosedSums$Polynomial;", Cond.methodLink RX1 53 yX1_start, Cond.instanceMethod yX1_start, Cond.selects RX1 yX1_start yX1_start, Cond.initialized RX1, Cond.code yX1_start cX1_start 3 none, Cond.fieldLink RX1 19 "ClosedSums$Equation" "byHighest" "[LClosedSums$Pair;", Cond.fieldLink RX1 65 "ClosedSums$Pair" "image" "LClosedSums$Polynomial;", Cond.fieldLink RX1 28 "ClosedSums$Equation" "bottomBefore" "LClosedSums$Polynomial;", Cond.fieldLink RX1 32 "ClosedSums$Equation" "topGrown" "LClosedSums$Polynomial;", Cond.methodLink RX1 70 yX6_part, Cond.instanceMethod yX6_part, Cond.selects RX6 yX6_part yX6_part, Cond.initialized RX6, Cond.code yX6_part cX6_part 2 (some (.object "ClosedSums$Polynomial")), Cond.fieldLink RX6 12 "ClosedSums$RatioSplit" "top" "LClosedSums$Polynomial;", Cond.fieldLink RX6 18 "ClosedSums$RatioSplit" "bottom" "LClosedSums$Polynomial;", Cond.fieldLink RX6 21 "ClosedSums$RatioSplit" "extra" "LClosedSums$Polynomial;", Cond.methodLink RX1 74 yX4_copyFrom, Cond.instanceMethod yX4_copyFrom, Cond.selects RX4 yX4_copyFrom yX4_copyFrom]
def wsX1_renew_r2 : List Cond := [Cond.initialized RX4, Cond.code yX4_copyFrom cX4_copyFrom 3 none, Cond.fieldLink RX4 11 "ClosedSums$Polynomial" "numbers" "[I", Cond.fieldLink RX4 15 "ClosedSums$Polynomial" "highest" "I", Cond.methodLink RX4 19 yX4_number, Cond.instanceMethod yX4_number, Cond.selects RX4 yX4_number yX4_number, Cond.code yX4_number cX4_number 2 (some .int), Cond.methodLink RX1 78 yX4_becomeNumber, Cond.instanceMethod yX4_becomeNumber, Cond.selects RX4 yX4_becomeNumber yX4_becomeNumber, Cond.code yX4_becomeNumber cX4_becomeNumber 3 none, Cond.methodLink RX1 81 yX4_moveBy, Cond.instanceMethod yX4_moveBy, Cond.selects RX4 yX4_moveBy yX4_moveBy, Cond.code yX4_moveBy cX4_moveBy 4 none, Cond.methodLink RX4 37 Lib.Math.min.name, Cond.static Lib.Math.min.name, Cond.initialized "java/lang/Math", Cond.code Lib.Math.min.name Lib.Math.min.code 2 (some .int), Cond.methodLink RX1 57 yX1_solve, Cond.instanceMethod yX1_solve, Cond.selects RX1 yX1_solve yX1_solve, Cond.code yX1_solve cX1_solve 3 (some .int)]
def wsX1_renew_r3 : List Cond := [Cond.fieldLink RX1 11 "ClosedSums$Equation" "pairs" "[LClosedSums$Pair;", Cond.methodLink RX1 84 yX1_fill, Cond.instanceMethod yX1_fill, Cond.selects RX1 yX1_fill yX1_fill, Cond.code yX1_fill cX1_fill 3 none, Cond.fieldLink RX1 35 "ClosedSums$Equation" "placeAfter" "LClosedSums$Polynomial;", Cond.methodLink RX1 46 yX4_setNumber, Cond.instanceMethod yX4_setNumber, Cond.selects RX4 yX4_setNumber yX4_setNumber, Cond.code yX4_setNumber cX4_setNumber 3 none, Cond.methodLink RX4 23 Lib.Math.max.name, Cond.static Lib.Math.max.name, Cond.code Lib.Math.max.name Lib.Math.max.code 2 (some .int), Cond.methodLink RX4 29 yX4_settle, Cond.instanceMethod yX4_settle, Cond.selects RX4 yX4_settle yX4_settle, Cond.code yX4_settle cX4_settle 3 none, Cond.methodLink RX1 99 yX4_addMultiple, Cond.instanceMethod yX4_addMultiple, Cond.selects RX4 yX4_addMultiple yX4_addMultiple, Cond.code yX4_addMultiple cX4_addMultiple 7 none, Cond.methodLink RX1 103 yX4_multiplyBy, Cond.instanceMethod yX4_multiplyBy, Cond.selects RX4 yX4_multiplyBy yX4_multiplyBy]
def wsX1_renew_r4 : List Cond := [Cond.code yX4_multiplyBy cX4_multiplyBy 6 none, Cond.methodLink RX4 33 yX4_isZero, Cond.instanceMethod yX4_isZero, Cond.selects RX4 yX4_isZero yX4_isZero, Cond.code yX4_isZero cX4_isZero 1 (some .boolean), Cond.methodLink RX1 88 yX1_lower, Cond.instanceMethod yX1_lower, Cond.selects RX1 yX1_lower yX1_lower, Cond.code yX1_lower cX1_lower 6 none, Cond.methodLink RX1 109 Lib.Math.min.name, Cond.methodLink RX1 106 yX4_highest, Cond.instanceMethod yX4_highest, Cond.selects RX4 yX4_highest yX4_highest, Cond.code yX4_highest cX4_highest 1 (some .int), Cond.methodLink RX1 115 yX4_number, Cond.static yX7_negative, Cond.initialized RX7, Cond.code yX7_negative cX7_negative 1 (some .int), Cond.methodLink RX1 92 yX1_keep, Cond.instanceMethod yX1_keep, Cond.selects RX1 yX1_keep yX1_keep, Cond.code yX1_keep cX1_keep 4 none, Cond.methodLink RX1 122 yX4_leading, Cond.instanceMethod yX4_leading]
def wsX1_renew_r5 : List Cond := [Cond.selects RX4 yX4_leading yX4_leading, Cond.code yX4_leading cX4_leading 1 (some .int), Cond.static yX7_inverse, Cond.code yX7_inverse cX7_inverse 4 (some .int), Cond.methodLink RX1 61 yX4_scaleBy, Cond.instanceMethod yX4_scaleBy, Cond.selects RX4 yX4_scaleBy yX4_scaleBy, Cond.code yX4_scaleBy cX4_scaleBy 3 none, Cond.methodLink RX1 95 yX4_isZero]
def wsX1_renew : List Cond := .code yX1_renew cX1_renew 2 none :: ((wsX1_renew_r1 ++ (wsX1_renew_r2 ++ (wsX1_renew_r3 ++ (wsX1_renew_r4 ++ wsX1_renew_r5)))) ++ wsX10 ++ wsX30 ++ wsX60 ++ wsX40)
def wsX1_bottomBefore : List Cond := .code yX1_bottomBefore cX1_bottomBefore 1 (some (.object "ClosedSums$Polynomial")) :: ([.fieldLink RX1 28 "ClosedSums$Equation" "bottomBefore" "LClosedSums$Polynomial;"] ++ wsX10)
def wsX2_init : List Cond := .code yX2_init cX2_init 1 none :: ([.methodLink RX2 3 objectInit, .instanceMethod objectInit, .code objectInit ⟨#[0xb1]⟩ 1 none, .classLink RX2 9 RX4, .instantiable RX4 2, .initialized RX4, .fieldLink RX2 12 "ClosedSums$Fraction" "top" "LClosedSums$Polynomial;", .fieldLink RX2 18 "ClosedSums$Fraction" "bottom" "LClosedSums$Polynomial;", .fieldLink RX2 21 "ClosedSums$Fraction" "known" "Z", .instanceMethod yX4_init, .code yX4_init cX4_init 1 none, .methodLink RX4 3 objectInit, .arrayClass .int, .fieldLink RX4 11 "ClosedSums$Polynomial" "numbers" "[I", .fieldLink RX4 15 "ClosedSums$Polynomial" "highest" "I"] ++ wsX40 ++ wsX20)
def wsX2_forget : List Cond := .code yX2_forget cX2_forget 1 none :: ([.fieldLink RX2 21 "ClosedSums$Fraction" "known" "Z"] ++ wsX20)
def wsX2_renew_r1 : List Cond := [Cond.fieldLink RX2 21 "ClosedSums$Fraction" "known" "Z", Cond.fieldLink RX2 12 "ClosedSums$Fraction" "top" "LClosedSums$Polynomial;", Cond.fieldLink RX2 18 "ClosedSums$Fraction" "bottom" "LClosedSums$Polynomial;", Cond.methodLink RX2 25 yX1_bottomBefore, Cond.instanceMethod yX1_bottomBefore, Cond.selects RX1 yX1_bottomBefore yX1_bottomBefore, Cond.initialized RX1, Cond.code yX1_bottomBefore cX1_bottomBefore 1 (some (.object "ClosedSums$Polynomial")), Cond.fieldLink RX1 28 "ClosedSums$Equation" "bottomBefore" "LClosedSums$Polynomial;", Cond.methodLink RX2 31 yX4_copyFrom, Cond.instanceMethod yX4_copyFrom, Cond.selects RX4 yX4_copyFrom yX4_copyFrom, Cond.initialized RX4, Cond.code yX4_copyFrom cX4_copyFrom 3 none, Cond.fieldLink RX4 11 "ClosedSums$Polynomial" "numbers" "[I", Cond.fieldLink RX4 15 "ClosedSums$Polynomial" "highest" "I", Cond.methodLink RX4 19 yX4_number, Cond.instanceMethod yX4_number, Cond.selects RX4 yX4_number yX4_number, Cond.code yX4_number cX4_number 2 (some .int), Cond.methodLink RX2 35 yX1_solution, Cond.instanceMethod yX1_solution, Cond.selects RX1 yX1_solution yX1_solution, Cond.code yX1_solution cX1_solution 1 (some (.object "ClosedSums$Polynomial"))]
def wsX2_renew_r2 : List Cond := [Cond.fieldLink RX1 23 "ClosedSums$Equation" "remaining" "LClosedSums$Pair;", Cond.fieldLink RX1 50 "ClosedSums$Pair" "origin" "LClosedSums$Polynomial;", Cond.methodLink RX2 38 yX4_multiplyBy, Cond.instanceMethod yX4_multiplyBy, Cond.selects RX4 yX4_multiplyBy yX4_multiplyBy, Cond.code yX4_multiplyBy cX4_multiplyBy 6 none, Cond.methodLink RX4 37 Lib.Math.min.name, Cond.static Lib.Math.min.name, Cond.initialized "java/lang/Math", Cond.code Lib.Math.min.name Lib.Math.min.code 2 (some .int), Cond.methodLink RX4 33 yX4_isZero, Cond.instanceMethod yX4_isZero, Cond.selects RX4 yX4_isZero yX4_isZero, Cond.code yX4_isZero cX4_isZero 1 (some .boolean), Cond.methodLink RX4 29 yX4_settle, Cond.instanceMethod yX4_settle, Cond.selects RX4 yX4_settle yX4_settle, Cond.code yX4_settle cX4_settle 3 none, Cond.methodLink RX2 43 yX6_part, Cond.instanceMethod yX6_part, Cond.selects RX6 yX6_part yX6_part, Cond.initialized RX6, Cond.code yX6_part cX6_part 2 (some (.object "ClosedSums$Polynomial")), Cond.fieldLink RX6 12 "ClosedSums$RatioSplit" "top" "LClosedSums$Polynomial;"]
def wsX2_renew_r3 : List Cond := [Cond.fieldLink RX6 18 "ClosedSums$RatioSplit" "bottom" "LClosedSums$Polynomial;", Cond.fieldLink RX6 21 "ClosedSums$RatioSplit" "extra" "LClosedSums$Polynomial;", Cond.methodLink RX2 47 yX0_commonDivisor, Cond.instanceMethod yX0_commonDivisor, Cond.selects RX0 yX0_commonDivisor yX0_commonDivisor, Cond.initialized RX0, Cond.code yX0_commonDivisor cX0_commonDivisor 7 (some (.object "ClosedSums$Polynomial")), Cond.fieldLink RX0 10 "ClosedSums$Division" "first" "LClosedSums$Polynomial;", Cond.fieldLink RX0 16 "ClosedSums$Division" "second" "LClosedSums$Polynomial;", Cond.fieldLink RX0 19 "ClosedSums$Division" "quotient" "LClosedSums$Polynomial;", Cond.fieldLink RX0 22 "ClosedSums$Division" "common" "LClosedSums$Polynomial;", Cond.methodLink RX0 25 yX4_copyFrom, Cond.methodLink RX0 29 yX4_isZero, Cond.methodLink RX0 33 yX4_divideBy, Cond.instanceMethod yX4_divideBy, Cond.selects RX4 yX4_divideBy yX4_divideBy, Cond.code yX4_divideBy cX4_divideBy 7 none, Cond.methodLink RX4 40 yX4_becomeNumber, Cond.instanceMethod yX4_becomeNumber, Cond.selects RX4 yX4_becomeNumber yX4_becomeNumber, Cond.code yX4_becomeNumber cX4_becomeNumber 3 none, Cond.methodLink RX4 43 yX4_leading, Cond.instanceMethod yX4_leading, Cond.selects RX4 yX4_leading yX4_leading]
def wsX2_renew_r4 : List Cond := [Cond.code yX4_leading cX4_leading 1 (some .int), Cond.static yX7_inverse, Cond.initialized RX7, Cond.code yX7_inverse cX7_inverse 4 (some .int), Cond.methodLink RX4 50 yX4_setNumber, Cond.instanceMethod yX4_setNumber, Cond.selects RX4 yX4_setNumber yX4_setNumber, Cond.code yX4_setNumber cX4_setNumber 3 none, Cond.methodLink RX4 23 Lib.Math.max.name, Cond.static Lib.Math.max.name, Cond.code Lib.Math.max.name Lib.Math.max.code 2 (some .int), Cond.static yX7_negative, Cond.code yX7_negative cX7_negative 1 (some .int), Cond.methodLink RX4 57 yX4_addMultiple, Cond.instanceMethod yX4_addMultiple, Cond.selects RX4 yX4_addMultiple yX4_addMultiple, Cond.code yX4_addMultiple cX4_addMultiple 7 none, Cond.methodLink RX0 37 yX4_leading, Cond.methodLink RX0 47 yX4_scaleBy, Cond.instanceMethod yX4_scaleBy, Cond.selects RX4 yX4_scaleBy yX4_scaleBy, Cond.code yX4_scaleBy cX4_scaleBy 3 none, Cond.methodLink RX2 53 yX0_divideOut, Cond.instanceMethod yX0_divideOut]
def wsX2_renew_r5 : List Cond := [Cond.selects RX0 yX0_divideOut yX0_divideOut, Cond.code yX0_divideOut cX0_divideOut 3 none]
def wsX2_renew : List Cond := .code yX2_renew cX2_renew 5 none :: ((wsX2_renew_r1 ++ (wsX2_renew_r2 ++ (wsX2_renew_r3 ++ (wsX2_renew_r4 ++ wsX2_renew_r5)))) ++ wsX20 ++ wsX10 ++ wsX40 ++ wsX30 ++ wsX60 ++ wsX00)
def wsX2_top : List Cond := .code yX2_top cX2_top 1 (some (.object "ClosedSums$Polynomial")) :: ([.fieldLink RX2 12 "ClosedSums$Fraction" "top" "LClosedSums$Polynomial;"] ++ wsX20)
def wsX2_bottom : List Cond := .code yX2_bottom cX2_bottom 1 (some (.object "ClosedSums$Polynomial")) :: ([.fieldLink RX2 18 "ClosedSums$Fraction" "bottom" "LClosedSums$Polynomial;"] ++ wsX20)
def wsX4_valueAt : List Cond := .code yX4_valueAt cX4_valueAt 4 (some .int) :: ([.fieldLink RX4 15 "ClosedSums$Polynomial" "highest" "I", .methodLink RX4 19 yX4_number, .instanceMethod yX4_number, .selects RX4 yX4_number yX4_number, .initialized RX4, .code yX4_number cX4_number 2 (some .int), .fieldLink RX4 11 "ClosedSums$Polynomial" "numbers" "[I"] ++ wsX40)
def wsX2_valueAt : List Cond := .code yX2_valueAt cX2_valueAt 3 (some .int) :: ([.fieldLink RX2 18 "ClosedSums$Fraction" "bottom" "LClosedSums$Polynomial;", .fieldLink RX2 12 "ClosedSums$Fraction" "top" "LClosedSums$Polynomial;", .methodLink RX2 57 yX4_valueAt, .instanceMethod yX4_valueAt, .selects RX4 yX4_valueAt yX4_valueAt, .initialized RX4, .code yX4_valueAt cX4_valueAt 4 (some .int), .fieldLink RX4 15 "ClosedSums$Polynomial" "highest" "I", .methodLink RX4 19 yX4_number, .instanceMethod yX4_number, .selects RX4 yX4_number yX4_number, .code yX4_number cX4_number 2 (some .int), .fieldLink RX4 11 "ClosedSums$Polynomial" "numbers" "[I", .static yX7_inverse, .initialized RX7, .code yX7_inverse cX7_inverse 4 (some .int)] ++ wsX20 ++ wsX40)
def wsX5_init : List Cond := .code yX5_init cX5_init 1 none :: ([.methodLink RX5 3 objectInit, .instanceMethod objectInit, .code objectInit ⟨#[0xb1]⟩ 1 none, .arrayClass .int, .fieldLink RX5 9 "ClosedSums$Progress" "terms" "[I", .fieldLink RX5 15 "ClosedSums$Progress" "reached" "I"] ++ wsX50)
def wsX5_forget : List Cond := .code yX5_forget cX5_forget 1 none :: ([.fieldLink RX5 15 "ClosedSums$Progress" "reached" "I"] ++ wsX50)
def wsX5_reaches : List Cond := .code yX5_reaches cX5_reaches 7 (some .boolean) :: ([.fieldLink RX5 15 "ClosedSums$Progress" "reached" "I", .fieldLink RX5 9 "ClosedSums$Progress" "terms" "[I", .methodLink RX5 19 yX4_valueAt, .instanceMethod yX4_valueAt, .selects RX4 yX4_valueAt yX4_valueAt, .initialized RX4, .code yX4_valueAt cX4_valueAt 4 (some .int), .fieldLink RX4 15 "ClosedSums$Polynomial" "highest" "I", .methodLink RX4 19 yX4_number, .instanceMethod yX4_number, .selects RX4 yX4_number yX4_number, .code yX4_number cX4_number 2 (some .int), .fieldLink RX4 11 "ClosedSums$Polynomial" "numbers" "[I", .static yX7_inverse, .initialized RX7, .code yX7_inverse cX7_inverse 4 (some .int)] ++ wsX50 ++ wsX40)
def wsX5_termAt : List Cond := .code yX5_termAt cX5_termAt 2 (some .int) :: ([.fieldLink RX5 9 "ClosedSums$Progress" "terms" "[I"] ++ wsX50)
def wsX5_sumBelow : List Cond := .code yX5_sumBelow cX5_sumBelow 4 (some .int) :: ([.fieldLink RX5 9 "ClosedSums$Progress" "terms" "[I"] ++ wsX50)
def wsX6_init : List Cond := .code yX6_init cX6_init 1 none :: ([.methodLink RX6 3 objectInit, .instanceMethod objectInit, .code objectInit ⟨#[0xb1]⟩ 1 none, .classLink RX6 9 RX4, .instantiable RX4 2, .initialized RX4, .fieldLink RX6 12 "ClosedSums$RatioSplit" "top" "LClosedSums$Polynomial;", .fieldLink RX6 18 "ClosedSums$RatioSplit" "bottom" "LClosedSums$Polynomial;", .fieldLink RX6 21 "ClosedSums$RatioSplit" "extra" "LClosedSums$Polynomial;", .fieldLink RX6 24 "ClosedSums$RatioSplit" "moved" "LClosedSums$Polynomial;", .arrayClass .int, .fieldLink RX6 27 "ClosedSums$RatioSplit" "commonDegrees" "[I", .fieldLink RX6 31 "ClosedSums$RatioSplit" "known" "Z", .instanceMethod yX4_init, .code yX4_init cX4_init 1 none, .methodLink RX4 3 objectInit, .fieldLink RX4 11 "ClosedSums$Polynomial" "numbers" "[I", .fieldLink RX4 15 "ClosedSums$Polynomial" "highest" "I"] ++ wsX40 ++ wsX60)
def wsX6_forget : List Cond := .code yX6_forget cX6_forget 1 none :: ([.fieldLink RX6 31 "ClosedSums$RatioSplit" "known" "Z"] ++ wsX60)
def wsX6_renew_r1 : List Cond := [Cond.fieldLink RX6 31 "ClosedSums$RatioSplit" "known" "Z", Cond.fieldLink RX6 12 "ClosedSums$RatioSplit" "top" "LClosedSums$Polynomial;", Cond.fieldLink RX6 18 "ClosedSums$RatioSplit" "bottom" "LClosedSums$Polynomial;", Cond.fieldLink RX6 21 "ClosedSums$RatioSplit" "extra" "LClosedSums$Polynomial;", Cond.fieldLink RX6 27 "ClosedSums$RatioSplit" "commonDegrees" "[I", Cond.fieldLink RX6 24 "ClosedSums$RatioSplit" "moved" "LClosedSums$Polynomial;", Cond.methodLink RX6 35 yX4_copyFrom, Cond.instanceMethod yX4_copyFrom, Cond.selects RX4 yX4_copyFrom yX4_copyFrom, Cond.initialized RX4, Cond.code yX4_copyFrom cX4_copyFrom 3 none, Cond.fieldLink RX4 11 "ClosedSums$Polynomial" "numbers" "[I", Cond.fieldLink RX4 15 "ClosedSums$Polynomial" "highest" "I", Cond.methodLink RX4 19 yX4_number, Cond.instanceMethod yX4_number, Cond.selects RX4 yX4_number yX4_number, Cond.code yX4_number cX4_number 2 (some .int), Cond.methodLink RX6 39 yX4_becomeNumber, Cond.instanceMethod yX4_becomeNumber, Cond.selects RX4 yX4_becomeNumber yX4_becomeNumber, Cond.code yX4_becomeNumber cX4_becomeNumber 3 none, Cond.methodLink RX6 43 yX4_moveBy, Cond.instanceMethod yX4_moveBy, Cond.selects RX4 yX4_moveBy yX4_moveBy]
def wsX6_renew_r2 : List Cond := [Cond.code yX4_moveBy cX4_moveBy 4 none, Cond.methodLink RX4 37 Lib.Math.min.name, Cond.static Lib.Math.min.name, Cond.initialized "java/lang/Math", Cond.code Lib.Math.min.name Lib.Math.min.code 2 (some .int), Cond.methodLink RX6 46 yX0_commonDivisor, Cond.instanceMethod yX0_commonDivisor, Cond.selects RX0 yX0_commonDivisor yX0_commonDivisor, Cond.initialized RX0, Cond.code yX0_commonDivisor cX0_commonDivisor 7 (some (.object "ClosedSums$Polynomial")), Cond.fieldLink RX0 10 "ClosedSums$Division" "first" "LClosedSums$Polynomial;", Cond.fieldLink RX0 16 "ClosedSums$Division" "second" "LClosedSums$Polynomial;", Cond.fieldLink RX0 19 "ClosedSums$Division" "quotient" "LClosedSums$Polynomial;", Cond.fieldLink RX0 22 "ClosedSums$Division" "common" "LClosedSums$Polynomial;", Cond.methodLink RX0 25 yX4_copyFrom, Cond.methodLink RX0 29 yX4_isZero, Cond.instanceMethod yX4_isZero, Cond.selects RX4 yX4_isZero yX4_isZero, Cond.code yX4_isZero cX4_isZero 1 (some .boolean), Cond.methodLink RX0 33 yX4_divideBy, Cond.instanceMethod yX4_divideBy, Cond.selects RX4 yX4_divideBy yX4_divideBy, Cond.code yX4_divideBy cX4_divideBy 7 none, Cond.methodLink RX4 40 yX4_becomeNumber]
def wsX6_renew_r3 : List Cond := [Cond.methodLink RX4 33 yX4_isZero, Cond.methodLink RX4 43 yX4_leading, Cond.instanceMethod yX4_leading, Cond.selects RX4 yX4_leading yX4_leading, Cond.code yX4_leading cX4_leading 1 (some .int), Cond.static yX7_inverse, Cond.initialized RX7, Cond.code yX7_inverse cX7_inverse 4 (some .int), Cond.methodLink RX4 50 yX4_setNumber, Cond.instanceMethod yX4_setNumber, Cond.selects RX4 yX4_setNumber yX4_setNumber, Cond.code yX4_setNumber cX4_setNumber 3 none, Cond.methodLink RX4 23 Lib.Math.max.name, Cond.static Lib.Math.max.name, Cond.code Lib.Math.max.name Lib.Math.max.code 2 (some .int), Cond.methodLink RX4 29 yX4_settle, Cond.instanceMethod yX4_settle, Cond.selects RX4 yX4_settle yX4_settle, Cond.code yX4_settle cX4_settle 3 none, Cond.static yX7_negative, Cond.code yX7_negative cX7_negative 1 (some .int), Cond.methodLink RX4 57 yX4_addMultiple, Cond.instanceMethod yX4_addMultiple, Cond.selects RX4 yX4_addMultiple yX4_addMultiple]
def wsX6_renew_r4 : List Cond := [Cond.code yX4_addMultiple cX4_addMultiple 7 none, Cond.methodLink RX0 37 yX4_leading, Cond.methodLink RX0 47 yX4_scaleBy, Cond.instanceMethod yX4_scaleBy, Cond.selects RX4 yX4_scaleBy yX4_scaleBy, Cond.code yX4_scaleBy cX4_scaleBy 3 none, Cond.methodLink RX6 52 yX4_highest, Cond.instanceMethod yX4_highest, Cond.selects RX4 yX4_highest yX4_highest, Cond.code yX4_highest cX4_highest 1 (some .int), Cond.methodLink RX6 56 yX0_divideOut, Cond.instanceMethod yX0_divideOut, Cond.selects RX0 yX0_divideOut yX0_divideOut, Cond.code yX0_divideOut cX0_divideOut 3 none, Cond.methodLink RX6 60 yX4_multiplyBy, Cond.instanceMethod yX4_multiplyBy, Cond.selects RX4 yX4_multiplyBy yX4_multiplyBy, Cond.code yX4_multiplyBy cX4_multiplyBy 6 none]
def wsX6_renew : List Cond := .code yX6_renew cX6_renew 7 none :: ((wsX6_renew_r1 ++ (wsX6_renew_r2 ++ (wsX6_renew_r3 ++ wsX6_renew_r4))) ++ wsX60 ++ wsX40 ++ wsX00)
def wsX6_commonDegree : List Cond := .code yX6_commonDegree cX6_commonDegree 2 (some .int) :: ([.fieldLink RX6 27 "ClosedSums$RatioSplit" "commonDegrees" "[I"] ++ wsX60)
def wsX7_init_r1 : List Cond := [Cond.methodLink RX7 1 objectInit, Cond.instanceMethod objectInit, Cond.code objectInit ⟨#[0xb1]⟩ 1 none, Cond.classLink RX7 7 RX4, Cond.instantiable RX4 2, Cond.initialized RX4, Cond.fieldLink RX7 10 "ClosedSums" "ratioTop" "LClosedSums$Polynomial;", Cond.fieldLink RX7 16 "ClosedSums" "ratioBottom" "LClosedSums$Polynomial;", Cond.classLink RX7 19 RX0, Cond.instantiable RX0 4, Cond.initialized RX0, Cond.fieldLink RX7 22 "ClosedSums" "division" "LClosedSums$Division;", Cond.classLink RX7 26 RX6, Cond.instantiable RX6 6, Cond.initialized RX6, Cond.fieldLink RX7 29 "ClosedSums" "parts" "LClosedSums$RatioSplit;", Cond.classLink RX7 33 RX1, Cond.instantiable RX1 8, Cond.initialized RX1, Cond.fieldLink RX7 36 "ClosedSums" "equation" "LClosedSums$Equation;", Cond.classLink RX7 40 RX2, Cond.instantiable RX2 3, Cond.initialized RX2, Cond.fieldLink RX7 43 "ClosedSums" "fraction" "LClosedSums$Fraction;"]
def wsX7_init_r2 : List Cond := [Cond.classLink RX7 47 RX5, Cond.instantiable RX5 2, Cond.initialized RX5, Cond.fieldLink RX7 50 "ClosedSums" "progress" "LClosedSums$Progress;", Cond.instanceMethod yX4_init, Cond.code yX4_init cX4_init 1 none, Cond.methodLink RX4 3 objectInit, Cond.arrayClass .int, Cond.fieldLink RX4 11 "ClosedSums$Polynomial" "numbers" "[I", Cond.fieldLink RX4 15 "ClosedSums$Polynomial" "highest" "I", Cond.instanceMethod yX0_init, Cond.code yX0_init cX0_init 1 none, Cond.methodLink RX0 1 objectInit, Cond.classLink RX0 7 RX4, Cond.fieldLink RX0 10 "ClosedSums$Division" "first" "LClosedSums$Polynomial;", Cond.fieldLink RX0 16 "ClosedSums$Division" "second" "LClosedSums$Polynomial;", Cond.fieldLink RX0 19 "ClosedSums$Division" "quotient" "LClosedSums$Polynomial;", Cond.fieldLink RX0 22 "ClosedSums$Division" "common" "LClosedSums$Polynomial;", Cond.instanceMethod yX6_init, Cond.code yX6_init cX6_init 1 none, Cond.methodLink RX6 3 objectInit, Cond.classLink RX6 9 RX4, Cond.fieldLink RX6 12 "ClosedSums$RatioSplit" "top" "LClosedSums$Polynomial;", Cond.fieldLink RX6 18 "ClosedSums$RatioSplit" "bottom" "LClosedSums$Polynomial;"]
def wsX7_init_r3 : List Cond := [Cond.fieldLink RX6 21 "ClosedSums$RatioSplit" "extra" "LClosedSums$Polynomial;", Cond.fieldLink RX6 24 "ClosedSums$RatioSplit" "moved" "LClosedSums$Polynomial;", Cond.fieldLink RX6 27 "ClosedSums$RatioSplit" "commonDegrees" "[I", Cond.fieldLink RX6 31 "ClosedSums$RatioSplit" "known" "Z", Cond.methodLink RX7 35 yX1_init, Cond.instanceMethod yX1_init, Cond.code yX1_init cX1_init 2 none, Cond.methodLink RX1 3 objectInit, Cond.classLink RX1 9 RX3, Cond.fieldLink RX1 11 "ClosedSums$Equation" "pairs" "[LClosedSums$Pair;", Cond.fieldLink RX1 19 "ClosedSums$Equation" "byHighest" "[LClosedSums$Pair;", Cond.instantiable RX3 2, Cond.initialized RX3, Cond.fieldLink RX1 23 "ClosedSums$Equation" "remaining" "LClosedSums$Pair;", Cond.classLink RX1 17 RX4, Cond.fieldLink RX1 28 "ClosedSums$Equation" "bottomBefore" "LClosedSums$Polynomial;", Cond.fieldLink RX1 32 "ClosedSums$Equation" "topGrown" "LClosedSums$Polynomial;", Cond.fieldLink RX1 35 "ClosedSums$Equation" "placeAfter" "LClosedSums$Polynomial;", Cond.fieldLink RX1 38 "ClosedSums$Equation" "leastDegree" "I", Cond.fieldLink RX1 42 "ClosedSums$Equation" "known" "Z", Cond.instanceMethod yX3_init, Cond.code yX3_init cX3_init 1 none, Cond.methodLink RX3 1 objectInit, Cond.classLink RX3 7 RX4]
def wsX7_init_r4 : List Cond := [Cond.fieldLink RX3 10 "ClosedSums$Pair" "origin" "LClosedSums$Polynomial;", Cond.fieldLink RX3 16 "ClosedSums$Pair" "image" "LClosedSums$Polynomial;", Cond.methodLink RX1 46 yX4_setNumber, Cond.instanceMethod yX4_setNumber, Cond.selects RX4 yX4_setNumber yX4_setNumber, Cond.code yX4_setNumber cX4_setNumber 3 none, Cond.methodLink RX4 23 Lib.Math.max.name, Cond.static Lib.Math.max.name, Cond.initialized "java/lang/Math", Cond.code Lib.Math.max.name Lib.Math.max.code 2 (some .int), Cond.methodLink RX4 29 yX4_settle, Cond.instanceMethod yX4_settle, Cond.selects RX4 yX4_settle yX4_settle, Cond.code yX4_settle cX4_settle 3 none, Cond.instanceMethod yX2_init, Cond.code yX2_init cX2_init 1 none, Cond.methodLink RX2 3 objectInit, Cond.classLink RX2 9 RX4, Cond.fieldLink RX2 12 "ClosedSums$Fraction" "top" "LClosedSums$Polynomial;", Cond.fieldLink RX2 18 "ClosedSums$Fraction" "bottom" "LClosedSums$Polynomial;", Cond.fieldLink RX2 21 "ClosedSums$Fraction" "known" "Z", Cond.methodLink RX7 49 yX5_init, Cond.instanceMethod yX5_init, Cond.code yX5_init cX5_init 1 none]
def wsX7_init_r5 : List Cond := [Cond.methodLink RX5 3 objectInit, Cond.fieldLink RX5 9 "ClosedSums$Progress" "terms" "[I", Cond.fieldLink RX5 15 "ClosedSums$Progress" "reached" "I", Cond.methodLink RX7 54 yX4_becomeNumber, Cond.instanceMethod yX4_becomeNumber, Cond.selects RX4 yX4_becomeNumber yX4_becomeNumber, Cond.code yX4_becomeNumber cX4_becomeNumber 3 none]
def wsX7_init : List Cond := .code yX7_init cX7_init 1 none :: ((wsX7_init_r1 ++ (wsX7_init_r2 ++ (wsX7_init_r3 ++ (wsX7_init_r4 ++ wsX7_init_r5)))) ++ wsX40 ++ wsX70 ++ wsX00 ++ wsX60 ++ wsX10 ++ wsX20 ++ wsX50 ++ wsX30)
def wsX7_requirePower : List Cond := .code yX7_requirePower cX7_requirePower 2 none :: ([.classLink RX7 159 "java/lang/IndexOutOfBoundsException", .initialized "java/lang/IndexOutOfBoundsException"] ++ (vx_atS RX7 163 "java/lang/IndexOutOfBoundsException" ["java/lang/RuntimeException", "java/lang/Exception"]).filter goodWord)
def wsX7_side : List Cond := .code yX7_side cX7_side 2 (some (.object "ClosedSums$Polynomial")) :: ([.fieldLink RX7 10 "ClosedSums" "ratioTop" "LClosedSums$Polynomial;", .fieldLink RX7 16 "ClosedSums" "ratioBottom" "LClosedSums$Polynomial;"] ++ wsX70)
def wsJ9_floorMod_f86c9 : List Cond := .code yJ9_floorMod_f86c9 cJ9_floorMod_f86c9 6 (some .long) :: ([])
def wsX7_forget_r1 : List Cond := [Cond.fieldLink RX7 29 "ClosedSums" "parts" "LClosedSums$RatioSplit;", Cond.fieldLink RX7 36 "ClosedSums" "equation" "LClosedSums$Equation;", Cond.fieldLink RX7 43 "ClosedSums" "fraction" "LClosedSums$Fraction;", Cond.fieldLink RX7 50 "ClosedSums" "progress" "LClosedSums$Progress;", Cond.methodLink RX7 155 yX6_forget, Cond.instanceMethod yX6_forget, Cond.selects RX6 yX6_forget yX6_forget, Cond.initialized RX6, Cond.code yX6_forget cX6_forget 1 none, Cond.fieldLink RX6 31 "ClosedSums$RatioSplit" "known" "Z", Cond.methodLink RX7 156 yX1_forget, Cond.instanceMethod yX1_forget, Cond.selects RX1 yX1_forget yX1_forget, Cond.initialized RX1, Cond.code yX1_forget cX1_forget 1 none, Cond.fieldLink RX1 42 "ClosedSums$Equation" "known" "Z", Cond.methodLink RX7 157 yX2_forget, Cond.instanceMethod yX2_forget, Cond.selects RX2 yX2_forget yX2_forget, Cond.initialized RX2, Cond.code yX2_forget cX2_forget 1 none, Cond.fieldLink RX2 21 "ClosedSums$Fraction" "known" "Z", Cond.methodLink RX7 158 yX5_forget, Cond.instanceMethod yX5_forget]
def wsX7_forget_r2 : List Cond := [Cond.selects RX5 yX5_forget yX5_forget, Cond.initialized RX5, Cond.code yX5_forget cX5_forget 1 none, Cond.fieldLink RX5 15 "ClosedSums$Progress" "reached" "I"]
def wsX7_forget : List Cond := .code yX7_forget cX7_forget 1 none :: ((wsX7_forget_r1 ++ wsX7_forget_r2) ++ wsX70 ++ wsX60 ++ wsX10 ++ wsX20 ++ wsX50)
def wsX7_put_r1 : List Cond := [Cond.constantLong RX7 65 (32003), Cond.methodLink RX7 58 yX7_requirePower, Cond.instanceMethod yX7_requirePower, Cond.selects RX7 yX7_requirePower yX7_requirePower, Cond.initialized RX7, Cond.code yX7_requirePower cX7_requirePower 2 none, Cond.classLink RX7 159 "java/lang/IndexOutOfBoundsException", Cond.initialized "java/lang/IndexOutOfBoundsException", Cond.methodLink RX7 61 yX7_side, Cond.instanceMethod yX7_side, Cond.selects RX7 yX7_side yX7_side, Cond.code yX7_side cX7_side 2 (some (.object "ClosedSums$Polynomial")), Cond.fieldLink RX7 10 "ClosedSums" "ratioTop" "LClosedSums$Polynomial;", Cond.fieldLink RX7 16 "ClosedSums" "ratioBottom" "LClosedSums$Polynomial;", Cond.methodLink RX7 67 yJ9_floorMod_f86c9, Cond.static yJ9_floorMod_f86c9, Cond.initialized RJ9, Cond.code yJ9_floorMod_f86c9 cJ9_floorMod_f86c9 6 (some .long), Cond.methodLink RX7 73 yX4_number, Cond.instanceMethod yX4_number, Cond.selects RX4 yX4_number yX4_number, Cond.initialized RX4, Cond.code yX4_number cX4_number 2 (some .int), Cond.fieldLink RX4 11 "ClosedSums$Polynomial" "numbers" "[I"]
def wsX7_put_r2 : List Cond := [Cond.methodLink RX7 77 yX4_setNumber, Cond.instanceMethod yX4_setNumber, Cond.selects RX4 yX4_setNumber yX4_setNumber, Cond.code yX4_setNumber cX4_setNumber 3 none, Cond.fieldLink RX4 15 "ClosedSums$Polynomial" "highest" "I", Cond.methodLink RX4 23 Lib.Math.max.name, Cond.static Lib.Math.max.name, Cond.initialized "java/lang/Math", Cond.code Lib.Math.max.name Lib.Math.max.code 2 (some .int), Cond.methodLink RX4 29 yX4_settle, Cond.instanceMethod yX4_settle, Cond.selects RX4 yX4_settle yX4_settle, Cond.code yX4_settle cX4_settle 3 none, Cond.methodLink RX7 81 yX7_forget, Cond.instanceMethod yX7_forget, Cond.selects RX7 yX7_forget yX7_forget, Cond.code yX7_forget cX7_forget 1 none, Cond.fieldLink RX7 29 "ClosedSums" "parts" "LClosedSums$RatioSplit;", Cond.fieldLink RX7 36 "ClosedSums" "equation" "LClosedSums$Equation;", Cond.fieldLink RX7 43 "ClosedSums" "fraction" "LClosedSums$Fraction;", Cond.fieldLink RX7 50 "ClosedSums" "progress" "LClosedSums$Progress;", Cond.methodLink RX7 155 yX6_forget, Cond.instanceMethod yX6_forget, Cond.selects RX6 yX6_forget yX6_forget]
def wsX7_put_r3 : List Cond := [Cond.initialized RX6, Cond.code yX6_forget cX6_forget 1 none, Cond.fieldLink RX6 31 "ClosedSums$RatioSplit" "known" "Z", Cond.methodLink RX7 156 yX1_forget, Cond.instanceMethod yX1_forget, Cond.selects RX1 yX1_forget yX1_forget, Cond.initialized RX1, Cond.code yX1_forget cX1_forget 1 none, Cond.fieldLink RX1 42 "ClosedSums$Equation" "known" "Z", Cond.methodLink RX7 157 yX2_forget, Cond.instanceMethod yX2_forget, Cond.selects RX2 yX2_forget yX2_forget, Cond.initialized RX2, Cond.code yX2_forget cX2_forget 1 none, Cond.fieldLink RX2 21 "ClosedSums$Fraction" "known" "Z", Cond.methodLink RX7 158 yX5_forget, Cond.instanceMethod yX5_forget, Cond.selects RX5 yX5_forget yX5_forget, Cond.initialized RX5, Cond.code yX5_forget cX5_forget 1 none, Cond.fieldLink RX5 15 "ClosedSums$Progress" "reached" "I"]
def wsX7_put : List Cond := .code yX7_put cX7_put 7 (some .boolean) :: ((wsX7_put_r1 ++ (wsX7_put_r2 ++ wsX7_put_r3)) ++ wsX70 ++ wsX40 ++ wsX60 ++ wsX10 ++ wsX20 ++ wsX50 ++ (vx_atS RX7 163 "java/lang/IndexOutOfBoundsException" ["java/lang/RuntimeException", "java/lang/Exception"]).filter goodWord)
def wsX7_at : List Cond := .code yX7_at cX7_at 3 (some .int) :: ([.methodLink RX7 58 yX7_requirePower, .instanceMethod yX7_requirePower, .selects RX7 yX7_requirePower yX7_requirePower, .initialized RX7, .code yX7_requirePower cX7_requirePower 2 none, .classLink RX7 159 "java/lang/IndexOutOfBoundsException", .initialized "java/lang/IndexOutOfBoundsException", .methodLink RX7 61 yX7_side, .instanceMethod yX7_side, .selects RX7 yX7_side yX7_side, .code yX7_side cX7_side 2 (some (.object "ClosedSums$Polynomial")), .fieldLink RX7 10 "ClosedSums" "ratioTop" "LClosedSums$Polynomial;", .fieldLink RX7 16 "ClosedSums" "ratioBottom" "LClosedSums$Polynomial;", .methodLink RX7 73 yX4_number, .instanceMethod yX4_number, .selects RX4 yX4_number yX4_number, .initialized RX4, .code yX4_number cX4_number 2 (some .int), .fieldLink RX4 11 "ClosedSums$Polynomial" "numbers" "[I"] ++ wsX70 ++ wsX40 ++ (vx_atS RX7 163 "java/lang/IndexOutOfBoundsException" ["java/lang/RuntimeException", "java/lang/Exception"]).filter goodWord)
def wsX7_requireRatio : List Cond := .code yX7_requireRatio cX7_requireRatio 1 none :: ([.classLink RX7 172 "java/lang/IllegalStateException", .initialized "java/lang/IllegalStateException", .fieldLink RX7 10 "ClosedSums" "ratioTop" "LClosedSums$Polynomial;", .fieldLink RX7 16 "ClosedSums" "ratioBottom" "LClosedSums$Polynomial;", .methodLink RX7 168 yX4_isZero, .instanceMethod yX4_isZero, .selects RX4 yX4_isZero yX4_isZero, .initialized RX4, .code yX4_isZero cX4_isZero 1 (some .boolean), .fieldLink RX4 15 "ClosedSums$Polynomial" "highest" "I"] ++ wsX70 ++ wsX40 ++ (vx_atS RX7 176 "java/lang/IllegalStateException" ["java/lang/RuntimeException", "java/lang/Exception"]).filter goodWord)
def wsX7_found_r1 : List Cond := [Cond.classLink RX7 87 "java/lang/IllegalArgumentException", Cond.initialized "java/lang/IllegalArgumentException", Cond.fieldLink RX7 29 "ClosedSums" "parts" "LClosedSums$RatioSplit;", Cond.fieldLink RX7 10 "ClosedSums" "ratioTop" "LClosedSums$Polynomial;", Cond.fieldLink RX7 16 "ClosedSums" "ratioBottom" "LClosedSums$Polynomial;", Cond.fieldLink RX7 22 "ClosedSums" "division" "LClosedSums$Division;", Cond.methodLink RX7 84 yX7_requireRatio, Cond.instanceMethod yX7_requireRatio, Cond.selects RX7 yX7_requireRatio yX7_requireRatio, Cond.initialized RX7, Cond.code yX7_requireRatio cX7_requireRatio 1 none, Cond.classLink RX7 172 "java/lang/IllegalStateException", Cond.initialized "java/lang/IllegalStateException", Cond.methodLink RX7 168 yX4_isZero, Cond.instanceMethod yX4_isZero, Cond.selects RX4 yX4_isZero yX4_isZero, Cond.initialized RX4, Cond.code yX4_isZero cX4_isZero 1 (some .boolean), Cond.fieldLink RX4 15 "ClosedSums$Polynomial" "highest" "I", Cond.methodLink RX7 94 yX6_renew, Cond.instanceMethod yX6_renew, Cond.selects RX6 yX6_renew yX6_renew, Cond.initialized RX6, Cond.code yX6_renew cX6_renew 7 none]
def wsX7_found_r2 : List Cond := [Cond.fieldLink RX6 31 "ClosedSums$RatioSplit" "known" "Z", Cond.fieldLink RX6 12 "ClosedSums$RatioSplit" "top" "LClosedSums$Polynomial;", Cond.fieldLink RX6 18 "ClosedSums$RatioSplit" "bottom" "LClosedSums$Polynomial;", Cond.fieldLink RX6 21 "ClosedSums$RatioSplit" "extra" "LClosedSums$Polynomial;", Cond.fieldLink RX6 27 "ClosedSums$RatioSplit" "commonDegrees" "[I", Cond.fieldLink RX6 24 "ClosedSums$RatioSplit" "moved" "LClosedSums$Polynomial;", Cond.methodLink RX6 35 yX4_copyFrom, Cond.instanceMethod yX4_copyFrom, Cond.selects RX4 yX4_copyFrom yX4_copyFrom, Cond.code yX4_copyFrom cX4_copyFrom 3 none, Cond.fieldLink RX4 11 "ClosedSums$Polynomial" "numbers" "[I", Cond.methodLink RX4 19 yX4_number, Cond.instanceMethod yX4_number, Cond.selects RX4 yX4_number yX4_number, Cond.code yX4_number cX4_number 2 (some .int), Cond.methodLink RX6 39 yX4_becomeNumber, Cond.instanceMethod yX4_becomeNumber, Cond.selects RX4 yX4_becomeNumber yX4_becomeNumber, Cond.code yX4_becomeNumber cX4_becomeNumber 3 none, Cond.methodLink RX6 43 yX4_moveBy, Cond.instanceMethod yX4_moveBy, Cond.selects RX4 yX4_moveBy yX4_moveBy, Cond.code yX4_moveBy cX4_moveBy 4 none, Cond.methodLink RX4 37 Lib.Math.min.name]
def wsX7_found_r3 : List Cond := [Cond.static Lib.Math.min.name, Cond.initialized "java/lang/Math", Cond.code Lib.Math.min.name Lib.Math.min.code 2 (some .int), Cond.methodLink RX6 46 yX0_commonDivisor, Cond.instanceMethod yX0_commonDivisor, Cond.selects RX0 yX0_commonDivisor yX0_commonDivisor, Cond.initialized RX0, Cond.code yX0_commonDivisor cX0_commonDivisor 7 (some (.object "ClosedSums$Polynomial")), Cond.fieldLink RX0 10 "ClosedSums$Division" "first" "LClosedSums$Polynomial;", Cond.fieldLink RX0 16 "ClosedSums$Division" "second" "LClosedSums$Polynomial;", Cond.fieldLink RX0 19 "ClosedSums$Division" "quotient" "LClosedSums$Polynomial;", Cond.fieldLink RX0 22 "ClosedSums$Division" "common" "LClosedSums$Polynomial;", Cond.methodLink RX0 25 yX4_copyFrom, Cond.methodLink RX0 29 yX4_isZero, Cond.methodLink RX0 33 yX4_divideBy, Cond.instanceMethod yX4_divideBy, Cond.selects RX4 yX4_divideBy yX4_divideBy, Cond.code yX4_divideBy cX4_divideBy 7 none, Cond.methodLink RX4 40 yX4_becomeNumber, Cond.methodLink RX4 33 yX4_isZero, Cond.methodLink RX4 43 yX4_leading, Cond.instanceMethod yX4_leading, Cond.selects RX4 yX4_leading yX4_leading, Cond.code yX4_leading cX4_leading 1 (some .int)]
def wsX7_found_r4 : List Cond := [Cond.static yX7_inverse, Cond.code yX7_inverse cX7_inverse 4 (some .int), Cond.methodLink RX4 50 yX4_setNumber, Cond.instanceMethod yX4_setNumber, Cond.selects RX4 yX4_setNumber yX4_setNumber, Cond.code yX4_setNumber cX4_setNumber 3 none, Cond.methodLink RX4 23 Lib.Math.max.name, Cond.static Lib.Math.max.name, Cond.code Lib.Math.max.name Lib.Math.max.code 2 (some .int), Cond.methodLink RX4 29 yX4_settle, Cond.instanceMethod yX4_settle, Cond.selects RX4 yX4_settle yX4_settle, Cond.code yX4_settle cX4_settle 3 none, Cond.static yX7_negative, Cond.code yX7_negative cX7_negative 1 (some .int), Cond.methodLink RX4 57 yX4_addMultiple, Cond.instanceMethod yX4_addMultiple, Cond.selects RX4 yX4_addMultiple yX4_addMultiple, Cond.code yX4_addMultiple cX4_addMultiple 7 none, Cond.methodLink RX0 37 yX4_leading, Cond.methodLink RX0 47 yX4_scaleBy, Cond.instanceMethod yX4_scaleBy, Cond.selects RX4 yX4_scaleBy yX4_scaleBy, Cond.code yX4_scaleBy cX4_scaleBy 3 none]
def wsX7_found_r5 : List Cond := [Cond.methodLink RX6 52 yX4_highest, Cond.instanceMethod yX4_highest, Cond.selects RX4 yX4_highest yX4_highest, Cond.code yX4_highest cX4_highest 1 (some .int), Cond.methodLink RX6 56 yX0_divideOut, Cond.instanceMethod yX0_divideOut, Cond.selects RX0 yX0_divideOut yX0_divideOut, Cond.code yX0_divideOut cX0_divideOut 3 none, Cond.methodLink RX6 60 yX4_multiplyBy, Cond.instanceMethod yX4_multiplyBy, Cond.selects RX4 yX4_multiplyBy yX4_multiplyBy, Cond.code yX4_multiplyBy cX4_multiplyBy 6 none, Cond.methodLink RX7 98 yX6_commonDegree, Cond.instanceMethod yX6_commonDegree, Cond.selects RX6 yX6_commonDegree yX6_commonDegree, Cond.code yX6_commonDegree cX6_commonDegree 2 (some .int)]
def wsX7_found : List Cond := .code yX7_found cX7_found 2 (some .int) :: ((wsX7_found_r1 ++ (wsX7_found_r2 ++ (wsX7_found_r3 ++ (wsX7_found_r4 ++ wsX7_found_r5)))) ++ wsX70 ++ wsX40 ++ wsX60 ++ wsX00 ++ (vx_atS RX7 91 "java/lang/IllegalArgumentException" ["java/lang/RuntimeException", "java/lang/Exception"]).filter goodWord ++ (vx_atS RX7 176 "java/lang/IllegalStateException" ["java/lang/RuntimeException", "java/lang/Exception"]).filter goodWord)
def wsX7_requirePart : List Cond := .code yX7_requirePart cX7_requirePart 2 none :: ([.classLink RX7 87 "java/lang/IllegalArgumentException", .initialized "java/lang/IllegalArgumentException"] ++ (vx_atS RX7 91 "java/lang/IllegalArgumentException" ["java/lang/RuntimeException", "java/lang/Exception"]).filter goodWord)
def wsX7_degree_r1 : List Cond := [Cond.fieldLink RX7 29 "ClosedSums" "parts" "LClosedSums$RatioSplit;", Cond.fieldLink RX7 10 "ClosedSums" "ratioTop" "LClosedSums$Polynomial;", Cond.fieldLink RX7 16 "ClosedSums" "ratioBottom" "LClosedSums$Polynomial;", Cond.fieldLink RX7 22 "ClosedSums" "division" "LClosedSums$Division;", Cond.methodLink RX7 84 yX7_requireRatio, Cond.instanceMethod yX7_requireRatio, Cond.selects RX7 yX7_requireRatio yX7_requireRatio, Cond.initialized RX7, Cond.code yX7_requireRatio cX7_requireRatio 1 none, Cond.classLink RX7 172 "java/lang/IllegalStateException", Cond.initialized "java/lang/IllegalStateException", Cond.methodLink RX7 168 yX4_isZero, Cond.instanceMethod yX4_isZero, Cond.selects RX4 yX4_isZero yX4_isZero, Cond.initialized RX4, Cond.code yX4_isZero cX4_isZero 1 (some .boolean), Cond.fieldLink RX4 15 "ClosedSums$Polynomial" "highest" "I", Cond.methodLink RX7 101 yX7_requirePart, Cond.instanceMethod yX7_requirePart, Cond.selects RX7 yX7_requirePart yX7_requirePart, Cond.code yX7_requirePart cX7_requirePart 2 none, Cond.classLink RX7 87 "java/lang/IllegalArgumentException", Cond.initialized "java/lang/IllegalArgumentException", Cond.methodLink RX7 94 yX6_renew]
def wsX7_degree_r2 : List Cond := [Cond.instanceMethod yX6_renew, Cond.selects RX6 yX6_renew yX6_renew, Cond.initialized RX6, Cond.code yX6_renew cX6_renew 7 none, Cond.fieldLink RX6 31 "ClosedSums$RatioSplit" "known" "Z", Cond.fieldLink RX6 12 "ClosedSums$RatioSplit" "top" "LClosedSums$Polynomial;", Cond.fieldLink RX6 18 "ClosedSums$RatioSplit" "bottom" "LClosedSums$Polynomial;", Cond.fieldLink RX6 21 "ClosedSums$RatioSplit" "extra" "LClosedSums$Polynomial;", Cond.fieldLink RX6 27 "ClosedSums$RatioSplit" "commonDegrees" "[I", Cond.fieldLink RX6 24 "ClosedSums$RatioSplit" "moved" "LClosedSums$Polynomial;", Cond.methodLink RX6 35 yX4_copyFrom, Cond.instanceMethod yX4_copyFrom, Cond.selects RX4 yX4_copyFrom yX4_copyFrom, Cond.code yX4_copyFrom cX4_copyFrom 3 none, Cond.fieldLink RX4 11 "ClosedSums$Polynomial" "numbers" "[I", Cond.methodLink RX4 19 yX4_number, Cond.instanceMethod yX4_number, Cond.selects RX4 yX4_number yX4_number, Cond.code yX4_number cX4_number 2 (some .int), Cond.methodLink RX6 39 yX4_becomeNumber, Cond.instanceMethod yX4_becomeNumber, Cond.selects RX4 yX4_becomeNumber yX4_becomeNumber, Cond.code yX4_becomeNumber cX4_becomeNumber 3 none, Cond.methodLink RX6 43 yX4_moveBy]
def wsX7_degree_r3 : List Cond := [Cond.instanceMethod yX4_moveBy, Cond.selects RX4 yX4_moveBy yX4_moveBy, Cond.code yX4_moveBy cX4_moveBy 4 none, Cond.methodLink RX4 37 Lib.Math.min.name, Cond.static Lib.Math.min.name, Cond.initialized "java/lang/Math", Cond.code Lib.Math.min.name Lib.Math.min.code 2 (some .int), Cond.methodLink RX6 46 yX0_commonDivisor, Cond.instanceMethod yX0_commonDivisor, Cond.selects RX0 yX0_commonDivisor yX0_commonDivisor, Cond.initialized RX0, Cond.code yX0_commonDivisor cX0_commonDivisor 7 (some (.object "ClosedSums$Polynomial")), Cond.fieldLink RX0 10 "ClosedSums$Division" "first" "LClosedSums$Polynomial;", Cond.fieldLink RX0 16 "ClosedSums$Division" "second" "LClosedSums$Polynomial;", Cond.fieldLink RX0 19 "ClosedSums$Division" "quotient" "LClosedSums$Polynomial;", Cond.fieldLink RX0 22 "ClosedSums$Division" "common" "LClosedSums$Polynomial;", Cond.methodLink RX0 25 yX4_copyFrom, Cond.methodLink RX0 29 yX4_isZero, Cond.methodLink RX0 33 yX4_divideBy, Cond.instanceMethod yX4_divideBy, Cond.selects RX4 yX4_divideBy yX4_divideBy, Cond.code yX4_divideBy cX4_divideBy 7 none, Cond.methodLink RX4 40 yX4_becomeNumber, Cond.methodLink RX4 33 yX4_isZero]
def wsX7_degree_r4 : List Cond := [Cond.methodLink RX4 43 yX4_leading, Cond.instanceMethod yX4_leading, Cond.selects RX4 yX4_leading yX4_leading, Cond.code yX4_leading cX4_leading 1 (some .int), Cond.static yX7_inverse, Cond.code yX7_inverse cX7_inverse 4 (some .int), Cond.methodLink RX4 50 yX4_setNumber, Cond.instanceMethod yX4_setNumber, Cond.selects RX4 yX4_setNumber yX4_setNumber, Cond.code yX4_setNumber cX4_setNumber 3 none, Cond.methodLink RX4 23 Lib.Math.max.name, Cond.static Lib.Math.max.name, Cond.code Lib.Math.max.name Lib.Math.max.code 2 (some .int), Cond.methodLink RX4 29 yX4_settle, Cond.instanceMethod yX4_settle, Cond.selects RX4 yX4_settle yX4_settle, Cond.code yX4_settle cX4_settle 3 none, Cond.static yX7_negative, Cond.code yX7_negative cX7_negative 1 (some .int), Cond.methodLink RX4 57 yX4_addMultiple, Cond.instanceMethod yX4_addMultiple, Cond.selects RX4 yX4_addMultiple yX4_addMultiple, Cond.code yX4_addMultiple cX4_addMultiple 7 none, Cond.methodLink RX0 37 yX4_leading]
def wsX7_degree_r5 : List Cond := [Cond.methodLink RX0 47 yX4_scaleBy, Cond.instanceMethod yX4_scaleBy, Cond.selects RX4 yX4_scaleBy yX4_scaleBy, Cond.code yX4_scaleBy cX4_scaleBy 3 none, Cond.methodLink RX6 52 yX4_highest, Cond.instanceMethod yX4_highest, Cond.selects RX4 yX4_highest yX4_highest, Cond.code yX4_highest cX4_highest 1 (some .int), Cond.methodLink RX6 56 yX0_divideOut, Cond.instanceMethod yX0_divideOut, Cond.selects RX0 yX0_divideOut yX0_divideOut, Cond.code yX0_divideOut cX0_divideOut 3 none, Cond.methodLink RX6 60 yX4_multiplyBy, Cond.instanceMethod yX4_multiplyBy, Cond.selects RX4 yX4_multiplyBy yX4_multiplyBy, Cond.code yX4_multiplyBy cX4_multiplyBy 6 none, Cond.methodLink RX7 104 yX6_part, Cond.instanceMethod yX6_part, Cond.selects RX6 yX6_part yX6_part, Cond.code yX6_part cX6_part 2 (some (.object "ClosedSums$Polynomial")), Cond.methodLink RX7 108 yX4_highest]
def wsX7_degree : List Cond := .code yX7_degree cX7_degree 2 (some .int) :: ((wsX7_degree_r1 ++ (wsX7_degree_r2 ++ (wsX7_degree_r3 ++ (wsX7_degree_r4 ++ wsX7_degree_r5)))) ++ wsX70 ++ wsX40 ++ wsX60 ++ wsX00 ++ (vx_atS RX7 176 "java/lang/IllegalStateException" ["java/lang/RuntimeException", "java/lang/Exception"]).filter goodWord ++ (vx_atS RX7 91 "java/lang/IllegalArgumentException" ["java/lang/RuntimeException", "java/lang/Exception"]).filter goodWord)
def wsX7_split_r1 : List Cond := [Cond.fieldLink RX7 29 "ClosedSums" "parts" "LClosedSums$RatioSplit;", Cond.fieldLink RX7 10 "ClosedSums" "ratioTop" "LClosedSums$Polynomial;", Cond.fieldLink RX7 16 "ClosedSums" "ratioBottom" "LClosedSums$Polynomial;", Cond.fieldLink RX7 22 "ClosedSums" "division" "LClosedSums$Division;", Cond.methodLink RX7 84 yX7_requireRatio, Cond.instanceMethod yX7_requireRatio, Cond.selects RX7 yX7_requireRatio yX7_requireRatio, Cond.initialized RX7, Cond.code yX7_requireRatio cX7_requireRatio 1 none, Cond.classLink RX7 172 "java/lang/IllegalStateException", Cond.initialized "java/lang/IllegalStateException", Cond.methodLink RX7 168 yX4_isZero, Cond.instanceMethod yX4_isZero, Cond.selects RX4 yX4_isZero yX4_isZero, Cond.initialized RX4, Cond.code yX4_isZero cX4_isZero 1 (some .boolean), Cond.fieldLink RX4 15 "ClosedSums$Polynomial" "highest" "I", Cond.methodLink RX7 101 yX7_requirePart, Cond.instanceMethod yX7_requirePart, Cond.selects RX7 yX7_requirePart yX7_requirePart, Cond.code yX7_requirePart cX7_requirePart 2 none, Cond.classLink RX7 87 "java/lang/IllegalArgumentException", Cond.initialized "java/lang/IllegalArgumentException", Cond.methodLink RX7 94 yX6_renew]
def wsX7_split_r2 : List Cond := [Cond.instanceMethod yX6_renew, Cond.selects RX6 yX6_renew yX6_renew, Cond.initialized RX6, Cond.code yX6_renew cX6_renew 7 none, Cond.fieldLink RX6 31 "ClosedSums$RatioSplit" "known" "Z", Cond.fieldLink RX6 12 "ClosedSums$RatioSplit" "top" "LClosedSums$Polynomial;", Cond.fieldLink RX6 18 "ClosedSums$RatioSplit" "bottom" "LClosedSums$Polynomial;", Cond.fieldLink RX6 21 "ClosedSums$RatioSplit" "extra" "LClosedSums$Polynomial;", Cond.fieldLink RX6 27 "ClosedSums$RatioSplit" "commonDegrees" "[I", Cond.fieldLink RX6 24 "ClosedSums$RatioSplit" "moved" "LClosedSums$Polynomial;", Cond.methodLink RX6 35 yX4_copyFrom, Cond.instanceMethod yX4_copyFrom, Cond.selects RX4 yX4_copyFrom yX4_copyFrom, Cond.code yX4_copyFrom cX4_copyFrom 3 none, Cond.fieldLink RX4 11 "ClosedSums$Polynomial" "numbers" "[I", Cond.methodLink RX4 19 yX4_number, Cond.instanceMethod yX4_number, Cond.selects RX4 yX4_number yX4_number, Cond.code yX4_number cX4_number 2 (some .int), Cond.methodLink RX6 39 yX4_becomeNumber, Cond.instanceMethod yX4_becomeNumber, Cond.selects RX4 yX4_becomeNumber yX4_becomeNumber, Cond.code yX4_becomeNumber cX4_becomeNumber 3 none, Cond.methodLink RX6 43 yX4_moveBy]
def wsX7_split_r3 : List Cond := [Cond.instanceMethod yX4_moveBy, Cond.selects RX4 yX4_moveBy yX4_moveBy, Cond.code yX4_moveBy cX4_moveBy 4 none, Cond.methodLink RX4 37 Lib.Math.min.name, Cond.static Lib.Math.min.name, Cond.initialized "java/lang/Math", Cond.code Lib.Math.min.name Lib.Math.min.code 2 (some .int), Cond.methodLink RX6 46 yX0_commonDivisor, Cond.instanceMethod yX0_commonDivisor, Cond.selects RX0 yX0_commonDivisor yX0_commonDivisor, Cond.initialized RX0, Cond.code yX0_commonDivisor cX0_commonDivisor 7 (some (.object "ClosedSums$Polynomial")), Cond.fieldLink RX0 10 "ClosedSums$Division" "first" "LClosedSums$Polynomial;", Cond.fieldLink RX0 16 "ClosedSums$Division" "second" "LClosedSums$Polynomial;", Cond.fieldLink RX0 19 "ClosedSums$Division" "quotient" "LClosedSums$Polynomial;", Cond.fieldLink RX0 22 "ClosedSums$Division" "common" "LClosedSums$Polynomial;", Cond.methodLink RX0 25 yX4_copyFrom, Cond.methodLink RX0 29 yX4_isZero, Cond.methodLink RX0 33 yX4_divideBy, Cond.instanceMethod yX4_divideBy, Cond.selects RX4 yX4_divideBy yX4_divideBy, Cond.code yX4_divideBy cX4_divideBy 7 none, Cond.methodLink RX4 40 yX4_becomeNumber, Cond.methodLink RX4 33 yX4_isZero]
def wsX7_split_r4 : List Cond := [Cond.methodLink RX4 43 yX4_leading, Cond.instanceMethod yX4_leading, Cond.selects RX4 yX4_leading yX4_leading, Cond.code yX4_leading cX4_leading 1 (some .int), Cond.static yX7_inverse, Cond.code yX7_inverse cX7_inverse 4 (some .int), Cond.methodLink RX4 50 yX4_setNumber, Cond.instanceMethod yX4_setNumber, Cond.selects RX4 yX4_setNumber yX4_setNumber, Cond.code yX4_setNumber cX4_setNumber 3 none, Cond.methodLink RX4 23 Lib.Math.max.name, Cond.static Lib.Math.max.name, Cond.code Lib.Math.max.name Lib.Math.max.code 2 (some .int), Cond.methodLink RX4 29 yX4_settle, Cond.instanceMethod yX4_settle, Cond.selects RX4 yX4_settle yX4_settle, Cond.code yX4_settle cX4_settle 3 none, Cond.static yX7_negative, Cond.code yX7_negative cX7_negative 1 (some .int), Cond.methodLink RX4 57 yX4_addMultiple, Cond.instanceMethod yX4_addMultiple, Cond.selects RX4 yX4_addMultiple yX4_addMultiple, Cond.code yX4_addMultiple cX4_addMultiple 7 none, Cond.methodLink RX0 37 yX4_leading]
def wsX7_split_r5 : List Cond := [Cond.methodLink RX0 47 yX4_scaleBy, Cond.instanceMethod yX4_scaleBy, Cond.selects RX4 yX4_scaleBy yX4_scaleBy, Cond.code yX4_scaleBy cX4_scaleBy 3 none, Cond.methodLink RX6 52 yX4_highest, Cond.instanceMethod yX4_highest, Cond.selects RX4 yX4_highest yX4_highest, Cond.code yX4_highest cX4_highest 1 (some .int), Cond.methodLink RX6 56 yX0_divideOut, Cond.instanceMethod yX0_divideOut, Cond.selects RX0 yX0_divideOut yX0_divideOut, Cond.code yX0_divideOut cX0_divideOut 3 none, Cond.methodLink RX6 60 yX4_multiplyBy, Cond.instanceMethod yX4_multiplyBy, Cond.selects RX4 yX4_multiplyBy yX4_multiplyBy, Cond.code yX4_multiplyBy cX4_multiplyBy 6 none, Cond.methodLink RX7 104 yX6_part, Cond.instanceMethod yX6_part, Cond.selects RX6 yX6_part yX6_part, Cond.code yX6_part cX6_part 2 (some (.object "ClosedSums$Polynomial")), Cond.methodLink RX7 73 yX4_number]
def wsX7_split : List Cond := .code yX7_split cX7_split 3 (some .int) :: ((wsX7_split_r1 ++ (wsX7_split_r2 ++ (wsX7_split_r3 ++ (wsX7_split_r4 ++ wsX7_split_r5)))) ++ wsX70 ++ wsX40 ++ wsX60 ++ wsX00 ++ (vx_atS RX7 176 "java/lang/IllegalStateException" ["java/lang/RuntimeException", "java/lang/Exception"]).filter goodWord ++ (vx_atS RX7 91 "java/lang/IllegalArgumentException" ["java/lang/RuntimeException", "java/lang/Exception"]).filter goodWord)
def wsX7_run_r1 : List Cond := [Cond.fieldLink RX7 29 "ClosedSums" "parts" "LClosedSums$RatioSplit;", Cond.fieldLink RX7 10 "ClosedSums" "ratioTop" "LClosedSums$Polynomial;", Cond.fieldLink RX7 16 "ClosedSums" "ratioBottom" "LClosedSums$Polynomial;", Cond.fieldLink RX7 22 "ClosedSums" "division" "LClosedSums$Division;", Cond.fieldLink RX7 36 "ClosedSums" "equation" "LClosedSums$Equation;", Cond.methodLink RX7 84 yX7_requireRatio, Cond.instanceMethod yX7_requireRatio, Cond.selects RX7 yX7_requireRatio yX7_requireRatio, Cond.initialized RX7, Cond.code yX7_requireRatio cX7_requireRatio 1 none, Cond.classLink RX7 172 "java/lang/IllegalStateException", Cond.initialized "java/lang/IllegalStateException", Cond.methodLink RX7 168 yX4_isZero, Cond.instanceMethod yX4_isZero, Cond.selects RX4 yX4_isZero yX4_isZero, Cond.initialized RX4, Cond.code yX4_isZero cX4_isZero 1 (some .boolean), Cond.fieldLink RX4 15 "ClosedSums$Polynomial" "highest" "I", Cond.methodLink RX7 94 yX6_renew, Cond.instanceMethod yX6_renew, Cond.selects RX6 yX6_renew yX6_renew, Cond.initialized RX6, Cond.code yX6_renew cX6_renew 7 none, Cond.fieldLink RX6 31 "ClosedSums$RatioSplit" "known" "Z"]
def wsX7_run_r2 : List Cond := [Cond.fieldLink RX6 12 "ClosedSums$RatioSplit" "top" "LClosedSums$Polynomial;", Cond.fieldLink RX6 18 "ClosedSums$RatioSplit" "bottom" "LClosedSums$Polynomial;", Cond.fieldLink RX6 21 "ClosedSums$RatioSplit" "extra" "LClosedSums$Polynomial;", Cond.fieldLink RX6 27 "ClosedSums$RatioSplit" "commonDegrees" "[I", Cond.fieldLink RX6 24 "ClosedSums$RatioSplit" "moved" "LClosedSums$Polynomial;", Cond.methodLink RX6 35 yX4_copyFrom, Cond.instanceMethod yX4_copyFrom, Cond.selects RX4 yX4_copyFrom yX4_copyFrom, Cond.code yX4_copyFrom cX4_copyFrom 3 none, Cond.fieldLink RX4 11 "ClosedSums$Polynomial" "numbers" "[I", Cond.methodLink RX4 19 yX4_number, Cond.instanceMethod yX4_number, Cond.selects RX4 yX4_number yX4_number, Cond.code yX4_number cX4_number 2 (some .int), Cond.methodLink RX6 39 yX4_becomeNumber, Cond.instanceMethod yX4_becomeNumber, Cond.selects RX4 yX4_becomeNumber yX4_becomeNumber, Cond.code yX4_becomeNumber cX4_becomeNumber 3 none, Cond.methodLink RX6 43 yX4_moveBy, Cond.instanceMethod yX4_moveBy, Cond.selects RX4 yX4_moveBy yX4_moveBy, Cond.code yX4_moveBy cX4_moveBy 4 none, Cond.methodLink RX4 37 Lib.Math.min.name, Cond.static Lib.Math.min.name]
def wsX7_run_r3 : List Cond := [Cond.initialized "java/lang/Math", Cond.code Lib.Math.min.name Lib.Math.min.code 2 (some .int), Cond.methodLink RX6 46 yX0_commonDivisor, Cond.instanceMethod yX0_commonDivisor, Cond.selects RX0 yX0_commonDivisor yX0_commonDivisor, Cond.initialized RX0, Cond.code yX0_commonDivisor cX0_commonDivisor 7 (some (.object "ClosedSums$Polynomial")), Cond.fieldLink RX0 10 "ClosedSums$Division" "first" "LClosedSums$Polynomial;", Cond.fieldLink RX0 16 "ClosedSums$Division" "second" "LClosedSums$Polynomial;", Cond.fieldLink RX0 19 "ClosedSums$Division" "quotient" "LClosedSums$Polynomial;", Cond.fieldLink RX0 22 "ClosedSums$Division" "common" "LClosedSums$Polynomial;", Cond.methodLink RX0 25 yX4_copyFrom, Cond.methodLink RX0 29 yX4_isZero, Cond.methodLink RX0 33 yX4_divideBy, Cond.instanceMethod yX4_divideBy, Cond.selects RX4 yX4_divideBy yX4_divideBy, Cond.code yX4_divideBy cX4_divideBy 7 none, Cond.methodLink RX4 40 yX4_becomeNumber, Cond.methodLink RX4 33 yX4_isZero, Cond.methodLink RX4 43 yX4_leading, Cond.instanceMethod yX4_leading, Cond.selects RX4 yX4_leading yX4_leading, Cond.code yX4_leading cX4_leading 1 (some .int), Cond.static yX7_inverse]
def wsX7_run_r4 : List Cond := [Cond.code yX7_inverse cX7_inverse 4 (some .int), Cond.methodLink RX4 50 yX4_setNumber, Cond.instanceMethod yX4_setNumber, Cond.selects RX4 yX4_setNumber yX4_setNumber, Cond.code yX4_setNumber cX4_setNumber 3 none, Cond.methodLink RX4 23 Lib.Math.max.name, Cond.static Lib.Math.max.name, Cond.code Lib.Math.max.name Lib.Math.max.code 2 (some .int), Cond.methodLink RX4 29 yX4_settle, Cond.instanceMethod yX4_settle, Cond.selects RX4 yX4_settle yX4_settle, Cond.code yX4_settle cX4_settle 3 none, Cond.static yX7_negative, Cond.code yX7_negative cX7_negative 1 (some .int), Cond.methodLink RX4 57 yX4_addMultiple, Cond.instanceMethod yX4_addMultiple, Cond.selects RX4 yX4_addMultiple yX4_addMultiple, Cond.code yX4_addMultiple cX4_addMultiple 7 none, Cond.methodLink RX0 37 yX4_leading, Cond.methodLink RX0 47 yX4_scaleBy, Cond.instanceMethod yX4_scaleBy, Cond.selects RX4 yX4_scaleBy yX4_scaleBy, Cond.code yX4_scaleBy cX4_scaleBy 3 none, Cond.methodLink RX6 52 yX4_highest]
def wsX7_run_r5 : List Cond := [Cond.instanceMethod yX4_highest, Cond.selects RX4 yX4_highest yX4_highest, Cond.code yX4_highest cX4_highest 1 (some .int), Cond.methodLink RX6 56 yX0_divideOut, Cond.instanceMethod yX0_divideOut, Cond.selects RX0 yX0_divideOut yX0_divideOut, Cond.code yX0_divideOut cX0_divideOut 3 none, Cond.methodLink RX6 60 yX4_multiplyBy, Cond.instanceMethod yX4_multiplyBy, Cond.selects RX4 yX4_multiplyBy yX4_multiplyBy, Cond.code yX4_multiplyBy cX4_multiplyBy 6 none, Cond.methodLink RX7 112 yX1_renew, Cond.instanceMethod yX1_renew, Cond.selects RX1 yX1_renew yX1_renew, Cond.initialized RX1, Cond.code yX1_renew cX1_renew 2 none, Cond.fieldLink RX1 42 "ClosedSums$Equation" "known" "Z", Cond.fieldLink RX1 38 "ClosedSums$Equation" "leastDegree" "I", Cond.fieldLink RX1 23 "ClosedSums$Equation" "remaining" "LClosedSums$Pair;", Cond.fieldLink RX1 50 "ClosedSums$Pair" "origin" "LClosedSums$Polynomial;", Cond.methodLink RX1 53 yX1_start, Cond.instanceMethod yX1_start, Cond.selects RX1 yX1_start yX1_start, Cond.code yX1_start cX1_start 3 none]
def wsX7_run_r6 : List Cond := [Cond.fieldLink RX1 19 "ClosedSums$Equation" "byHighest" "[LClosedSums$Pair;", Cond.fieldLink RX1 65 "ClosedSums$Pair" "image" "LClosedSums$Polynomial;", Cond.fieldLink RX1 28 "ClosedSums$Equation" "bottomBefore" "LClosedSums$Polynomial;", Cond.fieldLink RX1 32 "ClosedSums$Equation" "topGrown" "LClosedSums$Polynomial;", Cond.methodLink RX1 70 yX6_part, Cond.instanceMethod yX6_part, Cond.selects RX6 yX6_part yX6_part, Cond.code yX6_part cX6_part 2 (some (.object "ClosedSums$Polynomial")), Cond.methodLink RX1 74 yX4_copyFrom, Cond.methodLink RX1 78 yX4_becomeNumber, Cond.methodLink RX1 81 yX4_moveBy, Cond.methodLink RX1 57 yX1_solve, Cond.instanceMethod yX1_solve, Cond.selects RX1 yX1_solve yX1_solve, Cond.code yX1_solve cX1_solve 3 (some .int), Cond.fieldLink RX1 11 "ClosedSums$Equation" "pairs" "[LClosedSums$Pair;", Cond.methodLink RX1 84 yX1_fill, Cond.instanceMethod yX1_fill, Cond.selects RX1 yX1_fill yX1_fill, Cond.code yX1_fill cX1_fill 3 none, Cond.fieldLink RX1 35 "ClosedSums$Equation" "placeAfter" "LClosedSums$Polynomial;", Cond.methodLink RX1 46 yX4_setNumber, Cond.methodLink RX1 99 yX4_addMultiple, Cond.methodLink RX1 103 yX4_multiplyBy]
def wsX7_run_r7 : List Cond := [Cond.methodLink RX1 88 yX1_lower, Cond.instanceMethod yX1_lower, Cond.selects RX1 yX1_lower yX1_lower, Cond.code yX1_lower cX1_lower 6 none, Cond.methodLink RX1 109 Lib.Math.min.name, Cond.methodLink RX1 106 yX4_highest, Cond.methodLink RX1 115 yX4_number, Cond.methodLink RX1 92 yX1_keep, Cond.instanceMethod yX1_keep, Cond.selects RX1 yX1_keep yX1_keep, Cond.code yX1_keep cX1_keep 4 none, Cond.methodLink RX1 122 yX4_leading, Cond.methodLink RX1 61 yX4_scaleBy, Cond.methodLink RX1 95 yX4_isZero, Cond.methodLink RX7 115 yX1_leastDegree, Cond.instanceMethod yX1_leastDegree, Cond.selects RX1 yX1_leastDegree yX1_leastDegree, Cond.code yX1_leastDegree cX1_leastDegree 1 (some .int)]
def wsX7_run : List Cond := .code yX7_run cX7_run 1 (some .int) :: ((wsX7_run_r1 ++ (wsX7_run_r2 ++ (wsX7_run_r3 ++ (wsX7_run_r4 ++ (wsX7_run_r5 ++ (wsX7_run_r6 ++ wsX7_run_r7)))))) ++ wsX70 ++ wsX40 ++ wsX60 ++ wsX00 ++ wsX10 ++ wsX30 ++ (vx_atS RX7 176 "java/lang/IllegalStateException" ["java/lang/RuntimeException", "java/lang/Exception"]).filter goodWord)
def wsX7_requireAnswer_r1 : List Cond := [Cond.classLink RX7 172 "java/lang/IllegalStateException", Cond.initialized "java/lang/IllegalStateException", Cond.fieldLink RX7 29 "ClosedSums" "parts" "LClosedSums$RatioSplit;", Cond.fieldLink RX7 10 "ClosedSums" "ratioTop" "LClosedSums$Polynomial;", Cond.fieldLink RX7 16 "ClosedSums" "ratioBottom" "LClosedSums$Polynomial;", Cond.fieldLink RX7 22 "ClosedSums" "division" "LClosedSums$Division;", Cond.fieldLink RX7 36 "ClosedSums" "equation" "LClosedSums$Equation;", Cond.methodLink RX7 84 yX7_requireRatio, Cond.instanceMethod yX7_requireRatio, Cond.selects RX7 yX7_requireRatio yX7_requireRatio, Cond.initialized RX7, Cond.code yX7_requireRatio cX7_requireRatio 1 none, Cond.methodLink RX7 168 yX4_isZero, Cond.instanceMethod yX4_isZero, Cond.selects RX4 yX4_isZero yX4_isZero, Cond.initialized RX4, Cond.code yX4_isZero cX4_isZero 1 (some .boolean), Cond.fieldLink RX4 15 "ClosedSums$Polynomial" "highest" "I", Cond.methodLink RX7 94 yX6_renew, Cond.instanceMethod yX6_renew, Cond.selects RX6 yX6_renew yX6_renew, Cond.initialized RX6, Cond.code yX6_renew cX6_renew 7 none, Cond.fieldLink RX6 31 "ClosedSums$RatioSplit" "known" "Z"]
def wsX7_requireAnswer_r2 : List Cond := [Cond.fieldLink RX6 12 "ClosedSums$RatioSplit" "top" "LClosedSums$Polynomial;", Cond.fieldLink RX6 18 "ClosedSums$RatioSplit" "bottom" "LClosedSums$Polynomial;", Cond.fieldLink RX6 21 "ClosedSums$RatioSplit" "extra" "LClosedSums$Polynomial;", Cond.fieldLink RX6 27 "ClosedSums$RatioSplit" "commonDegrees" "[I", Cond.fieldLink RX6 24 "ClosedSums$RatioSplit" "moved" "LClosedSums$Polynomial;", Cond.methodLink RX6 35 yX4_copyFrom, Cond.instanceMethod yX4_copyFrom, Cond.selects RX4 yX4_copyFrom yX4_copyFrom, Cond.code yX4_copyFrom cX4_copyFrom 3 none, Cond.fieldLink RX4 11 "ClosedSums$Polynomial" "numbers" "[I", Cond.methodLink RX4 19 yX4_number, Cond.instanceMethod yX4_number, Cond.selects RX4 yX4_number yX4_number, Cond.code yX4_number cX4_number 2 (some .int), Cond.methodLink RX6 39 yX4_becomeNumber, Cond.instanceMethod yX4_becomeNumber, Cond.selects RX4 yX4_becomeNumber yX4_becomeNumber, Cond.code yX4_becomeNumber cX4_becomeNumber 3 none, Cond.methodLink RX6 43 yX4_moveBy, Cond.instanceMethod yX4_moveBy, Cond.selects RX4 yX4_moveBy yX4_moveBy, Cond.code yX4_moveBy cX4_moveBy 4 none, Cond.methodLink RX4 37 Lib.Math.min.name, Cond.static Lib.Math.min.name]
def wsX7_requireAnswer_r3 : List Cond := [Cond.initialized "java/lang/Math", Cond.code Lib.Math.min.name Lib.Math.min.code 2 (some .int), Cond.methodLink RX6 46 yX0_commonDivisor, Cond.instanceMethod yX0_commonDivisor, Cond.selects RX0 yX0_commonDivisor yX0_commonDivisor, Cond.initialized RX0, Cond.code yX0_commonDivisor cX0_commonDivisor 7 (some (.object "ClosedSums$Polynomial")), Cond.fieldLink RX0 10 "ClosedSums$Division" "first" "LClosedSums$Polynomial;", Cond.fieldLink RX0 16 "ClosedSums$Division" "second" "LClosedSums$Polynomial;", Cond.fieldLink RX0 19 "ClosedSums$Division" "quotient" "LClosedSums$Polynomial;", Cond.fieldLink RX0 22 "ClosedSums$Division" "common" "LClosedSums$Polynomial;", Cond.methodLink RX0 25 yX4_copyFrom, Cond.methodLink RX0 29 yX4_isZero, Cond.methodLink RX0 33 yX4_divideBy, Cond.instanceMethod yX4_divideBy, Cond.selects RX4 yX4_divideBy yX4_divideBy, Cond.code yX4_divideBy cX4_divideBy 7 none, Cond.methodLink RX4 40 yX4_becomeNumber, Cond.methodLink RX4 33 yX4_isZero, Cond.methodLink RX4 43 yX4_leading, Cond.instanceMethod yX4_leading, Cond.selects RX4 yX4_leading yX4_leading, Cond.code yX4_leading cX4_leading 1 (some .int), Cond.static yX7_inverse]
def wsX7_requireAnswer_r4 : List Cond := [Cond.code yX7_inverse cX7_inverse 4 (some .int), Cond.methodLink RX4 50 yX4_setNumber, Cond.instanceMethod yX4_setNumber, Cond.selects RX4 yX4_setNumber yX4_setNumber, Cond.code yX4_setNumber cX4_setNumber 3 none, Cond.methodLink RX4 23 Lib.Math.max.name, Cond.static Lib.Math.max.name, Cond.code Lib.Math.max.name Lib.Math.max.code 2 (some .int), Cond.methodLink RX4 29 yX4_settle, Cond.instanceMethod yX4_settle, Cond.selects RX4 yX4_settle yX4_settle, Cond.code yX4_settle cX4_settle 3 none, Cond.static yX7_negative, Cond.code yX7_negative cX7_negative 1 (some .int), Cond.methodLink RX4 57 yX4_addMultiple, Cond.instanceMethod yX4_addMultiple, Cond.selects RX4 yX4_addMultiple yX4_addMultiple, Cond.code yX4_addMultiple cX4_addMultiple 7 none, Cond.methodLink RX0 37 yX4_leading, Cond.methodLink RX0 47 yX4_scaleBy, Cond.instanceMethod yX4_scaleBy, Cond.selects RX4 yX4_scaleBy yX4_scaleBy, Cond.code yX4_scaleBy cX4_scaleBy 3 none, Cond.methodLink RX6 52 yX4_highest]
def wsX7_requireAnswer_r5 : List Cond := [Cond.instanceMethod yX4_highest, Cond.selects RX4 yX4_highest yX4_highest, Cond.code yX4_highest cX4_highest 1 (some .int), Cond.methodLink RX6 56 yX0_divideOut, Cond.instanceMethod yX0_divideOut, Cond.selects RX0 yX0_divideOut yX0_divideOut, Cond.code yX0_divideOut cX0_divideOut 3 none, Cond.methodLink RX6 60 yX4_multiplyBy, Cond.instanceMethod yX4_multiplyBy, Cond.selects RX4 yX4_multiplyBy yX4_multiplyBy, Cond.code yX4_multiplyBy cX4_multiplyBy 6 none, Cond.methodLink RX7 112 yX1_renew, Cond.instanceMethod yX1_renew, Cond.selects RX1 yX1_renew yX1_renew, Cond.initialized RX1, Cond.code yX1_renew cX1_renew 2 none, Cond.fieldLink RX1 42 "ClosedSums$Equation" "known" "Z", Cond.fieldLink RX1 38 "ClosedSums$Equation" "leastDegree" "I", Cond.fieldLink RX1 23 "ClosedSums$Equation" "remaining" "LClosedSums$Pair;", Cond.fieldLink RX1 50 "ClosedSums$Pair" "origin" "LClosedSums$Polynomial;", Cond.methodLink RX1 53 yX1_start, Cond.instanceMethod yX1_start, Cond.selects RX1 yX1_start yX1_start, Cond.code yX1_start cX1_start 3 none]
def wsX7_requireAnswer_r6 : List Cond := [Cond.fieldLink RX1 19 "ClosedSums$Equation" "byHighest" "[LClosedSums$Pair;", Cond.fieldLink RX1 65 "ClosedSums$Pair" "image" "LClosedSums$Polynomial;", Cond.fieldLink RX1 28 "ClosedSums$Equation" "bottomBefore" "LClosedSums$Polynomial;", Cond.fieldLink RX1 32 "ClosedSums$Equation" "topGrown" "LClosedSums$Polynomial;", Cond.methodLink RX1 70 yX6_part, Cond.instanceMethod yX6_part, Cond.selects RX6 yX6_part yX6_part, Cond.code yX6_part cX6_part 2 (some (.object "ClosedSums$Polynomial")), Cond.methodLink RX1 74 yX4_copyFrom, Cond.methodLink RX1 78 yX4_becomeNumber, Cond.methodLink RX1 81 yX4_moveBy, Cond.methodLink RX1 57 yX1_solve, Cond.instanceMethod yX1_solve, Cond.selects RX1 yX1_solve yX1_solve, Cond.code yX1_solve cX1_solve 3 (some .int), Cond.fieldLink RX1 11 "ClosedSums$Equation" "pairs" "[LClosedSums$Pair;", Cond.methodLink RX1 84 yX1_fill, Cond.instanceMethod yX1_fill, Cond.selects RX1 yX1_fill yX1_fill, Cond.code yX1_fill cX1_fill 3 none, Cond.fieldLink RX1 35 "ClosedSums$Equation" "placeAfter" "LClosedSums$Polynomial;", Cond.methodLink RX1 46 yX4_setNumber, Cond.methodLink RX1 99 yX4_addMultiple, Cond.methodLink RX1 103 yX4_multiplyBy]
def wsX7_requireAnswer_r7 : List Cond := [Cond.methodLink RX1 88 yX1_lower, Cond.instanceMethod yX1_lower, Cond.selects RX1 yX1_lower yX1_lower, Cond.code yX1_lower cX1_lower 6 none, Cond.methodLink RX1 109 Lib.Math.min.name, Cond.methodLink RX1 106 yX4_highest, Cond.methodLink RX1 115 yX4_number, Cond.methodLink RX1 92 yX1_keep, Cond.instanceMethod yX1_keep, Cond.selects RX1 yX1_keep yX1_keep, Cond.code yX1_keep cX1_keep 4 none, Cond.methodLink RX1 122 yX4_leading, Cond.methodLink RX1 61 yX4_scaleBy, Cond.methodLink RX1 95 yX4_isZero, Cond.methodLink RX7 115 yX1_leastDegree, Cond.instanceMethod yX1_leastDegree, Cond.selects RX1 yX1_leastDegree yX1_leastDegree, Cond.code yX1_leastDegree cX1_leastDegree 1 (some .int)]
def wsX7_requireAnswer : List Cond := .code yX7_requireAnswer cX7_requireAnswer 1 none :: ((wsX7_requireAnswer_r1 ++ (wsX7_requireAnswer_r2 ++ (wsX7_requireAnswer_r3 ++ (wsX7_requireAnswer_r4 ++ (wsX7_requireAnswer_r5 ++ (wsX7_requireAnswer_r6 ++ wsX7_requireAnswer_r7)))))) ++ wsX70 ++ wsX40 ++ wsX60 ++ wsX00 ++ wsX10 ++ wsX30 ++ (vx_atS RX7 176 "java/lang/IllegalStateException" ["java/lang/RuntimeException", "java/lang/Exception"]).filter goodWord)
def wsX7_answer_r1 : List Cond := [Cond.fieldLink RX7 36 "ClosedSums" "equation" "LClosedSums$Equation;", Cond.methodLink RX7 118 yX7_requireAnswer, Cond.instanceMethod yX7_requireAnswer, Cond.selects RX7 yX7_requireAnswer yX7_requireAnswer, Cond.initialized RX7, Cond.code yX7_requireAnswer cX7_requireAnswer 1 none, Cond.classLink RX7 172 "java/lang/IllegalStateException", Cond.initialized "java/lang/IllegalStateException", Cond.fieldLink RX7 29 "ClosedSums" "parts" "LClosedSums$RatioSplit;", Cond.fieldLink RX7 10 "ClosedSums" "ratioTop" "LClosedSums$Polynomial;", Cond.fieldLink RX7 16 "ClosedSums" "ratioBottom" "LClosedSums$Polynomial;", Cond.fieldLink RX7 22 "ClosedSums" "division" "LClosedSums$Division;", Cond.methodLink RX7 84 yX7_requireRatio, Cond.instanceMethod yX7_requireRatio, Cond.selects RX7 yX7_requireRatio yX7_requireRatio, Cond.code yX7_requireRatio cX7_requireRatio 1 none, Cond.methodLink RX7 168 yX4_isZero, Cond.instanceMethod yX4_isZero, Cond.selects RX4 yX4_isZero yX4_isZero, Cond.initialized RX4, Cond.code yX4_isZero cX4_isZero 1 (some .boolean), Cond.fieldLink RX4 15 "ClosedSums$Polynomial" "highest" "I", Cond.methodLink RX7 94 yX6_renew, Cond.instanceMethod yX6_renew]
def wsX7_answer_r2 : List Cond := [Cond.selects RX6 yX6_renew yX6_renew, Cond.initialized RX6, Cond.code yX6_renew cX6_renew 7 none, Cond.fieldLink RX6 31 "ClosedSums$RatioSplit" "known" "Z", Cond.fieldLink RX6 12 "ClosedSums$RatioSplit" "top" "LClosedSums$Polynomial;", Cond.fieldLink RX6 18 "ClosedSums$RatioSplit" "bottom" "LClosedSums$Polynomial;", Cond.fieldLink RX6 21 "ClosedSums$RatioSplit" "extra" "LClosedSums$Polynomial;", Cond.fieldLink RX6 27 "ClosedSums$RatioSplit" "commonDegrees" "[I", Cond.fieldLink RX6 24 "ClosedSums$RatioSplit" "moved" "LClosedSums$Polynomial;", Cond.methodLink RX6 35 yX4_copyFrom, Cond.instanceMethod yX4_copyFrom, Cond.selects RX4 yX4_copyFrom yX4_copyFrom, Cond.code yX4_copyFrom cX4_copyFrom 3 none, Cond.fieldLink RX4 11 "ClosedSums$Polynomial" "numbers" "[I", Cond.methodLink RX4 19 yX4_number, Cond.instanceMethod yX4_number, Cond.selects RX4 yX4_number yX4_number, Cond.code yX4_number cX4_number 2 (some .int), Cond.methodLink RX6 39 yX4_becomeNumber, Cond.instanceMethod yX4_becomeNumber, Cond.selects RX4 yX4_becomeNumber yX4_becomeNumber, Cond.code yX4_becomeNumber cX4_becomeNumber 3 none, Cond.methodLink RX6 43 yX4_moveBy, Cond.instanceMethod yX4_moveBy]
def wsX7_answer_r3 : List Cond := [Cond.selects RX4 yX4_moveBy yX4_moveBy, Cond.code yX4_moveBy cX4_moveBy 4 none, Cond.methodLink RX4 37 Lib.Math.min.name, Cond.static Lib.Math.min.name, Cond.initialized "java/lang/Math", Cond.code Lib.Math.min.name Lib.Math.min.code 2 (some .int), Cond.methodLink RX6 46 yX0_commonDivisor, Cond.instanceMethod yX0_commonDivisor, Cond.selects RX0 yX0_commonDivisor yX0_commonDivisor, Cond.initialized RX0, Cond.code yX0_commonDivisor cX0_commonDivisor 7 (some (.object "ClosedSums$Polynomial")), Cond.fieldLink RX0 10 "ClosedSums$Division" "first" "LClosedSums$Polynomial;", Cond.fieldLink RX0 16 "ClosedSums$Division" "second" "LClosedSums$Polynomial;", Cond.fieldLink RX0 19 "ClosedSums$Division" "quotient" "LClosedSums$Polynomial;", Cond.fieldLink RX0 22 "ClosedSums$Division" "common" "LClosedSums$Polynomial;", Cond.methodLink RX0 25 yX4_copyFrom, Cond.methodLink RX0 29 yX4_isZero, Cond.methodLink RX0 33 yX4_divideBy, Cond.instanceMethod yX4_divideBy, Cond.selects RX4 yX4_divideBy yX4_divideBy, Cond.code yX4_divideBy cX4_divideBy 7 none, Cond.methodLink RX4 40 yX4_becomeNumber, Cond.methodLink RX4 33 yX4_isZero, Cond.methodLink RX4 43 yX4_leading]
def wsX7_answer_r4 : List Cond := [Cond.instanceMethod yX4_leading, Cond.selects RX4 yX4_leading yX4_leading, Cond.code yX4_leading cX4_leading 1 (some .int), Cond.static yX7_inverse, Cond.code yX7_inverse cX7_inverse 4 (some .int), Cond.methodLink RX4 50 yX4_setNumber, Cond.instanceMethod yX4_setNumber, Cond.selects RX4 yX4_setNumber yX4_setNumber, Cond.code yX4_setNumber cX4_setNumber 3 none, Cond.methodLink RX4 23 Lib.Math.max.name, Cond.static Lib.Math.max.name, Cond.code Lib.Math.max.name Lib.Math.max.code 2 (some .int), Cond.methodLink RX4 29 yX4_settle, Cond.instanceMethod yX4_settle, Cond.selects RX4 yX4_settle yX4_settle, Cond.code yX4_settle cX4_settle 3 none, Cond.static yX7_negative, Cond.code yX7_negative cX7_negative 1 (some .int), Cond.methodLink RX4 57 yX4_addMultiple, Cond.instanceMethod yX4_addMultiple, Cond.selects RX4 yX4_addMultiple yX4_addMultiple, Cond.code yX4_addMultiple cX4_addMultiple 7 none, Cond.methodLink RX0 37 yX4_leading, Cond.methodLink RX0 47 yX4_scaleBy]
def wsX7_answer_r5 : List Cond := [Cond.instanceMethod yX4_scaleBy, Cond.selects RX4 yX4_scaleBy yX4_scaleBy, Cond.code yX4_scaleBy cX4_scaleBy 3 none, Cond.methodLink RX6 52 yX4_highest, Cond.instanceMethod yX4_highest, Cond.selects RX4 yX4_highest yX4_highest, Cond.code yX4_highest cX4_highest 1 (some .int), Cond.methodLink RX6 56 yX0_divideOut, Cond.instanceMethod yX0_divideOut, Cond.selects RX0 yX0_divideOut yX0_divideOut, Cond.code yX0_divideOut cX0_divideOut 3 none, Cond.methodLink RX6 60 yX4_multiplyBy, Cond.instanceMethod yX4_multiplyBy, Cond.selects RX4 yX4_multiplyBy yX4_multiplyBy, Cond.code yX4_multiplyBy cX4_multiplyBy 6 none, Cond.methodLink RX7 112 yX1_renew, Cond.instanceMethod yX1_renew, Cond.selects RX1 yX1_renew yX1_renew, Cond.initialized RX1, Cond.code yX1_renew cX1_renew 2 none, Cond.fieldLink RX1 42 "ClosedSums$Equation" "known" "Z", Cond.fieldLink RX1 38 "ClosedSums$Equation" "leastDegree" "I", Cond.fieldLink RX1 23 "ClosedSums$Equation" "remaining" "LClosedSums$Pair;", Cond.fieldLink RX1 50 "ClosedSums$Pair" "origin" "LClosedSums$Polynomial;"]
def wsX7_answer_r6 : List Cond := [Cond.methodLink RX1 53 yX1_start, Cond.instanceMethod yX1_start, Cond.selects RX1 yX1_start yX1_start, Cond.code yX1_start cX1_start 3 none, Cond.fieldLink RX1 19 "ClosedSums$Equation" "byHighest" "[LClosedSums$Pair;", Cond.fieldLink RX1 65 "ClosedSums$Pair" "image" "LClosedSums$Polynomial;", Cond.fieldLink RX1 28 "ClosedSums$Equation" "bottomBefore" "LClosedSums$Polynomial;", Cond.fieldLink RX1 32 "ClosedSums$Equation" "topGrown" "LClosedSums$Polynomial;", Cond.methodLink RX1 70 yX6_part, Cond.instanceMethod yX6_part, Cond.selects RX6 yX6_part yX6_part, Cond.code yX6_part cX6_part 2 (some (.object "ClosedSums$Polynomial")), Cond.methodLink RX1 74 yX4_copyFrom, Cond.methodLink RX1 78 yX4_becomeNumber, Cond.methodLink RX1 81 yX4_moveBy, Cond.methodLink RX1 57 yX1_solve, Cond.instanceMethod yX1_solve, Cond.selects RX1 yX1_solve yX1_solve, Cond.code yX1_solve cX1_solve 3 (some .int), Cond.fieldLink RX1 11 "ClosedSums$Equation" "pairs" "[LClosedSums$Pair;", Cond.methodLink RX1 84 yX1_fill, Cond.instanceMethod yX1_fill, Cond.selects RX1 yX1_fill yX1_fill, Cond.code yX1_fill cX1_fill 3 none]
def wsX7_answer_r7 : List Cond := [Cond.fieldLink RX1 35 "ClosedSums$Equation" "placeAfter" "LClosedSums$Polynomial;", Cond.methodLink RX1 46 yX4_setNumber, Cond.methodLink RX1 99 yX4_addMultiple, Cond.methodLink RX1 103 yX4_multiplyBy, Cond.methodLink RX1 88 yX1_lower, Cond.instanceMethod yX1_lower, Cond.selects RX1 yX1_lower yX1_lower, Cond.code yX1_lower cX1_lower 6 none, Cond.methodLink RX1 109 Lib.Math.min.name, Cond.methodLink RX1 106 yX4_highest, Cond.methodLink RX1 115 yX4_number, Cond.methodLink RX1 92 yX1_keep, Cond.instanceMethod yX1_keep, Cond.selects RX1 yX1_keep yX1_keep, Cond.code yX1_keep cX1_keep 4 none, Cond.methodLink RX1 122 yX4_leading, Cond.methodLink RX1 61 yX4_scaleBy, Cond.methodLink RX1 95 yX4_isZero, Cond.methodLink RX7 115 yX1_leastDegree, Cond.instanceMethod yX1_leastDegree, Cond.selects RX1 yX1_leastDegree yX1_leastDegree, Cond.code yX1_leastDegree cX1_leastDegree 1 (some .int), Cond.methodLink RX7 121 yX1_solution, Cond.instanceMethod yX1_solution]
def wsX7_answer_r8 : List Cond := [Cond.selects RX1 yX1_solution yX1_solution, Cond.code yX1_solution cX1_solution 1 (some (.object "ClosedSums$Polynomial")), Cond.methodLink RX7 73 yX4_number]
def wsX7_answer : List Cond := .code yX7_answer cX7_answer 2 (some .int) :: ((wsX7_answer_r1 ++ (wsX7_answer_r2 ++ (wsX7_answer_r3 ++ (wsX7_answer_r4 ++ (wsX7_answer_r5 ++ (wsX7_answer_r6 ++ (wsX7_answer_r7 ++ wsX7_answer_r8))))))) ++ wsX70 ++ wsX40 ++ wsX60 ++ wsX00 ++ wsX10 ++ wsX30 ++ (vx_atS RX7 176 "java/lang/IllegalStateException" ["java/lang/RuntimeException", "java/lang/Exception"]).filter goodWord)
def wsX7_closed_r1 : List Cond := [Cond.fieldLink RX7 43 "ClosedSums" "fraction" "LClosedSums$Fraction;", Cond.fieldLink RX7 29 "ClosedSums" "parts" "LClosedSums$RatioSplit;", Cond.fieldLink RX7 36 "ClosedSums" "equation" "LClosedSums$Equation;", Cond.fieldLink RX7 22 "ClosedSums" "division" "LClosedSums$Division;", Cond.methodLink RX7 118 yX7_requireAnswer, Cond.instanceMethod yX7_requireAnswer, Cond.selects RX7 yX7_requireAnswer yX7_requireAnswer, Cond.initialized RX7, Cond.code yX7_requireAnswer cX7_requireAnswer 1 none, Cond.classLink RX7 172 "java/lang/IllegalStateException", Cond.initialized "java/lang/IllegalStateException", Cond.fieldLink RX7 10 "ClosedSums" "ratioTop" "LClosedSums$Polynomial;", Cond.fieldLink RX7 16 "ClosedSums" "ratioBottom" "LClosedSums$Polynomial;", Cond.methodLink RX7 84 yX7_requireRatio, Cond.instanceMethod yX7_requireRatio, Cond.selects RX7 yX7_requireRatio yX7_requireRatio, Cond.code yX7_requireRatio cX7_requireRatio 1 none, Cond.methodLink RX7 168 yX4_isZero, Cond.instanceMethod yX4_isZero, Cond.selects RX4 yX4_isZero yX4_isZero, Cond.initialized RX4, Cond.code yX4_isZero cX4_isZero 1 (some .boolean), Cond.fieldLink RX4 15 "ClosedSums$Polynomial" "highest" "I", Cond.methodLink RX7 94 yX6_renew]
def wsX7_closed_r2 : List Cond := [Cond.instanceMethod yX6_renew, Cond.selects RX6 yX6_renew yX6_renew, Cond.initialized RX6, Cond.code yX6_renew cX6_renew 7 none, Cond.fieldLink RX6 31 "ClosedSums$RatioSplit" "known" "Z", Cond.fieldLink RX6 12 "ClosedSums$RatioSplit" "top" "LClosedSums$Polynomial;", Cond.fieldLink RX6 18 "ClosedSums$RatioSplit" "bottom" "LClosedSums$Polynomial;", Cond.fieldLink RX6 21 "ClosedSums$RatioSplit" "extra" "LClosedSums$Polynomial;", Cond.fieldLink RX6 27 "ClosedSums$RatioSplit" "commonDegrees" "[I", Cond.fieldLink RX6 24 "ClosedSums$RatioSplit" "moved" "LClosedSums$Polynomial;", Cond.methodLink RX6 35 yX4_copyFrom, Cond.instanceMethod yX4_copyFrom, Cond.selects RX4 yX4_copyFrom yX4_copyFrom, Cond.code yX4_copyFrom cX4_copyFrom 3 none, Cond.fieldLink RX4 11 "ClosedSums$Polynomial" "numbers" "[I", Cond.methodLink RX4 19 yX4_number, Cond.instanceMethod yX4_number, Cond.selects RX4 yX4_number yX4_number, Cond.code yX4_number cX4_number 2 (some .int), Cond.methodLink RX6 39 yX4_becomeNumber, Cond.instanceMethod yX4_becomeNumber, Cond.selects RX4 yX4_becomeNumber yX4_becomeNumber, Cond.code yX4_becomeNumber cX4_becomeNumber 3 none, Cond.methodLink RX6 43 yX4_moveBy]
def wsX7_closed_r3 : List Cond := [Cond.instanceMethod yX4_moveBy, Cond.selects RX4 yX4_moveBy yX4_moveBy, Cond.code yX4_moveBy cX4_moveBy 4 none, Cond.methodLink RX4 37 Lib.Math.min.name, Cond.static Lib.Math.min.name, Cond.initialized "java/lang/Math", Cond.code Lib.Math.min.name Lib.Math.min.code 2 (some .int), Cond.methodLink RX6 46 yX0_commonDivisor, Cond.instanceMethod yX0_commonDivisor, Cond.selects RX0 yX0_commonDivisor yX0_commonDivisor, Cond.initialized RX0, Cond.code yX0_commonDivisor cX0_commonDivisor 7 (some (.object "ClosedSums$Polynomial")), Cond.fieldLink RX0 10 "ClosedSums$Division" "first" "LClosedSums$Polynomial;", Cond.fieldLink RX0 16 "ClosedSums$Division" "second" "LClosedSums$Polynomial;", Cond.fieldLink RX0 19 "ClosedSums$Division" "quotient" "LClosedSums$Polynomial;", Cond.fieldLink RX0 22 "ClosedSums$Division" "common" "LClosedSums$Polynomial;", Cond.methodLink RX0 25 yX4_copyFrom, Cond.methodLink RX0 29 yX4_isZero, Cond.methodLink RX0 33 yX4_divideBy, Cond.instanceMethod yX4_divideBy, Cond.selects RX4 yX4_divideBy yX4_divideBy, Cond.code yX4_divideBy cX4_divideBy 7 none, Cond.methodLink RX4 40 yX4_becomeNumber, Cond.methodLink RX4 33 yX4_isZero]
def wsX7_closed_r4 : List Cond := [Cond.methodLink RX4 43 yX4_leading, Cond.instanceMethod yX4_leading, Cond.selects RX4 yX4_leading yX4_leading, Cond.code yX4_leading cX4_leading 1 (some .int), Cond.static yX7_inverse, Cond.code yX7_inverse cX7_inverse 4 (some .int), Cond.methodLink RX4 50 yX4_setNumber, Cond.instanceMethod yX4_setNumber, Cond.selects RX4 yX4_setNumber yX4_setNumber, Cond.code yX4_setNumber cX4_setNumber 3 none, Cond.methodLink RX4 23 Lib.Math.max.name, Cond.static Lib.Math.max.name, Cond.code Lib.Math.max.name Lib.Math.max.code 2 (some .int), Cond.methodLink RX4 29 yX4_settle, Cond.instanceMethod yX4_settle, Cond.selects RX4 yX4_settle yX4_settle, Cond.code yX4_settle cX4_settle 3 none, Cond.static yX7_negative, Cond.code yX7_negative cX7_negative 1 (some .int), Cond.methodLink RX4 57 yX4_addMultiple, Cond.instanceMethod yX4_addMultiple, Cond.selects RX4 yX4_addMultiple yX4_addMultiple, Cond.code yX4_addMultiple cX4_addMultiple 7 none, Cond.methodLink RX0 37 yX4_leading]
def wsX7_closed_r5 : List Cond := [Cond.methodLink RX0 47 yX4_scaleBy, Cond.instanceMethod yX4_scaleBy, Cond.selects RX4 yX4_scaleBy yX4_scaleBy, Cond.code yX4_scaleBy cX4_scaleBy 3 none, Cond.methodLink RX6 52 yX4_highest, Cond.instanceMethod yX4_highest, Cond.selects RX4 yX4_highest yX4_highest, Cond.code yX4_highest cX4_highest 1 (some .int), Cond.methodLink RX6 56 yX0_divideOut, Cond.instanceMethod yX0_divideOut, Cond.selects RX0 yX0_divideOut yX0_divideOut, Cond.code yX0_divideOut cX0_divideOut 3 none, Cond.methodLink RX6 60 yX4_multiplyBy, Cond.instanceMethod yX4_multiplyBy, Cond.selects RX4 yX4_multiplyBy yX4_multiplyBy, Cond.code yX4_multiplyBy cX4_multiplyBy 6 none, Cond.methodLink RX7 112 yX1_renew, Cond.instanceMethod yX1_renew, Cond.selects RX1 yX1_renew yX1_renew, Cond.initialized RX1, Cond.code yX1_renew cX1_renew 2 none, Cond.fieldLink RX1 42 "ClosedSums$Equation" "known" "Z", Cond.fieldLink RX1 38 "ClosedSums$Equation" "leastDegree" "I", Cond.fieldLink RX1 23 "ClosedSums$Equation" "remaining" "LClosedSums$Pair;"]
def wsX7_closed_r6 : List Cond := [Cond.fieldLink RX1 50 "ClosedSums$Pair" "origin" "LClosedSums$Polynomial;", Cond.methodLink RX1 53 yX1_start, Cond.instanceMethod yX1_start, Cond.selects RX1 yX1_start yX1_start, Cond.code yX1_start cX1_start 3 none, Cond.fieldLink RX1 19 "ClosedSums$Equation" "byHighest" "[LClosedSums$Pair;", Cond.fieldLink RX1 65 "ClosedSums$Pair" "image" "LClosedSums$Polynomial;", Cond.fieldLink RX1 28 "ClosedSums$Equation" "bottomBefore" "LClosedSums$Polynomial;", Cond.fieldLink RX1 32 "ClosedSums$Equation" "topGrown" "LClosedSums$Polynomial;", Cond.methodLink RX1 70 yX6_part, Cond.instanceMethod yX6_part, Cond.selects RX6 yX6_part yX6_part, Cond.code yX6_part cX6_part 2 (some (.object "ClosedSums$Polynomial")), Cond.methodLink RX1 74 yX4_copyFrom, Cond.methodLink RX1 78 yX4_becomeNumber, Cond.methodLink RX1 81 yX4_moveBy, Cond.methodLink RX1 57 yX1_solve, Cond.instanceMethod yX1_solve, Cond.selects RX1 yX1_solve yX1_solve, Cond.code yX1_solve cX1_solve 3 (some .int), Cond.fieldLink RX1 11 "ClosedSums$Equation" "pairs" "[LClosedSums$Pair;", Cond.methodLink RX1 84 yX1_fill, Cond.instanceMethod yX1_fill, Cond.selects RX1 yX1_fill yX1_fill]
def wsX7_closed_r7 : List Cond := [Cond.code yX1_fill cX1_fill 3 none, Cond.fieldLink RX1 35 "ClosedSums$Equation" "placeAfter" "LClosedSums$Polynomial;", Cond.methodLink RX1 46 yX4_setNumber, Cond.methodLink RX1 99 yX4_addMultiple, Cond.methodLink RX1 103 yX4_multiplyBy, Cond.methodLink RX1 88 yX1_lower, Cond.instanceMethod yX1_lower, Cond.selects RX1 yX1_lower yX1_lower, Cond.code yX1_lower cX1_lower 6 none, Cond.methodLink RX1 109 Lib.Math.min.name, Cond.methodLink RX1 106 yX4_highest, Cond.methodLink RX1 115 yX4_number, Cond.methodLink RX1 92 yX1_keep, Cond.instanceMethod yX1_keep, Cond.selects RX1 yX1_keep yX1_keep, Cond.code yX1_keep cX1_keep 4 none, Cond.methodLink RX1 122 yX4_leading, Cond.methodLink RX1 61 yX4_scaleBy, Cond.methodLink RX1 95 yX4_isZero, Cond.methodLink RX7 115 yX1_leastDegree, Cond.instanceMethod yX1_leastDegree, Cond.selects RX1 yX1_leastDegree yX1_leastDegree, Cond.code yX1_leastDegree cX1_leastDegree 1 (some .int), Cond.methodLink RX7 125 yX2_renew]
def wsX7_closed_r8 : List Cond := [Cond.instanceMethod yX2_renew, Cond.selects RX2 yX2_renew yX2_renew, Cond.initialized RX2, Cond.code yX2_renew cX2_renew 5 none, Cond.fieldLink RX2 21 "ClosedSums$Fraction" "known" "Z", Cond.fieldLink RX2 12 "ClosedSums$Fraction" "top" "LClosedSums$Polynomial;", Cond.fieldLink RX2 18 "ClosedSums$Fraction" "bottom" "LClosedSums$Polynomial;", Cond.methodLink RX2 25 yX1_bottomBefore, Cond.instanceMethod yX1_bottomBefore, Cond.selects RX1 yX1_bottomBefore yX1_bottomBefore, Cond.code yX1_bottomBefore cX1_bottomBefore 1 (some (.object "ClosedSums$Polynomial")), Cond.methodLink RX2 31 yX4_copyFrom, Cond.methodLink RX2 35 yX1_solution, Cond.instanceMethod yX1_solution, Cond.selects RX1 yX1_solution yX1_solution, Cond.code yX1_solution cX1_solution 1 (some (.object "ClosedSums$Polynomial")), Cond.methodLink RX2 38 yX4_multiplyBy, Cond.methodLink RX2 43 yX6_part, Cond.methodLink RX2 47 yX0_commonDivisor, Cond.methodLink RX2 53 yX0_divideOut, Cond.methodLink RX7 128 yX2_top, Cond.instanceMethod yX2_top, Cond.selects RX2 yX2_top yX2_top, Cond.code yX2_top cX2_top 1 (some (.object "ClosedSums$Polynomial"))]
def wsX7_closed_r9 : List Cond := [Cond.methodLink RX7 131 yX2_bottom, Cond.instanceMethod yX2_bottom, Cond.selects RX2 yX2_bottom yX2_bottom, Cond.code yX2_bottom cX2_bottom 1 (some (.object "ClosedSums$Polynomial")), Cond.methodLink RX7 73 yX4_number]
def wsX7_closed : List Cond := .code yX7_closed cX7_closed 3 (some .int) :: ((wsX7_closed_r1 ++ (wsX7_closed_r2 ++ (wsX7_closed_r3 ++ (wsX7_closed_r4 ++ (wsX7_closed_r5 ++ (wsX7_closed_r6 ++ (wsX7_closed_r7 ++ (wsX7_closed_r8 ++ wsX7_closed_r9)))))))) ++ wsX70 ++ wsX40 ++ wsX60 ++ wsX00 ++ wsX10 ++ wsX30 ++ wsX20 ++ (vx_atS RX7 176 "java/lang/IllegalStateException" ["java/lang/RuntimeException", "java/lang/Exception"]).filter goodWord)
def wsX7_value_r1 : List Cond := [Cond.fieldLink RX7 43 "ClosedSums" "fraction" "LClosedSums$Fraction;", Cond.fieldLink RX7 29 "ClosedSums" "parts" "LClosedSums$RatioSplit;", Cond.fieldLink RX7 36 "ClosedSums" "equation" "LClosedSums$Equation;", Cond.fieldLink RX7 22 "ClosedSums" "division" "LClosedSums$Division;", Cond.constantLong RX7 65 (32003), Cond.methodLink RX7 118 yX7_requireAnswer, Cond.instanceMethod yX7_requireAnswer, Cond.selects RX7 yX7_requireAnswer yX7_requireAnswer, Cond.initialized RX7, Cond.code yX7_requireAnswer cX7_requireAnswer 1 none, Cond.classLink RX7 172 "java/lang/IllegalStateException", Cond.initialized "java/lang/IllegalStateException", Cond.fieldLink RX7 10 "ClosedSums" "ratioTop" "LClosedSums$Polynomial;", Cond.fieldLink RX7 16 "ClosedSums" "ratioBottom" "LClosedSums$Polynomial;", Cond.methodLink RX7 84 yX7_requireRatio, Cond.instanceMethod yX7_requireRatio, Cond.selects RX7 yX7_requireRatio yX7_requireRatio, Cond.code yX7_requireRatio cX7_requireRatio 1 none, Cond.methodLink RX7 168 yX4_isZero, Cond.instanceMethod yX4_isZero, Cond.selects RX4 yX4_isZero yX4_isZero, Cond.initialized RX4, Cond.code yX4_isZero cX4_isZero 1 (some .boolean), Cond.fieldLink RX4 15 "ClosedSums$Polynomial" "highest" "I"]
def wsX7_value_r2 : List Cond := [Cond.methodLink RX7 94 yX6_renew, Cond.instanceMethod yX6_renew, Cond.selects RX6 yX6_renew yX6_renew, Cond.initialized RX6, Cond.code yX6_renew cX6_renew 7 none, Cond.fieldLink RX6 31 "ClosedSums$RatioSplit" "known" "Z", Cond.fieldLink RX6 12 "ClosedSums$RatioSplit" "top" "LClosedSums$Polynomial;", Cond.fieldLink RX6 18 "ClosedSums$RatioSplit" "bottom" "LClosedSums$Polynomial;", Cond.fieldLink RX6 21 "ClosedSums$RatioSplit" "extra" "LClosedSums$Polynomial;", Cond.fieldLink RX6 27 "ClosedSums$RatioSplit" "commonDegrees" "[I", Cond.fieldLink RX6 24 "ClosedSums$RatioSplit" "moved" "LClosedSums$Polynomial;", Cond.methodLink RX6 35 yX4_copyFrom, Cond.instanceMethod yX4_copyFrom, Cond.selects RX4 yX4_copyFrom yX4_copyFrom, Cond.code yX4_copyFrom cX4_copyFrom 3 none, Cond.fieldLink RX4 11 "ClosedSums$Polynomial" "numbers" "[I", Cond.methodLink RX4 19 yX4_number, Cond.instanceMethod yX4_number, Cond.selects RX4 yX4_number yX4_number, Cond.code yX4_number cX4_number 2 (some .int), Cond.methodLink RX6 39 yX4_becomeNumber, Cond.instanceMethod yX4_becomeNumber, Cond.selects RX4 yX4_becomeNumber yX4_becomeNumber, Cond.code yX4_becomeNumber cX4_becomeNumber 3 none]
def wsX7_value_r3 : List Cond := [Cond.methodLink RX6 43 yX4_moveBy, Cond.instanceMethod yX4_moveBy, Cond.selects RX4 yX4_moveBy yX4_moveBy, Cond.code yX4_moveBy cX4_moveBy 4 none, Cond.methodLink RX4 37 Lib.Math.min.name, Cond.static Lib.Math.min.name, Cond.initialized "java/lang/Math", Cond.code Lib.Math.min.name Lib.Math.min.code 2 (some .int), Cond.methodLink RX6 46 yX0_commonDivisor, Cond.instanceMethod yX0_commonDivisor, Cond.selects RX0 yX0_commonDivisor yX0_commonDivisor, Cond.initialized RX0, Cond.code yX0_commonDivisor cX0_commonDivisor 7 (some (.object "ClosedSums$Polynomial")), Cond.fieldLink RX0 10 "ClosedSums$Division" "first" "LClosedSums$Polynomial;", Cond.fieldLink RX0 16 "ClosedSums$Division" "second" "LClosedSums$Polynomial;", Cond.fieldLink RX0 19 "ClosedSums$Division" "quotient" "LClosedSums$Polynomial;", Cond.fieldLink RX0 22 "ClosedSums$Division" "common" "LClosedSums$Polynomial;", Cond.methodLink RX0 25 yX4_copyFrom, Cond.methodLink RX0 29 yX4_isZero, Cond.methodLink RX0 33 yX4_divideBy, Cond.instanceMethod yX4_divideBy, Cond.selects RX4 yX4_divideBy yX4_divideBy, Cond.code yX4_divideBy cX4_divideBy 7 none, Cond.methodLink RX4 40 yX4_becomeNumber]
def wsX7_value_r4 : List Cond := [Cond.methodLink RX4 33 yX4_isZero, Cond.methodLink RX4 43 yX4_leading, Cond.instanceMethod yX4_leading, Cond.selects RX4 yX4_leading yX4_leading, Cond.code yX4_leading cX4_leading 1 (some .int), Cond.static yX7_inverse, Cond.code yX7_inverse cX7_inverse 4 (some .int), Cond.methodLink RX4 50 yX4_setNumber, Cond.instanceMethod yX4_setNumber, Cond.selects RX4 yX4_setNumber yX4_setNumber, Cond.code yX4_setNumber cX4_setNumber 3 none, Cond.methodLink RX4 23 Lib.Math.max.name, Cond.static Lib.Math.max.name, Cond.code Lib.Math.max.name Lib.Math.max.code 2 (some .int), Cond.methodLink RX4 29 yX4_settle, Cond.instanceMethod yX4_settle, Cond.selects RX4 yX4_settle yX4_settle, Cond.code yX4_settle cX4_settle 3 none, Cond.static yX7_negative, Cond.code yX7_negative cX7_negative 1 (some .int), Cond.methodLink RX4 57 yX4_addMultiple, Cond.instanceMethod yX4_addMultiple, Cond.selects RX4 yX4_addMultiple yX4_addMultiple, Cond.code yX4_addMultiple cX4_addMultiple 7 none]
def wsX7_value_r5 : List Cond := [Cond.methodLink RX0 37 yX4_leading, Cond.methodLink RX0 47 yX4_scaleBy, Cond.instanceMethod yX4_scaleBy, Cond.selects RX4 yX4_scaleBy yX4_scaleBy, Cond.code yX4_scaleBy cX4_scaleBy 3 none, Cond.methodLink RX6 52 yX4_highest, Cond.instanceMethod yX4_highest, Cond.selects RX4 yX4_highest yX4_highest, Cond.code yX4_highest cX4_highest 1 (some .int), Cond.methodLink RX6 56 yX0_divideOut, Cond.instanceMethod yX0_divideOut, Cond.selects RX0 yX0_divideOut yX0_divideOut, Cond.code yX0_divideOut cX0_divideOut 3 none, Cond.methodLink RX6 60 yX4_multiplyBy, Cond.instanceMethod yX4_multiplyBy, Cond.selects RX4 yX4_multiplyBy yX4_multiplyBy, Cond.code yX4_multiplyBy cX4_multiplyBy 6 none, Cond.methodLink RX7 112 yX1_renew, Cond.instanceMethod yX1_renew, Cond.selects RX1 yX1_renew yX1_renew, Cond.initialized RX1, Cond.code yX1_renew cX1_renew 2 none, Cond.fieldLink RX1 42 "ClosedSums$Equation" "known" "Z", Cond.fieldLink RX1 38 "ClosedSums$Equation" "leastDegree" "I"]
def wsX7_value_r6 : List Cond := [Cond.fieldLink RX1 23 "ClosedSums$Equation" "remaining" "LClosedSums$Pair;", Cond.fieldLink RX1 50 "ClosedSums$Pair" "origin" "LClosedSums$Polynomial;", Cond.methodLink RX1 53 yX1_start, Cond.instanceMethod yX1_start, Cond.selects RX1 yX1_start yX1_start, Cond.code yX1_start cX1_start 3 none, Cond.fieldLink RX1 19 "ClosedSums$Equation" "byHighest" "[LClosedSums$Pair;", Cond.fieldLink RX1 65 "ClosedSums$Pair" "image" "LClosedSums$Polynomial;", Cond.fieldLink RX1 28 "ClosedSums$Equation" "bottomBefore" "LClosedSums$Polynomial;", Cond.fieldLink RX1 32 "ClosedSums$Equation" "topGrown" "LClosedSums$Polynomial;", Cond.methodLink RX1 70 yX6_part, Cond.instanceMethod yX6_part, Cond.selects RX6 yX6_part yX6_part, Cond.code yX6_part cX6_part 2 (some (.object "ClosedSums$Polynomial")), Cond.methodLink RX1 74 yX4_copyFrom, Cond.methodLink RX1 78 yX4_becomeNumber, Cond.methodLink RX1 81 yX4_moveBy, Cond.methodLink RX1 57 yX1_solve, Cond.instanceMethod yX1_solve, Cond.selects RX1 yX1_solve yX1_solve, Cond.code yX1_solve cX1_solve 3 (some .int), Cond.fieldLink RX1 11 "ClosedSums$Equation" "pairs" "[LClosedSums$Pair;", Cond.methodLink RX1 84 yX1_fill, Cond.instanceMethod yX1_fill]
def wsX7_value_r7 : List Cond := [Cond.selects RX1 yX1_fill yX1_fill, Cond.code yX1_fill cX1_fill 3 none, Cond.fieldLink RX1 35 "ClosedSums$Equation" "placeAfter" "LClosedSums$Polynomial;", Cond.methodLink RX1 46 yX4_setNumber, Cond.methodLink RX1 99 yX4_addMultiple, Cond.methodLink RX1 103 yX4_multiplyBy, Cond.methodLink RX1 88 yX1_lower, Cond.instanceMethod yX1_lower, Cond.selects RX1 yX1_lower yX1_lower, Cond.code yX1_lower cX1_lower 6 none, Cond.methodLink RX1 109 Lib.Math.min.name, Cond.methodLink RX1 106 yX4_highest, Cond.methodLink RX1 115 yX4_number, Cond.methodLink RX1 92 yX1_keep, Cond.instanceMethod yX1_keep, Cond.selects RX1 yX1_keep yX1_keep, Cond.code yX1_keep cX1_keep 4 none, Cond.methodLink RX1 122 yX4_leading, Cond.methodLink RX1 61 yX4_scaleBy, Cond.methodLink RX1 95 yX4_isZero, Cond.methodLink RX7 115 yX1_leastDegree, Cond.instanceMethod yX1_leastDegree, Cond.selects RX1 yX1_leastDegree yX1_leastDegree, Cond.code yX1_leastDegree cX1_leastDegree 1 (some .int)]
def wsX7_value_r8 : List Cond := [Cond.methodLink RX7 125 yX2_renew, Cond.instanceMethod yX2_renew, Cond.selects RX2 yX2_renew yX2_renew, Cond.initialized RX2, Cond.code yX2_renew cX2_renew 5 none, Cond.fieldLink RX2 21 "ClosedSums$Fraction" "known" "Z", Cond.fieldLink RX2 12 "ClosedSums$Fraction" "top" "LClosedSums$Polynomial;", Cond.fieldLink RX2 18 "ClosedSums$Fraction" "bottom" "LClosedSums$Polynomial;", Cond.methodLink RX2 25 yX1_bottomBefore, Cond.instanceMethod yX1_bottomBefore, Cond.selects RX1 yX1_bottomBefore yX1_bottomBefore, Cond.code yX1_bottomBefore cX1_bottomBefore 1 (some (.object "ClosedSums$Polynomial")), Cond.methodLink RX2 31 yX4_copyFrom, Cond.methodLink RX2 35 yX1_solution, Cond.instanceMethod yX1_solution, Cond.selects RX1 yX1_solution yX1_solution, Cond.code yX1_solution cX1_solution 1 (some (.object "ClosedSums$Polynomial")), Cond.methodLink RX2 38 yX4_multiplyBy, Cond.methodLink RX2 43 yX6_part, Cond.methodLink RX2 47 yX0_commonDivisor, Cond.methodLink RX2 53 yX0_divideOut, Cond.methodLink RX7 67 yJ9_floorMod_f86c9, Cond.static yJ9_floorMod_f86c9, Cond.initialized RJ9]
def wsX7_value_r9 : List Cond := [Cond.code yJ9_floorMod_f86c9 cJ9_floorMod_f86c9 6 (some .long), Cond.methodLink RX7 134 yX2_valueAt, Cond.instanceMethod yX2_valueAt, Cond.selects RX2 yX2_valueAt yX2_valueAt, Cond.code yX2_valueAt cX2_valueAt 3 (some .int), Cond.methodLink RX2 57 yX4_valueAt, Cond.instanceMethod yX4_valueAt, Cond.selects RX4 yX4_valueAt yX4_valueAt, Cond.code yX4_valueAt cX4_valueAt 4 (some .int)]
def wsX7_value : List Cond := .code yX7_value cX7_value 3 (some .int) :: ((wsX7_value_r1 ++ (wsX7_value_r2 ++ (wsX7_value_r3 ++ (wsX7_value_r4 ++ (wsX7_value_r5 ++ (wsX7_value_r6 ++ (wsX7_value_r7 ++ (wsX7_value_r8 ++ wsX7_value_r9)))))))) ++ wsX70 ++ wsX40 ++ wsX60 ++ wsX00 ++ wsX10 ++ wsX30 ++ wsX20 ++ (vx_atS RX7 176 "java/lang/IllegalStateException" ["java/lang/RuntimeException", "java/lang/Exception"]).filter goodWord)
def wsX7_requirePlace : List Cond := .code yX7_requirePlace cX7_requirePlace 2 none :: ([.classLink RX7 159 "java/lang/IndexOutOfBoundsException", .initialized "java/lang/IndexOutOfBoundsException"] ++ (vx_atS RX7 163 "java/lang/IndexOutOfBoundsException" ["java/lang/RuntimeException", "java/lang/Exception"]).filter goodWord)
def wsX7_requireTerm_r1 : List Cond := [Cond.classLink RX7 172 "java/lang/IllegalStateException", Cond.initialized "java/lang/IllegalStateException", Cond.fieldLink RX7 50 "ClosedSums" "progress" "LClosedSums$Progress;", Cond.fieldLink RX7 10 "ClosedSums" "ratioTop" "LClosedSums$Polynomial;", Cond.fieldLink RX7 16 "ClosedSums" "ratioBottom" "LClosedSums$Polynomial;", Cond.methodLink RX7 179 yX5_reaches, Cond.instanceMethod yX5_reaches, Cond.selects RX5 yX5_reaches yX5_reaches, Cond.initialized RX5, Cond.code yX5_reaches cX5_reaches 7 (some .boolean), Cond.fieldLink RX5 15 "ClosedSums$Progress" "reached" "I", Cond.fieldLink RX5 9 "ClosedSums$Progress" "terms" "[I", Cond.methodLink RX5 19 yX4_valueAt, Cond.instanceMethod yX4_valueAt, Cond.selects RX4 yX4_valueAt yX4_valueAt, Cond.initialized RX4, Cond.code yX4_valueAt cX4_valueAt 4 (some .int), Cond.fieldLink RX4 15 "ClosedSums$Polynomial" "highest" "I", Cond.methodLink RX4 19 yX4_number, Cond.instanceMethod yX4_number, Cond.selects RX4 yX4_number yX4_number, Cond.code yX4_number cX4_number 2 (some .int), Cond.fieldLink RX4 11 "ClosedSums$Polynomial" "numbers" "[I", Cond.static yX7_inverse]
def wsX7_requireTerm_r2 : List Cond := [Cond.initialized RX7, Cond.code yX7_inverse cX7_inverse 4 (some .int)]
def wsX7_requireTerm : List Cond := .code yX7_requireTerm cX7_requireTerm 2 none :: ((wsX7_requireTerm_r1 ++ wsX7_requireTerm_r2) ++ wsX70 ++ wsX50 ++ wsX40 ++ (vx_atS RX7 176 "java/lang/IllegalStateException" ["java/lang/RuntimeException", "java/lang/Exception"]).filter goodWord)
def wsX7_term_r1 : List Cond := [Cond.fieldLink RX7 50 "ClosedSums" "progress" "LClosedSums$Progress;", Cond.methodLink RX7 137 yX7_requirePlace, Cond.instanceMethod yX7_requirePlace, Cond.selects RX7 yX7_requirePlace yX7_requirePlace, Cond.initialized RX7, Cond.code yX7_requirePlace cX7_requirePlace 2 none, Cond.classLink RX7 159 "java/lang/IndexOutOfBoundsException", Cond.initialized "java/lang/IndexOutOfBoundsException", Cond.methodLink RX7 140 yX7_requireTerm, Cond.instanceMethod yX7_requireTerm, Cond.selects RX7 yX7_requireTerm yX7_requireTerm, Cond.code yX7_requireTerm cX7_requireTerm 2 none, Cond.classLink RX7 172 "java/lang/IllegalStateException", Cond.initialized "java/lang/IllegalStateException", Cond.fieldLink RX7 10 "ClosedSums" "ratioTop" "LClosedSums$Polynomial;", Cond.fieldLink RX7 16 "ClosedSums" "ratioBottom" "LClosedSums$Polynomial;", Cond.methodLink RX7 179 yX5_reaches, Cond.instanceMethod yX5_reaches, Cond.selects RX5 yX5_reaches yX5_reaches, Cond.initialized RX5, Cond.code yX5_reaches cX5_reaches 7 (some .boolean), Cond.fieldLink RX5 15 "ClosedSums$Progress" "reached" "I", Cond.fieldLink RX5 9 "ClosedSums$Progress" "terms" "[I", Cond.methodLink RX5 19 yX4_valueAt]
def wsX7_term_r2 : List Cond := [Cond.instanceMethod yX4_valueAt, Cond.selects RX4 yX4_valueAt yX4_valueAt, Cond.initialized RX4, Cond.code yX4_valueAt cX4_valueAt 4 (some .int), Cond.fieldLink RX4 15 "ClosedSums$Polynomial" "highest" "I", Cond.methodLink RX4 19 yX4_number, Cond.instanceMethod yX4_number, Cond.selects RX4 yX4_number yX4_number, Cond.code yX4_number cX4_number 2 (some .int), Cond.fieldLink RX4 11 "ClosedSums$Polynomial" "numbers" "[I", Cond.static yX7_inverse, Cond.code yX7_inverse cX7_inverse 4 (some .int), Cond.methodLink RX7 143 yX5_termAt, Cond.instanceMethod yX5_termAt, Cond.selects RX5 yX5_termAt yX5_termAt, Cond.code yX5_termAt cX5_termAt 2 (some .int)]
def wsX7_term : List Cond := .code yX7_term cX7_term 2 (some .int) :: ((wsX7_term_r1 ++ wsX7_term_r2) ++ wsX70 ++ wsX50 ++ wsX40 ++ (vx_atS RX7 163 "java/lang/IndexOutOfBoundsException" ["java/lang/RuntimeException", "java/lang/Exception"]).filter goodWord ++ (vx_atS RX7 176 "java/lang/IllegalStateException" ["java/lang/RuntimeException", "java/lang/Exception"]).filter goodWord)
def wsX7_sum_r1 : List Cond := [Cond.fieldLink RX7 50 "ClosedSums" "progress" "LClosedSums$Progress;", Cond.methodLink RX7 137 yX7_requirePlace, Cond.instanceMethod yX7_requirePlace, Cond.selects RX7 yX7_requirePlace yX7_requirePlace, Cond.initialized RX7, Cond.code yX7_requirePlace cX7_requirePlace 2 none, Cond.classLink RX7 159 "java/lang/IndexOutOfBoundsException", Cond.initialized "java/lang/IndexOutOfBoundsException", Cond.methodLink RX7 140 yX7_requireTerm, Cond.instanceMethod yX7_requireTerm, Cond.selects RX7 yX7_requireTerm yX7_requireTerm, Cond.code yX7_requireTerm cX7_requireTerm 2 none, Cond.classLink RX7 172 "java/lang/IllegalStateException", Cond.initialized "java/lang/IllegalStateException", Cond.fieldLink RX7 10 "ClosedSums" "ratioTop" "LClosedSums$Polynomial;", Cond.fieldLink RX7 16 "ClosedSums" "ratioBottom" "LClosedSums$Polynomial;", Cond.methodLink RX7 179 yX5_reaches, Cond.instanceMethod yX5_reaches, Cond.selects RX5 yX5_reaches yX5_reaches, Cond.initialized RX5, Cond.code yX5_reaches cX5_reaches 7 (some .boolean), Cond.fieldLink RX5 15 "ClosedSums$Progress" "reached" "I", Cond.fieldLink RX5 9 "ClosedSums$Progress" "terms" "[I", Cond.methodLink RX5 19 yX4_valueAt]
def wsX7_sum_r2 : List Cond := [Cond.instanceMethod yX4_valueAt, Cond.selects RX4 yX4_valueAt yX4_valueAt, Cond.initialized RX4, Cond.code yX4_valueAt cX4_valueAt 4 (some .int), Cond.fieldLink RX4 15 "ClosedSums$Polynomial" "highest" "I", Cond.methodLink RX4 19 yX4_number, Cond.instanceMethod yX4_number, Cond.selects RX4 yX4_number yX4_number, Cond.code yX4_number cX4_number 2 (some .int), Cond.fieldLink RX4 11 "ClosedSums$Polynomial" "numbers" "[I", Cond.static yX7_inverse, Cond.code yX7_inverse cX7_inverse 4 (some .int), Cond.methodLink RX7 146 yX5_sumBelow, Cond.instanceMethod yX5_sumBelow, Cond.selects RX5 yX5_sumBelow yX5_sumBelow, Cond.code yX5_sumBelow cX5_sumBelow 4 (some .int)]
def wsX7_sum : List Cond := .code yX7_sum cX7_sum 2 (some .int) :: ((wsX7_sum_r1 ++ wsX7_sum_r2) ++ wsX70 ++ wsX50 ++ wsX40 ++ (vx_atS RX7 163 "java/lang/IndexOutOfBoundsException" ["java/lang/RuntimeException", "java/lang/Exception"]).filter goodWord ++ (vx_atS RX7 176 "java/lang/IllegalStateException" ["java/lang/RuntimeException", "java/lang/Exception"]).filter goodWord)
def wsJ9_floorMod_7cf53 : List Cond := .code yJ9_floorMod_7cf53 cJ9_floorMod_7cf53 3 (some .int) :: ([])
def wsX7_shift_r1 : List Cond := [Cond.fieldLink RX7 10 "ClosedSums" "ratioTop" "LClosedSums$Polynomial;", Cond.fieldLink RX7 16 "ClosedSums" "ratioBottom" "LClosedSums$Polynomial;", Cond.methodLink RX7 149 yJ9_floorMod_7cf53, Cond.static yJ9_floorMod_7cf53, Cond.initialized RJ9, Cond.code yJ9_floorMod_7cf53 cJ9_floorMod_7cf53 3 (some .int), Cond.methodLink RX7 152 yX4_moveBy, Cond.instanceMethod yX4_moveBy, Cond.selects RX4 yX4_moveBy yX4_moveBy, Cond.initialized RX4, Cond.code yX4_moveBy cX4_moveBy 4 none, Cond.fieldLink RX4 15 "ClosedSums$Polynomial" "highest" "I", Cond.fieldLink RX4 11 "ClosedSums$Polynomial" "numbers" "[I", Cond.methodLink RX4 37 Lib.Math.min.name, Cond.static Lib.Math.min.name, Cond.initialized "java/lang/Math", Cond.code Lib.Math.min.name Lib.Math.min.code 2 (some .int), Cond.methodLink RX4 19 yX4_number, Cond.instanceMethod yX4_number, Cond.selects RX4 yX4_number yX4_number, Cond.code yX4_number cX4_number 2 (some .int), Cond.methodLink RX7 81 yX7_forget, Cond.instanceMethod yX7_forget, Cond.selects RX7 yX7_forget yX7_forget]
def wsX7_shift_r2 : List Cond := [Cond.initialized RX7, Cond.code yX7_forget cX7_forget 1 none, Cond.fieldLink RX7 29 "ClosedSums" "parts" "LClosedSums$RatioSplit;", Cond.fieldLink RX7 36 "ClosedSums" "equation" "LClosedSums$Equation;", Cond.fieldLink RX7 43 "ClosedSums" "fraction" "LClosedSums$Fraction;", Cond.fieldLink RX7 50 "ClosedSums" "progress" "LClosedSums$Progress;", Cond.methodLink RX7 155 yX6_forget, Cond.instanceMethod yX6_forget, Cond.selects RX6 yX6_forget yX6_forget, Cond.initialized RX6, Cond.code yX6_forget cX6_forget 1 none, Cond.fieldLink RX6 31 "ClosedSums$RatioSplit" "known" "Z", Cond.methodLink RX7 156 yX1_forget, Cond.instanceMethod yX1_forget, Cond.selects RX1 yX1_forget yX1_forget, Cond.initialized RX1, Cond.code yX1_forget cX1_forget 1 none, Cond.fieldLink RX1 42 "ClosedSums$Equation" "known" "Z", Cond.methodLink RX7 157 yX2_forget, Cond.instanceMethod yX2_forget, Cond.selects RX2 yX2_forget yX2_forget, Cond.initialized RX2, Cond.code yX2_forget cX2_forget 1 none, Cond.fieldLink RX2 21 "ClosedSums$Fraction" "known" "Z"]
def wsX7_shift_r3 : List Cond := [Cond.methodLink RX7 158 yX5_forget, Cond.instanceMethod yX5_forget, Cond.selects RX5 yX5_forget yX5_forget, Cond.initialized RX5, Cond.code yX5_forget cX5_forget 1 none, Cond.fieldLink RX5 15 "ClosedSums$Progress" "reached" "I"]
def wsX7_shift : List Cond := .code yX7_shift cX7_shift 3 none :: ((wsX7_shift_r1 ++ (wsX7_shift_r2 ++ wsX7_shift_r3)) ++ wsX70 ++ wsX40 ++ wsX60 ++ wsX10 ++ wsX20 ++ wsX50)
def wsX7_clear_r1 : List Cond := [Cond.fieldLink RX7 10 "ClosedSums" "ratioTop" "LClosedSums$Polynomial;", Cond.fieldLink RX7 16 "ClosedSums" "ratioBottom" "LClosedSums$Polynomial;", Cond.methodLink RX7 54 yX4_becomeNumber, Cond.instanceMethod yX4_becomeNumber, Cond.selects RX4 yX4_becomeNumber yX4_becomeNumber, Cond.initialized RX4, Cond.code yX4_becomeNumber cX4_becomeNumber 3 none, Cond.fieldLink RX4 11 "ClosedSums$Polynomial" "numbers" "[I", Cond.fieldLink RX4 15 "ClosedSums$Polynomial" "highest" "I", Cond.methodLink RX7 81 yX7_forget, Cond.instanceMethod yX7_forget, Cond.selects RX7 yX7_forget yX7_forget, Cond.initialized RX7, Cond.code yX7_forget cX7_forget 1 none, Cond.fieldLink RX7 29 "ClosedSums" "parts" "LClosedSums$RatioSplit;", Cond.fieldLink RX7 36 "ClosedSums" "equation" "LClosedSums$Equation;", Cond.fieldLink RX7 43 "ClosedSums" "fraction" "LClosedSums$Fraction;", Cond.fieldLink RX7 50 "ClosedSums" "progress" "LClosedSums$Progress;", Cond.methodLink RX7 155 yX6_forget, Cond.instanceMethod yX6_forget, Cond.selects RX6 yX6_forget yX6_forget, Cond.initialized RX6, Cond.code yX6_forget cX6_forget 1 none, Cond.fieldLink RX6 31 "ClosedSums$RatioSplit" "known" "Z"]
def wsX7_clear_r2 : List Cond := [Cond.methodLink RX7 156 yX1_forget, Cond.instanceMethod yX1_forget, Cond.selects RX1 yX1_forget yX1_forget, Cond.initialized RX1, Cond.code yX1_forget cX1_forget 1 none, Cond.fieldLink RX1 42 "ClosedSums$Equation" "known" "Z", Cond.methodLink RX7 157 yX2_forget, Cond.instanceMethod yX2_forget, Cond.selects RX2 yX2_forget yX2_forget, Cond.initialized RX2, Cond.code yX2_forget cX2_forget 1 none, Cond.fieldLink RX2 21 "ClosedSums$Fraction" "known" "Z", Cond.methodLink RX7 158 yX5_forget, Cond.instanceMethod yX5_forget, Cond.selects RX5 yX5_forget yX5_forget, Cond.initialized RX5, Cond.code yX5_forget cX5_forget 1 none, Cond.fieldLink RX5 15 "ClosedSums$Progress" "reached" "I"]
def wsX7_clear : List Cond := .code yX7_clear cX7_clear 1 none :: ((wsX7_clear_r1 ++ wsX7_clear_r2) ++ wsX70 ++ wsX40 ++ wsX60 ++ wsX10 ++ wsX20 ++ wsX50)
def wsX8_init : List Cond := .code yX8_init cX8_init 1 none :: ([.methodLink RX8 1 objectInit, .instanceMethod objectInit, .code objectInit ⟨#[0xb1]⟩ 1 none, .arrayClass .long, .fieldLink RX8 7 "ClosedSumsModel" "top" "[J", .fieldLink RX8 13 "ClosedSumsModel" "bottom" "[J", .fieldLink RX8 16 "ClosedSumsModel" "a" "[J", .fieldLink RX8 19 "ClosedSumsModel" "b" "[J", .fieldLink RX8 22 "ClosedSumsModel" "c" "[J", .arrayClass .int, .fieldLink RX8 25 "ClosedSumsModel" "degrees" "[I", .fieldLink RX8 29 "ClosedSumsModel" "answer" "[J", .fieldLink RX8 32 "ClosedSumsModel" "closedTop" "[J", .fieldLink RX8 35 "ClosedSumsModel" "closedBottom" "[J", .fieldLink RX8 38 "ClosedSumsModel" "g" "[J", .fieldLink RX8 41 "ClosedSumsModel" "h" "[J", .fieldLink RX8 44 "ClosedSumsModel" "x" "[J", .fieldLink RX8 47 "ClosedSumsModel" "quotient" "[J", .fieldLink RX8 50 "ClosedSumsModel" "table" "[J", .fieldLink RX8 53 "ClosedSumsModel" "row" "[I", .fieldLink RX8 56 "ClosedSumsModel" "terms" "[J"] ++ wsX80)
def wsX8_thrown : List Cond := .code yX8_thrown cX8_thrown 1 (some .int) :: ([.fieldLink RX8 59 "ClosedSumsModel" "code" "I"] ++ wsX80)
def wsX8_raise : List Cond := .code yX8_raise cX8_raise 2 (some .int) :: ([.fieldLink RX8 59 "ClosedSumsModel" "code" "I"] ++ wsX80)
def wsX8_in : List Cond := .code yX8_in cX8_in 6 (some .boolean) :: ([])
def wsX8_modulo : List Cond := .code yX8_modulo cX8_modulo 4 (some .long) :: ([.constantLong RX8 63 (32003)])
def wsX8_inverse : List Cond := .code yX8_inverse cX8_inverse 7 (some .long) :: ([.constantLong RX8 63 (32003)])
def wsX8_empty : List Cond := .code yX8_empty cX8_empty 2 none :: ([])
def wsX8_copy : List Cond := .code yX8_copy cX8_copy 3 none :: ([])
def wsX8_high : List Cond := .code yX8_high cX8_high 2 (some .int) :: ([])
def wsX8_valueAt : List Cond := .code yX8_valueAt cX8_valueAt 6 (some .long) :: ([.constantLong RX8 63 (32003)])
def wsX8_move : List Cond := .code yX8_move cX8_move 6 none :: ([.constantLong RX8 63 (32003), .methodLink RX8 65 yX8_high, .static yX8_high, .initialized RX8, .code yX8_high cX8_high 2 (some .int)])
def wsX8_multiply : List Cond := .code yX8_multiply cX8_multiply 6 none :: ([.fieldLink RX8 44 "ClosedSumsModel" "x" "[J", .constantLong RX8 63 (32003), .methodLink RX8 69 yX8_empty, .static yX8_empty, .initialized RX8, .code yX8_empty cX8_empty 2 none, .methodLink RX8 65 yX8_high, .static yX8_high, .code yX8_high cX8_high 2 (some .int)] ++ wsX80)
def wsX8_divide : List Cond := .code yX8_divide cX8_divide 10 none :: ([.fieldLink RX8 47 "ClosedSumsModel" "quotient" "[J", .constantLong RX8 63 (32003), .methodLink RX8 65 yX8_high, .static yX8_high, .initialized RX8, .code yX8_high cX8_high 2 (some .int), .methodLink RX8 73 yX8_inverse, .static yX8_inverse, .code yX8_inverse cX8_inverse 7 (some .long), .methodLink RX8 69 yX8_empty, .static yX8_empty, .code yX8_empty cX8_empty 2 none, .methodLink RX8 77 yX8_modulo, .static yX8_modulo, .code yX8_modulo cX8_modulo 4 (some .long)] ++ wsX80)
def wsX8_common : List Cond := .code yX8_common cX8_common 5 none :: ([.fieldLink RX8 41 "ClosedSumsModel" "h" "[J", .fieldLink RX8 38 "ClosedSumsModel" "g" "[J", .constantLong RX8 63 (32003), .methodLink RX8 65 yX8_high, .static yX8_high, .initialized RX8, .code yX8_high cX8_high 2 (some .int), .methodLink RX8 80 yX8_divide, .instanceMethod yX8_divide, .selects RX8 yX8_divide yX8_divide, .code yX8_divide cX8_divide 10 none, .fieldLink RX8 47 "ClosedSumsModel" "quotient" "[J", .methodLink RX8 73 yX8_inverse, .static yX8_inverse, .code yX8_inverse cX8_inverse 7 (some .long), .methodLink RX8 69 yX8_empty, .static yX8_empty, .code yX8_empty cX8_empty 2 none, .methodLink RX8 77 yX8_modulo, .static yX8_modulo, .code yX8_modulo cX8_modulo 4 (some .long)] ++ wsX80)
def wsX8_isPower : List Cond := .code yX8_isPower cX8_isPower 2 (some .boolean) :: ([.constantLong RX8 84 (4), .fieldLink RX8 59 "ClosedSumsModel" "code" "I", .methodLink RX8 86 yX8_in, .static yX8_in, .initialized RX8, .code yX8_in cX8_in 6 (some .boolean)] ++ wsX80)
def wsX8_put : List Cond := .code yX8_put cX8_put 7 (some .boolean) :: ([.fieldLink RX8 7 "ClosedSumsModel" "top" "[J", .fieldLink RX8 13 "ClosedSumsModel" "bottom" "[J", .methodLink RX8 90 yX8_isPower, .instanceMethod yX8_isPower, .selects RX8 yX8_isPower yX8_isPower, .initialized RX8, .code yX8_isPower cX8_isPower 2 (some .boolean), .constantLong RX8 84 (4), .fieldLink RX8 59 "ClosedSumsModel" "code" "I", .methodLink RX8 86 yX8_in, .static yX8_in, .code yX8_in cX8_in 6 (some .boolean), .methodLink RX8 77 yX8_modulo, .static yX8_modulo, .code yX8_modulo cX8_modulo 4 (some .long), .constantLong RX8 63 (32003)] ++ wsX80)
def wsX8_at : List Cond := .code yX8_at cX8_at 3 (some .int) :: ([.fieldLink RX8 7 "ClosedSumsModel" "top" "[J", .fieldLink RX8 13 "ClosedSumsModel" "bottom" "[J", .methodLink RX8 90 yX8_isPower, .instanceMethod yX8_isPower, .selects RX8 yX8_isPower yX8_isPower, .initialized RX8, .code yX8_isPower cX8_isPower 2 (some .boolean), .constantLong RX8 84 (4), .fieldLink RX8 59 "ClosedSumsModel" "code" "I", .methodLink RX8 86 yX8_in, .static yX8_in, .code yX8_in cX8_in 6 (some .boolean)] ++ wsX80)
def wsX8_shift : List Cond := .code yX8_shift cX8_shift 2 none :: ([.fieldLink RX8 59 "ClosedSumsModel" "code" "I", .fieldLink RX8 7 "ClosedSumsModel" "top" "[J", .fieldLink RX8 13 "ClosedSumsModel" "bottom" "[J", .methodLink RX8 77 yX8_modulo, .static yX8_modulo, .initialized RX8, .code yX8_modulo cX8_modulo 4 (some .long), .constantLong RX8 63 (32003), .methodLink RX8 94 yX8_move, .static yX8_move, .code yX8_move cX8_move 6 none, .methodLink RX8 65 yX8_high, .static yX8_high, .code yX8_high cX8_high 2 (some .int)] ++ wsX80)
def wsX8_clear : List Cond := .code yX8_clear cX8_clear 1 none :: ([.fieldLink RX8 59 "ClosedSumsModel" "code" "I", .fieldLink RX8 7 "ClosedSumsModel" "top" "[J", .fieldLink RX8 13 "ClosedSumsModel" "bottom" "[J", .methodLink RX8 69 yX8_empty, .static yX8_empty, .initialized RX8, .code yX8_empty cX8_empty 2 none] ++ wsX80)
def wsX8_isNone : List Cond := .code yX8_isNone cX8_isNone 1 (some .boolean) :: ([.fieldLink RX8 7 "ClosedSumsModel" "top" "[J", .fieldLink RX8 13 "ClosedSumsModel" "bottom" "[J", .methodLink RX8 65 yX8_high, .static yX8_high, .initialized RX8, .code yX8_high cX8_high 2 (some .int)] ++ wsX80)
def wsX8_findSplit_r1 : List Cond := [Cond.fieldLink RX8 16 "ClosedSumsModel" "a" "[J", Cond.fieldLink RX8 7 "ClosedSumsModel" "top" "[J", Cond.fieldLink RX8 19 "ClosedSumsModel" "b" "[J", Cond.fieldLink RX8 13 "ClosedSumsModel" "bottom" "[J", Cond.fieldLink RX8 22 "ClosedSumsModel" "c" "[J", Cond.fieldLink RX8 38 "ClosedSumsModel" "g" "[J", Cond.fieldLink RX8 41 "ClosedSumsModel" "h" "[J", Cond.fieldLink RX8 25 "ClosedSumsModel" "degrees" "[I", Cond.fieldLink RX8 47 "ClosedSumsModel" "quotient" "[J", Cond.constantLong RX8 104 (32002), Cond.fieldLink RX8 44 "ClosedSumsModel" "x" "[J", Cond.methodLink RX8 98 yX8_copy, Cond.static yX8_copy, Cond.initialized RX8, Cond.code yX8_copy cX8_copy 3 none, Cond.methodLink RX8 69 yX8_empty, Cond.static yX8_empty, Cond.code yX8_empty cX8_empty 2 none, Cond.methodLink RX8 94 yX8_move, Cond.static yX8_move, Cond.code yX8_move cX8_move 6 none, Cond.constantLong RX8 63 (32003), Cond.methodLink RX8 65 yX8_high, Cond.static yX8_high]
def wsX8_findSplit_r2 : List Cond := [Cond.code yX8_high cX8_high 2 (some .int), Cond.methodLink RX8 101 yX8_common, Cond.instanceMethod yX8_common, Cond.selects RX8 yX8_common yX8_common, Cond.code yX8_common cX8_common 5 none, Cond.methodLink RX8 80 yX8_divide, Cond.instanceMethod yX8_divide, Cond.selects RX8 yX8_divide yX8_divide, Cond.code yX8_divide cX8_divide 10 none, Cond.methodLink RX8 73 yX8_inverse, Cond.static yX8_inverse, Cond.code yX8_inverse cX8_inverse 7 (some .long), Cond.methodLink RX8 77 yX8_modulo, Cond.static yX8_modulo, Cond.code yX8_modulo cX8_modulo 4 (some .long), Cond.methodLink RX8 106 yX8_multiply, Cond.instanceMethod yX8_multiply, Cond.selects RX8 yX8_multiply yX8_multiply, Cond.code yX8_multiply cX8_multiply 6 none]
def wsX8_findSplit : List Cond := .code yX8_findSplit cX8_findSplit 3 none :: ((wsX8_findSplit_r1 ++ wsX8_findSplit_r2) ++ wsX80)
def wsX8_found_r1 : List Cond := [Cond.constantLong RX8 113 (8), Cond.fieldLink RX8 59 "ClosedSumsModel" "code" "I", Cond.fieldLink RX8 25 "ClosedSumsModel" "degrees" "[I", Cond.methodLink RX8 109 yX8_isNone, Cond.instanceMethod yX8_isNone, Cond.selects RX8 yX8_isNone yX8_isNone, Cond.initialized RX8, Cond.code yX8_isNone cX8_isNone 1 (some .boolean), Cond.fieldLink RX8 7 "ClosedSumsModel" "top" "[J", Cond.fieldLink RX8 13 "ClosedSumsModel" "bottom" "[J", Cond.methodLink RX8 65 yX8_high, Cond.static yX8_high, Cond.code yX8_high cX8_high 2 (some .int), Cond.methodLink RX8 86 yX8_in, Cond.static yX8_in, Cond.code yX8_in cX8_in 6 (some .boolean), Cond.methodLink RX8 115 yX8_findSplit, Cond.instanceMethod yX8_findSplit, Cond.selects RX8 yX8_findSplit yX8_findSplit, Cond.code yX8_findSplit cX8_findSplit 3 none, Cond.fieldLink RX8 16 "ClosedSumsModel" "a" "[J", Cond.fieldLink RX8 19 "ClosedSumsModel" "b" "[J", Cond.fieldLink RX8 22 "ClosedSumsModel" "c" "[J", Cond.fieldLink RX8 38 "ClosedSumsModel" "g" "[J"]
def wsX8_found_r2 : List Cond := [Cond.fieldLink RX8 41 "ClosedSumsModel" "h" "[J", Cond.fieldLink RX8 47 "ClosedSumsModel" "quotient" "[J", Cond.constantLong RX8 104 (32002), Cond.fieldLink RX8 44 "ClosedSumsModel" "x" "[J", Cond.methodLink RX8 98 yX8_copy, Cond.static yX8_copy, Cond.code yX8_copy cX8_copy 3 none, Cond.methodLink RX8 69 yX8_empty, Cond.static yX8_empty, Cond.code yX8_empty cX8_empty 2 none, Cond.methodLink RX8 94 yX8_move, Cond.static yX8_move, Cond.code yX8_move cX8_move 6 none, Cond.constantLong RX8 63 (32003), Cond.methodLink RX8 101 yX8_common, Cond.instanceMethod yX8_common, Cond.selects RX8 yX8_common yX8_common, Cond.code yX8_common cX8_common 5 none, Cond.methodLink RX8 80 yX8_divide, Cond.instanceMethod yX8_divide, Cond.selects RX8 yX8_divide yX8_divide, Cond.code yX8_divide cX8_divide 10 none, Cond.methodLink RX8 73 yX8_inverse, Cond.static yX8_inverse]
def wsX8_found_r3 : List Cond := [Cond.code yX8_inverse cX8_inverse 7 (some .long), Cond.methodLink RX8 77 yX8_modulo, Cond.static yX8_modulo, Cond.code yX8_modulo cX8_modulo 4 (some .long), Cond.methodLink RX8 106 yX8_multiply, Cond.instanceMethod yX8_multiply, Cond.selects RX8 yX8_multiply yX8_multiply, Cond.code yX8_multiply cX8_multiply 6 none]
def wsX8_found : List Cond := .code yX8_found cX8_found 2 (some .int) :: ((wsX8_found_r1 ++ (wsX8_found_r2 ++ wsX8_found_r3)) ++ wsX80)
def wsX8_takes_r1 : List Cond := [Cond.constantLong RX8 118 (2), Cond.fieldLink RX8 59 "ClosedSumsModel" "code" "I", Cond.fieldLink RX8 44 "ClosedSumsModel" "x" "[J", Cond.fieldLink RX8 16 "ClosedSumsModel" "a" "[J", Cond.fieldLink RX8 19 "ClosedSumsModel" "b" "[J", Cond.fieldLink RX8 22 "ClosedSumsModel" "c" "[J", Cond.methodLink RX8 109 yX8_isNone, Cond.instanceMethod yX8_isNone, Cond.selects RX8 yX8_isNone yX8_isNone, Cond.initialized RX8, Cond.code yX8_isNone cX8_isNone 1 (some .boolean), Cond.fieldLink RX8 7 "ClosedSumsModel" "top" "[J", Cond.fieldLink RX8 13 "ClosedSumsModel" "bottom" "[J", Cond.methodLink RX8 65 yX8_high, Cond.static yX8_high, Cond.code yX8_high cX8_high 2 (some .int), Cond.methodLink RX8 86 yX8_in, Cond.static yX8_in, Cond.code yX8_in cX8_in 6 (some .boolean), Cond.methodLink RX8 115 yX8_findSplit, Cond.instanceMethod yX8_findSplit, Cond.selects RX8 yX8_findSplit yX8_findSplit, Cond.code yX8_findSplit cX8_findSplit 3 none, Cond.fieldLink RX8 38 "ClosedSumsModel" "g" "[J"]
def wsX8_takes_r2 : List Cond := [Cond.fieldLink RX8 41 "ClosedSumsModel" "h" "[J", Cond.fieldLink RX8 25 "ClosedSumsModel" "degrees" "[I", Cond.fieldLink RX8 47 "ClosedSumsModel" "quotient" "[J", Cond.constantLong RX8 104 (32002), Cond.methodLink RX8 98 yX8_copy, Cond.static yX8_copy, Cond.code yX8_copy cX8_copy 3 none, Cond.methodLink RX8 69 yX8_empty, Cond.static yX8_empty, Cond.code yX8_empty cX8_empty 2 none, Cond.methodLink RX8 94 yX8_move, Cond.static yX8_move, Cond.code yX8_move cX8_move 6 none, Cond.constantLong RX8 63 (32003), Cond.methodLink RX8 101 yX8_common, Cond.instanceMethod yX8_common, Cond.selects RX8 yX8_common yX8_common, Cond.code yX8_common cX8_common 5 none, Cond.methodLink RX8 80 yX8_divide, Cond.instanceMethod yX8_divide, Cond.selects RX8 yX8_divide yX8_divide, Cond.code yX8_divide cX8_divide 10 none, Cond.methodLink RX8 73 yX8_inverse, Cond.static yX8_inverse]
def wsX8_takes_r3 : List Cond := [Cond.code yX8_inverse cX8_inverse 7 (some .long), Cond.methodLink RX8 77 yX8_modulo, Cond.static yX8_modulo, Cond.code yX8_modulo cX8_modulo 4 (some .long), Cond.methodLink RX8 106 yX8_multiply, Cond.instanceMethod yX8_multiply, Cond.selects RX8 yX8_multiply yX8_multiply, Cond.code yX8_multiply cX8_multiply 6 none]
def wsX8_takes : List Cond := .code yX8_takes cX8_takes 2 (some .boolean) :: ((wsX8_takes_r1 ++ (wsX8_takes_r2 ++ wsX8_takes_r3)) ++ wsX80)
def wsX8_degree_r1 : List Cond := [Cond.fieldLink RX8 44 "ClosedSumsModel" "x" "[J", Cond.methodLink RX8 120 yX8_takes, Cond.instanceMethod yX8_takes, Cond.selects RX8 yX8_takes yX8_takes, Cond.initialized RX8, Cond.code yX8_takes cX8_takes 2 (some .boolean), Cond.constantLong RX8 118 (2), Cond.fieldLink RX8 59 "ClosedSumsModel" "code" "I", Cond.fieldLink RX8 16 "ClosedSumsModel" "a" "[J", Cond.fieldLink RX8 19 "ClosedSumsModel" "b" "[J", Cond.fieldLink RX8 22 "ClosedSumsModel" "c" "[J", Cond.methodLink RX8 109 yX8_isNone, Cond.instanceMethod yX8_isNone, Cond.selects RX8 yX8_isNone yX8_isNone, Cond.code yX8_isNone cX8_isNone 1 (some .boolean), Cond.fieldLink RX8 7 "ClosedSumsModel" "top" "[J", Cond.fieldLink RX8 13 "ClosedSumsModel" "bottom" "[J", Cond.methodLink RX8 65 yX8_high, Cond.static yX8_high, Cond.code yX8_high cX8_high 2 (some .int), Cond.methodLink RX8 86 yX8_in, Cond.static yX8_in, Cond.code yX8_in cX8_in 6 (some .boolean), Cond.methodLink RX8 115 yX8_findSplit]
def wsX8_degree_r2 : List Cond := [Cond.instanceMethod yX8_findSplit, Cond.selects RX8 yX8_findSplit yX8_findSplit, Cond.code yX8_findSplit cX8_findSplit 3 none, Cond.fieldLink RX8 38 "ClosedSumsModel" "g" "[J", Cond.fieldLink RX8 41 "ClosedSumsModel" "h" "[J", Cond.fieldLink RX8 25 "ClosedSumsModel" "degrees" "[I", Cond.fieldLink RX8 47 "ClosedSumsModel" "quotient" "[J", Cond.constantLong RX8 104 (32002), Cond.methodLink RX8 98 yX8_copy, Cond.static yX8_copy, Cond.code yX8_copy cX8_copy 3 none, Cond.methodLink RX8 69 yX8_empty, Cond.static yX8_empty, Cond.code yX8_empty cX8_empty 2 none, Cond.methodLink RX8 94 yX8_move, Cond.static yX8_move, Cond.code yX8_move cX8_move 6 none, Cond.constantLong RX8 63 (32003), Cond.methodLink RX8 101 yX8_common, Cond.instanceMethod yX8_common, Cond.selects RX8 yX8_common yX8_common, Cond.code yX8_common cX8_common 5 none, Cond.methodLink RX8 80 yX8_divide, Cond.instanceMethod yX8_divide]
def wsX8_degree_r3 : List Cond := [Cond.selects RX8 yX8_divide yX8_divide, Cond.code yX8_divide cX8_divide 10 none, Cond.methodLink RX8 73 yX8_inverse, Cond.static yX8_inverse, Cond.code yX8_inverse cX8_inverse 7 (some .long), Cond.methodLink RX8 77 yX8_modulo, Cond.static yX8_modulo, Cond.code yX8_modulo cX8_modulo 4 (some .long), Cond.methodLink RX8 106 yX8_multiply, Cond.instanceMethod yX8_multiply, Cond.selects RX8 yX8_multiply yX8_multiply, Cond.code yX8_multiply cX8_multiply 6 none]
def wsX8_degree : List Cond := .code yX8_degree cX8_degree 2 (some .int) :: ((wsX8_degree_r1 ++ (wsX8_degree_r2 ++ wsX8_degree_r3)) ++ wsX80)
def wsX8_split_r1 : List Cond := [Cond.constantLong RX8 123 (63), Cond.fieldLink RX8 44 "ClosedSumsModel" "x" "[J", Cond.methodLink RX8 120 yX8_takes, Cond.instanceMethod yX8_takes, Cond.selects RX8 yX8_takes yX8_takes, Cond.initialized RX8, Cond.code yX8_takes cX8_takes 2 (some .boolean), Cond.constantLong RX8 118 (2), Cond.fieldLink RX8 59 "ClosedSumsModel" "code" "I", Cond.fieldLink RX8 16 "ClosedSumsModel" "a" "[J", Cond.fieldLink RX8 19 "ClosedSumsModel" "b" "[J", Cond.fieldLink RX8 22 "ClosedSumsModel" "c" "[J", Cond.methodLink RX8 109 yX8_isNone, Cond.instanceMethod yX8_isNone, Cond.selects RX8 yX8_isNone yX8_isNone, Cond.code yX8_isNone cX8_isNone 1 (some .boolean), Cond.fieldLink RX8 7 "ClosedSumsModel" "top" "[J", Cond.fieldLink RX8 13 "ClosedSumsModel" "bottom" "[J", Cond.methodLink RX8 65 yX8_high, Cond.static yX8_high, Cond.code yX8_high cX8_high 2 (some .int), Cond.methodLink RX8 86 yX8_in, Cond.static yX8_in, Cond.code yX8_in cX8_in 6 (some .boolean)]
def wsX8_split_r2 : List Cond := [Cond.methodLink RX8 115 yX8_findSplit, Cond.instanceMethod yX8_findSplit, Cond.selects RX8 yX8_findSplit yX8_findSplit, Cond.code yX8_findSplit cX8_findSplit 3 none, Cond.fieldLink RX8 38 "ClosedSumsModel" "g" "[J", Cond.fieldLink RX8 41 "ClosedSumsModel" "h" "[J", Cond.fieldLink RX8 25 "ClosedSumsModel" "degrees" "[I", Cond.fieldLink RX8 47 "ClosedSumsModel" "quotient" "[J", Cond.constantLong RX8 104 (32002), Cond.methodLink RX8 98 yX8_copy, Cond.static yX8_copy, Cond.code yX8_copy cX8_copy 3 none, Cond.methodLink RX8 69 yX8_empty, Cond.static yX8_empty, Cond.code yX8_empty cX8_empty 2 none, Cond.methodLink RX8 94 yX8_move, Cond.static yX8_move, Cond.code yX8_move cX8_move 6 none, Cond.constantLong RX8 63 (32003), Cond.methodLink RX8 101 yX8_common, Cond.instanceMethod yX8_common, Cond.selects RX8 yX8_common yX8_common, Cond.code yX8_common cX8_common 5 none, Cond.methodLink RX8 80 yX8_divide]
def wsX8_split_r3 : List Cond := [Cond.instanceMethod yX8_divide, Cond.selects RX8 yX8_divide yX8_divide, Cond.code yX8_divide cX8_divide 10 none, Cond.methodLink RX8 73 yX8_inverse, Cond.static yX8_inverse, Cond.code yX8_inverse cX8_inverse 7 (some .long), Cond.methodLink RX8 77 yX8_modulo, Cond.static yX8_modulo, Cond.code yX8_modulo cX8_modulo 4 (some .long), Cond.methodLink RX8 106 yX8_multiply, Cond.instanceMethod yX8_multiply, Cond.selects RX8 yX8_multiply yX8_multiply, Cond.code yX8_multiply cX8_multiply 6 none]
def wsX8_split : List Cond := .code yX8_split cX8_split 3 (some .int) :: ((wsX8_split_r1 ++ (wsX8_split_r2 ++ wsX8_split_r3)) ++ wsX80)
def wsX8_fill_r1 : List Cond := [Cond.fieldLink RX8 41 "ClosedSumsModel" "h" "[J", Cond.fieldLink RX8 19 "ClosedSumsModel" "b" "[J", Cond.constantLong RX8 104 (32002), Cond.fieldLink RX8 38 "ClosedSumsModel" "g" "[J", Cond.fieldLink RX8 50 "ClosedSumsModel" "table" "[J", Cond.constantLong RX8 63 (32003), Cond.fieldLink RX8 44 "ClosedSumsModel" "x" "[J", Cond.fieldLink RX8 16 "ClosedSumsModel" "a" "[J", Cond.fieldLink RX8 22 "ClosedSumsModel" "c" "[J", Cond.methodLink RX8 98 yX8_copy, Cond.static yX8_copy, Cond.initialized RX8, Cond.code yX8_copy cX8_copy 3 none, Cond.methodLink RX8 94 yX8_move, Cond.static yX8_move, Cond.code yX8_move cX8_move 6 none, Cond.methodLink RX8 65 yX8_high, Cond.static yX8_high, Cond.code yX8_high cX8_high 2 (some .int), Cond.methodLink RX8 69 yX8_empty, Cond.static yX8_empty, Cond.code yX8_empty cX8_empty 2 none, Cond.methodLink RX8 106 yX8_multiply, Cond.instanceMethod yX8_multiply]
def wsX8_fill_r2 : List Cond := [Cond.selects RX8 yX8_multiply yX8_multiply, Cond.code yX8_multiply cX8_multiply 6 none]
def wsX8_fill : List Cond := .code yX8_fill cX8_fill 3 none :: ((wsX8_fill_r1 ++ wsX8_fill_r2) ++ wsX80)
def wsX8_bringOut : List Cond := .code yX8_bringOut cX8_bringOut 10 none :: ([.fieldLink RX8 50 "ClosedSumsModel" "table" "[J", .constantLong RX8 63 (32003), .methodLink RX8 73 yX8_inverse, .static yX8_inverse, .initialized RX8, .code yX8_inverse cX8_inverse 7 (some .long), .methodLink RX8 77 yX8_modulo, .static yX8_modulo, .code yX8_modulo cX8_modulo 4 (some .long)] ++ wsX80)
def wsX8_solve_r1 : List Cond := [Cond.fieldLink RX8 50 "ClosedSumsModel" "table" "[J", Cond.fieldLink RX8 53 "ClosedSumsModel" "row" "[I", Cond.fieldLink RX8 29 "ClosedSumsModel" "answer" "[J", Cond.methodLink RX8 115 yX8_findSplit, Cond.instanceMethod yX8_findSplit, Cond.selects RX8 yX8_findSplit yX8_findSplit, Cond.initialized RX8, Cond.code yX8_findSplit cX8_findSplit 3 none, Cond.fieldLink RX8 16 "ClosedSumsModel" "a" "[J", Cond.fieldLink RX8 7 "ClosedSumsModel" "top" "[J", Cond.fieldLink RX8 19 "ClosedSumsModel" "b" "[J", Cond.fieldLink RX8 13 "ClosedSumsModel" "bottom" "[J", Cond.fieldLink RX8 22 "ClosedSumsModel" "c" "[J", Cond.fieldLink RX8 38 "ClosedSumsModel" "g" "[J", Cond.fieldLink RX8 41 "ClosedSumsModel" "h" "[J", Cond.fieldLink RX8 25 "ClosedSumsModel" "degrees" "[I", Cond.fieldLink RX8 47 "ClosedSumsModel" "quotient" "[J", Cond.constantLong RX8 104 (32002), Cond.fieldLink RX8 44 "ClosedSumsModel" "x" "[J", Cond.methodLink RX8 98 yX8_copy, Cond.static yX8_copy, Cond.code yX8_copy cX8_copy 3 none, Cond.methodLink RX8 69 yX8_empty, Cond.static yX8_empty]
def wsX8_solve_r2 : List Cond := [Cond.code yX8_empty cX8_empty 2 none, Cond.methodLink RX8 94 yX8_move, Cond.static yX8_move, Cond.code yX8_move cX8_move 6 none, Cond.constantLong RX8 63 (32003), Cond.methodLink RX8 65 yX8_high, Cond.static yX8_high, Cond.code yX8_high cX8_high 2 (some .int), Cond.methodLink RX8 101 yX8_common, Cond.instanceMethod yX8_common, Cond.selects RX8 yX8_common yX8_common, Cond.code yX8_common cX8_common 5 none, Cond.methodLink RX8 80 yX8_divide, Cond.instanceMethod yX8_divide, Cond.selects RX8 yX8_divide yX8_divide, Cond.code yX8_divide cX8_divide 10 none, Cond.methodLink RX8 73 yX8_inverse, Cond.static yX8_inverse, Cond.code yX8_inverse cX8_inverse 7 (some .long), Cond.methodLink RX8 77 yX8_modulo, Cond.static yX8_modulo, Cond.code yX8_modulo cX8_modulo 4 (some .long), Cond.methodLink RX8 106 yX8_multiply, Cond.instanceMethod yX8_multiply]
def wsX8_solve_r3 : List Cond := [Cond.selects RX8 yX8_multiply yX8_multiply, Cond.code yX8_multiply cX8_multiply 6 none, Cond.methodLink RX8 125 yX8_fill, Cond.instanceMethod yX8_fill, Cond.selects RX8 yX8_fill yX8_fill, Cond.code yX8_fill cX8_fill 3 none, Cond.methodLink RX8 128 yX8_bringOut, Cond.instanceMethod yX8_bringOut, Cond.selects RX8 yX8_bringOut yX8_bringOut, Cond.code yX8_bringOut cX8_bringOut 10 none]
def wsX8_solve : List Cond := .code yX8_solve cX8_solve 6 (some .int) :: ((wsX8_solve_r1 ++ (wsX8_solve_r2 ++ wsX8_solve_r3)) ++ wsX80)
def wsX8_run_r1 : List Cond := [Cond.fieldLink RX8 59 "ClosedSumsModel" "code" "I", Cond.methodLink RX8 109 yX8_isNone, Cond.instanceMethod yX8_isNone, Cond.selects RX8 yX8_isNone yX8_isNone, Cond.initialized RX8, Cond.code yX8_isNone cX8_isNone 1 (some .boolean), Cond.fieldLink RX8 7 "ClosedSumsModel" "top" "[J", Cond.fieldLink RX8 13 "ClosedSumsModel" "bottom" "[J", Cond.methodLink RX8 65 yX8_high, Cond.static yX8_high, Cond.code yX8_high cX8_high 2 (some .int), Cond.methodLink RX8 132 yX8_solve, Cond.instanceMethod yX8_solve, Cond.selects RX8 yX8_solve yX8_solve, Cond.code yX8_solve cX8_solve 6 (some .int), Cond.fieldLink RX8 50 "ClosedSumsModel" "table" "[J", Cond.fieldLink RX8 53 "ClosedSumsModel" "row" "[I", Cond.fieldLink RX8 29 "ClosedSumsModel" "answer" "[J", Cond.methodLink RX8 115 yX8_findSplit, Cond.instanceMethod yX8_findSplit, Cond.selects RX8 yX8_findSplit yX8_findSplit, Cond.code yX8_findSplit cX8_findSplit 3 none, Cond.fieldLink RX8 16 "ClosedSumsModel" "a" "[J", Cond.fieldLink RX8 19 "ClosedSumsModel" "b" "[J"]
def wsX8_run_r2 : List Cond := [Cond.fieldLink RX8 22 "ClosedSumsModel" "c" "[J", Cond.fieldLink RX8 38 "ClosedSumsModel" "g" "[J", Cond.fieldLink RX8 41 "ClosedSumsModel" "h" "[J", Cond.fieldLink RX8 25 "ClosedSumsModel" "degrees" "[I", Cond.fieldLink RX8 47 "ClosedSumsModel" "quotient" "[J", Cond.constantLong RX8 104 (32002), Cond.fieldLink RX8 44 "ClosedSumsModel" "x" "[J", Cond.methodLink RX8 98 yX8_copy, Cond.static yX8_copy, Cond.code yX8_copy cX8_copy 3 none, Cond.methodLink RX8 69 yX8_empty, Cond.static yX8_empty, Cond.code yX8_empty cX8_empty 2 none, Cond.methodLink RX8 94 yX8_move, Cond.static yX8_move, Cond.code yX8_move cX8_move 6 none, Cond.constantLong RX8 63 (32003), Cond.methodLink RX8 101 yX8_common, Cond.instanceMethod yX8_common, Cond.selects RX8 yX8_common yX8_common, Cond.code yX8_common cX8_common 5 none, Cond.methodLink RX8 80 yX8_divide, Cond.instanceMethod yX8_divide, Cond.selects RX8 yX8_divide yX8_divide]
def wsX8_run_r3 : List Cond := [Cond.code yX8_divide cX8_divide 10 none, Cond.methodLink RX8 73 yX8_inverse, Cond.static yX8_inverse, Cond.code yX8_inverse cX8_inverse 7 (some .long), Cond.methodLink RX8 77 yX8_modulo, Cond.static yX8_modulo, Cond.code yX8_modulo cX8_modulo 4 (some .long), Cond.methodLink RX8 106 yX8_multiply, Cond.instanceMethod yX8_multiply, Cond.selects RX8 yX8_multiply yX8_multiply, Cond.code yX8_multiply cX8_multiply 6 none, Cond.methodLink RX8 125 yX8_fill, Cond.instanceMethod yX8_fill, Cond.selects RX8 yX8_fill yX8_fill, Cond.code yX8_fill cX8_fill 3 none, Cond.methodLink RX8 128 yX8_bringOut, Cond.instanceMethod yX8_bringOut, Cond.selects RX8 yX8_bringOut yX8_bringOut, Cond.code yX8_bringOut cX8_bringOut 10 none]
def wsX8_run : List Cond := .code yX8_run cX8_run 1 (some .int) :: ((wsX8_run_r1 ++ (wsX8_run_r2 ++ wsX8_run_r3)) ++ wsX80)
def wsX8_isAnswered_r1 : List Cond := [Cond.fieldLink RX8 59 "ClosedSumsModel" "code" "I", Cond.fieldLink RX8 136 "ClosedSumsModel" "least" "I", Cond.methodLink RX8 109 yX8_isNone, Cond.instanceMethod yX8_isNone, Cond.selects RX8 yX8_isNone yX8_isNone, Cond.initialized RX8, Cond.code yX8_isNone cX8_isNone 1 (some .boolean), Cond.fieldLink RX8 7 "ClosedSumsModel" "top" "[J", Cond.fieldLink RX8 13 "ClosedSumsModel" "bottom" "[J", Cond.methodLink RX8 65 yX8_high, Cond.static yX8_high, Cond.code yX8_high cX8_high 2 (some .int), Cond.methodLink RX8 132 yX8_solve, Cond.instanceMethod yX8_solve, Cond.selects RX8 yX8_solve yX8_solve, Cond.code yX8_solve cX8_solve 6 (some .int), Cond.fieldLink RX8 50 "ClosedSumsModel" "table" "[J", Cond.fieldLink RX8 53 "ClosedSumsModel" "row" "[I", Cond.fieldLink RX8 29 "ClosedSumsModel" "answer" "[J", Cond.methodLink RX8 115 yX8_findSplit, Cond.instanceMethod yX8_findSplit, Cond.selects RX8 yX8_findSplit yX8_findSplit, Cond.code yX8_findSplit cX8_findSplit 3 none, Cond.fieldLink RX8 16 "ClosedSumsModel" "a" "[J"]
def wsX8_isAnswered_r2 : List Cond := [Cond.fieldLink RX8 19 "ClosedSumsModel" "b" "[J", Cond.fieldLink RX8 22 "ClosedSumsModel" "c" "[J", Cond.fieldLink RX8 38 "ClosedSumsModel" "g" "[J", Cond.fieldLink RX8 41 "ClosedSumsModel" "h" "[J", Cond.fieldLink RX8 25 "ClosedSumsModel" "degrees" "[I", Cond.fieldLink RX8 47 "ClosedSumsModel" "quotient" "[J", Cond.constantLong RX8 104 (32002), Cond.fieldLink RX8 44 "ClosedSumsModel" "x" "[J", Cond.methodLink RX8 98 yX8_copy, Cond.static yX8_copy, Cond.code yX8_copy cX8_copy 3 none, Cond.methodLink RX8 69 yX8_empty, Cond.static yX8_empty, Cond.code yX8_empty cX8_empty 2 none, Cond.methodLink RX8 94 yX8_move, Cond.static yX8_move, Cond.code yX8_move cX8_move 6 none, Cond.constantLong RX8 63 (32003), Cond.methodLink RX8 101 yX8_common, Cond.instanceMethod yX8_common, Cond.selects RX8 yX8_common yX8_common, Cond.code yX8_common cX8_common 5 none, Cond.methodLink RX8 80 yX8_divide, Cond.instanceMethod yX8_divide]
def wsX8_isAnswered_r3 : List Cond := [Cond.selects RX8 yX8_divide yX8_divide, Cond.code yX8_divide cX8_divide 10 none, Cond.methodLink RX8 73 yX8_inverse, Cond.static yX8_inverse, Cond.code yX8_inverse cX8_inverse 7 (some .long), Cond.methodLink RX8 77 yX8_modulo, Cond.static yX8_modulo, Cond.code yX8_modulo cX8_modulo 4 (some .long), Cond.methodLink RX8 106 yX8_multiply, Cond.instanceMethod yX8_multiply, Cond.selects RX8 yX8_multiply yX8_multiply, Cond.code yX8_multiply cX8_multiply 6 none, Cond.methodLink RX8 125 yX8_fill, Cond.instanceMethod yX8_fill, Cond.selects RX8 yX8_fill yX8_fill, Cond.code yX8_fill cX8_fill 3 none, Cond.methodLink RX8 128 yX8_bringOut, Cond.instanceMethod yX8_bringOut, Cond.selects RX8 yX8_bringOut yX8_bringOut, Cond.code yX8_bringOut cX8_bringOut 10 none]
def wsX8_isAnswered : List Cond := .code yX8_isAnswered cX8_isAnswered 1 (some .boolean) :: ((wsX8_isAnswered_r1 ++ (wsX8_isAnswered_r2 ++ wsX8_isAnswered_r3)) ++ wsX80)
def wsX8_answer_r1 : List Cond := [Cond.constantLong RX8 142 (20), Cond.fieldLink RX8 29 "ClosedSumsModel" "answer" "[J", Cond.methodLink RX8 139 yX8_isAnswered, Cond.instanceMethod yX8_isAnswered, Cond.selects RX8 yX8_isAnswered yX8_isAnswered, Cond.initialized RX8, Cond.code yX8_isAnswered cX8_isAnswered 1 (some .boolean), Cond.fieldLink RX8 59 "ClosedSumsModel" "code" "I", Cond.fieldLink RX8 136 "ClosedSumsModel" "least" "I", Cond.methodLink RX8 109 yX8_isNone, Cond.instanceMethod yX8_isNone, Cond.selects RX8 yX8_isNone yX8_isNone, Cond.code yX8_isNone cX8_isNone 1 (some .boolean), Cond.fieldLink RX8 7 "ClosedSumsModel" "top" "[J", Cond.fieldLink RX8 13 "ClosedSumsModel" "bottom" "[J", Cond.methodLink RX8 65 yX8_high, Cond.static yX8_high, Cond.code yX8_high cX8_high 2 (some .int), Cond.methodLink RX8 132 yX8_solve, Cond.instanceMethod yX8_solve, Cond.selects RX8 yX8_solve yX8_solve, Cond.code yX8_solve cX8_solve 6 (some .int), Cond.fieldLink RX8 50 "ClosedSumsModel" "table" "[J", Cond.fieldLink RX8 53 "ClosedSumsModel" "row" "[I"]
def wsX8_answer_r2 : List Cond := [Cond.methodLink RX8 115 yX8_findSplit, Cond.instanceMethod yX8_findSplit, Cond.selects RX8 yX8_findSplit yX8_findSplit, Cond.code yX8_findSplit cX8_findSplit 3 none, Cond.fieldLink RX8 16 "ClosedSumsModel" "a" "[J", Cond.fieldLink RX8 19 "ClosedSumsModel" "b" "[J", Cond.fieldLink RX8 22 "ClosedSumsModel" "c" "[J", Cond.fieldLink RX8 38 "ClosedSumsModel" "g" "[J", Cond.fieldLink RX8 41 "ClosedSumsModel" "h" "[J", Cond.fieldLink RX8 25 "ClosedSumsModel" "degrees" "[I", Cond.fieldLink RX8 47 "ClosedSumsModel" "quotient" "[J", Cond.constantLong RX8 104 (32002), Cond.fieldLink RX8 44 "ClosedSumsModel" "x" "[J", Cond.methodLink RX8 98 yX8_copy, Cond.static yX8_copy, Cond.code yX8_copy cX8_copy 3 none, Cond.methodLink RX8 69 yX8_empty, Cond.static yX8_empty, Cond.code yX8_empty cX8_empty 2 none, Cond.methodLink RX8 94 yX8_move, Cond.static yX8_move, Cond.code yX8_move cX8_move 6 none, Cond.constantLong RX8 63 (32003), Cond.methodLink RX8 101 yX8_common]
def wsX8_answer_r3 : List Cond := [Cond.instanceMethod yX8_common, Cond.selects RX8 yX8_common yX8_common, Cond.code yX8_common cX8_common 5 none, Cond.methodLink RX8 80 yX8_divide, Cond.instanceMethod yX8_divide, Cond.selects RX8 yX8_divide yX8_divide, Cond.code yX8_divide cX8_divide 10 none, Cond.methodLink RX8 73 yX8_inverse, Cond.static yX8_inverse, Cond.code yX8_inverse cX8_inverse 7 (some .long), Cond.methodLink RX8 77 yX8_modulo, Cond.static yX8_modulo, Cond.code yX8_modulo cX8_modulo 4 (some .long), Cond.methodLink RX8 106 yX8_multiply, Cond.instanceMethod yX8_multiply, Cond.selects RX8 yX8_multiply yX8_multiply, Cond.code yX8_multiply cX8_multiply 6 none, Cond.methodLink RX8 125 yX8_fill, Cond.instanceMethod yX8_fill, Cond.selects RX8 yX8_fill yX8_fill, Cond.code yX8_fill cX8_fill 3 none, Cond.methodLink RX8 128 yX8_bringOut, Cond.instanceMethod yX8_bringOut, Cond.selects RX8 yX8_bringOut yX8_bringOut]
def wsX8_answer_r4 : List Cond := [Cond.code yX8_bringOut cX8_bringOut 10 none, Cond.methodLink RX8 86 yX8_in, Cond.static yX8_in, Cond.code yX8_in cX8_in 6 (some .boolean)]
def wsX8_answer : List Cond := .code yX8_answer cX8_answer 2 (some .int) :: ((wsX8_answer_r1 ++ (wsX8_answer_r2 ++ (wsX8_answer_r3 ++ wsX8_answer_r4))) ++ wsX80)
def wsX8_isClosed_r1 : List Cond := [Cond.fieldLink RX8 41 "ClosedSumsModel" "h" "[J", Cond.fieldLink RX8 19 "ClosedSumsModel" "b" "[J", Cond.constantLong RX8 104 (32002), Cond.fieldLink RX8 29 "ClosedSumsModel" "answer" "[J", Cond.fieldLink RX8 32 "ClosedSumsModel" "closedTop" "[J", Cond.fieldLink RX8 44 "ClosedSumsModel" "x" "[J", Cond.fieldLink RX8 35 "ClosedSumsModel" "closedBottom" "[J", Cond.fieldLink RX8 22 "ClosedSumsModel" "c" "[J", Cond.fieldLink RX8 38 "ClosedSumsModel" "g" "[J", Cond.fieldLink RX8 47 "ClosedSumsModel" "quotient" "[J", Cond.constantLong RX8 63 (32003), Cond.methodLink RX8 139 yX8_isAnswered, Cond.instanceMethod yX8_isAnswered, Cond.selects RX8 yX8_isAnswered yX8_isAnswered, Cond.initialized RX8, Cond.code yX8_isAnswered cX8_isAnswered 1 (some .boolean), Cond.fieldLink RX8 59 "ClosedSumsModel" "code" "I", Cond.fieldLink RX8 136 "ClosedSumsModel" "least" "I", Cond.methodLink RX8 109 yX8_isNone, Cond.instanceMethod yX8_isNone, Cond.selects RX8 yX8_isNone yX8_isNone, Cond.code yX8_isNone cX8_isNone 1 (some .boolean), Cond.fieldLink RX8 7 "ClosedSumsModel" "top" "[J", Cond.fieldLink RX8 13 "ClosedSumsModel" "bottom" "[J"]
def wsX8_isClosed_r2 : List Cond := [Cond.methodLink RX8 65 yX8_high, Cond.static yX8_high, Cond.code yX8_high cX8_high 2 (some .int), Cond.methodLink RX8 132 yX8_solve, Cond.instanceMethod yX8_solve, Cond.selects RX8 yX8_solve yX8_solve, Cond.code yX8_solve cX8_solve 6 (some .int), Cond.fieldLink RX8 50 "ClosedSumsModel" "table" "[J", Cond.fieldLink RX8 53 "ClosedSumsModel" "row" "[I", Cond.methodLink RX8 115 yX8_findSplit, Cond.instanceMethod yX8_findSplit, Cond.selects RX8 yX8_findSplit yX8_findSplit, Cond.code yX8_findSplit cX8_findSplit 3 none, Cond.fieldLink RX8 16 "ClosedSumsModel" "a" "[J", Cond.fieldLink RX8 25 "ClosedSumsModel" "degrees" "[I", Cond.methodLink RX8 98 yX8_copy, Cond.static yX8_copy, Cond.code yX8_copy cX8_copy 3 none, Cond.methodLink RX8 69 yX8_empty, Cond.static yX8_empty, Cond.code yX8_empty cX8_empty 2 none, Cond.methodLink RX8 94 yX8_move, Cond.static yX8_move, Cond.code yX8_move cX8_move 6 none]
def wsX8_isClosed_r3 : List Cond := [Cond.methodLink RX8 101 yX8_common, Cond.instanceMethod yX8_common, Cond.selects RX8 yX8_common yX8_common, Cond.code yX8_common cX8_common 5 none, Cond.methodLink RX8 80 yX8_divide, Cond.instanceMethod yX8_divide, Cond.selects RX8 yX8_divide yX8_divide, Cond.code yX8_divide cX8_divide 10 none, Cond.methodLink RX8 73 yX8_inverse, Cond.static yX8_inverse, Cond.code yX8_inverse cX8_inverse 7 (some .long), Cond.methodLink RX8 77 yX8_modulo, Cond.static yX8_modulo, Cond.code yX8_modulo cX8_modulo 4 (some .long), Cond.methodLink RX8 106 yX8_multiply, Cond.instanceMethod yX8_multiply, Cond.selects RX8 yX8_multiply yX8_multiply, Cond.code yX8_multiply cX8_multiply 6 none, Cond.methodLink RX8 125 yX8_fill, Cond.instanceMethod yX8_fill, Cond.selects RX8 yX8_fill yX8_fill, Cond.code yX8_fill cX8_fill 3 none, Cond.methodLink RX8 128 yX8_bringOut, Cond.instanceMethod yX8_bringOut]
def wsX8_isClosed_r4 : List Cond := [Cond.selects RX8 yX8_bringOut yX8_bringOut, Cond.code yX8_bringOut cX8_bringOut 10 none]
def wsX8_isClosed : List Cond := .code yX8_isClosed cX8_isClosed 4 (some .boolean) :: ((wsX8_isClosed_r1 ++ (wsX8_isClosed_r2 ++ (wsX8_isClosed_r3 ++ wsX8_isClosed_r4))) ++ wsX80)
def wsX8_closed_r1 : List Cond := [Cond.constantLong RX8 123 (63), Cond.fieldLink RX8 32 "ClosedSumsModel" "closedTop" "[J", Cond.fieldLink RX8 35 "ClosedSumsModel" "closedBottom" "[J", Cond.methodLink RX8 144 yX8_isClosed, Cond.instanceMethod yX8_isClosed, Cond.selects RX8 yX8_isClosed yX8_isClosed, Cond.initialized RX8, Cond.code yX8_isClosed cX8_isClosed 4 (some .boolean), Cond.fieldLink RX8 41 "ClosedSumsModel" "h" "[J", Cond.fieldLink RX8 19 "ClosedSumsModel" "b" "[J", Cond.constantLong RX8 104 (32002), Cond.fieldLink RX8 29 "ClosedSumsModel" "answer" "[J", Cond.fieldLink RX8 44 "ClosedSumsModel" "x" "[J", Cond.fieldLink RX8 22 "ClosedSumsModel" "c" "[J", Cond.fieldLink RX8 38 "ClosedSumsModel" "g" "[J", Cond.fieldLink RX8 47 "ClosedSumsModel" "quotient" "[J", Cond.constantLong RX8 63 (32003), Cond.methodLink RX8 139 yX8_isAnswered, Cond.instanceMethod yX8_isAnswered, Cond.selects RX8 yX8_isAnswered yX8_isAnswered, Cond.code yX8_isAnswered cX8_isAnswered 1 (some .boolean), Cond.fieldLink RX8 59 "ClosedSumsModel" "code" "I", Cond.fieldLink RX8 136 "ClosedSumsModel" "least" "I", Cond.methodLink RX8 109 yX8_isNone]
def wsX8_closed_r2 : List Cond := [Cond.instanceMethod yX8_isNone, Cond.selects RX8 yX8_isNone yX8_isNone, Cond.code yX8_isNone cX8_isNone 1 (some .boolean), Cond.fieldLink RX8 7 "ClosedSumsModel" "top" "[J", Cond.fieldLink RX8 13 "ClosedSumsModel" "bottom" "[J", Cond.methodLink RX8 65 yX8_high, Cond.static yX8_high, Cond.code yX8_high cX8_high 2 (some .int), Cond.methodLink RX8 132 yX8_solve, Cond.instanceMethod yX8_solve, Cond.selects RX8 yX8_solve yX8_solve, Cond.code yX8_solve cX8_solve 6 (some .int), Cond.fieldLink RX8 50 "ClosedSumsModel" "table" "[J", Cond.fieldLink RX8 53 "ClosedSumsModel" "row" "[I", Cond.methodLink RX8 115 yX8_findSplit, Cond.instanceMethod yX8_findSplit, Cond.selects RX8 yX8_findSplit yX8_findSplit, Cond.code yX8_findSplit cX8_findSplit 3 none, Cond.fieldLink RX8 16 "ClosedSumsModel" "a" "[J", Cond.fieldLink RX8 25 "ClosedSumsModel" "degrees" "[I", Cond.methodLink RX8 98 yX8_copy, Cond.static yX8_copy, Cond.code yX8_copy cX8_copy 3 none, Cond.methodLink RX8 69 yX8_empty]
def wsX8_closed_r3 : List Cond := [Cond.static yX8_empty, Cond.code yX8_empty cX8_empty 2 none, Cond.methodLink RX8 94 yX8_move, Cond.static yX8_move, Cond.code yX8_move cX8_move 6 none, Cond.methodLink RX8 101 yX8_common, Cond.instanceMethod yX8_common, Cond.selects RX8 yX8_common yX8_common, Cond.code yX8_common cX8_common 5 none, Cond.methodLink RX8 80 yX8_divide, Cond.instanceMethod yX8_divide, Cond.selects RX8 yX8_divide yX8_divide, Cond.code yX8_divide cX8_divide 10 none, Cond.methodLink RX8 73 yX8_inverse, Cond.static yX8_inverse, Cond.code yX8_inverse cX8_inverse 7 (some .long), Cond.methodLink RX8 77 yX8_modulo, Cond.static yX8_modulo, Cond.code yX8_modulo cX8_modulo 4 (some .long), Cond.methodLink RX8 106 yX8_multiply, Cond.instanceMethod yX8_multiply, Cond.selects RX8 yX8_multiply yX8_multiply, Cond.code yX8_multiply cX8_multiply 6 none, Cond.methodLink RX8 125 yX8_fill]
def wsX8_closed_r4 : List Cond := [Cond.instanceMethod yX8_fill, Cond.selects RX8 yX8_fill yX8_fill, Cond.code yX8_fill cX8_fill 3 none, Cond.methodLink RX8 128 yX8_bringOut, Cond.instanceMethod yX8_bringOut, Cond.selects RX8 yX8_bringOut yX8_bringOut, Cond.code yX8_bringOut cX8_bringOut 10 none, Cond.methodLink RX8 86 yX8_in, Cond.static yX8_in, Cond.code yX8_in cX8_in 6 (some .boolean)]
def wsX8_closed : List Cond := .code yX8_closed cX8_closed 3 (some .int) :: ((wsX8_closed_r1 ++ (wsX8_closed_r2 ++ (wsX8_closed_r3 ++ wsX8_closed_r4))) ++ wsX80)
def wsX8_value_r1 : List Cond := [Cond.fieldLink RX8 35 "ClosedSumsModel" "closedBottom" "[J", Cond.fieldLink RX8 32 "ClosedSumsModel" "closedTop" "[J", Cond.constantLong RX8 63 (32003), Cond.methodLink RX8 144 yX8_isClosed, Cond.instanceMethod yX8_isClosed, Cond.selects RX8 yX8_isClosed yX8_isClosed, Cond.initialized RX8, Cond.code yX8_isClosed cX8_isClosed 4 (some .boolean), Cond.fieldLink RX8 41 "ClosedSumsModel" "h" "[J", Cond.fieldLink RX8 19 "ClosedSumsModel" "b" "[J", Cond.constantLong RX8 104 (32002), Cond.fieldLink RX8 29 "ClosedSumsModel" "answer" "[J", Cond.fieldLink RX8 44 "ClosedSumsModel" "x" "[J", Cond.fieldLink RX8 22 "ClosedSumsModel" "c" "[J", Cond.fieldLink RX8 38 "ClosedSumsModel" "g" "[J", Cond.fieldLink RX8 47 "ClosedSumsModel" "quotient" "[J", Cond.methodLink RX8 139 yX8_isAnswered, Cond.instanceMethod yX8_isAnswered, Cond.selects RX8 yX8_isAnswered yX8_isAnswered, Cond.code yX8_isAnswered cX8_isAnswered 1 (some .boolean), Cond.fieldLink RX8 59 "ClosedSumsModel" "code" "I", Cond.fieldLink RX8 136 "ClosedSumsModel" "least" "I", Cond.methodLink RX8 109 yX8_isNone, Cond.instanceMethod yX8_isNone]
def wsX8_value_r2 : List Cond := [Cond.selects RX8 yX8_isNone yX8_isNone, Cond.code yX8_isNone cX8_isNone 1 (some .boolean), Cond.fieldLink RX8 7 "ClosedSumsModel" "top" "[J", Cond.fieldLink RX8 13 "ClosedSumsModel" "bottom" "[J", Cond.methodLink RX8 65 yX8_high, Cond.static yX8_high, Cond.code yX8_high cX8_high 2 (some .int), Cond.methodLink RX8 132 yX8_solve, Cond.instanceMethod yX8_solve, Cond.selects RX8 yX8_solve yX8_solve, Cond.code yX8_solve cX8_solve 6 (some .int), Cond.fieldLink RX8 50 "ClosedSumsModel" "table" "[J", Cond.fieldLink RX8 53 "ClosedSumsModel" "row" "[I", Cond.methodLink RX8 115 yX8_findSplit, Cond.instanceMethod yX8_findSplit, Cond.selects RX8 yX8_findSplit yX8_findSplit, Cond.code yX8_findSplit cX8_findSplit 3 none, Cond.fieldLink RX8 16 "ClosedSumsModel" "a" "[J", Cond.fieldLink RX8 25 "ClosedSumsModel" "degrees" "[I", Cond.methodLink RX8 98 yX8_copy, Cond.static yX8_copy, Cond.code yX8_copy cX8_copy 3 none, Cond.methodLink RX8 69 yX8_empty, Cond.static yX8_empty]
def wsX8_value_r3 : List Cond := [Cond.code yX8_empty cX8_empty 2 none, Cond.methodLink RX8 94 yX8_move, Cond.static yX8_move, Cond.code yX8_move cX8_move 6 none, Cond.methodLink RX8 101 yX8_common, Cond.instanceMethod yX8_common, Cond.selects RX8 yX8_common yX8_common, Cond.code yX8_common cX8_common 5 none, Cond.methodLink RX8 80 yX8_divide, Cond.instanceMethod yX8_divide, Cond.selects RX8 yX8_divide yX8_divide, Cond.code yX8_divide cX8_divide 10 none, Cond.methodLink RX8 73 yX8_inverse, Cond.static yX8_inverse, Cond.code yX8_inverse cX8_inverse 7 (some .long), Cond.methodLink RX8 77 yX8_modulo, Cond.static yX8_modulo, Cond.code yX8_modulo cX8_modulo 4 (some .long), Cond.methodLink RX8 106 yX8_multiply, Cond.instanceMethod yX8_multiply, Cond.selects RX8 yX8_multiply yX8_multiply, Cond.code yX8_multiply cX8_multiply 6 none, Cond.methodLink RX8 125 yX8_fill, Cond.instanceMethod yX8_fill]
def wsX8_value_r4 : List Cond := [Cond.selects RX8 yX8_fill yX8_fill, Cond.code yX8_fill cX8_fill 3 none, Cond.methodLink RX8 128 yX8_bringOut, Cond.instanceMethod yX8_bringOut, Cond.selects RX8 yX8_bringOut yX8_bringOut, Cond.code yX8_bringOut cX8_bringOut 10 none, Cond.methodLink RX8 147 yX8_valueAt, Cond.static yX8_valueAt, Cond.code yX8_valueAt cX8_valueAt 6 (some .long)]
def wsX8_value : List Cond := .code yX8_value cX8_value 5 (some .int) :: ((wsX8_value_r1 ++ (wsX8_value_r2 ++ (wsX8_value_r3 ++ wsX8_value_r4))) ++ wsX80)
def wsX8_reaches : List Cond := .code yX8_reaches cX8_reaches 5 (some .boolean) :: ([.fieldLink RX8 56 "ClosedSumsModel" "terms" "[J", .fieldLink RX8 13 "ClosedSumsModel" "bottom" "[J", .fieldLink RX8 7 "ClosedSumsModel" "top" "[J", .constantLong RX8 63 (32003), .methodLink RX8 147 yX8_valueAt, .static yX8_valueAt, .initialized RX8, .code yX8_valueAt cX8_valueAt 6 (some .long), .methodLink RX8 73 yX8_inverse, .static yX8_inverse, .code yX8_inverse cX8_inverse 7 (some .long)] ++ wsX80)
def wsX8_term : List Cond := .code yX8_term cX8_term 2 (some .int) :: ([.constantLong RX8 151 (60), .fieldLink RX8 59 "ClosedSumsModel" "code" "I", .fieldLink RX8 56 "ClosedSumsModel" "terms" "[J", .methodLink RX8 86 yX8_in, .static yX8_in, .initialized RX8, .code yX8_in cX8_in 6 (some .boolean), .methodLink RX8 153 yX8_raise, .instanceMethod yX8_raise, .selects RX8 yX8_raise yX8_raise, .code yX8_raise cX8_raise 2 (some .int), .methodLink RX8 157 yX8_reaches, .instanceMethod yX8_reaches, .selects RX8 yX8_reaches yX8_reaches, .code yX8_reaches cX8_reaches 5 (some .boolean), .fieldLink RX8 13 "ClosedSumsModel" "bottom" "[J", .fieldLink RX8 7 "ClosedSumsModel" "top" "[J", .constantLong RX8 63 (32003), .methodLink RX8 147 yX8_valueAt, .static yX8_valueAt, .code yX8_valueAt cX8_valueAt 6 (some .long), .methodLink RX8 73 yX8_inverse, .static yX8_inverse, .code yX8_inverse cX8_inverse 7 (some .long)] ++ wsX80)
def wsX8_sum : List Cond := .code yX8_sum cX8_sum 5 (some .int) :: ([.constantLong RX8 151 (60), .fieldLink RX8 59 "ClosedSumsModel" "code" "I", .fieldLink RX8 56 "ClosedSumsModel" "terms" "[J", .constantLong RX8 63 (32003), .methodLink RX8 86 yX8_in, .static yX8_in, .initialized RX8, .code yX8_in cX8_in 6 (some .boolean), .methodLink RX8 153 yX8_raise, .instanceMethod yX8_raise, .selects RX8 yX8_raise yX8_raise, .code yX8_raise cX8_raise 2 (some .int), .methodLink RX8 157 yX8_reaches, .instanceMethod yX8_reaches, .selects RX8 yX8_reaches yX8_reaches, .code yX8_reaches cX8_reaches 5 (some .boolean), .fieldLink RX8 13 "ClosedSumsModel" "bottom" "[J", .fieldLink RX8 7 "ClosedSumsModel" "top" "[J", .methodLink RX8 147 yX8_valueAt, .static yX8_valueAt, .code yX8_valueAt cX8_valueAt 6 (some .long), .methodLink RX8 73 yX8_inverse, .static yX8_inverse, .code yX8_inverse cX8_inverse 7 (some .long)] ++ wsX80)
def wsJ9_max_7cf53 : List Cond := .code yJ9_max_7cf53 cJ9_max_7cf53 2 (some .int) :: ([])
def wsJ9_min_7cf53 : List Cond := .code yJ9_min_7cf53 cJ9_min_7cf53 2 (some .int) :: ([])
def wsL_put_r1 : List Cond := [Cond.classLink RL 13 "java/lang/IndexOutOfBoundsException", Cond.methodLink RL 7 yX7_put, Cond.instanceMethod yX7_put, Cond.selects RX7 yX7_put yX7_put, Cond.initialized RX7, Cond.code yX7_put cX7_put 7 (some .boolean), Cond.constantLong RX7 65 (32003), Cond.methodLink RX7 58 yX7_requirePower, Cond.instanceMethod yX7_requirePower, Cond.selects RX7 yX7_requirePower yX7_requirePower, Cond.code yX7_requirePower cX7_requirePower 2 none, Cond.classLink RX7 159 "java/lang/IndexOutOfBoundsException", Cond.initialized "java/lang/IndexOutOfBoundsException", Cond.methodLink RX7 61 yX7_side, Cond.instanceMethod yX7_side, Cond.selects RX7 yX7_side yX7_side, Cond.code yX7_side cX7_side 2 (some (.object "ClosedSums$Polynomial")), Cond.fieldLink RX7 10 "ClosedSums" "ratioTop" "LClosedSums$Polynomial;", Cond.fieldLink RX7 16 "ClosedSums" "ratioBottom" "LClosedSums$Polynomial;", Cond.methodLink RX7 67 yJ9_floorMod_f86c9, Cond.static yJ9_floorMod_f86c9, Cond.initialized RJ9, Cond.code yJ9_floorMod_f86c9 cJ9_floorMod_f86c9 6 (some .long), Cond.methodLink RX7 73 yX4_number]
def wsL_put_r2 : List Cond := [Cond.instanceMethod yX4_number, Cond.selects RX4 yX4_number yX4_number, Cond.initialized RX4, Cond.code yX4_number cX4_number 2 (some .int), Cond.fieldLink RX4 11 "ClosedSums$Polynomial" "numbers" "[I", Cond.methodLink RX7 77 yX4_setNumber, Cond.instanceMethod yX4_setNumber, Cond.selects RX4 yX4_setNumber yX4_setNumber, Cond.code yX4_setNumber cX4_setNumber 3 none, Cond.fieldLink RX4 15 "ClosedSums$Polynomial" "highest" "I", Cond.methodLink RX4 23 Lib.Math.max.name, Cond.static Lib.Math.max.name, Cond.initialized "java/lang/Math", Cond.code Lib.Math.max.name Lib.Math.max.code 2 (some .int), Cond.methodLink RX4 29 yX4_settle, Cond.instanceMethod yX4_settle, Cond.selects RX4 yX4_settle yX4_settle, Cond.code yX4_settle cX4_settle 3 none, Cond.methodLink RX7 81 yX7_forget, Cond.instanceMethod yX7_forget, Cond.selects RX7 yX7_forget yX7_forget, Cond.code yX7_forget cX7_forget 1 none, Cond.fieldLink RX7 29 "ClosedSums" "parts" "LClosedSums$RatioSplit;", Cond.fieldLink RX7 36 "ClosedSums" "equation" "LClosedSums$Equation;"]
def wsL_put_r3 : List Cond := [Cond.fieldLink RX7 43 "ClosedSums" "fraction" "LClosedSums$Fraction;", Cond.fieldLink RX7 50 "ClosedSums" "progress" "LClosedSums$Progress;", Cond.methodLink RX7 155 yX6_forget, Cond.instanceMethod yX6_forget, Cond.selects RX6 yX6_forget yX6_forget, Cond.initialized RX6, Cond.code yX6_forget cX6_forget 1 none, Cond.fieldLink RX6 31 "ClosedSums$RatioSplit" "known" "Z", Cond.methodLink RX7 156 yX1_forget, Cond.instanceMethod yX1_forget, Cond.selects RX1 yX1_forget yX1_forget, Cond.initialized RX1, Cond.code yX1_forget cX1_forget 1 none, Cond.fieldLink RX1 42 "ClosedSums$Equation" "known" "Z", Cond.methodLink RX7 157 yX2_forget, Cond.instanceMethod yX2_forget, Cond.selects RX2 yX2_forget yX2_forget, Cond.initialized RX2, Cond.code yX2_forget cX2_forget 1 none, Cond.fieldLink RX2 21 "ClosedSums$Fraction" "known" "Z", Cond.methodLink RX7 158 yX5_forget, Cond.instanceMethod yX5_forget, Cond.selects RX5 yX5_forget yX5_forget, Cond.initialized RX5]
def wsL_put_r4 : List Cond := [Cond.code yX5_forget cX5_forget 1 none, Cond.fieldLink RX5 15 "ClosedSums$Progress" "reached" "I"]
def wsL_put : List Cond := .codeWith yL_put cL_put 7 (some .int) [(0, 19, 22, 13)] :: ((wsL_put_r1 ++ (wsL_put_r2 ++ (wsL_put_r3 ++ wsL_put_r4))) ++ wsX70 ++ wsX40 ++ wsX60 ++ wsX10 ++ wsX20 ++ wsX50 ++ (vx_atS RX7 163 "java/lang/IndexOutOfBoundsException" ["java/lang/RuntimeException", "java/lang/Exception"]).filter goodWord)
def wsL_at : List Cond := .codeWith yL_at cL_at 5 (some .int) [(0, 10, 13, 13)] :: ([.classLink RL 13 "java/lang/IndexOutOfBoundsException", .methodLink RL 15 yX7_at, .instanceMethod yX7_at, .selects RX7 yX7_at yX7_at, .initialized RX7, .code yX7_at cX7_at 3 (some .int), .methodLink RX7 58 yX7_requirePower, .instanceMethod yX7_requirePower, .selects RX7 yX7_requirePower yX7_requirePower, .code yX7_requirePower cX7_requirePower 2 none, .classLink RX7 159 "java/lang/IndexOutOfBoundsException", .initialized "java/lang/IndexOutOfBoundsException", .methodLink RX7 61 yX7_side, .instanceMethod yX7_side, .selects RX7 yX7_side yX7_side, .code yX7_side cX7_side 2 (some (.object "ClosedSums$Polynomial")), .fieldLink RX7 10 "ClosedSums" "ratioTop" "LClosedSums$Polynomial;", .fieldLink RX7 16 "ClosedSums" "ratioBottom" "LClosedSums$Polynomial;", .methodLink RX7 73 yX4_number, .instanceMethod yX4_number, .selects RX4 yX4_number yX4_number, .initialized RX4, .code yX4_number cX4_number 2 (some .int), .fieldLink RX4 11 "ClosedSums$Polynomial" "numbers" "[I"] ++ wsX70 ++ wsX40 ++ (vx_atS RX7 163 "java/lang/IndexOutOfBoundsException" ["java/lang/RuntimeException", "java/lang/Exception"]).filter goodWord)
def wsL_found_r1 : List Cond := [Cond.classLink RL 23 "java/lang/IllegalStateException", Cond.classLink RL 25 "java/lang/IllegalArgumentException", Cond.methodLink RL 19 yX7_found, Cond.instanceMethod yX7_found, Cond.selects RX7 yX7_found yX7_found, Cond.initialized RX7, Cond.code yX7_found cX7_found 2 (some .int), Cond.classLink RX7 87 "java/lang/IllegalArgumentException", Cond.initialized "java/lang/IllegalArgumentException", Cond.fieldLink RX7 29 "ClosedSums" "parts" "LClosedSums$RatioSplit;", Cond.fieldLink RX7 10 "ClosedSums" "ratioTop" "LClosedSums$Polynomial;", Cond.fieldLink RX7 16 "ClosedSums" "ratioBottom" "LClosedSums$Polynomial;", Cond.fieldLink RX7 22 "ClosedSums" "division" "LClosedSums$Division;", Cond.methodLink RX7 84 yX7_requireRatio, Cond.instanceMethod yX7_requireRatio, Cond.selects RX7 yX7_requireRatio yX7_requireRatio, Cond.code yX7_requireRatio cX7_requireRatio 1 none, Cond.classLink RX7 172 "java/lang/IllegalStateException", Cond.initialized "java/lang/IllegalStateException", Cond.methodLink RX7 168 yX4_isZero, Cond.instanceMethod yX4_isZero, Cond.selects RX4 yX4_isZero yX4_isZero, Cond.initialized RX4, Cond.code yX4_isZero cX4_isZero 1 (some .boolean)]
def wsL_found_r2 : List Cond := [Cond.fieldLink RX4 15 "ClosedSums$Polynomial" "highest" "I", Cond.methodLink RX7 94 yX6_renew, Cond.instanceMethod yX6_renew, Cond.selects RX6 yX6_renew yX6_renew, Cond.initialized RX6, Cond.code yX6_renew cX6_renew 7 none, Cond.fieldLink RX6 31 "ClosedSums$RatioSplit" "known" "Z", Cond.fieldLink RX6 12 "ClosedSums$RatioSplit" "top" "LClosedSums$Polynomial;", Cond.fieldLink RX6 18 "ClosedSums$RatioSplit" "bottom" "LClosedSums$Polynomial;", Cond.fieldLink RX6 21 "ClosedSums$RatioSplit" "extra" "LClosedSums$Polynomial;", Cond.fieldLink RX6 27 "ClosedSums$RatioSplit" "commonDegrees" "[I", Cond.fieldLink RX6 24 "ClosedSums$RatioSplit" "moved" "LClosedSums$Polynomial;", Cond.methodLink RX6 35 yX4_copyFrom, Cond.instanceMethod yX4_copyFrom, Cond.selects RX4 yX4_copyFrom yX4_copyFrom, Cond.code yX4_copyFrom cX4_copyFrom 3 none, Cond.fieldLink RX4 11 "ClosedSums$Polynomial" "numbers" "[I", Cond.methodLink RX4 19 yX4_number, Cond.instanceMethod yX4_number, Cond.selects RX4 yX4_number yX4_number, Cond.code yX4_number cX4_number 2 (some .int), Cond.methodLink RX6 39 yX4_becomeNumber, Cond.instanceMethod yX4_becomeNumber, Cond.selects RX4 yX4_becomeNumber yX4_becomeNumber]
def wsL_found_r3 : List Cond := [Cond.code yX4_becomeNumber cX4_becomeNumber 3 none, Cond.methodLink RX6 43 yX4_moveBy, Cond.instanceMethod yX4_moveBy, Cond.selects RX4 yX4_moveBy yX4_moveBy, Cond.code yX4_moveBy cX4_moveBy 4 none, Cond.methodLink RX4 37 Lib.Math.min.name, Cond.static Lib.Math.min.name, Cond.initialized "java/lang/Math", Cond.code Lib.Math.min.name Lib.Math.min.code 2 (some .int), Cond.methodLink RX6 46 yX0_commonDivisor, Cond.instanceMethod yX0_commonDivisor, Cond.selects RX0 yX0_commonDivisor yX0_commonDivisor, Cond.initialized RX0, Cond.code yX0_commonDivisor cX0_commonDivisor 7 (some (.object "ClosedSums$Polynomial")), Cond.fieldLink RX0 10 "ClosedSums$Division" "first" "LClosedSums$Polynomial;", Cond.fieldLink RX0 16 "ClosedSums$Division" "second" "LClosedSums$Polynomial;", Cond.fieldLink RX0 19 "ClosedSums$Division" "quotient" "LClosedSums$Polynomial;", Cond.fieldLink RX0 22 "ClosedSums$Division" "common" "LClosedSums$Polynomial;", Cond.methodLink RX0 25 yX4_copyFrom, Cond.methodLink RX0 29 yX4_isZero, Cond.methodLink RX0 33 yX4_divideBy, Cond.instanceMethod yX4_divideBy, Cond.selects RX4 yX4_divideBy yX4_divideBy, Cond.code yX4_divideBy cX4_divideBy 7 none]
def wsL_found_r4 : List Cond := [Cond.methodLink RX4 40 yX4_becomeNumber, Cond.methodLink RX4 33 yX4_isZero, Cond.methodLink RX4 43 yX4_leading, Cond.instanceMethod yX4_leading, Cond.selects RX4 yX4_leading yX4_leading, Cond.code yX4_leading cX4_leading 1 (some .int), Cond.static yX7_inverse, Cond.code yX7_inverse cX7_inverse 4 (some .int), Cond.methodLink RX4 50 yX4_setNumber, Cond.instanceMethod yX4_setNumber, Cond.selects RX4 yX4_setNumber yX4_setNumber, Cond.code yX4_setNumber cX4_setNumber 3 none, Cond.methodLink RX4 23 Lib.Math.max.name, Cond.static Lib.Math.max.name, Cond.code Lib.Math.max.name Lib.Math.max.code 2 (some .int), Cond.methodLink RX4 29 yX4_settle, Cond.instanceMethod yX4_settle, Cond.selects RX4 yX4_settle yX4_settle, Cond.code yX4_settle cX4_settle 3 none, Cond.static yX7_negative, Cond.code yX7_negative cX7_negative 1 (some .int), Cond.methodLink RX4 57 yX4_addMultiple, Cond.instanceMethod yX4_addMultiple, Cond.selects RX4 yX4_addMultiple yX4_addMultiple]
def wsL_found_r5 : List Cond := [Cond.code yX4_addMultiple cX4_addMultiple 7 none, Cond.methodLink RX0 37 yX4_leading, Cond.methodLink RX0 47 yX4_scaleBy, Cond.instanceMethod yX4_scaleBy, Cond.selects RX4 yX4_scaleBy yX4_scaleBy, Cond.code yX4_scaleBy cX4_scaleBy 3 none, Cond.methodLink RX6 52 yX4_highest, Cond.instanceMethod yX4_highest, Cond.selects RX4 yX4_highest yX4_highest, Cond.code yX4_highest cX4_highest 1 (some .int), Cond.methodLink RX6 56 yX0_divideOut, Cond.instanceMethod yX0_divideOut, Cond.selects RX0 yX0_divideOut yX0_divideOut, Cond.code yX0_divideOut cX0_divideOut 3 none, Cond.methodLink RX6 60 yX4_multiplyBy, Cond.instanceMethod yX4_multiplyBy, Cond.selects RX4 yX4_multiplyBy yX4_multiplyBy, Cond.code yX4_multiplyBy cX4_multiplyBy 6 none, Cond.methodLink RX7 98 yX6_commonDegree, Cond.instanceMethod yX6_commonDegree, Cond.selects RX6 yX6_commonDegree yX6_commonDegree, Cond.code yX6_commonDegree cX6_commonDegree 2 (some .int)]
def wsL_found : List Cond := .codeWith yL_found cL_found 4 (some .int) [(0, 9, 12, 23), (0, 9, 15, 25)] :: ((wsL_found_r1 ++ (wsL_found_r2 ++ (wsL_found_r3 ++ (wsL_found_r4 ++ wsL_found_r5)))) ++ wsX70 ++ wsX40 ++ wsX60 ++ wsX00 ++ (vx_atS RX7 91 "java/lang/IllegalArgumentException" ["java/lang/RuntimeException", "java/lang/Exception"]).filter goodWord ++ (vx_atS RX7 176 "java/lang/IllegalStateException" ["java/lang/RuntimeException", "java/lang/Exception"]).filter goodWord)
def wsL_degree_r1 : List Cond := [Cond.classLink RL 23 "java/lang/IllegalStateException", Cond.classLink RL 25 "java/lang/IllegalArgumentException", Cond.methodLink RL 27 yX7_degree, Cond.instanceMethod yX7_degree, Cond.selects RX7 yX7_degree yX7_degree, Cond.initialized RX7, Cond.code yX7_degree cX7_degree 2 (some .int), Cond.fieldLink RX7 29 "ClosedSums" "parts" "LClosedSums$RatioSplit;", Cond.fieldLink RX7 10 "ClosedSums" "ratioTop" "LClosedSums$Polynomial;", Cond.fieldLink RX7 16 "ClosedSums" "ratioBottom" "LClosedSums$Polynomial;", Cond.fieldLink RX7 22 "ClosedSums" "division" "LClosedSums$Division;", Cond.methodLink RX7 84 yX7_requireRatio, Cond.instanceMethod yX7_requireRatio, Cond.selects RX7 yX7_requireRatio yX7_requireRatio, Cond.code yX7_requireRatio cX7_requireRatio 1 none, Cond.classLink RX7 172 "java/lang/IllegalStateException", Cond.initialized "java/lang/IllegalStateException", Cond.methodLink RX7 168 yX4_isZero, Cond.instanceMethod yX4_isZero, Cond.selects RX4 yX4_isZero yX4_isZero, Cond.initialized RX4, Cond.code yX4_isZero cX4_isZero 1 (some .boolean), Cond.fieldLink RX4 15 "ClosedSums$Polynomial" "highest" "I", Cond.methodLink RX7 101 yX7_requirePart]
def wsL_degree_r2 : List Cond := [Cond.instanceMethod yX7_requirePart, Cond.selects RX7 yX7_requirePart yX7_requirePart, Cond.code yX7_requirePart cX7_requirePart 2 none, Cond.classLink RX7 87 "java/lang/IllegalArgumentException", Cond.initialized "java/lang/IllegalArgumentException", Cond.methodLink RX7 94 yX6_renew, Cond.instanceMethod yX6_renew, Cond.selects RX6 yX6_renew yX6_renew, Cond.initialized RX6, Cond.code yX6_renew cX6_renew 7 none, Cond.fieldLink RX6 31 "ClosedSums$RatioSplit" "known" "Z", Cond.fieldLink RX6 12 "ClosedSums$RatioSplit" "top" "LClosedSums$Polynomial;", Cond.fieldLink RX6 18 "ClosedSums$RatioSplit" "bottom" "LClosedSums$Polynomial;", Cond.fieldLink RX6 21 "ClosedSums$RatioSplit" "extra" "LClosedSums$Polynomial;", Cond.fieldLink RX6 27 "ClosedSums$RatioSplit" "commonDegrees" "[I", Cond.fieldLink RX6 24 "ClosedSums$RatioSplit" "moved" "LClosedSums$Polynomial;", Cond.methodLink RX6 35 yX4_copyFrom, Cond.instanceMethod yX4_copyFrom, Cond.selects RX4 yX4_copyFrom yX4_copyFrom, Cond.code yX4_copyFrom cX4_copyFrom 3 none, Cond.fieldLink RX4 11 "ClosedSums$Polynomial" "numbers" "[I", Cond.methodLink RX4 19 yX4_number, Cond.instanceMethod yX4_number, Cond.selects RX4 yX4_number yX4_number]
def wsL_degree_r3 : List Cond := [Cond.code yX4_number cX4_number 2 (some .int), Cond.methodLink RX6 39 yX4_becomeNumber, Cond.instanceMethod yX4_becomeNumber, Cond.selects RX4 yX4_becomeNumber yX4_becomeNumber, Cond.code yX4_becomeNumber cX4_becomeNumber 3 none, Cond.methodLink RX6 43 yX4_moveBy, Cond.instanceMethod yX4_moveBy, Cond.selects RX4 yX4_moveBy yX4_moveBy, Cond.code yX4_moveBy cX4_moveBy 4 none, Cond.methodLink RX4 37 Lib.Math.min.name, Cond.static Lib.Math.min.name, Cond.initialized "java/lang/Math", Cond.code Lib.Math.min.name Lib.Math.min.code 2 (some .int), Cond.methodLink RX6 46 yX0_commonDivisor, Cond.instanceMethod yX0_commonDivisor, Cond.selects RX0 yX0_commonDivisor yX0_commonDivisor, Cond.initialized RX0, Cond.code yX0_commonDivisor cX0_commonDivisor 7 (some (.object "ClosedSums$Polynomial")), Cond.fieldLink RX0 10 "ClosedSums$Division" "first" "LClosedSums$Polynomial;", Cond.fieldLink RX0 16 "ClosedSums$Division" "second" "LClosedSums$Polynomial;", Cond.fieldLink RX0 19 "ClosedSums$Division" "quotient" "LClosedSums$Polynomial;", Cond.fieldLink RX0 22 "ClosedSums$Division" "common" "LClosedSums$Polynomial;", Cond.methodLink RX0 25 yX4_copyFrom, Cond.methodLink RX0 29 yX4_isZero]
def wsL_degree_r4 : List Cond := [Cond.methodLink RX0 33 yX4_divideBy, Cond.instanceMethod yX4_divideBy, Cond.selects RX4 yX4_divideBy yX4_divideBy, Cond.code yX4_divideBy cX4_divideBy 7 none, Cond.methodLink RX4 40 yX4_becomeNumber, Cond.methodLink RX4 33 yX4_isZero, Cond.methodLink RX4 43 yX4_leading, Cond.instanceMethod yX4_leading, Cond.selects RX4 yX4_leading yX4_leading, Cond.code yX4_leading cX4_leading 1 (some .int), Cond.static yX7_inverse, Cond.code yX7_inverse cX7_inverse 4 (some .int), Cond.methodLink RX4 50 yX4_setNumber, Cond.instanceMethod yX4_setNumber, Cond.selects RX4 yX4_setNumber yX4_setNumber, Cond.code yX4_setNumber cX4_setNumber 3 none, Cond.methodLink RX4 23 Lib.Math.max.name, Cond.static Lib.Math.max.name, Cond.code Lib.Math.max.name Lib.Math.max.code 2 (some .int), Cond.methodLink RX4 29 yX4_settle, Cond.instanceMethod yX4_settle, Cond.selects RX4 yX4_settle yX4_settle, Cond.code yX4_settle cX4_settle 3 none, Cond.static yX7_negative]
def wsL_degree_r5 : List Cond := [Cond.code yX7_negative cX7_negative 1 (some .int), Cond.methodLink RX4 57 yX4_addMultiple, Cond.instanceMethod yX4_addMultiple, Cond.selects RX4 yX4_addMultiple yX4_addMultiple, Cond.code yX4_addMultiple cX4_addMultiple 7 none, Cond.methodLink RX0 37 yX4_leading, Cond.methodLink RX0 47 yX4_scaleBy, Cond.instanceMethod yX4_scaleBy, Cond.selects RX4 yX4_scaleBy yX4_scaleBy, Cond.code yX4_scaleBy cX4_scaleBy 3 none, Cond.methodLink RX6 52 yX4_highest, Cond.instanceMethod yX4_highest, Cond.selects RX4 yX4_highest yX4_highest, Cond.code yX4_highest cX4_highest 1 (some .int), Cond.methodLink RX6 56 yX0_divideOut, Cond.instanceMethod yX0_divideOut, Cond.selects RX0 yX0_divideOut yX0_divideOut, Cond.code yX0_divideOut cX0_divideOut 3 none, Cond.methodLink RX6 60 yX4_multiplyBy, Cond.instanceMethod yX4_multiplyBy, Cond.selects RX4 yX4_multiplyBy yX4_multiplyBy, Cond.code yX4_multiplyBy cX4_multiplyBy 6 none, Cond.methodLink RX7 104 yX6_part, Cond.instanceMethod yX6_part]
def wsL_degree_r6 : List Cond := [Cond.selects RX6 yX6_part yX6_part, Cond.code yX6_part cX6_part 2 (some (.object "ClosedSums$Polynomial")), Cond.methodLink RX7 108 yX4_highest]
def wsL_degree : List Cond := .codeWith yL_degree cL_degree 4 (some .int) [(0, 9, 12, 23), (0, 9, 15, 25)] :: ((wsL_degree_r1 ++ (wsL_degree_r2 ++ (wsL_degree_r3 ++ (wsL_degree_r4 ++ (wsL_degree_r5 ++ wsL_degree_r6))))) ++ wsX70 ++ wsX40 ++ wsX60 ++ wsX00 ++ (vx_atS RX7 176 "java/lang/IllegalStateException" ["java/lang/RuntimeException", "java/lang/Exception"]).filter goodWord ++ (vx_atS RX7 91 "java/lang/IllegalArgumentException" ["java/lang/RuntimeException", "java/lang/Exception"]).filter goodWord)
def wsL_split_r1 : List Cond := [Cond.classLink RL 23 "java/lang/IllegalStateException", Cond.classLink RL 25 "java/lang/IllegalArgumentException", Cond.methodLink RL 30 yX7_split, Cond.instanceMethod yX7_split, Cond.selects RX7 yX7_split yX7_split, Cond.initialized RX7, Cond.code yX7_split cX7_split 3 (some .int), Cond.fieldLink RX7 29 "ClosedSums" "parts" "LClosedSums$RatioSplit;", Cond.fieldLink RX7 10 "ClosedSums" "ratioTop" "LClosedSums$Polynomial;", Cond.fieldLink RX7 16 "ClosedSums" "ratioBottom" "LClosedSums$Polynomial;", Cond.fieldLink RX7 22 "ClosedSums" "division" "LClosedSums$Division;", Cond.methodLink RX7 84 yX7_requireRatio, Cond.instanceMethod yX7_requireRatio, Cond.selects RX7 yX7_requireRatio yX7_requireRatio, Cond.code yX7_requireRatio cX7_requireRatio 1 none, Cond.classLink RX7 172 "java/lang/IllegalStateException", Cond.initialized "java/lang/IllegalStateException", Cond.methodLink RX7 168 yX4_isZero, Cond.instanceMethod yX4_isZero, Cond.selects RX4 yX4_isZero yX4_isZero, Cond.initialized RX4, Cond.code yX4_isZero cX4_isZero 1 (some .boolean), Cond.fieldLink RX4 15 "ClosedSums$Polynomial" "highest" "I", Cond.methodLink RX7 101 yX7_requirePart]
def wsL_split_r2 : List Cond := [Cond.instanceMethod yX7_requirePart, Cond.selects RX7 yX7_requirePart yX7_requirePart, Cond.code yX7_requirePart cX7_requirePart 2 none, Cond.classLink RX7 87 "java/lang/IllegalArgumentException", Cond.initialized "java/lang/IllegalArgumentException", Cond.methodLink RX7 94 yX6_renew, Cond.instanceMethod yX6_renew, Cond.selects RX6 yX6_renew yX6_renew, Cond.initialized RX6, Cond.code yX6_renew cX6_renew 7 none, Cond.fieldLink RX6 31 "ClosedSums$RatioSplit" "known" "Z", Cond.fieldLink RX6 12 "ClosedSums$RatioSplit" "top" "LClosedSums$Polynomial;", Cond.fieldLink RX6 18 "ClosedSums$RatioSplit" "bottom" "LClosedSums$Polynomial;", Cond.fieldLink RX6 21 "ClosedSums$RatioSplit" "extra" "LClosedSums$Polynomial;", Cond.fieldLink RX6 27 "ClosedSums$RatioSplit" "commonDegrees" "[I", Cond.fieldLink RX6 24 "ClosedSums$RatioSplit" "moved" "LClosedSums$Polynomial;", Cond.methodLink RX6 35 yX4_copyFrom, Cond.instanceMethod yX4_copyFrom, Cond.selects RX4 yX4_copyFrom yX4_copyFrom, Cond.code yX4_copyFrom cX4_copyFrom 3 none, Cond.fieldLink RX4 11 "ClosedSums$Polynomial" "numbers" "[I", Cond.methodLink RX4 19 yX4_number, Cond.instanceMethod yX4_number, Cond.selects RX4 yX4_number yX4_number]
def wsL_split_r3 : List Cond := [Cond.code yX4_number cX4_number 2 (some .int), Cond.methodLink RX6 39 yX4_becomeNumber, Cond.instanceMethod yX4_becomeNumber, Cond.selects RX4 yX4_becomeNumber yX4_becomeNumber, Cond.code yX4_becomeNumber cX4_becomeNumber 3 none, Cond.methodLink RX6 43 yX4_moveBy, Cond.instanceMethod yX4_moveBy, Cond.selects RX4 yX4_moveBy yX4_moveBy, Cond.code yX4_moveBy cX4_moveBy 4 none, Cond.methodLink RX4 37 Lib.Math.min.name, Cond.static Lib.Math.min.name, Cond.initialized "java/lang/Math", Cond.code Lib.Math.min.name Lib.Math.min.code 2 (some .int), Cond.methodLink RX6 46 yX0_commonDivisor, Cond.instanceMethod yX0_commonDivisor, Cond.selects RX0 yX0_commonDivisor yX0_commonDivisor, Cond.initialized RX0, Cond.code yX0_commonDivisor cX0_commonDivisor 7 (some (.object "ClosedSums$Polynomial")), Cond.fieldLink RX0 10 "ClosedSums$Division" "first" "LClosedSums$Polynomial;", Cond.fieldLink RX0 16 "ClosedSums$Division" "second" "LClosedSums$Polynomial;", Cond.fieldLink RX0 19 "ClosedSums$Division" "quotient" "LClosedSums$Polynomial;", Cond.fieldLink RX0 22 "ClosedSums$Division" "common" "LClosedSums$Polynomial;", Cond.methodLink RX0 25 yX4_copyFrom, Cond.methodLink RX0 29 yX4_isZero]
def wsL_split_r4 : List Cond := [Cond.methodLink RX0 33 yX4_divideBy, Cond.instanceMethod yX4_divideBy, Cond.selects RX4 yX4_divideBy yX4_divideBy, Cond.code yX4_divideBy cX4_divideBy 7 none, Cond.methodLink RX4 40 yX4_becomeNumber, Cond.methodLink RX4 33 yX4_isZero, Cond.methodLink RX4 43 yX4_leading, Cond.instanceMethod yX4_leading, Cond.selects RX4 yX4_leading yX4_leading, Cond.code yX4_leading cX4_leading 1 (some .int), Cond.static yX7_inverse, Cond.code yX7_inverse cX7_inverse 4 (some .int), Cond.methodLink RX4 50 yX4_setNumber, Cond.instanceMethod yX4_setNumber, Cond.selects RX4 yX4_setNumber yX4_setNumber, Cond.code yX4_setNumber cX4_setNumber 3 none, Cond.methodLink RX4 23 Lib.Math.max.name, Cond.static Lib.Math.max.name, Cond.code Lib.Math.max.name Lib.Math.max.code 2 (some .int), Cond.methodLink RX4 29 yX4_settle, Cond.instanceMethod yX4_settle, Cond.selects RX4 yX4_settle yX4_settle, Cond.code yX4_settle cX4_settle 3 none, Cond.static yX7_negative]
def wsL_split_r5 : List Cond := [Cond.code yX7_negative cX7_negative 1 (some .int), Cond.methodLink RX4 57 yX4_addMultiple, Cond.instanceMethod yX4_addMultiple, Cond.selects RX4 yX4_addMultiple yX4_addMultiple, Cond.code yX4_addMultiple cX4_addMultiple 7 none, Cond.methodLink RX0 37 yX4_leading, Cond.methodLink RX0 47 yX4_scaleBy, Cond.instanceMethod yX4_scaleBy, Cond.selects RX4 yX4_scaleBy yX4_scaleBy, Cond.code yX4_scaleBy cX4_scaleBy 3 none, Cond.methodLink RX6 52 yX4_highest, Cond.instanceMethod yX4_highest, Cond.selects RX4 yX4_highest yX4_highest, Cond.code yX4_highest cX4_highest 1 (some .int), Cond.methodLink RX6 56 yX0_divideOut, Cond.instanceMethod yX0_divideOut, Cond.selects RX0 yX0_divideOut yX0_divideOut, Cond.code yX0_divideOut cX0_divideOut 3 none, Cond.methodLink RX6 60 yX4_multiplyBy, Cond.instanceMethod yX4_multiplyBy, Cond.selects RX4 yX4_multiplyBy yX4_multiplyBy, Cond.code yX4_multiplyBy cX4_multiplyBy 6 none, Cond.methodLink RX7 104 yX6_part, Cond.instanceMethod yX6_part]
def wsL_split_r6 : List Cond := [Cond.selects RX6 yX6_part yX6_part, Cond.code yX6_part cX6_part 2 (some (.object "ClosedSums$Polynomial")), Cond.methodLink RX7 73 yX4_number]
def wsL_split : List Cond := .codeWith yL_split cL_split 5 (some .int) [(0, 10, 13, 23), (0, 10, 17, 25)] :: ((wsL_split_r1 ++ (wsL_split_r2 ++ (wsL_split_r3 ++ (wsL_split_r4 ++ (wsL_split_r5 ++ wsL_split_r6))))) ++ wsX70 ++ wsX40 ++ wsX60 ++ wsX00 ++ (vx_atS RX7 176 "java/lang/IllegalStateException" ["java/lang/RuntimeException", "java/lang/Exception"]).filter goodWord ++ (vx_atS RX7 91 "java/lang/IllegalArgumentException" ["java/lang/RuntimeException", "java/lang/Exception"]).filter goodWord)
def wsL_run_r1 : List Cond := [Cond.classLink RL 23 "java/lang/IllegalStateException", Cond.methodLink RL 34 yX7_run, Cond.instanceMethod yX7_run, Cond.selects RX7 yX7_run yX7_run, Cond.initialized RX7, Cond.code yX7_run cX7_run 1 (some .int), Cond.fieldLink RX7 29 "ClosedSums" "parts" "LClosedSums$RatioSplit;", Cond.fieldLink RX7 10 "ClosedSums" "ratioTop" "LClosedSums$Polynomial;", Cond.fieldLink RX7 16 "ClosedSums" "ratioBottom" "LClosedSums$Polynomial;", Cond.fieldLink RX7 22 "ClosedSums" "division" "LClosedSums$Division;", Cond.fieldLink RX7 36 "ClosedSums" "equation" "LClosedSums$Equation;", Cond.methodLink RX7 84 yX7_requireRatio, Cond.instanceMethod yX7_requireRatio, Cond.selects RX7 yX7_requireRatio yX7_requireRatio, Cond.code yX7_requireRatio cX7_requireRatio 1 none, Cond.classLink RX7 172 "java/lang/IllegalStateException", Cond.initialized "java/lang/IllegalStateException", Cond.methodLink RX7 168 yX4_isZero, Cond.instanceMethod yX4_isZero, Cond.selects RX4 yX4_isZero yX4_isZero, Cond.initialized RX4, Cond.code yX4_isZero cX4_isZero 1 (some .boolean), Cond.fieldLink RX4 15 "ClosedSums$Polynomial" "highest" "I", Cond.methodLink RX7 94 yX6_renew]
def wsL_run_r2 : List Cond := [Cond.instanceMethod yX6_renew, Cond.selects RX6 yX6_renew yX6_renew, Cond.initialized RX6, Cond.code yX6_renew cX6_renew 7 none, Cond.fieldLink RX6 31 "ClosedSums$RatioSplit" "known" "Z", Cond.fieldLink RX6 12 "ClosedSums$RatioSplit" "top" "LClosedSums$Polynomial;", Cond.fieldLink RX6 18 "ClosedSums$RatioSplit" "bottom" "LClosedSums$Polynomial;", Cond.fieldLink RX6 21 "ClosedSums$RatioSplit" "extra" "LClosedSums$Polynomial;", Cond.fieldLink RX6 27 "ClosedSums$RatioSplit" "commonDegrees" "[I", Cond.fieldLink RX6 24 "ClosedSums$RatioSplit" "moved" "LClosedSums$Polynomial;", Cond.methodLink RX6 35 yX4_copyFrom, Cond.instanceMethod yX4_copyFrom, Cond.selects RX4 yX4_copyFrom yX4_copyFrom, Cond.code yX4_copyFrom cX4_copyFrom 3 none, Cond.fieldLink RX4 11 "ClosedSums$Polynomial" "numbers" "[I", Cond.methodLink RX4 19 yX4_number, Cond.instanceMethod yX4_number, Cond.selects RX4 yX4_number yX4_number, Cond.code yX4_number cX4_number 2 (some .int), Cond.methodLink RX6 39 yX4_becomeNumber, Cond.instanceMethod yX4_becomeNumber, Cond.selects RX4 yX4_becomeNumber yX4_becomeNumber, Cond.code yX4_becomeNumber cX4_becomeNumber 3 none, Cond.methodLink RX6 43 yX4_moveBy]
def wsL_run_r3 : List Cond := [Cond.instanceMethod yX4_moveBy, Cond.selects RX4 yX4_moveBy yX4_moveBy, Cond.code yX4_moveBy cX4_moveBy 4 none, Cond.methodLink RX4 37 Lib.Math.min.name, Cond.static Lib.Math.min.name, Cond.initialized "java/lang/Math", Cond.code Lib.Math.min.name Lib.Math.min.code 2 (some .int), Cond.methodLink RX6 46 yX0_commonDivisor, Cond.instanceMethod yX0_commonDivisor, Cond.selects RX0 yX0_commonDivisor yX0_commonDivisor, Cond.initialized RX0, Cond.code yX0_commonDivisor cX0_commonDivisor 7 (some (.object "ClosedSums$Polynomial")), Cond.fieldLink RX0 10 "ClosedSums$Division" "first" "LClosedSums$Polynomial;", Cond.fieldLink RX0 16 "ClosedSums$Division" "second" "LClosedSums$Polynomial;", Cond.fieldLink RX0 19 "ClosedSums$Division" "quotient" "LClosedSums$Polynomial;", Cond.fieldLink RX0 22 "ClosedSums$Division" "common" "LClosedSums$Polynomial;", Cond.methodLink RX0 25 yX4_copyFrom, Cond.methodLink RX0 29 yX4_isZero, Cond.methodLink RX0 33 yX4_divideBy, Cond.instanceMethod yX4_divideBy, Cond.selects RX4 yX4_divideBy yX4_divideBy, Cond.code yX4_divideBy cX4_divideBy 7 none, Cond.methodLink RX4 40 yX4_becomeNumber, Cond.methodLink RX4 33 yX4_isZero]
def wsL_run_r4 : List Cond := [Cond.methodLink RX4 43 yX4_leading, Cond.instanceMethod yX4_leading, Cond.selects RX4 yX4_leading yX4_leading, Cond.code yX4_leading cX4_leading 1 (some .int), Cond.static yX7_inverse, Cond.code yX7_inverse cX7_inverse 4 (some .int), Cond.methodLink RX4 50 yX4_setNumber, Cond.instanceMethod yX4_setNumber, Cond.selects RX4 yX4_setNumber yX4_setNumber, Cond.code yX4_setNumber cX4_setNumber 3 none, Cond.methodLink RX4 23 Lib.Math.max.name, Cond.static Lib.Math.max.name, Cond.code Lib.Math.max.name Lib.Math.max.code 2 (some .int), Cond.methodLink RX4 29 yX4_settle, Cond.instanceMethod yX4_settle, Cond.selects RX4 yX4_settle yX4_settle, Cond.code yX4_settle cX4_settle 3 none, Cond.static yX7_negative, Cond.code yX7_negative cX7_negative 1 (some .int), Cond.methodLink RX4 57 yX4_addMultiple, Cond.instanceMethod yX4_addMultiple, Cond.selects RX4 yX4_addMultiple yX4_addMultiple, Cond.code yX4_addMultiple cX4_addMultiple 7 none, Cond.methodLink RX0 37 yX4_leading]
def wsL_run_r5 : List Cond := [Cond.methodLink RX0 47 yX4_scaleBy, Cond.instanceMethod yX4_scaleBy, Cond.selects RX4 yX4_scaleBy yX4_scaleBy, Cond.code yX4_scaleBy cX4_scaleBy 3 none, Cond.methodLink RX6 52 yX4_highest, Cond.instanceMethod yX4_highest, Cond.selects RX4 yX4_highest yX4_highest, Cond.code yX4_highest cX4_highest 1 (some .int), Cond.methodLink RX6 56 yX0_divideOut, Cond.instanceMethod yX0_divideOut, Cond.selects RX0 yX0_divideOut yX0_divideOut, Cond.code yX0_divideOut cX0_divideOut 3 none, Cond.methodLink RX6 60 yX4_multiplyBy, Cond.instanceMethod yX4_multiplyBy, Cond.selects RX4 yX4_multiplyBy yX4_multiplyBy, Cond.code yX4_multiplyBy cX4_multiplyBy 6 none, Cond.methodLink RX7 112 yX1_renew, Cond.instanceMethod yX1_renew, Cond.selects RX1 yX1_renew yX1_renew, Cond.initialized RX1, Cond.code yX1_renew cX1_renew 2 none, Cond.fieldLink RX1 42 "ClosedSums$Equation" "known" "Z", Cond.fieldLink RX1 38 "ClosedSums$Equation" "leastDegree" "I", Cond.fieldLink RX1 23 "ClosedSums$Equation" "remaining" "LClosedSums$Pair;"]
def wsL_run_r6 : List Cond := [Cond.fieldLink RX1 50 "ClosedSums$Pair" "origin" "LClosedSums$Polynomial;", Cond.methodLink RX1 53 yX1_start, Cond.instanceMethod yX1_start, Cond.selects RX1 yX1_start yX1_start, Cond.code yX1_start cX1_start 3 none, Cond.fieldLink RX1 19 "ClosedSums$Equation" "byHighest" "[LClosedSums$Pair;", Cond.fieldLink RX1 65 "ClosedSums$Pair" "image" "LClosedSums$Polynomial;", Cond.fieldLink RX1 28 "ClosedSums$Equation" "bottomBefore" "LClosedSums$Polynomial;", Cond.fieldLink RX1 32 "ClosedSums$Equation" "topGrown" "LClosedSums$Polynomial;", Cond.methodLink RX1 70 yX6_part, Cond.instanceMethod yX6_part, Cond.selects RX6 yX6_part yX6_part, Cond.code yX6_part cX6_part 2 (some (.object "ClosedSums$Polynomial")), Cond.methodLink RX1 74 yX4_copyFrom, Cond.methodLink RX1 78 yX4_becomeNumber, Cond.methodLink RX1 81 yX4_moveBy, Cond.methodLink RX1 57 yX1_solve, Cond.instanceMethod yX1_solve, Cond.selects RX1 yX1_solve yX1_solve, Cond.code yX1_solve cX1_solve 3 (some .int), Cond.fieldLink RX1 11 "ClosedSums$Equation" "pairs" "[LClosedSums$Pair;", Cond.methodLink RX1 84 yX1_fill, Cond.instanceMethod yX1_fill, Cond.selects RX1 yX1_fill yX1_fill]
def wsL_run_r7 : List Cond := [Cond.code yX1_fill cX1_fill 3 none, Cond.fieldLink RX1 35 "ClosedSums$Equation" "placeAfter" "LClosedSums$Polynomial;", Cond.methodLink RX1 46 yX4_setNumber, Cond.methodLink RX1 99 yX4_addMultiple, Cond.methodLink RX1 103 yX4_multiplyBy, Cond.methodLink RX1 88 yX1_lower, Cond.instanceMethod yX1_lower, Cond.selects RX1 yX1_lower yX1_lower, Cond.code yX1_lower cX1_lower 6 none, Cond.methodLink RX1 109 Lib.Math.min.name, Cond.methodLink RX1 106 yX4_highest, Cond.methodLink RX1 115 yX4_number, Cond.methodLink RX1 92 yX1_keep, Cond.instanceMethod yX1_keep, Cond.selects RX1 yX1_keep yX1_keep, Cond.code yX1_keep cX1_keep 4 none, Cond.methodLink RX1 122 yX4_leading, Cond.methodLink RX1 61 yX4_scaleBy, Cond.methodLink RX1 95 yX4_isZero, Cond.methodLink RX7 115 yX1_leastDegree, Cond.instanceMethod yX1_leastDegree, Cond.selects RX1 yX1_leastDegree yX1_leastDegree, Cond.code yX1_leastDegree cX1_leastDegree 1 (some .int)]
def wsL_run : List Cond := .codeWith yL_run cL_run 3 (some .int) [(0, 8, 11, 23)] :: ((wsL_run_r1 ++ (wsL_run_r2 ++ (wsL_run_r3 ++ (wsL_run_r4 ++ (wsL_run_r5 ++ (wsL_run_r6 ++ wsL_run_r7)))))) ++ wsX70 ++ wsX40 ++ wsX60 ++ wsX00 ++ wsX10 ++ wsX30 ++ (vx_atS RX7 176 "java/lang/IllegalStateException" ["java/lang/RuntimeException", "java/lang/Exception"]).filter goodWord)
def wsL_answer_r1 : List Cond := [Cond.classLink RL 23 "java/lang/IllegalStateException", Cond.methodLink RL 38 yX7_answer, Cond.instanceMethod yX7_answer, Cond.selects RX7 yX7_answer yX7_answer, Cond.initialized RX7, Cond.code yX7_answer cX7_answer 2 (some .int), Cond.fieldLink RX7 36 "ClosedSums" "equation" "LClosedSums$Equation;", Cond.methodLink RX7 118 yX7_requireAnswer, Cond.instanceMethod yX7_requireAnswer, Cond.selects RX7 yX7_requireAnswer yX7_requireAnswer, Cond.code yX7_requireAnswer cX7_requireAnswer 1 none, Cond.classLink RX7 172 "java/lang/IllegalStateException", Cond.initialized "java/lang/IllegalStateException", Cond.fieldLink RX7 29 "ClosedSums" "parts" "LClosedSums$RatioSplit;", Cond.fieldLink RX7 10 "ClosedSums" "ratioTop" "LClosedSums$Polynomial;", Cond.fieldLink RX7 16 "ClosedSums" "ratioBottom" "LClosedSums$Polynomial;", Cond.fieldLink RX7 22 "ClosedSums" "division" "LClosedSums$Division;", Cond.methodLink RX7 84 yX7_requireRatio, Cond.instanceMethod yX7_requireRatio, Cond.selects RX7 yX7_requireRatio yX7_requireRatio, Cond.code yX7_requireRatio cX7_requireRatio 1 none, Cond.methodLink RX7 168 yX4_isZero, Cond.instanceMethod yX4_isZero, Cond.selects RX4 yX4_isZero yX4_isZero]
def wsL_answer_r2 : List Cond := [Cond.initialized RX4, Cond.code yX4_isZero cX4_isZero 1 (some .boolean), Cond.fieldLink RX4 15 "ClosedSums$Polynomial" "highest" "I", Cond.methodLink RX7 94 yX6_renew, Cond.instanceMethod yX6_renew, Cond.selects RX6 yX6_renew yX6_renew, Cond.initialized RX6, Cond.code yX6_renew cX6_renew 7 none, Cond.fieldLink RX6 31 "ClosedSums$RatioSplit" "known" "Z", Cond.fieldLink RX6 12 "ClosedSums$RatioSplit" "top" "LClosedSums$Polynomial;", Cond.fieldLink RX6 18 "ClosedSums$RatioSplit" "bottom" "LClosedSums$Polynomial;", Cond.fieldLink RX6 21 "ClosedSums$RatioSplit" "extra" "LClosedSums$Polynomial;", Cond.fieldLink RX6 27 "ClosedSums$RatioSplit" "commonDegrees" "[I", Cond.fieldLink RX6 24 "ClosedSums$RatioSplit" "moved" "LClosedSums$Polynomial;", Cond.methodLink RX6 35 yX4_copyFrom, Cond.instanceMethod yX4_copyFrom, Cond.selects RX4 yX4_copyFrom yX4_copyFrom, Cond.code yX4_copyFrom cX4_copyFrom 3 none, Cond.fieldLink RX4 11 "ClosedSums$Polynomial" "numbers" "[I", Cond.methodLink RX4 19 yX4_number, Cond.instanceMethod yX4_number, Cond.selects RX4 yX4_number yX4_number, Cond.code yX4_number cX4_number 2 (some .int), Cond.methodLink RX6 39 yX4_becomeNumber]
def wsL_answer_r3 : List Cond := [Cond.instanceMethod yX4_becomeNumber, Cond.selects RX4 yX4_becomeNumber yX4_becomeNumber, Cond.code yX4_becomeNumber cX4_becomeNumber 3 none, Cond.methodLink RX6 43 yX4_moveBy, Cond.instanceMethod yX4_moveBy, Cond.selects RX4 yX4_moveBy yX4_moveBy, Cond.code yX4_moveBy cX4_moveBy 4 none, Cond.methodLink RX4 37 Lib.Math.min.name, Cond.static Lib.Math.min.name, Cond.initialized "java/lang/Math", Cond.code Lib.Math.min.name Lib.Math.min.code 2 (some .int), Cond.methodLink RX6 46 yX0_commonDivisor, Cond.instanceMethod yX0_commonDivisor, Cond.selects RX0 yX0_commonDivisor yX0_commonDivisor, Cond.initialized RX0, Cond.code yX0_commonDivisor cX0_commonDivisor 7 (some (.object "ClosedSums$Polynomial")), Cond.fieldLink RX0 10 "ClosedSums$Division" "first" "LClosedSums$Polynomial;", Cond.fieldLink RX0 16 "ClosedSums$Division" "second" "LClosedSums$Polynomial;", Cond.fieldLink RX0 19 "ClosedSums$Division" "quotient" "LClosedSums$Polynomial;", Cond.fieldLink RX0 22 "ClosedSums$Division" "common" "LClosedSums$Polynomial;", Cond.methodLink RX0 25 yX4_copyFrom, Cond.methodLink RX0 29 yX4_isZero, Cond.methodLink RX0 33 yX4_divideBy, Cond.instanceMethod yX4_divideBy]
def wsL_answer_r4 : List Cond := [Cond.selects RX4 yX4_divideBy yX4_divideBy, Cond.code yX4_divideBy cX4_divideBy 7 none, Cond.methodLink RX4 40 yX4_becomeNumber, Cond.methodLink RX4 33 yX4_isZero, Cond.methodLink RX4 43 yX4_leading, Cond.instanceMethod yX4_leading, Cond.selects RX4 yX4_leading yX4_leading, Cond.code yX4_leading cX4_leading 1 (some .int), Cond.static yX7_inverse, Cond.code yX7_inverse cX7_inverse 4 (some .int), Cond.methodLink RX4 50 yX4_setNumber, Cond.instanceMethod yX4_setNumber, Cond.selects RX4 yX4_setNumber yX4_setNumber, Cond.code yX4_setNumber cX4_setNumber 3 none, Cond.methodLink RX4 23 Lib.Math.max.name, Cond.static Lib.Math.max.name, Cond.code Lib.Math.max.name Lib.Math.max.code 2 (some .int), Cond.methodLink RX4 29 yX4_settle, Cond.instanceMethod yX4_settle, Cond.selects RX4 yX4_settle yX4_settle, Cond.code yX4_settle cX4_settle 3 none, Cond.static yX7_negative, Cond.code yX7_negative cX7_negative 1 (some .int), Cond.methodLink RX4 57 yX4_addMultiple]
def wsL_answer_r5 : List Cond := [Cond.instanceMethod yX4_addMultiple, Cond.selects RX4 yX4_addMultiple yX4_addMultiple, Cond.code yX4_addMultiple cX4_addMultiple 7 none, Cond.methodLink RX0 37 yX4_leading, Cond.methodLink RX0 47 yX4_scaleBy, Cond.instanceMethod yX4_scaleBy, Cond.selects RX4 yX4_scaleBy yX4_scaleBy, Cond.code yX4_scaleBy cX4_scaleBy 3 none, Cond.methodLink RX6 52 yX4_highest, Cond.instanceMethod yX4_highest, Cond.selects RX4 yX4_highest yX4_highest, Cond.code yX4_highest cX4_highest 1 (some .int), Cond.methodLink RX6 56 yX0_divideOut, Cond.instanceMethod yX0_divideOut, Cond.selects RX0 yX0_divideOut yX0_divideOut, Cond.code yX0_divideOut cX0_divideOut 3 none, Cond.methodLink RX6 60 yX4_multiplyBy, Cond.instanceMethod yX4_multiplyBy, Cond.selects RX4 yX4_multiplyBy yX4_multiplyBy, Cond.code yX4_multiplyBy cX4_multiplyBy 6 none, Cond.methodLink RX7 112 yX1_renew, Cond.instanceMethod yX1_renew, Cond.selects RX1 yX1_renew yX1_renew, Cond.initialized RX1]
def wsL_answer_r6 : List Cond := [Cond.code yX1_renew cX1_renew 2 none, Cond.fieldLink RX1 42 "ClosedSums$Equation" "known" "Z", Cond.fieldLink RX1 38 "ClosedSums$Equation" "leastDegree" "I", Cond.fieldLink RX1 23 "ClosedSums$Equation" "remaining" "LClosedSums$Pair;", Cond.fieldLink RX1 50 "ClosedSums$Pair" "origin" "LClosedSums$Polynomial;", Cond.methodLink RX1 53 yX1_start, Cond.instanceMethod yX1_start, Cond.selects RX1 yX1_start yX1_start, Cond.code yX1_start cX1_start 3 none, Cond.fieldLink RX1 19 "ClosedSums$Equation" "byHighest" "[LClosedSums$Pair;", Cond.fieldLink RX1 65 "ClosedSums$Pair" "image" "LClosedSums$Polynomial;", Cond.fieldLink RX1 28 "ClosedSums$Equation" "bottomBefore" "LClosedSums$Polynomial;", Cond.fieldLink RX1 32 "ClosedSums$Equation" "topGrown" "LClosedSums$Polynomial;", Cond.methodLink RX1 70 yX6_part, Cond.instanceMethod yX6_part, Cond.selects RX6 yX6_part yX6_part, Cond.code yX6_part cX6_part 2 (some (.object "ClosedSums$Polynomial")), Cond.methodLink RX1 74 yX4_copyFrom, Cond.methodLink RX1 78 yX4_becomeNumber, Cond.methodLink RX1 81 yX4_moveBy, Cond.methodLink RX1 57 yX1_solve, Cond.instanceMethod yX1_solve, Cond.selects RX1 yX1_solve yX1_solve, Cond.code yX1_solve cX1_solve 3 (some .int)]
def wsL_answer_r7 : List Cond := [Cond.fieldLink RX1 11 "ClosedSums$Equation" "pairs" "[LClosedSums$Pair;", Cond.methodLink RX1 84 yX1_fill, Cond.instanceMethod yX1_fill, Cond.selects RX1 yX1_fill yX1_fill, Cond.code yX1_fill cX1_fill 3 none, Cond.fieldLink RX1 35 "ClosedSums$Equation" "placeAfter" "LClosedSums$Polynomial;", Cond.methodLink RX1 46 yX4_setNumber, Cond.methodLink RX1 99 yX4_addMultiple, Cond.methodLink RX1 103 yX4_multiplyBy, Cond.methodLink RX1 88 yX1_lower, Cond.instanceMethod yX1_lower, Cond.selects RX1 yX1_lower yX1_lower, Cond.code yX1_lower cX1_lower 6 none, Cond.methodLink RX1 109 Lib.Math.min.name, Cond.methodLink RX1 106 yX4_highest, Cond.methodLink RX1 115 yX4_number, Cond.methodLink RX1 92 yX1_keep, Cond.instanceMethod yX1_keep, Cond.selects RX1 yX1_keep yX1_keep, Cond.code yX1_keep cX1_keep 4 none, Cond.methodLink RX1 122 yX4_leading, Cond.methodLink RX1 61 yX4_scaleBy, Cond.methodLink RX1 95 yX4_isZero, Cond.methodLink RX7 115 yX1_leastDegree]
def wsL_answer_r8 : List Cond := [Cond.instanceMethod yX1_leastDegree, Cond.selects RX1 yX1_leastDegree yX1_leastDegree, Cond.code yX1_leastDegree cX1_leastDegree 1 (some .int), Cond.methodLink RX7 121 yX1_solution, Cond.instanceMethod yX1_solution, Cond.selects RX1 yX1_solution yX1_solution, Cond.code yX1_solution cX1_solution 1 (some (.object "ClosedSums$Polynomial")), Cond.methodLink RX7 73 yX4_number]
def wsL_answer : List Cond := .codeWith yL_answer cL_answer 4 (some .int) [(0, 9, 12, 23)] :: ((wsL_answer_r1 ++ (wsL_answer_r2 ++ (wsL_answer_r3 ++ (wsL_answer_r4 ++ (wsL_answer_r5 ++ (wsL_answer_r6 ++ (wsL_answer_r7 ++ wsL_answer_r8))))))) ++ wsX70 ++ wsX40 ++ wsX60 ++ wsX00 ++ wsX10 ++ wsX30 ++ (vx_atS RX7 176 "java/lang/IllegalStateException" ["java/lang/RuntimeException", "java/lang/Exception"]).filter goodWord)
def wsL_closed_r1 : List Cond := [Cond.classLink RL 23 "java/lang/IllegalStateException", Cond.methodLink RL 41 yX7_closed, Cond.instanceMethod yX7_closed, Cond.selects RX7 yX7_closed yX7_closed, Cond.initialized RX7, Cond.code yX7_closed cX7_closed 3 (some .int), Cond.fieldLink RX7 43 "ClosedSums" "fraction" "LClosedSums$Fraction;", Cond.fieldLink RX7 29 "ClosedSums" "parts" "LClosedSums$RatioSplit;", Cond.fieldLink RX7 36 "ClosedSums" "equation" "LClosedSums$Equation;", Cond.fieldLink RX7 22 "ClosedSums" "division" "LClosedSums$Division;", Cond.methodLink RX7 118 yX7_requireAnswer, Cond.instanceMethod yX7_requireAnswer, Cond.selects RX7 yX7_requireAnswer yX7_requireAnswer, Cond.code yX7_requireAnswer cX7_requireAnswer 1 none, Cond.classLink RX7 172 "java/lang/IllegalStateException", Cond.initialized "java/lang/IllegalStateException", Cond.fieldLink RX7 10 "ClosedSums" "ratioTop" "LClosedSums$Polynomial;", Cond.fieldLink RX7 16 "ClosedSums" "ratioBottom" "LClosedSums$Polynomial;", Cond.methodLink RX7 84 yX7_requireRatio, Cond.instanceMethod yX7_requireRatio, Cond.selects RX7 yX7_requireRatio yX7_requireRatio, Cond.code yX7_requireRatio cX7_requireRatio 1 none, Cond.methodLink RX7 168 yX4_isZero, Cond.instanceMethod yX4_isZero]
def wsL_closed_r2 : List Cond := [Cond.selects RX4 yX4_isZero yX4_isZero, Cond.initialized RX4, Cond.code yX4_isZero cX4_isZero 1 (some .boolean), Cond.fieldLink RX4 15 "ClosedSums$Polynomial" "highest" "I", Cond.methodLink RX7 94 yX6_renew, Cond.instanceMethod yX6_renew, Cond.selects RX6 yX6_renew yX6_renew, Cond.initialized RX6, Cond.code yX6_renew cX6_renew 7 none, Cond.fieldLink RX6 31 "ClosedSums$RatioSplit" "known" "Z", Cond.fieldLink RX6 12 "ClosedSums$RatioSplit" "top" "LClosedSums$Polynomial;", Cond.fieldLink RX6 18 "ClosedSums$RatioSplit" "bottom" "LClosedSums$Polynomial;", Cond.fieldLink RX6 21 "ClosedSums$RatioSplit" "extra" "LClosedSums$Polynomial;", Cond.fieldLink RX6 27 "ClosedSums$RatioSplit" "commonDegrees" "[I", Cond.fieldLink RX6 24 "ClosedSums$RatioSplit" "moved" "LClosedSums$Polynomial;", Cond.methodLink RX6 35 yX4_copyFrom, Cond.instanceMethod yX4_copyFrom, Cond.selects RX4 yX4_copyFrom yX4_copyFrom, Cond.code yX4_copyFrom cX4_copyFrom 3 none, Cond.fieldLink RX4 11 "ClosedSums$Polynomial" "numbers" "[I", Cond.methodLink RX4 19 yX4_number, Cond.instanceMethod yX4_number, Cond.selects RX4 yX4_number yX4_number, Cond.code yX4_number cX4_number 2 (some .int)]
def wsL_closed_r3 : List Cond := [Cond.methodLink RX6 39 yX4_becomeNumber, Cond.instanceMethod yX4_becomeNumber, Cond.selects RX4 yX4_becomeNumber yX4_becomeNumber, Cond.code yX4_becomeNumber cX4_becomeNumber 3 none, Cond.methodLink RX6 43 yX4_moveBy, Cond.instanceMethod yX4_moveBy, Cond.selects RX4 yX4_moveBy yX4_moveBy, Cond.code yX4_moveBy cX4_moveBy 4 none, Cond.methodLink RX4 37 Lib.Math.min.name, Cond.static Lib.Math.min.name, Cond.initialized "java/lang/Math", Cond.code Lib.Math.min.name Lib.Math.min.code 2 (some .int), Cond.methodLink RX6 46 yX0_commonDivisor, Cond.instanceMethod yX0_commonDivisor, Cond.selects RX0 yX0_commonDivisor yX0_commonDivisor, Cond.initialized RX0, Cond.code yX0_commonDivisor cX0_commonDivisor 7 (some (.object "ClosedSums$Polynomial")), Cond.fieldLink RX0 10 "ClosedSums$Division" "first" "LClosedSums$Polynomial;", Cond.fieldLink RX0 16 "ClosedSums$Division" "second" "LClosedSums$Polynomial;", Cond.fieldLink RX0 19 "ClosedSums$Division" "quotient" "LClosedSums$Polynomial;", Cond.fieldLink RX0 22 "ClosedSums$Division" "common" "LClosedSums$Polynomial;", Cond.methodLink RX0 25 yX4_copyFrom, Cond.methodLink RX0 29 yX4_isZero, Cond.methodLink RX0 33 yX4_divideBy]
def wsL_closed_r4 : List Cond := [Cond.instanceMethod yX4_divideBy, Cond.selects RX4 yX4_divideBy yX4_divideBy, Cond.code yX4_divideBy cX4_divideBy 7 none, Cond.methodLink RX4 40 yX4_becomeNumber, Cond.methodLink RX4 33 yX4_isZero, Cond.methodLink RX4 43 yX4_leading, Cond.instanceMethod yX4_leading, Cond.selects RX4 yX4_leading yX4_leading, Cond.code yX4_leading cX4_leading 1 (some .int), Cond.static yX7_inverse, Cond.code yX7_inverse cX7_inverse 4 (some .int), Cond.methodLink RX4 50 yX4_setNumber, Cond.instanceMethod yX4_setNumber, Cond.selects RX4 yX4_setNumber yX4_setNumber, Cond.code yX4_setNumber cX4_setNumber 3 none, Cond.methodLink RX4 23 Lib.Math.max.name, Cond.static Lib.Math.max.name, Cond.code Lib.Math.max.name Lib.Math.max.code 2 (some .int), Cond.methodLink RX4 29 yX4_settle, Cond.instanceMethod yX4_settle, Cond.selects RX4 yX4_settle yX4_settle, Cond.code yX4_settle cX4_settle 3 none, Cond.static yX7_negative, Cond.code yX7_negative cX7_negative 1 (some .int)]
def wsL_closed_r5 : List Cond := [Cond.methodLink RX4 57 yX4_addMultiple, Cond.instanceMethod yX4_addMultiple, Cond.selects RX4 yX4_addMultiple yX4_addMultiple, Cond.code yX4_addMultiple cX4_addMultiple 7 none, Cond.methodLink RX0 37 yX4_leading, Cond.methodLink RX0 47 yX4_scaleBy, Cond.instanceMethod yX4_scaleBy, Cond.selects RX4 yX4_scaleBy yX4_scaleBy, Cond.code yX4_scaleBy cX4_scaleBy 3 none, Cond.methodLink RX6 52 yX4_highest, Cond.instanceMethod yX4_highest, Cond.selects RX4 yX4_highest yX4_highest, Cond.code yX4_highest cX4_highest 1 (some .int), Cond.methodLink RX6 56 yX0_divideOut, Cond.instanceMethod yX0_divideOut, Cond.selects RX0 yX0_divideOut yX0_divideOut, Cond.code yX0_divideOut cX0_divideOut 3 none, Cond.methodLink RX6 60 yX4_multiplyBy, Cond.instanceMethod yX4_multiplyBy, Cond.selects RX4 yX4_multiplyBy yX4_multiplyBy, Cond.code yX4_multiplyBy cX4_multiplyBy 6 none, Cond.methodLink RX7 112 yX1_renew, Cond.instanceMethod yX1_renew, Cond.selects RX1 yX1_renew yX1_renew]
def wsL_closed_r6 : List Cond := [Cond.initialized RX1, Cond.code yX1_renew cX1_renew 2 none, Cond.fieldLink RX1 42 "ClosedSums$Equation" "known" "Z", Cond.fieldLink RX1 38 "ClosedSums$Equation" "leastDegree" "I", Cond.fieldLink RX1 23 "ClosedSums$Equation" "remaining" "LClosedSums$Pair;", Cond.fieldLink RX1 50 "ClosedSums$Pair" "origin" "LClosedSums$Polynomial;", Cond.methodLink RX1 53 yX1_start, Cond.instanceMethod yX1_start, Cond.selects RX1 yX1_start yX1_start, Cond.code yX1_start cX1_start 3 none, Cond.fieldLink RX1 19 "ClosedSums$Equation" "byHighest" "[LClosedSums$Pair;", Cond.fieldLink RX1 65 "ClosedSums$Pair" "image" "LClosedSums$Polynomial;", Cond.fieldLink RX1 28 "ClosedSums$Equation" "bottomBefore" "LClosedSums$Polynomial;", Cond.fieldLink RX1 32 "ClosedSums$Equation" "topGrown" "LClosedSums$Polynomial;", Cond.methodLink RX1 70 yX6_part, Cond.instanceMethod yX6_part, Cond.selects RX6 yX6_part yX6_part, Cond.code yX6_part cX6_part 2 (some (.object "ClosedSums$Polynomial")), Cond.methodLink RX1 74 yX4_copyFrom, Cond.methodLink RX1 78 yX4_becomeNumber, Cond.methodLink RX1 81 yX4_moveBy, Cond.methodLink RX1 57 yX1_solve, Cond.instanceMethod yX1_solve, Cond.selects RX1 yX1_solve yX1_solve]
def wsL_closed_r7 : List Cond := [Cond.code yX1_solve cX1_solve 3 (some .int), Cond.fieldLink RX1 11 "ClosedSums$Equation" "pairs" "[LClosedSums$Pair;", Cond.methodLink RX1 84 yX1_fill, Cond.instanceMethod yX1_fill, Cond.selects RX1 yX1_fill yX1_fill, Cond.code yX1_fill cX1_fill 3 none, Cond.fieldLink RX1 35 "ClosedSums$Equation" "placeAfter" "LClosedSums$Polynomial;", Cond.methodLink RX1 46 yX4_setNumber, Cond.methodLink RX1 99 yX4_addMultiple, Cond.methodLink RX1 103 yX4_multiplyBy, Cond.methodLink RX1 88 yX1_lower, Cond.instanceMethod yX1_lower, Cond.selects RX1 yX1_lower yX1_lower, Cond.code yX1_lower cX1_lower 6 none, Cond.methodLink RX1 109 Lib.Math.min.name, Cond.methodLink RX1 106 yX4_highest, Cond.methodLink RX1 115 yX4_number, Cond.methodLink RX1 92 yX1_keep, Cond.instanceMethod yX1_keep, Cond.selects RX1 yX1_keep yX1_keep, Cond.code yX1_keep cX1_keep 4 none, Cond.methodLink RX1 122 yX4_leading, Cond.methodLink RX1 61 yX4_scaleBy, Cond.methodLink RX1 95 yX4_isZero]
def wsL_closed_r8 : List Cond := [Cond.methodLink RX7 115 yX1_leastDegree, Cond.instanceMethod yX1_leastDegree, Cond.selects RX1 yX1_leastDegree yX1_leastDegree, Cond.code yX1_leastDegree cX1_leastDegree 1 (some .int), Cond.methodLink RX7 125 yX2_renew, Cond.instanceMethod yX2_renew, Cond.selects RX2 yX2_renew yX2_renew, Cond.initialized RX2, Cond.code yX2_renew cX2_renew 5 none, Cond.fieldLink RX2 21 "ClosedSums$Fraction" "known" "Z", Cond.fieldLink RX2 12 "ClosedSums$Fraction" "top" "LClosedSums$Polynomial;", Cond.fieldLink RX2 18 "ClosedSums$Fraction" "bottom" "LClosedSums$Polynomial;", Cond.methodLink RX2 25 yX1_bottomBefore, Cond.instanceMethod yX1_bottomBefore, Cond.selects RX1 yX1_bottomBefore yX1_bottomBefore, Cond.code yX1_bottomBefore cX1_bottomBefore 1 (some (.object "ClosedSums$Polynomial")), Cond.methodLink RX2 31 yX4_copyFrom, Cond.methodLink RX2 35 yX1_solution, Cond.instanceMethod yX1_solution, Cond.selects RX1 yX1_solution yX1_solution, Cond.code yX1_solution cX1_solution 1 (some (.object "ClosedSums$Polynomial")), Cond.methodLink RX2 38 yX4_multiplyBy, Cond.methodLink RX2 43 yX6_part, Cond.methodLink RX2 47 yX0_commonDivisor]
def wsL_closed_r9 : List Cond := [Cond.methodLink RX2 53 yX0_divideOut, Cond.methodLink RX7 128 yX2_top, Cond.instanceMethod yX2_top, Cond.selects RX2 yX2_top yX2_top, Cond.code yX2_top cX2_top 1 (some (.object "ClosedSums$Polynomial")), Cond.methodLink RX7 131 yX2_bottom, Cond.instanceMethod yX2_bottom, Cond.selects RX2 yX2_bottom yX2_bottom, Cond.code yX2_bottom cX2_bottom 1 (some (.object "ClosedSums$Polynomial")), Cond.methodLink RX7 73 yX4_number]
def wsL_closed : List Cond := .codeWith yL_closed cL_closed 5 (some .int) [(0, 10, 13, 23)] :: ((wsL_closed_r1 ++ (wsL_closed_r2 ++ (wsL_closed_r3 ++ (wsL_closed_r4 ++ (wsL_closed_r5 ++ (wsL_closed_r6 ++ (wsL_closed_r7 ++ (wsL_closed_r8 ++ wsL_closed_r9)))))))) ++ wsX70 ++ wsX40 ++ wsX60 ++ wsX00 ++ wsX10 ++ wsX30 ++ wsX20 ++ (vx_atS RX7 176 "java/lang/IllegalStateException" ["java/lang/RuntimeException", "java/lang/Exception"]).filter goodWord)
def wsL_value_r1 : List Cond := [Cond.classLink RL 23 "java/lang/IllegalStateException", Cond.methodLink RL 44 yX7_value, Cond.instanceMethod yX7_value, Cond.selects RX7 yX7_value yX7_value, Cond.initialized RX7, Cond.code yX7_value cX7_value 3 (some .int), Cond.fieldLink RX7 43 "ClosedSums" "fraction" "LClosedSums$Fraction;", Cond.fieldLink RX7 29 "ClosedSums" "parts" "LClosedSums$RatioSplit;", Cond.fieldLink RX7 36 "ClosedSums" "equation" "LClosedSums$Equation;", Cond.fieldLink RX7 22 "ClosedSums" "division" "LClosedSums$Division;", Cond.constantLong RX7 65 (32003), Cond.methodLink RX7 118 yX7_requireAnswer, Cond.instanceMethod yX7_requireAnswer, Cond.selects RX7 yX7_requireAnswer yX7_requireAnswer, Cond.code yX7_requireAnswer cX7_requireAnswer 1 none, Cond.classLink RX7 172 "java/lang/IllegalStateException", Cond.initialized "java/lang/IllegalStateException", Cond.fieldLink RX7 10 "ClosedSums" "ratioTop" "LClosedSums$Polynomial;", Cond.fieldLink RX7 16 "ClosedSums" "ratioBottom" "LClosedSums$Polynomial;", Cond.methodLink RX7 84 yX7_requireRatio, Cond.instanceMethod yX7_requireRatio, Cond.selects RX7 yX7_requireRatio yX7_requireRatio, Cond.code yX7_requireRatio cX7_requireRatio 1 none, Cond.methodLink RX7 168 yX4_isZero]
def wsL_value_r2 : List Cond := [Cond.instanceMethod yX4_isZero, Cond.selects RX4 yX4_isZero yX4_isZero, Cond.initialized RX4, Cond.code yX4_isZero cX4_isZero 1 (some .boolean), Cond.fieldLink RX4 15 "ClosedSums$Polynomial" "highest" "I", Cond.methodLink RX7 94 yX6_renew, Cond.instanceMethod yX6_renew, Cond.selects RX6 yX6_renew yX6_renew, Cond.initialized RX6, Cond.code yX6_renew cX6_renew 7 none, Cond.fieldLink RX6 31 "ClosedSums$RatioSplit" "known" "Z", Cond.fieldLink RX6 12 "ClosedSums$RatioSplit" "top" "LClosedSums$Polynomial;", Cond.fieldLink RX6 18 "ClosedSums$RatioSplit" "bottom" "LClosedSums$Polynomial;", Cond.fieldLink RX6 21 "ClosedSums$RatioSplit" "extra" "LClosedSums$Polynomial;", Cond.fieldLink RX6 27 "ClosedSums$RatioSplit" "commonDegrees" "[I", Cond.fieldLink RX6 24 "ClosedSums$RatioSplit" "moved" "LClosedSums$Polynomial;", Cond.methodLink RX6 35 yX4_copyFrom, Cond.instanceMethod yX4_copyFrom, Cond.selects RX4 yX4_copyFrom yX4_copyFrom, Cond.code yX4_copyFrom cX4_copyFrom 3 none, Cond.fieldLink RX4 11 "ClosedSums$Polynomial" "numbers" "[I", Cond.methodLink RX4 19 yX4_number, Cond.instanceMethod yX4_number, Cond.selects RX4 yX4_number yX4_number]
def wsL_value_r3 : List Cond := [Cond.code yX4_number cX4_number 2 (some .int), Cond.methodLink RX6 39 yX4_becomeNumber, Cond.instanceMethod yX4_becomeNumber, Cond.selects RX4 yX4_becomeNumber yX4_becomeNumber, Cond.code yX4_becomeNumber cX4_becomeNumber 3 none, Cond.methodLink RX6 43 yX4_moveBy, Cond.instanceMethod yX4_moveBy, Cond.selects RX4 yX4_moveBy yX4_moveBy, Cond.code yX4_moveBy cX4_moveBy 4 none, Cond.methodLink RX4 37 Lib.Math.min.name, Cond.static Lib.Math.min.name, Cond.initialized "java/lang/Math", Cond.code Lib.Math.min.name Lib.Math.min.code 2 (some .int), Cond.methodLink RX6 46 yX0_commonDivisor, Cond.instanceMethod yX0_commonDivisor, Cond.selects RX0 yX0_commonDivisor yX0_commonDivisor, Cond.initialized RX0, Cond.code yX0_commonDivisor cX0_commonDivisor 7 (some (.object "ClosedSums$Polynomial")), Cond.fieldLink RX0 10 "ClosedSums$Division" "first" "LClosedSums$Polynomial;", Cond.fieldLink RX0 16 "ClosedSums$Division" "second" "LClosedSums$Polynomial;", Cond.fieldLink RX0 19 "ClosedSums$Division" "quotient" "LClosedSums$Polynomial;", Cond.fieldLink RX0 22 "ClosedSums$Division" "common" "LClosedSums$Polynomial;", Cond.methodLink RX0 25 yX4_copyFrom, Cond.methodLink RX0 29 yX4_isZero]
def wsL_value_r4 : List Cond := [Cond.methodLink RX0 33 yX4_divideBy, Cond.instanceMethod yX4_divideBy, Cond.selects RX4 yX4_divideBy yX4_divideBy, Cond.code yX4_divideBy cX4_divideBy 7 none, Cond.methodLink RX4 40 yX4_becomeNumber, Cond.methodLink RX4 33 yX4_isZero, Cond.methodLink RX4 43 yX4_leading, Cond.instanceMethod yX4_leading, Cond.selects RX4 yX4_leading yX4_leading, Cond.code yX4_leading cX4_leading 1 (some .int), Cond.static yX7_inverse, Cond.code yX7_inverse cX7_inverse 4 (some .int), Cond.methodLink RX4 50 yX4_setNumber, Cond.instanceMethod yX4_setNumber, Cond.selects RX4 yX4_setNumber yX4_setNumber, Cond.code yX4_setNumber cX4_setNumber 3 none, Cond.methodLink RX4 23 Lib.Math.max.name, Cond.static Lib.Math.max.name, Cond.code Lib.Math.max.name Lib.Math.max.code 2 (some .int), Cond.methodLink RX4 29 yX4_settle, Cond.instanceMethod yX4_settle, Cond.selects RX4 yX4_settle yX4_settle, Cond.code yX4_settle cX4_settle 3 none, Cond.static yX7_negative]
def wsL_value_r5 : List Cond := [Cond.code yX7_negative cX7_negative 1 (some .int), Cond.methodLink RX4 57 yX4_addMultiple, Cond.instanceMethod yX4_addMultiple, Cond.selects RX4 yX4_addMultiple yX4_addMultiple, Cond.code yX4_addMultiple cX4_addMultiple 7 none, Cond.methodLink RX0 37 yX4_leading, Cond.methodLink RX0 47 yX4_scaleBy, Cond.instanceMethod yX4_scaleBy, Cond.selects RX4 yX4_scaleBy yX4_scaleBy, Cond.code yX4_scaleBy cX4_scaleBy 3 none, Cond.methodLink RX6 52 yX4_highest, Cond.instanceMethod yX4_highest, Cond.selects RX4 yX4_highest yX4_highest, Cond.code yX4_highest cX4_highest 1 (some .int), Cond.methodLink RX6 56 yX0_divideOut, Cond.instanceMethod yX0_divideOut, Cond.selects RX0 yX0_divideOut yX0_divideOut, Cond.code yX0_divideOut cX0_divideOut 3 none, Cond.methodLink RX6 60 yX4_multiplyBy, Cond.instanceMethod yX4_multiplyBy, Cond.selects RX4 yX4_multiplyBy yX4_multiplyBy, Cond.code yX4_multiplyBy cX4_multiplyBy 6 none, Cond.methodLink RX7 112 yX1_renew, Cond.instanceMethod yX1_renew]
def wsL_value_r6 : List Cond := [Cond.selects RX1 yX1_renew yX1_renew, Cond.initialized RX1, Cond.code yX1_renew cX1_renew 2 none, Cond.fieldLink RX1 42 "ClosedSums$Equation" "known" "Z", Cond.fieldLink RX1 38 "ClosedSums$Equation" "leastDegree" "I", Cond.fieldLink RX1 23 "ClosedSums$Equation" "remaining" "LClosedSums$Pair;", Cond.fieldLink RX1 50 "ClosedSums$Pair" "origin" "LClosedSums$Polynomial;", Cond.methodLink RX1 53 yX1_start, Cond.instanceMethod yX1_start, Cond.selects RX1 yX1_start yX1_start, Cond.code yX1_start cX1_start 3 none, Cond.fieldLink RX1 19 "ClosedSums$Equation" "byHighest" "[LClosedSums$Pair;", Cond.fieldLink RX1 65 "ClosedSums$Pair" "image" "LClosedSums$Polynomial;", Cond.fieldLink RX1 28 "ClosedSums$Equation" "bottomBefore" "LClosedSums$Polynomial;", Cond.fieldLink RX1 32 "ClosedSums$Equation" "topGrown" "LClosedSums$Polynomial;", Cond.methodLink RX1 70 yX6_part, Cond.instanceMethod yX6_part, Cond.selects RX6 yX6_part yX6_part, Cond.code yX6_part cX6_part 2 (some (.object "ClosedSums$Polynomial")), Cond.methodLink RX1 74 yX4_copyFrom, Cond.methodLink RX1 78 yX4_becomeNumber, Cond.methodLink RX1 81 yX4_moveBy, Cond.methodLink RX1 57 yX1_solve, Cond.instanceMethod yX1_solve]
def wsL_value_r7 : List Cond := [Cond.selects RX1 yX1_solve yX1_solve, Cond.code yX1_solve cX1_solve 3 (some .int), Cond.fieldLink RX1 11 "ClosedSums$Equation" "pairs" "[LClosedSums$Pair;", Cond.methodLink RX1 84 yX1_fill, Cond.instanceMethod yX1_fill, Cond.selects RX1 yX1_fill yX1_fill, Cond.code yX1_fill cX1_fill 3 none, Cond.fieldLink RX1 35 "ClosedSums$Equation" "placeAfter" "LClosedSums$Polynomial;", Cond.methodLink RX1 46 yX4_setNumber, Cond.methodLink RX1 99 yX4_addMultiple, Cond.methodLink RX1 103 yX4_multiplyBy, Cond.methodLink RX1 88 yX1_lower, Cond.instanceMethod yX1_lower, Cond.selects RX1 yX1_lower yX1_lower, Cond.code yX1_lower cX1_lower 6 none, Cond.methodLink RX1 109 Lib.Math.min.name, Cond.methodLink RX1 106 yX4_highest, Cond.methodLink RX1 115 yX4_number, Cond.methodLink RX1 92 yX1_keep, Cond.instanceMethod yX1_keep, Cond.selects RX1 yX1_keep yX1_keep, Cond.code yX1_keep cX1_keep 4 none, Cond.methodLink RX1 122 yX4_leading, Cond.methodLink RX1 61 yX4_scaleBy]
def wsL_value_r8 : List Cond := [Cond.methodLink RX1 95 yX4_isZero, Cond.methodLink RX7 115 yX1_leastDegree, Cond.instanceMethod yX1_leastDegree, Cond.selects RX1 yX1_leastDegree yX1_leastDegree, Cond.code yX1_leastDegree cX1_leastDegree 1 (some .int), Cond.methodLink RX7 125 yX2_renew, Cond.instanceMethod yX2_renew, Cond.selects RX2 yX2_renew yX2_renew, Cond.initialized RX2, Cond.code yX2_renew cX2_renew 5 none, Cond.fieldLink RX2 21 "ClosedSums$Fraction" "known" "Z", Cond.fieldLink RX2 12 "ClosedSums$Fraction" "top" "LClosedSums$Polynomial;", Cond.fieldLink RX2 18 "ClosedSums$Fraction" "bottom" "LClosedSums$Polynomial;", Cond.methodLink RX2 25 yX1_bottomBefore, Cond.instanceMethod yX1_bottomBefore, Cond.selects RX1 yX1_bottomBefore yX1_bottomBefore, Cond.code yX1_bottomBefore cX1_bottomBefore 1 (some (.object "ClosedSums$Polynomial")), Cond.methodLink RX2 31 yX4_copyFrom, Cond.methodLink RX2 35 yX1_solution, Cond.instanceMethod yX1_solution, Cond.selects RX1 yX1_solution yX1_solution, Cond.code yX1_solution cX1_solution 1 (some (.object "ClosedSums$Polynomial")), Cond.methodLink RX2 38 yX4_multiplyBy, Cond.methodLink RX2 43 yX6_part]
def wsL_value_r9 : List Cond := [Cond.methodLink RX2 47 yX0_commonDivisor, Cond.methodLink RX2 53 yX0_divideOut, Cond.methodLink RX7 67 yJ9_floorMod_f86c9, Cond.static yJ9_floorMod_f86c9, Cond.initialized RJ9, Cond.code yJ9_floorMod_f86c9 cJ9_floorMod_f86c9 6 (some .long), Cond.methodLink RX7 134 yX2_valueAt, Cond.instanceMethod yX2_valueAt, Cond.selects RX2 yX2_valueAt yX2_valueAt, Cond.code yX2_valueAt cX2_valueAt 3 (some .int), Cond.methodLink RX2 57 yX4_valueAt, Cond.instanceMethod yX4_valueAt, Cond.selects RX4 yX4_valueAt yX4_valueAt, Cond.code yX4_valueAt cX4_valueAt 4 (some .int)]
def wsL_value : List Cond := .codeWith yL_value cL_value 5 (some .int) [(0, 9, 12, 23)] :: ((wsL_value_r1 ++ (wsL_value_r2 ++ (wsL_value_r3 ++ (wsL_value_r4 ++ (wsL_value_r5 ++ (wsL_value_r6 ++ (wsL_value_r7 ++ (wsL_value_r8 ++ wsL_value_r9)))))))) ++ wsX70 ++ wsX40 ++ wsX60 ++ wsX00 ++ wsX10 ++ wsX30 ++ wsX20 ++ (vx_atS RX7 176 "java/lang/IllegalStateException" ["java/lang/RuntimeException", "java/lang/Exception"]).filter goodWord)
def wsL_term_r1 : List Cond := [Cond.classLink RL 13 "java/lang/IndexOutOfBoundsException", Cond.classLink RL 23 "java/lang/IllegalStateException", Cond.methodLink RL 48 yX7_term, Cond.instanceMethod yX7_term, Cond.selects RX7 yX7_term yX7_term, Cond.initialized RX7, Cond.code yX7_term cX7_term 2 (some .int), Cond.fieldLink RX7 50 "ClosedSums" "progress" "LClosedSums$Progress;", Cond.methodLink RX7 137 yX7_requirePlace, Cond.instanceMethod yX7_requirePlace, Cond.selects RX7 yX7_requirePlace yX7_requirePlace, Cond.code yX7_requirePlace cX7_requirePlace 2 none, Cond.classLink RX7 159 "java/lang/IndexOutOfBoundsException", Cond.initialized "java/lang/IndexOutOfBoundsException", Cond.methodLink RX7 140 yX7_requireTerm, Cond.instanceMethod yX7_requireTerm, Cond.selects RX7 yX7_requireTerm yX7_requireTerm, Cond.code yX7_requireTerm cX7_requireTerm 2 none, Cond.classLink RX7 172 "java/lang/IllegalStateException", Cond.initialized "java/lang/IllegalStateException", Cond.fieldLink RX7 10 "ClosedSums" "ratioTop" "LClosedSums$Polynomial;", Cond.fieldLink RX7 16 "ClosedSums" "ratioBottom" "LClosedSums$Polynomial;", Cond.methodLink RX7 179 yX5_reaches, Cond.instanceMethod yX5_reaches]
def wsL_term_r2 : List Cond := [Cond.selects RX5 yX5_reaches yX5_reaches, Cond.initialized RX5, Cond.code yX5_reaches cX5_reaches 7 (some .boolean), Cond.fieldLink RX5 15 "ClosedSums$Progress" "reached" "I", Cond.fieldLink RX5 9 "ClosedSums$Progress" "terms" "[I", Cond.methodLink RX5 19 yX4_valueAt, Cond.instanceMethod yX4_valueAt, Cond.selects RX4 yX4_valueAt yX4_valueAt, Cond.initialized RX4, Cond.code yX4_valueAt cX4_valueAt 4 (some .int), Cond.fieldLink RX4 15 "ClosedSums$Polynomial" "highest" "I", Cond.methodLink RX4 19 yX4_number, Cond.instanceMethod yX4_number, Cond.selects RX4 yX4_number yX4_number, Cond.code yX4_number cX4_number 2 (some .int), Cond.fieldLink RX4 11 "ClosedSums$Polynomial" "numbers" "[I", Cond.static yX7_inverse, Cond.code yX7_inverse cX7_inverse 4 (some .int), Cond.methodLink RX7 143 yX5_termAt, Cond.instanceMethod yX5_termAt, Cond.selects RX5 yX5_termAt yX5_termAt, Cond.code yX5_termAt cX5_termAt 2 (some .int)]
def wsL_term : List Cond := .codeWith yL_term cL_term 4 (some .int) [(0, 9, 12, 13), (0, 9, 15, 23)] :: ((wsL_term_r1 ++ wsL_term_r2) ++ wsX70 ++ wsX50 ++ wsX40 ++ (vx_atS RX7 163 "java/lang/IndexOutOfBoundsException" ["java/lang/RuntimeException", "java/lang/Exception"]).filter goodWord ++ (vx_atS RX7 176 "java/lang/IllegalStateException" ["java/lang/RuntimeException", "java/lang/Exception"]).filter goodWord)
def wsL_sum_r1 : List Cond := [Cond.classLink RL 13 "java/lang/IndexOutOfBoundsException", Cond.classLink RL 23 "java/lang/IllegalStateException", Cond.methodLink RL 51 yX7_sum, Cond.instanceMethod yX7_sum, Cond.selects RX7 yX7_sum yX7_sum, Cond.initialized RX7, Cond.code yX7_sum cX7_sum 2 (some .int), Cond.fieldLink RX7 50 "ClosedSums" "progress" "LClosedSums$Progress;", Cond.methodLink RX7 137 yX7_requirePlace, Cond.instanceMethod yX7_requirePlace, Cond.selects RX7 yX7_requirePlace yX7_requirePlace, Cond.code yX7_requirePlace cX7_requirePlace 2 none, Cond.classLink RX7 159 "java/lang/IndexOutOfBoundsException", Cond.initialized "java/lang/IndexOutOfBoundsException", Cond.methodLink RX7 140 yX7_requireTerm, Cond.instanceMethod yX7_requireTerm, Cond.selects RX7 yX7_requireTerm yX7_requireTerm, Cond.code yX7_requireTerm cX7_requireTerm 2 none, Cond.classLink RX7 172 "java/lang/IllegalStateException", Cond.initialized "java/lang/IllegalStateException", Cond.fieldLink RX7 10 "ClosedSums" "ratioTop" "LClosedSums$Polynomial;", Cond.fieldLink RX7 16 "ClosedSums" "ratioBottom" "LClosedSums$Polynomial;", Cond.methodLink RX7 179 yX5_reaches, Cond.instanceMethod yX5_reaches]
def wsL_sum_r2 : List Cond := [Cond.selects RX5 yX5_reaches yX5_reaches, Cond.initialized RX5, Cond.code yX5_reaches cX5_reaches 7 (some .boolean), Cond.fieldLink RX5 15 "ClosedSums$Progress" "reached" "I", Cond.fieldLink RX5 9 "ClosedSums$Progress" "terms" "[I", Cond.methodLink RX5 19 yX4_valueAt, Cond.instanceMethod yX4_valueAt, Cond.selects RX4 yX4_valueAt yX4_valueAt, Cond.initialized RX4, Cond.code yX4_valueAt cX4_valueAt 4 (some .int), Cond.fieldLink RX4 15 "ClosedSums$Polynomial" "highest" "I", Cond.methodLink RX4 19 yX4_number, Cond.instanceMethod yX4_number, Cond.selects RX4 yX4_number yX4_number, Cond.code yX4_number cX4_number 2 (some .int), Cond.fieldLink RX4 11 "ClosedSums$Polynomial" "numbers" "[I", Cond.static yX7_inverse, Cond.code yX7_inverse cX7_inverse 4 (some .int), Cond.methodLink RX7 146 yX5_sumBelow, Cond.instanceMethod yX5_sumBelow, Cond.selects RX5 yX5_sumBelow yX5_sumBelow, Cond.code yX5_sumBelow cX5_sumBelow 4 (some .int)]
def wsL_sum : List Cond := .codeWith yL_sum cL_sum 4 (some .int) [(0, 9, 12, 13), (0, 9, 15, 23)] :: ((wsL_sum_r1 ++ wsL_sum_r2) ++ wsX70 ++ wsX50 ++ wsX40 ++ (vx_atS RX7 163 "java/lang/IndexOutOfBoundsException" ["java/lang/RuntimeException", "java/lang/Exception"]).filter goodWord ++ (vx_atS RX7 176 "java/lang/IllegalStateException" ["java/lang/RuntimeException", "java/lang/Exception"]).filter goodWord)
def wsL_law0_r1 : List Cond := [Cond.classLink RL 8 RX7, Cond.instantiable RX7 7, Cond.initialized RX7, Cond.classLink RL 55 RX8, Cond.instantiable RX8 18, Cond.initialized RX8, Cond.arrayClass .long, Cond.constantLong RL 58 (4294967295), Cond.methodLink RL 54 yX7_init, Cond.instanceMethod yX7_init, Cond.code yX7_init cX7_init 1 none, Cond.methodLink RX7 1 objectInit, Cond.instanceMethod objectInit, Cond.code objectInit ⟨#[0xb1]⟩ 1 none, Cond.classLink RX7 7 RX4, Cond.instantiable RX4 2, Cond.initialized RX4, Cond.fieldLink RX7 10 "ClosedSums" "ratioTop" "LClosedSums$Polynomial;", Cond.fieldLink RX7 16 "ClosedSums" "ratioBottom" "LClosedSums$Polynomial;", Cond.classLink RX7 19 RX0, Cond.instantiable RX0 4, Cond.initialized RX0, Cond.fieldLink RX7 22 "ClosedSums" "division" "LClosedSums$Division;", Cond.classLink RX7 26 RX6]
def wsL_law0_r2 : List Cond := [Cond.instantiable RX6 6, Cond.initialized RX6, Cond.fieldLink RX7 29 "ClosedSums" "parts" "LClosedSums$RatioSplit;", Cond.classLink RX7 33 RX1, Cond.instantiable RX1 8, Cond.initialized RX1, Cond.fieldLink RX7 36 "ClosedSums" "equation" "LClosedSums$Equation;", Cond.classLink RX7 40 RX2, Cond.instantiable RX2 3, Cond.initialized RX2, Cond.fieldLink RX7 43 "ClosedSums" "fraction" "LClosedSums$Fraction;", Cond.classLink RX7 47 RX5, Cond.instantiable RX5 2, Cond.initialized RX5, Cond.fieldLink RX7 50 "ClosedSums" "progress" "LClosedSums$Progress;", Cond.instanceMethod yX4_init, Cond.code yX4_init cX4_init 1 none, Cond.methodLink RX4 3 objectInit, Cond.arrayClass .int, Cond.fieldLink RX4 11 "ClosedSums$Polynomial" "numbers" "[I", Cond.fieldLink RX4 15 "ClosedSums$Polynomial" "highest" "I", Cond.instanceMethod yX0_init, Cond.code yX0_init cX0_init 1 none, Cond.methodLink RX0 1 objectInit]
def wsL_law0_r3 : List Cond := [Cond.classLink RX0 7 RX4, Cond.fieldLink RX0 10 "ClosedSums$Division" "first" "LClosedSums$Polynomial;", Cond.fieldLink RX0 16 "ClosedSums$Division" "second" "LClosedSums$Polynomial;", Cond.fieldLink RX0 19 "ClosedSums$Division" "quotient" "LClosedSums$Polynomial;", Cond.fieldLink RX0 22 "ClosedSums$Division" "common" "LClosedSums$Polynomial;", Cond.instanceMethod yX6_init, Cond.code yX6_init cX6_init 1 none, Cond.methodLink RX6 3 objectInit, Cond.classLink RX6 9 RX4, Cond.fieldLink RX6 12 "ClosedSums$RatioSplit" "top" "LClosedSums$Polynomial;", Cond.fieldLink RX6 18 "ClosedSums$RatioSplit" "bottom" "LClosedSums$Polynomial;", Cond.fieldLink RX6 21 "ClosedSums$RatioSplit" "extra" "LClosedSums$Polynomial;", Cond.fieldLink RX6 24 "ClosedSums$RatioSplit" "moved" "LClosedSums$Polynomial;", Cond.fieldLink RX6 27 "ClosedSums$RatioSplit" "commonDegrees" "[I", Cond.fieldLink RX6 31 "ClosedSums$RatioSplit" "known" "Z", Cond.methodLink RX7 35 yX1_init, Cond.instanceMethod yX1_init, Cond.code yX1_init cX1_init 2 none, Cond.methodLink RX1 3 objectInit, Cond.classLink RX1 9 RX3, Cond.fieldLink RX1 11 "ClosedSums$Equation" "pairs" "[LClosedSums$Pair;", Cond.fieldLink RX1 19 "ClosedSums$Equation" "byHighest" "[LClosedSums$Pair;", Cond.instantiable RX3 2, Cond.initialized RX3]
def wsL_law0_r4 : List Cond := [Cond.fieldLink RX1 23 "ClosedSums$Equation" "remaining" "LClosedSums$Pair;", Cond.classLink RX1 17 RX4, Cond.fieldLink RX1 28 "ClosedSums$Equation" "bottomBefore" "LClosedSums$Polynomial;", Cond.fieldLink RX1 32 "ClosedSums$Equation" "topGrown" "LClosedSums$Polynomial;", Cond.fieldLink RX1 35 "ClosedSums$Equation" "placeAfter" "LClosedSums$Polynomial;", Cond.fieldLink RX1 38 "ClosedSums$Equation" "leastDegree" "I", Cond.fieldLink RX1 42 "ClosedSums$Equation" "known" "Z", Cond.instanceMethod yX3_init, Cond.code yX3_init cX3_init 1 none, Cond.methodLink RX3 1 objectInit, Cond.classLink RX3 7 RX4, Cond.fieldLink RX3 10 "ClosedSums$Pair" "origin" "LClosedSums$Polynomial;", Cond.fieldLink RX3 16 "ClosedSums$Pair" "image" "LClosedSums$Polynomial;", Cond.methodLink RX1 46 yX4_setNumber, Cond.instanceMethod yX4_setNumber, Cond.selects RX4 yX4_setNumber yX4_setNumber, Cond.code yX4_setNumber cX4_setNumber 3 none, Cond.methodLink RX4 23 Lib.Math.max.name, Cond.static Lib.Math.max.name, Cond.initialized "java/lang/Math", Cond.code Lib.Math.max.name Lib.Math.max.code 2 (some .int), Cond.methodLink RX4 29 yX4_settle, Cond.instanceMethod yX4_settle, Cond.selects RX4 yX4_settle yX4_settle]
def wsL_law0_r5 : List Cond := [Cond.code yX4_settle cX4_settle 3 none, Cond.instanceMethod yX2_init, Cond.code yX2_init cX2_init 1 none, Cond.methodLink RX2 3 objectInit, Cond.classLink RX2 9 RX4, Cond.fieldLink RX2 12 "ClosedSums$Fraction" "top" "LClosedSums$Polynomial;", Cond.fieldLink RX2 18 "ClosedSums$Fraction" "bottom" "LClosedSums$Polynomial;", Cond.fieldLink RX2 21 "ClosedSums$Fraction" "known" "Z", Cond.methodLink RX7 49 yX5_init, Cond.instanceMethod yX5_init, Cond.code yX5_init cX5_init 1 none, Cond.methodLink RX5 3 objectInit, Cond.fieldLink RX5 9 "ClosedSums$Progress" "terms" "[I", Cond.fieldLink RX5 15 "ClosedSums$Progress" "reached" "I", Cond.methodLink RX7 54 yX4_becomeNumber, Cond.instanceMethod yX4_becomeNumber, Cond.selects RX4 yX4_becomeNumber yX4_becomeNumber, Cond.code yX4_becomeNumber cX4_becomeNumber 3 none, Cond.methodLink RL 57 yX8_init, Cond.instanceMethod yX8_init, Cond.code yX8_init cX8_init 1 none, Cond.methodLink RX8 1 objectInit, Cond.fieldLink RX8 7 "ClosedSumsModel" "top" "[J", Cond.fieldLink RX8 13 "ClosedSumsModel" "bottom" "[J"]
def wsL_law0_r6 : List Cond := [Cond.fieldLink RX8 16 "ClosedSumsModel" "a" "[J", Cond.fieldLink RX8 19 "ClosedSumsModel" "b" "[J", Cond.fieldLink RX8 22 "ClosedSumsModel" "c" "[J", Cond.fieldLink RX8 25 "ClosedSumsModel" "degrees" "[I", Cond.fieldLink RX8 29 "ClosedSumsModel" "answer" "[J", Cond.fieldLink RX8 32 "ClosedSumsModel" "closedTop" "[J", Cond.fieldLink RX8 35 "ClosedSumsModel" "closedBottom" "[J", Cond.fieldLink RX8 38 "ClosedSumsModel" "g" "[J", Cond.fieldLink RX8 41 "ClosedSumsModel" "h" "[J", Cond.fieldLink RX8 44 "ClosedSumsModel" "x" "[J", Cond.fieldLink RX8 47 "ClosedSumsModel" "quotient" "[J", Cond.fieldLink RX8 50 "ClosedSumsModel" "table" "[J", Cond.fieldLink RX8 53 "ClosedSumsModel" "row" "[I", Cond.fieldLink RX8 56 "ClosedSumsModel" "terms" "[J", Cond.methodLink RL 60 yL_put, Cond.static yL_put, Cond.initialized RL, Cond.codeWith yL_put cL_put 7 (some .int) [(0, 19, 22, 13)], Cond.classLink RL 13 "java/lang/IndexOutOfBoundsException", Cond.methodLink RL 7 yX7_put, Cond.instanceMethod yX7_put, Cond.selects RX7 yX7_put yX7_put, Cond.code yX7_put cX7_put 7 (some .boolean), Cond.constantLong RX7 65 (32003)]
def wsL_law0_r7 : List Cond := [Cond.methodLink RX7 58 yX7_requirePower, Cond.instanceMethod yX7_requirePower, Cond.selects RX7 yX7_requirePower yX7_requirePower, Cond.code yX7_requirePower cX7_requirePower 2 none, Cond.classLink RX7 159 "java/lang/IndexOutOfBoundsException", Cond.initialized "java/lang/IndexOutOfBoundsException", Cond.methodLink RX7 61 yX7_side, Cond.instanceMethod yX7_side, Cond.selects RX7 yX7_side yX7_side, Cond.code yX7_side cX7_side 2 (some (.object "ClosedSums$Polynomial")), Cond.methodLink RX7 67 yJ9_floorMod_f86c9, Cond.static yJ9_floorMod_f86c9, Cond.initialized RJ9, Cond.code yJ9_floorMod_f86c9 cJ9_floorMod_f86c9 6 (some .long), Cond.methodLink RX7 73 yX4_number, Cond.instanceMethod yX4_number, Cond.selects RX4 yX4_number yX4_number, Cond.code yX4_number cX4_number 2 (some .int), Cond.methodLink RX7 77 yX4_setNumber, Cond.methodLink RX7 81 yX7_forget, Cond.instanceMethod yX7_forget, Cond.selects RX7 yX7_forget yX7_forget, Cond.code yX7_forget cX7_forget 1 none, Cond.methodLink RX7 155 yX6_forget]
def wsL_law0_r8 : List Cond := [Cond.instanceMethod yX6_forget, Cond.selects RX6 yX6_forget yX6_forget, Cond.code yX6_forget cX6_forget 1 none, Cond.methodLink RX7 156 yX1_forget, Cond.instanceMethod yX1_forget, Cond.selects RX1 yX1_forget yX1_forget, Cond.code yX1_forget cX1_forget 1 none, Cond.methodLink RX7 157 yX2_forget, Cond.instanceMethod yX2_forget, Cond.selects RX2 yX2_forget yX2_forget, Cond.code yX2_forget cX2_forget 1 none, Cond.methodLink RX7 158 yX5_forget, Cond.instanceMethod yX5_forget, Cond.selects RX5 yX5_forget yX5_forget, Cond.code yX5_forget cX5_forget 1 none, Cond.methodLink RL 65 yX8_put, Cond.instanceMethod yX8_put, Cond.selects RX8 yX8_put yX8_put, Cond.code yX8_put cX8_put 7 (some .boolean), Cond.methodLink RX8 90 yX8_isPower, Cond.instanceMethod yX8_isPower, Cond.selects RX8 yX8_isPower yX8_isPower, Cond.code yX8_isPower cX8_isPower 2 (some .boolean), Cond.constantLong RX8 84 (4)]
def wsL_law0_r9 : List Cond := [Cond.fieldLink RX8 59 "ClosedSumsModel" "code" "I", Cond.methodLink RX8 86 yX8_in, Cond.static yX8_in, Cond.code yX8_in cX8_in 6 (some .boolean), Cond.methodLink RX8 77 yX8_modulo, Cond.static yX8_modulo, Cond.code yX8_modulo cX8_modulo 4 (some .long), Cond.constantLong RX8 63 (32003), Cond.methodLink RL 66 yX8_thrown, Cond.instanceMethod yX8_thrown, Cond.selects RX8 yX8_thrown yX8_thrown, Cond.code yX8_thrown cX8_thrown 1 (some .int), Cond.methodLink RL 69 yL_at, Cond.static yL_at, Cond.codeWith yL_at cL_at 5 (some .int) [(0, 10, 13, 13)], Cond.methodLink RL 15 yX7_at, Cond.instanceMethod yX7_at, Cond.selects RX7 yX7_at yX7_at, Cond.code yX7_at cX7_at 3 (some .int), Cond.methodLink RL 72 yX8_at, Cond.instanceMethod yX8_at, Cond.selects RX8 yX8_at yX8_at, Cond.code yX8_at cX8_at 3 (some .int), Cond.methodLink RL 73 yL_found]
def wsL_law0_r10 : List Cond := [Cond.static yL_found, Cond.codeWith yL_found cL_found 4 (some .int) [(0, 9, 12, 23), (0, 9, 15, 25)], Cond.classLink RL 23 "java/lang/IllegalStateException", Cond.classLink RL 25 "java/lang/IllegalArgumentException", Cond.methodLink RL 19 yX7_found, Cond.instanceMethod yX7_found, Cond.selects RX7 yX7_found yX7_found, Cond.code yX7_found cX7_found 2 (some .int), Cond.classLink RX7 87 "java/lang/IllegalArgumentException", Cond.initialized "java/lang/IllegalArgumentException", Cond.methodLink RX7 84 yX7_requireRatio, Cond.instanceMethod yX7_requireRatio, Cond.selects RX7 yX7_requireRatio yX7_requireRatio, Cond.code yX7_requireRatio cX7_requireRatio 1 none, Cond.classLink RX7 172 "java/lang/IllegalStateException", Cond.initialized "java/lang/IllegalStateException", Cond.methodLink RX7 168 yX4_isZero, Cond.instanceMethod yX4_isZero, Cond.selects RX4 yX4_isZero yX4_isZero, Cond.code yX4_isZero cX4_isZero 1 (some .boolean), Cond.methodLink RX7 94 yX6_renew, Cond.instanceMethod yX6_renew, Cond.selects RX6 yX6_renew yX6_renew, Cond.code yX6_renew cX6_renew 7 none]
def wsL_law0_r11 : List Cond := [Cond.methodLink RX6 35 yX4_copyFrom, Cond.instanceMethod yX4_copyFrom, Cond.selects RX4 yX4_copyFrom yX4_copyFrom, Cond.code yX4_copyFrom cX4_copyFrom 3 none, Cond.methodLink RX4 19 yX4_number, Cond.methodLink RX6 39 yX4_becomeNumber, Cond.methodLink RX6 43 yX4_moveBy, Cond.instanceMethod yX4_moveBy, Cond.selects RX4 yX4_moveBy yX4_moveBy, Cond.code yX4_moveBy cX4_moveBy 4 none, Cond.methodLink RX4 37 Lib.Math.min.name, Cond.static Lib.Math.min.name, Cond.code Lib.Math.min.name Lib.Math.min.code 2 (some .int), Cond.methodLink RX6 46 yX0_commonDivisor, Cond.instanceMethod yX0_commonDivisor, Cond.selects RX0 yX0_commonDivisor yX0_commonDivisor, Cond.code yX0_commonDivisor cX0_commonDivisor 7 (some (.object "ClosedSums$Polynomial")), Cond.methodLink RX0 25 yX4_copyFrom, Cond.methodLink RX0 29 yX4_isZero, Cond.methodLink RX0 33 yX4_divideBy, Cond.instanceMethod yX4_divideBy, Cond.selects RX4 yX4_divideBy yX4_divideBy, Cond.code yX4_divideBy cX4_divideBy 7 none, Cond.methodLink RX4 40 yX4_becomeNumber]
def wsL_law0_r12 : List Cond := [Cond.methodLink RX4 33 yX4_isZero, Cond.methodLink RX4 43 yX4_leading, Cond.instanceMethod yX4_leading, Cond.selects RX4 yX4_leading yX4_leading, Cond.code yX4_leading cX4_leading 1 (some .int), Cond.static yX7_inverse, Cond.code yX7_inverse cX7_inverse 4 (some .int), Cond.methodLink RX4 50 yX4_setNumber, Cond.static yX7_negative, Cond.code yX7_negative cX7_negative 1 (some .int), Cond.methodLink RX4 57 yX4_addMultiple, Cond.instanceMethod yX4_addMultiple, Cond.selects RX4 yX4_addMultiple yX4_addMultiple, Cond.code yX4_addMultiple cX4_addMultiple 7 none, Cond.methodLink RX0 37 yX4_leading, Cond.methodLink RX0 47 yX4_scaleBy, Cond.instanceMethod yX4_scaleBy, Cond.selects RX4 yX4_scaleBy yX4_scaleBy, Cond.code yX4_scaleBy cX4_scaleBy 3 none, Cond.methodLink RX6 52 yX4_highest, Cond.instanceMethod yX4_highest, Cond.selects RX4 yX4_highest yX4_highest, Cond.code yX4_highest cX4_highest 1 (some .int), Cond.methodLink RX6 56 yX0_divideOut]
def wsL_law0_r13 : List Cond := [Cond.instanceMethod yX0_divideOut, Cond.selects RX0 yX0_divideOut yX0_divideOut, Cond.code yX0_divideOut cX0_divideOut 3 none, Cond.methodLink RX6 60 yX4_multiplyBy, Cond.instanceMethod yX4_multiplyBy, Cond.selects RX4 yX4_multiplyBy yX4_multiplyBy, Cond.code yX4_multiplyBy cX4_multiplyBy 6 none, Cond.methodLink RX7 98 yX6_commonDegree, Cond.instanceMethod yX6_commonDegree, Cond.selects RX6 yX6_commonDegree yX6_commonDegree, Cond.code yX6_commonDegree cX6_commonDegree 2 (some .int), Cond.methodLink RL 76 yX8_found, Cond.instanceMethod yX8_found, Cond.selects RX8 yX8_found yX8_found, Cond.code yX8_found cX8_found 2 (some .int), Cond.constantLong RX8 113 (8), Cond.methodLink RX8 109 yX8_isNone, Cond.instanceMethod yX8_isNone, Cond.selects RX8 yX8_isNone yX8_isNone, Cond.code yX8_isNone cX8_isNone 1 (some .boolean), Cond.methodLink RX8 65 yX8_high, Cond.static yX8_high, Cond.code yX8_high cX8_high 2 (some .int), Cond.methodLink RX8 115 yX8_findSplit]
def wsL_law0_r14 : List Cond := [Cond.instanceMethod yX8_findSplit, Cond.selects RX8 yX8_findSplit yX8_findSplit, Cond.code yX8_findSplit cX8_findSplit 3 none, Cond.constantLong RX8 104 (32002), Cond.methodLink RX8 98 yX8_copy, Cond.static yX8_copy, Cond.code yX8_copy cX8_copy 3 none, Cond.methodLink RX8 69 yX8_empty, Cond.static yX8_empty, Cond.code yX8_empty cX8_empty 2 none, Cond.methodLink RX8 94 yX8_move, Cond.static yX8_move, Cond.code yX8_move cX8_move 6 none, Cond.methodLink RX8 101 yX8_common, Cond.instanceMethod yX8_common, Cond.selects RX8 yX8_common yX8_common, Cond.code yX8_common cX8_common 5 none, Cond.methodLink RX8 80 yX8_divide, Cond.instanceMethod yX8_divide, Cond.selects RX8 yX8_divide yX8_divide, Cond.code yX8_divide cX8_divide 10 none, Cond.methodLink RX8 73 yX8_inverse, Cond.static yX8_inverse, Cond.code yX8_inverse cX8_inverse 7 (some .long)]
def wsL_law0_r15 : List Cond := [Cond.methodLink RX8 106 yX8_multiply, Cond.instanceMethod yX8_multiply, Cond.selects RX8 yX8_multiply yX8_multiply, Cond.code yX8_multiply cX8_multiply 6 none, Cond.methodLink RL 77 yL_degree, Cond.static yL_degree, Cond.codeWith yL_degree cL_degree 4 (some .int) [(0, 9, 12, 23), (0, 9, 15, 25)], Cond.methodLink RL 27 yX7_degree, Cond.instanceMethod yX7_degree, Cond.selects RX7 yX7_degree yX7_degree, Cond.code yX7_degree cX7_degree 2 (some .int), Cond.methodLink RX7 101 yX7_requirePart, Cond.instanceMethod yX7_requirePart, Cond.selects RX7 yX7_requirePart yX7_requirePart, Cond.code yX7_requirePart cX7_requirePart 2 none, Cond.methodLink RX7 104 yX6_part, Cond.instanceMethod yX6_part, Cond.selects RX6 yX6_part yX6_part, Cond.code yX6_part cX6_part 2 (some (.object "ClosedSums$Polynomial")), Cond.methodLink RX7 108 yX4_highest, Cond.methodLink RL 79 yX8_degree, Cond.instanceMethod yX8_degree, Cond.selects RX8 yX8_degree yX8_degree, Cond.code yX8_degree cX8_degree 2 (some .int)]
def wsL_law0_r16 : List Cond := [Cond.methodLink RX8 120 yX8_takes, Cond.instanceMethod yX8_takes, Cond.selects RX8 yX8_takes yX8_takes, Cond.code yX8_takes cX8_takes 2 (some .boolean), Cond.constantLong RX8 118 (2), Cond.methodLink RL 80 yL_split, Cond.static yL_split, Cond.codeWith yL_split cL_split 5 (some .int) [(0, 10, 13, 23), (0, 10, 17, 25)], Cond.methodLink RL 30 yX7_split, Cond.instanceMethod yX7_split, Cond.selects RX7 yX7_split yX7_split, Cond.code yX7_split cX7_split 3 (some .int), Cond.methodLink RL 83 yX8_split, Cond.instanceMethod yX8_split, Cond.selects RX8 yX8_split yX8_split, Cond.code yX8_split cX8_split 3 (some .int), Cond.constantLong RX8 123 (63), Cond.methodLink RL 84 yL_run, Cond.static yL_run, Cond.codeWith yL_run cL_run 3 (some .int) [(0, 8, 11, 23)], Cond.methodLink RL 34 yX7_run, Cond.instanceMethod yX7_run, Cond.selects RX7 yX7_run yX7_run, Cond.code yX7_run cX7_run 1 (some .int)]
def wsL_law0_r17 : List Cond := [Cond.methodLink RX7 112 yX1_renew, Cond.instanceMethod yX1_renew, Cond.selects RX1 yX1_renew yX1_renew, Cond.code yX1_renew cX1_renew 2 none, Cond.fieldLink RX1 50 "ClosedSums$Pair" "origin" "LClosedSums$Polynomial;", Cond.methodLink RX1 53 yX1_start, Cond.instanceMethod yX1_start, Cond.selects RX1 yX1_start yX1_start, Cond.code yX1_start cX1_start 3 none, Cond.fieldLink RX1 65 "ClosedSums$Pair" "image" "LClosedSums$Polynomial;", Cond.methodLink RX1 70 yX6_part, Cond.methodLink RX1 74 yX4_copyFrom, Cond.methodLink RX1 78 yX4_becomeNumber, Cond.methodLink RX1 81 yX4_moveBy, Cond.methodLink RX1 57 yX1_solve, Cond.instanceMethod yX1_solve, Cond.selects RX1 yX1_solve yX1_solve, Cond.code yX1_solve cX1_solve 3 (some .int), Cond.methodLink RX1 84 yX1_fill, Cond.instanceMethod yX1_fill, Cond.selects RX1 yX1_fill yX1_fill, Cond.code yX1_fill cX1_fill 3 none, Cond.methodLink RX1 99 yX4_addMultiple, Cond.methodLink RX1 103 yX4_multiplyBy]
def wsL_law0_r18 : List Cond := [Cond.methodLink RX1 88 yX1_lower, Cond.instanceMethod yX1_lower, Cond.selects RX1 yX1_lower yX1_lower, Cond.code yX1_lower cX1_lower 6 none, Cond.methodLink RX1 109 Lib.Math.min.name, Cond.methodLink RX1 106 yX4_highest, Cond.methodLink RX1 115 yX4_number, Cond.methodLink RX1 92 yX1_keep, Cond.instanceMethod yX1_keep, Cond.selects RX1 yX1_keep yX1_keep, Cond.code yX1_keep cX1_keep 4 none, Cond.methodLink RX1 122 yX4_leading, Cond.methodLink RX1 61 yX4_scaleBy, Cond.methodLink RX1 95 yX4_isZero, Cond.methodLink RX7 115 yX1_leastDegree, Cond.instanceMethod yX1_leastDegree, Cond.selects RX1 yX1_leastDegree yX1_leastDegree, Cond.code yX1_leastDegree cX1_leastDegree 1 (some .int), Cond.methodLink RL 87 yX8_run, Cond.instanceMethod yX8_run, Cond.selects RX8 yX8_run yX8_run, Cond.code yX8_run cX8_run 1 (some .int), Cond.methodLink RX8 132 yX8_solve, Cond.instanceMethod yX8_solve]
def wsL_law0_r19 : List Cond := [Cond.selects RX8 yX8_solve yX8_solve, Cond.code yX8_solve cX8_solve 6 (some .int), Cond.methodLink RX8 125 yX8_fill, Cond.instanceMethod yX8_fill, Cond.selects RX8 yX8_fill yX8_fill, Cond.code yX8_fill cX8_fill 3 none, Cond.methodLink RX8 128 yX8_bringOut, Cond.instanceMethod yX8_bringOut, Cond.selects RX8 yX8_bringOut yX8_bringOut, Cond.code yX8_bringOut cX8_bringOut 10 none, Cond.methodLink RL 88 yL_answer, Cond.static yL_answer, Cond.codeWith yL_answer cL_answer 4 (some .int) [(0, 9, 12, 23)], Cond.methodLink RL 38 yX7_answer, Cond.instanceMethod yX7_answer, Cond.selects RX7 yX7_answer yX7_answer, Cond.code yX7_answer cX7_answer 2 (some .int), Cond.methodLink RX7 118 yX7_requireAnswer, Cond.instanceMethod yX7_requireAnswer, Cond.selects RX7 yX7_requireAnswer yX7_requireAnswer, Cond.code yX7_requireAnswer cX7_requireAnswer 1 none, Cond.methodLink RX7 121 yX1_solution, Cond.instanceMethod yX1_solution, Cond.selects RX1 yX1_solution yX1_solution]
def wsL_law0_r20 : List Cond := [Cond.code yX1_solution cX1_solution 1 (some (.object "ClosedSums$Polynomial")), Cond.methodLink RL 90 yX8_answer, Cond.instanceMethod yX8_answer, Cond.selects RX8 yX8_answer yX8_answer, Cond.code yX8_answer cX8_answer 2 (some .int), Cond.constantLong RX8 142 (20), Cond.methodLink RX8 139 yX8_isAnswered, Cond.instanceMethod yX8_isAnswered, Cond.selects RX8 yX8_isAnswered yX8_isAnswered, Cond.code yX8_isAnswered cX8_isAnswered 1 (some .boolean), Cond.fieldLink RX8 136 "ClosedSumsModel" "least" "I", Cond.methodLink RL 91 yL_closed, Cond.static yL_closed, Cond.codeWith yL_closed cL_closed 5 (some .int) [(0, 10, 13, 23)], Cond.methodLink RL 41 yX7_closed, Cond.instanceMethod yX7_closed, Cond.selects RX7 yX7_closed yX7_closed, Cond.code yX7_closed cX7_closed 3 (some .int), Cond.methodLink RX7 125 yX2_renew, Cond.instanceMethod yX2_renew, Cond.selects RX2 yX2_renew yX2_renew, Cond.code yX2_renew cX2_renew 5 none, Cond.methodLink RX2 25 yX1_bottomBefore, Cond.instanceMethod yX1_bottomBefore]
def wsL_law0_r21 : List Cond := [Cond.selects RX1 yX1_bottomBefore yX1_bottomBefore, Cond.code yX1_bottomBefore cX1_bottomBefore 1 (some (.object "ClosedSums$Polynomial")), Cond.methodLink RX2 31 yX4_copyFrom, Cond.methodLink RX2 35 yX1_solution, Cond.methodLink RX2 38 yX4_multiplyBy, Cond.methodLink RX2 43 yX6_part, Cond.methodLink RX2 47 yX0_commonDivisor, Cond.methodLink RX2 53 yX0_divideOut, Cond.methodLink RX7 128 yX2_top, Cond.instanceMethod yX2_top, Cond.selects RX2 yX2_top yX2_top, Cond.code yX2_top cX2_top 1 (some (.object "ClosedSums$Polynomial")), Cond.methodLink RX7 131 yX2_bottom, Cond.instanceMethod yX2_bottom, Cond.selects RX2 yX2_bottom yX2_bottom, Cond.code yX2_bottom cX2_bottom 1 (some (.object "ClosedSums$Polynomial")), Cond.methodLink RL 93 yX8_closed, Cond.instanceMethod yX8_closed, Cond.selects RX8 yX8_closed yX8_closed, Cond.code yX8_closed cX8_closed 3 (some .int), Cond.methodLink RX8 144 yX8_isClosed, Cond.instanceMethod yX8_isClosed, Cond.selects RX8 yX8_isClosed yX8_isClosed, Cond.code yX8_isClosed cX8_isClosed 4 (some .boolean)]
def wsL_law0_r22 : List Cond := [Cond.methodLink RL 94 yL_value, Cond.static yL_value, Cond.codeWith yL_value cL_value 5 (some .int) [(0, 9, 12, 23)], Cond.methodLink RL 44 yX7_value, Cond.instanceMethod yX7_value, Cond.selects RX7 yX7_value yX7_value, Cond.code yX7_value cX7_value 3 (some .int), Cond.methodLink RX7 134 yX2_valueAt, Cond.instanceMethod yX2_valueAt, Cond.selects RX2 yX2_valueAt yX2_valueAt, Cond.code yX2_valueAt cX2_valueAt 3 (some .int), Cond.methodLink RX2 57 yX4_valueAt, Cond.instanceMethod yX4_valueAt, Cond.selects RX4 yX4_valueAt yX4_valueAt, Cond.code yX4_valueAt cX4_valueAt 4 (some .int), Cond.methodLink RL 97 yX8_value, Cond.instanceMethod yX8_value, Cond.selects RX8 yX8_value yX8_value, Cond.code yX8_value cX8_value 5 (some .int), Cond.methodLink RX8 147 yX8_valueAt, Cond.static yX8_valueAt, Cond.code yX8_valueAt cX8_valueAt 6 (some .long), Cond.methodLink RL 98 yL_term, Cond.static yL_term]
def wsL_law0_r23 : List Cond := [Cond.codeWith yL_term cL_term 4 (some .int) [(0, 9, 12, 13), (0, 9, 15, 23)], Cond.methodLink RL 48 yX7_term, Cond.instanceMethod yX7_term, Cond.selects RX7 yX7_term yX7_term, Cond.code yX7_term cX7_term 2 (some .int), Cond.methodLink RX7 137 yX7_requirePlace, Cond.instanceMethod yX7_requirePlace, Cond.selects RX7 yX7_requirePlace yX7_requirePlace, Cond.code yX7_requirePlace cX7_requirePlace 2 none, Cond.methodLink RX7 140 yX7_requireTerm, Cond.instanceMethod yX7_requireTerm, Cond.selects RX7 yX7_requireTerm yX7_requireTerm, Cond.code yX7_requireTerm cX7_requireTerm 2 none, Cond.methodLink RX7 179 yX5_reaches, Cond.instanceMethod yX5_reaches, Cond.selects RX5 yX5_reaches yX5_reaches, Cond.code yX5_reaches cX5_reaches 7 (some .boolean), Cond.methodLink RX5 19 yX4_valueAt, Cond.methodLink RX7 143 yX5_termAt, Cond.instanceMethod yX5_termAt, Cond.selects RX5 yX5_termAt yX5_termAt, Cond.code yX5_termAt cX5_termAt 2 (some .int), Cond.methodLink RL 100 yX8_term, Cond.instanceMethod yX8_term]
def wsL_law0_r24 : List Cond := [Cond.selects RX8 yX8_term yX8_term, Cond.code yX8_term cX8_term 2 (some .int), Cond.constantLong RX8 151 (60), Cond.methodLink RX8 153 yX8_raise, Cond.instanceMethod yX8_raise, Cond.selects RX8 yX8_raise yX8_raise, Cond.code yX8_raise cX8_raise 2 (some .int), Cond.methodLink RX8 157 yX8_reaches, Cond.instanceMethod yX8_reaches, Cond.selects RX8 yX8_reaches yX8_reaches, Cond.code yX8_reaches cX8_reaches 5 (some .boolean), Cond.methodLink RL 101 yL_sum, Cond.static yL_sum, Cond.codeWith yL_sum cL_sum 4 (some .int) [(0, 9, 12, 13), (0, 9, 15, 23)], Cond.methodLink RL 51 yX7_sum, Cond.instanceMethod yX7_sum, Cond.selects RX7 yX7_sum yX7_sum, Cond.code yX7_sum cX7_sum 2 (some .int), Cond.methodLink RX7 146 yX5_sumBelow, Cond.instanceMethod yX5_sumBelow, Cond.selects RX5 yX5_sumBelow yX5_sumBelow, Cond.code yX5_sumBelow cX5_sumBelow 4 (some .int), Cond.methodLink RL 103 yX8_sum, Cond.instanceMethod yX8_sum]
def wsL_law0_r25 : List Cond := [Cond.selects RX8 yX8_sum yX8_sum, Cond.code yX8_sum cX8_sum 5 (some .int), Cond.methodLink RL 104 yX7_shift, Cond.instanceMethod yX7_shift, Cond.selects RX7 yX7_shift yX7_shift, Cond.code yX7_shift cX7_shift 3 none, Cond.methodLink RX7 149 yJ9_floorMod_7cf53, Cond.static yJ9_floorMod_7cf53, Cond.code yJ9_floorMod_7cf53 cJ9_floorMod_7cf53 3 (some .int), Cond.methodLink RX7 152 yX4_moveBy, Cond.methodLink RL 108 yX8_shift, Cond.instanceMethod yX8_shift, Cond.selects RX8 yX8_shift yX8_shift, Cond.code yX8_shift cX8_shift 2 none, Cond.methodLink RL 109 yX7_clear, Cond.instanceMethod yX7_clear, Cond.selects RX7 yX7_clear yX7_clear, Cond.code yX7_clear cX7_clear 1 none, Cond.methodLink RL 112 yX8_clear, Cond.instanceMethod yX8_clear, Cond.selects RX8 yX8_clear yX8_clear, Cond.code yX8_clear cX8_clear 1 none]
def wsL_law0 : List Cond := (wsL_law0_r1 ++ (wsL_law0_r2 ++ (wsL_law0_r3 ++ (wsL_law0_r4 ++ (wsL_law0_r5 ++ (wsL_law0_r6 ++ (wsL_law0_r7 ++ (wsL_law0_r8 ++ (wsL_law0_r9 ++ (wsL_law0_r10 ++ (wsL_law0_r11 ++ (wsL_law0_r12 ++ (wsL_law0_r13 ++ (wsL_law0_r14 ++ (wsL_law0_r15 ++ (wsL_law0_r16 ++ (wsL_law0_r17 ++ (wsL_law0_r18 ++ (wsL_law0_r19 ++ (wsL_law0_r20 ++ (wsL_law0_r21 ++ (wsL_law0_r22 ++ (wsL_law0_r23 ++ (wsL_law0_r24 ++ wsL_law0_r25)))))))))))))))))))))))) ++ wsX70 ++ wsX80 ++ wsX40 ++ wsX00 ++ wsX60 ++ wsX10 ++ wsX20 ++ wsX50 ++ wsX30 ++ ([] : List Cond)
def wsL_law : List Cond := wsL_law0 ++ (vx_atS RX7 163 "java/lang/IndexOutOfBoundsException" ["java/lang/RuntimeException", "java/lang/Exception"]).filter goodWord ++ (vx_atS RX7 91 "java/lang/IllegalArgumentException" ["java/lang/RuntimeException", "java/lang/Exception"]).filter goodWord ++ (vx_atS RX7 176 "java/lang/IllegalStateException" ["java/lang/RuntimeException", "java/lang/Exception"]).filter goodWord
abbrev vwCl : List vw_C := [(RX0, TX0, 4), (RX1, TX1, 8), (RX2, TX2, 3), (RX3, TX3, 2), (RX4, TX4, 2), (RX5, TX5, 2), (RX6, TX6, 6), (RX7, TX7, 7), (RX8, TX8, 18)]
end
section
theorem dX4_init_0 : decode cX4_init 0 = .ok (.aload_n 0, 1) := by decide +kernel
theorem dX4_init_1 : decode cX4_init 1 = .ok (.invokespecial 3, 3) := by decide +kernel
theorem dX4_init_4 : decode cX4_init 4 = .ok (.aload_n 0, 1) := by decide +kernel
theorem dX4_init_5 : decode cX4_init 5 = .ok (.bipush 33, 2) := by decide +kernel
theorem dX4_init_7 : decode cX4_init 7 = .ok (.newarray .int, 2) := by decide +kernel
theorem dX4_init_9 : decode cX4_init 9 = .ok (.putfield 11, 3) := by decide +kernel
theorem dX4_init_12 : decode cX4_init 12 = .ok (.aload_n 0, 1) := by decide +kernel
theorem dX4_init_13 : decode cX4_init 13 = .ok (.iconst (-1), 1) := by decide +kernel
theorem dX4_init_14 : decode cX4_init 14 = .ok (.putfield 15, 3) := by decide +kernel
theorem dX4_init_17 : decode cX4_init 17 = .ok (.return_, 1) := by decide +kernel
theorem dX4_highest_0 : decode cX4_highest 0 = .ok (.aload_n 0, 1) := by decide +kernel
theorem dX4_highest_1 : decode cX4_highest 1 = .ok (.getfield 15, 3) := by decide +kernel
theorem dX4_highest_4 : decode cX4_highest 4 = .ok (.ireturn, 1) := by decide +kernel
theorem dX4_isZero_0 : decode cX4_isZero 0 = .ok (.aload_n 0, 1) := by decide +kernel
theorem dX4_isZero_1 : decode cX4_isZero 1 = .ok (.getfield 15, 3) := by decide +kernel
theorem dX4_isZero_4 : decode cX4_isZero 4 = .ok (.ifCond .ge 7, 3) := by decide +kernel
theorem dX4_isZero_7 : decode cX4_isZero 7 = .ok (.iconst 1, 1) := by decide +kernel
theorem dX4_isZero_8 : decode cX4_isZero 8 = .ok (.goto 4, 3) := by decide +kernel
theorem dX4_isZero_11 : decode cX4_isZero 11 = .ok (.iconst 0, 1) := by decide +kernel
theorem dX4_isZero_12 : decode cX4_isZero 12 = .ok (.ireturn, 1) := by decide +kernel
theorem dX4_number_0 : decode cX4_number 0 = .ok (.iload_n 1, 1) := by decide +kernel
theorem dX4_number_1 : decode cX4_number 1 = .ok (.ifCond .lt 12, 3) := by decide +kernel
theorem dX4_number_4 : decode cX4_number 4 = .ok (.iload_n 1, 1) := by decide +kernel
theorem dX4_number_5 : decode cX4_number 5 = .ok (.aload_n 0, 1) := by decide +kernel
theorem dX4_number_6 : decode cX4_number 6 = .ok (.getfield 11, 3) := by decide +kernel
theorem dX4_number_9 : decode cX4_number 9 = .ok (.arraylength, 1) := by decide +kernel
theorem dX4_number_10 : decode cX4_number 10 = .ok (.if_icmp .lt 7, 3) := by decide +kernel
theorem dX4_number_13 : decode cX4_number 13 = .ok (.iconst 0, 1) := by decide +kernel
theorem dX4_number_14 : decode cX4_number 14 = .ok (.goto 9, 3) := by decide +kernel
theorem dX4_number_17 : decode cX4_number 17 = .ok (.aload_n 0, 1) := by decide +kernel
theorem dX4_number_18 : decode cX4_number 18 = .ok (.getfield 11, 3) := by decide +kernel
theorem dX4_number_21 : decode cX4_number 21 = .ok (.iload_n 1, 1) := by decide +kernel
theorem dX4_number_22 : decode cX4_number 22 = .ok (.iaload, 1) := by decide +kernel
theorem dX4_number_23 : decode cX4_number 23 = .ok (.ireturn, 1) := by decide +kernel
theorem dX4_leading_0 : decode cX4_leading 0 = .ok (.aload_n 0, 1) := by decide +kernel
theorem dX4_leading_1 : decode cX4_leading 1 = .ok (.aload_n 0, 1) := by decide +kernel
theorem dX4_leading_2 : decode cX4_leading 2 = .ok (.getfield 15, 3) := by decide +kernel
theorem dX4_leading_5 : decode cX4_leading 5 = .ok (.invokevirtual 19, 3) := by decide +kernel
theorem dX4_leading_8 : decode cX4_leading 8 = .ok (.ireturn, 1) := by decide +kernel
theorem dX4_setNumber_0 : decode cX4_setNumber 0 = .ok (.iload_n 1, 1) := by decide +kernel
theorem dX4_setNumber_1 : decode cX4_setNumber 1 = .ok (.ifCond .lt 12, 3) := by decide +kernel
theorem dX4_setNumber_4 : decode cX4_setNumber 4 = .ok (.iload_n 1, 1) := by decide +kernel
theorem dX4_setNumber_5 : decode cX4_setNumber 5 = .ok (.aload_n 0, 1) := by decide +kernel
theorem dX4_setNumber_6 : decode cX4_setNumber 6 = .ok (.getfield 11, 3) := by decide +kernel
theorem dX4_setNumber_9 : decode cX4_setNumber 9 = .ok (.arraylength, 1) := by decide +kernel
theorem dX4_setNumber_10 : decode cX4_setNumber 10 = .ok (.if_icmp .lt 4, 3) := by decide +kernel
theorem dX4_setNumber_13 : decode cX4_setNumber 13 = .ok (.return_, 1) := by decide +kernel
theorem dX4_setNumber_14 : decode cX4_setNumber 14 = .ok (.aload_n 0, 1) := by decide +kernel
theorem dX4_setNumber_15 : decode cX4_setNumber 15 = .ok (.getfield 11, 3) := by decide +kernel
theorem dX4_setNumber_18 : decode cX4_setNumber 18 = .ok (.iload_n 1, 1) := by decide +kernel
theorem dX4_setNumber_19 : decode cX4_setNumber 19 = .ok (.iload_n 2, 1) := by decide +kernel
theorem dX4_setNumber_20 : decode cX4_setNumber 20 = .ok (.iastore, 1) := by decide +kernel
theorem dX4_setNumber_21 : decode cX4_setNumber 21 = .ok (.aload_n 0, 1) := by decide +kernel
theorem dX4_setNumber_22 : decode cX4_setNumber 22 = .ok (.iload_n 1, 1) := by decide +kernel
theorem dX4_setNumber_23 : decode cX4_setNumber 23 = .ok (.aload_n 0, 1) := by decide +kernel
theorem dX4_setNumber_24 : decode cX4_setNumber 24 = .ok (.getfield 15, 3) := by decide +kernel
theorem dX4_setNumber_27 : decode cX4_setNumber 27 = .ok (.invokestatic 23, 3) := by decide +kernel
theorem dX4_setNumber_30 : decode cX4_setNumber 30 = .ok (.invokevirtual 29, 3) := by decide +kernel
theorem dX4_setNumber_33 : decode cX4_setNumber 33 = .ok (.return_, 1) := by decide +kernel
theorem dX4_becomeNumber_0 : decode cX4_becomeNumber 0 = .ok (.iconst 0, 1) := by decide +kernel
theorem dX4_becomeNumber_1 : decode cX4_becomeNumber 1 = .ok (.istore_n 2, 1) := by decide +kernel
theorem dX4_becomeNumber_2 : decode cX4_becomeNumber 2 = .ok (.iload_n 2, 1) := by decide +kernel
theorem dX4_becomeNumber_3 : decode cX4_becomeNumber 3 = .ok (.aload_n 0, 1) := by decide +kernel
theorem dX4_becomeNumber_4 : decode cX4_becomeNumber 4 = .ok (.getfield 11, 3) := by decide +kernel
theorem dX4_becomeNumber_7 : decode cX4_becomeNumber 7 = .ok (.arraylength, 1) := by decide +kernel
theorem dX4_becomeNumber_8 : decode cX4_becomeNumber 8 = .ok (.if_icmp .ge 16, 3) := by decide +kernel
theorem dX4_becomeNumber_11 : decode cX4_becomeNumber 11 = .ok (.aload_n 0, 1) := by decide +kernel
theorem dX4_becomeNumber_12 : decode cX4_becomeNumber 12 = .ok (.getfield 11, 3) := by decide +kernel
theorem dX4_becomeNumber_15 : decode cX4_becomeNumber 15 = .ok (.iload_n 2, 1) := by decide +kernel
theorem dX4_becomeNumber_16 : decode cX4_becomeNumber 16 = .ok (.iconst 0, 1) := by decide +kernel
theorem dX4_becomeNumber_17 : decode cX4_becomeNumber 17 = .ok (.iastore, 1) := by decide +kernel
theorem dX4_becomeNumber_18 : decode cX4_becomeNumber 18 = .ok (.iinc 2 1, 3) := by decide +kernel
theorem dX4_becomeNumber_21 : decode cX4_becomeNumber 21 = .ok (.goto (-19), 3) := by decide +kernel
theorem dX4_becomeNumber_24 : decode cX4_becomeNumber 24 = .ok (.aload_n 0, 1) := by decide +kernel
theorem dX4_becomeNumber_25 : decode cX4_becomeNumber 25 = .ok (.getfield 11, 3) := by decide +kernel
theorem dX4_becomeNumber_28 : decode cX4_becomeNumber 28 = .ok (.iconst 0, 1) := by decide +kernel
theorem dX4_becomeNumber_29 : decode cX4_becomeNumber 29 = .ok (.iload_n 1, 1) := by decide +kernel
theorem dX4_becomeNumber_30 : decode cX4_becomeNumber 30 = .ok (.iastore, 1) := by decide +kernel
theorem dX4_becomeNumber_31 : decode cX4_becomeNumber 31 = .ok (.aload_n 0, 1) := by decide +kernel
theorem dX4_becomeNumber_32 : decode cX4_becomeNumber 32 = .ok (.iload_n 1, 1) := by decide +kernel
theorem dX4_becomeNumber_33 : decode cX4_becomeNumber 33 = .ok (.ifCond .ne 7, 3) := by decide +kernel
theorem dX4_becomeNumber_36 : decode cX4_becomeNumber 36 = .ok (.iconst (-1), 1) := by decide +kernel
theorem dX4_becomeNumber_37 : decode cX4_becomeNumber 37 = .ok (.goto 4, 3) := by decide +kernel
theorem dX4_becomeNumber_40 : decode cX4_becomeNumber 40 = .ok (.iconst 0, 1) := by decide +kernel
theorem dX4_becomeNumber_41 : decode cX4_becomeNumber 41 = .ok (.putfield 15, 3) := by decide +kernel
theorem dX4_becomeNumber_44 : decode cX4_becomeNumber 44 = .ok (.return_, 1) := by decide +kernel
theorem dX4_copyFrom_0 : decode cX4_copyFrom 0 = .ok (.iconst 0, 1) := by decide +kernel
theorem dX4_copyFrom_1 : decode cX4_copyFrom 1 = .ok (.istore_n 2, 1) := by decide +kernel
theorem dX4_copyFrom_2 : decode cX4_copyFrom 2 = .ok (.iload_n 2, 1) := by decide +kernel
theorem dX4_copyFrom_3 : decode cX4_copyFrom 3 = .ok (.aload_n 0, 1) := by decide +kernel
theorem dX4_copyFrom_4 : decode cX4_copyFrom 4 = .ok (.getfield 11, 3) := by decide +kernel
theorem dX4_copyFrom_7 : decode cX4_copyFrom 7 = .ok (.arraylength, 1) := by decide +kernel
theorem dX4_copyFrom_8 : decode cX4_copyFrom 8 = .ok (.if_icmp .ge 20, 3) := by decide +kernel
theorem dX4_copyFrom_11 : decode cX4_copyFrom 11 = .ok (.aload_n 0, 1) := by decide +kernel
theorem dX4_copyFrom_12 : decode cX4_copyFrom 12 = .ok (.getfield 11, 3) := by decide +kernel
theorem dX4_copyFrom_15 : decode cX4_copyFrom 15 = .ok (.iload_n 2, 1) := by decide +kernel
theorem dX4_copyFrom_16 : decode cX4_copyFrom 16 = .ok (.aload_n 1, 1) := by decide +kernel
theorem dX4_copyFrom_17 : decode cX4_copyFrom 17 = .ok (.iload_n 2, 1) := by decide +kernel
theorem dX4_copyFrom_18 : decode cX4_copyFrom 18 = .ok (.invokevirtual 19, 3) := by decide +kernel
theorem dX4_copyFrom_21 : decode cX4_copyFrom 21 = .ok (.iastore, 1) := by decide +kernel
theorem dX4_copyFrom_22 : decode cX4_copyFrom 22 = .ok (.iinc 2 1, 3) := by decide +kernel
theorem dX4_copyFrom_25 : decode cX4_copyFrom 25 = .ok (.goto (-23), 3) := by decide +kernel
theorem dX4_copyFrom_28 : decode cX4_copyFrom 28 = .ok (.aload_n 0, 1) := by decide +kernel
theorem dX4_copyFrom_29 : decode cX4_copyFrom 29 = .ok (.aload_n 1, 1) := by decide +kernel
theorem dX4_copyFrom_30 : decode cX4_copyFrom 30 = .ok (.getfield 15, 3) := by decide +kernel
theorem dX4_copyFrom_33 : decode cX4_copyFrom 33 = .ok (.putfield 15, 3) := by decide +kernel
theorem dX4_copyFrom_36 : decode cX4_copyFrom 36 = .ok (.return_, 1) := by decide +kernel
theorem dX4_scaleBy_0 : decode cX4_scaleBy 0 = .ok (.iconst 0, 1) := by decide +kernel
theorem dX4_scaleBy_1 : decode cX4_scaleBy 1 = .ok (.istore_n 2, 1) := by decide +kernel
theorem dX4_scaleBy_2 : decode cX4_scaleBy 2 = .ok (.iload_n 2, 1) := by decide +kernel
theorem dX4_scaleBy_3 : decode cX4_scaleBy 3 = .ok (.aload_n 0, 1) := by decide +kernel
theorem dX4_scaleBy_4 : decode cX4_scaleBy 4 = .ok (.getfield 11, 3) := by decide +kernel
theorem dX4_scaleBy_7 : decode cX4_scaleBy 7 = .ok (.arraylength, 1) := by decide +kernel
theorem dX4_scaleBy_8 : decode cX4_scaleBy 8 = .ok (.if_icmp .ge 35, 3) := by decide +kernel
theorem dX4_scaleBy_11 : decode cX4_scaleBy 11 = .ok (.iload_n 2, 1) := by decide +kernel
theorem dX4_scaleBy_12 : decode cX4_scaleBy 12 = .ok (.aload_n 0, 1) := by decide +kernel
theorem dX4_scaleBy_13 : decode cX4_scaleBy 13 = .ok (.getfield 15, 3) := by decide +kernel
theorem dX4_scaleBy_16 : decode cX4_scaleBy 16 = .ok (.if_icmp .gt 27, 3) := by decide +kernel
theorem dX4_scaleBy_19 : decode cX4_scaleBy 19 = .ok (.aload_n 0, 1) := by decide +kernel
theorem dX4_scaleBy_20 : decode cX4_scaleBy 20 = .ok (.getfield 11, 3) := by decide +kernel
theorem dX4_scaleBy_23 : decode cX4_scaleBy 23 = .ok (.iload_n 2, 1) := by decide +kernel
theorem dX4_scaleBy_24 : decode cX4_scaleBy 24 = .ok (.aload_n 0, 1) := by decide +kernel
theorem dX4_scaleBy_25 : decode cX4_scaleBy 25 = .ok (.getfield 11, 3) := by decide +kernel
theorem dX4_scaleBy_28 : decode cX4_scaleBy 28 = .ok (.iload_n 2, 1) := by decide +kernel
theorem dX4_scaleBy_29 : decode cX4_scaleBy 29 = .ok (.iaload, 1) := by decide +kernel
theorem dX4_scaleBy_30 : decode cX4_scaleBy 30 = .ok (.iload_n 1, 1) := by decide +kernel
theorem dX4_scaleBy_31 : decode cX4_scaleBy 31 = .ok (.imul, 1) := by decide +kernel
theorem dX4_scaleBy_32 : decode cX4_scaleBy 32 = .ok (.sipush 32003, 3) := by decide +kernel
theorem dX4_scaleBy_35 : decode cX4_scaleBy 35 = .ok (.irem, 1) := by decide +kernel
theorem dX4_scaleBy_36 : decode cX4_scaleBy 36 = .ok (.iastore, 1) := by decide +kernel
theorem dX4_scaleBy_37 : decode cX4_scaleBy 37 = .ok (.iinc 2 1, 3) := by decide +kernel
theorem dX4_scaleBy_40 : decode cX4_scaleBy 40 = .ok (.goto (-38), 3) := by decide +kernel
theorem dX4_scaleBy_43 : decode cX4_scaleBy 43 = .ok (.aload_n 0, 1) := by decide +kernel
theorem dX4_scaleBy_44 : decode cX4_scaleBy 44 = .ok (.aload_n 0, 1) := by decide +kernel
theorem dX4_scaleBy_45 : decode cX4_scaleBy 45 = .ok (.getfield 15, 3) := by decide +kernel
theorem dX4_scaleBy_48 : decode cX4_scaleBy 48 = .ok (.invokevirtual 29, 3) := by decide +kernel
theorem dX4_scaleBy_51 : decode cX4_scaleBy 51 = .ok (.return_, 1) := by decide +kernel
theorem dX4_addMultiple_0 : decode cX4_addMultiple 0 = .ok (.aload_n 2, 1) := by decide +kernel
theorem dX4_addMultiple_1 : decode cX4_addMultiple 1 = .ok (.getfield 15, 3) := by decide +kernel
theorem dX4_addMultiple_4 : decode cX4_addMultiple 4 = .ok (.iload_n 3, 1) := by decide +kernel
theorem dX4_addMultiple_5 : decode cX4_addMultiple 5 = .ok (.iadd, 1) := by decide +kernel
theorem dX4_addMultiple_6 : decode cX4_addMultiple 6 = .ok (.istore 4, 2) := by decide +kernel
theorem dX4_addMultiple_8 : decode cX4_addMultiple 8 = .ok (.iload_n 3, 1) := by decide +kernel
theorem dX4_addMultiple_9 : decode cX4_addMultiple 9 = .ok (.iconst 0, 1) := by decide +kernel
theorem dX4_addMultiple_10 : decode cX4_addMultiple 10 = .ok (.invokestatic 23, 3) := by decide +kernel
theorem dX4_addMultiple_13 : decode cX4_addMultiple 13 = .ok (.istore 5, 2) := by decide +kernel
theorem dX4_addMultiple_15 : decode cX4_addMultiple 15 = .ok (.iload 5, 2) := by decide +kernel
theorem dX4_addMultiple_17 : decode cX4_addMultiple 17 = .ok (.aload_n 0, 1) := by decide +kernel
theorem dX4_addMultiple_18 : decode cX4_addMultiple 18 = .ok (.getfield 11, 3) := by decide +kernel
theorem dX4_addMultiple_21 : decode cX4_addMultiple 21 = .ok (.arraylength, 1) := by decide +kernel
theorem dX4_addMultiple_22 : decode cX4_addMultiple 22 = .ok (.if_icmp .ge 49, 3) := by decide +kernel
theorem dX4_addMultiple_25 : decode cX4_addMultiple 25 = .ok (.iload 5, 2) := by decide +kernel
theorem dX4_addMultiple_27 : decode cX4_addMultiple 27 = .ok (.iload 4, 2) := by decide +kernel
theorem dX4_addMultiple_29 : decode cX4_addMultiple 29 = .ok (.if_icmp .gt 42, 3) := by decide +kernel
theorem dX4_addMultiple_32 : decode cX4_addMultiple 32 = .ok (.iload_n 1, 1) := by decide +kernel
theorem dX4_addMultiple_33 : decode cX4_addMultiple 33 = .ok (.aload_n 2, 1) := by decide +kernel
theorem dX4_addMultiple_34 : decode cX4_addMultiple 34 = .ok (.iload 5, 2) := by decide +kernel
theorem dX4_addMultiple_36 : decode cX4_addMultiple 36 = .ok (.iload_n 3, 1) := by decide +kernel
theorem dX4_addMultiple_37 : decode cX4_addMultiple 37 = .ok (.isub, 1) := by decide +kernel
theorem dX4_addMultiple_38 : decode cX4_addMultiple 38 = .ok (.invokevirtual 19, 3) := by decide +kernel
theorem dX4_addMultiple_41 : decode cX4_addMultiple 41 = .ok (.imul, 1) := by decide +kernel
theorem dX4_addMultiple_42 : decode cX4_addMultiple 42 = .ok (.istore 6, 2) := by decide +kernel
theorem dX4_addMultiple_44 : decode cX4_addMultiple 44 = .ok (.aload_n 0, 1) := by decide +kernel
theorem dX4_addMultiple_45 : decode cX4_addMultiple 45 = .ok (.getfield 11, 3) := by decide +kernel
theorem dX4_addMultiple_48 : decode cX4_addMultiple 48 = .ok (.iload 5, 2) := by decide +kernel
theorem dX4_addMultiple_50 : decode cX4_addMultiple 50 = .ok (.aload_n 0, 1) := by decide +kernel
theorem dX4_addMultiple_51 : decode cX4_addMultiple 51 = .ok (.getfield 11, 3) := by decide +kernel
theorem dX4_addMultiple_54 : decode cX4_addMultiple 54 = .ok (.iload 5, 2) := by decide +kernel
theorem dX4_addMultiple_56 : decode cX4_addMultiple 56 = .ok (.iaload, 1) := by decide +kernel
theorem dX4_addMultiple_57 : decode cX4_addMultiple 57 = .ok (.iload 6, 2) := by decide +kernel
theorem dX4_addMultiple_59 : decode cX4_addMultiple 59 = .ok (.iadd, 1) := by decide +kernel
theorem dX4_addMultiple_60 : decode cX4_addMultiple 60 = .ok (.sipush 32003, 3) := by decide +kernel
theorem dX4_addMultiple_63 : decode cX4_addMultiple 63 = .ok (.irem, 1) := by decide +kernel
theorem dX4_addMultiple_64 : decode cX4_addMultiple 64 = .ok (.iastore, 1) := by decide +kernel
theorem dX4_addMultiple_65 : decode cX4_addMultiple 65 = .ok (.iinc 5 1, 3) := by decide +kernel
theorem dX4_addMultiple_68 : decode cX4_addMultiple 68 = .ok (.goto (-53), 3) := by decide +kernel
theorem dX4_addMultiple_71 : decode cX4_addMultiple 71 = .ok (.aload_n 0, 1) := by decide +kernel
theorem dX4_addMultiple_72 : decode cX4_addMultiple 72 = .ok (.aload_n 0, 1) := by decide +kernel
theorem dX4_addMultiple_73 : decode cX4_addMultiple 73 = .ok (.getfield 15, 3) := by decide +kernel
theorem dX4_addMultiple_76 : decode cX4_addMultiple 76 = .ok (.iload 4, 2) := by decide +kernel
theorem dX4_addMultiple_78 : decode cX4_addMultiple 78 = .ok (.invokestatic 23, 3) := by decide +kernel
theorem dX4_addMultiple_81 : decode cX4_addMultiple 81 = .ok (.invokevirtual 29, 3) := by decide +kernel
theorem dX4_addMultiple_84 : decode cX4_addMultiple 84 = .ok (.return_, 1) := by decide +kernel
theorem dX4_multiplyBy_0 : decode cX4_multiplyBy 0 = .ok (.aload_n 0, 1) := by decide +kernel
theorem dX4_multiplyBy_1 : decode cX4_multiplyBy 1 = .ok (.invokevirtual 33, 3) := by decide +kernel
theorem dX4_multiplyBy_4 : decode cX4_multiplyBy 4 = .ok (.ifCond .ne 10, 3) := by decide +kernel
theorem dX4_multiplyBy_7 : decode cX4_multiplyBy 7 = .ok (.aload_n 1, 1) := by decide +kernel
theorem dX4_multiplyBy_8 : decode cX4_multiplyBy 8 = .ok (.invokevirtual 33, 3) := by decide +kernel
theorem dX4_multiplyBy_11 : decode cX4_multiplyBy 11 = .ok (.ifCond .eq 10, 3) := by decide +kernel
theorem dX4_multiplyBy_14 : decode cX4_multiplyBy 14 = .ok (.aload_n 0, 1) := by decide +kernel
theorem dX4_multiplyBy_15 : decode cX4_multiplyBy 15 = .ok (.getfield 15, 3) := by decide +kernel
theorem dX4_multiplyBy_18 : decode cX4_multiplyBy 18 = .ok (.goto 12, 3) := by decide +kernel
theorem dX4_multiplyBy_21 : decode cX4_multiplyBy 21 = .ok (.aload_n 0, 1) := by decide +kernel
theorem dX4_multiplyBy_22 : decode cX4_multiplyBy 22 = .ok (.getfield 15, 3) := by decide +kernel
theorem dX4_multiplyBy_25 : decode cX4_multiplyBy 25 = .ok (.aload_n 1, 1) := by decide +kernel
theorem dX4_multiplyBy_26 : decode cX4_multiplyBy 26 = .ok (.getfield 15, 3) := by decide +kernel
theorem dX4_multiplyBy_29 : decode cX4_multiplyBy 29 = .ok (.iadd, 1) := by decide +kernel
theorem dX4_multiplyBy_30 : decode cX4_multiplyBy 30 = .ok (.istore_n 2, 1) := by decide +kernel
theorem dX4_multiplyBy_31 : decode cX4_multiplyBy 31 = .ok (.iload_n 2, 1) := by decide +kernel
theorem dX4_multiplyBy_32 : decode cX4_multiplyBy 32 = .ok (.aload_n 0, 1) := by decide +kernel
theorem dX4_multiplyBy_33 : decode cX4_multiplyBy 33 = .ok (.getfield 11, 3) := by decide +kernel
theorem dX4_multiplyBy_36 : decode cX4_multiplyBy 36 = .ok (.arraylength, 1) := by decide +kernel
theorem dX4_multiplyBy_37 : decode cX4_multiplyBy 37 = .ok (.iconst 1, 1) := by decide +kernel
theorem dX4_multiplyBy_38 : decode cX4_multiplyBy 38 = .ok (.isub, 1) := by decide +kernel
theorem dX4_multiplyBy_39 : decode cX4_multiplyBy 39 = .ok (.invokestatic 37, 3) := by decide +kernel
theorem dX4_multiplyBy_42 : decode cX4_multiplyBy 42 = .ok (.istore_n 3, 1) := by decide +kernel
theorem dX4_multiplyBy_43 : decode cX4_multiplyBy 43 = .ok (.iload_n 3, 1) := by decide +kernel
theorem dX4_multiplyBy_44 : decode cX4_multiplyBy 44 = .ok (.ifCond .lt 68, 3) := by decide +kernel
theorem dX4_multiplyBy_47 : decode cX4_multiplyBy 47 = .ok (.iconst 0, 1) := by decide +kernel
theorem dX4_multiplyBy_48 : decode cX4_multiplyBy 48 = .ok (.istore 4, 2) := by decide +kernel
theorem dX4_multiplyBy_50 : decode cX4_multiplyBy 50 = .ok (.iconst 0, 1) := by decide +kernel
theorem dX4_multiplyBy_51 : decode cX4_multiplyBy 51 = .ok (.istore 5, 2) := by decide +kernel
theorem dX4_multiplyBy_53 : decode cX4_multiplyBy 53 = .ok (.iload 5, 2) := by decide +kernel
theorem dX4_multiplyBy_55 : decode cX4_multiplyBy 55 = .ok (.aload_n 1, 1) := by decide +kernel
theorem dX4_multiplyBy_56 : decode cX4_multiplyBy 56 = .ok (.getfield 15, 3) := by decide +kernel
theorem dX4_multiplyBy_59 : decode cX4_multiplyBy 59 = .ok (.if_icmp .gt 39, 3) := by decide +kernel
theorem dX4_multiplyBy_62 : decode cX4_multiplyBy 62 = .ok (.iload 5, 2) := by decide +kernel
theorem dX4_multiplyBy_64 : decode cX4_multiplyBy 64 = .ok (.iload_n 3, 1) := by decide +kernel
theorem dX4_multiplyBy_65 : decode cX4_multiplyBy 65 = .ok (.if_icmp .gt 33, 3) := by decide +kernel
theorem dX4_multiplyBy_68 : decode cX4_multiplyBy 68 = .ok (.iload 4, 2) := by decide +kernel
theorem dX4_multiplyBy_70 : decode cX4_multiplyBy 70 = .ok (.aload_n 0, 1) := by decide +kernel
theorem dX4_multiplyBy_71 : decode cX4_multiplyBy 71 = .ok (.iload_n 3, 1) := by decide +kernel
theorem dX4_multiplyBy_72 : decode cX4_multiplyBy 72 = .ok (.iload 5, 2) := by decide +kernel
theorem dX4_multiplyBy_74 : decode cX4_multiplyBy 74 = .ok (.isub, 1) := by decide +kernel
theorem dX4_multiplyBy_75 : decode cX4_multiplyBy 75 = .ok (.invokevirtual 19, 3) := by decide +kernel
theorem dX4_multiplyBy_78 : decode cX4_multiplyBy 78 = .ok (.aload_n 1, 1) := by decide +kernel
theorem dX4_multiplyBy_79 : decode cX4_multiplyBy 79 = .ok (.iload 5, 2) := by decide +kernel
theorem dX4_multiplyBy_81 : decode cX4_multiplyBy 81 = .ok (.invokevirtual 19, 3) := by decide +kernel
theorem dX4_multiplyBy_84 : decode cX4_multiplyBy 84 = .ok (.imul, 1) := by decide +kernel
theorem dX4_multiplyBy_85 : decode cX4_multiplyBy 85 = .ok (.iadd, 1) := by decide +kernel
theorem dX4_multiplyBy_86 : decode cX4_multiplyBy 86 = .ok (.sipush 32003, 3) := by decide +kernel
theorem dX4_multiplyBy_89 : decode cX4_multiplyBy 89 = .ok (.irem, 1) := by decide +kernel
theorem dX4_multiplyBy_90 : decode cX4_multiplyBy 90 = .ok (.istore 4, 2) := by decide +kernel
theorem dX4_multiplyBy_92 : decode cX4_multiplyBy 92 = .ok (.iinc 5 1, 3) := by decide +kernel
theorem dX4_multiplyBy_95 : decode cX4_multiplyBy 95 = .ok (.goto (-42), 3) := by decide +kernel
theorem dX4_multiplyBy_98 : decode cX4_multiplyBy 98 = .ok (.aload_n 0, 1) := by decide +kernel
theorem dX4_multiplyBy_99 : decode cX4_multiplyBy 99 = .ok (.getfield 11, 3) := by decide +kernel
theorem dX4_multiplyBy_102 : decode cX4_multiplyBy 102 = .ok (.iload_n 3, 1) := by decide +kernel
theorem dX4_multiplyBy_103 : decode cX4_multiplyBy 103 = .ok (.iload 4, 2) := by decide +kernel
theorem dX4_multiplyBy_105 : decode cX4_multiplyBy 105 = .ok (.iastore, 1) := by decide +kernel
theorem dX4_multiplyBy_106 : decode cX4_multiplyBy 106 = .ok (.iinc 3 (-1), 3) := by decide +kernel
theorem dX4_multiplyBy_109 : decode cX4_multiplyBy 109 = .ok (.goto (-66), 3) := by decide +kernel
theorem dX4_multiplyBy_112 : decode cX4_multiplyBy 112 = .ok (.aload_n 0, 1) := by decide +kernel
theorem dX4_multiplyBy_113 : decode cX4_multiplyBy 113 = .ok (.iload_n 2, 1) := by decide +kernel
theorem dX4_multiplyBy_114 : decode cX4_multiplyBy 114 = .ok (.invokevirtual 29, 3) := by decide +kernel
theorem dX4_multiplyBy_117 : decode cX4_multiplyBy 117 = .ok (.return_, 1) := by decide +kernel
theorem dX4_moveBy_0 : decode cX4_moveBy 0 = .ok (.iconst 0, 1) := by decide +kernel
theorem dX4_moveBy_1 : decode cX4_moveBy 1 = .ok (.istore_n 2, 1) := by decide +kernel
theorem dX4_moveBy_2 : decode cX4_moveBy 2 = .ok (.iload_n 2, 1) := by decide +kernel
theorem dX4_moveBy_3 : decode cX4_moveBy 3 = .ok (.aload_n 0, 1) := by decide +kernel
theorem dX4_moveBy_4 : decode cX4_moveBy 4 = .ok (.getfield 15, 3) := by decide +kernel
theorem dX4_moveBy_7 : decode cX4_moveBy 7 = .ok (.if_icmp .ge 63, 3) := by decide +kernel
theorem dX4_moveBy_10 : decode cX4_moveBy 10 = .ok (.aload_n 0, 1) := by decide +kernel
theorem dX4_moveBy_11 : decode cX4_moveBy 11 = .ok (.getfield 15, 3) := by decide +kernel
theorem dX4_moveBy_14 : decode cX4_moveBy 14 = .ok (.aload_n 0, 1) := by decide +kernel
theorem dX4_moveBy_15 : decode cX4_moveBy 15 = .ok (.getfield 11, 3) := by decide +kernel
theorem dX4_moveBy_18 : decode cX4_moveBy 18 = .ok (.arraylength, 1) := by decide +kernel
theorem dX4_moveBy_19 : decode cX4_moveBy 19 = .ok (.iconst 1, 1) := by decide +kernel
theorem dX4_moveBy_20 : decode cX4_moveBy 20 = .ok (.isub, 1) := by decide +kernel
theorem dX4_moveBy_21 : decode cX4_moveBy 21 = .ok (.invokestatic 37, 3) := by decide +kernel
theorem dX4_moveBy_24 : decode cX4_moveBy 24 = .ok (.iconst 1, 1) := by decide +kernel
theorem dX4_moveBy_25 : decode cX4_moveBy 25 = .ok (.isub, 1) := by decide +kernel
theorem dX4_moveBy_26 : decode cX4_moveBy 26 = .ok (.istore_n 3, 1) := by decide +kernel
theorem dX4_moveBy_27 : decode cX4_moveBy 27 = .ok (.iload_n 3, 1) := by decide +kernel
theorem dX4_moveBy_28 : decode cX4_moveBy 28 = .ok (.iload_n 2, 1) := by decide +kernel
theorem dX4_moveBy_29 : decode cX4_moveBy 29 = .ok (.if_icmp .lt 35, 3) := by decide +kernel
theorem dX4_moveBy_32 : decode cX4_moveBy 32 = .ok (.aload_n 0, 1) := by decide +kernel
theorem dX4_moveBy_33 : decode cX4_moveBy 33 = .ok (.getfield 11, 3) := by decide +kernel
theorem dX4_moveBy_36 : decode cX4_moveBy 36 = .ok (.iload_n 3, 1) := by decide +kernel
theorem dX4_moveBy_37 : decode cX4_moveBy 37 = .ok (.aload_n 0, 1) := by decide +kernel
theorem dX4_moveBy_38 : decode cX4_moveBy 38 = .ok (.getfield 11, 3) := by decide +kernel
theorem dX4_moveBy_41 : decode cX4_moveBy 41 = .ok (.iload_n 3, 1) := by decide +kernel
theorem dX4_moveBy_42 : decode cX4_moveBy 42 = .ok (.iaload, 1) := by decide +kernel
theorem dX4_moveBy_43 : decode cX4_moveBy 43 = .ok (.iload_n 1, 1) := by decide +kernel
theorem dX4_moveBy_44 : decode cX4_moveBy 44 = .ok (.aload_n 0, 1) := by decide +kernel
theorem dX4_moveBy_45 : decode cX4_moveBy 45 = .ok (.iload_n 3, 1) := by decide +kernel
theorem dX4_moveBy_46 : decode cX4_moveBy 46 = .ok (.iconst 1, 1) := by decide +kernel
theorem dX4_moveBy_47 : decode cX4_moveBy 47 = .ok (.iadd, 1) := by decide +kernel
theorem dX4_moveBy_48 : decode cX4_moveBy 48 = .ok (.invokevirtual 19, 3) := by decide +kernel
theorem dX4_moveBy_51 : decode cX4_moveBy 51 = .ok (.imul, 1) := by decide +kernel
theorem dX4_moveBy_52 : decode cX4_moveBy 52 = .ok (.iadd, 1) := by decide +kernel
theorem dX4_moveBy_53 : decode cX4_moveBy 53 = .ok (.sipush 32003, 3) := by decide +kernel
theorem dX4_moveBy_56 : decode cX4_moveBy 56 = .ok (.irem, 1) := by decide +kernel
theorem dX4_moveBy_57 : decode cX4_moveBy 57 = .ok (.iastore, 1) := by decide +kernel
theorem dX4_moveBy_58 : decode cX4_moveBy 58 = .ok (.iinc 3 (-1), 3) := by decide +kernel
theorem dX4_moveBy_61 : decode cX4_moveBy 61 = .ok (.goto (-34), 3) := by decide +kernel
theorem dX4_moveBy_64 : decode cX4_moveBy 64 = .ok (.iinc 2 1, 3) := by decide +kernel
theorem dX4_moveBy_67 : decode cX4_moveBy 67 = .ok (.goto (-65), 3) := by decide +kernel
theorem dX4_moveBy_70 : decode cX4_moveBy 70 = .ok (.return_, 1) := by decide +kernel
theorem dX4_divideBy_0 : decode cX4_divideBy 0 = .ok (.aload_n 2, 1) := by decide +kernel
theorem dX4_divideBy_1 : decode cX4_divideBy 1 = .ok (.iconst 0, 1) := by decide +kernel
theorem dX4_divideBy_2 : decode cX4_divideBy 2 = .ok (.invokevirtual 40, 3) := by decide +kernel
theorem dX4_divideBy_5 : decode cX4_divideBy 5 = .ok (.aload_n 1, 1) := by decide +kernel
theorem dX4_divideBy_6 : decode cX4_divideBy 6 = .ok (.invokevirtual 33, 3) := by decide +kernel
theorem dX4_divideBy_9 : decode cX4_divideBy 9 = .ok (.ifCond .eq 4, 3) := by decide +kernel
theorem dX4_divideBy_12 : decode cX4_divideBy 12 = .ok (.return_, 1) := by decide +kernel
theorem dX4_divideBy_13 : decode cX4_divideBy 13 = .ok (.aload_n 1, 1) := by decide +kernel
theorem dX4_divideBy_14 : decode cX4_divideBy 14 = .ok (.invokevirtual 43, 3) := by decide +kernel
theorem dX4_divideBy_17 : decode cX4_divideBy 17 = .ok (.invokestatic 47, 3) := by decide +kernel
theorem dX4_divideBy_20 : decode cX4_divideBy 20 = .ok (.istore_n 3, 1) := by decide +kernel
theorem dX4_divideBy_21 : decode cX4_divideBy 21 = .ok (.aload_n 0, 1) := by decide +kernel
theorem dX4_divideBy_22 : decode cX4_divideBy 22 = .ok (.getfield 15, 3) := by decide +kernel
theorem dX4_divideBy_25 : decode cX4_divideBy 25 = .ok (.istore 4, 2) := by decide +kernel
theorem dX4_divideBy_27 : decode cX4_divideBy 27 = .ok (.iload 4, 2) := by decide +kernel
theorem dX4_divideBy_29 : decode cX4_divideBy 29 = .ok (.aload_n 1, 1) := by decide +kernel
theorem dX4_divideBy_30 : decode cX4_divideBy 30 = .ok (.getfield 15, 3) := by decide +kernel
theorem dX4_divideBy_33 : decode cX4_divideBy 33 = .ok (.if_icmp .lt 57, 3) := by decide +kernel
theorem dX4_divideBy_36 : decode cX4_divideBy 36 = .ok (.aload_n 0, 1) := by decide +kernel
theorem dX4_divideBy_37 : decode cX4_divideBy 37 = .ok (.iload 4, 2) := by decide +kernel
theorem dX4_divideBy_39 : decode cX4_divideBy 39 = .ok (.invokevirtual 19, 3) := by decide +kernel
theorem dX4_divideBy_42 : decode cX4_divideBy 42 = .ok (.iload_n 3, 1) := by decide +kernel
theorem dX4_divideBy_43 : decode cX4_divideBy 43 = .ok (.imul, 1) := by decide +kernel
theorem dX4_divideBy_44 : decode cX4_divideBy 44 = .ok (.sipush 32003, 3) := by decide +kernel
theorem dX4_divideBy_47 : decode cX4_divideBy 47 = .ok (.irem, 1) := by decide +kernel
theorem dX4_divideBy_48 : decode cX4_divideBy 48 = .ok (.istore 5, 2) := by decide +kernel
theorem dX4_divideBy_50 : decode cX4_divideBy 50 = .ok (.iload 5, 2) := by decide +kernel
theorem dX4_divideBy_52 : decode cX4_divideBy 52 = .ok (.ifCond .eq 32, 3) := by decide +kernel
theorem dX4_divideBy_55 : decode cX4_divideBy 55 = .ok (.iload 4, 2) := by decide +kernel
theorem dX4_divideBy_57 : decode cX4_divideBy 57 = .ok (.aload_n 1, 1) := by decide +kernel
theorem dX4_divideBy_58 : decode cX4_divideBy 58 = .ok (.getfield 15, 3) := by decide +kernel
theorem dX4_divideBy_61 : decode cX4_divideBy 61 = .ok (.isub, 1) := by decide +kernel
theorem dX4_divideBy_62 : decode cX4_divideBy 62 = .ok (.istore 6, 2) := by decide +kernel
theorem dX4_divideBy_64 : decode cX4_divideBy 64 = .ok (.aload_n 2, 1) := by decide +kernel
theorem dX4_divideBy_65 : decode cX4_divideBy 65 = .ok (.iload 6, 2) := by decide +kernel
theorem dX4_divideBy_67 : decode cX4_divideBy 67 = .ok (.iload 5, 2) := by decide +kernel
theorem dX4_divideBy_69 : decode cX4_divideBy 69 = .ok (.invokevirtual 50, 3) := by decide +kernel
theorem dX4_divideBy_72 : decode cX4_divideBy 72 = .ok (.aload_n 0, 1) := by decide +kernel
theorem dX4_divideBy_73 : decode cX4_divideBy 73 = .ok (.iload 5, 2) := by decide +kernel
theorem dX4_divideBy_75 : decode cX4_divideBy 75 = .ok (.invokestatic 54, 3) := by decide +kernel
theorem dX4_divideBy_78 : decode cX4_divideBy 78 = .ok (.aload_n 1, 1) := by decide +kernel
theorem dX4_divideBy_79 : decode cX4_divideBy 79 = .ok (.iload 6, 2) := by decide +kernel
theorem dX4_divideBy_81 : decode cX4_divideBy 81 = .ok (.invokevirtual 57, 3) := by decide +kernel
theorem dX4_divideBy_84 : decode cX4_divideBy 84 = .ok (.iinc 4 (-1), 3) := by decide +kernel
theorem dX4_divideBy_87 : decode cX4_divideBy 87 = .ok (.goto (-60), 3) := by decide +kernel
theorem dX4_divideBy_90 : decode cX4_divideBy 90 = .ok (.return_, 1) := by decide +kernel
theorem dX4_valueAt_0 : decode cX4_valueAt 0 = .ok (.iconst 0, 1) := by decide +kernel
theorem dX4_valueAt_1 : decode cX4_valueAt 1 = .ok (.istore_n 2, 1) := by decide +kernel
theorem dX4_valueAt_2 : decode cX4_valueAt 2 = .ok (.aload_n 0, 1) := by decide +kernel
theorem dX4_valueAt_3 : decode cX4_valueAt 3 = .ok (.getfield 15, 3) := by decide +kernel
theorem dX4_valueAt_6 : decode cX4_valueAt 6 = .ok (.istore_n 3, 1) := by decide +kernel
theorem dX4_valueAt_7 : decode cX4_valueAt 7 = .ok (.iload_n 3, 1) := by decide +kernel
theorem dX4_valueAt_8 : decode cX4_valueAt 8 = .ok (.ifCond .lt 23, 3) := by decide +kernel
theorem dX4_valueAt_11 : decode cX4_valueAt 11 = .ok (.iload_n 2, 1) := by decide +kernel
theorem dX4_valueAt_12 : decode cX4_valueAt 12 = .ok (.iload_n 1, 1) := by decide +kernel
theorem dX4_valueAt_13 : decode cX4_valueAt 13 = .ok (.imul, 1) := by decide +kernel
theorem dX4_valueAt_14 : decode cX4_valueAt 14 = .ok (.aload_n 0, 1) := by decide +kernel
theorem dX4_valueAt_15 : decode cX4_valueAt 15 = .ok (.iload_n 3, 1) := by decide +kernel
theorem dX4_valueAt_16 : decode cX4_valueAt 16 = .ok (.invokevirtual 19, 3) := by decide +kernel
theorem dX4_valueAt_19 : decode cX4_valueAt 19 = .ok (.iadd, 1) := by decide +kernel
theorem dX4_valueAt_20 : decode cX4_valueAt 20 = .ok (.sipush 32003, 3) := by decide +kernel
theorem dX4_valueAt_23 : decode cX4_valueAt 23 = .ok (.irem, 1) := by decide +kernel
theorem dX4_valueAt_24 : decode cX4_valueAt 24 = .ok (.istore_n 2, 1) := by decide +kernel
theorem dX4_valueAt_25 : decode cX4_valueAt 25 = .ok (.iinc 3 (-1), 3) := by decide +kernel
theorem dX4_valueAt_28 : decode cX4_valueAt 28 = .ok (.goto (-21), 3) := by decide +kernel
theorem dX4_valueAt_31 : decode cX4_valueAt 31 = .ok (.iload_n 2, 1) := by decide +kernel
theorem dX4_valueAt_32 : decode cX4_valueAt 32 = .ok (.ireturn, 1) := by decide +kernel
theorem dX4_settle_0 : decode cX4_settle 0 = .ok (.iload_n 1, 1) := by decide +kernel
theorem dX4_settle_1 : decode cX4_settle 1 = .ok (.aload_n 0, 1) := by decide +kernel
theorem dX4_settle_2 : decode cX4_settle 2 = .ok (.getfield 11, 3) := by decide +kernel
theorem dX4_settle_5 : decode cX4_settle 5 = .ok (.arraylength, 1) := by decide +kernel
theorem dX4_settle_6 : decode cX4_settle 6 = .ok (.if_icmp .ge 7, 3) := by decide +kernel
theorem dX4_settle_9 : decode cX4_settle 9 = .ok (.iload_n 1, 1) := by decide +kernel
theorem dX4_settle_10 : decode cX4_settle 10 = .ok (.goto 10, 3) := by decide +kernel
theorem dX4_settle_13 : decode cX4_settle 13 = .ok (.aload_n 0, 1) := by decide +kernel
theorem dX4_settle_14 : decode cX4_settle 14 = .ok (.getfield 11, 3) := by decide +kernel
theorem dX4_settle_17 : decode cX4_settle 17 = .ok (.arraylength, 1) := by decide +kernel
theorem dX4_settle_18 : decode cX4_settle 18 = .ok (.iconst 1, 1) := by decide +kernel
theorem dX4_settle_19 : decode cX4_settle 19 = .ok (.isub, 1) := by decide +kernel
theorem dX4_settle_20 : decode cX4_settle 20 = .ok (.istore_n 2, 1) := by decide +kernel
theorem dX4_settle_21 : decode cX4_settle 21 = .ok (.iload_n 2, 1) := by decide +kernel
theorem dX4_settle_22 : decode cX4_settle 22 = .ok (.ifCond .lt 18, 3) := by decide +kernel
theorem dX4_settle_25 : decode cX4_settle 25 = .ok (.aload_n 0, 1) := by decide +kernel
theorem dX4_settle_26 : decode cX4_settle 26 = .ok (.getfield 11, 3) := by decide +kernel
theorem dX4_settle_29 : decode cX4_settle 29 = .ok (.iload_n 2, 1) := by decide +kernel
theorem dX4_settle_30 : decode cX4_settle 30 = .ok (.iaload, 1) := by decide +kernel
theorem dX4_settle_31 : decode cX4_settle 31 = .ok (.ifCond .ne 9, 3) := by decide +kernel
theorem dX4_settle_34 : decode cX4_settle 34 = .ok (.iinc 2 (-1), 3) := by decide +kernel
theorem dX4_settle_37 : decode cX4_settle 37 = .ok (.goto (-16), 3) := by decide +kernel
theorem dX4_settle_40 : decode cX4_settle 40 = .ok (.aload_n 0, 1) := by decide +kernel
theorem dX4_settle_41 : decode cX4_settle 41 = .ok (.iload_n 2, 1) := by decide +kernel
theorem dX4_settle_42 : decode cX4_settle 42 = .ok (.putfield 15, 3) := by decide +kernel
theorem dX4_settle_45 : decode cX4_settle 45 = .ok (.return_, 1) := by decide +kernel
set_option maxRecDepth 20000 in
theorem ggX4_leading_X4_number : GoodIn wsX4_leading wsX4_number := goodIn_r _ [6, 7, 8, 9] (by decide +kernel) (by decide +kernel)
set_option maxRecDepth 20000 in
theorem gX4_leading_X4_number : GoodIn wsX4_leading (wsV RX4 19 RX4 yX4_number wsX4_number) := goodIn_app (goodIn_of _ (by decide +kernel)) ggX4_leading_X4_number
set_option maxRecDepth 20000 in
theorem ggX4_setNumber_X4_settle : GoodIn wsX4_setNumber wsX4_settle := goodIn_r _ [11, 1, 2, 12, 13] (by decide +kernel) (by decide +kernel)
set_option maxRecDepth 20000 in
theorem gX4_setNumber_X4_settle : GoodIn wsX4_setNumber (wsV RX4 29 RX4 yX4_settle wsX4_settle) := goodIn_app (goodIn_of _ (by decide +kernel)) ggX4_setNumber_X4_settle
set_option maxRecDepth 20000 in
theorem ggX4_copyFrom_X4_number : GoodIn wsX4_copyFrom wsX4_number := goodIn_r _ [7, 1, 8, 9] (by decide +kernel) (by decide +kernel)
set_option maxRecDepth 20000 in
theorem gX4_copyFrom_X4_number : GoodIn wsX4_copyFrom (wsV RX4 19 RX4 yX4_number wsX4_number) := goodIn_app (goodIn_of _ (by decide +kernel)) ggX4_copyFrom_X4_number
set_option maxRecDepth 20000 in
theorem ggX4_scaleBy_X4_settle : GoodIn wsX4_scaleBy wsX4_settle := goodIn_r _ [7, 1, 2, 8, 9] (by decide +kernel) (by decide +kernel)
set_option maxRecDepth 20000 in
theorem gX4_scaleBy_X4_settle : GoodIn wsX4_scaleBy (wsV RX4 29 RX4 yX4_settle wsX4_settle) := goodIn_app (goodIn_of _ (by decide +kernel)) ggX4_scaleBy_X4_settle
set_option maxRecDepth 20000 in
theorem ggX4_addMultiple_X4_number : GoodIn wsX4_addMultiple wsX4_number := goodIn_r _ [11, 6, 16, 17] (by decide +kernel) (by decide +kernel)
set_option maxRecDepth 20000 in
theorem gX4_addMultiple_X4_number : GoodIn wsX4_addMultiple (wsV RX4 19 RX4 yX4_number wsX4_number) := goodIn_app (goodIn_of _ (by decide +kernel)) ggX4_addMultiple_X4_number
set_option maxRecDepth 20000 in
theorem ggX4_addMultiple_X4_settle : GoodIn wsX4_addMultiple wsX4_settle := goodIn_r _ [15, 6, 1, 16, 17] (by decide +kernel) (by decide +kernel)
set_option maxRecDepth 20000 in
theorem gX4_addMultiple_X4_settle : GoodIn wsX4_addMultiple (wsV RX4 29 RX4 yX4_settle wsX4_settle) := goodIn_app (goodIn_of _ (by decide +kernel)) ggX4_addMultiple_X4_settle
set_option maxRecDepth 20000 in
theorem ggX4_multiplyBy_X4_isZero : GoodIn wsX4_multiplyBy wsX4_isZero := goodIn_r _ [11, 1, 20, 21] (by decide +kernel) (by decide +kernel)
set_option maxRecDepth 20000 in
theorem gX4_multiplyBy_X4_isZero : GoodIn wsX4_multiplyBy (wsV RX4 33 RX4 yX4_isZero wsX4_isZero) := goodIn_app (goodIn_of _ (by decide +kernel)) ggX4_multiplyBy_X4_isZero
set_option maxRecDepth 20000 in
theorem ggX4_multiplyBy_X4_number : GoodIn wsX4_multiplyBy wsX4_number := goodIn_r _ [15, 2, 20, 21] (by decide +kernel) (by decide +kernel)
set_option maxRecDepth 20000 in
theorem gX4_multiplyBy_X4_number : GoodIn wsX4_multiplyBy (wsV RX4 19 RX4 yX4_number wsX4_number) := goodIn_app (goodIn_of _ (by decide +kernel)) ggX4_multiplyBy_X4_number
set_option maxRecDepth 20000 in
theorem ggX4_multiplyBy_X4_settle : GoodIn wsX4_multiplyBy wsX4_settle := goodIn_r _ [19, 2, 1, 20, 21] (by decide +kernel) (by decide +kernel)
set_option maxRecDepth 20000 in
theorem gX4_multiplyBy_X4_settle : GoodIn wsX4_multiplyBy (wsV RX4 29 RX4 yX4_settle wsX4_settle) := goodIn_app (goodIn_of _ (by decide +kernel)) ggX4_multiplyBy_X4_settle
set_option maxRecDepth 20000 in
theorem ggX4_moveBy_X4_number : GoodIn wsX4_moveBy wsX4_number := goodIn_r _ [11, 2, 12, 13] (by decide +kernel) (by decide +kernel)
set_option maxRecDepth 20000 in
theorem gX4_moveBy_X4_number : GoodIn wsX4_moveBy (wsV RX4 19 RX4 yX4_number wsX4_number) := goodIn_app (goodIn_of _ (by decide +kernel)) ggX4_moveBy_X4_number
set_option maxRecDepth 20000 in
theorem ggX4_divideBy_X4_becomeNumber : GoodIn wsX4_divideBy wsX4_becomeNumber := goodIn_r _ [6, 7, 1, 41, 42] (by decide +kernel) (by decide +kernel)
set_option maxRecDepth 20000 in
theorem gX4_divideBy_X4_becomeNumber : GoodIn wsX4_divideBy (wsV RX4 40 RX4 yX4_becomeNumber wsX4_becomeNumber) := goodIn_app (goodIn_of _ (by decide +kernel)) ggX4_divideBy_X4_becomeNumber
set_option maxRecDepth 20000 in
theorem ggX4_divideBy_X4_isZero : GoodIn wsX4_divideBy wsX4_isZero := goodIn_r _ [11, 1, 41, 42] (by decide +kernel) (by decide +kernel)
set_option maxRecDepth 20000 in
theorem gX4_divideBy_X4_isZero : GoodIn wsX4_divideBy (wsV RX4 33 RX4 yX4_isZero wsX4_isZero) := goodIn_app (goodIn_of _ (by decide +kernel)) ggX4_divideBy_X4_isZero
set_option maxRecDepth 20000 in
theorem ggX4_divideBy_X4_leading : GoodIn wsX4_divideBy wsX4_leading := goodIn_r _ [15, 1, 16, 17, 18, 5, 19, 7, 41, 42] (by decide +kernel) (by decide +kernel)
set_option maxRecDepth 20000 in
theorem gX4_divideBy_X4_leading : GoodIn wsX4_divideBy (wsV RX4 43 RX4 yX4_leading wsX4_leading) := goodIn_app (goodIn_of _ (by decide +kernel)) ggX4_divideBy_X4_leading
set_option maxRecDepth 20000 in
theorem ggX4_divideBy_X7_inverse : GoodIn wsX4_divideBy wsX7_inverse := goodIn_r _ [22] (by decide +kernel) (by decide +kernel)
set_option maxRecDepth 20000 in
theorem gX4_divideBy_X7_inverse_n47 : GoodIn wsX4_divideBy (wsX7_inverse) := ggX4_divideBy_X7_inverse
set_option maxRecDepth 20000 in
theorem ggX4_divideBy_X4_number : GoodIn wsX4_divideBy wsX4_number := goodIn_r _ [19, 7, 41, 42] (by decide +kernel) (by decide +kernel)
set_option maxRecDepth 20000 in
theorem gX4_divideBy_X4_number : GoodIn wsX4_divideBy (wsV RX4 19 RX4 yX4_number wsX4_number) := goodIn_app (goodIn_of _ (by decide +kernel)) ggX4_divideBy_X4_number
set_option maxRecDepth 20000 in
theorem ggX4_divideBy_X4_setNumber : GoodIn wsX4_divideBy wsX4_setNumber := goodIn_r _ [26, 7, 1, 27, 28, 29, 30, 31, 32, 33, 5, 34, 41, 42] (by decide +kernel) (by decide +kernel)
set_option maxRecDepth 20000 in
theorem gX4_divideBy_X4_setNumber : GoodIn wsX4_divideBy (wsV RX4 50 RX4 yX4_setNumber wsX4_setNumber) := goodIn_app (goodIn_of _ (by decide +kernel)) ggX4_divideBy_X4_setNumber
set_option maxRecDepth 20000 in
theorem ggX4_divideBy_X7_negative : GoodIn wsX4_divideBy wsX7_negative := goodIn_r _ [36] (by decide +kernel) (by decide +kernel)
set_option maxRecDepth 20000 in
theorem gX4_divideBy_X7_negative_n54 : GoodIn wsX4_divideBy (wsX7_negative) := ggX4_divideBy_X7_negative
set_option maxRecDepth 20000 in
theorem ggX4_divideBy_X4_addMultiple : GoodIn wsX4_divideBy wsX4_addMultiple := goodIn_r _ [40, 1, 27, 28, 29, 30, 7, 16, 17, 18, 5, 19, 31, 32, 33, 34, 41, 42] (by decide +kernel) (by decide +kernel)
set_option maxRecDepth 20000 in
theorem gX4_divideBy_X4_addMultiple : GoodIn wsX4_divideBy (wsV RX4 57 RX4 yX4_addMultiple wsX4_addMultiple) := goodIn_app (goodIn_of _ (by decide +kernel)) ggX4_divideBy_X4_addMultiple
set_option maxRecDepth 20000 in
theorem ggX4_valueAt_X4_number : GoodIn wsX4_valueAt wsX4_number := goodIn_r _ [6, 7, 8, 9] (by decide +kernel) (by decide +kernel)
set_option maxRecDepth 20000 in
theorem gX4_valueAt_X4_number : GoodIn wsX4_valueAt (wsV RX4 19 RX4 yX4_number wsX4_number) := goodIn_app (goodIn_of _ (by decide +kernel)) ggX4_valueAt_X4_number
end
section
/-! the base: numbers modulo 32003, ints as whole numbers, the judgement of a method's walk -/
abbrev Fq : Type := Fin 32003
def zI (z : Int) : Int32 := Int32.ofInt z
def zL (z : Int) : Int64 := Int64.ofInt z
theorem zI_add (a b : Int) : zI a + zI b = zI (a + b) := (Int32.ofInt_add a b).symm
theorem zI_sub (a b : Int) : zI a - zI b = zI (a - b) := (Int32.ofInt_sub a b).symm
theorem zI_mul (a b : Int) : zI a * zI b = zI (a * b) := (Int32.ofInt_mul a b).symm
theorem zI_toInt {z : Int} (h1 : -2147483648 ≤ z) (h2 : z < 2147483648) : (zI z).toInt = z := Int32.toInt_ofInt_of_le (by omega) (by omega)
theorem zI_of (x : Int32) : zI x.toInt = x := Int32.ofInt_toInt x
theorem zI_rng (x : Int32) : -2147483648 ≤ x.toInt ∧ x.toInt < 2147483648 := ⟨by have := Int32.le_toInt x; omega, by have := Int32.toInt_lt x; omega⟩
theorem zI_nat (n : Nat) : zI (n : Int) = nI n := Int32.ofInt_eq_ofNat
theorem zI_cl {k : Nat} (h : k < 2147483648) : (zI (k : Int)).toNatClampNeg = k := by rw [zI_nat]; exact nI_clamp h
theorem zI_in {k n : Nat} (h : k < n) (hn : n < 2147483648) : vp_in (zI (k : Int)) n := by rw [zI_nat]; exact vp_in_nI h hn
theorem zI_le {a b : Int} (a1 : -2147483648 ≤ a) (a2 : a < 2147483648) (b1 : -2147483648 ≤ b) (b2 : b < 2147483648) : zI a ≤ zI b ↔ a ≤ b := by
  rw [Int32.le_iff_toInt_le, zI_toInt a1 a2, zI_toInt b1 b2]
theorem zI_lt {a b : Int} (a1 : -2147483648 ≤ a) (a2 : a < 2147483648) (b1 : -2147483648 ≤ b) (b2 : b < 2147483648) : zI a < zI b ↔ a < b := by
  rw [Int32.lt_iff_toInt_lt, zI_toInt a1 a2, zI_toInt b1 b2]
theorem zI_eq {a b : Int} (a1 : -2147483648 ≤ a) (a2 : a < 2147483648) (b1 : -2147483648 ≤ b) (b2 : b < 2147483648) : zI a = zI b ↔ a = b := by
  rw [← Int32.toInt_inj, zI_toInt a1 a2, zI_toInt b1 b2]
theorem zI_0 : zI 0 = 0 := rfl
theorem zI_rem {a b : Int} (a1 : 0 ≤ a) (a2 : a < 2147483648) (b1 : 0 < b) (b2 : b < 2147483648) : zI a - zI a / zI b * zI b = zI (a % b) := by
  obtain ⟨n, rfl⟩ := Int.eq_ofNat_of_zero_le a1
  obtain ⟨d, rfl⟩ := Int.eq_ofNat_of_zero_le (Int.le_of_lt b1)
  have h := pk_rem (a := n) (d := d) (by omega) (by omega) (by omega)
  rw [show zI ((n : Int) % (d : Int)) = nI (n % d) from by rw [← Int.natCast_emod]; exact zI_nat _]
  rw [show zI (n : Int) = nI n from zI_nat n, show zI (d : Int) = nI d from zI_nat d]
  exact h
theorem zL_add (a b : Int) : zL a + zL b = zL (a + b) := (Int64.ofInt_add a b).symm
theorem zL_sub (a b : Int) : zL a - zL b = zL (a - b) := (Int64.ofInt_sub a b).symm
theorem zL_mul (a b : Int) : zL a * zL b = zL (a * b) := (Int64.ofInt_mul a b).symm
theorem zL_toInt {z : Int} (h1 : -9223372036854775808 ≤ z) (h2 : z < 9223372036854775808) : (zL z).toInt = z := Int64.toInt_ofInt_of_le (by omega) (by omega)
theorem zL_of (x : Int64) : zL x.toInt = x := Int64.ofInt_toInt x
theorem zL_rng (x : Int64) : -9223372036854775808 ≤ x.toInt ∧ x.toInt < 9223372036854775808 := ⟨by have := Int64.le_toInt x; omega, by have := Int64.toInt_lt x; omega⟩
theorem zL_le {a b : Int} (a1 : -9223372036854775808 ≤ a) (a2 : a < 9223372036854775808) (b1 : -9223372036854775808 ≤ b) (b2 : b < 9223372036854775808) : zL a ≤ zL b ↔ a ≤ b := by
  rw [Int64.le_iff_toInt_le, zL_toInt a1 a2, zL_toInt b1 b2]
theorem zL_lt {a b : Int} (a1 : -9223372036854775808 ≤ a) (a2 : a < 9223372036854775808) (b1 : -9223372036854775808 ≤ b) (b2 : b < 9223372036854775808) : zL a < zL b ↔ a < b := by
  rw [Int64.lt_iff_toInt_lt, zL_toInt a1 a2, zL_toInt b1 b2]
theorem zL_eq {a b : Int} (a1 : -9223372036854775808 ≤ a) (a2 : a < 9223372036854775808) (b1 : -9223372036854775808 ≤ b) (b2 : b < 9223372036854775808) : zL a = zL b ↔ a = b := by
  rw [← Int64.toInt_inj, zL_toInt a1 a2, zL_toInt b1 b2]
theorem zL_rem {a b : Int} (a1 : -9223372036854775808 ≤ a) (a2 : a < 9223372036854775808) (b1 : 0 < b) (b2 : b < 9223372036854775808) : zL a - zL a / zL b * zL b = zL (a.tmod b) := by
  have h : zL (a.tdiv b) = zL a / zL b := Int64.ofInt_tdiv (by rw [show Int64.minValue.toInt = -9223372036854775808 from rfl]; omega) (by rw [show Int64.maxValue.toInt = 9223372036854775807 from rfl]; omega) (by rw [show Int64.minValue.toInt = -9223372036854775808 from rfl]; omega) (by rw [show Int64.maxValue.toInt = 9223372036854775807 from rfl]; omega)
  rw [← h, zL_mul, zL_sub, Int.tmod_def, Int.mul_comm]
theorem zI_zL {z : Int} (h1 : -2147483648 ≤ z) (h2 : z < 2147483648) : (zI z).toInt64 = zL z := Int32.toInt64_ofInt (by rw [show Int32.minValue.toInt = -2147483648 from rfl]; omega) (by rw [show Int32.maxValue.toInt = 2147483647 from rfl]; omega)
theorem zL_zI (z : Int) : (zL z).toInt32 = zI z := Int64.toInt32_ofInt
/-! numbers modulo 32003 -/
def cF (z : Int) : Fq := Fin.ofNat 32003 (z % 32003).toNat
theorem cF_val (z : Int) : ((cF z).val : Int) = z % 32003 := by
  show (((z % 32003).toNat % 32003 : Nat) : Int) = z % 32003
  omega
theorem fq_ext {x y : Fq} (h : (x.val : Int) = (y.val : Int)) : x = y := Fin.ext (by omega)
theorem fq_lt (x : Fq) : (x.val : Int) < 32003 := by have := x.isLt; omega
theorem fq_add (x y : Fq) : (((x + y : Fq)).val : Int) = ((x.val : Int) + (y.val : Int)) % 32003 := by
  rw [Fin.val_add]; omega
theorem fq_mul (x y : Fq) : (((x * y : Fq)).val : Int) = ((x.val : Int) * (y.val : Int)) % 32003 := by
  rw [Fin.val_mul, Int.natCast_emod, Int.natCast_mul]; rfl
theorem cF_of (x : Fq) : cF (x.val : Int) = x := fq_ext (by rw [cF_val]; have := x.isLt; omega)
theorem cF_add (a b : Int) : cF (a + b) = cF a + cF b := fq_ext (by rw [fq_add, cF_val, cF_val, cF_val]; omega)
theorem cF_mul (a b : Int) : cF (a * b) = cF a * cF b := fq_ext (by rw [fq_mul, cF_val, cF_val, cF_val, Int.mul_emod])
theorem cF_mod (a : Int) : cF (a % 32003) = cF a := fq_ext (by rw [cF_val, cF_val]; omega)
theorem cF_0 : cF 0 = 0 := by decide +kernel
theorem cF_1 : cF 1 = 1 := by decide +kernel
theorem cF_P : cF 32003 = 0 := by decide +kernel
theorem cF_neg (a : Int) : cF (-a) = - cF a := by
  have h : cF (-a) + cF a = 0 := by rw [← cF_add]; rw [show -a + a = 0 by omega]; exact cF_0
  grind
theorem cF_sub (a b : Int) : cF (a - b) = cF a - cF b := by
  rw [show a - b = a + -b by omega, cF_add, cF_neg]; grind
theorem fq_mulb (x y : Fq) : 0 ≤ (x.val : Int) * (y.val : Int) ∧ (x.val : Int) * (y.val : Int) ≤ 1024128004 := by
  have hx := x.isLt
  have hy := y.isLt
  have h : x.val * y.val ≤ 32002 * 32002 := Nat.mul_le_mul (by omega) (by omega)
  have e : ((x.val * y.val : Nat) : Int) = (x.val : Int) * (y.val : Int) := Int.natCast_mul _ _
  omega
/-- a row of numbers; a row of whole numbers; a place of it set -/
def pv (a : Nat → Fq) : Nat → Int32 := fun j => zI ((a j).val : Int)
def iv (a : Nat → Int) : Nat → Int32 := fun j => zI (a j)
def pL (a : Nat → Fq) : Nat → Int64 := fun j => zL ((a j).val : Int)
def cset {α : Type} (f : Nat → α) (k : Nat) (v : α) : Nat → α := fun j => if j = k then v else f j
theorem pv_set (a : Nat → Fq) (k : Nat) (v : Fq) : upd (pv a) k (zI (v.val : Int)) = pv (cset a k v) := by
  funext j; unfold upd pv cset; by_cases h : j = k <;> simp [h]
theorem iv_set (a : Nat → Int) (k : Nat) (v : Int) : upd (iv a) k (zI v) = iv (cset a k v) := by
  funext j; unfold upd iv cset; by_cases h : j = k <;> simp [h]
theorem pL_set (a : Nat → Fq) (k : Nat) (v : Fq) : vp_updL (pL a) k (zL (v.val : Int)) = pL (cset a k v) := by
  funext j; unfold vp_updL pL cset; by_cases h : j = k <;> simp [h]
end
section
/-! the judgement: at pc, with the cells ws, the locals lv and the stack st, the method comes to its end as it should -/
abbrev ev : Type := (Nat → ClassId) × (Nat → Nat → Nat) × ClassId × ClassId × ClassId
abbrev Lv : Type := List (Nat × Value)
abbrev Gt : Type := Nat → Nat → va_W → Lv → Nat → List Value → Prop
def tyE (E : ev) : List (ClassId × FieldType) := [(E.2.2.1, .int), (E.2.2.2.1, .long), (E.2.2.2.2, .object RX3)]
def Pw (E : ev) (ws : va_W) (H : Heap) : Prop := va_P (E.1, E.2.1) vwCl ws H
/-- the private members that are called across the nest -/
def nestL : List (String × Nat × MethodName) := [(RX7, 9, yX4_init), (RX7, 21, yX0_init), (RX0, 9, yX4_init), (RX7, 28, yX6_init), (RX6, 11, yX4_init), (RX1, 22, yX3_init), (RX3, 9, yX4_init), (RX1, 27, yX4_init), (RX7, 42, yX2_init), (RX2, 11, yX4_init), (RX4, 47, yX7_inverse), (RX4, 54, yX7_negative), (RX0, 41, yX7_inverse), (RX1, 119, yX7_negative), (RX1, 125, yX7_inverse), (RX2, 61, yX7_inverse), (RX5, 25, yX7_inverse)]
def Nst (U : State) : Prop := ∀ q ∈ nestL, va_Nw (.methodLinkNest q.1 q.2.1 q.2.2 "ClosedSums") U
def Kw (E : ev) (U : State) : Prop := va_K (E.1, E.2.1) vwCl (tyE E) U ∧ Nst U ∧ va_AO RX3 U
theorem Kw.warm {E : ev} {s U : State} (h : Kw E s) (hW : s.WarmedH U.vm) : Kw E U := ⟨va_K.moved hW.alike h.1, fun q hq => va_Nw.warmM hW (h.2.1 q hq), va_AO.moved hW.alike h.2.2⟩
theorem Kw.calling {E : ev} {U : State} {g : JFrame} {mk : MethodId} {a : Array Value} (h : Kw E U) : Kw E (U.calling g mk a) := ⟨va_K.moved (u := U) (U := U.calling g mk a) (Vm.Alike.refl U.vm) h.1, fun q hq => va_Nw.same rfl rfl (h.2.1 q hq), va_AO.moved (u := U) (U := U.calling g mk a) (Vm.Alike.refl U.vm) h.2.2⟩
/-! a list of cells and its tail -/
theorem tl_at {α : Type} {ws tl : List α} {k : Nat} {x : α} (h : ws[k]? = some x) : (ws ++ tl)[k]? = some x := by
  rw [List.getElem?_append_left (List.getElem?_eq_some_iff.mp h).1]; exact h
theorem tl_ar {α : Type} {ws tl : List α} {k : Nat} {x : α} (h : tl[k]? = some x) : (ws ++ tl)[ws.length + k]? = some x := by
  rw [List.getElem?_append_right (by omega), show ws.length + k - ws.length = k by omega]; exact h
theorem tl_set {α : Type} {ws tl : List α} {k : Nat} {x y : α} (h : ws[k]? = some x) : (ws ++ tl).set k y = ws.set k y ++ tl := List.set_append_left (s := ws) (t := tl) k y (List.getElem?_eq_some_iff.mp h).1
section TL
variable {D : va_G} {cl : List vw_C} {ws tl : va_W} {H : Heap} {A : Nat → Prop}
theorem P_l (h : va_P D cl (ws ++ tl) H) : va_P D cl ws H := fun k q hk => h k q (tl_at hk)
theorem P_r (h : va_P D cl (ws ++ tl) H) : va_P D cl tl H := fun k q hk => h (ws.length + k) q (tl_ar hk)
theorem D_l (h : va_D A (ws ++ tl)) : va_D A ws := ⟨fun i j p q hi hj e => h.1 i j p q (tl_at hi) (tl_at hj) e, fun k q hk => h.2 k q (tl_at hk)⟩
theorem D_r (h : va_D A (ws ++ tl)) : va_D A tl := ⟨fun i j p q hi hj e => by have := h.1 _ _ p q (tl_ar (ws := ws) hi) (tl_ar (ws := ws) hj) e; omega, fun k q hk => h.2 _ q (tl_ar hk)⟩
theorem D_x (h : va_D A (ws ++ tl)) {i j : Nat} {p q : Nat × va_E} (hi : ws[i]? = some p) (hj : tl[j]? = some q) : p.1 ≠ q.1 := fun e => by
  have h1 := h.1 i _ p q (tl_at hi) (tl_ar hj) e
  have h2 := (List.getElem?_eq_some_iff.mp hi).1
  omega
theorem P_new {x : va_W} (h : va_P D cl ((ws ++ tl) ++ x) H) : va_P D cl ((ws ++ x) ++ tl) H := ((P_l (P_l h)).app (P_r h)).app (P_r (P_l h))
theorem D_new {x : va_W} (h : va_D A ((ws ++ tl) ++ x)) : va_D A ((ws ++ x) ++ tl) := by
  have h1 := D_l (D_l h)
  have h2 := D_r (D_l h)
  have h3 := D_r h
  refine (h1.app h3 (fun i j p q hi hj => D_x h (tl_at hi) hj)).app h2 (fun i j p q hi hj => ?_)
  by_cases g : i < ws.length
  · rw [List.getElem?_append_left g] at hi
    exact D_x (D_l h) hi hj
  · rw [List.getElem?_append_right (by omega)] at hi
    exact (D_x h (tl_ar hj) hi).symm
/-- behind a call: what came back beside the rest and the tail -/
theorem jn {wc wr w1 : va_W} {H1 : Heap} (hP : va_P D cl (ws ++ tl) H) (hD : va_D A (ws ++ tl)) (isC isR : List Nat) (hC : isC.map (fun i => ws[i]?) = wc.map some) (hR : isR.map (fun i => ws[i]?) = wr.map some) (hn : va_nd isR = true) (hdis : ∀ i ∈ isR, i ∉ isC)
    (hk : ∀ q : Nat, q < H.size → ¬ va_A wc H.size q → H1[q]? = H[q]?) (hF : ∀ q, va_A wc H.size q → A q) (hP1 : va_P D cl w1 H1) (hD1 : va_D (va_A wc H.size) w1) : va_P D cl ((wr ++ w1) ++ tl) H1 ∧ va_D A ((wr ++ w1) ++ tl) := by
  obtain ⟨gP, gD⟩ := va_join (wr := wr) (w1 := w1) (P_l hP) (D_l hD) isC isR hC hR hn hdis hk hF hP1 hD1
  have at' : ∀ {is : List Nat} {w : va_W}, is.map (fun i => ws[i]?) = w.map some → ∀ (k : Nat) (q : Nat × va_E), w[k]? = some q → ∃ i : Nat, ws[i]? = some q := by
    intro is w hs k q hq
    have h1 : (is.map (fun i => ws[i]?))[k]? = some (some q) := by rw [hs, List.getElem?_map, hq]; rfl
    rw [List.getElem?_map] at h1
    cases hi : is[k]? with
    | none => rw [hi] at h1; cases h1
    | some i => rw [hi] at h1; exact ⟨i, Option.some.inj h1⟩
  have apart : ∀ (k : Nat) (q : Nat × va_E), tl[k]? = some q → q.1 < H.size ∧ ¬ va_A wc H.size q.1 := by
    intro k q hq
    have hl := ((P_r hP) k q hq).lt
    refine ⟨hl, fun h => ?_⟩
    rcases h with ⟨k2, e, h⟩ | h
    · obtain ⟨j, h4⟩ := at' hC k2 (q.1, e) h
      exact D_x hD h4 hq rfl
    · omega
  refine ⟨gP.app (fun k q hq => ((P_r hP) k q hq).kept (hk q.1 (apart k q hq).1 (apart k q hq).2)), gD.app (D_r hD) (fun i j p q hi hj => ?_)⟩
  by_cases g : i < wr.length
  · rw [List.getElem?_append_left g] at hi
    obtain ⟨i2, h2⟩ := at' hR i p hi
    exact D_x hD h2 hj
  · rw [List.getElem?_append_right (by omega)] at hi
    exact fun e => (apart j q hj).2 (by rw [← e]; exact hD1.2 _ p hi)
theorem free_l {H0 : Heap} {locs : List Loc} {wc : va_W} (hD : va_D A (ws ++ tl)) (hS : va_S A H0 H locs) (hA : ∀ q, H0.size ≤ q → A q) (isC : List Nat) (hC : isC.map (fun i => ws[i]?) = wc.map some) : ∀ q, va_A wc H.size q → A q := va_free (wc := wc) (D_l hD) hS hA isC hC
end TL
def gg (E : ev) (p : Program) (l : Launch) (e : Env) (R : Room) (s : State) (m : MethodId) (args : Array Value) (below : List Frame) (meth : Method) (c : Code) (A : Nat → Prop) (Q : State → Prop) (nL : Nat) (tl : va_W) : Gt := fun ce so ws lv pc st =>
  ∀ (H : Heap) (locs : List Loc) (ls : Array Slot), Pw E (ws ++ tl) H → va_D A (ws ++ tl) → va_S A s.heap H locs → lv_has ls nL lv → W p l e R s m args below meth c H locs ce so Q (F0 m pc ls st)
def Ok (G : Gt) (E : ev) (l : Launch) (R : Room) (y : MethodName) (cc : ByteArray) (nL : Nat) (Ts : List Cond) : Prop :=
  ∃ (p : Program) (e : Env) (s : State) (m : MethodId) (args : Array Value) (below : List Frame) (meth : Method) (c : Code) (A : Nat → Prop) (Q : State → Prop) (tl : va_W),
    G = gg E p l e R s m args below meth c A Q nL tl ∧ p.tables.exec = Jvm.exec ∧ c.code = cc ∧ c.maxLocals = nL ∧ s.vm.findClass y.cls = some m.cls ∧ meth.name = y.name ∧ (∀ w ∈ Ts, w.before args s = true) ∧ Kw E s ∧ (∀ q : Nat, s.heap.size ≤ q → A q)
section GR
variable {G : Gt} {E : ev} {l : Launch} {R : Room} {y : MethodName} {cc : ByteArray} {nL : Nat} {Ts : List Cond} {ce so : Nat} {ws : va_W} {lv : Lv} {pc : Nat} {st : List Value}
theorem g_iconst (C : Ok G E l R y cc nL Ts) {n : Int} (hd : decode cc pc = .ok (.iconst n, 1)) (k : G ce so ws lv (pc + 1) (.int (zI n) :: st)) : G ce so ws lv pc st := by
  obtain ⟨p, e, s, m, args, below, meth, c, A, Q, tl, rfl, hx, hb, -⟩ := C
  exact fun H locs ls hP hD hS hl => lv_iconst hx hb hd rfl (k H locs ls hP hD hS hl)
theorem g_bipush (C : Ok G E l R y cc nL Ts) {n : Int} (hd : decode cc pc = .ok (.bipush n, 2)) (hn : (Int8.ofInt n).toInt32 = zI n) (k : G ce so ws lv (pc + 2) (.int (zI n) :: st)) : G ce so ws lv pc st := by
  obtain ⟨p, e, s, m, args, below, meth, c, A, Q, tl, rfl, hx, hb, -⟩ := C
  exact fun H locs ls hP hD hS hl => lv_bipush hx hb hd hn (k H locs ls hP hD hS hl)
theorem g_sipush (C : Ok G E l R y cc nL Ts) {n : Int} (hd : decode cc pc = .ok (.sipush n, 3)) (hn : (Int16.ofInt n).toInt32 = zI n) (k : G ce so ws lv (pc + 3) (.int (zI n) :: st)) : G ce so ws lv pc st := by
  obtain ⟨p, e, s, m, args, below, meth, c, A, Q, tl, rfl, hx, hb, -⟩ := C
  exact fun H locs ls hP hD hS hl => lv_sipush hx hb hd hn (k H locs ls hP hD hS hl)
theorem g_iload_n (C : Ok G E l R y cc nL Ts) {k : Fin 4} {x : Int32} (hd : decode cc pc = .ok (.iload_n k, 1)) (j : Nat) (hj : lv[j]? = some ((k : Nat), .int x)) (kk : G ce so ws lv (pc + 1) (.int x :: st)) : G ce so ws lv pc st := by
  obtain ⟨p, e, s, m, args, below, meth, c, A, Q, tl, rfl, hx, hb, -⟩ := C
  exact fun H locs ls hP hD hS hl => lv_iload_n hx hb hd rfl (lv_at hl j hj) (kk H locs ls hP hD hS hl)
theorem g_iload (C : Ok G E l R y cc nL Ts) {k : Nat} {x : Int32} (hd : decode cc pc = .ok (.iload k, 2)) (j : Nat) (hj : lv[j]? = some (k, .int x)) (kk : G ce so ws lv (pc + 2) (.int x :: st)) : G ce so ws lv pc st := by
  obtain ⟨p, e, s, m, args, below, meth, c, A, Q, tl, rfl, hx, hb, -⟩ := C
  exact fun H locs ls hP hD hS hl => lv_iload hx hb hd (lv_at hl j hj) (kk H locs ls hP hD hS hl)
theorem g_lload_n (C : Ok G E l R y cc nL Ts) {k : Fin 4} {x : Int64} (hd : decode cc pc = .ok (.lload_n k, 1)) (j : Nat) (hj : lv[j]? = some ((k : Nat), .long x)) (kk : G ce so ws lv (pc + 1) (.long x :: st)) : G ce so ws lv pc st := by
  obtain ⟨p, e, s, m, args, below, meth, c, A, Q, tl, rfl, hx, hb, -⟩ := C
  exact fun H locs ls hP hD hS hl => lv_lload_n hx hb hd rfl (lv_at hl j hj) (kk H locs ls hP hD hS hl)
theorem g_lload (C : Ok G E l R y cc nL Ts) {k : Nat} {x : Int64} (hd : decode cc pc = .ok (.lload k, 2)) (j : Nat) (hj : lv[j]? = some (k, .long x)) (kk : G ce so ws lv (pc + 2) (.long x :: st)) : G ce so ws lv pc st := by
  obtain ⟨p, e, s, m, args, below, meth, c, A, Q, tl, rfl, hx, hb, -⟩ := C
  exact fun H locs ls hP hD hS hl => lv_lload hx hb hd (lv_at hl j hj) (kk H locs ls hP hD hS hl)
theorem g_aload_n (C : Ok G E l R y cc nL Ts) {k : Fin 4} {x : Nat} (hd : decode cc pc = .ok (.aload_n k, 1)) (j : Nat) (hj : lv[j]? = some ((k : Nat), .ref x)) (kk : G ce so ws lv (pc + 1) (.ref x :: st)) : G ce so ws lv pc st := by
  obtain ⟨p, e, s, m, args, below, meth, c, A, Q, tl, rfl, hx, hb, -⟩ := C
  exact fun H locs ls hP hD hS hl => lv_aload_n hx hb hd rfl (lv_at hl j hj) (kk H locs ls hP hD hS hl)
theorem g_aload (C : Ok G E l R y cc nL Ts) {k : Nat} {x : Nat} (hd : decode cc pc = .ok (.aload k, 2)) (j : Nat) (hj : lv[j]? = some (k, .ref x)) (kk : G ce so ws lv (pc + 2) (.ref x :: st)) : G ce so ws lv pc st := by
  obtain ⟨p, e, s, m, args, below, meth, c, A, Q, tl, rfl, hx, hb, -⟩ := C
  exact fun H locs ls hP hD hS hl => lv_aload hx hb hd (lv_at hl j hj) (kk H locs ls hP hD hS hl)
theorem g_istore_n (C : Ok G E l R y cc nL Ts) {k : Fin 4} {x : Int32} (lv' : Lv) (hd : decode cc pc = .ok (.istore_n k, 1)) (hn : (k : Nat) < nL) (hl : ((k : Nat), Value.int x) :: lv.filter (fun q => !(q.1 == (k : Nat)) && !(q.1 + 1 == (k : Nat) && q.2.category == 2)) = lv') (kk : G ce so ws lv' (pc + 1) st) : G ce so ws lv pc (.int x :: st) := by
  obtain ⟨p, e, s, m, args, below, meth, c, A, Q, tl, rfl, hx, hb, -⟩ := C
  exact fun H locs ls hP hD hS h => lv_istore_n hx hb hd rfl h hn hl (fun ls' h' => kk H locs ls' hP hD hS h')
theorem g_istore (C : Ok G E l R y cc nL Ts) {k : Nat} {x : Int32} (lv' : Lv) (hd : decode cc pc = .ok (.istore k, 2)) (hn : k < nL) (hl : (k, Value.int x) :: lv.filter (fun q => !(q.1 == k) && !(q.1 + 1 == k && q.2.category == 2)) = lv') (kk : G ce so ws lv' (pc + 2) st) : G ce so ws lv pc (.int x :: st) := by
  obtain ⟨p, e, s, m, args, below, meth, c, A, Q, tl, rfl, hx, hb, -⟩ := C
  exact fun H locs ls hP hD hS h => lv_istore hx hb hd h hn hl (fun ls' h' => kk H locs ls' hP hD hS h')
theorem g_lstore_n (C : Ok G E l R y cc nL Ts) {k : Fin 4} {x : Int64} (lv' : Lv) (hd : decode cc pc = .ok (.lstore_n k, 1)) (hn : (k : Nat) + 1 < nL) (hl : ((k : Nat), Value.long x) :: lv.filter (fun q => !(q.1 == (k : Nat)) && (!(q.1 == (k : Nat) + 1) && !(q.1 + 1 == (k : Nat) && q.2.category == 2))) = lv') (kk : G ce so ws lv' (pc + 1) st) : G ce so ws lv pc (.long x :: st) := by
  obtain ⟨p, e, s, m, args, below, meth, c, A, Q, tl, rfl, hx, hb, -⟩ := C
  exact fun H locs ls hP hD hS h => lv_lstore_n hx hb hd rfl h hn hl (fun ls' h' => kk H locs ls' hP hD hS h')
theorem g_lstore (C : Ok G E l R y cc nL Ts) {k : Nat} {x : Int64} (lv' : Lv) (hd : decode cc pc = .ok (.lstore k, 2)) (hn : k + 1 < nL) (hl : (k, Value.long x) :: lv.filter (fun q => !(q.1 == k) && (!(q.1 == k + 1) && !(q.1 + 1 == k && q.2.category == 2))) = lv') (kk : G ce so ws lv' (pc + 2) st) : G ce so ws lv pc (.long x :: st) := by
  obtain ⟨p, e, s, m, args, below, meth, c, A, Q, tl, rfl, hx, hb, -⟩ := C
  exact fun H locs ls hP hD hS h => lv_lstore hx hb hd h hn hl (fun ls' h' => kk H locs ls' hP hD hS h')
theorem g_astore_n (C : Ok G E l R y cc nL Ts) {k : Fin 4} {x : Nat} (lv' : Lv) (hd : decode cc pc = .ok (.astore_n k, 1)) (hn : (k : Nat) < nL) (hl : ((k : Nat), Value.ref x) :: lv.filter (fun q => !(q.1 == (k : Nat)) && !(q.1 + 1 == (k : Nat) && q.2.category == 2)) = lv') (kk : G ce so ws lv' (pc + 1) st) : G ce so ws lv pc (.ref x :: st) := by
  obtain ⟨p, e, s, m, args, below, meth, c, A, Q, tl, rfl, hx, hb, -⟩ := C
  exact fun H locs ls hP hD hS h => lv_astore_n hx hb hd rfl h hn hl (fun ls' h' => kk H locs ls' hP hD hS h')
theorem g_astore (C : Ok G E l R y cc nL Ts) {k : Nat} {x : Nat} (lv' : Lv) (hd : decode cc pc = .ok (.astore k, 2)) (hn : k < nL) (hl : (k, Value.ref x) :: lv.filter (fun q => !(q.1 == k) && !(q.1 + 1 == k && q.2.category == 2)) = lv') (kk : G ce so ws lv' (pc + 2) st) : G ce so ws lv pc (.ref x :: st) := by
  obtain ⟨p, e, s, m, args, below, meth, c, A, Q, tl, rfl, hx, hb, -⟩ := C
  exact fun H locs ls hP hD hS h => lv_astore hx hb hd h hn hl (fun ls' h' => kk H locs ls' hP hD hS h')
theorem g_iinc (C : Ok G E l R y cc nL Ts) {k : Nat} {n x : Int} (lv' : Lv) (hd : decode cc pc = .ok (.iinc k n, 3)) (j : Nat) (hj : lv[j]? = some (k, .int (zI x))) (hn : k < nL) (hl : (k, Value.int (zI (x + n))) :: lv.filter (fun q => !(q.1 == k) && !(q.1 + 1 == k && q.2.category == 2)) = lv') (kk : G ce so ws lv' (pc + 3) st) : G ce so ws lv pc st := by
  obtain ⟨p, e, s, m, args, below, meth, c, A, Q, tl, rfl, hx, hb, -⟩ := C
  exact fun H locs ls hP hD hS h => lv_iinc (k := j) hx hb hd h hj (zI_add x n) hn hl (fun ls' h' => kk H locs ls' hP hD hS h')
theorem g_iadd (C : Ok G E l R y cc nL Ts) {a b : Int} (hd : decode cc pc = .ok (.iadd, 1)) (k : G ce so ws lv (pc + 1) (.int (zI (a + b)) :: st)) : G ce so ws lv pc (.int (zI b) :: .int (zI a) :: st) := by
  obtain ⟨p, e, s, m, args, below, meth, c, A, Q, tl, rfl, hx, hb, -⟩ := C
  rw [← zI_add] at k
  exact fun H locs ls hP hD hS hl => lv_iadd hx hb hd (k H locs ls hP hD hS hl)
theorem g_isub (C : Ok G E l R y cc nL Ts) {a b : Int} (hd : decode cc pc = .ok (.isub, 1)) (k : G ce so ws lv (pc + 1) (.int (zI (a - b)) :: st)) : G ce so ws lv pc (.int (zI b) :: .int (zI a) :: st) := by
  obtain ⟨p, e, s, m, args, below, meth, c, A, Q, tl, rfl, hx, hb, -⟩ := C
  rw [← zI_sub] at k
  exact fun H locs ls hP hD hS hl => lv_isub hx hb hd (k H locs ls hP hD hS hl)
theorem g_imul (C : Ok G E l R y cc nL Ts) {a b : Int} (hd : decode cc pc = .ok (.imul, 1)) (k : G ce so ws lv (pc + 1) (.int (zI (a * b)) :: st)) : G ce so ws lv pc (.int (zI b) :: .int (zI a) :: st) := by
  obtain ⟨p, e, s, m, args, below, meth, c, A, Q, tl, rfl, hx, hb, -⟩ := C
  rw [← zI_mul] at k
  exact fun H locs ls hP hD hS hl => lv_imul hx hb hd (k H locs ls hP hD hS hl)
theorem g_irem (C : Ok G E l R y cc nL Ts) {a b : Int} (hd : decode cc pc = .ok (.irem, 1)) (a1 : 0 ≤ a) (a2 : a < 2147483648) (b1 : 0 < b) (b2 : b < 2147483648) (k : G ce so ws lv (pc + 1) (.int (zI (a % b)) :: st)) : G ce so ws lv pc (.int (zI b) :: .int (zI a) :: st) := by
  obtain ⟨p, e, s, m, args, below, meth, c, A, Q, tl, rfl, hx, hb, -⟩ := C
  rw [← zI_rem a1 a2 b1 b2] at k
  have hne : ¬ zI b = 0 := fun h => by
    rw [← zI_0, zI_eq (by omega) b2 (by omega) (by omega)] at h
    omega
  exact fun H locs ls hP hD hS hl => lv_irem hx hb hd hne (k H locs ls hP hD hS hl)
/-- modulo 32003 -/
theorem g_mod (C : Ok G E l R y cc nL Ts) {a : Int} (hd : decode cc pc = .ok (.irem, 1)) (a1 : 0 ≤ a) (a2 : a < 2147483648) (k : G ce so ws lv (pc + 1) (.int (zI ((cF a).val : Int)) :: st)) : G ce so ws lv pc (.int (zI 32003) :: .int (zI a) :: st) := by
  rw [cF_val] at k
  exact g_irem C hd a1 a2 (by omega) (by omega) k
theorem g_goto (C : Ok G E l R y cc nL Ts) {off : Int} (tgt : Nat) (hd : decode cc pc = .ok (.goto off, 3)) (ht : (pc : Int) + off = (tgt : Int)) (k : G ce so ws lv tgt st) : G ce so ws lv pc st := by
  obtain ⟨p, e, s, m, args, below, meth, c, A, Q, tl, rfl, hx, hb, -⟩ := C
  exact fun H locs ls hP hD hS hl => lv_goto hx hb hd ht (k H locs ls hP hD hS hl)
theorem g_icmp_eq (C : Ok G E l R y cc nL Ts) {a b off : Int} (tgt : Nat) (hd : decode cc pc = .ok (.if_icmp .eq off, 3)) (ht : (pc : Int) + off = (tgt : Int)) (a1 : -2147483648 ≤ a) (a2 : a < 2147483648) (b1 : -2147483648 ≤ b) (b2 : b < 2147483648) (kt : a = b → G ce so ws lv tgt st) (kf : a ≠ b → G ce so ws lv (pc + 3) st) : G ce so ws lv pc (.int (zI b) :: .int (zI a) :: st) := by
  obtain ⟨p, e, s, m, args, below, meth, c, A, Q, tl, rfl, hx, hb, -⟩ := C
  exact fun H locs ls hP hD hS hl => lv_icmp_eq hx hb hd ht (fun h => kt ((zI_eq a1 a2 b1 b2).mp h) H locs ls hP hD hS hl) (fun h => kf (fun q => h ((zI_eq a1 a2 b1 b2).mpr q)) H locs ls hP hD hS hl)
theorem g_icmp_ne (C : Ok G E l R y cc nL Ts) {a b off : Int} (tgt : Nat) (hd : decode cc pc = .ok (.if_icmp .ne off, 3)) (ht : (pc : Int) + off = (tgt : Int)) (a1 : -2147483648 ≤ a) (a2 : a < 2147483648) (b1 : -2147483648 ≤ b) (b2 : b < 2147483648) (kt : a ≠ b → G ce so ws lv tgt st) (kf : a = b → G ce so ws lv (pc + 3) st) : G ce so ws lv pc (.int (zI b) :: .int (zI a) :: st) := by
  obtain ⟨p, e, s, m, args, below, meth, c, A, Q, tl, rfl, hx, hb, -⟩ := C
  exact fun H locs ls hP hD hS hl => lv_icmp_ne hx hb hd ht (fun h => kt (fun q => h ((zI_eq a1 a2 b1 b2).mpr q)) H locs ls hP hD hS hl) (fun h => kf ((zI_eq a1 a2 b1 b2).mp h) H locs ls hP hD hS hl)
theorem g_icmp_lt (C : Ok G E l R y cc nL Ts) {a b off : Int} (tgt : Nat) (hd : decode cc pc = .ok (.if_icmp .lt off, 3)) (ht : (pc : Int) + off = (tgt : Int)) (a1 : -2147483648 ≤ a) (a2 : a < 2147483648) (b1 : -2147483648 ≤ b) (b2 : b < 2147483648) (kt : a < b → G ce so ws lv tgt st) (kf : b ≤ a → G ce so ws lv (pc + 3) st) : G ce so ws lv pc (.int (zI b) :: .int (zI a) :: st) := by
  obtain ⟨p, e, s, m, args, below, meth, c, A, Q, tl, rfl, hx, hb, -⟩ := C
  exact fun H locs ls hP hD hS hl => lv_icmp_lt hx hb hd ht (fun h => kt ((zI_lt a1 a2 b1 b2).mp h) H locs ls hP hD hS hl) (fun h => kf (by
    have q : ¬ a < b := fun z => h ((zI_lt a1 a2 b1 b2).mpr z)
    omega) H locs ls hP hD hS hl)
theorem g_icmp_ge (C : Ok G E l R y cc nL Ts) {a b off : Int} (tgt : Nat) (hd : decode cc pc = .ok (.if_icmp .ge off, 3)) (ht : (pc : Int) + off = (tgt : Int)) (a1 : -2147483648 ≤ a) (a2 : a < 2147483648) (b1 : -2147483648 ≤ b) (b2 : b < 2147483648) (kt : b ≤ a → G ce so ws lv tgt st) (kf : a < b → G ce so ws lv (pc + 3) st) : G ce so ws lv pc (.int (zI b) :: .int (zI a) :: st) := by
  obtain ⟨p, e, s, m, args, below, meth, c, A, Q, tl, rfl, hx, hb, -⟩ := C
  exact fun H locs ls hP hD hS hl => lv_icmp_ge hx hb hd ht (fun h => kt ((zI_le b1 b2 a1 a2).mp h) H locs ls hP hD hS hl) (fun h => kf (by
    have q : ¬ b ≤ a := fun z => h ((zI_le b1 b2 a1 a2).mpr z)
    omega) H locs ls hP hD hS hl)
theorem g_icmp_gt (C : Ok G E l R y cc nL Ts) {a b off : Int} (tgt : Nat) (hd : decode cc pc = .ok (.if_icmp .gt off, 3)) (ht : (pc : Int) + off = (tgt : Int)) (a1 : -2147483648 ≤ a) (a2 : a < 2147483648) (b1 : -2147483648 ≤ b) (b2 : b < 2147483648) (kt : b < a → G ce so ws lv tgt st) (kf : a ≤ b → G ce so ws lv (pc + 3) st) : G ce so ws lv pc (.int (zI b) :: .int (zI a) :: st) := by
  obtain ⟨p, e, s, m, args, below, meth, c, A, Q, tl, rfl, hx, hb, -⟩ := C
  exact fun H locs ls hP hD hS hl => lv_icmp_gt hx hb hd ht (fun h => kt ((zI_lt b1 b2 a1 a2).mp h) H locs ls hP hD hS hl) (fun h => kf (by
    have q : ¬ b < a := fun z => h ((zI_lt b1 b2 a1 a2).mpr z)
    omega) H locs ls hP hD hS hl)
theorem g_icmp_le (C : Ok G E l R y cc nL Ts) {a b off : Int} (tgt : Nat) (hd : decode cc pc = .ok (.if_icmp .le off, 3)) (ht : (pc : Int) + off = (tgt : Int)) (a1 : -2147483648 ≤ a) (a2 : a < 2147483648) (b1 : -2147483648 ≤ b) (b2 : b < 2147483648) (kt : a ≤ b → G ce so ws lv tgt st) (kf : b < a → G ce so ws lv (pc + 3) st) : G ce so ws lv pc (.int (zI b) :: .int (zI a) :: st) := by
  obtain ⟨p, e, s, m, args, below, meth, c, A, Q, tl, rfl, hx, hb, -⟩ := C
  exact fun H locs ls hP hD hS hl => lv_icmp_le hx hb hd ht (fun h => kt ((zI_le a1 a2 b1 b2).mp h) H locs ls hP hD hS hl) (fun h => kf (by
    have q : ¬ a ≤ b := fun z => h ((zI_le a1 a2 b1 b2).mpr z)
    omega) H locs ls hP hD hS hl)
theorem g_if_eq (C : Ok G E l R y cc nL Ts) {a off : Int} (tgt : Nat) (hd : decode cc pc = .ok (.ifCond .eq off, 3)) (ht : (pc : Int) + off = (tgt : Int)) (a1 : -2147483648 ≤ a) (a2 : a < 2147483648) (kt : a = 0 → G ce so ws lv tgt st) (kf : a ≠ 0 → G ce so ws lv (pc + 3) st) : G ce so ws lv pc (.int (zI a) :: st) := by
  obtain ⟨p, e, s, m, args, below, meth, c, A, Q, tl, rfl, hx, hb, -⟩ := C
  exact fun H locs ls hP hD hS hl => lv_if_eq hx hb hd ht (fun h => kt ((zI_eq a1 a2 (by omega) (by omega)).mp (h.trans zI_0.symm)) H locs ls hP hD hS hl) (fun h => kf (fun q => h (by rw [q]; rfl)) H locs ls hP hD hS hl)
theorem g_if_ne (C : Ok G E l R y cc nL Ts) {a off : Int} (tgt : Nat) (hd : decode cc pc = .ok (.ifCond .ne off, 3)) (ht : (pc : Int) + off = (tgt : Int)) (a1 : -2147483648 ≤ a) (a2 : a < 2147483648) (kt : a ≠ 0 → G ce so ws lv tgt st) (kf : a = 0 → G ce so ws lv (pc + 3) st) : G ce so ws lv pc (.int (zI a) :: st) := by
  obtain ⟨p, e, s, m, args, below, meth, c, A, Q, tl, rfl, hx, hb, -⟩ := C
  exact fun H locs ls hP hD hS hl => lv_if_ne hx hb hd ht (fun h => kt (fun q => h (by rw [q]; rfl)) H locs ls hP hD hS hl) (fun h => kf ((zI_eq a1 a2 (by omega) (by omega)).mp (h.trans zI_0.symm)) H locs ls hP hD hS hl)
theorem g_if_lt (C : Ok G E l R y cc nL Ts) {a off : Int} (tgt : Nat) (hd : decode cc pc = .ok (.ifCond .lt off, 3)) (ht : (pc : Int) + off = (tgt : Int)) (a1 : -2147483648 ≤ a) (a2 : a < 2147483648) (kt : a < 0 → G ce so ws lv tgt st) (kf : 0 ≤ a → G ce so ws lv (pc + 3) st) : G ce so ws lv pc (.int (zI a) :: st) := by
  obtain ⟨p, e, s, m, args, below, meth, c, A, Q, tl, rfl, hx, hb, -⟩ := C
  have hz := zI_lt a1 a2 (b := 0) (by omega) (by omega)
  rw [zI_0] at hz
  exact fun H locs ls hP hD hS hl => lv_if_lt hx hb hd ht (fun h => kt (hz.mp h) H locs ls hP hD hS hl) (fun h => kf (by
    have q : ¬ a < 0 := fun z => h (hz.mpr z)
    omega) H locs ls hP hD hS hl)
theorem g_if_ge (C : Ok G E l R y cc nL Ts) {a off : Int} (tgt : Nat) (hd : decode cc pc = .ok (.ifCond .ge off, 3)) (ht : (pc : Int) + off = (tgt : Int)) (a1 : -2147483648 ≤ a) (a2 : a < 2147483648) (kt : 0 ≤ a → G ce so ws lv tgt st) (kf : a < 0 → G ce so ws lv (pc + 3) st) : G ce so ws lv pc (.int (zI a) :: st) := by
  obtain ⟨p, e, s, m, args, below, meth, c, A, Q, tl, rfl, hx, hb, -⟩ := C
  have hz := zI_le (a := 0) (by omega) (by omega) a1 a2
  rw [zI_0] at hz
  exact fun H locs ls hP hD hS hl => lv_if_ge hx hb hd ht (fun h => kt (hz.mp h) H locs ls hP hD hS hl) (fun h => kf (by
    have q : ¬ 0 ≤ a := fun z => h (hz.mpr z)
    omega) H locs ls hP hD hS hl)
theorem g_if_gt (C : Ok G E l R y cc nL Ts) {a off : Int} (tgt : Nat) (hd : decode cc pc = .ok (.ifCond .gt off, 3)) (ht : (pc : Int) + off = (tgt : Int)) (a1 : -2147483648 ≤ a) (a2 : a < 2147483648) (kt : 0 < a → G ce so ws lv tgt st) (kf : a ≤ 0 → G ce so ws lv (pc + 3) st) : G ce so ws lv pc (.int (zI a) :: st) := by
  obtain ⟨p, e, s, m, args, below, meth, c, A, Q, tl, rfl, hx, hb, -⟩ := C
  have hz := zI_lt (a := 0) (by omega) (by omega) a1 a2
  rw [zI_0] at hz
  exact fun H locs ls hP hD hS hl => lv_if_gt hx hb hd ht (fun h => kt (hz.mp h) H locs ls hP hD hS hl) (fun h => kf (by
    have q : ¬ 0 < a := fun z => h (hz.mpr z)
    omega) H locs ls hP hD hS hl)
theorem g_if_le (C : Ok G E l R y cc nL Ts) {a off : Int} (tgt : Nat) (hd : decode cc pc = .ok (.ifCond .le off, 3)) (ht : (pc : Int) + off = (tgt : Int)) (a1 : -2147483648 ≤ a) (a2 : a < 2147483648) (kt : a ≤ 0 → G ce so ws lv tgt st) (kf : 0 < a → G ce so ws lv (pc + 3) st) : G ce so ws lv pc (.int (zI a) :: st) := by
  obtain ⟨p, e, s, m, args, below, meth, c, A, Q, tl, rfl, hx, hb, -⟩ := C
  have hz := zI_le a1 a2 (b := 0) (by omega) (by omega)
  rw [zI_0] at hz
  exact fun H locs ls hP hD hS hl => lv_if_le hx hb hd ht (fun h => kt (hz.mp h) H locs ls hP hD hS hl) (fun h => kf (by
    have q : ¬ a ≤ 0 := fun z => h (hz.mpr z)
    omega) H locs ls hP hD hS hl)
theorem g_dup (C : Ok G E l R y cc nL Ts) {v : Value} (hd : decode cc pc = .ok (.dup, 1)) (hv : v.category = 1) (k : G ce so ws lv (pc + 1) (v :: v :: st)) : G ce so ws lv pc (v :: st) := by
  obtain ⟨p, e, s, m, args, below, meth, c, A, Q, tl, rfl, hx, hb, -⟩ := C
  exact fun H locs ls hP hD hS hl => lv_dup hx hb hd hv (k H locs ls hP hD hS hl)
/-- the same state, said otherwise -/
theorem g_eq {ws' : va_W} {lv' : Lv} {st' : List Value} (hw : ws = ws') (hl : lv = lv') (hs : st = st') (k : G ce so ws' lv' pc st') : G ce so ws lv pc st := by subst hw; subst hl; subst hs; exact k
theorem g_top {x : Int32} (x' : Int32) (h : x = x') (k : G ce so ws lv pc (.int x' :: st)) : G ce so ws lv pc (.int x :: st) := by subst h; exact k
theorem g_lsub (C : Ok G E l R y cc nL Ts) {lv' : Lv} (is : List Nat) (h : lv_pick lv is = lv') (k : G ce so ws lv' pc st) : G ce so ws lv pc st := by
  obtain ⟨p, e, s, m, args, below, meth, c, A, Q, tl, rfl, hx, hb, -⟩ := C
  exact fun H locs ls hP hD hS hl => k H locs ls hP hD hS (lv_sub hl is h)
theorem g_wsub (C : Ok G E l R y cc nL Ts) {ws' : va_W} (is : List Nat) (hn : va_nd is = true) (h1 : is.filterMap (fun i => ws[i]?) = ws') (h : is.map (fun i => ws[i]?) = ws'.map some) (k : G ce so ws' lv pc st) : G ce so ws lv pc st := by
  obtain ⟨p, e, s, m, args, below, meth, c, A, Q, tl, rfl, hx, hb, -⟩ := C
  refine fun H locs ls hP hD hS hl => k H locs ls (((P_l hP).sub is h1).app (P_r hP)) (((D_l hD).sub is hn h).app (D_r hD) (fun i j p q hi hj => ?_)) hS hl
  have h2 : (is.map (fun i => ws[i]?))[i]? = some (some p) := by rw [h, List.getElem?_map, hi]; rfl
  rw [List.getElem?_map] at h2
  cases h3 : is[i]? with
  | none => rw [h3] at h2; cases h2
  | some i2 => rw [h3] at h2; exact D_x hD (Option.some.inj h2) hj
/-- a list of cells in another order -/
theorem g_in (C : Ok G E l R y cc nL Ts) {w1 w2 : va_W} (k : ∀ G2 : Gt, Ok G2 E l R y cc nL Ts → (∀ (ce so : Nat) (ws : va_W) (lv : Lv) (pc : Nat) (st : List Value), G ce so (ws ++ w2) lv pc st → G2 ce so ws lv pc st) → G2 ce so w1 lv pc st) : G ce so (w1 ++ w2) lv pc st := by
  obtain ⟨p, e, s, m, args, below, meth, c, A, Q, tl, rfl, hr⟩ := C
  have h := k (gg E p l e R s m args below meth c A Q nL (w2 ++ tl)) ⟨p, e, s, m, args, below, meth, c, A, Q, w2 ++ tl, rfl, hr⟩ (fun ce so ws lv pc st h H locs ls hP hD hS hl => h H locs ls (by rw [List.append_assoc]; exact hP) (by rw [List.append_assoc]; exact hD) hS hl)
  exact fun H locs ls hP hD hS hl => h H locs ls (by rw [← List.append_assoc]; exact hP) (by rw [← List.append_assoc]; exact hD) hS hl
theorem g_get (C : Ok G E l R y cc nL Ts) {CC : String} {T : u_T} {N ci index a : Nat} {fs : List Value} {v : Value} (q0 : Nat) (he : ws[q0]? = some (a, .inr (ci, fs))) (hc : vwCl[ci]? = some (CC, T, N)) (k : Nat) (hk : k < N) (hin : ∀ w ∈ u_ws CC T N, w ∈ Ts) (hlink : Cond.fieldLink y.cls index (T k).1 (T k).2.1 (T k).2.2.1 ∈ Ts) (hv : fs[k]? = some v) (hd : decode cc pc = .ok (.getfield index, 3)) (kk : G ce so ws lv (pc + 3) (v :: st)) : G ce so ws lv pc (.ref a :: st) := by
  obtain ⟨p, e, s, m, args, below, meth, c, A, Q, tl, rfl, hx, hb, hml, hown, hnm, hts, hK, hA⟩ := C
  exact fun H locs ls hP hD hS hl => va_get hx hb hts hin hown hK.1 hP q0 (tl_at he) hc k hk (hts _ hlink) (fun _ h9 => h9) hv hd (kk H locs ls hP hD hS hl)
theorem g_put (C : Ok G E l R y cc nL Ts) {CC : String} {T : u_T} {N ci index a : Nat} {fs : List Value} {v : Value} (ws' : va_W) (ty0 : Nat → FieldType) (hty : ∀ k, k < N → parseFieldDescriptor (T k).2.2.1 = some (ty0 k)) (hnm0 : ∀ a, a < N → ∀ b, b < N → a ≠ b → (T a).2.1 ≠ (T b).2.1) (q0 : Nat) (he : ws[q0]? = some (a, .inr (ci, fs))) (hc : vwCl[ci]? = some (CC, T, N)) (k : Nat) (hk : k < N) (hin : ∀ w ∈ u_ws CC T N, w ∈ Ts) (hlink : Cond.fieldLink y.cls index (T k).1 (T k).2.1 (T k).2.2.1 ∈ Ts) (hfin : (T k).2.2.2 = false) (hn : narrow (ty0 k) v = v) (hfit : fits (ty0 k) v = true) (hl0 : k < fs.length) (hd : decode cc pc = .ok (.putfield index, 3)) (hw : ws.set q0 (a, .inr (ci, fs.set k v)) = ws') (kk : G ce so ws' lv (pc + 3) st) : G ce so ws lv pc (v :: .ref a :: st) := by
  obtain ⟨p, e, s, m, args, below, meth, c, A, Q, tl, rfl, hx, hb, hml, hown, hnm, hts, hK, hA⟩ := C
  subst hw
  exact fun H locs ls hP hD hS hl => va_put hx hb hts hin ty0 hty hnm0 hown hK.1 hP hD hS q0 (tl_at he) hc k hk (hts _ hlink) (fun _ h9 => h9) hfin (hty k hk) hn hfit hl0 hd (fun H1 locs1 hP1 hD1 hS1 => kk H1 locs1 ls (by rw [tl_set he] at hP1; exact hP1) (by rw [tl_set he] at hD1; exact hD1) hS1 hl)
theorem g_putF (C : Ok G E l R y cc nL Ts) {CC : String} {T : u_T} {N ci index a : Nat} {fs : List Value} {v : Value} (ws' : va_W) (ty0 : Nat → FieldType) (hty : ∀ k, k < N → parseFieldDescriptor (T k).2.2.1 = some (ty0 k)) (hnm0 : ∀ a, a < N → ∀ b, b < N → a ≠ b → (T a).2.1 ≠ (T b).2.1) (q0 : Nat) (he : ws[q0]? = some (a, .inr (ci, fs))) (hc : vwCl[ci]? = some (CC, T, N)) (k : Nat) (hk : k < N) (hin : ∀ w ∈ u_ws CC T N, w ∈ Ts) (hlink : Cond.fieldLink y.cls index (T k).1 (T k).2.1 (T k).2.2.1 ∈ Ts) (hini : y.name = "<init>") (hfin : (T k).2.2.2 = true) (hn : narrow (ty0 k) v = v) (hfit : fits (ty0 k) v = true) (hl0 : k < fs.length) (hd : decode cc pc = .ok (.putfield index, 3)) (hdc : (T k).1 = y.cls) (hw : ws.set q0 (a, .inr (ci, fs.set k v)) = ws') (kk : G ce so ws' lv (pc + 3) st) : G ce so ws lv pc (v :: .ref a :: st) := by
  obtain ⟨p, e, s, m, args, below, meth, c, A, Q, tl, rfl, hx, hb, hml, hown, hnm, hts, hK, hA⟩ := C
  subst hw
  exact fun H locs ls hP hD hS hl => va_putF hx hb hts hin ty0 hty hnm0 hown hK.1 hP hD hS q0 (tl_at he) hc k hk (hts _ hlink) (fun _ h9 => h9) hfin (hnm.trans hini) hdc (hty k hk) hn hfit hl0 hd (fun H1 locs1 hP1 hD1 hS1 => kk H1 locs1 ls (by rw [tl_set he] at hP1; exact hP1) (by rw [tl_set he] at hD1; exact hD1) hS1 hl)
theorem g_alen (C : Ok G E l R y cc nL Ts) {a n : Nat} {f : Nat → Int32} (q0 : Nat) (ha : ws[q0]? = some (a, .inl (E.2.2.1, n, .inl f))) (hd : decode cc pc = .ok (.arraylength, 1)) (kk : G ce so ws lv (pc + 1) (.int (zI (n : Int)) :: st)) : G ce so ws lv pc (.ref a :: st) := by
  obtain ⟨p, e, s, m, args, below, meth, c, A, Q, tl, rfl, hx, hb, hml, hown, hnm, hts, hK, hA⟩ := C
  exact fun H locs ls hP hD hS hl => va_alen (ty := .int) hx hb hK.1 hP q0 0 (tl_at ha) rfl (zI_nat n).symm hd (kk H locs ls hP hD hS hl)
theorem g_iald (C : Ok G E l R y cc nL Ts) {a n : Nat} {f : Nat → Fq} {x : Int} (q0 : Nat) (k : Nat) (ha : ws[q0]? = some (a, .inl (E.2.2.1, n, .inl (pv f)))) (hx0 : x = (k : Int)) (hk : k < n) (hn : n < 2147483648) (hd : decode cc pc = .ok (.iaload, 1)) (kk : G ce so ws lv (pc + 1) (.int (zI ((f k).val : Int)) :: st)) : G ce so ws lv pc (.int (zI x) :: .ref a :: st) := by
  obtain ⟨p, e, s, m, args, below, meth, c, A, Q, tl, rfl, hx, hb, hml, hown, hnm, hts, hK, hA⟩ := C
  subst hx0
  refine fun H locs ls hP hD hS hl => va_iald hx hb hK.1 hP q0 0 (tl_at ha) rfl (zI_in hk hn) hd ?_
  rw [zI_cl (by omega)]
  exact kk H locs ls hP hD hS hl
theorem g_ialdZ (C : Ok G E l R y cc nL Ts) {a n : Nat} {f : Nat → Int} {x : Int} (q0 : Nat) (k : Nat) (ha : ws[q0]? = some (a, .inl (E.2.2.1, n, .inl (iv f)))) (hx0 : x = (k : Int)) (hk : k < n) (hn : n < 2147483648) (hd : decode cc pc = .ok (.iaload, 1)) (kk : G ce so ws lv (pc + 1) (.int (zI (f k)) :: st)) : G ce so ws lv pc (.int (zI x) :: .ref a :: st) := by
  obtain ⟨p, e, s, m, args, below, meth, c, A, Q, tl, rfl, hx, hb, hml, hown, hnm, hts, hK, hA⟩ := C
  subst hx0
  refine fun H locs ls hP hD hS hl => va_iald hx hb hK.1 hP q0 0 (tl_at ha) rfl (zI_in hk hn) hd ?_
  rw [zI_cl (by omega)]
  exact kk H locs ls hP hD hS hl
theorem g_iast (C : Ok G E l R y cc nL Ts) {a n : Nat} {f : Nat → Fq} {x z : Int} (ws' : va_W) (q0 : Nat) (k : Nat) (v : Fq) (ha : ws[q0]? = some (a, .inl (E.2.2.1, n, .inl (pv f)))) (hx0 : x = (k : Int)) (hk : k < n) (hn : n < 2147483648) (hz : z = (v.val : Int)) (hd : decode cc pc = .ok (.iastore, 1)) (hw : ws.set q0 (a, .inl (E.2.2.1, n, .inl (pv (cset f k v)))) = ws') (kk : G ce so ws' lv (pc + 1) st) : G ce so ws lv pc (.int (zI z) :: .int (zI x) :: .ref a :: st) := by
  obtain ⟨p, e, s, m, args, below, meth, c, A, Q, tl, rfl, hx, hb, hml, hown, hnm, hts, hK, hA⟩ := C
  subst hx0
  subst hz
  subst hw
  refine fun H locs ls hP hD hS hl => va_iast hx hb hK.1 hP hD hS q0 0 (tl_at ha) rfl (zI_in hk hn) hd ?_
  rw [zI_cl (by omega), pv_set, tl_set ha]
  exact fun H1 locs1 hP1 hD1 hS1 => kk H1 locs1 ls hP1 hD1 hS1 hl
theorem g_iastZ (C : Ok G E l R y cc nL Ts) {a n : Nat} {f : Nat → Int} {x z : Int} (ws' : va_W) (q0 : Nat) (k : Nat) (ha : ws[q0]? = some (a, .inl (E.2.2.1, n, .inl (iv f)))) (hx0 : x = (k : Int)) (hk : k < n) (hn : n < 2147483648) (hd : decode cc pc = .ok (.iastore, 1)) (hw : ws.set q0 (a, .inl (E.2.2.1, n, .inl (iv (cset f k z)))) = ws') (kk : G ce so ws' lv (pc + 1) st) : G ce so ws lv pc (.int (zI z) :: .int (zI x) :: .ref a :: st) := by
  obtain ⟨p, e, s, m, args, below, meth, c, A, Q, tl, rfl, hx, hb, hml, hown, hnm, hts, hK, hA⟩ := C
  subst hx0
  subst hw
  refine fun H locs ls hP hD hS hl => va_iast hx hb hK.1 hP hD hS q0 0 (tl_at ha) rfl (zI_in hk hn) hd ?_
  rw [zI_cl (by omega), iv_set, tl_set ha]
  exact fun H1 locs1 hP1 hD1 hS1 => kk H1 locs1 ls hP1 hD1 hS1 hl
theorem g_mmax (C : Ok G E l R y cc nL Ts) {a b : Int} {index : Nat} (hlk : Cond.methodLink y.cls index Lib.Math.max.name ∈ Ts ∧ Cond.static Lib.Math.max.name ∈ Ts ∧ Cond.initialized "java/lang/Math" ∈ Ts ∧ Cond.code Lib.Math.max.name Lib.Math.max.code 2 (some .int) ∈ Ts) (hd : decode cc pc = .ok (.invokestatic index, 3)) (a1 : -2147483648 ≤ a) (a2 : a < 2147483648) (b1 : -2147483648 ≤ b) (b2 : b < 2147483648) (hR : (1 ≤ R.frames ∧ 21 ≤ R.locals) ∧ ce ≤ R.cells ∧ so ≤ R.slots) (hro : (st.map fun v => v.category).sum ≤ 8) (k : G ce so ws lv (pc + 3) (.int (zI (max a b)) :: st)) : G ce so ws lv pc (.int (zI b) :: .int (zI a) :: st) := by
  obtain ⟨p, e, s, m, args, below, meth, c, A, Q, tl, rfl, hx, hb, hml, hown, hnm, hts, hK, hA⟩ := C
  have hz : (if zI a < zI b then zI b else zI a) = zI (max a b) := by
    by_cases h : a < b
    · rw [if_pos ((zI_lt a1 a2 b1 b2).mpr h), show max a b = b by omega]
    · rw [if_neg (fun q => h ((zI_lt a1 a2 b1 b2).mp q)), show max a b = a by omega]
  refine fun H locs ls hP hD hS hl => va_mmax hx hb (hml.trans hl.1.symm) hown (hts _ hlk.1) (hts _ hlk.2.1) (hts _ hlk.2.2.1) (hts _ hlk.2.2.2) hR.1.1 (by omega) hR.2.1 hR.2.2 hd ?_
  rw [hz]
  exact k H locs ls hP hD hS hl
theorem g_mmin (C : Ok G E l R y cc nL Ts) {a b : Int} {index : Nat} (hlk : Cond.methodLink y.cls index Lib.Math.min.name ∈ Ts ∧ Cond.static Lib.Math.min.name ∈ Ts ∧ Cond.initialized "java/lang/Math" ∈ Ts ∧ Cond.code Lib.Math.min.name Lib.Math.min.code 2 (some .int) ∈ Ts) (hd : decode cc pc = .ok (.invokestatic index, 3)) (a1 : -2147483648 ≤ a) (a2 : a < 2147483648) (b1 : -2147483648 ≤ b) (b2 : b < 2147483648) (hR : (1 ≤ R.frames ∧ 21 ≤ R.locals) ∧ ce ≤ R.cells ∧ so ≤ R.slots) (hro : (st.map fun v => v.category).sum ≤ 8) (k : G ce so ws lv (pc + 3) (.int (zI (min a b)) :: st)) : G ce so ws lv pc (.int (zI b) :: .int (zI a) :: st) := by
  obtain ⟨p, e, s, m, args, below, meth, c, A, Q, tl, rfl, hx, hb, hml, hown, hnm, hts, hK, hA⟩ := C
  have hz : (if zI b < zI a then zI b else zI a) = zI (min a b) := by
    by_cases h : b < a
    · rw [if_pos ((zI_lt b1 b2 a1 a2).mpr h), show min a b = b by omega]
    · rw [if_neg (fun q => h ((zI_lt b1 b2 a1 a2).mp q)), show min a b = a by omega]
  refine fun H locs ls hP hD hS hl => va_mmin hx hb (hml.trans hl.1.symm) hown (hts _ hlk.1) (hts _ hlk.2.1) (hts _ hlk.2.2.1) (hts _ hlk.2.2.2) hR.1.1 (by omega) hR.2.1 hR.2.2 hd ?_
  rw [hz]
  exact k H locs ls hP hD hS hl
end GR
end
section
/-! contracts in the words of the judgement, their entry, and calls of them -/
def cPre (E : ev) (sz : Nat) (ws : va_W) : State → Prop := fun U => U.heap.size = sz ∧ Pw E ws U.heap ∧ Kw E U ∧ va_D (fun _ => True) ws
def cPost (E : ev) (A : Nat → Prop) (ws : va_W) : State → Prop := fun t => Pw E ws t.heap ∧ va_D A ws
def Mv (E : ev) (l : Launch) (y : MethodName) (wY : List Cond) (rm : Room) (av : List Value) (ws : va_W) (post : va_W → Prop) (mc ms : Nat) : Prop :=
  ∀ sz : Nat, Met l y wY rm (va_Pc av (cPre E sz ws)) (va_Qv post (cPost E (va_A ws sz)) (va_A ws sz)) mc ms (va_A ws sz)
def Mi (E : ev) (l : Launch) (y : MethodName) (wY : List Cond) (rm : Room) (av : List Value) (ws : va_W) (post : Int32 → va_W → Prop) (mc ms : Nat) : Prop :=
  ∀ sz : Nat, Met l y wY rm (va_Pc av (cPre E sz ws)) (va_Qi post (cPost E (va_A ws sz)) (va_A ws sz)) mc ms (va_A ws sz)
def Ml (E : ev) (l : Launch) (y : MethodName) (wY : List Cond) (rm : Room) (av : List Value) (ws : va_W) (post : Int64 → va_W → Prop) (mc ms : Nat) : Prop :=
  ∀ sz : Nat, Met l y wY rm (va_Pc av (cPre E sz ws)) (va_Ql post (cPost E (va_A ws sz)) (va_A ws sz)) mc ms (va_A ws sz)
def Mr (E : ev) (l : Launch) (y : MethodName) (wY : List Cond) (rm : Room) (av : List Value) (ws : va_W) (post : Nat → va_W → Prop) (mc ms : Nat) : Prop :=
  ∀ sz : Nat, Met l y wY rm (va_Pc av (cPre E sz ws)) (va_Qr (fun u : Nat × va_W => post u.1 u.2) (fun u a t => u.1 = a ∧ cPost E (va_A ws sz) u.2 t) (va_A ws sz)) mc ms (va_A ws sz)
theorem cPre_blind {E : ev} {sz : Nat} {ws : va_W} {av : List Value} : FrameBlind (va_Pc av (cPre E sz ws)) := fun a U g mk q => by
  obtain ⟨q0, q1, qP, qK, qD⟩ := q
  exact ⟨q0, q1, qP, qK.calling, qD⟩
section EN
variable {E : ev} {l : Launch} {y : MethodName} {wY wR : List Cond} {rm : Room} {av : List Value} {ws : va_W} {mc ms : Nat} {cc : ByteArray} {nL : Nat}
theorem enter_v {post : va_W → Prop} (hy : plainName y.cls = true) (hw : wY = Cond.code y cc nL none :: wR) (hlen : (lg_sl av).length ≤ nL)
    (body : ∀ G : Gt, Ok G E l rm y cc nL wY → (∀ (ws' : va_W) (lv : Lv) (pc ce so : Nat), decode cc pc = .ok (.return_, 1) → ce ≤ mc → so ≤ ms → post ws' → G ce so ws' lv pc []) → G 0 0 ws (lv_args 0 av) 0 []) : Mv E l y wY rm av ws post mc ms := by
  intro sz
  refine Met.ofW (cc := cc) (maxL := nL) (ret := none) hy hw ?_
  intro p e s m args below meth c s₁ B hml hv
  obtain ⟨rfl, hsz, hP, hK, hD0⟩ := hv
  subst hsz
  have hx := B.exec
  have hb := B.bytes
  have hr := B.returns
  have hts := atoms_spec (ws := wY) B.pre
  have hown : s.vm.findClass y.cls = some m.cls := findClass_of_methodNamed B.named
  have hlocks := B.notSynchronized
  have hin : meth.name = y.name := (name_of_methodNamed B.named B.method).1
  rw [lg_entry_eq]
  refine body (gg E p l e rm s m av.toArray below meth c (va_A ws s.heap.size) _ nL []) ⟨p, e, s, m, av.toArray, below, meth, c, va_A ws s.heap.size, _, [], rfl, hx, hb, hml, hown, hin, hts, hK, fun q h => Or.inr h⟩ ?_ s.heap [] _ (by rw [List.append_nil]; exact hP) (by rw [List.append_nil]; exact hD0.self) va_S.rf (lv_entry av hlen)
  intro ws' lv pc ce so hd h1 h2 hpost H locs ls hP' hD' hS' hl'
  rw [List.append_nil] at hP' hD'
  refine W.widen h1 h2 ?_
  exact W.vret hx hb hr (fun t ht hW => ⟨⟨ws', rfl, hpost, by rw [ht]; exact hP', hD'⟩, hS'.F ht⟩) hS'.2.2 hd
theorem enter_i {post : Int32 → va_W → Prop} (hy : plainName y.cls = true) (hw : wY = Cond.code y cc nL (some .int) :: wR) (hlen : (lg_sl av).length ≤ nL)
    (body : ∀ G : Gt, Ok G E l rm y cc nL wY → (∀ (r : Int32) (ws' : va_W) (lv : Lv) (pc ce so : Nat), decode cc pc = .ok (.ireturn, 1) → ce ≤ mc → so ≤ ms → post r ws' → G ce so ws' lv pc [.int r]) → G 0 0 ws (lv_args 0 av) 0 []) : Mi E l y wY rm av ws post mc ms := by
  intro sz
  refine Met.ofW (cc := cc) (maxL := nL) (ret := some .int) hy hw ?_
  intro p e s m args below meth c s₁ B hml hv
  obtain ⟨rfl, hsz, hP, hK, hD0⟩ := hv
  subst hsz
  have hx := B.exec
  have hb := B.bytes
  have hr := B.returns
  have hts := atoms_spec (ws := wY) B.pre
  have hown : s.vm.findClass y.cls = some m.cls := findClass_of_methodNamed B.named
  have hlocks := B.notSynchronized
  have hin : meth.name = y.name := (name_of_methodNamed B.named B.method).1
  rw [lg_entry_eq]
  refine body (gg E p l e rm s m av.toArray below meth c (va_A ws s.heap.size) _ nL []) ⟨p, e, s, m, av.toArray, below, meth, c, va_A ws s.heap.size, _, [], rfl, hx, hb, hml, hown, hin, hts, hK, fun q h => Or.inr h⟩ ?_ s.heap [] _ (by rw [List.append_nil]; exact hP) (by rw [List.append_nil]; exact hD0.self) va_S.rf (lv_entry av hlen)
  intro r ws' lv pc ce so hd h1 h2 hpost H locs ls hP' hD' hS' hl'
  rw [List.append_nil] at hP' hD'
  refine W.widen h1 h2 ?_
  exact W.iret hx hb hr (fun t ht hW => ⟨⟨r, ws', rfl, hpost, by rw [ht]; exact hP', hD'⟩, hS'.F ht⟩) hS'.2.2 hd
theorem enter_z {post : Int32 → va_W → Prop} (hy : plainName y.cls = true) (hw : wY = Cond.code y cc nL (some .boolean) :: wR) (hlen : (lg_sl av).length ≤ nL)
    (body : ∀ G : Gt, Ok G E l rm y cc nL wY → (∀ (r : Int32) (ws' : va_W) (lv : Lv) (pc ce so : Nat), decode cc pc = .ok (.ireturn, 1) → ce ≤ mc → so ≤ ms → (narrow .boolean (.int r) = .int r) → post r ws' → G ce so ws' lv pc [.int r]) → G 0 0 ws (lv_args 0 av) 0 []) : Mi E l y wY rm av ws post mc ms := by
  intro sz
  refine Met.ofW (cc := cc) (maxL := nL) (ret := some .boolean) hy hw ?_
  intro p e s m args below meth c s₁ B hml hv
  obtain ⟨rfl, hsz, hP, hK, hD0⟩ := hv
  subst hsz
  have hx := B.exec
  have hb := B.bytes
  have hr := B.returns
  have hts := atoms_spec (ws := wY) B.pre
  have hown : s.vm.findClass y.cls = some m.cls := findClass_of_methodNamed B.named
  have hlocks := B.notSynchronized
  have hin : meth.name = y.name := (name_of_methodNamed B.named B.method).1
  rw [lg_entry_eq]
  refine body (gg E p l e rm s m av.toArray below meth c (va_A ws s.heap.size) _ nL []) ⟨p, e, s, m, av.toArray, below, meth, c, va_A ws s.heap.size, _, [], rfl, hx, hb, hml, hown, hin, hts, hK, fun q h => Or.inr h⟩ ?_ s.heap [] _ (by rw [List.append_nil]; exact hP) (by rw [List.append_nil]; exact hD0.self) va_S.rf (lv_entry av hlen)
  intro r ws' lv pc ce so hd h1 h2 hn hpost H locs ls hP' hD' hS' hl'
  rw [List.append_nil] at hP' hD'
  refine W.widen h1 h2 ?_
  exact W.zret hx hb hr hn (fun t ht hW => ⟨⟨r, ws', rfl, hpost, by rw [ht]; exact hP', hD'⟩, hS'.F ht⟩) hS'.2.2 hd
theorem enter_l {post : Int64 → va_W → Prop} (hy : plainName y.cls = true) (hw : wY = Cond.code y cc nL (some .long) :: wR) (hlen : (lg_sl av).length ≤ nL)
    (body : ∀ G : Gt, Ok G E l rm y cc nL wY → (∀ (r : Int64) (ws' : va_W) (lv : Lv) (pc ce so : Nat), decode cc pc = .ok (.lreturn, 1) → ce ≤ mc → so ≤ ms → post r ws' → G ce so ws' lv pc [.long r]) → G 0 0 ws (lv_args 0 av) 0 []) : Ml E l y wY rm av ws post mc ms := by
  intro sz
  refine Met.ofW (cc := cc) (maxL := nL) (ret := some .long) hy hw ?_
  intro p e s m args below meth c s₁ B hml hv
  obtain ⟨rfl, hsz, hP, hK, hD0⟩ := hv
  subst hsz
  have hx := B.exec
  have hb := B.bytes
  have hr := B.returns
  have hts := atoms_spec (ws := wY) B.pre
  have hown : s.vm.findClass y.cls = some m.cls := findClass_of_methodNamed B.named
  have hlocks := B.notSynchronized
  have hin : meth.name = y.name := (name_of_methodNamed B.named B.method).1
  rw [lg_entry_eq]
  refine body (gg E p l e rm s m av.toArray below meth c (va_A ws s.heap.size) _ nL []) ⟨p, e, s, m, av.toArray, below, meth, c, va_A ws s.heap.size, _, [], rfl, hx, hb, hml, hown, hin, hts, hK, fun q h => Or.inr h⟩ ?_ s.heap [] _ (by rw [List.append_nil]; exact hP) (by rw [List.append_nil]; exact hD0.self) va_S.rf (lv_entry av hlen)
  intro r ws' lv pc ce so hd h1 h2 hpost H locs ls hP' hD' hS' hl'
  rw [List.append_nil] at hP' hD'
  refine W.widen h1 h2 ?_
  exact W.lret hx hb hr (fun t ht hW => ⟨⟨r, ws', rfl, hpost, by rw [ht]; exact hP', hD'⟩, hS'.F ht⟩) hS'.2.2 hd
end EN
section CA
variable {G : Gt} {E : ev} {l : Launch} {R : Room} {y : MethodName} {cc : ByteArray} {nL : Nat} {Ts : List Cond} {ce so : Nat} {ws : va_W} {lv : Lv} {pc : Nat} {st : List Value}
variable {y' : MethodName} {wY wR : List Cond} {rm : Room} {b ci index n maxL mc ms : Nat} {As rest : List Value} {wc wr : va_W} {bytes : ByteArray} {ret : Option FieldType} {CC : String} {T : u_T} {N : Nat} {fs : List Value}
theorem g_callV (C : Ok G E l R y cc nL Ts) {post : va_W → Prop} (hM : Mv E l y' wY rm (.ref b :: As) wc post mc ms) (hG : GoodIn Ts (wsV y.cls index CC y' wY)) (hw : wY = Cond.code y' bytes maxL ret :: wR)
    (hd0 : y'.cls = CC ∧ y'.cls ≠ "java/lang/invoke/MethodHandle" ∧ y'.cls ≠ "java/lang/invoke/VarHandle" ∧ (parseMethodDescriptor y'.desc).map (fun d => d.parameters.length) = some n) (hn : As.length = n)
    (hrm : (rm.cells = mc ∧ rm.slots = ms) ∧ (rm.frames + 1 ≤ R.frames ∧ 8 + (maxL + 11) + rm.locals ≤ R.locals) ∧ (ce + mc ≤ R.cells ∧ so + ms ≤ R.slots))
    (hd : decode cc pc = .ok (.invokevirtual index, 3)) (hst : st = As.reverse ++ .ref b :: rest) (hro : (rest.map fun v => v.category).sum ≤ 8)
    (hc : vwCl[ci]? = some (CC, T, N)) (he : wc[0]? = some (b, .inr (ci, fs)))
    (isC isR : List Nat) (hC : isC.map (fun i => ws[i]?) = wc.map some) (hR : isR.map (fun i => ws[i]?) = wr.map some) (hnd : va_nd isC = true ∧ va_nd isR = true ∧ ∀ i ∈ isR, i ∉ isC)
    (kk : ∀ ws' : va_W, post ws' → G (ce + mc) (so + ms) (wr ++ ws') lv (pc + 3) rest) : G ce so ws lv pc st := by
  obtain ⟨p, e, s, m, args, below, meth, c, A, Q, tl, rfl, hx, hb, hml, hown, hnm, hts, hK, hA⟩ := C
  subst hst
  intro H locs ls hP hD hS hl
  have hPc : Pw E wc H := fun k q hq => by
    have h1 : (isC.map (fun i => ws[i]?))[k]? = some (some q) := by rw [hC, List.getElem?_map, hq]; rfl
    rw [List.getElem?_map] at h1
    cases hi : isC[k]? with
    | none => rw [hi] at h1; cases h1
    | some i => rw [hi] at h1; exact (P_l hP) i q (Option.some.inj h1)
  have hDc : va_D A wc := (D_l hD).sub isC hnd.1 hC
  have hFc := free_l (wc := wc) hD hS hA isC hC
  refine va_callv (va_runV (As := As) (rest := rest) ⟨hx, hb, hml, hown, hts⟩ (hM H.size) (cwV n hts hG hw hrm.1.1 hrm.1.2 hd0 hrm.2.1) ⟨cPre_blind, va_recv hK.1 hPc (ci := ci) (q0 := 0) hc he, fun U hU hW => ⟨rfl, by rw [hU], by rw [hU]; exact hPc, hK.warm hW, hDc.weaken (fun _ _ _ _ => trivial)⟩⟩ rfl hn hl.1 rfl (lv_room hro) hd hrm.2.2) hS (fun q _ h => hFc q h) hFc (fun u t H1 locs1 ht hvm hw1 hB hz1 hk1 hS1 => ?_)
  obtain ⟨hP1, hD1⟩ := hB
  rw [ht] at hP1
  obtain ⟨hP2, hD2⟩ := jn (wr := wr) (w1 := u) hP hD isC isR hC hR hnd.2.1 hnd.2.2 hk1 hFc hP1 hD1
  exact kk u hw1 H1 locs1 ls hP2 hD2 hS1 hl
theorem g_callVi (C : Ok G E l R y cc nL Ts) {post : Int32 → va_W → Prop} (hM : Mi E l y' wY rm (.ref b :: As) wc post mc ms) (hG : GoodIn Ts (wsV y.cls index CC y' wY)) (hw : wY = Cond.code y' bytes maxL ret :: wR)
    (hd0 : y'.cls = CC ∧ y'.cls ≠ "java/lang/invoke/MethodHandle" ∧ y'.cls ≠ "java/lang/invoke/VarHandle" ∧ (parseMethodDescriptor y'.desc).map (fun d => d.parameters.length) = some n) (hn : As.length = n)
    (hrm : (rm.cells = mc ∧ rm.slots = ms) ∧ (rm.frames + 1 ≤ R.frames ∧ 8 + (maxL + 11) + rm.locals ≤ R.locals) ∧ (ce + mc ≤ R.cells ∧ so + ms ≤ R.slots))
    (hd : decode cc pc = .ok (.invokevirtual index, 3)) (hst : st = As.reverse ++ .ref b :: rest) (hro : (rest.map fun v => v.category).sum ≤ 8)
    (hc : vwCl[ci]? = some (CC, T, N)) (he : wc[0]? = some (b, .inr (ci, fs)))
    (isC isR : List Nat) (hC : isC.map (fun i => ws[i]?) = wc.map some) (hR : isR.map (fun i => ws[i]?) = wr.map some) (hnd : va_nd isC = true ∧ va_nd isR = true ∧ ∀ i ∈ isR, i ∉ isC)
    (kk : ∀ (r : Int32) (ws' : va_W), post r ws' → G (ce + mc) (so + ms) (wr ++ ws') lv (pc + 3) (.int r :: rest)) : G ce so ws lv pc st := by
  obtain ⟨p, e, s, m, args, below, meth, c, A, Q, tl, rfl, hx, hb, hml, hown, hnm, hts, hK, hA⟩ := C
  subst hst
  intro H locs ls hP hD hS hl
  have hPc : Pw E wc H := fun k q hq => by
    have h1 : (isC.map (fun i => ws[i]?))[k]? = some (some q) := by rw [hC, List.getElem?_map, hq]; rfl
    rw [List.getElem?_map] at h1
    cases hi : isC[k]? with
    | none => rw [hi] at h1; cases h1
    | some i => rw [hi] at h1; exact (P_l hP) i q (Option.some.inj h1)
  have hDc : va_D A wc := (D_l hD).sub isC hnd.1 hC
  have hFc := free_l (wc := wc) hD hS hA isC hC
  refine va_calli (va_runV (As := As) (rest := rest) ⟨hx, hb, hml, hown, hts⟩ (hM H.size) (cwV n hts hG hw hrm.1.1 hrm.1.2 hd0 hrm.2.1) ⟨cPre_blind, va_recv hK.1 hPc (ci := ci) (q0 := 0) hc he, fun U hU hW => ⟨rfl, by rw [hU], by rw [hU]; exact hPc, hK.warm hW, hDc.weaken (fun _ _ _ _ => trivial)⟩⟩ rfl hn hl.1 rfl (lv_room hro) hd hrm.2.2) hS (fun q _ h => hFc q h) hFc (fun r u t H1 locs1 ht hvm hw1 hB hz1 hk1 hS1 => ?_)
  obtain ⟨hP1, hD1⟩ := hB
  rw [ht] at hP1
  obtain ⟨hP2, hD2⟩ := jn (wr := wr) (w1 := u) hP hD isC isR hC hR hnd.2.1 hnd.2.2 hk1 hFc hP1 hD1
  exact kk r u hw1 H1 locs1 ls hP2 hD2 hS1 hl
/-- a private static method across the nest -/
theorem g_callSNi (C : Ok G E l R y cc nL Ts) {post : Int32 → va_W → Prop} (hM : Mi E l y' wY rm As [] post 0 0) (hN : (y.cls, index, y') ∈ nestL) (hG : GoodIn Ts wY) (hst0 : Cond.static y' ∈ Ts ∧ Cond.initialized y'.cls ∈ Ts) (hw : wY = Cond.code y' bytes maxL ret :: wR)
    (hd0 : y'.cls ≠ "java/lang/invoke/MethodHandle" ∧ y'.cls ≠ "java/lang/invoke/VarHandle" ∧ (parseMethodDescriptor y'.desc).map (fun d => d.parameters.length) = some n) (hn : As.length = n)
    (hrm : (rm.cells = 0 ∧ rm.slots = 0) ∧ (rm.frames + 1 ≤ R.frames ∧ 8 + (maxL + 11) + rm.locals ≤ R.locals) ∧ (ce + 0 ≤ R.cells ∧ so + 0 ≤ R.slots))
    (hd : decode cc pc = .ok (.invokestatic index, 3)) (hst : st = As.reverse ++ rest) (hro : (rest.map fun v => v.category).sum ≤ 8)
    (kk : ∀ (r : Int32), (∃ w, post r w) → G ce so ws lv (pc + 3) (.int r :: rest)) : G ce so ws lv pc st := by
  obtain ⟨p, e, s, m, args, below, meth, c, A, Q, tl, rfl, hx, hb, hml, hown, hnm, hts, hK, hA⟩ := C
  subst hst
  intro H locs ls hP hD hS hl
  have hF : ∀ q, va_A [] H.size q → A q := fun q h => by
    rcases h with ⟨k, e, h⟩ | h
    · simp at h
    · exact hA q (Nat.le_trans hS.1 h)
  refine va_calli (va_runSN (As := As) (rest := rest) ⟨hx, hb, hml, hown, hts⟩ (hM H.size) ⟨va_cnB n hts hG hw hrm.1.1 hrm.1.2 (hK.2.1 _ hN) (hts _ hst0.2) hd0 hrm.2.1, hts _ hst0.1, trivial⟩ ⟨cPre_blind, fun U hU hW => ⟨rfl, by rw [hU], (fun k q h => by simp at h), hK.warm hW, ⟨fun i j p q h => by simp at h, fun k q h => by simp at h⟩⟩⟩ rfl hn hl.1 rfl (lv_room hro) hd hrm.2.2) hS (fun q _ h => hF q h) hF (fun r u t H1 locs1 ht hvm hw1 hB hz1 hk1 hS1 => ?_)
  have hkeep : ∀ (k : Nat) (q : Nat × va_E), (ws ++ tl)[k]? = some q → H1[q.1]? = H[q.1]? := fun k q hq => by
    have hlt : q.1 < H.size := va_at.lt (hP k q hq)
    refine hk1 q.1 hlt (fun h => ?_)
    rcases h with ⟨k, e, h⟩ | h
    · simp at h
    · omega
  exact kk r ⟨u, hw1⟩ H1 locs1 ls (va_P.kept hP hkeep) hD hS1 hl
/-- a static method of the own class -/
theorem g_callSi (C : Ok G E l R y cc nL Ts) {post : Int32 → va_W → Prop} (hM : Mi E l y' wY rm As wc post mc ms) (hG : GoodIn Ts (wsS y.cls index y' wY)) (hw : wY = Cond.code y' bytes maxL ret :: wR)
    (hd0 : y'.cls = y.cls ∧ y'.cls ≠ "java/lang/invoke/MethodHandle" ∧ y'.cls ≠ "java/lang/invoke/VarHandle" ∧ (parseMethodDescriptor y'.desc).map (fun d => d.parameters.length) = some n) (hn : As.length = n)
    (hrm : (rm.cells = mc ∧ rm.slots = ms) ∧ (rm.frames + 1 ≤ R.frames ∧ 8 + (maxL + 11) + rm.locals ≤ R.locals) ∧ (ce + mc ≤ R.cells ∧ so + ms ≤ R.slots))
    (hd : decode cc pc = .ok (.invokestatic index, 3)) (hst : st = As.reverse ++ rest) (hro : (rest.map fun v => v.category).sum ≤ 8)
    (isC isR : List Nat) (hC : isC.map (fun i => ws[i]?) = wc.map some) (hR : isR.map (fun i => ws[i]?) = wr.map some) (hnd : va_nd isC = true ∧ va_nd isR = true ∧ ∀ i ∈ isR, i ∉ isC)
    (kk : ∀ (r : Int32) (ws' : va_W), post r ws' → G (ce + mc) (so + ms) (wr ++ ws') lv (pc + 3) (.int r :: rest)) : G ce so ws lv pc st := by
  obtain ⟨p, e, s, m, args, below, meth, c, A, Q, tl, rfl, hx, hb, hml, hown, hnm, hts, hK, hA⟩ := C
  subst hst
  intro H locs ls hP hD hS hl
  have hPc : Pw E wc H := fun k q hq => by
    have h1 : (isC.map (fun i => ws[i]?))[k]? = some (some q) := by rw [hC, List.getElem?_map, hq]; rfl
    rw [List.getElem?_map] at h1
    cases hi : isC[k]? with
    | none => rw [hi] at h1; cases h1
    | some i => rw [hi] at h1; exact (P_l hP) i q (Option.some.inj h1)
  have hDc : va_D A wc := (D_l hD).sub isC hnd.1 hC
  have hFc := free_l (wc := wc) hD hS hA isC hC
  refine va_calli (va_runS (As := As) (rest := rest) ⟨hx, hb, hml, hown, hts⟩ (hM H.size) (cwS n hts hG hw hrm.1.1 hrm.1.2 hd0 hrm.2.1) ⟨cPre_blind, fun U hU hW => ⟨rfl, by rw [hU], by rw [hU]; exact hPc, hK.warm hW, hDc.weaken (fun _ _ _ _ => trivial)⟩⟩ rfl hn hl.1 rfl (lv_room hro) hd hrm.2.2) hS (fun q _ h => hFc q h) hFc (fun r u t H1 locs1 ht hvm hw1 hB hz1 hk1 hS1 => ?_)
  obtain ⟨hP1, hD1⟩ := hB
  rw [ht] at hP1
  obtain ⟨hP2, hD2⟩ := jn (wr := wr) (w1 := u) hP hD isC isR hC hR hnd.2.1 hnd.2.2 hk1 hFc hP1 hD1
  exact kk r u hw1 H1 locs1 ls hP2 hD2 hS1 hl
end CA
end
section
/-! polynomials as rows of numbers -/
abbrev Po : Type := Nat → Fq
def Sm (a : Po) : Prop := ∀ j : Nat, 33 ≤ j → a j = 0
def hiN (a : Po) : Nat → Int
  | 0 => -1
  | n + 1 => if a n = 0 then hiN a n else (n : Int)
def hi (a : Po) : Int := hiN a 33
theorem hiN_lo (a : Po) : ∀ n : Nat, -1 ≤ hiN a n ∧ hiN a n < (n : Int)
  | 0 => by simp [hiN]
  | n + 1 => by
    have := hiN_lo a n
    unfold hiN
    split <;> omega
theorem hiN_zero {a : Po} : ∀ {n j : Nat}, hiN a n < (j : Int) → j < n → a j = 0
  | 0, j, _, hj => absurd hj (Nat.not_lt_zero j)
  | n + 1, j, h, hj => by
    unfold hiN at h
    split at h
    · rename_i h0
      by_cases e : j = n
      · rw [e]; exact h0
      · exact hiN_zero h (by omega)
    · omega
theorem hiN_ne {a : Po} : ∀ {n : Nat}, 0 ≤ hiN a n → a (hiN a n).toNat ≠ 0
  | 0, h => by simp [hiN] at h
  | n + 1, h => by
    unfold hiN at h ⊢
    split
    · rename_i h0
      rw [if_pos h0] at h
      exact hiN_ne h
    · rename_i h0
      simpa using h0
theorem hiN_eq {a : Po} {n : Nat} {x : Int} (h1 : -1 ≤ x) (h2 : x < (n : Int)) (h3 : 0 ≤ x → a x.toNat ≠ 0) (h4 : ∀ j : Nat, x < (j : Int) → j < n → a j = 0) : hiN a n = x := by
  have hl := hiN_lo a n
  by_cases g : hiN a n < x
  · exact absurd (hiN_zero (a := a) (n := n) (j := x.toNat) (by omega) (by omega)) (h3 (by omega))
  · by_cases g2 : x < hiN a n
    · exact absurd (h4 (hiN a n).toNat (by omega) (by omega)) (hiN_ne (by omega))
    · omega
theorem hi_lo (a : Po) : -1 ≤ hi a ∧ hi a < 33 := by
  have := hiN_lo a 33
  unfold hi
  omega
theorem hi_zero {a : Po} (hS : Sm a) {j : Nat} (h : hi a < (j : Int)) : a j = 0 := by
  by_cases g : j < 33
  · exact hiN_zero h g
  · exact hS j (by omega)
theorem hi_ne {a : Po} (h : 0 ≤ hi a) : a (hi a).toNat ≠ 0 := hiN_ne h
theorem hi_eq {a : Po} {x : Int} (h1 : -1 ≤ x) (h2 : x < 33) (h3 : 0 ≤ x → a x.toNat ≠ 0) (h4 : ∀ j : Nat, x < (j : Int) → a j = 0) : hi a = x :=
  hiN_eq h1 (by omega) h3 (fun j hj _ => h4 j hj)
theorem hi_ext {a b : Po} (h : ∀ j : Nat, j < 33 → a j = b j) : hi a = hi b := by
  have hb := hi_lo b
  refine hiN_eq hb.1 (by omega) (fun g => ?_) (fun j hj hj2 => ?_)
  · rw [h _ (by omega)]; exact hi_ne g
  · rw [h j hj2]; exact hiN_zero hj hj2
/-- the number at a power; 0 below the powers -/
def nm (a : Po) (p : Int) : Fq := if p < 0 then 0 else a p.toNat
theorem nm_neg {a : Po} {p : Int} (h : p < 0) : nm a p = 0 := if_pos h
theorem nm_pos {a : Po} {p : Int} (h : 0 ≤ p) : nm a p = a p.toNat := if_neg (by omega)
theorem nm_nat (a : Po) (k : Nat) : nm a (k : Int) = a k := by rw [nm_pos (by omega)]; rfl
theorem nm_big {a : Po} {p : Int} (hS : Sm a) (h : 33 ≤ p) : nm a p = 0 := by rw [nm_pos (by omega)]; exact hS _ (by omega)
def con (v : Fq) : Po := fun j => if j = 0 then v else 0
def sc (a : Po) (f : Fq) : Po := fun j => a j * f
def am (a : Po) (f : Fq) (b : Po) (k : Nat) : Po := fun j => if k ≤ j then a j + f * b (j - k) else a j
theorem Sm_con (v : Fq) : Sm (con v) := fun j h => if_neg (by omega)
theorem Sm_set {a : Po} (hS : Sm a) {k : Nat} (hk : k < 33) (v : Fq) : Sm (cset a k v) := fun j h => by
  unfold cset
  rw [if_neg (by omega)]
  exact hS j h
theorem cset_ne {α : Type} {f : Nat → α} {k j : Nat} {v : α} (h : j ≠ k) : cset f k v j = f j := if_neg h
theorem cset_eq {α : Type} {f : Nat → α} {k : Nat} {v : α} : cset f k v k = v := if_pos rfl
theorem fq0 {x : Fq} (h : (x.val : Int) = 0) : x = 0 := fq_ext (by rw [h]; rfl)
theorem fqn {x : Fq} (h : (x.val : Int) ≠ 0) : x ≠ 0 := fun e => h (by rw [e]; rfl)
theorem hi_con (v : Fq) : hi (con v) = if v = 0 then -1 else 0 := by
  split
  · rename_i h
    exact hi_eq (by omega) (by omega) (fun g => absurd g (by omega)) (fun j _ => by unfold con; split <;> first | exact h | rfl)
  · rename_i h
    exact hi_eq (by omega) (by omega) (fun _ => h) (fun j g => if_neg (by omega))
/-- an object Polynomial and its row -/
abbrev cP (h q : Nat) (x : Int) : Nat × va_E := (h, .inr (4, [.ref q, .int (zI x)]))
abbrev aP (E : ev) (q : Nat) (a : Po) : Nat × va_E := (q, .inl (E.2.2.1, 33, .inl (pv a)))
abbrev aJ (E : ev) (q : Nat) (a : Po) : Nat × va_E := (q, .inl (E.2.2.2.1, 64, .inr (.inl (pL a))))
end
section
/-! sums, products, shifts, division, values: as both programs work them out -/
def sm (f : Nat → Fq) : Nat → Fq
  | 0 => 0
  | n + 1 => sm f n + f n
theorem sm_congr {f g : Nat → Fq} : ∀ {n : Nat}, (∀ i, i < n → f i = g i) → sm f n = sm g n
  | 0, _ => rfl
  | n + 1, h => by
    show sm f n + f n = sm g n + g n
    rw [sm_congr (fun i hi => h i (by omega)), h n (by omega)]
theorem sm_zero {f : Nat → Fq} : ∀ {n : Nat}, (∀ i, i < n → f i = 0) → sm f n = 0
  | 0, _ => rfl
  | n + 1, h => by
    show sm f n + f n = 0
    rw [sm_zero (fun i hi => h i (by omega)), h n (by omega)]
    rfl
theorem sm_more {f : Nat → Fq} {n : Nat} : ∀ {m : Nat}, n ≤ m → (∀ i, n ≤ i → i < m → f i = 0) → sm f m = sm f n
  | 0, h, _ => by rw [show n = 0 by omega]
  | m + 1, h, hz => by
    by_cases e : n = m + 1
    · rw [e]
    · show sm f m + f m = sm f n
      rw [sm_more (by omega) (fun i h1 h2 => hz i h1 (by omega)), hz m (by omega) (by omega)]
      grind
/-- the product -/
def conv (a b : Po) : Po := fun j => sm (fun i => a (j - i) * b i) (j + 1)
theorem conv_hi {a b : Po} {x y : Int} (ha : ∀ j : Nat, x < (j : Int) → a j = 0) (hb : ∀ j : Nat, y < (j : Int) → b j = 0) {j : Nat} (h : x + y < (j : Int)) : conv a b j = 0 := by
  refine sm_zero (fun i hi => ?_)
  by_cases g : y < (i : Int)
  · rw [hb i g]; grind
  · rw [ha (j - i) (by omega)]; grind
/-- one row of the shift, from s + n - 1 down to s -/
def mi (d : Fq) (s : Nat) : Nat → Po → Po
  | 0, a => a
  | n + 1, a => mi d s n (cset a (s + n) (a (s + n) + d * a (s + n + 1)))
def mo (d : Fq) (H : Nat) : Nat → Nat → Po → Po
  | _, 0, a => a
  | s, m + 1, a => mo d H (s + 1) m (mi d s (H - s) a)
/-- the polynomial with n + d in place of n -/
def mvp (a : Po) (d : Fq) : Po := mo d (hi a).toNat 0 (hi a).toNat a
theorem mi_keep (d : Fq) (s : Nat) : ∀ (n : Nat) (a : Po) (j : Nat), s + n ≤ j → mi d s n a j = a j
  | 0, a, j, _ => rfl
  | n + 1, a, j, h => by
    show mi d s n _ j = a j
    rw [mi_keep d s n _ j (by omega), cset_ne (by omega)]
theorem mo_keep (d : Fq) (H : Nat) : ∀ (m s : Nat) (a : Po) (j : Nat), s + m ≤ H → H ≤ j → mo d H s m a j = a j
  | 0, s, a, j, _, _ => rfl
  | m + 1, s, a, j, h1, h2 => by
    show mo d H (s + 1) m _ j = a j
    rw [mo_keep d H m (s + 1) _ j (by omega) h2, mi_keep d s _ _ j (by omega)]
theorem mvp_keep (a : Po) (d : Fq) {j : Nat} (h : (hi a).toNat ≤ j) : mvp a d j = a j := mo_keep d _ _ 0 a j (by omega) h
theorem hi_keep {a c : Po} (hS : Sm a) (h : ∀ j : Nat, (hi a).toNat ≤ j → c j = a j) : hi c = hi a := by
  have hl := hi_lo a
  by_cases g : 0 ≤ hi a
  · refine hi_eq hl.1 hl.2 (fun _ => ?_) (fun j hj => ?_)
    · rw [h _ (by omega)]; exact hi_ne g
    · rw [h j (by omega)]; exact hi_zero hS hj
  · refine hi_eq hl.1 hl.2 (fun q => absurd q g) (fun j hj => ?_)
    rw [h j (by omega)]; exact hi_zero hS hj
theorem mvp_hi {a : Po} (hS : Sm a) (d : Fq) : hi (mvp a d) = hi a := hi_keep hS (fun _ h => mvp_keep a d h)
theorem mvp_Sm {a : Po} (hS : Sm a) (d : Fq) : Sm (mvp a d) := fun j h => by
  have hl := hi_lo a
  rw [mvp_keep a d (by omega)]; exact hS j h
/-- division: rest and quotient, n steps left, the divisor b of degree hb with u through its highest number -/
def dv (b : Po) (u : Fq) (hb : Nat) : Nat → Po → Po → Po × Po
  | 0, a, g => (a, g)
  | n + 1, a, g => dv b u hb n (am a (-(a (hb + n) * u)) b n) (cset g n (a (hb + n) * u))
/-- the power 32001 by squares -/
def ivs : Nat → Nat → Fq → Fq → Fq
  | 0, _, r, _ => r
  | f + 1, e, r, s => if e = 0 then r else ivs f (e / 2) (if e % 2 = 1 then r * s else r) (s * s)
theorem ivs_1 {f e : Nat} {r s : Fq} (h : e ≠ 0) (h2 : e % 2 = 1) : ivs (f + 1) e r s = ivs f (e / 2) (r * s) (s * s) := by rw [ivs, if_neg h, if_pos h2]
theorem ivs_0 {f e : Nat} {r s : Fq} (h : e ≠ 0) (h2 : ¬ e % 2 = 1) : ivs (f + 1) e r s = ivs f (e / 2) r (s * s) := by rw [ivs, if_neg h, if_neg h2]
def ivq (x : Fq) : Fq := ivs 16 32001 1 x
def dvN (a b : Po) : Nat := (hi a - hi b + 1).toNat
def dvs (a b : Po) : Po × Po := dv b (ivq (nm b (hi b))) (hi b).toNat (dvN a b) a (con 0)
def rem (a b : Po) : Po := (dvs a b).1
def quo (a b : Po) : Po := (dvs a b).2
theorem am_0 (a b : Po) (n : Nat) : am a (-(0 : Fq)) b n = a := by
  funext j; unfold am; split
  · grind
  · rfl
theorem am_Sm {a b : Po} {f : Fq} {k : Nat} (hS : Sm a) (hb : ∀ j : Nat, 33 ≤ j + k → b j = 0) : Sm (am a f b k) := fun j h => by
  unfold am; split
  · rw [hS j h, hb (j - k) (by omega)]; grind
  · exact hS j h
theorem cset_0 {g : Po} {n : Nat} (h : g n = 0) : cset g n 0 = g := by
  funext j; unfold cset; split
  · rename_i e; rw [e, h]
  · rfl
/-- the value, from the power n - 1 down -/
def hv (a : Po) (x : Fq) : Nat → Fq → Fq
  | 0, r => r
  | n + 1, r => hv a x n (r * x + a n)
def val (a : Po) (x : Fq) : Fq := hv a x (hi a + 1).toNat 0
theorem fq_neg {x : Fq} (h : x ≠ 0) : (((-x : Fq)).val : Int) = 32003 - (x.val : Int) := by
  have h1 : ((-x : Fq)).val = (32003 - x.val) % 32003 := Fin.val_neg' x
  have h2 := x.isLt
  have h3 : x.val ≠ 0 := fun e => h (Fin.ext e)
  omega
theorem fq_neg0 : ((-(0 : Fq))).val = 0 := by decide
end
section
/-! further instructions: bits, longs -/
def qL (a : Nat → Int) : Nat → Int64 := fun j => zL (a j)
theorem qL_set (a : Nat → Int) (k : Nat) (v : Int) : vp_updL (qL a) k (zL v) = qL (cset a k v) := by
  funext j; unfold vp_updL qL cset; by_cases h : j = k <;> simp [h]
theorem zL_0 : zL 0 = 0 := rfl
theorem zI_and1 {n : Nat} (h : n < 2147483648) : zI (n : Int) &&& zI 1 = zI ((n % 2 : Nat) : Int) := by
  rw [zI_nat, zI_nat, show zI 1 = 1 from rfl]
  exact pk_andN (n := n) (by omega) (m := 1) 1 (by decide)
theorem zI_shr1 {n : Nat} (h : n < 2147483648) : zI (n : Int) >>> (zI 1 &&& 31) = zI ((n / 2 : Nat) : Int) := by
  rw [zI_nat, zI_nat]
  exact pk_shrN (n := n) (by omega) (zI 1 &&& 31) 1 (by decide)
theorem zI_div {a b : Int} (a1 : 0 ≤ a) (a2 : a < 2147483648) (b1 : 0 < b) (b2 : b < 2147483648) : zI a / zI b = zI (a / b) := by
  obtain ⟨n, rfl⟩ := Int.eq_ofNat_of_zero_le a1
  obtain ⟨d, rfl⟩ := Int.eq_ofNat_of_zero_le (Int.le_of_lt b1)
  rw [show zI ((n : Int) / (d : Int)) = nI (n / d) from by rw [← Int.natCast_ediv]; exact zI_nat _]
  rw [show zI (n : Int) = nI n from zI_nat n, show zI (d : Int) = nI d from zI_nat d]
  exact pk_div (a := n) (d := d) (by omega) (by omega) (by omega)
section GM
variable {G : Gt} {E : ev} {l : Launch} {R : Room} {y : MethodName} {cc : ByteArray} {nL : Nat} {Ts : List Cond} {ce so : Nat} {ws : va_W} {lv : Lv} {pc : Nat} {st : List Value}
theorem g_iand1 (C : Ok G E l R y cc nL Ts) {a : Int} (n : Nat) (hd : decode cc pc = .ok (.iand, 1)) (ha : a = (n : Int)) (hn : n < 2147483648) (k : G ce so ws lv (pc + 1) (.int (zI ((n % 2 : Nat) : Int)) :: st)) : G ce so ws lv pc (.int (zI 1) :: .int (zI a) :: st) := by
  obtain ⟨p, e, s, m, args, below, meth, c, A, Q, tl, rfl, hx, hb, -⟩ := C
  subst ha
  rw [← zI_and1 hn] at k
  exact fun H locs ls hP hD hS hl => lv_iand hx hb hd (k H locs ls hP hD hS hl)
theorem g_ishr1 (C : Ok G E l R y cc nL Ts) {a : Int} (n : Nat) (hd : decode cc pc = .ok (.ishr, 1)) (ha : a = (n : Int)) (hn : n < 2147483648) (k : G ce so ws lv (pc + 1) (.int (zI ((n / 2 : Nat) : Int)) :: st)) : G ce so ws lv pc (.int (zI 1) :: .int (zI a) :: st) := by
  obtain ⟨p, e, s, m, args, below, meth, c, A, Q, tl, rfl, hx, hb, -⟩ := C
  subst ha
  rw [← zI_shr1 hn] at k
  exact fun H locs ls hP hD hS hl => lv_ishr hx hb hd (k H locs ls hP hD hS hl)
theorem g_idiv (C : Ok G E l R y cc nL Ts) {a b : Int} (hd : decode cc pc = .ok (.idiv, 1)) (a1 : 0 ≤ a) (a2 : a < 2147483648) (b1 : 0 < b) (b2 : b < 2147483648) (k : G ce so ws lv (pc + 1) (.int (zI (a / b)) :: st)) : G ce so ws lv pc (.int (zI b) :: .int (zI a) :: st) := by
  obtain ⟨p, e, s, m, args, below, meth, c, A, Q, tl, rfl, hx, hb, -⟩ := C
  rw [← zI_div a1 a2 b1 b2] at k
  have hne : ¬ zI b = 0 := fun h => by
    rw [← zI_0, zI_eq (by omega) b2 (by omega) (by omega)] at h
    omega
  exact fun H locs ls hP hD hS hl => lv_idiv hx hb hd hne (k H locs ls hP hD hS hl)
theorem g_lconst (C : Ok G E l R y cc nL Ts) {n : Fin 2} (hd : decode cc pc = .ok (.lconst n, 1)) (k : G ce so ws lv (pc + 1) (.long (zL (n.val : Int)) :: st)) : G ce so ws lv pc st := by
  obtain ⟨p, e, s, m, args, below, meth, c, A, Q, tl, rfl, hx, hb, -⟩ := C
  exact fun H locs ls hP hD hS hl => lv_lconst hx hb hd Int64.ofInt_eq_ofNat.symm (k H locs ls hP hD hS hl)
theorem g_ldc2 (C : Ok G E l R y cc nL Ts) {index : Nat} (z : Int) (hk : Jvm.Cond.constantLong y.cls index (zL z) ∈ Ts) (hd : decode cc pc = .ok (.ldc2_w index, 3)) (k : G ce so ws lv (pc + 3) (.long (zL z) :: st)) : G ce so ws lv pc st := by
  obtain ⟨p, e, s, m, args, below, meth, c, A, Q, tl, rfl, hx, hb, hml, hown, hnm, hts, hK, hA⟩ := C
  exact fun H locs ls hP hD hS hl => lv_ldc2 hx hb hown (hts _ hk) hd (k H locs ls hP hD hS hl)
theorem g_i2l (C : Ok G E l R y cc nL Ts) {a : Int} (hd : decode cc pc = .ok (.i2l, 1)) (a1 : -2147483648 ≤ a) (a2 : a < 2147483648) (k : G ce so ws lv (pc + 1) (.long (zL a) :: st)) : G ce so ws lv pc (.int (zI a) :: st) := by
  obtain ⟨p, e, s, m, args, below, meth, c, A, Q, tl, rfl, hx, hb, -⟩ := C
  exact fun H locs ls hP hD hS hl => lv_i2l hx hb hd (zI_zL a1 a2) (k H locs ls hP hD hS hl)
theorem g_l2i (C : Ok G E l R y cc nL Ts) {a : Int} (hd : decode cc pc = .ok (.l2i, 1)) (k : G ce so ws lv (pc + 1) (.int (zI a) :: st)) : G ce so ws lv pc (.long (zL a) :: st) := by
  obtain ⟨p, e, s, m, args, below, meth, c, A, Q, tl, rfl, hx, hb, -⟩ := C
  exact fun H locs ls hP hD hS hl => lv_l2i hx hb hd (zL_zI a) (k H locs ls hP hD hS hl)
theorem g_lrem (C : Ok G E l R y cc nL Ts) {a b : Int} (hd : decode cc pc = .ok (.lrem, 1)) (a1 : -9223372036854775808 ≤ a) (a2 : a < 9223372036854775808) (b1 : 0 < b) (b2 : b < 9223372036854775808) (k : G ce so ws lv (pc + 1) (.long (zL (a.tmod b)) :: st)) : G ce so ws lv pc (.long (zL b) :: .long (zL a) :: st) := by
  obtain ⟨p, e, s, m, args, below, meth, c, A, Q, tl, rfl, hx, hb, -⟩ := C
  rw [← zL_rem a1 a2 b1 b2] at k
  have hne : ¬ zL b = 0 := fun h => by
    rw [← zL_0, zL_eq (by omega) b2 (by omega) (by omega)] at h
    omega
  exact fun H locs ls hP hD hS hl => lv_lrem hx hb hd hne (k H locs ls hP hD hS hl)
theorem g_lmod (C : Ok G E l R y cc nL Ts) {a : Int} (hd : decode cc pc = .ok (.lrem, 1)) (a1 : 0 ≤ a) (a2 : a < 9223372036854775808) (k : G ce so ws lv (pc + 1) (.long (zL ((cF a).val : Int)) :: st)) : G ce so ws lv pc (.long (zL 32003) :: .long (zL a) :: st) := by
  rw [cF_val, ← Int.tmod_eq_emod_of_nonneg a1] at k
  exact g_lrem C hd (by omega) a2 (by omega) (by omega) k
theorem g_ltop {x : Int64} (x' : Int64) (h : x = x') (k : G ce so ws lv pc (.long x' :: st)) : G ce so ws lv pc (.long x :: st) := by subst h; exact k
theorem g_jadd (C : Ok G E l R y cc nL Ts) {a b : Int} (hd : decode cc pc = .ok (.ladd, 1)) (k : G ce so ws lv (pc + 1) (.long (zL (a + b)) :: st)) : G ce so ws lv pc (.long (zL b) :: .long (zL a) :: st) := by
  obtain ⟨p, e, s, m, args, below, meth, c, A, Q, tl, rfl, hx, hb, -⟩ := C
  rw [← zL_add] at k
  exact fun H locs ls hP hD hS hl => lv_ladd hx hb hd (k H locs ls hP hD hS hl)
theorem g_jsub (C : Ok G E l R y cc nL Ts) {a b : Int} (hd : decode cc pc = .ok (.lsub, 1)) (k : G ce so ws lv (pc + 1) (.long (zL (a - b)) :: st)) : G ce so ws lv pc (.long (zL b) :: .long (zL a) :: st) := by
  obtain ⟨p, e, s, m, args, below, meth, c, A, Q, tl, rfl, hx, hb, -⟩ := C
  rw [← zL_sub] at k
  exact fun H locs ls hP hD hS hl => lv_lsub hx hb hd (k H locs ls hP hD hS hl)
theorem g_jmul (C : Ok G E l R y cc nL Ts) {a b : Int} (hd : decode cc pc = .ok (.lmul, 1)) (k : G ce so ws lv (pc + 1) (.long (zL (a * b)) :: st)) : G ce so ws lv pc (.long (zL b) :: .long (zL a) :: st) := by
  obtain ⟨p, e, s, m, args, below, meth, c, A, Q, tl, rfl, hx, hb, -⟩ := C
  rw [← zL_mul] at k
  exact fun H locs ls hP hD hS hl => lv_lmul hx hb hd (k H locs ls hP hD hS hl)
theorem lg_cmp_z {a b : Int} (a1 : -9223372036854775808 ≤ a) (a2 : a < 9223372036854775808) (b1 : -9223372036854775808 ≤ b) (b2 : b < 9223372036854775808) : (a < b ∧ lg_cmp (zL a) (zL b) = zI (-1)) ∨ (a = b ∧ lg_cmp (zL a) (zL b) = zI 0) ∨ (b < a ∧ lg_cmp (zL a) (zL b) = zI 1) := by
  have h1 := zL_lt a1 a2 b1 b2
  have h2 := zL_eq a1 a2 b1 b2
  have h3 := zL_lt b1 b2 a1 a2
  unfold lg_cmp
  rcases Int.lt_trichotomy a b with h | h | h
  · refine Or.inl ⟨h, ?_⟩
    have e1 : ¬ zL b < zL a := fun q => absurd (h3.mp q) (by omega)
    have e2 : ¬ zL a = zL b := fun q => absurd (h2.mp q) (by omega)
    have e3 := h1.mpr h
    simp [e1, e2, e3]; rfl
  · refine Or.inr (Or.inl ⟨h, ?_⟩)
    subst h
    have e1 : ¬ zL a < zL a := fun q => absurd (h1.mp q) (by omega)
    simp [e1]; rfl
  · refine Or.inr (Or.inr ⟨h, ?_⟩)
    have e1 : ¬ zL a < zL b := fun q => absurd (h1.mp q) (by omega)
    have e2 : ¬ zL a = zL b := fun q => absurd (h2.mp q) (by omega)
    have e3 := h3.mpr h
    simp [e1, e2, e3]; rfl
theorem g_lcmp_eq (C : Ok G E l R y cc nL Ts) {a b off : Int} (tgt : Nat) (hd1 : decode cc pc = .ok (.lcmp, 1)) (hd : decode cc (pc + 1) = .ok (.ifCond .eq off, 3)) (ht : ((pc + 1 : Nat) : Int) + off = (tgt : Int)) (a1 : -9223372036854775808 ≤ a) (a2 : a < 9223372036854775808) (b1 : -9223372036854775808 ≤ b) (b2 : b < 9223372036854775808) (kt : a = b → G ce so ws lv tgt st) (kf : a ≠ b → G ce so ws lv (pc + 1 + 3) st) : G ce so ws lv pc (.long (zL b) :: .long (zL a) :: st) := by
  have step : G ce so ws lv (pc + 1) (.int (lg_cmp (zL a) (zL b)) :: st) → G ce so ws lv pc (.long (zL b) :: .long (zL a) :: st) := by
    obtain ⟨p, e, s, m, args, below, meth, c, A, Q, tl, rfl, hx, hb, -⟩ := C
    exact fun k H locs ls hP hD hS hl => W.lcmp hx hb hd1 (k H locs ls hP hD hS hl)
  refine step ?_
  rcases lg_cmp_z a1 a2 b1 b2 with ⟨h, e⟩ | ⟨h, e⟩ | ⟨h, e⟩ <;> rw [e] <;> refine g_if_eq C tgt hd ht (by omega) (by omega) (fun q => ?_) (fun q => ?_) <;> first | exact kt (by omega) | exact kf (by omega) | omega
theorem g_lcmp_ne (C : Ok G E l R y cc nL Ts) {a b off : Int} (tgt : Nat) (hd1 : decode cc pc = .ok (.lcmp, 1)) (hd : decode cc (pc + 1) = .ok (.ifCond .ne off, 3)) (ht : ((pc + 1 : Nat) : Int) + off = (tgt : Int)) (a1 : -9223372036854775808 ≤ a) (a2 : a < 9223372036854775808) (b1 : -9223372036854775808 ≤ b) (b2 : b < 9223372036854775808) (kt : a ≠ b → G ce so ws lv tgt st) (kf : a = b → G ce so ws lv (pc + 1 + 3) st) : G ce so ws lv pc (.long (zL b) :: .long (zL a) :: st) := by
  have step : G ce so ws lv (pc + 1) (.int (lg_cmp (zL a) (zL b)) :: st) → G ce so ws lv pc (.long (zL b) :: .long (zL a) :: st) := by
    obtain ⟨p, e, s, m, args, below, meth, c, A, Q, tl, rfl, hx, hb, -⟩ := C
    exact fun k H locs ls hP hD hS hl => W.lcmp hx hb hd1 (k H locs ls hP hD hS hl)
  refine step ?_
  rcases lg_cmp_z a1 a2 b1 b2 with ⟨h, e⟩ | ⟨h, e⟩ | ⟨h, e⟩ <;> rw [e] <;> refine g_if_ne C tgt hd ht (by omega) (by omega) (fun q => ?_) (fun q => ?_) <;> first | exact kt (by omega) | exact kf (by omega) | omega
theorem g_lcmp_lt (C : Ok G E l R y cc nL Ts) {a b off : Int} (tgt : Nat) (hd1 : decode cc pc = .ok (.lcmp, 1)) (hd : decode cc (pc + 1) = .ok (.ifCond .lt off, 3)) (ht : ((pc + 1 : Nat) : Int) + off = (tgt : Int)) (a1 : -9223372036854775808 ≤ a) (a2 : a < 9223372036854775808) (b1 : -9223372036854775808 ≤ b) (b2 : b < 9223372036854775808) (kt : a < b → G ce so ws lv tgt st) (kf : b ≤ a → G ce so ws lv (pc + 1 + 3) st) : G ce so ws lv pc (.long (zL b) :: .long (zL a) :: st) := by
  have step : G ce so ws lv (pc + 1) (.int (lg_cmp (zL a) (zL b)) :: st) → G ce so ws lv pc (.long (zL b) :: .long (zL a) :: st) := by
    obtain ⟨p, e, s, m, args, below, meth, c, A, Q, tl, rfl, hx, hb, -⟩ := C
    exact fun k H locs ls hP hD hS hl => W.lcmp hx hb hd1 (k H locs ls hP hD hS hl)
  refine step ?_
  rcases lg_cmp_z a1 a2 b1 b2 with ⟨h, e⟩ | ⟨h, e⟩ | ⟨h, e⟩ <;> rw [e] <;> refine g_if_lt C tgt hd ht (by omega) (by omega) (fun q => ?_) (fun q => ?_) <;> first | exact kt (by omega) | exact kf (by omega) | omega
theorem g_lcmp_ge (C : Ok G E l R y cc nL Ts) {a b off : Int} (tgt : Nat) (hd1 : decode cc pc = .ok (.lcmp, 1)) (hd : decode cc (pc + 1) = .ok (.ifCond .ge off, 3)) (ht : ((pc + 1 : Nat) : Int) + off = (tgt : Int)) (a1 : -9223372036854775808 ≤ a) (a2 : a < 9223372036854775808) (b1 : -9223372036854775808 ≤ b) (b2 : b < 9223372036854775808) (kt : b ≤ a → G ce so ws lv tgt st) (kf : a < b → G ce so ws lv (pc + 1 + 3) st) : G ce so ws lv pc (.long (zL b) :: .long (zL a) :: st) := by
  have step : G ce so ws lv (pc + 1) (.int (lg_cmp (zL a) (zL b)) :: st) → G ce so ws lv pc (.long (zL b) :: .long (zL a) :: st) := by
    obtain ⟨p, e, s, m, args, below, meth, c, A, Q, tl, rfl, hx, hb, -⟩ := C
    exact fun k H locs ls hP hD hS hl => W.lcmp hx hb hd1 (k H locs ls hP hD hS hl)
  refine step ?_
  rcases lg_cmp_z a1 a2 b1 b2 with ⟨h, e⟩ | ⟨h, e⟩ | ⟨h, e⟩ <;> rw [e] <;> refine g_if_ge C tgt hd ht (by omega) (by omega) (fun q => ?_) (fun q => ?_) <;> first | exact kt (by omega) | exact kf (by omega) | omega
theorem g_lcmp_gt (C : Ok G E l R y cc nL Ts) {a b off : Int} (tgt : Nat) (hd1 : decode cc pc = .ok (.lcmp, 1)) (hd : decode cc (pc + 1) = .ok (.ifCond .gt off, 3)) (ht : ((pc + 1 : Nat) : Int) + off = (tgt : Int)) (a1 : -9223372036854775808 ≤ a) (a2 : a < 9223372036854775808) (b1 : -9223372036854775808 ≤ b) (b2 : b < 9223372036854775808) (kt : b < a → G ce so ws lv tgt st) (kf : a ≤ b → G ce so ws lv (pc + 1 + 3) st) : G ce so ws lv pc (.long (zL b) :: .long (zL a) :: st) := by
  have step : G ce so ws lv (pc + 1) (.int (lg_cmp (zL a) (zL b)) :: st) → G ce so ws lv pc (.long (zL b) :: .long (zL a) :: st) := by
    obtain ⟨p, e, s, m, args, below, meth, c, A, Q, tl, rfl, hx, hb, -⟩ := C
    exact fun k H locs ls hP hD hS hl => W.lcmp hx hb hd1 (k H locs ls hP hD hS hl)
  refine step ?_
  rcases lg_cmp_z a1 a2 b1 b2 with ⟨h, e⟩ | ⟨h, e⟩ | ⟨h, e⟩ <;> rw [e] <;> refine g_if_gt C tgt hd ht (by omega) (by omega) (fun q => ?_) (fun q => ?_) <;> first | exact kt (by omega) | exact kf (by omega) | omega
theorem g_lcmp_le (C : Ok G E l R y cc nL Ts) {a b off : Int} (tgt : Nat) (hd1 : decode cc pc = .ok (.lcmp, 1)) (hd : decode cc (pc + 1) = .ok (.ifCond .le off, 3)) (ht : ((pc + 1 : Nat) : Int) + off = (tgt : Int)) (a1 : -9223372036854775808 ≤ a) (a2 : a < 9223372036854775808) (b1 : -9223372036854775808 ≤ b) (b2 : b < 9223372036854775808) (kt : a ≤ b → G ce so ws lv tgt st) (kf : b < a → G ce so ws lv (pc + 1 + 3) st) : G ce so ws lv pc (.long (zL b) :: .long (zL a) :: st) := by
  have step : G ce so ws lv (pc + 1) (.int (lg_cmp (zL a) (zL b)) :: st) → G ce so ws lv pc (.long (zL b) :: .long (zL a) :: st) := by
    obtain ⟨p, e, s, m, args, below, meth, c, A, Q, tl, rfl, hx, hb, -⟩ := C
    exact fun k H locs ls hP hD hS hl => W.lcmp hx hb hd1 (k H locs ls hP hD hS hl)
  refine step ?_
  rcases lg_cmp_z a1 a2 b1 b2 with ⟨h, e⟩ | ⟨h, e⟩ | ⟨h, e⟩ <;> rw [e] <;> refine g_if_le C tgt hd ht (by omega) (by omega) (fun q => ?_) (fun q => ?_) <;> first | exact kt (by omega) | exact kf (by omega) | omega
theorem g_alenJ (C : Ok G E l R y cc nL Ts) {a n : Nat} {f : Nat → Int64} (q0 : Nat) (ha : ws[q0]? = some (a, .inl (E.2.2.2.1, n, .inr (.inl f)))) (hd : decode cc pc = .ok (.arraylength, 1)) (kk : G ce so ws lv (pc + 1) (.int (zI (n : Int)) :: st)) : G ce so ws lv pc (.ref a :: st) := by
  obtain ⟨p, e, s, m, args, below, meth, c, A, Q, tl, rfl, hx, hb, hml, hown, hnm, hts, hK, hA⟩ := C
  exact fun H locs ls hP hD hS hl => va_alen (ty := .long) hx hb hK.1 hP q0 1 (tl_at ha) rfl (zI_nat n).symm hd (kk H locs ls hP hD hS hl)
theorem g_lald (C : Ok G E l R y cc nL Ts) {a n : Nat} {f : Nat → Fq} {x : Int} (q0 : Nat) (k : Nat) (ha : ws[q0]? = some (a, .inl (E.2.2.2.1, n, .inr (.inl (pL f))))) (hx0 : x = (k : Int)) (hk : k < n) (hn : n < 2147483648) (hd : decode cc pc = .ok (.laload, 1)) (kk : G ce so ws lv (pc + 1) (.long (zL ((f k).val : Int)) :: st)) : G ce so ws lv pc (.int (zI x) :: .ref a :: st) := by
  obtain ⟨p, e, s, m, args, below, meth, c, A, Q, tl, rfl, hx, hb, hml, hown, hnm, hts, hK, hA⟩ := C
  subst hx0
  refine fun H locs ls hP hD hS hl => va_lald hx hb hK.1 hP q0 1 (tl_at ha) rfl (zI_in hk hn) hd ?_
  rw [zI_cl (by omega)]
  exact kk H locs ls hP hD hS hl
theorem g_laldZ (C : Ok G E l R y cc nL Ts) {a n : Nat} {f : Nat → Int} {x : Int} (q0 : Nat) (k : Nat) (ha : ws[q0]? = some (a, .inl (E.2.2.2.1, n, .inr (.inl (qL f))))) (hx0 : x = (k : Int)) (hk : k < n) (hn : n < 2147483648) (hd : decode cc pc = .ok (.laload, 1)) (kk : G ce so ws lv (pc + 1) (.long (zL (f k)) :: st)) : G ce so ws lv pc (.int (zI x) :: .ref a :: st) := by
  obtain ⟨p, e, s, m, args, below, meth, c, A, Q, tl, rfl, hx, hb, hml, hown, hnm, hts, hK, hA⟩ := C
  subst hx0
  refine fun H locs ls hP hD hS hl => va_lald hx hb hK.1 hP q0 1 (tl_at ha) rfl (zI_in hk hn) hd ?_
  rw [zI_cl (by omega)]
  exact kk H locs ls hP hD hS hl
theorem g_last (C : Ok G E l R y cc nL Ts) {a n : Nat} {f : Nat → Fq} {x z : Int} (ws' : va_W) (q0 : Nat) (k : Nat) (v : Fq) (ha : ws[q0]? = some (a, .inl (E.2.2.2.1, n, .inr (.inl (pL f))))) (hx0 : x = (k : Int)) (hk : k < n) (hn : n < 2147483648) (hz : z = (v.val : Int)) (hd : decode cc pc = .ok (.lastore, 1)) (hw : ws.set q0 (a, .inl (E.2.2.2.1, n, .inr (.inl (pL (cset f k v))))) = ws') (kk : G ce so ws' lv (pc + 1) st) : G ce so ws lv pc (.long (zL z) :: .int (zI x) :: .ref a :: st) := by
  obtain ⟨p, e, s, m, args, below, meth, c, A, Q, tl, rfl, hx, hb, hml, hown, hnm, hts, hK, hA⟩ := C
  subst hx0
  subst hz
  subst hw
  refine fun H locs ls hP hD hS hl => va_last hx hb hK.1 hP hD hS q0 1 (tl_at ha) rfl (zI_in hk hn) hd ?_
  rw [zI_cl (by omega), pL_set, tl_set ha]
  exact fun H1 locs1 hP1 hD1 hS1 => kk H1 locs1 ls hP1 hD1 hS1 hl
theorem g_lastZ (C : Ok G E l R y cc nL Ts) {a n : Nat} {f : Nat → Int} {x z : Int} (ws' : va_W) (q0 : Nat) (k : Nat) (ha : ws[q0]? = some (a, .inl (E.2.2.2.1, n, .inr (.inl (qL f))))) (hx0 : x = (k : Int)) (hk : k < n) (hn : n < 2147483648) (hd : decode cc pc = .ok (.lastore, 1)) (hw : ws.set q0 (a, .inl (E.2.2.2.1, n, .inr (.inl (qL (cset f k z))))) = ws') (kk : G ce so ws' lv (pc + 1) st) : G ce so ws lv pc (.long (zL z) :: .int (zI x) :: .ref a :: st) := by
  obtain ⟨p, e, s, m, args, below, meth, c, A, Q, tl, rfl, hx, hb, hml, hown, hnm, hts, hK, hA⟩ := C
  subst hx0
  subst hw
  refine fun H locs ls hP hD hS hl => va_last hx hb hK.1 hP hD hS q0 1 (tl_at ha) rfl (zI_in hk hn) hd ?_
  rw [zI_cl (by omega), qL_set, tl_set ha]
  exact fun H1 locs1 hP1 hD1 hS1 => kk H1 locs1 ls hP1 hD1 hS1 hl
end GM
end
section
theorem dX7_negative_0 : decode cX7_negative 0 = .ok (.iload_n 0, 1) := by decide +kernel
theorem dX7_negative_1 : decode cX7_negative 1 = .ok (.ifCond .ne 7, 3) := by decide +kernel
theorem dX7_negative_4 : decode cX7_negative 4 = .ok (.iconst 0, 1) := by decide +kernel
theorem dX7_negative_5 : decode cX7_negative 5 = .ok (.goto 8, 3) := by decide +kernel
theorem dX7_negative_8 : decode cX7_negative 8 = .ok (.sipush 32003, 3) := by decide +kernel
theorem dX7_negative_11 : decode cX7_negative 11 = .ok (.iload_n 0, 1) := by decide +kernel
theorem dX7_negative_12 : decode cX7_negative 12 = .ok (.isub, 1) := by decide +kernel
theorem dX7_negative_13 : decode cX7_negative 13 = .ok (.ireturn, 1) := by decide +kernel
theorem dX7_inverse_0 : decode cX7_inverse 0 = .ok (.iconst 1, 1) := by decide +kernel
theorem dX7_inverse_1 : decode cX7_inverse 1 = .ok (.istore_n 1, 1) := by decide +kernel
theorem dX7_inverse_2 : decode cX7_inverse 2 = .ok (.iload_n 0, 1) := by decide +kernel
theorem dX7_inverse_3 : decode cX7_inverse 3 = .ok (.istore_n 2, 1) := by decide +kernel
theorem dX7_inverse_4 : decode cX7_inverse 4 = .ok (.sipush 32001, 3) := by decide +kernel
theorem dX7_inverse_7 : decode cX7_inverse 7 = .ok (.istore_n 3, 1) := by decide +kernel
theorem dX7_inverse_8 : decode cX7_inverse 8 = .ok (.iload_n 3, 1) := by decide +kernel
theorem dX7_inverse_9 : decode cX7_inverse 9 = .ok (.ifCond .le 33, 3) := by decide +kernel
theorem dX7_inverse_12 : decode cX7_inverse 12 = .ok (.iload_n 3, 1) := by decide +kernel
theorem dX7_inverse_13 : decode cX7_inverse 13 = .ok (.iconst 1, 1) := by decide +kernel
theorem dX7_inverse_14 : decode cX7_inverse 14 = .ok (.iand, 1) := by decide +kernel
theorem dX7_inverse_15 : decode cX7_inverse 15 = .ok (.iconst 1, 1) := by decide +kernel
theorem dX7_inverse_16 : decode cX7_inverse 16 = .ok (.if_icmp .ne 11, 3) := by decide +kernel
theorem dX7_inverse_19 : decode cX7_inverse 19 = .ok (.iload_n 1, 1) := by decide +kernel
theorem dX7_inverse_20 : decode cX7_inverse 20 = .ok (.iload_n 2, 1) := by decide +kernel
theorem dX7_inverse_21 : decode cX7_inverse 21 = .ok (.imul, 1) := by decide +kernel
theorem dX7_inverse_22 : decode cX7_inverse 22 = .ok (.sipush 32003, 3) := by decide +kernel
theorem dX7_inverse_25 : decode cX7_inverse 25 = .ok (.irem, 1) := by decide +kernel
theorem dX7_inverse_26 : decode cX7_inverse 26 = .ok (.istore_n 1, 1) := by decide +kernel
theorem dX7_inverse_27 : decode cX7_inverse 27 = .ok (.iload_n 2, 1) := by decide +kernel
theorem dX7_inverse_28 : decode cX7_inverse 28 = .ok (.iload_n 2, 1) := by decide +kernel
theorem dX7_inverse_29 : decode cX7_inverse 29 = .ok (.imul, 1) := by decide +kernel
theorem dX7_inverse_30 : decode cX7_inverse 30 = .ok (.sipush 32003, 3) := by decide +kernel
theorem dX7_inverse_33 : decode cX7_inverse 33 = .ok (.irem, 1) := by decide +kernel
theorem dX7_inverse_34 : decode cX7_inverse 34 = .ok (.istore_n 2, 1) := by decide +kernel
theorem dX7_inverse_35 : decode cX7_inverse 35 = .ok (.iload_n 3, 1) := by decide +kernel
theorem dX7_inverse_36 : decode cX7_inverse 36 = .ok (.iconst 1, 1) := by decide +kernel
theorem dX7_inverse_37 : decode cX7_inverse 37 = .ok (.ishr, 1) := by decide +kernel
theorem dX7_inverse_38 : decode cX7_inverse 38 = .ok (.istore_n 3, 1) := by decide +kernel
theorem dX7_inverse_39 : decode cX7_inverse 39 = .ok (.goto (-31), 3) := by decide +kernel
theorem dX7_inverse_42 : decode cX7_inverse 42 = .ok (.iload_n 1, 1) := by decide +kernel
theorem dX7_inverse_43 : decode cX7_inverse 43 = .ok (.ireturn, 1) := by decide +kernel
end
section
set_option maxHeartbeats 4000000 in
set_option maxRecDepth 100000 in
theorem c_X7_negative (E : ev) (l : Launch) (x : Fq) : Mi E l yX7_negative wsX7_negative { frames := 0, cells := 0, slots := 0, locals := 0 } [.int (zI (x.val : Int))] [] (fun r w => r = zI (((-x : Fq)).val : Int) ∧ w = []) 0 0 := by
  refine enter_i (cc := cX7_negative) (nL := 1) (by decide) rfl (Nat.le_of_ble_eq_true rfl) (fun G C hret => ?_)
  show G 0 0 [] [(0, .int (zI (x.val : Int)))] 0 []
  refine g_iload_n C dX7_negative_0 0 rfl ?_
  refine g_if_ne C 8 dX7_negative_1 (by decide) (by omega) (by omega) (fun c_1 => ?_) (fun c_1 => ?_)
  · refine g_sipush C dX7_negative_8 rfl ?_
    refine g_iload_n C dX7_negative_11 0 rfl ?_
    refine g_isub C dX7_negative_12 ?_
    exact hret _ _ _ _ _ _ dX7_negative_13 (by decide) (by decide) ⟨by first | (rw [fq0 c_1, fq_neg0]; rfl) | rw [fq_neg (fqn c_1)], rfl⟩
  · refine g_iconst C dX7_negative_4 ?_
    refine g_goto C 13 dX7_negative_5 (by decide) ?_
    exact hret _ _ _ _ _ _ dX7_negative_13 (by decide) (by decide) ⟨by first | (rw [fq0 c_1, fq_neg0]; rfl) | rw [fq_neg (fqn c_1)], rfl⟩
set_option maxHeartbeats 4000000 in
set_option maxRecDepth 100000 in
theorem c_X7_inverse (E : ev) (l : Launch) (x : Fq) : Mi E l yX7_inverse wsX7_inverse { frames := 0, cells := 0, slots := 0, locals := 0 } [.int (zI (x.val : Int))] [] (fun r w => r = zI ((ivq x).val : Int) ∧ w = []) 0 0 := by
  refine enter_i (cc := cX7_inverse) (nL := 4) (by decide) rfl (Nat.le_of_ble_eq_true rfl) (fun G C hret => ?_)
  show G 0 0 [] [(0, .int (zI (x.val : Int)))] 0 []
  refine g_iconst C dX7_inverse_0 ?_
  refine g_istore_n C [(1, .int (zI 1)), (0, .int (zI (x.val : Int)))] dX7_inverse_1 (by decide) rfl ?_
  refine g_iload_n C dX7_inverse_2 1 rfl ?_
  refine g_istore_n C [(2, .int (zI (x.val : Int))), (1, .int (zI 1)), (0, .int (zI (x.val : Int)))] dX7_inverse_3 (by decide) rfl ?_
  refine g_sipush C dX7_inverse_4 rfl ?_
  refine g_istore_n C [(3, .int (zI 32001)), (2, .int (zI (x.val : Int))), (1, .int (zI 1)), (0, .int (zI (x.val : Int)))] dX7_inverse_7 (by decide) rfl ?_
  have lp_e : ∀ (n_e : Nat) (z : Int) (n : Nat) (f : Nat) (r : Fq) (s : Fq), (z = (n : Int)) → (n < 2 ^ f) → (n < 2147483648) → (ivs f n r s = ivq x) → n < n_e → G 0 0 [] [(3, .int (zI z)), (2, .int (zI (s.val : Int))), (1, .int (zI (r.val : Int))), (0, .int (zI (x.val : Int)))] 8 [] := by
    intro n_e
    induction n_e with
    | zero =>
      intro z n f r s hz hn hn2 hr hm_e
      exact absurd hm_e (by omega)
    | succ n_e ih_e =>
      intro z n f r s hz hn hn2 hr hm_e
      refine g_iload_n C dX7_inverse_8 0 rfl ?_
      refine g_if_le C 42 dX7_inverse_9 (by decide) (by omega) (by omega) (fun c_9 => ?_) (fun c_9 => ?_)
      · have e : r = ivq x := by rw [← hr, show n = 0 by omega]; cases f <;> rfl
        refine g_iload_n C dX7_inverse_42 2 rfl ?_
        exact hret _ _ _ _ _ _ dX7_inverse_43 (by decide) (by decide) ⟨by rw [e], rfl⟩
      · obtain ⟨f2, rfl⟩ : ∃ f2, f = f2 + 1 := ⟨f - 1, by rcases f with _ | f; simp at hn; omega; omega⟩
        rw [Nat.pow_succ] at hn
        refine g_iload_n C dX7_inverse_12 0 rfl ?_
        refine g_iconst C dX7_inverse_13 ?_
        refine g_iand1 C n dX7_inverse_14 (by omega) (by omega) ?_
        refine g_iconst C dX7_inverse_15 ?_
        refine g_icmp_ne C 27 dX7_inverse_16 (by decide) (by omega) (by omega) (by omega) (by omega) (fun c_16 => ?_) (fun c_16 => ?_)
        · refine g_iload_n C dX7_inverse_27 1 rfl ?_
          refine g_iload_n C dX7_inverse_28 1 rfl ?_
          refine g_imul C dX7_inverse_29 ?_
          refine g_sipush C dX7_inverse_30 rfl ?_
          refine g_mod C dX7_inverse_33 (by have := fq_mulb s s; omega) (by have := fq_mulb s s; omega) ?_
          refine g_top (zI ((s * s).val : Int)) (congrArg (fun u : Fq => zI (u.val : Int)) (by simp only [cF_mul, cF_of])) ?_
          refine g_istore_n C [(2, .int (zI ((s * s).val : Int))), (3, .int (zI z)), (1, .int (zI (r.val : Int))), (0, .int (zI (x.val : Int)))] dX7_inverse_34 (by decide) rfl ?_
          refine g_iload_n C dX7_inverse_35 1 rfl ?_
          refine g_iconst C dX7_inverse_36 ?_
          refine g_ishr1 C n dX7_inverse_37 (by omega) (by omega) ?_
          refine g_istore_n C [(3, .int (zI ((n / 2 : Nat) : Int))), (2, .int (zI ((s * s).val : Int))), (1, .int (zI (r.val : Int))), (0, .int (zI (x.val : Int)))] dX7_inverse_38 (by decide) rfl ?_
          refine g_goto C 8 dX7_inverse_39 (by decide) ?_
          exact ih_e (((n / 2 : Nat) : Int)) (n / 2) f2 r (s * s) rfl (by omega) (by omega) (by rw [← hr, ivs_0 (by omega) (by omega)]) (by omega)
        · refine g_iload_n C dX7_inverse_19 2 rfl ?_
          refine g_iload_n C dX7_inverse_20 1 rfl ?_
          refine g_imul C dX7_inverse_21 ?_
          refine g_sipush C dX7_inverse_22 rfl ?_
          refine g_mod C dX7_inverse_25 (by have := fq_mulb r s; omega) (by have := fq_mulb r s; omega) ?_
          refine g_top (zI ((r * s).val : Int)) (congrArg (fun u : Fq => zI (u.val : Int)) (by simp only [cF_mul, cF_of])) ?_
          refine g_istore_n C [(1, .int (zI ((r * s).val : Int))), (3, .int (zI z)), (2, .int (zI (s.val : Int))), (0, .int (zI (x.val : Int)))] dX7_inverse_26 (by decide) rfl ?_
          refine g_iload_n C dX7_inverse_27 2 rfl ?_
          refine g_iload_n C dX7_inverse_28 2 rfl ?_
          refine g_imul C dX7_inverse_29 ?_
          refine g_sipush C dX7_inverse_30 rfl ?_
          refine g_mod C dX7_inverse_33 (by have := fq_mulb s s; omega) (by have := fq_mulb s s; omega) ?_
          refine g_top (zI ((s * s).val : Int)) (congrArg (fun u : Fq => zI (u.val : Int)) (by simp only [cF_mul, cF_of])) ?_
          refine g_istore_n C [(2, .int (zI ((s * s).val : Int))), (1, .int (zI ((r * s).val : Int))), (3, .int (zI z)), (0, .int (zI (x.val : Int)))] dX7_inverse_34 (by decide) rfl ?_
          refine g_iload_n C dX7_inverse_35 2 rfl ?_
          refine g_iconst C dX7_inverse_36 ?_
          refine g_ishr1 C n dX7_inverse_37 (by omega) (by omega) ?_
          refine g_istore_n C [(3, .int (zI ((n / 2 : Nat) : Int))), (2, .int (zI ((s * s).val : Int))), (1, .int (zI ((r * s).val : Int))), (0, .int (zI (x.val : Int)))] dX7_inverse_38 (by decide) rfl ?_
          refine g_goto C 8 dX7_inverse_39 (by decide) ?_
          exact ih_e (((n / 2 : Nat) : Int)) (n / 2) f2 (r * s) (s * s) rfl (by omega) (by omega) (by rw [← hr, ivs_1 (by omega) (by omega)]) (by omega)
  exact lp_e 32002 32001 32001 16 1 x rfl (by decide) (by omega) rfl (by omega)
end
section
theorem in_X4_highest_X4 : ∀ w ∈ u_ws RX4 TX4 2, w ∈ wsX4_highest := by decide +kernel
theorem lk_X4_highest_highest : Cond.fieldLink yX4_highest.cls 15 (TX4 1).1 (TX4 1).2.1 (TX4 1).2.2.1 ∈ wsX4_highest := by decide +kernel
set_option maxHeartbeats 4000000 in
set_option maxRecDepth 100000 in
theorem c_X4_highest (E : ev) (l : Launch) (h q : Nat) (a : Po)  : Mi E l yX4_highest wsX4_highest { frames := 0, cells := 0, slots := 0, locals := 0 } [.ref h] [cP h q (hi a), aP E q a] (fun r w => r = zI (hi a) ∧ w = [cP h q (hi a), aP E q a]) 0 0 := by
  refine enter_i (cc := cX4_highest) (nL := 1) (by decide) rfl (Nat.le_of_ble_eq_true rfl) (fun G C hret => ?_)
  show G 0 0 [cP h q (hi a), aP E q a] [(0, .ref h)] 0 []
  refine g_aload_n C dX4_highest_0 0 rfl ?_
  refine g_get C 0 rfl rfl 1 (by decide) in_X4_highest_X4 lk_X4_highest_highest rfl dX4_highest_1 ?_
  exact hret _ _ _ _ _ _ dX4_highest_4 (by decide) (by decide) ⟨rfl, rfl⟩
theorem in_X4_isZero_X4 : ∀ w ∈ u_ws RX4 TX4 2, w ∈ wsX4_isZero := by decide +kernel
theorem lk_X4_isZero_highest : Cond.fieldLink yX4_isZero.cls 15 (TX4 1).1 (TX4 1).2.1 (TX4 1).2.2.1 ∈ wsX4_isZero := by decide +kernel
set_option maxHeartbeats 4000000 in
set_option maxRecDepth 100000 in
theorem c_X4_isZero (E : ev) (l : Launch) (h q : Nat) (a : Po)  : Mi E l yX4_isZero wsX4_isZero { frames := 0, cells := 0, slots := 0, locals := 0 } [.ref h] [cP h q (hi a), aP E q a] (fun r w => r = zI (if hi a < 0 then 1 else 0) ∧ w = [cP h q (hi a), aP E q a]) 0 0 := by
  refine enter_z (cc := cX4_isZero) (nL := 1) (by decide) rfl (Nat.le_of_ble_eq_true rfl) (fun G C hret => ?_)
  show G 0 0 [cP h q (hi a), aP E q a] [(0, .ref h)] 0 []
  have hlo := hi_lo a
  refine g_aload_n C dX4_isZero_0 0 rfl ?_
  refine g_get C 0 rfl rfl 1 (by decide) in_X4_isZero_X4 lk_X4_isZero_highest rfl dX4_isZero_1 ?_
  refine g_if_ge C 11 dX4_isZero_4 (by decide) (by omega) (by omega) (fun c_4 => ?_) (fun c_4 => ?_)
  · refine g_iconst C dX4_isZero_11 ?_
    exact hret _ _ _ _ _ _ dX4_isZero_12 (by decide) (by decide) rfl ⟨by first | rw [if_pos (by omega)] | rw [if_neg (by omega)], rfl⟩
  · refine g_iconst C dX4_isZero_7 ?_
    refine g_goto C 12 dX4_isZero_8 (by decide) ?_
    exact hret _ _ _ _ _ _ dX4_isZero_12 (by decide) (by decide) rfl ⟨by first | rw [if_pos (by omega)] | rw [if_neg (by omega)], rfl⟩
theorem in_X4_number_X4 : ∀ w ∈ u_ws RX4 TX4 2, w ∈ wsX4_number := by decide +kernel
theorem lk_X4_number_numbers : Cond.fieldLink yX4_number.cls 11 (TX4 0).1 (TX4 0).2.1 (TX4 0).2.2.1 ∈ wsX4_number := by decide +kernel
set_option maxHeartbeats 4000000 in
set_option maxRecDepth 100000 in
theorem c_X4_numberG (E : ev) (l : Launch) (h q : Nat) (a : Po) (x0 p : Int) (hS : Sm a) (p1 : -2147483648 ≤ p) (p2 : p < 2147483648) : Mi E l yX4_number wsX4_number { frames := 0, cells := 0, slots := 0, locals := 0 } [.ref h, .int (zI p)] [cP h q x0, aP E q a] (fun r w => r = zI ((nm a p).val : Int) ∧ w = [cP h q x0, aP E q a]) 0 0 := by
  refine enter_i (cc := cX4_number) (nL := 2) (by decide) rfl (Nat.le_of_ble_eq_true rfl) (fun G C hret => ?_)
  show G 0 0 [cP h q x0, aP E q a] [(0, .ref h), (1, .int (zI p))] 0 []
  refine g_iload_n C dX4_number_0 1 rfl ?_
  refine g_if_lt C 13 dX4_number_1 (by decide) (by omega) (by omega) (fun c_1 => ?_) (fun c_1 => ?_)
  · refine g_iconst C dX4_number_13 ?_
    refine g_goto C 23 dX4_number_14 (by decide) ?_
    exact hret _ _ _ _ _ _ dX4_number_23 (by decide) (by decide) ⟨by first | (rw [nm_neg (by omega)]; rfl) | (rw [nm_big hS (by omega)]; rfl) | rw [nm_pos (by omega)], rfl⟩
  · refine g_iload_n C dX4_number_4 1 rfl ?_
    refine g_aload_n C dX4_number_5 0 rfl ?_
    refine g_get C 0 rfl rfl 0 (by decide) in_X4_number_X4 lk_X4_number_numbers rfl dX4_number_6 ?_
    refine g_alen C 1 rfl dX4_number_9 ?_
    refine g_icmp_lt C 17 dX4_number_10 (by decide) (by omega) (by omega) (by omega) (by omega) (fun c_10 => ?_) (fun c_10 => ?_)
    · refine g_aload_n C dX4_number_17 0 rfl ?_
      refine g_get C 0 rfl rfl 0 (by decide) in_X4_number_X4 lk_X4_number_numbers rfl dX4_number_18 ?_
      refine g_iload_n C dX4_number_21 1 rfl ?_
      refine g_iald C 1 p.toNat rfl (by omega) (by omega) (by decide) dX4_number_22 ?_
      exact hret _ _ _ _ _ _ dX4_number_23 (by decide) (by decide) ⟨by first | (rw [nm_neg (by omega)]; rfl) | (rw [nm_big hS (by omega)]; rfl) | rw [nm_pos (by omega)], rfl⟩
    · refine g_iconst C dX4_number_13 ?_
      refine g_goto C 23 dX4_number_14 (by decide) ?_
      exact hret _ _ _ _ _ _ dX4_number_23 (by decide) (by decide) ⟨by first | (rw [nm_neg (by omega)]; rfl) | (rw [nm_big hS (by omega)]; rfl) | rw [nm_pos (by omega)], rfl⟩
theorem c_X4_number (E : ev) (l : Launch) (h q : Nat) (a : Po) (p : Int) (hS : Sm a) (p1 : -2147483648 ≤ p) (p2 : p < 2147483648) : Mi E l yX4_number wsX4_number { frames := 0, cells := 0, slots := 0, locals := 0 } [.ref h, .int (zI p)] [cP h q (hi a), aP E q a] (fun r w => r = zI ((nm a p).val : Int) ∧ w = [cP h q (hi a), aP E q a]) 0 0 := c_X4_numberG E l h q a (hi a) p hS p1 p2
theorem in_X4_leading_X4 : ∀ w ∈ u_ws RX4 TX4 2, w ∈ wsX4_leading := by decide +kernel
theorem lk_X4_leading_highest : Cond.fieldLink yX4_leading.cls 15 (TX4 1).1 (TX4 1).2.1 (TX4 1).2.2.1 ∈ wsX4_leading := by decide +kernel
set_option maxHeartbeats 4000000 in
set_option maxRecDepth 100000 in
theorem c_X4_leading (E : ev) (l : Launch) (h q : Nat) (a : Po) (hS : Sm a) : Mi E l yX4_leading wsX4_leading { frames := 1, cells := 0, slots := 0, locals := 30 } [.ref h] [cP h q (hi a), aP E q a] (fun r w => r = zI ((nm a (hi a)).val : Int) ∧ w = [cP h q (hi a), aP E q a]) 0 0 := by
  refine enter_i (cc := cX4_leading) (nL := 1) (by decide) rfl (Nat.le_of_ble_eq_true rfl) (fun G C hret => ?_)
  show G 0 0 [cP h q (hi a), aP E q a] [(0, .ref h)] 0 []
  have hlo := hi_lo a
  refine g_aload_n C dX4_leading_0 0 rfl ?_
  refine g_aload_n C dX4_leading_1 0 rfl ?_
  refine g_get C 0 rfl rfl 1 (by decide) in_X4_leading_X4 lk_X4_leading_highest rfl dX4_leading_2 ?_
  refine g_callVi (n := 1) (wr := []) C (c_X4_number E l h q a (hi a) hS (by omega) (by omega)) gX4_leading_X4_number rfl (by decide +kernel) rfl (by decide) dX4_leading_5 rfl (Nat.le_of_ble_eq_true rfl) rfl rfl [0, 1] [] rfl rfl (by decide) (fun r_5 w_5 h_5 => ?_)
  obtain ⟨rfl, rfl⟩ := h_5
  refine g_eq (ws' := [cP h q (hi a), aP E q a]) rfl rfl rfl ?_
  exact hret _ _ _ _ _ _ dX4_leading_8 (by decide) (by decide) ⟨rfl, rfl⟩
theorem in_X4_settle_X4 : ∀ w ∈ u_ws RX4 TX4 2, w ∈ wsX4_settle := by decide +kernel
theorem lk_X4_settle_numbers : Cond.fieldLink yX4_settle.cls 11 (TX4 0).1 (TX4 0).2.1 (TX4 0).2.2.1 ∈ wsX4_settle := by decide +kernel
theorem lk_X4_settle_highest : Cond.fieldLink yX4_settle.cls 15 (TX4 1).1 (TX4 1).2.1 (TX4 1).2.2.1 ∈ wsX4_settle := by decide +kernel
set_option maxHeartbeats 4000000 in
set_option maxRecDepth 100000 in
theorem c_X4_settle (E : ev) (l : Launch) (h q : Nat) (a : Po) (x0 f : Int) (hS : Sm a) (f1 : -1 ≤ f) (f2 : f < 2147483648) (hz : ∀ j : Nat, f < (j : Int) → a j = 0) : Mv E l yX4_settle wsX4_settle { frames := 0, cells := 0, slots := 0, locals := 0 } [.ref h, .int (zI f)] [cP h q x0, aP E q a] (fun w => w = [cP h q (hi a), aP E q a]) 0 0 := by
  refine enter_v (cc := cX4_settle) (nL := 3) (by decide) rfl (Nat.le_of_ble_eq_true rfl) (fun G C hret => ?_)
  show G 0 0 [cP h q x0, aP E q a] [(0, .ref h), (1, .int (zI f))] 0 []
  refine g_iload_n C dX4_settle_0 1 rfl ?_
  refine g_aload_n C dX4_settle_1 0 rfl ?_
  refine g_get C 0 rfl rfl 0 (by decide) in_X4_settle_X4 lk_X4_settle_numbers rfl dX4_settle_2 ?_
  refine g_alen C 1 rfl dX4_settle_5 ?_
  refine g_icmp_ge C 13 dX4_settle_6 (by decide) (by omega) (by omega) (by omega) (by omega) (fun c_6 => ?_) (fun c_6 => ?_)
  · refine g_aload_n C dX4_settle_13 0 rfl ?_
    refine g_get C 0 rfl rfl 0 (by decide) in_X4_settle_X4 lk_X4_settle_numbers rfl dX4_settle_14 ?_
    refine g_alen C 1 rfl dX4_settle_17 ?_
    refine g_iconst C dX4_settle_18 ?_
    refine g_isub C dX4_settle_19 ?_
    refine g_istore_n C [(2, .int (zI (((33 : Nat) : Int) - 1))), (0, .ref h), (1, .int (zI f))] dX4_settle_20 (by decide) rfl ?_
    have lp_s : ∀ (n_s : Nat) (x : Int), (-1 ≤ x) → (x < 33) → (∀ j : Nat, x < (j : Int) → a j = 0) → (x + 1).toNat < n_s → G 0 0 [cP h q x0, aP E q a] [(2, .int (zI x)), (0, .ref h), (1, .int (zI f))] 21 [] := by
      intro n_s
      induction n_s with
      | zero =>
        intro x x1 x2 xz hm_s
        exact absurd hm_s (by omega)
      | succ n_s ih_s =>
        intro x x1 x2 xz hm_s
        refine g_iload_n C dX4_settle_21 0 rfl ?_
        refine g_if_lt C 40 dX4_settle_22 (by decide) (by omega) (by omega) (fun c_22 => ?_) (fun c_22 => ?_)
        · have e : hi a = x := hi_eq (by omega) (by omega) (fun g => absurd g (by omega)) xz
          refine g_aload_n C dX4_settle_40 1 rfl ?_
          refine g_iload_n C dX4_settle_41 0 rfl ?_
          refine g_put C [cP h q x, aP E q a] tyX4 tyX4_ok nmX4 0 rfl rfl 1 (by decide) in_X4_settle_X4 lk_X4_settle_highest rfl rfl rfl (Nat.le_of_ble_eq_true rfl) dX4_settle_42 rfl ?_
          exact hret _ _ _ _ _ dX4_settle_45 (by decide) (by decide) (by rw [e])
        · refine g_aload_n C dX4_settle_25 1 rfl ?_
          refine g_get C 0 rfl rfl 0 (by decide) in_X4_settle_X4 lk_X4_settle_numbers rfl dX4_settle_26 ?_
          refine g_iload_n C dX4_settle_29 0 rfl ?_
          refine g_iald C 1 x.toNat rfl (by omega) (by omega) (by decide) dX4_settle_30 ?_
          refine g_if_ne C 40 dX4_settle_31 (by decide) (by omega) (by omega) (fun c_31 => ?_) (fun c_31 => ?_)
          · have e : hi a = x := hi_eq (by omega) (by omega) (fun _ => fqn c_31) xz
            refine g_aload_n C dX4_settle_40 1 rfl ?_
            refine g_iload_n C dX4_settle_41 0 rfl ?_
            refine g_put C [cP h q x, aP E q a] tyX4 tyX4_ok nmX4 0 rfl rfl 1 (by decide) in_X4_settle_X4 lk_X4_settle_highest rfl rfl rfl (Nat.le_of_ble_eq_true rfl) dX4_settle_42 rfl ?_
            exact hret _ _ _ _ _ dX4_settle_45 (by decide) (by decide) (by rw [e])
          · refine g_iinc C [(2, .int (zI (x + (-1)))), (0, .ref h), (1, .int (zI f))] dX4_settle_34 0 rfl (by decide) rfl ?_
            refine g_goto C 21 dX4_settle_37 (by decide) ?_
            exact ih_s (x + -1) (by omega) (by omega) (fun j hj => by rcases Classical.em (j = x.toNat) with e | e; (rw [e]; exact fq0 c_31); exact xz j (by omega)) (by omega)
    exact lp_s 34 (((33 : Nat) : Int) - 1) (by omega) (by omega) (fun j hj => by first | exact hz j (by omega) | exact hS j (by omega)) (by omega)
  · refine g_iload_n C dX4_settle_9 1 rfl ?_
    refine g_goto C 20 dX4_settle_10 (by decide) ?_
    refine g_istore_n C [(2, .int (zI f)), (0, .ref h), (1, .int (zI f))] dX4_settle_20 (by decide) rfl ?_
    have lp_s : ∀ (n_s : Nat) (x : Int), (-1 ≤ x) → (x < 33) → (∀ j : Nat, x < (j : Int) → a j = 0) → (x + 1).toNat < n_s → G 0 0 [cP h q x0, aP E q a] [(2, .int (zI x)), (0, .ref h), (1, .int (zI f))] 21 [] := by
      intro n_s
      induction n_s with
      | zero =>
        intro x x1 x2 xz hm_s
        exact absurd hm_s (by omega)
      | succ n_s ih_s =>
        intro x x1 x2 xz hm_s
        refine g_iload_n C dX4_settle_21 0 rfl ?_
        refine g_if_lt C 40 dX4_settle_22 (by decide) (by omega) (by omega) (fun c_22 => ?_) (fun c_22 => ?_)
        · have e : hi a = x := hi_eq (by omega) (by omega) (fun g => absurd g (by omega)) xz
          refine g_aload_n C dX4_settle_40 1 rfl ?_
          refine g_iload_n C dX4_settle_41 0 rfl ?_
          refine g_put C [cP h q x, aP E q a] tyX4 tyX4_ok nmX4 0 rfl rfl 1 (by decide) in_X4_settle_X4 lk_X4_settle_highest rfl rfl rfl (Nat.le_of_ble_eq_true rfl) dX4_settle_42 rfl ?_
          exact hret _ _ _ _ _ dX4_settle_45 (by decide) (by decide) (by rw [e])
        · refine g_aload_n C dX4_settle_25 1 rfl ?_
          refine g_get C 0 rfl rfl 0 (by decide) in_X4_settle_X4 lk_X4_settle_numbers rfl dX4_settle_26 ?_
          refine g_iload_n C dX4_settle_29 0 rfl ?_
          refine g_iald C 1 x.toNat rfl (by omega) (by omega) (by decide) dX4_settle_30 ?_
          refine g_if_ne C 40 dX4_settle_31 (by decide) (by omega) (by omega) (fun c_31 => ?_) (fun c_31 => ?_)
          · have e : hi a = x := hi_eq (by omega) (by omega) (fun _ => fqn c_31) xz
            refine g_aload_n C dX4_settle_40 1 rfl ?_
            refine g_iload_n C dX4_settle_41 0 rfl ?_
            refine g_put C [cP h q x, aP E q a] tyX4 tyX4_ok nmX4 0 rfl rfl 1 (by decide) in_X4_settle_X4 lk_X4_settle_highest rfl rfl rfl (Nat.le_of_ble_eq_true rfl) dX4_settle_42 rfl ?_
            exact hret _ _ _ _ _ dX4_settle_45 (by decide) (by decide) (by rw [e])
          · refine g_iinc C [(2, .int (zI (x + (-1)))), (0, .ref h), (1, .int (zI f))] dX4_settle_34 0 rfl (by decide) rfl ?_
            refine g_goto C 21 dX4_settle_37 (by decide) ?_
            exact ih_s (x + -1) (by omega) (by omega) (fun j hj => by rcases Classical.em (j = x.toNat) with e | e; (rw [e]; exact fq0 c_31); exact xz j (by omega)) (by omega)
    exact lp_s 34 f (by omega) (by omega) (fun j hj => by first | exact hz j (by omega) | exact hS j (by omega)) (by omega)
theorem in_X4_setNumber_X4 : ∀ w ∈ u_ws RX4 TX4 2, w ∈ wsX4_setNumber := by decide +kernel
theorem lk_X4_setNumber_numbers : Cond.fieldLink yX4_setNumber.cls 11 (TX4 0).1 (TX4 0).2.1 (TX4 0).2.2.1 ∈ wsX4_setNumber := by decide +kernel
theorem lk_X4_setNumber_highest : Cond.fieldLink yX4_setNumber.cls 15 (TX4 1).1 (TX4 1).2.1 (TX4 1).2.2.1 ∈ wsX4_setNumber := by decide +kernel
theorem lk_X4_setNumber_mx : Cond.methodLink yX4_setNumber.cls 23 Lib.Math.max.name ∈ wsX4_setNumber ∧ Cond.static Lib.Math.max.name ∈ wsX4_setNumber ∧ Cond.initialized "java/lang/Math" ∈ wsX4_setNumber ∧ Cond.code Lib.Math.max.name Lib.Math.max.code 2 (some .int) ∈ wsX4_setNumber := by decide +kernel
set_option maxHeartbeats 4000000 in
set_option maxRecDepth 100000 in
theorem c_X4_setNumber (E : ev) (l : Launch) (h q : Nat) (a : Po) (k : Nat) (v : Fq) (hS : Sm a) (hk : k < 33) : Mv E l yX4_setNumber wsX4_setNumber { frames := 1, cells := 0, slots := 0, locals := 30 } [.ref h, .int (zI (k : Int)), .int (zI (v.val : Int))] [cP h q (hi a), aP E q a] (fun w => w = [cP h q (hi (cset a k v)), aP E q (cset a k v)]) 0 0 := by
  refine enter_v (cc := cX4_setNumber) (nL := 3) (by decide) rfl (Nat.le_of_ble_eq_true rfl) (fun G C hret => ?_)
  show G 0 0 [cP h q (hi a), aP E q a] [(0, .ref h), (1, .int (zI (k : Int))), (2, .int (zI (v.val : Int)))] 0 []
  have hlo := hi_lo a
  refine g_iload_n C dX4_setNumber_0 1 rfl ?_
  refine g_if_lt C 13 dX4_setNumber_1 (by decide) (by omega) (by omega) (fun c_1 => by exfalso; omega) (fun c_1 => ?_)
  refine g_iload_n C dX4_setNumber_4 1 rfl ?_
  refine g_aload_n C dX4_setNumber_5 0 rfl ?_
  refine g_get C 0 rfl rfl 0 (by decide) in_X4_setNumber_X4 lk_X4_setNumber_numbers rfl dX4_setNumber_6 ?_
  refine g_alen C 1 rfl dX4_setNumber_9 ?_
  refine g_icmp_lt C 14 dX4_setNumber_10 (by decide) (by omega) (by omega) (by omega) (by omega) (fun c_10 => ?_) (fun c_10 => by exfalso; omega)
  refine g_aload_n C dX4_setNumber_14 0 rfl ?_
  refine g_get C 0 rfl rfl 0 (by decide) in_X4_setNumber_X4 lk_X4_setNumber_numbers rfl dX4_setNumber_15 ?_
  refine g_iload_n C dX4_setNumber_18 1 rfl ?_
  refine g_iload_n C dX4_setNumber_19 2 rfl ?_
  refine g_iast C [cP h q (hi a), aP E q (cset a k v)] 1 k v rfl (by omega) (by omega) (by decide) (rfl) dX4_setNumber_20 rfl ?_
  refine g_aload_n C dX4_setNumber_21 0 rfl ?_
  refine g_iload_n C dX4_setNumber_22 1 rfl ?_
  refine g_aload_n C dX4_setNumber_23 0 rfl ?_
  refine g_get C 0 rfl rfl 1 (by decide) in_X4_setNumber_X4 lk_X4_setNumber_highest rfl dX4_setNumber_24 ?_
  refine g_mmax C lk_X4_setNumber_mx dX4_setNumber_27 (by omega) (by omega) (by omega) (by omega) (by decide) (Nat.le_of_ble_eq_true rfl) ?_
  refine g_callV (n := 1) (wr := []) C (c_X4_settle E l h q (cset a k v) (hi a) (max (k : Int) (hi a)) (Sm_set hS hk v) (by omega) (by omega) (fun j hj => by rw [cset_ne (by omega)]; exact hi_zero hS (by omega))) gX4_setNumber_X4_settle rfl (by decide +kernel) rfl (by decide) dX4_setNumber_30 rfl (Nat.le_of_ble_eq_true rfl) rfl rfl [0, 1] [] rfl rfl (by decide) (fun w_30 h_30 => ?_)
  obtain rfl := h_30
  refine g_eq (ws' := [cP h q (hi (cset a k v)), aP E q (cset a k v)]) rfl rfl rfl ?_
  exact hret _ _ _ _ _ dX4_setNumber_33 (by decide) (by decide) rfl
theorem in_X4_becomeNumber_X4 : ∀ w ∈ u_ws RX4 TX4 2, w ∈ wsX4_becomeNumber := by decide +kernel
theorem lk_X4_becomeNumber_numbers : Cond.fieldLink yX4_becomeNumber.cls 11 (TX4 0).1 (TX4 0).2.1 (TX4 0).2.2.1 ∈ wsX4_becomeNumber := by decide +kernel
theorem lk_X4_becomeNumber_highest : Cond.fieldLink yX4_becomeNumber.cls 15 (TX4 1).1 (TX4 1).2.1 (TX4 1).2.2.1 ∈ wsX4_becomeNumber := by decide +kernel
set_option maxHeartbeats 4000000 in
set_option maxRecDepth 100000 in
theorem c_X4_becomeNumber (E : ev) (l : Launch) (h q : Nat) (a : Po) (v : Fq) (hS : Sm a) : Mv E l yX4_becomeNumber wsX4_becomeNumber { frames := 0, cells := 0, slots := 0, locals := 0 } [.ref h, .int (zI (v.val : Int))] [cP h q (hi a), aP E q a] (fun w => w = [cP h q (hi (con v)), aP E q (con v)]) 0 0 := by
  refine enter_v (cc := cX4_becomeNumber) (nL := 3) (by decide) rfl (Nat.le_of_ble_eq_true rfl) (fun G C hret => ?_)
  show G 0 0 [cP h q (hi a), aP E q a] [(0, .ref h), (1, .int (zI (v.val : Int)))] 0 []
  refine g_iconst C dX4_becomeNumber_0 ?_
  refine g_istore_n C [(2, .int (zI 0)), (0, .ref h), (1, .int (zI (v.val : Int)))] dX4_becomeNumber_1 (by decide) rfl ?_
  have lp_b : ∀ (n_b : Nat) (x : Int) (k : Nat) (f : Po), (x = (k : Int)) → (k ≤ 33) → (∀ j : Nat, j < k → f j = 0) → (Sm f) → 33 - k < n_b → G 0 0 [cP h q (hi a), aP E q f] [(2, .int (zI x)), (0, .ref h), (1, .int (zI (v.val : Int)))] 2 [] := by
    intro n_b
    induction n_b with
    | zero =>
      intro x k f hx hk hf hSf hm_b
      exact absurd hm_b (by omega)
    | succ n_b ih_b =>
      intro x k f hx hk hf hSf hm_b
      refine g_iload_n C dX4_becomeNumber_2 0 rfl ?_
      refine g_aload_n C dX4_becomeNumber_3 1 rfl ?_
      refine g_get C 0 rfl rfl 0 (by decide) in_X4_becomeNumber_X4 lk_X4_becomeNumber_numbers rfl dX4_becomeNumber_4 ?_
      refine g_alen C 1 rfl dX4_becomeNumber_7 ?_
      refine g_icmp_ge C 24 dX4_becomeNumber_8 (by decide) (by omega) (by omega) (by omega) (by omega) (fun c_8 => ?_) (fun c_8 => ?_)
      · have e1 : cset f 0 v = con v := by funext j; unfold cset con; split; rfl; by_cases g : j < 33; exact hf j (by omega); exact hSf j (by omega)
        have e2 := hi_con v
        rw [← e1] at e2
        refine g_aload_n C dX4_becomeNumber_24 1 rfl ?_
        refine g_get C 0 rfl rfl 0 (by decide) in_X4_becomeNumber_X4 lk_X4_becomeNumber_numbers rfl dX4_becomeNumber_25 ?_
        refine g_iconst C dX4_becomeNumber_28 ?_
        refine g_iload_n C dX4_becomeNumber_29 2 rfl ?_
        refine g_iast C [cP h q (hi a), aP E q (cset f 0 v)] 1 0 v rfl (by omega) (by omega) (by decide) (rfl) dX4_becomeNumber_30 rfl ?_
        refine g_aload_n C dX4_becomeNumber_31 1 rfl ?_
        refine g_iload_n C dX4_becomeNumber_32 2 rfl ?_
        refine g_if_ne C 40 dX4_becomeNumber_33 (by decide) (by omega) (by omega) (fun c_33 => ?_) (fun c_33 => ?_)
        · rw [if_neg (fqn c_33)] at e2
          refine g_iconst C dX4_becomeNumber_40 ?_
          refine g_put C [cP h q 0, aP E q (cset f 0 v)] tyX4 tyX4_ok nmX4 0 rfl rfl 1 (by decide) in_X4_becomeNumber_X4 lk_X4_becomeNumber_highest rfl rfl rfl (Nat.le_of_ble_eq_true rfl) dX4_becomeNumber_41 rfl ?_
          exact hret _ _ _ _ _ dX4_becomeNumber_44 (by decide) (by decide) (by rw [← e1, e2])
        · rw [if_pos (fq0 c_33)] at e2
          refine g_iconst C dX4_becomeNumber_36 ?_
          refine g_goto C 41 dX4_becomeNumber_37 (by decide) ?_
          refine g_put C [cP h q (-1), aP E q (cset f 0 v)] tyX4 tyX4_ok nmX4 0 rfl rfl 1 (by decide) in_X4_becomeNumber_X4 lk_X4_becomeNumber_highest rfl rfl rfl (Nat.le_of_ble_eq_true rfl) dX4_becomeNumber_41 rfl ?_
          exact hret _ _ _ _ _ dX4_becomeNumber_44 (by decide) (by decide) (by rw [← e1, e2])
      · refine g_aload_n C dX4_becomeNumber_11 1 rfl ?_
        refine g_get C 0 rfl rfl 0 (by decide) in_X4_becomeNumber_X4 lk_X4_becomeNumber_numbers rfl dX4_becomeNumber_12 ?_
        refine g_iload_n C dX4_becomeNumber_15 0 rfl ?_
        refine g_iconst C dX4_becomeNumber_16 ?_
        refine g_iast C [cP h q (hi a), aP E q (cset f k 0)] 1 k 0 rfl (by omega) (by omega) (by decide) (rfl) dX4_becomeNumber_17 rfl ?_
        refine g_iinc C [(2, .int (zI (x + 1))), (0, .ref h), (1, .int (zI (v.val : Int)))] dX4_becomeNumber_18 0 rfl (by decide) rfl ?_
        refine g_goto C 2 dX4_becomeNumber_21 (by decide) ?_
        exact ih_b (x + 1) (k + 1) (cset f k 0) (by omega) (by omega) (fun j hj => by unfold cset; split; rfl; exact hf j (by omega)) (Sm_set hSf (by omega) 0) (by omega)
  exact lp_b 34 0 0 a rfl (by omega) (fun j hj => absurd hj (by omega)) hS (by omega)
end
section
theorem sc_Sm {a : Po} (hS : Sm a) (g : Fq) : Sm (sc a g) := fun j h => by unfold sc; rw [hS j h]; grind
theorem nm_sub {b : Po} {x : Int} {k k0 : Nat} (hx : x = (k : Int)) (hk : k0 ≤ k) : nm b (x - (k0 : Int)) = b (k - k0) := by
  rw [show x - (k0 : Int) = ((k - k0 : Nat) : Int) by omega, nm_nat]
theorem am_lo {a b : Po} {f : Fq} {k j : Nat} (h : j < k) : am a f b k j = a j := if_neg (by omega)
theorem am_hi {a b : Po} {f : Fq} {k j : Nat} (h : k ≤ j) : am a f b k j = a j + f * b (j - k) := if_pos h
theorem am_z {a b : Po} {f : Fq} {k j : Nat} (h : k ≤ j → b (j - k) = 0) : am a f b k j = a j := by
  unfold am; split
  · rename_i g; rw [h g]; grind
  · rfl
theorem in_X4_copyFrom_X4 : ∀ w ∈ u_ws RX4 TX4 2, w ∈ wsX4_copyFrom := by decide +kernel
theorem lk_X4_copyFrom_numbers : Cond.fieldLink yX4_copyFrom.cls 11 (TX4 0).1 (TX4 0).2.1 (TX4 0).2.2.1 ∈ wsX4_copyFrom := by decide +kernel
theorem lk_X4_copyFrom_highest : Cond.fieldLink yX4_copyFrom.cls 15 (TX4 1).1 (TX4 1).2.1 (TX4 1).2.2.1 ∈ wsX4_copyFrom := by decide +kernel
set_option maxHeartbeats 4000000 in
set_option maxRecDepth 100000 in
theorem c_X4_copyFrom (E : ev) (l : Launch) (h q h2 q2 : Nat) (a b : Po) (hSa : Sm a) (hSb : Sm b) : Mv E l yX4_copyFrom wsX4_copyFrom { frames := 1, cells := 0, slots := 0, locals := 30 } [.ref h, .ref h2] [cP h q (hi a), aP E q a, cP h2 q2 (hi b), aP E q2 b] (fun w => w = [cP h q (hi b), aP E q b, cP h2 q2 (hi b), aP E q2 b]) 0 0 := by
  refine enter_v (cc := cX4_copyFrom) (nL := 3) (by decide) rfl (Nat.le_of_ble_eq_true rfl) (fun G C hret => ?_)
  show G 0 0 [cP h q (hi a), aP E q a, cP h2 q2 (hi b), aP E q2 b] [(0, .ref h), (1, .ref h2)] 0 []
  refine g_iconst C dX4_copyFrom_0 ?_
  refine g_istore_n C [(2, .int (zI 0)), (0, .ref h), (1, .ref h2)] dX4_copyFrom_1 (by decide) rfl ?_
  have lp_c : ∀ (n_c : Nat) (x : Int) (k : Nat) (f : Po), (x = (k : Int)) → (k ≤ 33) → (∀ j : Nat, j < k → f j = b j) → (Sm f) → 33 - k < n_c → G 0 0 [cP h q (hi a), aP E q f, cP h2 q2 (hi b), aP E q2 b] [(2, .int (zI x)), (0, .ref h), (1, .ref h2)] 2 [] := by
    intro n_c
    induction n_c with
    | zero =>
      intro x k f hx hk hf hSf hm_c
      exact absurd hm_c (by omega)
    | succ n_c ih_c =>
      intro x k f hx hk hf hSf hm_c
      refine g_iload_n C dX4_copyFrom_2 0 rfl ?_
      refine g_aload_n C dX4_copyFrom_3 1 rfl ?_
      refine g_get C 0 rfl rfl 0 (by decide) in_X4_copyFrom_X4 lk_X4_copyFrom_numbers rfl dX4_copyFrom_4 ?_
      refine g_alen C 1 rfl dX4_copyFrom_7 ?_
      refine g_icmp_ge C 28 dX4_copyFrom_8 (by decide) (by omega) (by omega) (by omega) (by omega) (fun c_8 => ?_) (fun c_8 => ?_)
      · have e1 : f = b := by funext j; by_cases g : j < 33; exact hf j (by omega); rw [hSf j (by omega), hSb j (by omega)]
        subst e1
        refine g_aload_n C dX4_copyFrom_28 1 rfl ?_
        refine g_aload_n C dX4_copyFrom_29 2 rfl ?_
        refine g_get C 2 rfl rfl 1 (by decide) in_X4_copyFrom_X4 lk_X4_copyFrom_highest rfl dX4_copyFrom_30 ?_
        refine g_put C [cP h q (hi f), aP E q f, cP h2 q2 (hi f), aP E q2 f] tyX4 tyX4_ok nmX4 0 rfl rfl 1 (by decide) in_X4_copyFrom_X4 lk_X4_copyFrom_highest rfl rfl rfl (Nat.le_of_ble_eq_true rfl) dX4_copyFrom_33 rfl ?_
        exact hret _ _ _ _ _ dX4_copyFrom_36 (by decide) (by decide) rfl
      · refine g_aload_n C dX4_copyFrom_11 1 rfl ?_
        refine g_get C 0 rfl rfl 0 (by decide) in_X4_copyFrom_X4 lk_X4_copyFrom_numbers rfl dX4_copyFrom_12 ?_
        refine g_iload_n C dX4_copyFrom_15 0 rfl ?_
        refine g_aload_n C dX4_copyFrom_16 2 rfl ?_
        refine g_iload_n C dX4_copyFrom_17 0 rfl ?_
        refine g_callVi (n := 1) (wr := [cP h q (hi a), aP E q f]) C (c_X4_number E l h2 q2 b x hSb (by omega) (by omega)) gX4_copyFrom_X4_number rfl (by decide +kernel) rfl (by decide) dX4_copyFrom_18 rfl (Nat.le_of_ble_eq_true rfl) rfl rfl [2, 3] [0, 1] rfl rfl (by decide) (fun r_18 w_18 h_18 => ?_)
        obtain ⟨rfl, rfl⟩ := h_18
        refine g_eq (ws' := [cP h q (hi a), aP E q f, cP h2 q2 (hi b), aP E q2 b]) rfl rfl rfl ?_
        refine g_iast C [cP h q (hi a), aP E q (cset f k (nm b x)), cP h2 q2 (hi b), aP E q2 b] 1 k (nm b x) rfl (by omega) (by omega) (by decide) (rfl) dX4_copyFrom_21 rfl ?_
        refine g_iinc C [(2, .int (zI (x + 1))), (0, .ref h), (1, .ref h2)] dX4_copyFrom_22 0 rfl (by decide) rfl ?_
        refine g_goto C 2 dX4_copyFrom_25 (by decide) ?_
        exact ih_c (x + 1) (k + 1) (cset f k (nm b x)) (by omega) (by omega) (fun j hj => by unfold cset; split; (rename_i e; rw [e, hx, nm_nat]); exact hf j (by omega)) (Sm_set hSf (by omega) _) (by omega)
  exact lp_c 34 0 0 a rfl (by omega) (fun j hj => absurd hj (by omega)) hSa (by omega)
theorem in_X4_scaleBy_X4 : ∀ w ∈ u_ws RX4 TX4 2, w ∈ wsX4_scaleBy := by decide +kernel
theorem lk_X4_scaleBy_numbers : Cond.fieldLink yX4_scaleBy.cls 11 (TX4 0).1 (TX4 0).2.1 (TX4 0).2.2.1 ∈ wsX4_scaleBy := by decide +kernel
theorem lk_X4_scaleBy_highest : Cond.fieldLink yX4_scaleBy.cls 15 (TX4 1).1 (TX4 1).2.1 (TX4 1).2.2.1 ∈ wsX4_scaleBy := by decide +kernel
set_option maxHeartbeats 4000000 in
set_option maxRecDepth 100000 in
theorem c_X4_scaleBy (E : ev) (l : Launch) (h q : Nat) (a : Po) (g : Fq) (hS : Sm a) : Mv E l yX4_scaleBy wsX4_scaleBy { frames := 1, cells := 0, slots := 0, locals := 30 } [.ref h, .int (zI (g.val : Int))] [cP h q (hi a), aP E q a] (fun w => w = [cP h q (hi (sc a g)), aP E q (sc a g)]) 0 0 := by
  refine enter_v (cc := cX4_scaleBy) (nL := 3) (by decide) rfl (Nat.le_of_ble_eq_true rfl) (fun G C hret => ?_)
  show G 0 0 [cP h q (hi a), aP E q a] [(0, .ref h), (1, .int (zI (g.val : Int)))] 0 []
  have hlo := hi_lo a
  refine g_iconst C dX4_scaleBy_0 ?_
  refine g_istore_n C [(2, .int (zI 0)), (0, .ref h), (1, .int (zI (g.val : Int)))] dX4_scaleBy_1 (by decide) rfl ?_
  have lp_c : ∀ (n_c : Nat) (x : Int) (k : Nat) (f : Po), (x = (k : Int)) → (k ≤ 33) → (∀ j : Nat, j < k → f j = a j * g) → (∀ j : Nat, k ≤ j → f j = a j) → 33 - k < n_c → G 0 0 [cP h q (hi a), aP E q f] [(2, .int (zI x)), (0, .ref h), (1, .int (zI (g.val : Int)))] 2 [] := by
    intro n_c
    induction n_c with
    | zero =>
      intro x k f hx hk hf hf2 hm_c
      exact absurd hm_c (by omega)
    | succ n_c ih_c =>
      intro x k f hx hk hf hf2 hm_c
      refine g_iload_n C dX4_scaleBy_2 0 rfl ?_
      refine g_aload_n C dX4_scaleBy_3 1 rfl ?_
      refine g_get C 0 rfl rfl 0 (by decide) in_X4_scaleBy_X4 lk_X4_scaleBy_numbers rfl dX4_scaleBy_4 ?_
      refine g_alen C 1 rfl dX4_scaleBy_7 ?_
      refine g_icmp_ge C 43 dX4_scaleBy_8 (by decide) (by omega) (by omega) (by omega) (by omega) (fun c_8 => ?_) (fun c_8 => ?_)
      · have e1 : f = sc a g := by funext j; unfold sc; by_cases q9 : j < k; exact hf j q9; (rw [hf2 j (by omega), hS j (by omega)]; grind)
        subst e1
        refine g_aload_n C dX4_scaleBy_43 1 rfl ?_
        refine g_aload_n C dX4_scaleBy_44 1 rfl ?_
        refine g_get C 0 rfl rfl 1 (by decide) in_X4_scaleBy_X4 lk_X4_scaleBy_highest rfl dX4_scaleBy_45 ?_
        refine g_callV (n := 1) (wr := []) C (c_X4_settle E l h q (sc a g) (hi a) (hi a) (sc_Sm hS g) (by omega) (by omega) (fun j hj => by unfold sc; rw [hi_zero hS hj]; grind)) gX4_scaleBy_X4_settle rfl (by decide +kernel) rfl (by decide) dX4_scaleBy_48 rfl (Nat.le_of_ble_eq_true rfl) rfl rfl [0, 1] [] rfl rfl (by decide) (fun w_48 h_48 => ?_)
        obtain rfl := h_48
        refine g_eq (ws' := [cP h q (hi (sc a g)), aP E q (sc a g)]) rfl rfl rfl ?_
        exact hret _ _ _ _ _ dX4_scaleBy_51 (by decide) (by decide) rfl
      · refine g_iload_n C dX4_scaleBy_11 0 rfl ?_
        refine g_aload_n C dX4_scaleBy_12 1 rfl ?_
        refine g_get C 0 rfl rfl 1 (by decide) in_X4_scaleBy_X4 lk_X4_scaleBy_highest rfl dX4_scaleBy_13 ?_
        refine g_icmp_gt C 43 dX4_scaleBy_16 (by decide) (by omega) (by omega) (by omega) (by omega) (fun c_16 => ?_) (fun c_16 => ?_)
        · have e1 : f = sc a g := by funext j; unfold sc; by_cases q9 : j < k; exact hf j q9; (rw [hf2 j (by omega), hi_zero hS (by omega)]; grind)
          subst e1
          refine g_aload_n C dX4_scaleBy_43 1 rfl ?_
          refine g_aload_n C dX4_scaleBy_44 1 rfl ?_
          refine g_get C 0 rfl rfl 1 (by decide) in_X4_scaleBy_X4 lk_X4_scaleBy_highest rfl dX4_scaleBy_45 ?_
          refine g_callV (n := 1) (wr := []) C (c_X4_settle E l h q (sc a g) (hi a) (hi a) (sc_Sm hS g) (by omega) (by omega) (fun j hj => by unfold sc; rw [hi_zero hS hj]; grind)) gX4_scaleBy_X4_settle rfl (by decide +kernel) rfl (by decide) dX4_scaleBy_48 rfl (Nat.le_of_ble_eq_true rfl) rfl rfl [0, 1] [] rfl rfl (by decide) (fun w_48 h_48 => ?_)
          obtain rfl := h_48
          refine g_eq (ws' := [cP h q (hi (sc a g)), aP E q (sc a g)]) rfl rfl rfl ?_
          exact hret _ _ _ _ _ dX4_scaleBy_51 (by decide) (by decide) rfl
        · refine g_aload_n C dX4_scaleBy_19 1 rfl ?_
          refine g_get C 0 rfl rfl 0 (by decide) in_X4_scaleBy_X4 lk_X4_scaleBy_numbers rfl dX4_scaleBy_20 ?_
          refine g_iload_n C dX4_scaleBy_23 0 rfl ?_
          refine g_aload_n C dX4_scaleBy_24 1 rfl ?_
          refine g_get C 0 rfl rfl 0 (by decide) in_X4_scaleBy_X4 lk_X4_scaleBy_numbers rfl dX4_scaleBy_25 ?_
          refine g_iload_n C dX4_scaleBy_28 0 rfl ?_
          refine g_iald C 1 k rfl (by omega) (by omega) (by decide) dX4_scaleBy_29 ?_
          refine g_iload_n C dX4_scaleBy_30 2 rfl ?_
          refine g_imul C dX4_scaleBy_31 ?_
          refine g_sipush C dX4_scaleBy_32 rfl ?_
          refine g_mod C dX4_scaleBy_35 (by have := fq_mulb (f k) g; omega) (by have := fq_mulb (f k) g; omega) ?_
          refine g_top (zI ((f k * g).val : Int)) (congrArg (fun u : Fq => zI (u.val : Int)) (by simp only [cF_mul, cF_of])) ?_
          refine g_iast C [cP h q (hi a), aP E q (cset f k (f k * g))] 1 k (f k * g) rfl (by omega) (by omega) (by decide) (rfl) dX4_scaleBy_36 rfl ?_
          refine g_iinc C [(2, .int (zI (x + 1))), (0, .ref h), (1, .int (zI (g.val : Int)))] dX4_scaleBy_37 0 rfl (by decide) rfl ?_
          refine g_goto C 2 dX4_scaleBy_40 (by decide) ?_
          exact ih_c (x + 1) (k + 1) (cset f k (f k * g)) (by omega) (by omega) (fun j hj => by unfold cset; split; (rename_i e; rw [e, hf2 k (by omega)]); exact hf j (by omega)) (fun j hj => by rw [cset_ne (by omega)]; exact hf2 j (by omega)) (by omega)
  exact lp_c 34 0 0 a rfl (by omega) (fun j hj => absurd hj (by omega)) (fun j _ => rfl) (by omega)
theorem in_X4_addMultiple_X4 : ∀ w ∈ u_ws RX4 TX4 2, w ∈ wsX4_addMultiple := by decide +kernel
theorem lk_X4_addMultiple_highest : Cond.fieldLink yX4_addMultiple.cls 15 (TX4 1).1 (TX4 1).2.1 (TX4 1).2.2.1 ∈ wsX4_addMultiple := by decide +kernel
theorem lk_X4_addMultiple_mx : Cond.methodLink yX4_addMultiple.cls 23 Lib.Math.max.name ∈ wsX4_addMultiple ∧ Cond.static Lib.Math.max.name ∈ wsX4_addMultiple ∧ Cond.initialized "java/lang/Math" ∈ wsX4_addMultiple ∧ Cond.code Lib.Math.max.name Lib.Math.max.code 2 (some .int) ∈ wsX4_addMultiple := by decide +kernel
theorem lk_X4_addMultiple_numbers : Cond.fieldLink yX4_addMultiple.cls 11 (TX4 0).1 (TX4 0).2.1 (TX4 0).2.2.1 ∈ wsX4_addMultiple := by decide +kernel
set_option maxHeartbeats 4000000 in
set_option maxRecDepth 100000 in
theorem c_X4_addMultiple (E : ev) (l : Launch) (h q h2 q2 : Nat) (a b : Po) (f : Fq) (k0 : Nat) (hSa : Sm a) (hSb : Sm b) (hfit : hi b + (k0 : Int) < 33) : Mv E l yX4_addMultiple wsX4_addMultiple { frames := 1, cells := 0, slots := 0, locals := 30 } [.ref h, .int (zI (f.val : Int)), .ref h2, .int (zI (k0 : Int))] [cP h q (hi a), aP E q a, cP h2 q2 (hi b), aP E q2 b] (fun w => w = [cP h q (hi (am a f b k0)), aP E q (am a f b k0), cP h2 q2 (hi b), aP E q2 b]) 0 0 := by
  refine enter_v (cc := cX4_addMultiple) (nL := 7) (by decide) rfl (Nat.le_of_ble_eq_true rfl) (fun G C hret => ?_)
  show G 0 0 [cP h q (hi a), aP E q a, cP h2 q2 (hi b), aP E q2 b] [(0, .ref h), (1, .int (zI (f.val : Int))), (2, .ref h2), (3, .int (zI (k0 : Int)))] 0 []
  have hla := hi_lo a
  have hlb := hi_lo b
  refine g_aload_n C dX4_addMultiple_0 2 rfl ?_
  refine g_get C 2 rfl rfl 1 (by decide) in_X4_addMultiple_X4 lk_X4_addMultiple_highest rfl dX4_addMultiple_1 ?_
  refine g_iload_n C dX4_addMultiple_4 3 rfl ?_
  refine g_iadd C dX4_addMultiple_5 ?_
  refine g_istore C [(4, .int (zI ((hi b) + (k0 : Int)))), (0, .ref h), (1, .int (zI (f.val : Int))), (2, .ref h2), (3, .int (zI (k0 : Int)))] dX4_addMultiple_6 (by decide) rfl ?_
  refine g_iload_n C dX4_addMultiple_8 4 rfl ?_
  refine g_iconst C dX4_addMultiple_9 ?_
  refine g_mmax C lk_X4_addMultiple_mx dX4_addMultiple_10 (by omega) (by omega) (by omega) (by omega) (by decide) (Nat.le_of_ble_eq_true rfl) ?_
  refine g_istore C [(5, .int (zI (max (k0 : Int) 0))), (4, .int (zI ((hi b) + (k0 : Int)))), (0, .ref h), (1, .int (zI (f.val : Int))), (2, .ref h2), (3, .int (zI (k0 : Int)))] dX4_addMultiple_13 (by decide) rfl ?_
  have lp_c : ∀ (n_c : Nat) (x : Int) (k : Nat) (c : Po), (x = (k : Int)) → (k0 ≤ k) → (k ≤ max k0 33) → (∀ j : Nat, j < k → c j = am a f b k0 j) → (∀ j : Nat, k ≤ j → c j = a j) → max k0 33 - k < n_c → G 0 0 [cP h q (hi a), aP E q c, cP h2 q2 (hi b), aP E q2 b] [(5, .int (zI x)), (4, .int (zI (hi b + (k0 : Int)))), (0, .ref h), (1, .int (zI (f.val : Int))), (2, .ref h2), (3, .int (zI (k0 : Int)))] 15 [] := by
    intro n_c
    induction n_c with
    | zero =>
      intro x k c hx hk0 hk hc hc2 hm_c
      exact absurd hm_c (by omega)
    | succ n_c ih_c =>
      intro x k c hx hk0 hk hc hc2 hm_c
      refine g_iload C dX4_addMultiple_15 0 rfl ?_
      refine g_aload_n C dX4_addMultiple_17 2 rfl ?_
      refine g_get C 0 rfl rfl 0 (by decide) in_X4_addMultiple_X4 lk_X4_addMultiple_numbers rfl dX4_addMultiple_18 ?_
      refine g_alen C 1 rfl dX4_addMultiple_21 ?_
      refine g_icmp_ge C 71 dX4_addMultiple_22 (by decide) (by omega) (by omega) (by omega) (by omega) (fun c_22 => ?_) (fun c_22 => ?_)
      · have e1 : c = am a f b k0 := by funext j; by_cases q9 : j < k; exact hc j q9; (rw [hc2 j (by omega), am_z (fun _ => hi_zero hSb (by omega))])
        subst e1
        refine g_aload_n C dX4_addMultiple_71 2 rfl ?_
        refine g_aload_n C dX4_addMultiple_72 2 rfl ?_
        refine g_get C 0 rfl rfl 1 (by decide) in_X4_addMultiple_X4 lk_X4_addMultiple_highest rfl dX4_addMultiple_73 ?_
        refine g_iload C dX4_addMultiple_76 1 rfl ?_
        refine g_mmax C lk_X4_addMultiple_mx dX4_addMultiple_78 (by omega) (by omega) (by omega) (by omega) (by decide) (Nat.le_of_ble_eq_true rfl) ?_
        refine g_callV (n := 1) (wr := [cP h2 q2 (hi b), aP E q2 b]) C (c_X4_settle E l h q (am a f b k0) (hi a) (max (hi a) (hi b + (k0 : Int))) (am_Sm hSa (fun j hj => hi_zero hSb (by omega))) (by omega) (by omega) (fun j hj => by rw [am_z (fun _ => hi_zero hSb (by omega))]; exact hi_zero hSa (by omega))) gX4_addMultiple_X4_settle rfl (by decide +kernel) rfl (by decide) dX4_addMultiple_81 rfl (Nat.le_of_ble_eq_true rfl) rfl rfl [0, 1] [2, 3] rfl rfl (by decide) (fun w_81 h_81 => ?_)
        obtain rfl := h_81
        refine g_eq (ws' := [cP h2 q2 (hi b), aP E q2 b, cP h q (hi (am a f b k0)), aP E q (am a f b k0)]) rfl rfl rfl ?_
        refine g_wsub C [2, 3, 0, 1] (by decide) rfl rfl ?_
        exact hret _ _ _ _ _ dX4_addMultiple_84 (by decide) (by decide) rfl
      · refine g_iload C dX4_addMultiple_25 0 rfl ?_
        refine g_iload C dX4_addMultiple_27 1 rfl ?_
        refine g_icmp_gt C 71 dX4_addMultiple_29 (by decide) (by omega) (by omega) (by omega) (by omega) (fun c_29 => ?_) (fun c_29 => ?_)
        · have e1 : c = am a f b k0 := by funext j; by_cases q9 : j < k; exact hc j q9; (rw [hc2 j (by omega), am_z (fun _ => hi_zero hSb (by omega))])
          subst e1
          refine g_aload_n C dX4_addMultiple_71 2 rfl ?_
          refine g_aload_n C dX4_addMultiple_72 2 rfl ?_
          refine g_get C 0 rfl rfl 1 (by decide) in_X4_addMultiple_X4 lk_X4_addMultiple_highest rfl dX4_addMultiple_73 ?_
          refine g_iload C dX4_addMultiple_76 1 rfl ?_
          refine g_mmax C lk_X4_addMultiple_mx dX4_addMultiple_78 (by omega) (by omega) (by omega) (by omega) (by decide) (Nat.le_of_ble_eq_true rfl) ?_
          refine g_callV (n := 1) (wr := [cP h2 q2 (hi b), aP E q2 b]) C (c_X4_settle E l h q (am a f b k0) (hi a) (max (hi a) (hi b + (k0 : Int))) (am_Sm hSa (fun j hj => hi_zero hSb (by omega))) (by omega) (by omega) (fun j hj => by rw [am_z (fun _ => hi_zero hSb (by omega))]; exact hi_zero hSa (by omega))) gX4_addMultiple_X4_settle rfl (by decide +kernel) rfl (by decide) dX4_addMultiple_81 rfl (Nat.le_of_ble_eq_true rfl) rfl rfl [0, 1] [2, 3] rfl rfl (by decide) (fun w_81 h_81 => ?_)
          obtain rfl := h_81
          refine g_eq (ws' := [cP h2 q2 (hi b), aP E q2 b, cP h q (hi (am a f b k0)), aP E q (am a f b k0)]) rfl rfl rfl ?_
          refine g_wsub C [2, 3, 0, 1] (by decide) rfl rfl ?_
          exact hret _ _ _ _ _ dX4_addMultiple_84 (by decide) (by decide) rfl
        · refine g_iload_n C dX4_addMultiple_32 3 rfl ?_
          refine g_aload_n C dX4_addMultiple_33 4 rfl ?_
          refine g_iload C dX4_addMultiple_34 0 rfl ?_
          refine g_iload_n C dX4_addMultiple_36 5 rfl ?_
          refine g_isub C dX4_addMultiple_37 ?_
          refine g_callVi (n := 1) (wr := [cP h q (hi a), aP E q c]) C (c_X4_number E l h2 q2 b (x - (k0 : Int)) hSb (by omega) (by omega)) gX4_addMultiple_X4_number rfl (by decide +kernel) rfl (by decide) dX4_addMultiple_38 rfl (Nat.le_of_ble_eq_true rfl) rfl rfl [2, 3] [0, 1] rfl rfl (by decide) (fun r_38 w_38 h_38 => ?_)
          obtain ⟨rfl, rfl⟩ := h_38
          refine g_eq (ws' := [cP h q (hi a), aP E q c, cP h2 q2 (hi b), aP E q2 b]) rfl rfl rfl ?_
          refine g_imul C dX4_addMultiple_41 ?_
          refine g_istore C [(6, .int (zI ((f.val : Int) * ((nm b (x - (k0 : Int))).val : Int)))), (5, .int (zI x)), (4, .int (zI (hi b + (k0 : Int)))), (0, .ref h), (1, .int (zI (f.val : Int))), (2, .ref h2), (3, .int (zI (k0 : Int)))] dX4_addMultiple_42 (by decide) rfl ?_
          refine g_aload_n C dX4_addMultiple_44 3 rfl ?_
          refine g_get C 0 rfl rfl 0 (by decide) in_X4_addMultiple_X4 lk_X4_addMultiple_numbers rfl dX4_addMultiple_45 ?_
          refine g_iload C dX4_addMultiple_48 1 rfl ?_
          refine g_aload_n C dX4_addMultiple_50 3 rfl ?_
          refine g_get C 0 rfl rfl 0 (by decide) in_X4_addMultiple_X4 lk_X4_addMultiple_numbers rfl dX4_addMultiple_51 ?_
          refine g_iload C dX4_addMultiple_54 1 rfl ?_
          refine g_iald C 1 k rfl (by omega) (by omega) (by decide) dX4_addMultiple_56 ?_
          refine g_iload C dX4_addMultiple_57 0 rfl ?_
          refine g_iadd C dX4_addMultiple_59 ?_
          refine g_sipush C dX4_addMultiple_60 rfl ?_
          refine g_mod C dX4_addMultiple_63 (by have := fq_mulb f (nm b (x - (k0 : Int))); have := (c k).isLt; omega) (by have := fq_mulb f (nm b (x - (k0 : Int))); have := (c k).isLt; omega) ?_
          refine g_top (zI ((c k + f * nm b (x - (k0 : Int))).val : Int)) (congrArg (fun u : Fq => zI (u.val : Int)) (by simp only [cF_add, cF_mul, cF_of])) ?_
          refine g_iast C [cP h q (hi a), aP E q (cset c k (c k + f * nm b (x - (k0 : Int)))), cP h2 q2 (hi b), aP E q2 b] 1 k (c k + f * nm b (x - (k0 : Int))) rfl (by omega) (by omega) (by decide) (rfl) dX4_addMultiple_64 rfl ?_
          refine g_iinc C [(5, .int (zI (x + 1))), (6, .int (zI ((f.val : Int) * ((nm b (x - (k0 : Int))).val : Int)))), (4, .int (zI (hi b + (k0 : Int)))), (0, .ref h), (1, .int (zI (f.val : Int))), (2, .ref h2), (3, .int (zI (k0 : Int)))] dX4_addMultiple_65 1 rfl (by decide) rfl ?_
          refine g_goto C 15 dX4_addMultiple_68 (by decide) ?_
          refine g_lsub C [0, 2, 3, 4, 5, 6] rfl ?_
          exact ih_c (x + 1) (k + 1) (cset c k (c k + f * nm b (x - (k0 : Int)))) (by omega) (by omega) (by omega) (fun j hj => by unfold cset; split; (rename_i e; rw [e, am_hi hk0, hc2 k (by omega), nm_sub hx hk0]); exact hc j (by omega)) (fun j hj => by rw [cset_ne (by omega)]; exact hc2 j (by omega)) (by omega)
  exact lp_c (max k0 33 + 1) (max (k0 : Int) 0) k0 a (by omega) (by omega) (by omega) (fun j hj => (am_lo hj).symm) (fun j _ => rfl) (by omega)
theorem in_X4_valueAt_X4 : ∀ w ∈ u_ws RX4 TX4 2, w ∈ wsX4_valueAt := by decide +kernel
theorem lk_X4_valueAt_highest : Cond.fieldLink yX4_valueAt.cls 15 (TX4 1).1 (TX4 1).2.1 (TX4 1).2.2.1 ∈ wsX4_valueAt := by decide +kernel
set_option maxHeartbeats 4000000 in
set_option maxRecDepth 100000 in
theorem c_X4_valueAt (E : ev) (l : Launch) (h q : Nat) (a : Po) (v : Fq) (hS : Sm a) : Mi E l yX4_valueAt wsX4_valueAt { frames := 1, cells := 0, slots := 0, locals := 30 } [.ref h, .int (zI (v.val : Int))] [cP h q (hi a), aP E q a] (fun r w => r = zI ((val a v).val : Int) ∧ w = [cP h q (hi a), aP E q a]) 0 0 := by
  refine enter_i (cc := cX4_valueAt) (nL := 4) (by decide) rfl (Nat.le_of_ble_eq_true rfl) (fun G C hret => ?_)
  show G 0 0 [cP h q (hi a), aP E q a] [(0, .ref h), (1, .int (zI (v.val : Int)))] 0 []
  have hlo := hi_lo a
  refine g_iconst C dX4_valueAt_0 ?_
  refine g_istore_n C [(2, .int (zI 0)), (0, .ref h), (1, .int (zI (v.val : Int)))] dX4_valueAt_1 (by decide) rfl ?_
  refine g_aload_n C dX4_valueAt_2 1 rfl ?_
  refine g_get C 0 rfl rfl 1 (by decide) in_X4_valueAt_X4 lk_X4_valueAt_highest rfl dX4_valueAt_3 ?_
  refine g_istore_n C [(3, .int (zI (hi a))), (2, .int (zI 0)), (0, .ref h), (1, .int (zI (v.val : Int)))] dX4_valueAt_6 (by decide) rfl ?_
  have lp_c : ∀ (n_c : Nat) (x : Int) (n : Nat) (r : Fq), (x = (n : Int) - 1) → (n ≤ 33) → (hv a v n r = val a v) → n < n_c → G 0 0 [cP h q (hi a), aP E q a] [(3, .int (zI x)), (2, .int (zI (r.val : Int))), (0, .ref h), (1, .int (zI (v.val : Int)))] 7 [] := by
    intro n_c
    induction n_c with
    | zero =>
      intro x n r hx hn hr hm_c
      exact absurd hm_c (by omega)
    | succ n_c ih_c =>
      intro x n r hx hn hr hm_c
      refine g_iload_n C dX4_valueAt_7 0 rfl ?_
      refine g_if_lt C 31 dX4_valueAt_8 (by decide) (by omega) (by omega) (fun c_8 => ?_) (fun c_8 => ?_)
      · have e : r = val a v := by rw [← hr, show n = 0 by omega]; rfl
        refine g_iload_n C dX4_valueAt_31 1 rfl ?_
        exact hret _ _ _ _ _ _ dX4_valueAt_32 (by decide) (by decide) ⟨by rw [e], rfl⟩
      · obtain ⟨n2, rfl⟩ : ∃ n2, n = n2 + 1 := ⟨n - 1, by omega⟩
        refine g_iload_n C dX4_valueAt_11 1 rfl ?_
        refine g_iload_n C dX4_valueAt_12 3 rfl ?_
        refine g_imul C dX4_valueAt_13 ?_
        refine g_aload_n C dX4_valueAt_14 2 rfl ?_
        refine g_iload_n C dX4_valueAt_15 0 rfl ?_
        refine g_callVi (n := 1) (wr := []) C (c_X4_number E l h q a x hS (by omega) (by omega)) gX4_valueAt_X4_number rfl (by decide +kernel) rfl (by decide) dX4_valueAt_16 rfl (Nat.le_of_ble_eq_true rfl) rfl rfl [0, 1] [] rfl rfl (by decide) (fun r_16 w_16 h_16 => ?_)
        obtain ⟨rfl, rfl⟩ := h_16
        refine g_eq (ws' := [cP h q (hi a), aP E q a]) rfl rfl rfl ?_
        refine g_iadd C dX4_valueAt_19 ?_
        refine g_sipush C dX4_valueAt_20 rfl ?_
        refine g_mod C dX4_valueAt_23 (by have := fq_mulb r v; have := (nm a x).isLt; omega) (by have := fq_mulb r v; have := (nm a x).isLt; omega) ?_
        refine g_top (zI ((r * v + nm a x).val : Int)) (congrArg (fun u : Fq => zI (u.val : Int)) (by simp only [cF_add, cF_mul, cF_of])) ?_
        refine g_istore_n C [(2, .int (zI ((r * v + nm a x).val : Int))), (3, .int (zI x)), (0, .ref h), (1, .int (zI (v.val : Int)))] dX4_valueAt_24 (by decide) rfl ?_
        refine g_iinc C [(3, .int (zI (x + (-1)))), (2, .int (zI ((r * v + nm a x).val : Int))), (0, .ref h), (1, .int (zI (v.val : Int)))] dX4_valueAt_25 1 rfl (by decide) rfl ?_
        refine g_goto C 7 dX4_valueAt_28 (by decide) ?_
        exact ih_c (x + -1) n2 (r * v + nm a x) (by omega) (by omega) (by rw [← hr, show nm a x = a n2 by rw [show x = (n2 : Int) by omega, nm_nat]]; rfl) (by omega)
  exact lp_c 40 (hi a) (hi a + 1).toNat 0 (by omega) (by omega) rfl (by omega)
end
section
theorem in_X4_multiplyBy_X4 : ∀ w ∈ u_ws RX4 TX4 2, w ∈ wsX4_multiplyBy := by decide +kernel
theorem lk_X4_multiplyBy_highest : Cond.fieldLink yX4_multiplyBy.cls 15 (TX4 1).1 (TX4 1).2.1 (TX4 1).2.2.1 ∈ wsX4_multiplyBy := by decide +kernel
theorem lk_X4_multiplyBy_numbers : Cond.fieldLink yX4_multiplyBy.cls 11 (TX4 0).1 (TX4 0).2.1 (TX4 0).2.2.1 ∈ wsX4_multiplyBy := by decide +kernel
theorem lk_X4_multiplyBy_mn : Cond.methodLink yX4_multiplyBy.cls 37 Lib.Math.min.name ∈ wsX4_multiplyBy ∧ Cond.static Lib.Math.min.name ∈ wsX4_multiplyBy ∧ Cond.initialized "java/lang/Math" ∈ wsX4_multiplyBy ∧ Cond.code Lib.Math.min.name Lib.Math.min.code 2 (some .int) ∈ wsX4_multiplyBy := by decide +kernel
set_option maxHeartbeats 4000000 in
set_option maxRecDepth 100000 in
theorem c_X4_multiplyBy (E : ev) (l : Launch) (h q h2 q2 : Nat) (a b : Po) (hSa : Sm a) (hSb : Sm b) (ha : 0 ≤ hi a) (hb : 0 ≤ hi b) (hfit : hi a + hi b < 33) : Mv E l yX4_multiplyBy wsX4_multiplyBy { frames := 1, cells := 0, slots := 0, locals := 30 } [.ref h, .ref h2] [cP h q (hi a), aP E q a, cP h2 q2 (hi b), aP E q2 b] (fun w => w = [cP h q (hi (conv a b)), aP E q (conv a b), cP h2 q2 (hi b), aP E q2 b]) 0 0 := by
  refine enter_v (cc := cX4_multiplyBy) (nL := 6) (by decide) rfl (Nat.le_of_ble_eq_true rfl) (fun G C hret => ?_)
  show G 0 0 [cP h q (hi a), aP E q a, cP h2 q2 (hi b), aP E q2 b] [(0, .ref h), (1, .ref h2)] 0 []
  have hla := hi_lo a
  have hlb := hi_lo b
  refine g_aload_n C dX4_multiplyBy_0 0 rfl ?_
  refine g_callVi (n := 0) (wr := [cP h2 q2 (hi b), aP E q2 b]) C (c_X4_isZero E l h q a) gX4_multiplyBy_X4_isZero rfl (by decide +kernel) rfl (by decide) dX4_multiplyBy_1 rfl (Nat.le_of_ble_eq_true rfl) rfl rfl [0, 1] [2, 3] rfl rfl (by decide) (fun r_1 w_1 h_1 => ?_)
  obtain ⟨rfl, rfl⟩ := h_1
  refine g_eq (ws' := [cP h2 q2 (hi b), aP E q2 b, cP h q (hi a), aP E q a]) rfl rfl rfl ?_
  rw [if_neg (show ¬ hi a < 0 by omega)]
  refine g_if_ne C 14 dX4_multiplyBy_4 (by decide) (by omega) (by omega) (fun c_4 => by exfalso; omega) (fun c_4 => ?_)
  refine g_aload_n C dX4_multiplyBy_7 1 rfl ?_
  refine g_callVi (n := 0) (wr := [cP h q (hi a), aP E q a]) C (c_X4_isZero E l h2 q2 b) gX4_multiplyBy_X4_isZero rfl (by decide +kernel) rfl (by decide) dX4_multiplyBy_8 rfl (Nat.le_of_ble_eq_true rfl) rfl rfl [0, 1] [2, 3] rfl rfl (by decide) (fun r_8 w_8 h_8 => ?_)
  obtain ⟨rfl, rfl⟩ := h_8
  refine g_eq (ws' := [cP h q (hi a), aP E q a, cP h2 q2 (hi b), aP E q2 b]) rfl rfl rfl ?_
  rw [if_neg (show ¬ hi b < 0 by omega)]
  refine g_if_eq C 21 dX4_multiplyBy_11 (by decide) (by omega) (by omega) (fun c_11 => ?_) (fun c_11 => by exfalso; omega)
  refine g_aload_n C dX4_multiplyBy_21 0 rfl ?_
  refine g_get C 0 rfl rfl 1 (by decide) in_X4_multiplyBy_X4 lk_X4_multiplyBy_highest rfl dX4_multiplyBy_22 ?_
  refine g_aload_n C dX4_multiplyBy_25 1 rfl ?_
  refine g_get C 2 rfl rfl 1 (by decide) in_X4_multiplyBy_X4 lk_X4_multiplyBy_highest rfl dX4_multiplyBy_26 ?_
  refine g_iadd C dX4_multiplyBy_29 ?_
  refine g_istore_n C [(2, .int (zI ((hi a) + (hi b)))), (0, .ref h), (1, .ref h2)] dX4_multiplyBy_30 (by decide) rfl ?_
  refine g_iload_n C dX4_multiplyBy_31 0 rfl ?_
  refine g_aload_n C dX4_multiplyBy_32 1 rfl ?_
  refine g_get C 0 rfl rfl 0 (by decide) in_X4_multiplyBy_X4 lk_X4_multiplyBy_numbers rfl dX4_multiplyBy_33 ?_
  refine g_alen C 1 rfl dX4_multiplyBy_36 ?_
  refine g_iconst C dX4_multiplyBy_37 ?_
  refine g_isub C dX4_multiplyBy_38 ?_
  refine g_mmin C lk_X4_multiplyBy_mn dX4_multiplyBy_39 (by omega) (by omega) (by omega) (by omega) (by decide) (Nat.le_of_ble_eq_true rfl) ?_
  refine g_istore_n C [(3, .int (zI (min ((hi a) + (hi b)) (((33 : Nat) : Int) - 1)))), (2, .int (zI ((hi a) + (hi b)))), (0, .ref h), (1, .ref h2)] dX4_multiplyBy_42 (by decide) rfl ?_
  have lp_o : ∀ (n_o : Nat) (x : Int) (n : Nat) (c : Po), (x = (n : Int) - 1) → ((n : Int) ≤ hi a + hi b + 1) → (∀ j : Nat, n ≤ j → c j = conv a b j) → (∀ j : Nat, j < n → c j = a j) → (Sm c) → n < n_o → G 0 0 [cP h q (hi a), aP E q c, cP h2 q2 (hi b), aP E q2 b] [(3, .int (zI x)), (2, .int (zI (hi a + hi b))), (0, .ref h), (1, .ref h2)] 43 [] := by
    intro n_o
    induction n_o with
    | zero =>
      intro x n c hx hn hc hc2 hSc hm_o
      exact absurd hm_o (by omega)
    | succ n_o ih_o =>
      intro x n c hx hn hc hc2 hSc hm_o
      refine g_iload_n C dX4_multiplyBy_43 0 rfl ?_
      refine g_if_lt C 112 dX4_multiplyBy_44 (by decide) (by omega) (by omega) (fun c_44 => ?_) (fun c_44 => ?_)
      · have e1 : c = conv a b := funext fun j => hc j (by omega)
        subst e1
        refine g_aload_n C dX4_multiplyBy_112 2 rfl ?_
        refine g_iload_n C dX4_multiplyBy_113 1 rfl ?_
        refine g_callV (n := 1) (wr := [cP h2 q2 (hi b), aP E q2 b]) C (c_X4_settle E l h q (conv a b) (hi a) (hi a + hi b) (fun j hj => conv_hi (x := hi a) (y := hi b) (fun _ g => hi_zero hSa g) (fun _ g => hi_zero hSb g) (by omega)) (by omega) (by omega) (fun j hj => conv_hi (x := hi a) (y := hi b) (fun _ g => hi_zero hSa g) (fun _ g => hi_zero hSb g) (by omega))) gX4_multiplyBy_X4_settle rfl (by decide +kernel) rfl (by decide) dX4_multiplyBy_114 rfl (Nat.le_of_ble_eq_true rfl) rfl rfl [0, 1] [2, 3] rfl rfl (by decide) (fun w_114 h_114 => ?_)
        obtain rfl := h_114
        refine g_eq (ws' := [cP h2 q2 (hi b), aP E q2 b, cP h q (hi (conv a b)), aP E q (conv a b)]) rfl rfl rfl ?_
        refine g_wsub C [2, 3, 0, 1] (by decide) rfl rfl ?_
        exact hret _ _ _ _ _ dX4_multiplyBy_117 (by decide) (by decide) rfl
      · obtain ⟨p, rfl⟩ : ∃ p, n = p + 1 := ⟨n - 1, by omega⟩
        refine g_iconst C dX4_multiplyBy_47 ?_
        refine g_istore C [(4, .int (zI 0)), (3, .int (zI x)), (2, .int (zI (hi a + hi b))), (0, .ref h), (1, .ref h2)] dX4_multiplyBy_48 (by decide) rfl ?_
        refine g_iconst C dX4_multiplyBy_50 ?_
        refine g_istore C [(5, .int (zI 0)), (4, .int (zI 0)), (3, .int (zI x)), (2, .int (zI (hi a + hi b))), (0, .ref h), (1, .ref h2)] dX4_multiplyBy_51 (by decide) rfl ?_
        have lp_i : ∀ (n_i : Nat) (y : Int) (i : Nat) (t : Fq), (y = (i : Int)) → (i ≤ p + 1) → ((i : Int) ≤ hi b + 1) → (t = sm (fun i => a (p - i) * b i) i) → p + 1 - i < n_i → G 0 0 [cP h q (hi a), aP E q c, cP h2 q2 (hi b), aP E q2 b] [(5, .int (zI y)), (4, .int (zI (t.val : Int))), (3, .int (zI x)), (2, .int (zI (hi a + hi b))), (0, .ref h), (1, .ref h2)] 53 [] := by
          intro n_i
          induction n_i with
          | zero =>
            intro y i t hy hi1 hi2 ht hm_i
            exact absurd hm_i (by omega)
          | succ n_i ih_i =>
            intro y i t hy hi1 hi2 ht hm_i
            refine g_iload C dX4_multiplyBy_53 0 rfl ?_
            refine g_aload_n C dX4_multiplyBy_55 5 rfl ?_
            refine g_get C 2 rfl rfl 1 (by decide) in_X4_multiplyBy_X4 lk_X4_multiplyBy_highest rfl dX4_multiplyBy_56 ?_
            refine g_icmp_gt C 98 dX4_multiplyBy_59 (by decide) (by omega) (by omega) (by omega) (by omega) (fun c_59 => ?_) (fun c_59 => ?_)
            · have et : t = conv a b p := by rw [ht]; exact (sm_more hi1 (fun i9 h9 _ => by rw [hi_zero hSb (by omega)]; grind)).symm
              refine g_aload_n C dX4_multiplyBy_98 4 rfl ?_
              refine g_get C 0 rfl rfl 0 (by decide) in_X4_multiplyBy_X4 lk_X4_multiplyBy_numbers rfl dX4_multiplyBy_99 ?_
              refine g_iload_n C dX4_multiplyBy_102 2 rfl ?_
              refine g_iload C dX4_multiplyBy_103 1 rfl ?_
              refine g_iast C [cP h q (hi a), aP E q (cset c p t), cP h2 q2 (hi b), aP E q2 b] 1 p t rfl (by omega) (by omega) (by decide) (rfl) dX4_multiplyBy_105 rfl ?_
              refine g_iinc C [(3, .int (zI (x + (-1)))), (5, .int (zI y)), (4, .int (zI (t.val : Int))), (2, .int (zI (hi a + hi b))), (0, .ref h), (1, .ref h2)] dX4_multiplyBy_106 2 rfl (by decide) rfl ?_
              refine g_goto C 43 dX4_multiplyBy_109 (by decide) ?_
              refine g_lsub C [0, 3, 4, 5] rfl ?_
              exact ih_o (x + -1) p (cset c p t) (by omega) (by omega) (fun j hj => by unfold cset; split; (rename_i e; rw [e, et]); exact hc j (by omega)) (fun j hj => by rw [cset_ne (by omega)]; exact hc2 j (by omega)) (Sm_set hSc (by omega) t) (by omega)
            · refine g_iload C dX4_multiplyBy_62 0 rfl ?_
              refine g_iload_n C dX4_multiplyBy_64 2 rfl ?_
              refine g_icmp_gt C 98 dX4_multiplyBy_65 (by decide) (by omega) (by omega) (by omega) (by omega) (fun c_65 => ?_) (fun c_65 => ?_)
              · have et : t = conv a b p := by rw [ht, show i = p + 1 by omega]; rfl
                refine g_aload_n C dX4_multiplyBy_98 4 rfl ?_
                refine g_get C 0 rfl rfl 0 (by decide) in_X4_multiplyBy_X4 lk_X4_multiplyBy_numbers rfl dX4_multiplyBy_99 ?_
                refine g_iload_n C dX4_multiplyBy_102 2 rfl ?_
                refine g_iload C dX4_multiplyBy_103 1 rfl ?_
                refine g_iast C [cP h q (hi a), aP E q (cset c p t), cP h2 q2 (hi b), aP E q2 b] 1 p t rfl (by omega) (by omega) (by decide) (rfl) dX4_multiplyBy_105 rfl ?_
                refine g_iinc C [(3, .int (zI (x + (-1)))), (5, .int (zI y)), (4, .int (zI (t.val : Int))), (2, .int (zI (hi a + hi b))), (0, .ref h), (1, .ref h2)] dX4_multiplyBy_106 2 rfl (by decide) rfl ?_
                refine g_goto C 43 dX4_multiplyBy_109 (by decide) ?_
                refine g_lsub C [0, 3, 4, 5] rfl ?_
                exact ih_o (x + -1) p (cset c p t) (by omega) (by omega) (fun j hj => by unfold cset; split; (rename_i e; rw [e, et]); exact hc j (by omega)) (fun j hj => by rw [cset_ne (by omega)]; exact hc2 j (by omega)) (Sm_set hSc (by omega) t) (by omega)
              · refine g_iload C dX4_multiplyBy_68 1 rfl ?_
                refine g_aload_n C dX4_multiplyBy_70 4 rfl ?_
                refine g_iload_n C dX4_multiplyBy_71 2 rfl ?_
                refine g_iload C dX4_multiplyBy_72 0 rfl ?_
                refine g_isub C dX4_multiplyBy_74 ?_
                refine g_callVi (n := 1) (wr := [cP h2 q2 (hi b), aP E q2 b]) C (c_X4_numberG E l h q c (hi a) (x - y) hSc (by omega) (by omega)) gX4_multiplyBy_X4_number rfl (by decide +kernel) rfl (by decide) dX4_multiplyBy_75 rfl (Nat.le_of_ble_eq_true rfl) rfl rfl [0, 1] [2, 3] rfl rfl (by decide) (fun r_75 w_75 h_75 => ?_)
                obtain ⟨rfl, rfl⟩ := h_75
                refine g_eq (ws' := [cP h2 q2 (hi b), aP E q2 b, cP h q (hi a), aP E q c]) rfl rfl rfl ?_
                refine g_aload_n C dX4_multiplyBy_78 5 rfl ?_
                refine g_iload C dX4_multiplyBy_79 0 rfl ?_
                refine g_callVi (n := 1) (wr := [cP h q (hi a), aP E q c]) C (c_X4_number E l h2 q2 b y hSb (by omega) (by omega)) gX4_multiplyBy_X4_number rfl (by decide +kernel) rfl (by decide) dX4_multiplyBy_81 rfl (Nat.le_of_ble_eq_true rfl) rfl rfl [0, 1] [2, 3] rfl rfl (by decide) (fun r_81 w_81 h_81 => ?_)
                obtain ⟨rfl, rfl⟩ := h_81
                refine g_eq (ws' := [cP h q (hi a), aP E q c, cP h2 q2 (hi b), aP E q2 b]) rfl rfl rfl ?_
                refine g_imul C dX4_multiplyBy_84 ?_
                refine g_iadd C dX4_multiplyBy_85 ?_
                refine g_sipush C dX4_multiplyBy_86 rfl ?_
                refine g_mod C dX4_multiplyBy_89 (by have := fq_mulb (nm c (x - y)) (nm b y); have := t.isLt; omega) (by have := fq_mulb (nm c (x - y)) (nm b y); have := t.isLt; omega) ?_
                refine g_top (zI ((t + nm c (x - y) * nm b y).val : Int)) (congrArg (fun u : Fq => zI (u.val : Int)) (by simp only [cF_add, cF_mul, cF_of])) ?_
                refine g_istore C [(4, .int (zI ((t + nm c (x - y) * nm b y).val : Int))), (5, .int (zI y)), (3, .int (zI x)), (2, .int (zI (hi a + hi b))), (0, .ref h), (1, .ref h2)] dX4_multiplyBy_90 (by decide) rfl ?_
                refine g_iinc C [(5, .int (zI (y + 1))), (4, .int (zI ((t + nm c (x - y) * nm b y).val : Int))), (3, .int (zI x)), (2, .int (zI (hi a + hi b))), (0, .ref h), (1, .ref h2)] dX4_multiplyBy_92 1 rfl (by decide) rfl ?_
                refine g_goto C 53 dX4_multiplyBy_95 (by decide) ?_
                exact ih_i (y + 1) (i + 1) (t + nm c (x - y) * nm b y) (by omega) (by omega) (by omega) (by rw [ht, hy, nm_nat, show x - (i : Int) = ((p - i : Nat) : Int) by omega, nm_nat, hc2 _ (by omega)]; rfl) (by omega)
        exact lp_i (p + 2) 0 0 0 rfl (by omega) (by omega) rfl (by omega)
  exact lp_o 40 (min ((hi a) + (hi b)) (((33 : Nat) : Int) - 1)) (hi a + hi b + 1).toNat a (by omega) (by omega) (fun j hj => by rw [hi_zero hSa (by omega), conv_hi (x := hi a) (y := hi b) (fun _ g => hi_zero hSa g) (fun _ g => hi_zero hSb g) (by omega)]) (fun j _ => rfl) hSa (by omega)
theorem in_X4_moveBy_X4 : ∀ w ∈ u_ws RX4 TX4 2, w ∈ wsX4_moveBy := by decide +kernel
theorem lk_X4_moveBy_highest : Cond.fieldLink yX4_moveBy.cls 15 (TX4 1).1 (TX4 1).2.1 (TX4 1).2.2.1 ∈ wsX4_moveBy := by decide +kernel
theorem lk_X4_moveBy_numbers : Cond.fieldLink yX4_moveBy.cls 11 (TX4 0).1 (TX4 0).2.1 (TX4 0).2.2.1 ∈ wsX4_moveBy := by decide +kernel
theorem lk_X4_moveBy_mn : Cond.methodLink yX4_moveBy.cls 37 Lib.Math.min.name ∈ wsX4_moveBy ∧ Cond.static Lib.Math.min.name ∈ wsX4_moveBy ∧ Cond.initialized "java/lang/Math" ∈ wsX4_moveBy ∧ Cond.code Lib.Math.min.name Lib.Math.min.code 2 (some .int) ∈ wsX4_moveBy := by decide +kernel
set_option maxHeartbeats 4000000 in
set_option maxRecDepth 100000 in
theorem c_X4_moveBy (E : ev) (l : Launch) (h q : Nat) (a : Po) (d : Fq) (hS : Sm a) : Mv E l yX4_moveBy wsX4_moveBy { frames := 1, cells := 0, slots := 0, locals := 30 } [.ref h, .int (zI (d.val : Int))] [cP h q (hi a), aP E q a] (fun w => w = [cP h q (hi (mvp a d)), aP E q (mvp a d)]) 0 0 := by
  refine enter_v (cc := cX4_moveBy) (nL := 4) (by decide) rfl (Nat.le_of_ble_eq_true rfl) (fun G C hret => ?_)
  show G 0 0 [cP h q (hi a), aP E q a] [(0, .ref h), (1, .int (zI (d.val : Int)))] 0 []
  have hlo := hi_lo a
  refine g_iconst C dX4_moveBy_0 ?_
  refine g_istore_n C [(2, .int (zI 0)), (0, .ref h), (1, .int (zI (d.val : Int)))] dX4_moveBy_1 (by decide) rfl ?_
  have lp_o : ∀ (n_o : Nat) (x : Int) (s : Nat) (c : Po), (x = (s : Int)) → (s ≤ (hi a).toNat) → (mo d (hi a).toNat s ((hi a).toNat - s) c = mvp a d) → (∀ j : Nat, (hi a).toNat ≤ j → c j = a j) → (hi a).toNat - s < n_o → G 0 0 [cP h q (hi a), aP E q c] [(2, .int (zI x)), (0, .ref h), (1, .int (zI (d.val : Int)))] 2 [] := by
    intro n_o
    induction n_o with
    | zero =>
      intro x s c hx hs hm hk hm_o
      exact absurd hm_o (by omega)
    | succ n_o ih_o =>
      intro x s c hx hs hm hk hm_o
      refine g_iload_n C dX4_moveBy_2 0 rfl ?_
      refine g_aload_n C dX4_moveBy_3 1 rfl ?_
      refine g_get C 0 rfl rfl 1 (by decide) in_X4_moveBy_X4 lk_X4_moveBy_highest rfl dX4_moveBy_4 ?_
      refine g_icmp_ge C 70 dX4_moveBy_7 (by decide) (by omega) (by omega) (by omega) (by omega) (fun c_7 => ?_) (fun c_7 => ?_)
      · have e1 : c = mvp a d := by rw [← hm, show (hi a).toNat - s = 0 by omega]; rfl
        subst e1
        exact hret _ _ _ _ _ dX4_moveBy_70 (by decide) (by decide) (by rw [mvp_hi hS])
      · obtain ⟨m, hm2⟩ : ∃ m, (hi a).toNat - s = m + 1 := ⟨(hi a).toNat - s - 1, by omega⟩
        have hm4 : mo d (hi a).toNat (s + 1) m (mi d s ((hi a).toNat - s) c) = mvp a d := by have h9 := hm; rw [hm2] at h9; exact h9
        refine g_aload_n C dX4_moveBy_10 1 rfl ?_
        refine g_get C 0 rfl rfl 1 (by decide) in_X4_moveBy_X4 lk_X4_moveBy_highest rfl dX4_moveBy_11 ?_
        refine g_aload_n C dX4_moveBy_14 1 rfl ?_
        refine g_get C 0 rfl rfl 0 (by decide) in_X4_moveBy_X4 lk_X4_moveBy_numbers rfl dX4_moveBy_15 ?_
        refine g_alen C 1 rfl dX4_moveBy_18 ?_
        refine g_iconst C dX4_moveBy_19 ?_
        refine g_isub C dX4_moveBy_20 ?_
        refine g_mmin C lk_X4_moveBy_mn dX4_moveBy_21 (by omega) (by omega) (by omega) (by omega) (by decide) (Nat.le_of_ble_eq_true rfl) ?_
        refine g_iconst C dX4_moveBy_24 ?_
        refine g_isub C dX4_moveBy_25 ?_
        refine g_istore_n C [(3, .int (zI ((min (hi a) (((33 : Nat) : Int) - 1)) - 1))), (2, .int (zI x)), (0, .ref h), (1, .int (zI (d.val : Int)))] dX4_moveBy_26 (by decide) rfl ?_
        have lp_i : ∀ (n_i : Nat) (y : Int) (n : Nat) (c2 : Po), (y = (s : Int) + (n : Int) - 1) → (s + n ≤ (hi a).toNat) → (mo d (hi a).toNat (s + 1) m (mi d s n c2) = mvp a d) → (∀ j : Nat, (hi a).toNat ≤ j → c2 j = a j) → n < n_i → G 0 0 [cP h q (hi a), aP E q c2] [(3, .int (zI y)), (2, .int (zI x)), (0, .ref h), (1, .int (zI (d.val : Int)))] 27 [] := by
          intro n_i
          induction n_i with
          | zero =>
            intro y n c2 hy hn hm3 hk2 hm_i
            exact absurd hm_i (by omega)
          | succ n_i ih_i =>
            intro y n c2 hy hn hm3 hk2 hm_i
            refine g_iload_n C dX4_moveBy_27 0 rfl ?_
            refine g_iload_n C dX4_moveBy_28 1 rfl ?_
            refine g_icmp_lt C 64 dX4_moveBy_29 (by decide) (by omega) (by omega) (by omega) (by omega) (fun c_29 => ?_) (fun c_29 => ?_)
            · refine g_iinc C [(2, .int (zI (x + 1))), (3, .int (zI y)), (0, .ref h), (1, .int (zI (d.val : Int)))] dX4_moveBy_64 1 rfl (by decide) rfl ?_
              refine g_goto C 2 dX4_moveBy_67 (by decide) ?_
              refine g_lsub C [0, 2, 3] rfl ?_
              exact ih_o (x + 1) (s + 1) c2 (by omega) (by omega) (by rw [← hm3, show n = 0 by omega, show (hi a).toNat - (s + 1) = m by omega]; rfl) hk2 (by omega)
            · obtain ⟨n2, rfl⟩ : ∃ n2, n = n2 + 1 := ⟨n - 1, by omega⟩
              refine g_aload_n C dX4_moveBy_32 2 rfl ?_
              refine g_get C 0 rfl rfl 0 (by decide) in_X4_moveBy_X4 lk_X4_moveBy_numbers rfl dX4_moveBy_33 ?_
              refine g_iload_n C dX4_moveBy_36 0 rfl ?_
              refine g_aload_n C dX4_moveBy_37 2 rfl ?_
              refine g_get C 0 rfl rfl 0 (by decide) in_X4_moveBy_X4 lk_X4_moveBy_numbers rfl dX4_moveBy_38 ?_
              refine g_iload_n C dX4_moveBy_41 0 rfl ?_
              refine g_iald C 1 (s + n2) rfl (by omega) (by omega) (by decide) dX4_moveBy_42 ?_
              refine g_iload_n C dX4_moveBy_43 3 rfl ?_
              refine g_aload_n C dX4_moveBy_44 2 rfl ?_
              refine g_iload_n C dX4_moveBy_45 0 rfl ?_
              refine g_iconst C dX4_moveBy_46 ?_
              refine g_iadd C dX4_moveBy_47 ?_
              refine g_callVi (n := 1) (wr := []) C (c_X4_numberG E l h q c2 (hi a) (y + 1) (fun j hj => by rw [hk2 j (by omega)]; exact hS j hj) (by omega) (by omega)) gX4_moveBy_X4_number rfl (by decide +kernel) rfl (by decide) dX4_moveBy_48 rfl (Nat.le_of_ble_eq_true rfl) rfl rfl [0, 1] [] rfl rfl (by decide) (fun r_48 w_48 h_48 => ?_)
              obtain ⟨rfl, rfl⟩ := h_48
              refine g_eq (ws' := [cP h q (hi a), aP E q c2]) rfl rfl rfl ?_
              refine g_imul C dX4_moveBy_51 ?_
              refine g_iadd C dX4_moveBy_52 ?_
              refine g_sipush C dX4_moveBy_53 rfl ?_
              refine g_mod C dX4_moveBy_56 (by have := fq_mulb d (nm c2 (y + 1)); have := (c2 (s + n2)).isLt; omega) (by have := fq_mulb d (nm c2 (y + 1)); have := (c2 (s + n2)).isLt; omega) ?_
              refine g_top (zI ((c2 (s + n2) + d * nm c2 (y + 1)).val : Int)) (congrArg (fun u : Fq => zI (u.val : Int)) (by simp only [cF_add, cF_mul, cF_of])) ?_
              refine g_iast C [cP h q (hi a), aP E q (cset c2 (s + n2) (c2 (s + n2) + d * nm c2 (y + 1)))] 1 (s + n2) (c2 (s + n2) + d * nm c2 (y + 1)) rfl (by omega) (by omega) (by decide) (rfl) dX4_moveBy_57 rfl ?_
              refine g_iinc C [(3, .int (zI (y + (-1)))), (2, .int (zI x)), (0, .ref h), (1, .int (zI (d.val : Int)))] dX4_moveBy_58 0 rfl (by decide) rfl ?_
              refine g_goto C 27 dX4_moveBy_61 (by decide) ?_
              exact ih_i (y + -1) n2 (cset c2 (s + n2) (c2 (s + n2) + d * nm c2 (y + 1))) (by omega) (by omega) (by rw [← hm3, show nm c2 (y + 1) = c2 (s + n2 + 1) by rw [show y + 1 = ((s + n2 + 1 : Nat) : Int) by omega, nm_nat]]; rfl) (fun j hj => by rw [cset_ne (by omega)]; exact hk2 j hj) (by omega)
        exact lp_i 40 ((min (hi a) (((33 : Nat) : Int) - 1)) - 1) ((hi a).toNat - s) c (by omega) (by omega) hm4 hk (by omega)
  exact lp_o 40 0 0 a rfl (by omega) rfl (fun j _ => rfl) (by omega)
theorem in_X4_divideBy_X4 : ∀ w ∈ u_ws RX4 TX4 2, w ∈ wsX4_divideBy := by decide +kernel
theorem lk_X4_divideBy_highest : Cond.fieldLink yX4_divideBy.cls 15 (TX4 1).1 (TX4 1).2.1 (TX4 1).2.2.1 ∈ wsX4_divideBy := by decide +kernel
set_option maxHeartbeats 4000000 in
set_option maxRecDepth 100000 in
theorem c_X4_divideBy (E : ev) (l : Launch) (h q h2 q2 h3 q3 : Nat) (a b g0 : Po) (hSa : Sm a) (hSb : Sm b) (hSg0 : Sm g0) (hb : 0 ≤ hi b) : Mv E l yX4_divideBy wsX4_divideBy { frames := 2, cells := 0, slots := 0, locals := 60 } [.ref h, .ref h2, .ref h3] [cP h q (hi a), aP E q a, cP h2 q2 (hi b), aP E q2 b, cP h3 q3 (hi g0), aP E q3 g0] (fun w => w = [cP h q (hi (rem a b)), aP E q (rem a b), cP h2 q2 (hi b), aP E q2 b, cP h3 q3 (hi (quo a b)), aP E q3 (quo a b)]) 0 0 := by
  refine enter_v (cc := cX4_divideBy) (nL := 7) (by decide) rfl (Nat.le_of_ble_eq_true rfl) (fun G C hret => ?_)
  show G 0 0 [cP h q (hi a), aP E q a, cP h2 q2 (hi b), aP E q2 b, cP h3 q3 (hi g0), aP E q3 g0] [(0, .ref h), (1, .ref h2), (2, .ref h3)] 0 []
  have hla := hi_lo a
  have hlb := hi_lo b
  refine g_aload_n C dX4_divideBy_0 2 rfl ?_
  refine g_iconst C dX4_divideBy_1 ?_
  refine g_callV (n := 1) (wr := [cP h q (hi a), aP E q a, cP h2 q2 (hi b), aP E q2 b]) C (c_X4_becomeNumber E l h3 q3 g0 0 hSg0) gX4_divideBy_X4_becomeNumber rfl (by decide +kernel) rfl (by decide) dX4_divideBy_2 rfl (Nat.le_of_ble_eq_true rfl) rfl rfl [4, 5] [0, 1, 2, 3] rfl rfl (by decide) (fun w_2 h_2 => ?_)
  obtain rfl := h_2
  refine g_eq (ws' := [cP h q (hi a), aP E q a, cP h2 q2 (hi b), aP E q2 b, cP h3 q3 (hi (con 0)), aP E q3 (con 0)]) rfl rfl rfl ?_
  refine g_aload_n C dX4_divideBy_5 1 rfl ?_
  refine g_callVi (n := 0) (wr := [cP h q (hi a), aP E q a, cP h3 q3 (hi (con 0)), aP E q3 (con 0)]) C (c_X4_isZero E l h2 q2 b) gX4_divideBy_X4_isZero rfl (by decide +kernel) rfl (by decide) dX4_divideBy_6 rfl (Nat.le_of_ble_eq_true rfl) rfl rfl [2, 3] [0, 1, 4, 5] rfl rfl (by decide) (fun r_6 w_6 h_6 => ?_)
  obtain ⟨rfl, rfl⟩ := h_6
  refine g_eq (ws' := [cP h q (hi a), aP E q a, cP h3 q3 (hi (con 0)), aP E q3 (con 0), cP h2 q2 (hi b), aP E q2 b]) rfl rfl rfl ?_
  rw [if_neg (show ¬ hi b < 0 by omega)]
  refine g_if_eq C 13 dX4_divideBy_9 (by decide) (by omega) (by omega) (fun c_9 => ?_) (fun c_9 => by exfalso; omega)
  refine g_aload_n C dX4_divideBy_13 1 rfl ?_
  refine g_callVi (n := 0) (wr := [cP h q (hi a), aP E q a, cP h3 q3 (hi (con 0)), aP E q3 (con 0)]) C (c_X4_leading E l h2 q2 b hSb) gX4_divideBy_X4_leading rfl (by decide +kernel) rfl (by decide) dX4_divideBy_14 rfl (Nat.le_of_ble_eq_true rfl) rfl rfl [4, 5] [0, 1, 2, 3] rfl rfl (by decide) (fun r_14 w_14 h_14 => ?_)
  obtain ⟨rfl, rfl⟩ := h_14
  refine g_eq (ws' := [cP h q (hi a), aP E q a, cP h3 q3 (hi (con 0)), aP E q3 (con 0), cP h2 q2 (hi b), aP E q2 b]) rfl rfl rfl ?_
  refine g_callSNi (n := 1) C (c_X7_inverse E l (nm b (hi b))) (by decide +kernel) gX4_divideBy_X7_inverse_n47 (by decide +kernel) rfl (by decide +kernel) rfl (by decide) dX4_divideBy_17 rfl (Nat.le_of_ble_eq_true rfl) (fun r_17 h_17 => ?_)
  obtain ⟨_, rfl, -⟩ := h_17
  refine g_istore_n C [(3, .int (zI ((ivq (nm b (hi b))).val : Int))), (0, .ref h), (1, .ref h2), (2, .ref h3)] dX4_divideBy_20 (by decide) rfl ?_
  refine g_aload_n C dX4_divideBy_21 1 rfl ?_
  refine g_get C 0 rfl rfl 1 (by decide) in_X4_divideBy_X4 lk_X4_divideBy_highest rfl dX4_divideBy_22 ?_
  refine g_istore C [(4, .int (zI (hi a))), (3, .int (zI ((ivq (nm b (hi b))).val : Int))), (0, .ref h), (1, .ref h2), (2, .ref h3)] dX4_divideBy_25 (by decide) rfl ?_
  have lp_o : ∀ (n_o : Nat) (x : Int) (n : Nat) (c : Po) (g : Po), (x = hi b + (n : Int) - 1 ∨ (n = 0 ∧ x < hi b)) → (-1 ≤ x ∧ x < 33) → (dv b (ivq (nm b (hi b))) (hi b).toNat n c g = dvs a b) → (Sm c) → (Sm g) → (∀ j : Nat, j < n → g j = 0) → n < n_o → G 0 0 [cP h q (hi c), aP E q c, cP h2 q2 (hi b), aP E q2 b, cP h3 q3 (hi g), aP E q3 g] [(4, .int (zI x)), (3, .int (zI ((ivq (nm b (hi b))).val : Int))), (0, .ref h), (1, .ref h2), (2, .ref h3)] 27 [] := by
    intro n_o
    induction n_o with
    | zero =>
      intro x n c g hx hx2 hd hSc hSg hg hm_o
      exact absurd hm_o (by omega)
    | succ n_o ih_o =>
      intro x n c g hx hx2 hd hSc hSg hg hm_o
      refine g_iload C dX4_divideBy_27 0 rfl ?_
      refine g_aload_n C dX4_divideBy_29 3 rfl ?_
      refine g_get C 2 rfl rfl 1 (by decide) in_X4_divideBy_X4 lk_X4_divideBy_highest rfl dX4_divideBy_30 ?_
      refine g_icmp_lt C 90 dX4_divideBy_33 (by decide) (by omega) (by omega) (by omega) (by omega) (fun c_33 => ?_) (fun c_33 => ?_)
      · have e1 : (c, g) = dvs a b := by rw [← hd, show n = 0 by omega]; rfl
        have e2 : c = rem a b := congrArg Prod.fst e1
        have e3 : g = quo a b := congrArg Prod.snd e1
        exact hret _ _ _ _ _ dX4_divideBy_90 (by decide) (by decide) (by rw [e2, e3])
      · obtain ⟨n2, rfl⟩ : ∃ n2, n = n2 + 1 := ⟨n - 1, by omega⟩
        have enm : nm c x = c ((hi b).toNat + n2) := by rw [show x = (((hi b).toNat + n2 : Nat) : Int) by omega, nm_nat]
        refine g_aload_n C dX4_divideBy_36 2 rfl ?_
        refine g_iload C dX4_divideBy_37 0 rfl ?_
        refine g_callVi (n := 1) (wr := [cP h2 q2 (hi b), aP E q2 b, cP h3 q3 (hi g), aP E q3 g]) C (c_X4_number E l h q c x hSc (by omega) (by omega)) gX4_divideBy_X4_number rfl (by decide +kernel) rfl (by decide) dX4_divideBy_39 rfl (Nat.le_of_ble_eq_true rfl) rfl rfl [0, 1] [2, 3, 4, 5] rfl rfl (by decide) (fun r_39 w_39 h_39 => ?_)
        obtain ⟨rfl, rfl⟩ := h_39
        refine g_eq (ws' := [cP h2 q2 (hi b), aP E q2 b, cP h3 q3 (hi g), aP E q3 g, cP h q (hi c), aP E q c]) rfl rfl rfl ?_
        refine g_iload_n C dX4_divideBy_42 1 rfl ?_
        refine g_imul C dX4_divideBy_43 ?_
        refine g_sipush C dX4_divideBy_44 rfl ?_
        refine g_mod C dX4_divideBy_47 (by have := fq_mulb (nm c x) (ivq (nm b (hi b))); omega) (by have := fq_mulb (nm c x) (ivq (nm b (hi b))); omega) ?_
        refine g_top (zI ((nm c x * ivq (nm b (hi b))).val : Int)) (congrArg (fun u : Fq => zI (u.val : Int)) (by simp only [cF_mul, cF_of])) ?_
        refine g_istore C [(5, .int (zI ((nm c x * ivq (nm b (hi b))).val : Int))), (4, .int (zI x)), (3, .int (zI ((ivq (nm b (hi b))).val : Int))), (0, .ref h), (1, .ref h2), (2, .ref h3)] dX4_divideBy_48 (by decide) rfl ?_
        refine g_iload C dX4_divideBy_50 0 rfl ?_
        refine g_if_eq C 84 dX4_divideBy_52 (by decide) (by omega) (by omega) (fun c_52 => ?_) (fun c_52 => ?_)
        · have ez : c ((hi b).toNat + n2) * ivq (nm b (hi b)) = 0 := by rw [← enm]; exact fq0 c_52
          refine g_iinc C [(4, .int (zI (x + (-1)))), (5, .int (zI ((nm c x * ivq (nm b (hi b))).val : Int))), (3, .int (zI ((ivq (nm b (hi b))).val : Int))), (0, .ref h), (1, .ref h2), (2, .ref h3)] dX4_divideBy_84 1 rfl (by decide) rfl ?_
          refine g_goto C 27 dX4_divideBy_87 (by decide) ?_
          refine g_lsub C [0, 2, 3, 4, 5] rfl ?_
          refine g_wsub C [4, 5, 0, 1, 2, 3] (by decide) rfl rfl ?_
          exact ih_o (x + -1) n2 c g (by omega) (by omega) (by rw [← hd]; show _ = dv b _ (hi b).toNat n2 _ _; rw [ez, am_0, cset_0 (hg n2 (by omega))]) hSc hSg (fun j hj => hg j (by omega)) (by omega)
        · refine g_iload C dX4_divideBy_55 1 rfl ?_
          refine g_aload_n C dX4_divideBy_57 4 rfl ?_
          refine g_get C 0 rfl rfl 1 (by decide) in_X4_divideBy_X4 lk_X4_divideBy_highest rfl dX4_divideBy_58 ?_
          refine g_isub C dX4_divideBy_61 ?_
          refine g_top (zI (n2 : Int)) (congrArg zI (by omega)) ?_
          refine g_istore C [(6, .int (zI (n2 : Int))), (5, .int (zI ((nm c x * ivq (nm b (hi b))).val : Int))), (4, .int (zI x)), (3, .int (zI ((ivq (nm b (hi b))).val : Int))), (0, .ref h), (1, .ref h2), (2, .ref h3)] dX4_divideBy_62 (by decide) rfl ?_
          refine g_aload_n C dX4_divideBy_64 6 rfl ?_
          refine g_iload C dX4_divideBy_65 0 rfl ?_
          refine g_iload C dX4_divideBy_67 1 rfl ?_
          refine g_callV (n := 2) (wr := [cP h2 q2 (hi b), aP E q2 b, cP h q (hi c), aP E q c]) C (c_X4_setNumber E l h3 q3 g n2 (nm c x * ivq (nm b (hi b))) hSg (by omega)) gX4_divideBy_X4_setNumber rfl (by decide +kernel) rfl (by decide) dX4_divideBy_69 rfl (Nat.le_of_ble_eq_true rfl) rfl rfl [2, 3] [0, 1, 4, 5] rfl rfl (by decide) (fun w_69 h_69 => ?_)
          obtain rfl := h_69
          refine g_eq (ws' := [cP h2 q2 (hi b), aP E q2 b, cP h q (hi c), aP E q c, cP h3 q3 (hi (cset g n2 (nm c x * ivq (nm b (hi b))))), aP E q3 (cset g n2 (nm c x * ivq (nm b (hi b))))]) rfl rfl rfl ?_
          refine g_aload_n C dX4_divideBy_72 4 rfl ?_
          refine g_iload C dX4_divideBy_73 1 rfl ?_
          refine g_callSNi (n := 1) C (c_X7_negative E l (nm c x * ivq (nm b (hi b)))) (by decide +kernel) gX4_divideBy_X7_negative_n54 (by decide +kernel) rfl (by decide +kernel) rfl (by decide) dX4_divideBy_75 rfl (Nat.le_of_ble_eq_true rfl) (fun r_75 h_75 => ?_)
          obtain ⟨_, rfl, -⟩ := h_75
          refine g_aload_n C dX4_divideBy_78 5 rfl ?_
          refine g_iload C dX4_divideBy_79 0 rfl ?_
          refine g_callV (n := 3) (wr := [cP h3 q3 (hi (cset g n2 (nm c x * ivq (nm b (hi b))))), aP E q3 (cset g n2 (nm c x * ivq (nm b (hi b))))]) C (c_X4_addMultiple E l h q h2 q2 c b (-(nm c x * ivq (nm b (hi b)))) n2 hSc hSb (by omega)) gX4_divideBy_X4_addMultiple rfl (by decide +kernel) rfl (by decide) dX4_divideBy_81 rfl (Nat.le_of_ble_eq_true rfl) rfl rfl [2, 3, 0, 1] [4, 5] rfl rfl (by decide) (fun w_81 h_81 => ?_)
          obtain rfl := h_81
          refine g_eq (ws' := [cP h3 q3 (hi (cset g n2 (nm c x * ivq (nm b (hi b))))), aP E q3 (cset g n2 (nm c x * ivq (nm b (hi b)))), cP h q (hi (am c (-(nm c x * ivq (nm b (hi b)))) b n2)), aP E q (am c (-(nm c x * ivq (nm b (hi b)))) b n2), cP h2 q2 (hi b), aP E q2 b]) rfl rfl rfl ?_
          refine g_iinc C [(4, .int (zI (x + (-1)))), (6, .int (zI (n2 : Int))), (5, .int (zI ((nm c x * ivq (nm b (hi b))).val : Int))), (3, .int (zI ((ivq (nm b (hi b))).val : Int))), (0, .ref h), (1, .ref h2), (2, .ref h3)] dX4_divideBy_84 2 rfl (by decide) rfl ?_
          refine g_goto C 27 dX4_divideBy_87 (by decide) ?_
          refine g_lsub C [0, 3, 4, 5, 6] rfl ?_
          refine g_wsub C [2, 3, 4, 5, 0, 1] (by decide) rfl rfl ?_
          exact ih_o (x + -1) n2 (am c (-(nm c x * ivq (nm b (hi b)))) b n2) (cset g n2 (nm c x * ivq (nm b (hi b)))) (by omega) (by omega) (by rw [← hd, enm]; rfl) (am_Sm hSc (fun j hj => hi_zero hSb (by omega))) (Sm_set hSg (by omega) _) (fun j hj => by rw [cset_ne (by omega)]; exact hg j (by omega)) (by omega)
  refine g_wsub C [0, 1, 4, 5, 2, 3] (by decide) rfl rfl ?_
  exact lp_o 40 (hi a) (dvN a b) a (con 0) (by unfold dvN; omega) (by omega) rfl hSa (Sm_con 0) (fun j _ => by unfold con; split <;> rfl) (by unfold dvN; omega)
end
section
/-! objects and arrays made, constructors called -/
def zr : Po := fun _ => 0
theorem zr_con : con 0 = zr := by funext j; unfold con zr; split <;> rfl
theorem hi_zr : hi zr = -1 := hi_eq (by omega) (by omega) (fun g => absurd g (by omega)) (fun _ _ => rfl)
theorem Sm_zr : Sm zr := fun _ _ => rfl
theorem hi_neg {a : Po} (hS : Sm a) (h : hi a < 0) : a = zr := funext fun j => hi_zero hS (by omega)
section GN
variable {G : Gt} {E : ev} {l : Launch} {R : Room} {y : MethodName} {cc : ByteArray} {nL : Nat} {Ts : List Cond} {ce so : Nat} {ws : va_W} {lv : Lv} {pc : Nat} {st : List Value}
theorem g_objInit (C : Ok G E l R y cc nL Ts) {a idx : Nat} (hlk : Cond.methodLink y.cls idx objectInit ∈ Ts ∧ Cond.instanceMethod objectInit ∈ Ts) (hcode : Cond.code objectInit ⟨#[0xb1]⟩ 1 none ∈ Ts) (hd : decode cc pc = .ok (.invokespecial idx, 3)) (hR : 1 ≤ R.frames ∧ 20 ≤ R.locals) (hro : (st.map fun v => v.category).sum ≤ 8) (k : G ce so ws lv (pc + 3) st) : G ce so ws lv pc (.ref a :: st) := by
  obtain ⟨p, e, s, m, args, below, meth, c, A, Q, tl, rfl, hx, hb, hml, hown, hnm, hts, hK, hA⟩ := C
  refine fun H locs ls hP hD hS hl => W.objInit hx hb hown (hts _ hlk.1) (hts _ hlk.2) (hts _ hcode) rfl (by rw [hml]; exact hl.1) rfl hd hR.1 (by show 2 * 0 + _ + 12 ≤ _; omega) (k H locs ls hP hD hS hl)
theorem g_new (C : Ok G E l R y cc nL Ts) {CC : String} {T : u_T} {N ci index : Nat} (fs : List Value) (ty : Nat → FieldType) (hty : ∀ k, k < N → parseFieldDescriptor (T k).2.2.1 = some (ty k)) (hc : vwCl[ci]? = some (CC, T, N)) (hin : ∀ w ∈ u_ws CC T N, w ∈ Ts) (hlk : Cond.classLink y.cls index CC ∈ Ts ∧ Cond.instantiable CC N ∈ Ts ∧ Cond.initialized CC ∈ Ts) (hfs : ∀ j, j < N → defaultValue (ty j) = vp_V fs j) (hro : ce + 1 ≤ R.cells ∧ so + N ≤ R.slots) (hd : decode cc pc = .ok (.new index, 3))
    (kk : ∀ q : Nat, G (ce + 1) (so + N) (ws ++ [(q, .inr (ci, fs))]) lv (pc + 3) (.ref q :: st)) : G ce so ws lv pc st := by
  obtain ⟨p, e, s, m, args, below, meth, c, A, Q, tl, rfl, hx, hb, hml, hown, hnm, hts, hK, hA⟩ := C
  exact fun H locs ls hP hD hS hl => va_new hx hb hts hin ty hty hown (hts _ hlk.1) (hts _ hlk.2.1) (hts _ hlk.2.2) hK.1 hP hD hS hA hc hfs hro.1 hro.2 hd (fun q H1 hP1 hD1 hS1 => kk q H1 locs ls (P_new hP1) (D_new hD1) hS1 hl)
theorem g_newaI (C : Ok G E l R y cc nL Ts) {z : Int} (N : Nat) (f : Nat → Int32) (hf : f = fun _ => 0) (harr : Cond.arrayClass .int ∈ Ts) (hz : z = (N : Int)) (hN : N < 1000000) (hro : ce + 1 ≤ R.cells ∧ so + N ≤ R.slots) (hd : decode cc pc = .ok (.newarray .int, 2))
    (kk : ∀ q : Nat, G (ce + 1) (so + N) (ws ++ [(q, .inl (E.2.2.1, N, .inl f))]) lv (pc + 2) (.ref q :: st)) : G ce so ws lv pc (.int (zI z) :: st) := by
  obtain ⟨p, e, s, m, args, below, meth, c, A, Q, tl, rfl, hx, hb, hml, hown, hnm, hts, hK, hA⟩ := C
  subst hz
  subst hf
  refine fun H locs ls hP hD hS hl => va_newa (atype := .int) (a0 := (N, .inl (fun _ => 0))) (N' := N) (ty := .int) hx hb (hts _ harr) rfl hK.1 hP hD hS hA (fun cA => rfl) (fun h => by rw [← zI_0, zI_lt (by omega) (by omega) (by omega) (by omega)] at h; omega) (zI_cl (by omega)) (by show N * 4 ≤ _; omega) hro.1 hro.2 hd (fun q cA H1 hK1 hP1 hD1 hS1 => ?_)
  have e1 : s.vm.findClass ("[" ++ (FieldType.int).toString) = some cA := (hK1.2 3 (cA, .int) rfl).2
  have e2 : s.vm.findClass ("[" ++ (FieldType.int).toString) = some E.2.2.1 := (hK.1.2 0 (E.2.2.1, .int) rfl).2
  cases Option.some.inj (e1.symm.trans e2)
  exact kk q H1 locs ls (P_new hP1) (D_new hD1) hS1 hl
theorem g_newaJ (C : Ok G E l R y cc nL Ts) {z : Int} (N : Nat) (f : Nat → Int64) (hf : f = fun _ => 0) (harr : Cond.arrayClass .long ∈ Ts) (hz : z = (N : Int)) (hN : N < 1000000) (hro : ce + 1 ≤ R.cells ∧ so + N ≤ R.slots) (hd : decode cc pc = .ok (.newarray .long, 2))
    (kk : ∀ q : Nat, G (ce + 1) (so + N) (ws ++ [(q, .inl (E.2.2.2.1, N, .inr (.inl f)))]) lv (pc + 2) (.ref q :: st)) : G ce so ws lv pc (.int (zI z) :: st) := by
  obtain ⟨p, e, s, m, args, below, meth, c, A, Q, tl, rfl, hx, hb, hml, hown, hnm, hts, hK, hA⟩ := C
  subst hz
  subst hf
  refine fun H locs ls hP hD hS hl => va_newa (atype := .long) (a0 := (N, .inr (.inl (fun _ => 0)))) (N' := N) (ty := .long) hx hb (hts _ harr) rfl hK.1 hP hD hS hA (fun cA => rfl) (fun h => by rw [← zI_0, zI_lt (by omega) (by omega) (by omega) (by omega)] at h; omega) (zI_cl (by omega)) (by show N * 8 ≤ _; omega) hro.1 hro.2 hd (fun q cA H1 hK1 hP1 hD1 hS1 => ?_)
  have e1 : s.vm.findClass ("[" ++ (FieldType.long).toString) = some cA := (hK1.2 3 (cA, .long) rfl).2
  have e2 : s.vm.findClass ("[" ++ (FieldType.long).toString) = some E.2.2.2.1 := (hK.1.2 1 (E.2.2.2.1, .long) rfl).2
  cases Option.some.inj (e1.symm.trans e2)
  exact kk q H1 locs ls (P_new hP1) (D_new hD1) hS1 hl
variable {y' : MethodName} {wY wR : List Cond} {rm : Room} {b index n maxL mc ms : Nat} {As rest : List Value} {wc wr : va_W} {bytes : ByteArray}
/-- a constructor, private across the nest or not -/
theorem g_callI (C : Ok G E l R y cc nL Ts) {post : va_W → Prop} (hM : Mv E l y' wY rm (.ref b :: As) wc post mc ms) (hN : ((y.cls, index, y') ∈ nestL) ∨ (Cond.methodLink y.cls index y' ∈ Ts)) (hG : GoodIn Ts wY) (hst0 : Cond.instanceMethod y' ∈ Ts ∧ Cond.initialized y'.cls ∈ Ts ∧ y'.name = "<init>") (hw : wY = Cond.code y' bytes maxL none :: wR)
    (hd0 : y'.cls ≠ "java/lang/invoke/MethodHandle" ∧ y'.cls ≠ "java/lang/invoke/VarHandle" ∧ (parseMethodDescriptor y'.desc).map (fun d => d.parameters.length) = some n) (hn : As.length = n)
    (hrm : (rm.cells = mc ∧ rm.slots = ms) ∧ (rm.frames + 1 ≤ R.frames ∧ 8 + (maxL + 11) + rm.locals ≤ R.locals) ∧ (ce + mc ≤ R.cells ∧ so + ms ≤ R.slots))
    (hd : decode cc pc = .ok (.invokespecial index, 3)) (hst : st = As.reverse ++ .ref b :: rest) (hro : (rest.map fun v => v.category).sum ≤ 8)
    (isC isR : List Nat) (hC : isC.map (fun i => ws[i]?) = wc.map some) (hR : isR.map (fun i => ws[i]?) = wr.map some) (hnd : va_nd isC = true ∧ va_nd isR = true ∧ ∀ i ∈ isR, i ∉ isC)
    (kk : ∀ ws' : va_W, post ws' → G (ce + mc) (so + ms) (wr ++ ws') lv (pc + 3) rest) : G ce so ws lv pc st := by
  obtain ⟨p, e, s, m, args, below, meth, c, A, Q, tl, rfl, hx, hb, hml, hown, hnm, hts, hK, hA⟩ := C
  subst hst
  intro H locs ls hP hD hS hl
  have hPc : Pw E wc H := fun k q hq => by
    have h1 : (isC.map (fun i => ws[i]?))[k]? = some (some q) := by rw [hC, List.getElem?_map, hq]; rfl
    rw [List.getElem?_map] at h1
    cases hi : isC[k]? with
    | none => rw [hi] at h1; cases h1
    | some i => rw [hi] at h1; exact (P_l hP) i q (Option.some.inj h1)
  have hDc : va_D A wc := (D_l hD).sub isC hnd.1 hC
  have hFc := free_l (wc := wc) hD hS hA isC hC
  have hPre : PreS s H (va_Pc (.ref b :: As) (cPre E H.size wc)) (.ref b :: As) := ⟨cPre_blind, fun U hU hW => ⟨rfl, by rw [hU], by rw [hU]; exact hPc, hK.warm hW, hDc.weaken (fun _ _ _ _ => trivial)⟩⟩
  have hrun : va_Run p l e R s m args below meth c H locs ce so mc ms (F0 m pc ls (As.reverse ++ .ref b :: rest)) rest (va_Qv post (cPost E (va_A wc H.size)) (va_A wc H.size) (Value.ref b :: As).toArray) (va_A wc H.size) := by
    rcases hN with hN | hN
    · exact va_runIN (As := As) (rest := rest) ⟨hx, hb, hml, hown, hts⟩ (hM H.size) ⟨va_cnB n hts hG hw hrm.1.1 hrm.1.2 (hK.2.1 _ hN) (hts _ hst0.2.1) hd0 hrm.2.1, hst0.2.2, hts _ hst0.1⟩ hPre rfl hn hl.1 rfl (lv_room hro) hd hrm.2.2
    · exact va_runI (As := As) (rest := rest) ⟨hx, hb, hml, hown, hts⟩ (hM H.size) (cwI n hts hG hw hrm.1.1 hrm.1.2 (hts _ hst0.2.1) (hts _ hN) (hts _ hst0.1) hst0.2.2 hd0 hrm.2.1) hPre rfl hn hl.1 rfl (lv_room hro) hd hrm.2.2
  refine va_callv hrun hS (fun q _ h => hFc q h) hFc (fun u t H1 locs1 ht hvm hw1 hB hz1 hk1 hS1 => ?_)
  obtain ⟨hP1, hD1⟩ := hB
  rw [ht] at hP1
  obtain ⟨hP2, hD2⟩ := jn (wr := wr) (w1 := u) hP hD isC isR hC hR hnd.2.1 hnd.2.2 hk1 hFc hP1 hD1
  exact kk u hw1 H1 locs1 ls hP2 hD2 hS1 hl
end GN
end
section
theorem in_X4_init_X4 : ∀ w ∈ u_ws RX4 TX4 2, w ∈ wsX4_init := by decide +kernel
theorem lk_X4_init_numbers : Cond.fieldLink yX4_init.cls 11 (TX4 0).1 (TX4 0).2.1 (TX4 0).2.2.1 ∈ wsX4_init := by decide +kernel
theorem lk_X4_init_highest : Cond.fieldLink yX4_init.cls 15 (TX4 1).1 (TX4 1).2.1 (TX4 1).2.2.1 ∈ wsX4_init := by decide +kernel
set_option maxHeartbeats 4000000 in
set_option maxRecDepth 100000 in
theorem c_X4_init (E : ev) (l : Launch) (h : Nat) : Mv E l yX4_init wsX4_init { frames := 1, cells := 1, slots := 33, locals := 30 } [.ref h] [(h, .inr (4, [.null, .int (zI 0)]))] (fun w => ∃ q : Nat, w = [cP h q (hi zr), aP E q zr]) 1 33 := by
  refine enter_v (cc := cX4_init) (nL := 1) (by decide) rfl (Nat.le_of_ble_eq_true rfl) (fun G C hret => ?_)
  show G 0 0 [(h, .inr (4, [.null, .int (zI 0)]))] [(0, .ref h)] 0 []
  refine g_aload_n C dX4_init_0 0 rfl ?_
  refine g_objInit C (by decide +kernel) (List.mem_cons_of_mem _ (List.mem_of_getElem? (i := 2) rfl)) dX4_init_1 (by decide) (Nat.le_of_ble_eq_true rfl) ?_
  refine g_aload_n C dX4_init_4 0 rfl ?_
  refine g_bipush C dX4_init_5 rfl ?_
  refine g_newaI C 33 (pv zr) rfl (by decide +kernel) rfl (by decide) (by decide) dX4_init_7 (fun q_7 => ?_)
  refine g_eq (ws' := [(h, .inr (4, [.null, .int (zI 0)])), aP E q_7 zr]) rfl rfl rfl ?_
  refine g_putF C [cP h q_7 0, aP E q_7 zr] tyX4 tyX4_ok nmX4 0 rfl rfl 0 (by decide) in_X4_init_X4 lk_X4_init_numbers rfl rfl rfl rfl (Nat.le_of_ble_eq_true rfl) dX4_init_9 rfl rfl ?_
  refine g_aload_n C dX4_init_12 0 rfl ?_
  refine g_iconst C dX4_init_13 ?_
  refine g_put C [cP h q_7 (-1), aP E q_7 zr] tyX4 tyX4_ok nmX4 0 rfl rfl 1 (by decide) in_X4_init_X4 lk_X4_init_highest rfl rfl rfl (Nat.le_of_ble_eq_true rfl) dX4_init_14 rfl ?_
  exact hret _ _ _ _ _ dX4_init_17 (by decide) (by decide) ⟨q_7, by rw [hi_zr]⟩
end
section
/-! methods that hand back an object -/
section ER
variable {E : ev} {l : Launch} {y : MethodName} {wY wR : List Cond} {rm : Room} {av : List Value} {ws : va_W} {mc ms : Nat} {cc : ByteArray} {nL : Nat} {cn : String}
theorem enter_r {post : Nat → va_W → Prop} (hy : plainName y.cls = true) (hw : wY = Cond.code y cc nL (some (.object cn)) :: wR) (hlen : (lg_sl av).length ≤ nL)
    (body : ∀ G : Gt, Ok G E l rm y cc nL wY → (∀ (r : Nat) (ws' : va_W) (lv : Lv) (pc ce so : Nat), decode cc pc = .ok (.areturn, 1) → ce ≤ mc → so ≤ ms → post r ws' → G ce so ws' lv pc [.ref r]) → G 0 0 ws (lv_args 0 av) 0 []) : Mr E l y wY rm av ws post mc ms := by
  intro sz
  refine Met.ofW (cc := cc) (maxL := nL) (ret := some (.object cn)) hy hw ?_
  intro p e s m args below meth c s₁ B hml hv
  obtain ⟨rfl, hsz, hP, hK, hD0⟩ := hv
  subst hsz
  have hx := B.exec
  have hb := B.bytes
  have hr := B.returns
  have hts := atoms_spec (ws := wY) B.pre
  have hown : s.vm.findClass y.cls = some m.cls := findClass_of_methodNamed B.named
  have hlocks := B.notSynchronized
  have hin : meth.name = y.name := (name_of_methodNamed B.named B.method).1
  rw [lg_entry_eq]
  refine body (gg E p l e rm s m av.toArray below meth c (va_A ws s.heap.size) _ nL []) ⟨p, e, s, m, av.toArray, below, meth, c, va_A ws s.heap.size, _, [], rfl, hx, hb, hml, hown, hin, hts, hK, fun q h => Or.inr h⟩ ?_ s.heap [] _ (by rw [List.append_nil]; exact hP) (by rw [List.append_nil]; exact hD0.self) va_S.rf (lv_entry av hlen)
  intro r ws' lv pc ce so hd h1 h2 hpost H locs ls hP' hD' hS' hl'
  rw [List.append_nil] at hP' hD'
  refine W.widen h1 h2 ?_
  exact W.aret hx hb hr (Or.inl ⟨cn, rfl⟩) (Or.inr ⟨r, rfl⟩) (fun t ht hW => ⟨⟨(r, ws'), r, rfl, hpost, rfl, by rw [ht]; exact hP', hD'⟩, hS'.F ht⟩) hS'.2.2 hd
end ER
section CR
variable {G : Gt} {E : ev} {l : Launch} {R : Room} {y : MethodName} {cc : ByteArray} {nL : Nat} {Ts : List Cond} {ce so : Nat} {ws : va_W} {lv : Lv} {pc : Nat} {st : List Value}
variable {y' : MethodName} {wY wR : List Cond} {rm : Room} {b ci index n maxL mc ms : Nat} {As rest : List Value} {wc wr : va_W} {bytes : ByteArray} {ret : Option FieldType} {CC : String} {T : u_T} {N : Nat} {fs : List Value}
theorem g_callVr (C : Ok G E l R y cc nL Ts) {post : Nat → va_W → Prop} (hM : Mr E l y' wY rm (.ref b :: As) wc post mc ms) (hG : GoodIn Ts (wsV y.cls index CC y' wY)) (hw : wY = Cond.code y' bytes maxL ret :: wR)
    (hd0 : y'.cls = CC ∧ y'.cls ≠ "java/lang/invoke/MethodHandle" ∧ y'.cls ≠ "java/lang/invoke/VarHandle" ∧ (parseMethodDescriptor y'.desc).map (fun d => d.parameters.length) = some n) (hn : As.length = n)
    (hrm : (rm.cells = mc ∧ rm.slots = ms) ∧ (rm.frames + 1 ≤ R.frames ∧ 8 + (maxL + 11) + rm.locals ≤ R.locals) ∧ (ce + mc ≤ R.cells ∧ so + ms ≤ R.slots))
    (hd : decode cc pc = .ok (.invokevirtual index, 3)) (hst : st = As.reverse ++ .ref b :: rest) (hro : (rest.map fun v => v.category).sum ≤ 8)
    (hc : vwCl[ci]? = some (CC, T, N)) (he : wc[0]? = some (b, .inr (ci, fs)))
    (isC isR : List Nat) (hC : isC.map (fun i => ws[i]?) = wc.map some) (hR : isR.map (fun i => ws[i]?) = wr.map some) (hnd : va_nd isC = true ∧ va_nd isR = true ∧ ∀ i ∈ isR, i ∉ isC)
    (kk : ∀ (r : Nat) (ws' : va_W), post r ws' → G (ce + mc) (so + ms) (wr ++ ws') lv (pc + 3) (.ref r :: rest)) : G ce so ws lv pc st := by
  obtain ⟨p, e, s, m, args, below, meth, c, A, Q, tl, rfl, hx, hb, hml, hown, hnm, hts, hK, hA⟩ := C
  subst hst
  intro H locs ls hP hD hS hl
  have hPc : Pw E wc H := fun k q hq => by
    have h1 : (isC.map (fun i => ws[i]?))[k]? = some (some q) := by rw [hC, List.getElem?_map, hq]; rfl
    rw [List.getElem?_map] at h1
    cases hi : isC[k]? with
    | none => rw [hi] at h1; cases h1
    | some i => rw [hi] at h1; exact (P_l hP) i q (Option.some.inj h1)
  have hDc : va_D A wc := (D_l hD).sub isC hnd.1 hC
  have hFc := free_l (wc := wc) hD hS hA isC hC
  refine va_callr (va_runV (As := As) (rest := rest) ⟨hx, hb, hml, hown, hts⟩ (hM H.size) (cwV n hts hG hw hrm.1.1 hrm.1.2 hd0 hrm.2.1) ⟨cPre_blind, va_recv hK.1 hPc (ci := ci) (q0 := 0) hc he, fun U hU hW => ⟨rfl, by rw [hU], by rw [hU]; exact hPc, hK.warm hW, hDc.weaken (fun _ _ _ _ => trivial)⟩⟩ rfl hn hl.1 rfl (lv_room hro) hd hrm.2.2) hS (fun q _ h => hFc q h) hFc (fun u ra t H1 locs1 ht hvm hw1 hB hz1 hk1 hS1 => ?_)
  obtain ⟨hr1, hP1, hD1⟩ := hB
  subst hr1
  rw [ht] at hP1
  obtain ⟨hP2, hD2⟩ := jn (wr := wr) (w1 := u.2) hP hD isC isR hC hR hnd.2.1 hnd.2.2 hk1 hFc hP1 hD1
  exact kk u.1 u.2 hw1 H1 locs1 ls hP2 hD2 hS1 hl
end CR
end
section
/-! the inverse, looked at number by number -/
def ckv (x : Nat) : Nat :=
  let s0 := x
  let s1 := s0 * s0 % 32003
  let s2 := s1 * s1 % 32003
  let s3 := s2 * s2 % 32003
  let s4 := s3 * s3 % 32003
  let s5 := s4 * s4 % 32003
  let s6 := s5 * s5 % 32003
  let s7 := s6 * s6 % 32003
  let s8 := s7 * s7 % 32003
  let s9 := s8 * s8 % 32003
  let s10 := s9 * s9 % 32003
  let s11 := s10 * s10 % 32003
  let s12 := s11 * s11 % 32003
  let s13 := s12 * s12 % 32003
  let s14 := s13 * s13 % 32003
  let r0 := 1 * s0 % 32003
  let r8 := r0 * s8 % 32003
  let r10 := r8 * s10 % 32003
  let r11 := r10 * s11 % 32003
  let r12 := r11 * s12 % 32003
  let r13 := r12 * s13 % 32003
  let r14 := r13 * s14 % 32003
  x * r14 % 32003
def ckB (x : Nat) : Bool := Nat.beq x 0 || Nat.ble 32003 x || Nat.beq (ckv x) 1
def ckA : Nat → Nat → Bool
  | 0, b => ckB b
  | d + 1, b => ckA d b && ckA d (b + 2 ^ d)
theorem ckA_ok : ∀ (d b : Nat), ckA d b = true → ∀ x, b ≤ x → x < b + 2 ^ d → ckB x = true
  | 0, b, h, x, h1, h2 => by
    have e : x = b := by simp at h2; omega
    rw [e]; exact h
  | d + 1, b, h, x, h1, h2 => by
    unfold ckA at h
    rw [Bool.and_eq_true] at h
    rw [Nat.pow_succ] at h2
    by_cases g : x < b + 2 ^ d
    · exact ckA_ok d b h.1 x h1 g
    · exact ckA_ok d (b + 2 ^ d) h.2 x (by omega) (by omega)
theorem ck0 : ckA 12 0 = true := by decide +kernel
theorem ck1 : ckA 12 4096 = true := by decide +kernel
theorem ck2 : ckA 12 8192 = true := by decide +kernel
theorem ck3 : ckA 12 12288 = true := by decide +kernel
theorem ck4 : ckA 12 16384 = true := by decide +kernel
theorem ck5 : ckA 12 20480 = true := by decide +kernel
theorem ck6 : ckA 12 24576 = true := by decide +kernel
theorem ck7 : ckA 12 28672 = true := by decide +kernel
theorem ck_all {x : Nat} (h : x < 32003) : ckB x = true := by
  by_cases h1 : x < 4096
  · exact ckA_ok 12 0 ck0 x (by omega) (by omega)
  by_cases h2 : x < 8192
  · exact ckA_ok 12 4096 ck1 x (by omega) (by omega)
  by_cases h3 : x < 12288
  · exact ckA_ok 12 8192 ck2 x (by omega) (by omega)
  by_cases h4 : x < 16384
  · exact ckA_ok 12 12288 ck3 x (by omega) (by omega)
  by_cases h5 : x < 20480
  · exact ckA_ok 12 16384 ck4 x (by omega) (by omega)
  by_cases h6 : x < 24576
  · exact ckA_ok 12 20480 ck5 x (by omega) (by omega)
  by_cases h7 : x < 28672
  · exact ckA_ok 12 24576 ck6 x (by omega) (by omega)
  exact ckA_ok 12 28672 ck7 x (by omega) (by omega)
theorem ivq_val (x : Fq) : (x * ivq x).val = ckv x.val := rfl
theorem ivq_mul {x : Fq} (h : x ≠ 0) : x * ivq x = 1 := by
  have h0 : x.val ≠ 0 := fun e => h (Fin.ext e)
  have hc := ck_all x.isLt
  unfold ckB at hc
  rw [Bool.or_eq_true, Bool.or_eq_true] at hc
  rcases hc with (hc | hc) | hc
  · exact absurd (Nat.eq_of_beq_eq_true hc) h0
  · exact absurd (Nat.le_of_ble_eq_true hc) (by have := x.isLt; omega)
  · have h1 : (x * ivq x).val = 1 := by rw [ivq_val]; exact Nat.eq_of_beq_eq_true hc
    exact Fin.ext h1
theorem fq_dom {x y : Fq} (h : x * y = 0) : x = 0 ∨ y = 0 := by
  by_cases hx : x = 0
  · exact Or.inl hx
  · refine Or.inr ?_
    have h1 := ivq_mul hx
    grind
theorem ivq_ne {x : Fq} (h : x ≠ 0) : ivq x ≠ 0 := fun e => by
  have h1 := ivq_mul h
  rw [e] at h1
  have h2 : x * 0 = (0 : Fq) := by grind
  rw [h2] at h1
  exact absurd h1 (by decide)
theorem ivq_one : ivq 1 = 1 := by decide +kernel
end
section
/-! division and the common divisor, as both programs work them out: what is known of the degrees -/
theorem hi_lt {a : Po} {x : Int} (hx : 0 ≤ x) (h : ∀ j : Nat, x ≤ (j : Int) → a j = 0) : hi a < x := by
  by_cases g : hi a < x
  · exact g
  · exact absurd (h (hi a).toNat (by omega)) (hi_ne (by omega))
theorem dv_Sm {b : Po} {u : Fq} (hSb : Sm b) (hb : 0 ≤ hi b) : ∀ (n : Nat) (c g : Po), Sm c → Sm g → hi b + (n : Int) ≤ 33 → Sm (dv b u (hi b).toNat n c g).1 ∧ Sm (dv b u (hi b).toNat n c g).2
  | 0, c, g, hc, hg, _ => ⟨hc, hg⟩
  | n + 1, c, g, hc, hg, h => dv_Sm hSb hb n _ _ (am_Sm hc (fun j hj => hi_zero hSb (by omega))) (Sm_set hg (by omega) _) (by omega)
theorem dvN_le {a b : Po} (hb : 0 ≤ hi b) : hi b + (dvN a b : Int) ≤ 33 := by
  have h1 := hi_lo a
  have h2 := hi_lo b
  unfold dvN
  omega
theorem rem_Sm {a b : Po} (hSa : Sm a) (hSb : Sm b) (hb : 0 ≤ hi b) : Sm (rem a b) := (dv_Sm hSb hb _ _ _ hSa (Sm_con 0) (dvN_le hb)).1
theorem quo_Sm {a b : Po} (hSa : Sm a) (hSb : Sm b) (hb : 0 ≤ hi b) : Sm (quo a b) := (dv_Sm hSb hb _ _ _ hSa (Sm_con 0) (dvN_le hb)).2
theorem nm_hi {b : Po} (hb : 0 ≤ hi b) : nm b (hi b) = b (hi b).toNat := nm_pos hb
theorem nm_ne {b : Po} (hb : 0 ≤ hi b) : nm b (hi b) ≠ 0 := by rw [nm_hi hb]; exact hi_ne hb
theorem dv_low {b : Po} {u : Fq} {hb : Nat} (hu : b hb * u = 1) (hz : ∀ j : Nat, hb < j → b j = 0) : ∀ (n : Nat) (c g : Po), (∀ j : Nat, hb + n ≤ j → c j = 0) → ∀ j : Nat, hb ≤ j → (dv b u hb n c g).1 j = 0
  | 0, c, g, h, j, hj => h j (by omega)
  | n + 1, c, g, h, j, hj => by
    refine dv_low hu hz n _ _ (fun i hi => ?_) j hj
    unfold am
    rw [if_pos (by omega)]
    by_cases e : i = hb + n
    · rw [e, show hb + n - n = hb by omega]
      grind
    · rw [h i (by omega), hz (i - n) (by omega)]
      grind
theorem rem_lt {a b : Po} (hSa : Sm a) (hSb : Sm b) (hb : 0 ≤ hi b) : hi (rem a b) < hi b := by
  refine hi_lt hb (fun j hj => ?_)
  refine dv_low (u := ivq (nm b (hi b))) (by rw [nm_hi hb]; exact ivq_mul (hi_ne hb)) (fun j h => hi_zero hSb (by omega)) _ a (con 0) (fun i hi0 => hi_zero hSa ?_) j (by omega)
  unfold dvN at hi0
  omega
theorem rem_small {a b : Po} (h : hi a < hi b) : rem a b = a := by
  unfold rem dvs
  rw [show dvN a b = 0 by unfold dvN; omega]
  rfl
theorem dv_q {b : Po} {u : Fq} {hb : Nat} : ∀ (n : Nat) (c g : Po) (j : Nat), n ≤ j → (dv b u hb n c g).2 j = g j
  | 0, c, g, j, _ => rfl
  | n + 1, c, g, j, h => by
    show (dv b u hb n _ _).2 j = g j
    rw [dv_q n _ _ j (by omega), cset_ne (by omega)]
theorem quo_big {a b : Po} {j : Nat} (h : dvN a b ≤ j) : quo a b j = 0 := by
  unfold quo dvs
  rw [dv_q _ _ _ j h]
  unfold con
  split <;> rfl
theorem quo_top {a b : Po} (hb : 0 ≤ hi b) (hab : hi b ≤ hi a) : quo a b (hi a - hi b).toNat = a (hi a).toNat * ivq (nm b (hi b)) := by
  unfold quo dvs
  rw [show dvN a b = (hi a - hi b).toNat + 1 by unfold dvN; omega]
  show (dv b _ _ (hi a - hi b).toNat _ _).2 _ = _
  rw [dv_q _ _ _ _ (Nat.le_refl _), cset_eq, show (hi b).toNat + (hi a - hi b).toNat = (hi a).toNat by omega]
theorem quo_hi {a b : Po} (hb : 0 ≤ hi b) (hab : hi b ≤ hi a) : hi (quo a b) = hi a - hi b := by
  have h1 := hi_lo a
  refine hi_eq (by omega) (by omega) (fun _ => ?_) (fun j hj => quo_big ?_)
  · rw [quo_top hb hab]
    exact fun e => (fq_dom e).elim (hi_ne (by omega)) (ivq_ne (nm_ne hb))
  · unfold dvN
    omega
/-- 1 at its highest power -/
def Mo (a : Po) : Prop := nm a (hi a) = 1
theorem Mo.pos {a : Po} (h : Mo a) : 0 ≤ hi a := by
  have h1 := hi_lo a
  by_cases g : 0 ≤ hi a
  · exact g
  · unfold Mo at h
    rw [nm_neg (by omega)] at h
    exact absurd h (by decide)
theorem Mo_con : Mo (con 1) := by unfold Mo; rw [hi_con, if_neg (by decide)]; rfl
theorem quo_Mo {a b : Po} (ha : Mo a) (hb : Mo b) (hab : hi b ≤ hi a) : Mo (quo a b) := by
  have h1 := ha.pos
  have h2 := hb.pos
  unfold Mo
  rw [quo_hi h2 hab, nm_pos (by omega), quo_top h2 hab, ← nm_hi h1, show nm a (hi a) = 1 from ha, show nm b (hi b) = 1 from hb, ivq_one]
  rfl
theorem sc_hi {a : Po} (hS : Sm a) {f : Fq} (hf : f ≠ 0) : hi (sc a f) = hi a := by
  have h1 := hi_lo a
  refine hi_eq h1.1 h1.2 (fun g => ?_) (fun j hj => ?_)
  · exact fun e => (fq_dom e).elim (hi_ne g) hf
  · unfold sc
    rw [hi_zero hS hj]
    grind
/-- Euclid -/
def eu : Nat → Po → Po → Po
  | 0, a, _ => a
  | n + 1, a, b => if hi b < 0 then a else eu n b (rem a b)
def mon (g : Po) : Po := sc g (ivq (nm g (hi g)))
def gm (a b : Po) : Po := mon (eu 66 a b)
theorem eu_Sm : ∀ (n : Nat) (a b : Po), Sm a → Sm b → Sm (eu n a b)
  | 0, a, b, ha, _ => ha
  | n + 1, a, b, ha, hb => by
    unfold eu
    split
    · exact ha
    · exact eu_Sm n b (rem a b) hb (rem_Sm ha hb (by omega))
theorem eu_pos : ∀ (n : Nat) (a b : Po), 0 ≤ hi a → 0 ≤ hi (eu n a b)
  | 0, a, b, ha => ha
  | n + 1, a, b, ha => by
    unfold eu
    split
    · exact ha
    · exact eu_pos n b (rem a b) (by omega)
theorem eu_zero (n : Nat) (a b : Po) (h : hi b < 0) : eu n a b = a := by
  cases n with
  | zero => rfl
  | succ n => unfold eu; rw [if_pos h]
theorem eu_le : ∀ (n : Nat) (a b : Po), Sm a → Sm b → 0 ≤ hi b → hi (eu (n + 1) a b) ≤ hi b
  | 0, a, b, ha, hb, h => by
    unfold eu
    rw [if_neg (by omega)]
    show hi b ≤ hi b
    omega
  | n + 1, a, b, ha, hb, h => by
    rw [eu, if_neg (by omega)]
    have h1 := rem_lt ha hb h
    by_cases g : hi (rem a b) < 0
    · rw [eu_zero _ _ _ g]
      omega
    · have h2 := eu_le n b (rem a b) hb (rem_Sm ha hb h) (by omega)
      omega
theorem eu_le2 (n : Nat) {a b : Po} (hSa : Sm a) (hSb : Sm b) (ha : 0 ≤ hi a) (hb : 0 ≤ hi b) : hi (eu (n + 2) a b) ≤ hi a := by
  by_cases g : hi a < hi b
  · rw [eu, if_neg (by omega), rem_small g]
    exact eu_le n b a hSb hSa ha
  · have h9 : hi (eu (n + 2) a b) ≤ hi b := eu_le (n + 1) a b hSa hSb hb
    omega
theorem mon_Sm {g : Po} (h : Sm g) : Sm (mon g) := fun j hj => by unfold mon sc; rw [h j hj]; grind
theorem mon_hi {g : Po} (hS : Sm g) (h : 0 ≤ hi g) : hi (mon g) = hi g := sc_hi hS (ivq_ne (nm_ne h))
theorem mon_Mo {g : Po} (hS : Sm g) (h : 0 ≤ hi g) : Mo (mon g) := by
  unfold Mo
  rw [mon_hi hS h, nm_pos h]
  unfold mon sc
  rw [nm_hi h]
  exact ivq_mul (hi_ne h)
theorem gm_ok {a b : Po} (hSa : Sm a) (hSb : Sm b) (ha : 0 ≤ hi a) (hb : 0 ≤ hi b) : Sm (gm a b) ∧ Mo (gm a b) ∧ hi (gm a b) ≤ hi a ∧ hi (gm a b) ≤ hi b := by
  have h1 := eu_Sm 66 a b hSa hSb
  have h2 := eu_pos 66 a b ha
  have h3 := eu_le 65 a b hSa hSb hb
  have h4 := eu_le2 64 hSa hSb ha hb
  refine ⟨mon_Sm h1, mon_Mo h1 h2, ?_, ?_⟩ <;> (unfold gm; rw [mon_hi h1 h2]; omega)
/-- products of highest numbers -/
theorem sm_one {f : Nat → Fq} {k : Nat} : ∀ {n : Nat}, k < n → (∀ i, i < n → i ≠ k → f i = 0) → sm f n = f k
  | 0, h, _ => absurd h (by omega)
  | n + 1, h, hz => by
    show sm f n + f n = f k
    by_cases e : k = n
    · rw [sm_zero (fun i hi => hz i (by omega) (by omega)), e]
      grind
    · rw [sm_one (by omega) (fun i hi hk => hz i (by omega) hk), hz n (by omega) (by omega)]
      grind
theorem conv_top {a b : Po} (hSa : Sm a) (hSb : Sm b) (ha : 0 ≤ hi a) (hb : 0 ≤ hi b) : conv a b (hi a + hi b).toNat = a (hi a).toNat * b (hi b).toNat := by
  unfold conv
  rw [sm_one (k := (hi b).toNat) (by omega) (fun i h1 h2 => ?_)]
  · rw [show (hi a + hi b).toNat - (hi b).toNat = (hi a).toNat by omega]
  · by_cases g : (hi b).toNat < i
    · rw [hi_zero hSb (by omega)]; grind
    · rw [hi_zero hSa (by omega)]; grind
theorem conv_Sm {a b : Po} (hSa : Sm a) (hSb : Sm b) (h : hi a + hi b < 33) : Sm (conv a b) := fun j hj => conv_hi (x := hi a) (y := hi b) (fun _ g => hi_zero hSa g) (fun _ g => hi_zero hSb g) (by omega)
theorem conv_dg {a b : Po} (hSa : Sm a) (hSb : Sm b) (ha : 0 ≤ hi a) (hb : 0 ≤ hi b) (h : hi a + hi b < 33) : hi (conv a b) = hi a + hi b := by
  refine hi_eq (by omega) h (fun _ => ?_) (fun j hj => conv_hi (x := hi a) (y := hi b) (fun _ g => hi_zero hSa g) (fun _ g => hi_zero hSb g) hj)
  rw [conv_top hSa hSb ha hb]
  exact fun e => (fq_dom e).elim (hi_ne ha) (hi_ne hb)
theorem conv_Mo {a b : Po} (hSa : Sm a) (hSb : Sm b) (ha : Mo a) (hb : Mo b) (h : hi a + hi b < 33) : Mo (conv a b) := by
  have h1 := ha.pos
  have h2 := hb.pos
  unfold Mo
  rw [conv_dg hSa hSb h1 h2 h, nm_pos (by omega), conv_top hSa hSb h1 h2, ← nm_hi h1, ← nm_hi h2, show nm a (hi a) = 1 from ha, show nm b (hi b) = 1 from hb]
  rfl
theorem mvp_Mo {a : Po} (hS : Sm a) (ha : Mo a) (d : Fq) : Mo (mvp a d) := by
  have h1 := ha.pos
  unfold Mo
  rw [mvp_hi hS, nm_pos h1, mvp_keep a d (Nat.le_refl _), ← nm_hi h1]
  exact ha
/-- g with n - k in place of n, step by step -/
def mvk (g : Po) : Nat → Po
  | 0 => g
  | k + 1 => mvp (mvk g k) 32002
theorem mvk_ok {g : Po} (hS : Sm g) (hM : Mo g) : ∀ k : Nat, Sm (mvk g k) ∧ Mo (mvk g k) ∧ hi (mvk g k) = hi g
  | 0 => ⟨hS, hM, rfl⟩
  | k + 1 => by
    obtain ⟨h1, h2, h3⟩ := mvk_ok hS hM k
    exact ⟨mvp_Sm h1 _, mvp_Mo h1 h2 _, (mvp_hi h1 _).trans h3⟩
/-- c times g with n - 1, n - 2 .. n - k in place of n -/
def cmk (c g : Po) : Nat → Po
  | 0 => c
  | k + 1 => conv (cmk c g k) (mvk g (k + 1))
theorem cmk_ok {c g : Po} (hSc : Sm c) (hMc : Mo c) (hS : Sm g) (hM : Mo g) : ∀ k : Nat, hi c + (k : Int) * hi g < 33 → Sm (cmk c g k) ∧ Mo (cmk c g k) ∧ hi (cmk c g k) = hi c + (k : Int) * hi g
  | 0, _ => ⟨hSc, hMc, by show hi c = _; simp⟩
  | k + 1, h => by
    obtain ⟨g1, g2, g3⟩ := mvk_ok hS hM (k + 1)
    have hp := hM.pos
    have e : ((k + 1 : Nat) : Int) * hi g = (k : Int) * hi g + hi g := by rw [Int.natCast_add, Int.add_mul]; simp
    rw [e] at h
    have hlt : hi c + (k : Int) * hi g < 33 := by omega
    obtain ⟨h1, h2, h3⟩ := cmk_ok hSc hMc hS hM k hlt
    refine ⟨conv_Sm h1 g1 (by omega), conv_Mo h1 g1 h2 g2 (by omega), ?_⟩
    show hi (conv _ _) = _
    rw [conv_dg h1 g1 h2.pos g2.pos (by omega), e]
    omega
/-- the split, place by place -/
def spg (h : Nat) (t : Po × Po × Po) : Po := gm t.1 (mvp t.2.1 (cF (h : Int)))
def spn (h : Nat) (t : Po × Po × Po) : Po × Po × Po := (quo t.1 (spg h t), quo t.2.1 (mvk (spg h t) h), cmk t.2.2 (spg h t) h)
def spl (A B : Po) : Nat → Po × Po × Po
  | 0 => (A, B, con 1)
  | h + 1 => spn h (spl A B h)
def SpOk (A B : Po) (t : Po × Po × Po) : Prop := Sm t.1 ∧ Sm t.2.1 ∧ Sm t.2.2 ∧ 0 ≤ hi t.1 ∧ 0 ≤ hi t.2.1 ∧ Mo t.2.2 ∧ hi t.1 ≤ hi A ∧ hi t.2.1 ≤ hi B ∧ hi t.2.2 ≤ 8 * (hi A - hi t.1)
/-- what a ratio is: both sides are not 0, of powers up to 4 -/
def Ra (A B : Po) : Prop := Sm A ∧ Sm B ∧ 0 ≤ hi A ∧ 0 ≤ hi B ∧ hi A ≤ 4 ∧ hi B ≤ 4
theorem spg_ok {A B : Po} {t : Po × Po × Po} (h : Nat) (ht : SpOk A B t) : Sm (spg h t) ∧ Mo (spg h t) ∧ hi (spg h t) ≤ hi t.1 ∧ hi (spg h t) ≤ hi t.2.1 := by
  obtain ⟨s1, s2, s3, p1, p2, m3, l1, l2, l3⟩ := ht
  have h1 := mvp_hi s2 (cF (h : Int))
  have := gm_ok s1 (mvp_Sm s2 (cF (h : Int))) p1 (by omega)
  rw [h1] at this
  exact this
theorem cmk_bd {A B : Po} {t : Po × Po × Po} {h : Nat} (ht : SpOk A B t) (hA : hi A ≤ 4) (hh : h ≤ 8) : ∀ k : Nat, k ≤ h → hi t.2.2 + (k : Int) * hi (spg h t) ≤ 8 * (hi A - (hi t.1 - hi (spg h t))) ∧ hi t.2.2 + (k : Int) * hi (spg h t) < 33 := by
  intro k hk
  obtain ⟨g1, g2, g3, g4⟩ := spg_ok h ht
  have hp := g2.pos
  obtain ⟨s1, s2, s3, p1, p2, m3, l1, l2, l3⟩ := ht
  have e : (k : Int) * hi (spg h t) ≤ 8 * hi (spg h t) := Int.mul_le_mul_of_nonneg_right (by omega) hp
  omega
theorem spn_ok {A B : Po} {t : Po × Po × Po} {h : Nat} (ht : SpOk A B t) (hA : hi A ≤ 4) (hh : h ≤ 8) : SpOk A B (spn h t) := by
  obtain ⟨g1, g2, g3, g4⟩ := spg_ok h ht
  have hb := cmk_bd ht hA hh h (Nat.le_refl h)
  obtain ⟨s1, s2, s3, p1, p2, m3, l1, l2, l3⟩ := ht
  obtain ⟨k1, k2, k3⟩ := mvk_ok g1 g2 h
  obtain ⟨c1, c2, c3⟩ := cmk_ok s3 m3 g1 g2 h hb.2
  have hp := g2.pos
  have q1 := quo_hi hp g3
  have q2 := quo_hi k2.pos (show hi (mvk (spg h t) h) ≤ hi t.2.1 by omega)
  refine ⟨quo_Sm s1 g1 hp, quo_Sm s2 k1 k2.pos, c1, ?_, ?_, c2, ?_, ?_, ?_⟩
  · show 0 ≤ hi (quo _ _); omega
  · show 0 ≤ hi (quo _ _); omega
  · show hi (quo _ _) ≤ _; omega
  · show hi (quo _ _) ≤ _; omega
  · show hi (cmk _ _ _) ≤ 8 * (hi A - hi (quo _ _)); omega
theorem spl_ok {A B : Po} (hR : Ra A B) : ∀ h : Nat, h ≤ 9 → SpOk A B (spl A B h)
  | 0, _ => by
    obtain ⟨h1, h2, h3, h4, h5, h6⟩ := hR
    refine ⟨h1, h2, Sm_con 1, h3, h4, Mo_con, by show hi A ≤ hi A; omega, by show hi B ≤ hi B; omega, ?_⟩
    show hi (con 1) ≤ 8 * (hi A - hi A)
    rw [hi_con, if_neg (by decide)]
    omega
  | h + 1, hh => spn_ok (spl_ok hR h (by omega)) hR.2.2.2.2.1 (by omega)
end
section
theorem dX0_init_0 : decode cX0_init 0 = .ok (.aload_n 0, 1) := by decide +kernel
theorem dX0_init_1 : decode cX0_init 1 = .ok (.invokespecial 1, 3) := by decide +kernel
theorem dX0_init_4 : decode cX0_init 4 = .ok (.aload_n 0, 1) := by decide +kernel
theorem dX0_init_5 : decode cX0_init 5 = .ok (.new 7, 3) := by decide +kernel
theorem dX0_init_8 : decode cX0_init 8 = .ok (.dup, 1) := by decide +kernel
theorem dX0_init_9 : decode cX0_init 9 = .ok (.invokespecial 9, 3) := by decide +kernel
theorem dX0_init_12 : decode cX0_init 12 = .ok (.putfield 10, 3) := by decide +kernel
theorem dX0_init_15 : decode cX0_init 15 = .ok (.aload_n 0, 1) := by decide +kernel
theorem dX0_init_16 : decode cX0_init 16 = .ok (.new 7, 3) := by decide +kernel
theorem dX0_init_19 : decode cX0_init 19 = .ok (.dup, 1) := by decide +kernel
theorem dX0_init_20 : decode cX0_init 20 = .ok (.invokespecial 9, 3) := by decide +kernel
theorem dX0_init_23 : decode cX0_init 23 = .ok (.putfield 16, 3) := by decide +kernel
theorem dX0_init_26 : decode cX0_init 26 = .ok (.aload_n 0, 1) := by decide +kernel
theorem dX0_init_27 : decode cX0_init 27 = .ok (.new 7, 3) := by decide +kernel
theorem dX0_init_30 : decode cX0_init 30 = .ok (.dup, 1) := by decide +kernel
theorem dX0_init_31 : decode cX0_init 31 = .ok (.invokespecial 9, 3) := by decide +kernel
theorem dX0_init_34 : decode cX0_init 34 = .ok (.putfield 19, 3) := by decide +kernel
theorem dX0_init_37 : decode cX0_init 37 = .ok (.aload_n 0, 1) := by decide +kernel
theorem dX0_init_38 : decode cX0_init 38 = .ok (.new 7, 3) := by decide +kernel
theorem dX0_init_41 : decode cX0_init 41 = .ok (.dup, 1) := by decide +kernel
theorem dX0_init_42 : decode cX0_init 42 = .ok (.invokespecial 9, 3) := by decide +kernel
theorem dX0_init_45 : decode cX0_init 45 = .ok (.putfield 22, 3) := by decide +kernel
theorem dX0_init_48 : decode cX0_init 48 = .ok (.return_, 1) := by decide +kernel
theorem dX0_commonDivisor_0 : decode cX0_commonDivisor 0 = .ok (.aload_n 0, 1) := by decide +kernel
theorem dX0_commonDivisor_1 : decode cX0_commonDivisor 1 = .ok (.getfield 10, 3) := by decide +kernel
theorem dX0_commonDivisor_4 : decode cX0_commonDivisor 4 = .ok (.aload_n 1, 1) := by decide +kernel
theorem dX0_commonDivisor_5 : decode cX0_commonDivisor 5 = .ok (.invokevirtual 25, 3) := by decide +kernel
theorem dX0_commonDivisor_8 : decode cX0_commonDivisor 8 = .ok (.aload_n 0, 1) := by decide +kernel
theorem dX0_commonDivisor_9 : decode cX0_commonDivisor 9 = .ok (.getfield 16, 3) := by decide +kernel
theorem dX0_commonDivisor_12 : decode cX0_commonDivisor 12 = .ok (.aload_n 2, 1) := by decide +kernel
theorem dX0_commonDivisor_13 : decode cX0_commonDivisor 13 = .ok (.invokevirtual 25, 3) := by decide +kernel
theorem dX0_commonDivisor_16 : decode cX0_commonDivisor 16 = .ok (.aload_n 0, 1) := by decide +kernel
theorem dX0_commonDivisor_17 : decode cX0_commonDivisor 17 = .ok (.getfield 10, 3) := by decide +kernel
theorem dX0_commonDivisor_20 : decode cX0_commonDivisor 20 = .ok (.astore_n 3, 1) := by decide +kernel
theorem dX0_commonDivisor_21 : decode cX0_commonDivisor 21 = .ok (.aload_n 0, 1) := by decide +kernel
theorem dX0_commonDivisor_22 : decode cX0_commonDivisor 22 = .ok (.getfield 16, 3) := by decide +kernel
theorem dX0_commonDivisor_25 : decode cX0_commonDivisor 25 = .ok (.astore 4, 2) := by decide +kernel
theorem dX0_commonDivisor_27 : decode cX0_commonDivisor 27 = .ok (.iconst 0, 1) := by decide +kernel
theorem dX0_commonDivisor_28 : decode cX0_commonDivisor 28 = .ok (.istore 5, 2) := by decide +kernel
theorem dX0_commonDivisor_30 : decode cX0_commonDivisor 30 = .ok (.iload 5, 2) := by decide +kernel
theorem dX0_commonDivisor_32 : decode cX0_commonDivisor 32 = .ok (.bipush 66, 2) := by decide +kernel
theorem dX0_commonDivisor_34 : decode cX0_commonDivisor 34 = .ok (.if_icmp .ge 37, 3) := by decide +kernel
theorem dX0_commonDivisor_37 : decode cX0_commonDivisor 37 = .ok (.aload 4, 2) := by decide +kernel
theorem dX0_commonDivisor_39 : decode cX0_commonDivisor 39 = .ok (.invokevirtual 29, 3) := by decide +kernel
theorem dX0_commonDivisor_42 : decode cX0_commonDivisor 42 = .ok (.ifCond .ne 29, 3) := by decide +kernel
theorem dX0_commonDivisor_45 : decode cX0_commonDivisor 45 = .ok (.aload_n 3, 1) := by decide +kernel
theorem dX0_commonDivisor_46 : decode cX0_commonDivisor 46 = .ok (.aload 4, 2) := by decide +kernel
theorem dX0_commonDivisor_48 : decode cX0_commonDivisor 48 = .ok (.aload_n 0, 1) := by decide +kernel
theorem dX0_commonDivisor_49 : decode cX0_commonDivisor 49 = .ok (.getfield 19, 3) := by decide +kernel
theorem dX0_commonDivisor_52 : decode cX0_commonDivisor 52 = .ok (.invokevirtual 33, 3) := by decide +kernel
theorem dX0_commonDivisor_55 : decode cX0_commonDivisor 55 = .ok (.aload_n 3, 1) := by decide +kernel
theorem dX0_commonDivisor_56 : decode cX0_commonDivisor 56 = .ok (.astore 6, 2) := by decide +kernel
theorem dX0_commonDivisor_58 : decode cX0_commonDivisor 58 = .ok (.aload 4, 2) := by decide +kernel
theorem dX0_commonDivisor_60 : decode cX0_commonDivisor 60 = .ok (.astore_n 3, 1) := by decide +kernel
theorem dX0_commonDivisor_61 : decode cX0_commonDivisor 61 = .ok (.aload 6, 2) := by decide +kernel
theorem dX0_commonDivisor_63 : decode cX0_commonDivisor 63 = .ok (.astore 4, 2) := by decide +kernel
theorem dX0_commonDivisor_65 : decode cX0_commonDivisor 65 = .ok (.iinc 5 1, 3) := by decide +kernel
theorem dX0_commonDivisor_68 : decode cX0_commonDivisor 68 = .ok (.goto (-38), 3) := by decide +kernel
theorem dX0_commonDivisor_71 : decode cX0_commonDivisor 71 = .ok (.aload_n 0, 1) := by decide +kernel
theorem dX0_commonDivisor_72 : decode cX0_commonDivisor 72 = .ok (.getfield 22, 3) := by decide +kernel
theorem dX0_commonDivisor_75 : decode cX0_commonDivisor 75 = .ok (.aload_n 3, 1) := by decide +kernel
theorem dX0_commonDivisor_76 : decode cX0_commonDivisor 76 = .ok (.invokevirtual 25, 3) := by decide +kernel
theorem dX0_commonDivisor_79 : decode cX0_commonDivisor 79 = .ok (.aload_n 0, 1) := by decide +kernel
theorem dX0_commonDivisor_80 : decode cX0_commonDivisor 80 = .ok (.getfield 22, 3) := by decide +kernel
theorem dX0_commonDivisor_83 : decode cX0_commonDivisor 83 = .ok (.aload_n 0, 1) := by decide +kernel
theorem dX0_commonDivisor_84 : decode cX0_commonDivisor 84 = .ok (.getfield 22, 3) := by decide +kernel
theorem dX0_commonDivisor_87 : decode cX0_commonDivisor 87 = .ok (.invokevirtual 37, 3) := by decide +kernel
theorem dX0_commonDivisor_90 : decode cX0_commonDivisor 90 = .ok (.invokestatic 41, 3) := by decide +kernel
theorem dX0_commonDivisor_93 : decode cX0_commonDivisor 93 = .ok (.invokevirtual 47, 3) := by decide +kernel
theorem dX0_commonDivisor_96 : decode cX0_commonDivisor 96 = .ok (.aload_n 0, 1) := by decide +kernel
theorem dX0_commonDivisor_97 : decode cX0_commonDivisor 97 = .ok (.getfield 22, 3) := by decide +kernel
theorem dX0_commonDivisor_100 : decode cX0_commonDivisor 100 = .ok (.areturn, 1) := by decide +kernel
theorem dX0_divideOut_0 : decode cX0_divideOut 0 = .ok (.aload_n 1, 1) := by decide +kernel
theorem dX0_divideOut_1 : decode cX0_divideOut 1 = .ok (.aload_n 2, 1) := by decide +kernel
theorem dX0_divideOut_2 : decode cX0_divideOut 2 = .ok (.aload_n 0, 1) := by decide +kernel
theorem dX0_divideOut_3 : decode cX0_divideOut 3 = .ok (.getfield 19, 3) := by decide +kernel
theorem dX0_divideOut_6 : decode cX0_divideOut 6 = .ok (.invokevirtual 33, 3) := by decide +kernel
theorem dX0_divideOut_9 : decode cX0_divideOut 9 = .ok (.aload_n 1, 1) := by decide +kernel
theorem dX0_divideOut_10 : decode cX0_divideOut 10 = .ok (.aload_n 0, 1) := by decide +kernel
theorem dX0_divideOut_11 : decode cX0_divideOut 11 = .ok (.getfield 19, 3) := by decide +kernel
theorem dX0_divideOut_14 : decode cX0_divideOut 14 = .ok (.invokevirtual 25, 3) := by decide +kernel
theorem dX0_divideOut_17 : decode cX0_divideOut 17 = .ok (.return_, 1) := by decide +kernel
set_option maxRecDepth 20000 in
theorem ggX0_init_X4_init : GoodIn wsX0_init wsX4_init := goodIn_r _ [12, 13, 2, 3, 14, 15, 16, 17, 18] (by decide +kernel) (by decide +kernel)
set_option maxRecDepth 20000 in
theorem gX0_init_X4_init_n9 : GoodIn wsX0_init (wsX4_init) := ggX0_init_X4_init
set_option maxRecDepth 20000 in
theorem ggX0_commonDivisor_X4_copyFrom : GoodIn wsX0_commonDivisor wsX4_copyFrom := goodIn_r _ [9, 10, 11, 12, 13, 14, 8, 15, 63, 64] (by decide +kernel) (by decide +kernel)
set_option maxRecDepth 20000 in
theorem gX0_commonDivisor_X4_copyFrom : GoodIn wsX0_commonDivisor (wsV RX0 25 RX4 yX4_copyFrom wsX4_copyFrom) := goodIn_app (goodIn_of _ (by decide +kernel)) ggX0_commonDivisor_X4_copyFrom
set_option maxRecDepth 20000 in
theorem ggX0_commonDivisor_X4_isZero : GoodIn wsX0_commonDivisor wsX4_isZero := goodIn_r _ [19, 11, 63, 64] (by decide +kernel) (by decide +kernel)
set_option maxRecDepth 20000 in
theorem gX0_commonDivisor_X4_isZero : GoodIn wsX0_commonDivisor (wsV RX0 29 RX4 yX4_isZero wsX4_isZero) := goodIn_app (goodIn_of _ (by decide +kernel)) ggX0_commonDivisor_X4_isZero
set_option maxRecDepth 20000 in
theorem ggX0_commonDivisor_X4_divideBy : GoodIn wsX0_commonDivisor wsX4_divideBy := goodIn_r _ [23, 11, 24, 25, 26, 8, 27, 10, 28, 17, 18, 19, 29, 30, 31, 32, 12, 13, 14, 15, 33, 34, 35, 36, 37, 38, 39, 40, 41, 42, 43, 44, 45, 46, 47, 48, 49, 50, 51, 52, 53, 63, 64] (by decide +kernel) (by decide +kernel)
set_option maxRecDepth 20000 in
theorem gX0_commonDivisor_X4_divideBy : GoodIn wsX0_commonDivisor (wsV RX0 33 RX4 yX4_divideBy wsX4_divideBy) := goodIn_app (goodIn_of _ (by decide +kernel)) ggX0_commonDivisor_X4_divideBy
set_option maxRecDepth 20000 in
theorem ggX0_commonDivisor_X4_leading : GoodIn wsX0_commonDivisor wsX4_leading := goodIn_r _ [32, 11, 12, 13, 14, 8, 15, 10, 63, 64] (by decide +kernel) (by decide +kernel)
set_option maxRecDepth 20000 in
theorem gX0_commonDivisor_X4_leading : GoodIn wsX0_commonDivisor (wsV RX0 37 RX4 yX4_leading wsX4_leading) := goodIn_app (goodIn_of _ (by decide +kernel)) ggX0_commonDivisor_X4_leading
set_option maxRecDepth 20000 in
theorem ggX0_commonDivisor_X7_inverse : GoodIn wsX0_commonDivisor wsX7_inverse := goodIn_r _ [35] (by decide +kernel) (by decide +kernel)
set_option maxRecDepth 20000 in
theorem gX0_commonDivisor_X7_inverse_n41 : GoodIn wsX0_commonDivisor (wsX7_inverse) := ggX0_commonDivisor_X7_inverse
set_option maxRecDepth 20000 in
theorem ggX0_commonDivisor_X4_scaleBy : GoodIn wsX0_commonDivisor wsX4_scaleBy := goodIn_r _ [58, 10, 11, 44, 45, 46, 8, 47, 63, 64] (by decide +kernel) (by decide +kernel)
set_option maxRecDepth 20000 in
theorem gX0_commonDivisor_X4_scaleBy : GoodIn wsX0_commonDivisor (wsV RX0 47 RX4 yX4_scaleBy wsX4_scaleBy) := goodIn_app (goodIn_of _ (by decide +kernel)) ggX0_commonDivisor_X4_scaleBy
set_option maxRecDepth 20000 in
theorem ggX0_divideOut_X4_divideBy : GoodIn wsX0_divideOut wsX4_divideBy := goodIn_r _ [6, 7, 8, 9, 10, 5, 11, 12, 13, 14, 15, 16, 17, 18, 19, 20, 21, 22, 23, 24, 25, 26, 27, 28, 29, 30, 31, 32, 33, 34, 35, 36, 37, 38, 39, 40, 41, 42, 43, 44, 45, 54, 55] (by decide +kernel) (by decide +kernel)
set_option maxRecDepth 20000 in
theorem gX0_divideOut_X4_divideBy : GoodIn wsX0_divideOut (wsV RX0 33 RX4 yX4_divideBy wsX4_divideBy) := goodIn_app (goodIn_of _ (by decide +kernel)) ggX0_divideOut_X4_divideBy
set_option maxRecDepth 20000 in
theorem ggX0_divideOut_X4_copyFrom : GoodIn wsX0_divideOut wsX4_copyFrom := goodIn_r _ [49, 12, 7, 21, 22, 23, 5, 24, 54, 55] (by decide +kernel) (by decide +kernel)
set_option maxRecDepth 20000 in
theorem gX0_divideOut_X4_copyFrom : GoodIn wsX0_divideOut (wsV RX0 25 RX4 yX4_copyFrom wsX4_copyFrom) := goodIn_app (goodIn_of _ (by decide +kernel)) ggX0_divideOut_X4_copyFrom
end
section
theorem in_X0_init_X4 : ∀ w ∈ u_ws RX4 TX4 2, w ∈ wsX0_init := by decide +kernel
theorem in_X0_init_X0 : ∀ w ∈ u_ws RX0 TX0 4, w ∈ wsX0_init := by decide +kernel
theorem lk_X0_init_first : Cond.fieldLink yX0_init.cls 10 (TX0 0).1 (TX0 0).2.1 (TX0 0).2.2.1 ∈ wsX0_init := by decide +kernel
theorem lk_X0_init_second : Cond.fieldLink yX0_init.cls 16 (TX0 1).1 (TX0 1).2.1 (TX0 1).2.2.1 ∈ wsX0_init := by decide +kernel
theorem lk_X0_init_quotient : Cond.fieldLink yX0_init.cls 19 (TX0 2).1 (TX0 2).2.1 (TX0 2).2.2.1 ∈ wsX0_init := by decide +kernel
theorem lk_X0_init_common : Cond.fieldLink yX0_init.cls 22 (TX0 3).1 (TX0 3).2.1 (TX0 3).2.2.1 ∈ wsX0_init := by decide +kernel
theorem nw_X0_init_X4 : Cond.classLink yX0_init.cls 7 RX4 ∈ wsX0_init ∧ Cond.instantiable RX4 2 ∈ wsX0_init ∧ Cond.initialized RX4 ∈ wsX0_init := by decide +kernel
set_option maxHeartbeats 4000000 in
set_option maxRecDepth 100000 in
theorem c_X0_init (E : ev) (l : Launch) (h : Nat) : Mv E l yX0_init wsX0_init { frames := 2, cells := 8, slots := 140, locals := 60 } [.ref h] [(h, .inr (0, [.null, .null, .null, .null]))] (fun w => ∃ f1 q1 f2 q2 f3 q3 f4 q4 : Nat, w = [(h, .inr (0, [.ref f1, .ref f2, .ref f3, .ref f4])), cP f1 q1 (hi zr), aP E q1 zr, cP f2 q2 (hi zr), aP E q2 zr, cP f3 q3 (hi zr), aP E q3 zr, cP f4 q4 (hi zr), aP E q4 zr]) 8 140 := by
  refine enter_v (cc := cX0_init) (nL := 1) (by decide) rfl (Nat.le_of_ble_eq_true rfl) (fun G C hret => ?_)
  show G 0 0 [(h, .inr (0, [.null, .null, .null, .null]))] [(0, .ref h)] 0 []
  refine g_aload_n C dX0_init_0 0 rfl ?_
  refine g_objInit C (by decide +kernel) (List.mem_cons_of_mem _ (List.mem_of_getElem? (i := 2) rfl)) dX0_init_1 (by decide) (Nat.le_of_ble_eq_true rfl) ?_
  refine g_aload_n C dX0_init_4 0 rfl ?_
  refine g_new (ci := 4) C [.null, .int (zI 0)] tyX4 tyX4_ok rfl in_X0_init_X4 nw_X0_init_X4 (by decide +kernel) (by decide) dX0_init_5 (fun q_5 => ?_)
  refine g_eq (ws' := [(h, .inr (0, [.null, .null, .null, .null])), (q_5, .inr (4, [.null, .int (zI 0)]))]) rfl rfl rfl ?_
  refine g_dup C dX0_init_8 rfl ?_
  refine g_callI (n := 0) (wr := [(h, .inr (0, [.null, .null, .null, .null]))]) C (c_X4_init E l q_5) (Or.inl (by decide +kernel)) gX0_init_X4_init_n9 (by decide +kernel) rfl (by decide +kernel) rfl (by decide) dX0_init_9 rfl (Nat.le_of_ble_eq_true rfl) [1] [0] rfl rfl (by decide) (fun w_9 h_9 => ?_)
  obtain ⟨p_9, rfl⟩ := h_9
  refine g_eq (ws' := [(h, .inr (0, [.null, .null, .null, .null])), cP q_5 p_9 (hi zr), aP E p_9 zr]) rfl rfl rfl ?_
  refine g_putF C [(h, .inr (0, [.ref q_5, .null, .null, .null])), cP q_5 p_9 (hi zr), aP E p_9 zr] tyX0 tyX0_ok nmX0 0 rfl rfl 0 (by decide) in_X0_init_X0 lk_X0_init_first rfl rfl rfl rfl (Nat.le_of_ble_eq_true rfl) dX0_init_12 rfl rfl ?_
  refine g_aload_n C dX0_init_15 0 rfl ?_
  refine g_new (ci := 4) C [.null, .int (zI 0)] tyX4 tyX4_ok rfl in_X0_init_X4 nw_X0_init_X4 (by decide +kernel) (by decide) dX0_init_16 (fun q_16 => ?_)
  refine g_eq (ws' := [(h, .inr (0, [.ref q_5, .null, .null, .null])), cP q_5 p_9 (hi zr), aP E p_9 zr, (q_16, .inr (4, [.null, .int (zI 0)]))]) rfl rfl rfl ?_
  refine g_dup C dX0_init_19 rfl ?_
  refine g_callI (n := 0) (wr := [(h, .inr (0, [.ref q_5, .null, .null, .null])), cP q_5 p_9 (hi zr), aP E p_9 zr]) C (c_X4_init E l q_16) (Or.inl (by decide +kernel)) gX0_init_X4_init_n9 (by decide +kernel) rfl (by decide +kernel) rfl (by decide) dX0_init_20 rfl (Nat.le_of_ble_eq_true rfl) [3] [0, 1, 2] rfl rfl (by decide) (fun w_20 h_20 => ?_)
  obtain ⟨p_20, rfl⟩ := h_20
  refine g_eq (ws' := [(h, .inr (0, [.ref q_5, .null, .null, .null])), cP q_5 p_9 (hi zr), aP E p_9 zr, cP q_16 p_20 (hi zr), aP E p_20 zr]) rfl rfl rfl ?_
  refine g_putF C [(h, .inr (0, [.ref q_5, .ref q_16, .null, .null])), cP q_5 p_9 (hi zr), aP E p_9 zr, cP q_16 p_20 (hi zr), aP E p_20 zr] tyX0 tyX0_ok nmX0 0 rfl rfl 1 (by decide) in_X0_init_X0 lk_X0_init_second rfl rfl rfl rfl (Nat.le_of_ble_eq_true rfl) dX0_init_23 rfl rfl ?_
  refine g_aload_n C dX0_init_26 0 rfl ?_
  refine g_new (ci := 4) C [.null, .int (zI 0)] tyX4 tyX4_ok rfl in_X0_init_X4 nw_X0_init_X4 (by decide +kernel) (by decide) dX0_init_27 (fun q_27 => ?_)
  refine g_eq (ws' := [(h, .inr (0, [.ref q_5, .ref q_16, .null, .null])), cP q_5 p_9 (hi zr), aP E p_9 zr, cP q_16 p_20 (hi zr), aP E p_20 zr, (q_27, .inr (4, [.null, .int (zI 0)]))]) rfl rfl rfl ?_
  refine g_dup C dX0_init_30 rfl ?_
  refine g_callI (n := 0) (wr := [(h, .inr (0, [.ref q_5, .ref q_16, .null, .null])), cP q_5 p_9 (hi zr), aP E p_9 zr, cP q_16 p_20 (hi zr), aP E p_20 zr]) C (c_X4_init E l q_27) (Or.inl (by decide +kernel)) gX0_init_X4_init_n9 (by decide +kernel) rfl (by decide +kernel) rfl (by decide) dX0_init_31 rfl (Nat.le_of_ble_eq_true rfl) [5] [0, 1, 2, 3, 4] rfl rfl (by decide) (fun w_31 h_31 => ?_)
  obtain ⟨p_31, rfl⟩ := h_31
  refine g_eq (ws' := [(h, .inr (0, [.ref q_5, .ref q_16, .null, .null])), cP q_5 p_9 (hi zr), aP E p_9 zr, cP q_16 p_20 (hi zr), aP E p_20 zr, cP q_27 p_31 (hi zr), aP E p_31 zr]) rfl rfl rfl ?_
  refine g_putF C [(h, .inr (0, [.ref q_5, .ref q_16, .ref q_27, .null])), cP q_5 p_9 (hi zr), aP E p_9 zr, cP q_16 p_20 (hi zr), aP E p_20 zr, cP q_27 p_31 (hi zr), aP E p_31 zr] tyX0 tyX0_ok nmX0 0 rfl rfl 2 (by decide) in_X0_init_X0 lk_X0_init_quotient rfl rfl rfl rfl (Nat.le_of_ble_eq_true rfl) dX0_init_34 rfl rfl ?_
  refine g_aload_n C dX0_init_37 0 rfl ?_
  refine g_new (ci := 4) C [.null, .int (zI 0)] tyX4 tyX4_ok rfl in_X0_init_X4 nw_X0_init_X4 (by decide +kernel) (by decide) dX0_init_38 (fun q_38 => ?_)
  refine g_eq (ws' := [(h, .inr (0, [.ref q_5, .ref q_16, .ref q_27, .null])), cP q_5 p_9 (hi zr), aP E p_9 zr, cP q_16 p_20 (hi zr), aP E p_20 zr, cP q_27 p_31 (hi zr), aP E p_31 zr, (q_38, .inr (4, [.null, .int (zI 0)]))]) rfl rfl rfl ?_
  refine g_dup C dX0_init_41 rfl ?_
  refine g_callI (n := 0) (wr := [(h, .inr (0, [.ref q_5, .ref q_16, .ref q_27, .null])), cP q_5 p_9 (hi zr), aP E p_9 zr, cP q_16 p_20 (hi zr), aP E p_20 zr, cP q_27 p_31 (hi zr), aP E p_31 zr]) C (c_X4_init E l q_38) (Or.inl (by decide +kernel)) gX0_init_X4_init_n9 (by decide +kernel) rfl (by decide +kernel) rfl (by decide) dX0_init_42 rfl (Nat.le_of_ble_eq_true rfl) [7] [0, 1, 2, 3, 4, 5, 6] rfl rfl (by decide) (fun w_42 h_42 => ?_)
  obtain ⟨p_42, rfl⟩ := h_42
  refine g_eq (ws' := [(h, .inr (0, [.ref q_5, .ref q_16, .ref q_27, .null])), cP q_5 p_9 (hi zr), aP E p_9 zr, cP q_16 p_20 (hi zr), aP E p_20 zr, cP q_27 p_31 (hi zr), aP E p_31 zr, cP q_38 p_42 (hi zr), aP E p_42 zr]) rfl rfl rfl ?_
  refine g_putF C [(h, .inr (0, [.ref q_5, .ref q_16, .ref q_27, .ref q_38])), cP q_5 p_9 (hi zr), aP E p_9 zr, cP q_16 p_20 (hi zr), aP E p_20 zr, cP q_27 p_31 (hi zr), aP E p_31 zr, cP q_38 p_42 (hi zr), aP E p_42 zr] tyX0 tyX0_ok nmX0 0 rfl rfl 3 (by decide) in_X0_init_X0 lk_X0_init_common rfl rfl rfl rfl (Nat.le_of_ble_eq_true rfl) dX0_init_45 rfl rfl ?_
  exact hret _ _ _ _ _ dX0_init_48 (by decide) (by decide) ⟨q_5, p_9, q_16, p_20, q_27, p_31, q_38, p_42, rfl⟩
theorem in_X0_divideOut_X0 : ∀ w ∈ u_ws RX0 TX0 4, w ∈ wsX0_divideOut := by decide +kernel
theorem lk_X0_divideOut_quotient : Cond.fieldLink yX0_divideOut.cls 19 (TX0 2).1 (TX0 2).2.1 (TX0 2).2.2.1 ∈ wsX0_divideOut := by decide +kernel
set_option maxHeartbeats 4000000 in
set_option maxRecDepth 100000 in
theorem c_X0_divideOut (E : ev) (l : Launch) (hd f1 f2 f3 q3 f4 ht qt hv qv : Nat) (u3 t v : Po) (hS3 : Sm u3) (hSt : Sm t) (hSv : Sm v) (hv0 : 0 ≤ hi v) : Mv E l yX0_divideOut wsX0_divideOut { frames := 3, cells := 0, slots := 0, locals := 90 } [.ref hd, .ref ht, .ref hv] [(hd, .inr (0, [.ref f1, .ref f2, .ref f3, .ref f4])), cP f3 q3 (hi u3), aP E q3 u3, cP ht qt (hi t), aP E qt t, cP hv qv (hi v), aP E qv v] (fun w => w = [(hd, .inr (0, [.ref f1, .ref f2, .ref f3, .ref f4])), cP f3 q3 (hi (quo t v)), aP E q3 (quo t v), cP ht qt (hi (quo t v)), aP E qt (quo t v), cP hv qv (hi v), aP E qv v]) 0 0 := by
  refine enter_v (cc := cX0_divideOut) (nL := 3) (by decide) rfl (Nat.le_of_ble_eq_true rfl) (fun G C hret => ?_)
  show G 0 0 [(hd, .inr (0, [.ref f1, .ref f2, .ref f3, .ref f4])), cP f3 q3 (hi u3), aP E q3 u3, cP ht qt (hi t), aP E qt t, cP hv qv (hi v), aP E qv v] [(0, .ref hd), (1, .ref ht), (2, .ref hv)] 0 []
  refine g_aload_n C dX0_divideOut_0 1 rfl ?_
  refine g_aload_n C dX0_divideOut_1 2 rfl ?_
  refine g_aload_n C dX0_divideOut_2 0 rfl ?_
  refine g_get C 0 rfl rfl 2 (by decide) in_X0_divideOut_X0 lk_X0_divideOut_quotient rfl dX0_divideOut_3 ?_
  refine g_callV (n := 2) (wr := [(hd, .inr (0, [.ref f1, .ref f2, .ref f3, .ref f4]))]) C (c_X4_divideBy E l ht qt hv qv f3 q3 t v u3 hSt hSv hS3 hv0) gX0_divideOut_X4_divideBy rfl (by decide +kernel) rfl (by decide) dX0_divideOut_6 rfl (Nat.le_of_ble_eq_true rfl) rfl rfl [3, 4, 5, 6, 1, 2] [0] rfl rfl (by decide) (fun w_6 h_6 => ?_)
  obtain rfl := h_6
  refine g_eq (ws' := [(hd, .inr (0, [.ref f1, .ref f2, .ref f3, .ref f4])), cP ht qt (hi (rem t v)), aP E qt (rem t v), cP hv qv (hi v), aP E qv v, cP f3 q3 (hi (quo t v)), aP E q3 (quo t v)]) rfl rfl rfl ?_
  refine g_aload_n C dX0_divideOut_9 1 rfl ?_
  refine g_aload_n C dX0_divideOut_10 0 rfl ?_
  refine g_get C 0 rfl rfl 2 (by decide) in_X0_divideOut_X0 lk_X0_divideOut_quotient rfl dX0_divideOut_11 ?_
  refine g_callV (n := 1) (wr := [(hd, .inr (0, [.ref f1, .ref f2, .ref f3, .ref f4])), cP hv qv (hi v), aP E qv v]) C (c_X4_copyFrom E l ht qt f3 q3 (rem t v) (quo t v) (rem_Sm hSt hSv hv0) (quo_Sm hSt hSv hv0)) gX0_divideOut_X4_copyFrom rfl (by decide +kernel) rfl (by decide) dX0_divideOut_14 rfl (Nat.le_of_ble_eq_true rfl) rfl rfl [1, 2, 5, 6] [0, 3, 4] rfl rfl (by decide) (fun w_14 h_14 => ?_)
  obtain rfl := h_14
  refine g_eq (ws' := [(hd, .inr (0, [.ref f1, .ref f2, .ref f3, .ref f4])), cP hv qv (hi v), aP E qv v, cP ht qt (hi (quo t v)), aP E qt (quo t v), cP f3 q3 (hi (quo t v)), aP E q3 (quo t v)]) rfl rfl rfl ?_
  refine g_wsub (ws' := [(hd, .inr (0, [.ref f1, .ref f2, .ref f3, .ref f4])), cP f3 q3 (hi (quo t v)), aP E q3 (quo t v), cP ht qt (hi (quo t v)), aP E qt (quo t v), cP hv qv (hi v), aP E qv v]) C [0, 5, 6, 3, 4, 1, 2] (by decide) rfl rfl ?_
  exact hret _ _ _ _ _ dX0_divideOut_17 (by decide) (by decide) rfl
theorem in_X0_commonDivisor_X0 : ∀ w ∈ u_ws RX0 TX0 4, w ∈ wsX0_commonDivisor := by decide +kernel
theorem lk_X0_commonDivisor_first : Cond.fieldLink yX0_commonDivisor.cls 10 (TX0 0).1 (TX0 0).2.1 (TX0 0).2.2.1 ∈ wsX0_commonDivisor := by decide +kernel
theorem lk_X0_commonDivisor_second : Cond.fieldLink yX0_commonDivisor.cls 16 (TX0 1).1 (TX0 1).2.1 (TX0 1).2.2.1 ∈ wsX0_commonDivisor := by decide +kernel
theorem lk_X0_commonDivisor_quotient : Cond.fieldLink yX0_commonDivisor.cls 19 (TX0 2).1 (TX0 2).2.1 (TX0 2).2.2.1 ∈ wsX0_commonDivisor := by decide +kernel
theorem lk_X0_commonDivisor_common : Cond.fieldLink yX0_commonDivisor.cls 22 (TX0 3).1 (TX0 3).2.1 (TX0 3).2.2.1 ∈ wsX0_commonDivisor := by decide +kernel
set_option maxHeartbeats 4000000 in
set_option maxRecDepth 100000 in
theorem c_X0_commonDivisor (E : ev) (l : Launch) (hd f1 q1 f2 q2 f3 q3 f4 q4 h1 p1 h2 p2 : Nat) (u1 u2 u3 u4 a b : Po) (hS1 : Sm u1) (hS2 : Sm u2) (hS3 : Sm u3) (hS4 : Sm u4) (hSa : Sm a) (hSb : Sm b) : Mr E l yX0_commonDivisor wsX0_commonDivisor { frames := 3, cells := 0, slots := 0, locals := 90 } [.ref hd, .ref h1, .ref h2] [(hd, .inr (0, [.ref f1, .ref f2, .ref f3, .ref f4])), cP f1 q1 (hi u1), aP E q1 u1, cP f2 q2 (hi u2), aP E q2 u2, cP f3 q3 (hi u3), aP E q3 u3, cP f4 q4 (hi u4), aP E q4 u4, cP h1 p1 (hi a), aP E p1 a, cP h2 p2 (hi b), aP E p2 b] (fun r w => r = f4 ∧ ∃ v1 v2 v3 : Po, (Sm v1 ∧ Sm v2 ∧ Sm v3) ∧ w = [(hd, .inr (0, [.ref f1, .ref f2, .ref f3, .ref f4])), cP f1 q1 (hi v1), aP E q1 v1, cP f2 q2 (hi v2), aP E q2 v2, cP f3 q3 (hi v3), aP E q3 v3, cP f4 q4 (hi (gm a b)), aP E q4 (gm a b), cP h1 p1 (hi a), aP E p1 a, cP h2 p2 (hi b), aP E p2 b]) 0 0 := by
  refine enter_r (cc := cX0_commonDivisor) (nL := 7) (by decide) rfl (Nat.le_of_ble_eq_true rfl) (fun G C hret => ?_)
  show G 0 0 [(hd, .inr (0, [.ref f1, .ref f2, .ref f3, .ref f4])), cP f1 q1 (hi u1), aP E q1 u1, cP f2 q2 (hi u2), aP E q2 u2, cP f3 q3 (hi u3), aP E q3 u3, cP f4 q4 (hi u4), aP E q4 u4, cP h1 p1 (hi a), aP E p1 a, cP h2 p2 (hi b), aP E p2 b] [(0, .ref hd), (1, .ref h1), (2, .ref h2)] 0 []
  refine g_aload_n C dX0_commonDivisor_0 0 rfl ?_
  refine g_get C 0 rfl rfl 0 (by decide) in_X0_commonDivisor_X0 lk_X0_commonDivisor_first rfl dX0_commonDivisor_1 ?_
  refine g_aload_n C dX0_commonDivisor_4 1 rfl ?_
  refine g_callV (n := 1) (wr := [(hd, .inr (0, [.ref f1, .ref f2, .ref f3, .ref f4])), cP f2 q2 (hi u2), aP E q2 u2, cP f3 q3 (hi u3), aP E q3 u3, cP f4 q4 (hi u4), aP E q4 u4, cP h2 p2 (hi b), aP E p2 b]) C (c_X4_copyFrom E l f1 q1 h1 p1 u1 a hS1 hSa) gX0_commonDivisor_X4_copyFrom rfl (by decide +kernel) rfl (by decide) dX0_commonDivisor_5 rfl (Nat.le_of_ble_eq_true rfl) rfl rfl [1, 2, 9, 10] [0, 3, 4, 5, 6, 7, 8, 11, 12] rfl rfl (by decide) (fun w_5 h_5 => ?_)
  obtain rfl := h_5
  refine g_eq (ws' := [(hd, .inr (0, [.ref f1, .ref f2, .ref f3, .ref f4])), cP f2 q2 (hi u2), aP E q2 u2, cP f3 q3 (hi u3), aP E q3 u3, cP f4 q4 (hi u4), aP E q4 u4, cP h2 p2 (hi b), aP E p2 b, cP f1 q1 (hi a), aP E q1 a, cP h1 p1 (hi a), aP E p1 a]) rfl rfl rfl ?_
  refine g_aload_n C dX0_commonDivisor_8 0 rfl ?_
  refine g_get C 0 rfl rfl 1 (by decide) in_X0_commonDivisor_X0 lk_X0_commonDivisor_second rfl dX0_commonDivisor_9 ?_
  refine g_aload_n C dX0_commonDivisor_12 2 rfl ?_
  refine g_callV (n := 1) (wr := [(hd, .inr (0, [.ref f1, .ref f2, .ref f3, .ref f4])), cP f3 q3 (hi u3), aP E q3 u3, cP f4 q4 (hi u4), aP E q4 u4, cP f1 q1 (hi a), aP E q1 a, cP h1 p1 (hi a), aP E p1 a]) C (c_X4_copyFrom E l f2 q2 h2 p2 u2 b hS2 hSb) gX0_commonDivisor_X4_copyFrom rfl (by decide +kernel) rfl (by decide) dX0_commonDivisor_13 rfl (Nat.le_of_ble_eq_true rfl) rfl rfl [1, 2, 7, 8] [0, 3, 4, 5, 6, 9, 10, 11, 12] rfl rfl (by decide) (fun w_13 h_13 => ?_)
  obtain rfl := h_13
  refine g_eq (ws' := [(hd, .inr (0, [.ref f1, .ref f2, .ref f3, .ref f4])), cP f3 q3 (hi u3), aP E q3 u3, cP f4 q4 (hi u4), aP E q4 u4, cP f1 q1 (hi a), aP E q1 a, cP h1 p1 (hi a), aP E p1 a, cP f2 q2 (hi b), aP E q2 b, cP h2 p2 (hi b), aP E p2 b]) rfl rfl rfl ?_
  refine g_aload_n C dX0_commonDivisor_16 0 rfl ?_
  refine g_get C 0 rfl rfl 0 (by decide) in_X0_commonDivisor_X0 lk_X0_commonDivisor_first rfl dX0_commonDivisor_17 ?_
  refine g_astore_n C [(3, .ref f1), (0, .ref hd), (1, .ref h1), (2, .ref h2)] dX0_commonDivisor_20 (by decide) rfl ?_
  refine g_aload_n C dX0_commonDivisor_21 1 rfl ?_
  refine g_get C 0 rfl rfl 1 (by decide) in_X0_commonDivisor_X0 lk_X0_commonDivisor_second rfl dX0_commonDivisor_22 ?_
  refine g_astore C [(4, .ref f2), (3, .ref f1), (0, .ref hd), (1, .ref h1), (2, .ref h2)] dX0_commonDivisor_25 (by decide) rfl ?_
  refine g_iconst C dX0_commonDivisor_27 ?_
  refine g_istore C [(5, .int (zI 0)), (4, .ref f2), (3, .ref f1), (0, .ref hd), (1, .ref h1), (2, .ref h2)] dX0_commonDivisor_28 (by decide) rfl ?_
  have lp_o : ∀ (n_o : Nat) (r : Int) (n : Nat) (L : Nat) (qL : Nat) (S : Nat) (qS : Nat) (x : Po) (y : Po) (z : Po), (r = 66 - (n : Int)) → (n ≤ 66) → (eu n x y = eu 66 a b) → (Sm x) → (Sm y) → (Sm z) → ((L = f1 ∧ qL = q1 ∧ S = f2 ∧ qS = q2) ∨ (L = f2 ∧ qL = q2 ∧ S = f1 ∧ qS = q1)) → n < n_o → G 0 0 [(hd, .inr (0, [.ref f1, .ref f2, .ref f3, .ref f4])), cP L qL (hi x), aP E qL x, cP S qS (hi y), aP E qS y, cP f3 q3 (hi z), aP E q3 z, cP f4 q4 (hi u4), aP E q4 u4, cP h1 p1 (hi a), aP E p1 a, cP h2 p2 (hi b), aP E p2 b] [(5, .int (zI r)), (4, .ref S), (3, .ref L), (0, .ref hd), (1, .ref h1), (2, .ref h2)] 30 [] := by
    intro n_o
    induction n_o with
    | zero =>
      intro r n L qL S qS x y z hr hn he hSx hSy hSz hLS hm_o
      exact absurd hm_o (by omega)
    | succ n_o ih_o =>
      intro r n L qL S qS x y z hr hn he hSx hSy hSz hLS hm_o
      refine g_iload C dX0_commonDivisor_30 0 rfl ?_
      refine g_bipush C dX0_commonDivisor_32 rfl ?_
      refine g_icmp_ge C 71 dX0_commonDivisor_34 (by decide) (by (try split) <;> omega) (by (try split) <;> omega) (by (try split) <;> omega) (by (try split) <;> omega) (fun c_34 => ?_) (fun c_34 => ?_)
      · have ex : x = eu 66 a b := by rw [← he, show n = 0 by omega]; rfl
        refine g_aload_n C dX0_commonDivisor_71 3 rfl ?_
        refine g_get C 0 rfl rfl 3 (by decide) in_X0_commonDivisor_X0 lk_X0_commonDivisor_common rfl dX0_commonDivisor_72 ?_
        refine g_aload_n C dX0_commonDivisor_75 2 rfl ?_
        refine g_callV (n := 1) (wr := [(hd, .inr (0, [.ref f1, .ref f2, .ref f3, .ref f4])), cP S qS (hi y), aP E qS y, cP f3 q3 (hi z), aP E q3 z, cP h1 p1 (hi a), aP E p1 a, cP h2 p2 (hi b), aP E p2 b]) C (c_X4_copyFrom E l f4 q4 L qL u4 x hS4 hSx) gX0_commonDivisor_X4_copyFrom rfl (by decide +kernel) rfl (by decide) dX0_commonDivisor_76 rfl (Nat.le_of_ble_eq_true rfl) rfl rfl [7, 8, 1, 2] [0, 3, 4, 5, 6, 9, 10, 11, 12] rfl rfl (by decide) (fun w_76 h_76 => ?_)
        obtain rfl := h_76
        refine g_eq (ws' := [(hd, .inr (0, [.ref f1, .ref f2, .ref f3, .ref f4])), cP S qS (hi y), aP E qS y, cP f3 q3 (hi z), aP E q3 z, cP h1 p1 (hi a), aP E p1 a, cP h2 p2 (hi b), aP E p2 b, cP f4 q4 (hi x), aP E q4 x, cP L qL (hi x), aP E qL x]) rfl rfl rfl ?_
        refine g_aload_n C dX0_commonDivisor_79 3 rfl ?_
        refine g_get C 0 rfl rfl 3 (by decide) in_X0_commonDivisor_X0 lk_X0_commonDivisor_common rfl dX0_commonDivisor_80 ?_
        refine g_aload_n C dX0_commonDivisor_83 3 rfl ?_
        refine g_get C 0 rfl rfl 3 (by decide) in_X0_commonDivisor_X0 lk_X0_commonDivisor_common rfl dX0_commonDivisor_84 ?_
        refine g_callVi (n := 0) (wr := [(hd, .inr (0, [.ref f1, .ref f2, .ref f3, .ref f4])), cP S qS (hi y), aP E qS y, cP f3 q3 (hi z), aP E q3 z, cP h1 p1 (hi a), aP E p1 a, cP h2 p2 (hi b), aP E p2 b, cP L qL (hi x), aP E qL x]) C (c_X4_leading E l f4 q4 x hSx) gX0_commonDivisor_X4_leading rfl (by decide +kernel) rfl (by decide) dX0_commonDivisor_87 rfl (Nat.le_of_ble_eq_true rfl) rfl rfl [9, 10] [0, 1, 2, 3, 4, 5, 6, 7, 8, 11, 12] rfl rfl (by decide) (fun r_87 w_87 h_87 => ?_)
        obtain ⟨rfl, rfl⟩ := h_87
        refine g_eq (ws' := [(hd, .inr (0, [.ref f1, .ref f2, .ref f3, .ref f4])), cP S qS (hi y), aP E qS y, cP f3 q3 (hi z), aP E q3 z, cP h1 p1 (hi a), aP E p1 a, cP h2 p2 (hi b), aP E p2 b, cP L qL (hi x), aP E qL x, cP f4 q4 (hi x), aP E q4 x]) rfl rfl rfl ?_
        refine g_callSNi (n := 1) C (c_X7_inverse E l (nm x (hi x))) (by decide +kernel) gX0_commonDivisor_X7_inverse_n41 (by decide +kernel) rfl (by decide +kernel) rfl (by decide) dX0_commonDivisor_90 rfl (Nat.le_of_ble_eq_true rfl) (fun r_90 h_90 => ?_)
        obtain ⟨_, rfl, -⟩ := h_90
        refine g_callV (n := 1) (wr := [(hd, .inr (0, [.ref f1, .ref f2, .ref f3, .ref f4])), cP S qS (hi y), aP E qS y, cP f3 q3 (hi z), aP E q3 z, cP h1 p1 (hi a), aP E p1 a, cP h2 p2 (hi b), aP E p2 b, cP L qL (hi x), aP E qL x]) C (c_X4_scaleBy E l f4 q4 x (ivq (nm x (hi x))) hSx) gX0_commonDivisor_X4_scaleBy rfl (by decide +kernel) rfl (by decide) dX0_commonDivisor_93 rfl (Nat.le_of_ble_eq_true rfl) rfl rfl [11, 12] [0, 1, 2, 3, 4, 5, 6, 7, 8, 9, 10] rfl rfl (by decide) (fun w_93 h_93 => ?_)
        obtain rfl := h_93
        refine g_eq (ws' := [(hd, .inr (0, [.ref f1, .ref f2, .ref f3, .ref f4])), cP S qS (hi y), aP E qS y, cP f3 q3 (hi z), aP E q3 z, cP h1 p1 (hi a), aP E p1 a, cP h2 p2 (hi b), aP E p2 b, cP L qL (hi x), aP E qL x, cP f4 q4 (hi (sc x (ivq (nm x (hi x))))), aP E q4 (sc x (ivq (nm x (hi x))))]) rfl rfl rfl ?_
        refine g_aload_n C dX0_commonDivisor_96 3 rfl ?_
        refine g_get C 0 rfl rfl 3 (by decide) in_X0_commonDivisor_X0 lk_X0_commonDivisor_common rfl dX0_commonDivisor_97 ?_
        refine g_wsub (ws' := [(hd, .inr (0, [.ref f1, .ref f2, .ref f3, .ref f4])), cP L qL (hi x), aP E qL x, cP S qS (hi y), aP E qS y, cP f3 q3 (hi z), aP E q3 z, cP f4 q4 (hi (sc x (ivq (nm x (hi x))))), aP E q4 (sc x (ivq (nm x (hi x)))), cP h1 p1 (hi a), aP E p1 a, cP h2 p2 (hi b), aP E p2 b]) C [0, 9, 10, 1, 2, 3, 4, 11, 12, 5, 6, 7, 8] (by decide) rfl rfl ?_
        have eg : gm a b = sc x (ivq (nm x (hi x))) := by unfold gm mon; rw [← ex]
        rcases hLS with ⟨rfl, rfl, rfl, rfl⟩ | ⟨rfl, rfl, rfl, rfl⟩
        · exact hret _ _ _ _ _ _ dX0_commonDivisor_100 (by decide) (by decide) ⟨rfl, x, y, z, ⟨hSx, hSy, hSz⟩, by rw [eg]⟩
        · refine g_wsub (ws' := [(hd, .inr (0, [.ref S, .ref L, .ref f3, .ref f4])), cP S qS (hi y), aP E qS y, cP L qL (hi x), aP E qL x, cP f3 q3 (hi z), aP E q3 z, cP f4 q4 (hi (sc x (ivq (nm x (hi x))))), aP E q4 (sc x (ivq (nm x (hi x)))), cP h1 p1 (hi a), aP E p1 a, cP h2 p2 (hi b), aP E p2 b]) C [0, 3, 4, 1, 2, 5, 6, 7, 8, 9, 10, 11, 12] (by decide) rfl rfl ?_
          exact hret _ _ _ _ _ _ dX0_commonDivisor_100 (by decide) (by decide) ⟨rfl, y, x, z, ⟨hSy, hSx, hSz⟩, by rw [eg]⟩
      · obtain ⟨n2, rfl⟩ : ∃ n2, n = n2 + 1 := ⟨n - 1, by omega⟩
        refine g_aload C dX0_commonDivisor_37 1 rfl ?_
        refine g_callVi (n := 0) (wr := [(hd, .inr (0, [.ref f1, .ref f2, .ref f3, .ref f4])), cP L qL (hi x), aP E qL x, cP f3 q3 (hi z), aP E q3 z, cP f4 q4 (hi u4), aP E q4 u4, cP h1 p1 (hi a), aP E p1 a, cP h2 p2 (hi b), aP E p2 b]) C (c_X4_isZero E l S qS y) gX0_commonDivisor_X4_isZero rfl (by decide +kernel) rfl (by decide) dX0_commonDivisor_39 rfl (Nat.le_of_ble_eq_true rfl) rfl rfl [3, 4] [0, 1, 2, 5, 6, 7, 8, 9, 10, 11, 12] rfl rfl (by decide) (fun r_39 w_39 h_39 => ?_)
        obtain ⟨rfl, rfl⟩ := h_39
        refine g_eq (ws' := [(hd, .inr (0, [.ref f1, .ref f2, .ref f3, .ref f4])), cP L qL (hi x), aP E qL x, cP f3 q3 (hi z), aP E q3 z, cP f4 q4 (hi u4), aP E q4 u4, cP h1 p1 (hi a), aP E p1 a, cP h2 p2 (hi b), aP E p2 b, cP S qS (hi y), aP E qS y]) rfl rfl rfl ?_
        refine g_if_ne C 71 dX0_commonDivisor_42 (by decide) (by (try split) <;> omega) (by (try split) <;> omega) (fun c_42 => ?_) (fun c_42 => ?_)
        · have ey : hi y < 0 := by rcases Classical.em (hi y < 0) with g | g; exact g; (rw [if_neg g] at c_42; exact absurd rfl c_42)
          have ex : x = eu 66 a b := by rw [← he, eu_zero _ _ _ ey]
          refine g_aload_n C dX0_commonDivisor_71 3 rfl ?_
          refine g_get C 0 rfl rfl 3 (by decide) in_X0_commonDivisor_X0 lk_X0_commonDivisor_common rfl dX0_commonDivisor_72 ?_
          refine g_aload_n C dX0_commonDivisor_75 2 rfl ?_
          refine g_callV (n := 1) (wr := [(hd, .inr (0, [.ref f1, .ref f2, .ref f3, .ref f4])), cP f3 q3 (hi z), aP E q3 z, cP h1 p1 (hi a), aP E p1 a, cP h2 p2 (hi b), aP E p2 b, cP S qS (hi y), aP E qS y]) C (c_X4_copyFrom E l f4 q4 L qL u4 x hS4 hSx) gX0_commonDivisor_X4_copyFrom rfl (by decide +kernel) rfl (by decide) dX0_commonDivisor_76 rfl (Nat.le_of_ble_eq_true rfl) rfl rfl [5, 6, 1, 2] [0, 3, 4, 7, 8, 9, 10, 11, 12] rfl rfl (by decide) (fun w_76 h_76 => ?_)
          obtain rfl := h_76
          refine g_eq (ws' := [(hd, .inr (0, [.ref f1, .ref f2, .ref f3, .ref f4])), cP f3 q3 (hi z), aP E q3 z, cP h1 p1 (hi a), aP E p1 a, cP h2 p2 (hi b), aP E p2 b, cP S qS (hi y), aP E qS y, cP f4 q4 (hi x), aP E q4 x, cP L qL (hi x), aP E qL x]) rfl rfl rfl ?_
          refine g_aload_n C dX0_commonDivisor_79 3 rfl ?_
          refine g_get C 0 rfl rfl 3 (by decide) in_X0_commonDivisor_X0 lk_X0_commonDivisor_common rfl dX0_commonDivisor_80 ?_
          refine g_aload_n C dX0_commonDivisor_83 3 rfl ?_
          refine g_get C 0 rfl rfl 3 (by decide) in_X0_commonDivisor_X0 lk_X0_commonDivisor_common rfl dX0_commonDivisor_84 ?_
          refine g_callVi (n := 0) (wr := [(hd, .inr (0, [.ref f1, .ref f2, .ref f3, .ref f4])), cP f3 q3 (hi z), aP E q3 z, cP h1 p1 (hi a), aP E p1 a, cP h2 p2 (hi b), aP E p2 b, cP S qS (hi y), aP E qS y, cP L qL (hi x), aP E qL x]) C (c_X4_leading E l f4 q4 x hSx) gX0_commonDivisor_X4_leading rfl (by decide +kernel) rfl (by decide) dX0_commonDivisor_87 rfl (Nat.le_of_ble_eq_true rfl) rfl rfl [9, 10] [0, 1, 2, 3, 4, 5, 6, 7, 8, 11, 12] rfl rfl (by decide) (fun r_87 w_87 h_87 => ?_)
          obtain ⟨rfl, rfl⟩ := h_87
          refine g_eq (ws' := [(hd, .inr (0, [.ref f1, .ref f2, .ref f3, .ref f4])), cP f3 q3 (hi z), aP E q3 z, cP h1 p1 (hi a), aP E p1 a, cP h2 p2 (hi b), aP E p2 b, cP S qS (hi y), aP E qS y, cP L qL (hi x), aP E qL x, cP f4 q4 (hi x), aP E q4 x]) rfl rfl rfl ?_
          refine g_callSNi (n := 1) C (c_X7_inverse E l (nm x (hi x))) (by decide +kernel) gX0_commonDivisor_X7_inverse_n41 (by decide +kernel) rfl (by decide +kernel) rfl (by decide) dX0_commonDivisor_90 rfl (Nat.le_of_ble_eq_true rfl) (fun r_90 h_90 => ?_)
          obtain ⟨_, rfl, -⟩ := h_90
          refine g_callV (n := 1) (wr := [(hd, .inr (0, [.ref f1, .ref f2, .ref f3, .ref f4])), cP f3 q3 (hi z), aP E q3 z, cP h1 p1 (hi a), aP E p1 a, cP h2 p2 (hi b), aP E p2 b, cP S qS (hi y), aP E qS y, cP L qL (hi x), aP E qL x]) C (c_X4_scaleBy E l f4 q4 x (ivq (nm x (hi x))) hSx) gX0_commonDivisor_X4_scaleBy rfl (by decide +kernel) rfl (by decide) dX0_commonDivisor_93 rfl (Nat.le_of_ble_eq_true rfl) rfl rfl [11, 12] [0, 1, 2, 3, 4, 5, 6, 7, 8, 9, 10] rfl rfl (by decide) (fun w_93 h_93 => ?_)
          obtain rfl := h_93
          refine g_eq (ws' := [(hd, .inr (0, [.ref f1, .ref f2, .ref f3, .ref f4])), cP f3 q3 (hi z), aP E q3 z, cP h1 p1 (hi a), aP E p1 a, cP h2 p2 (hi b), aP E p2 b, cP S qS (hi y), aP E qS y, cP L qL (hi x), aP E qL x, cP f4 q4 (hi (sc x (ivq (nm x (hi x))))), aP E q4 (sc x (ivq (nm x (hi x))))]) rfl rfl rfl ?_
          refine g_aload_n C dX0_commonDivisor_96 3 rfl ?_
          refine g_get C 0 rfl rfl 3 (by decide) in_X0_commonDivisor_X0 lk_X0_commonDivisor_common rfl dX0_commonDivisor_97 ?_
          refine g_wsub (ws' := [(hd, .inr (0, [.ref f1, .ref f2, .ref f3, .ref f4])), cP L qL (hi x), aP E qL x, cP S qS (hi y), aP E qS y, cP f3 q3 (hi z), aP E q3 z, cP f4 q4 (hi (sc x (ivq (nm x (hi x))))), aP E q4 (sc x (ivq (nm x (hi x)))), cP h1 p1 (hi a), aP E p1 a, cP h2 p2 (hi b), aP E p2 b]) C [0, 9, 10, 7, 8, 1, 2, 11, 12, 3, 4, 5, 6] (by decide) rfl rfl ?_
          have eg : gm a b = sc x (ivq (nm x (hi x))) := by unfold gm mon; rw [← ex]
          rcases hLS with ⟨rfl, rfl, rfl, rfl⟩ | ⟨rfl, rfl, rfl, rfl⟩
          · exact hret _ _ _ _ _ _ dX0_commonDivisor_100 (by decide) (by decide) ⟨rfl, x, y, z, ⟨hSx, hSy, hSz⟩, by rw [eg]⟩
          · refine g_wsub (ws' := [(hd, .inr (0, [.ref S, .ref L, .ref f3, .ref f4])), cP S qS (hi y), aP E qS y, cP L qL (hi x), aP E qL x, cP f3 q3 (hi z), aP E q3 z, cP f4 q4 (hi (sc x (ivq (nm x (hi x))))), aP E q4 (sc x (ivq (nm x (hi x)))), cP h1 p1 (hi a), aP E p1 a, cP h2 p2 (hi b), aP E p2 b]) C [0, 3, 4, 1, 2, 5, 6, 7, 8, 9, 10, 11, 12] (by decide) rfl rfl ?_
            exact hret _ _ _ _ _ _ dX0_commonDivisor_100 (by decide) (by decide) ⟨rfl, y, x, z, ⟨hSy, hSx, hSz⟩, by rw [eg]⟩
        · have ey : ¬ hi y < 0 := by rcases Classical.em (hi y < 0) with g | g; (rw [if_pos g] at c_42; exact absurd c_42 (by decide)); exact g
          refine g_aload_n C dX0_commonDivisor_45 2 rfl ?_
          refine g_aload C dX0_commonDivisor_46 1 rfl ?_
          refine g_aload_n C dX0_commonDivisor_48 3 rfl ?_
          refine g_get C 0 rfl rfl 2 (by decide) in_X0_commonDivisor_X0 lk_X0_commonDivisor_quotient rfl dX0_commonDivisor_49 ?_
          refine g_callV (n := 2) (wr := [(hd, .inr (0, [.ref f1, .ref f2, .ref f3, .ref f4])), cP f4 q4 (hi u4), aP E q4 u4, cP h1 p1 (hi a), aP E p1 a, cP h2 p2 (hi b), aP E p2 b]) C (c_X4_divideBy E l L qL S qS f3 q3 x y z hSx hSy hSz (by omega)) gX0_commonDivisor_X4_divideBy rfl (by decide +kernel) rfl (by decide) dX0_commonDivisor_52 rfl (Nat.le_of_ble_eq_true rfl) rfl rfl [1, 2, 11, 12, 3, 4] [0, 5, 6, 7, 8, 9, 10] rfl rfl (by decide) (fun w_52 h_52 => ?_)
          obtain rfl := h_52
          refine g_eq (ws' := [(hd, .inr (0, [.ref f1, .ref f2, .ref f3, .ref f4])), cP f4 q4 (hi u4), aP E q4 u4, cP h1 p1 (hi a), aP E p1 a, cP h2 p2 (hi b), aP E p2 b, cP L qL (hi (rem x y)), aP E qL (rem x y), cP S qS (hi y), aP E qS y, cP f3 q3 (hi (quo x y)), aP E q3 (quo x y)]) rfl rfl rfl ?_
          refine g_aload_n C dX0_commonDivisor_55 2 rfl ?_
          refine g_astore C [(6, .ref L), (5, .int (zI r)), (4, .ref S), (3, .ref L), (0, .ref hd), (1, .ref h1), (2, .ref h2)] dX0_commonDivisor_56 (by decide) rfl ?_
          refine g_aload C dX0_commonDivisor_58 2 rfl ?_
          refine g_astore_n C [(3, .ref S), (6, .ref L), (5, .int (zI r)), (4, .ref S), (0, .ref hd), (1, .ref h1), (2, .ref h2)] dX0_commonDivisor_60 (by decide) rfl ?_
          refine g_aload C dX0_commonDivisor_61 1 rfl ?_
          refine g_astore C [(4, .ref L), (3, .ref S), (6, .ref L), (5, .int (zI r)), (0, .ref hd), (1, .ref h1), (2, .ref h2)] dX0_commonDivisor_63 (by decide) rfl ?_
          refine g_iinc C [(5, .int (zI (r + 1))), (4, .ref L), (3, .ref S), (6, .ref L), (0, .ref hd), (1, .ref h1), (2, .ref h2)] dX0_commonDivisor_65 3 rfl (by decide) rfl ?_
          refine g_goto C 30 dX0_commonDivisor_68 (by decide) ?_
          refine g_lsub C [0, 1, 2, 4, 5, 6] rfl ?_
          refine g_wsub (ws' := [(hd, .inr (0, [.ref f1, .ref f2, .ref f3, .ref f4])), cP S qS (hi y), aP E qS y, cP L qL (hi (rem x y)), aP E qL (rem x y), cP f3 q3 (hi (quo x y)), aP E q3 (quo x y), cP f4 q4 (hi u4), aP E q4 u4, cP h1 p1 (hi a), aP E p1 a, cP h2 p2 (hi b), aP E p2 b]) C [0, 9, 10, 7, 8, 11, 12, 1, 2, 3, 4, 5, 6] (by decide) rfl rfl ?_
          exact ih_o (r + 1) n2 S qS L qL y (rem x y) (quo x y) (by omega) (by omega) (by rw [← he, eu, if_neg (by omega)]) hSy (rem_Sm hSx hSy (by omega)) (quo_Sm hSx hSy (by omega)) (by rcases hLS with ⟨h1, h2, h3, h4⟩ | ⟨h1, h2, h3, h4⟩; exact Or.inr ⟨h3, h4, h1, h2⟩; exact Or.inl ⟨h3, h4, h1, h2⟩) (by omega)
  refine g_wsub (ws' := [(hd, .inr (0, [.ref f1, .ref f2, .ref f3, .ref f4])), cP f1 q1 (hi a), aP E q1 a, cP f2 q2 (hi b), aP E q2 b, cP f3 q3 (hi u3), aP E q3 u3, cP f4 q4 (hi u4), aP E q4 u4, cP h1 p1 (hi a), aP E p1 a, cP h2 p2 (hi b), aP E p2 b]) C [0, 5, 6, 9, 10, 1, 2, 3, 4, 7, 8, 11, 12] (by decide) rfl rfl ?_
  exact lp_o 67 0 66 f1 q1 f2 q2 a b u3 (by omega) (by omega) rfl hSa hSb hS3 (Or.inl ⟨rfl, rfl, rfl, rfl⟩) (by omega)
end
section
theorem dX6_init_0 : decode cX6_init 0 = .ok (.aload_n 0, 1) := by decide +kernel
theorem dX6_init_1 : decode cX6_init 1 = .ok (.invokespecial 3, 3) := by decide +kernel
theorem dX6_init_4 : decode cX6_init 4 = .ok (.aload_n 0, 1) := by decide +kernel
theorem dX6_init_5 : decode cX6_init 5 = .ok (.new 9, 3) := by decide +kernel
theorem dX6_init_8 : decode cX6_init 8 = .ok (.dup, 1) := by decide +kernel
theorem dX6_init_9 : decode cX6_init 9 = .ok (.invokespecial 11, 3) := by decide +kernel
theorem dX6_init_12 : decode cX6_init 12 = .ok (.putfield 12, 3) := by decide +kernel
theorem dX6_init_15 : decode cX6_init 15 = .ok (.aload_n 0, 1) := by decide +kernel
theorem dX6_init_16 : decode cX6_init 16 = .ok (.new 9, 3) := by decide +kernel
theorem dX6_init_19 : decode cX6_init 19 = .ok (.dup, 1) := by decide +kernel
theorem dX6_init_20 : decode cX6_init 20 = .ok (.invokespecial 11, 3) := by decide +kernel
theorem dX6_init_23 : decode cX6_init 23 = .ok (.putfield 18, 3) := by decide +kernel
theorem dX6_init_26 : decode cX6_init 26 = .ok (.aload_n 0, 1) := by decide +kernel
theorem dX6_init_27 : decode cX6_init 27 = .ok (.new 9, 3) := by decide +kernel
theorem dX6_init_30 : decode cX6_init 30 = .ok (.dup, 1) := by decide +kernel
theorem dX6_init_31 : decode cX6_init 31 = .ok (.invokespecial 11, 3) := by decide +kernel
theorem dX6_init_34 : decode cX6_init 34 = .ok (.putfield 21, 3) := by decide +kernel
theorem dX6_init_37 : decode cX6_init 37 = .ok (.aload_n 0, 1) := by decide +kernel
theorem dX6_init_38 : decode cX6_init 38 = .ok (.new 9, 3) := by decide +kernel
theorem dX6_init_41 : decode cX6_init 41 = .ok (.dup, 1) := by decide +kernel
theorem dX6_init_42 : decode cX6_init 42 = .ok (.invokespecial 11, 3) := by decide +kernel
theorem dX6_init_45 : decode cX6_init 45 = .ok (.putfield 24, 3) := by decide +kernel
theorem dX6_init_48 : decode cX6_init 48 = .ok (.aload_n 0, 1) := by decide +kernel
theorem dX6_init_49 : decode cX6_init 49 = .ok (.bipush 9, 2) := by decide +kernel
theorem dX6_init_51 : decode cX6_init 51 = .ok (.newarray .int, 2) := by decide +kernel
theorem dX6_init_53 : decode cX6_init 53 = .ok (.putfield 27, 3) := by decide +kernel
theorem dX6_init_56 : decode cX6_init 56 = .ok (.aload_n 0, 1) := by decide +kernel
theorem dX6_init_57 : decode cX6_init 57 = .ok (.iconst 0, 1) := by decide +kernel
theorem dX6_init_58 : decode cX6_init 58 = .ok (.putfield 31, 3) := by decide +kernel
theorem dX6_init_61 : decode cX6_init 61 = .ok (.return_, 1) := by decide +kernel
theorem dX6_forget_0 : decode cX6_forget 0 = .ok (.aload_n 0, 1) := by decide +kernel
theorem dX6_forget_1 : decode cX6_forget 1 = .ok (.iconst 0, 1) := by decide +kernel
theorem dX6_forget_2 : decode cX6_forget 2 = .ok (.putfield 31, 3) := by decide +kernel
theorem dX6_forget_5 : decode cX6_forget 5 = .ok (.return_, 1) := by decide +kernel
theorem dX6_renew_0 : decode cX6_renew 0 = .ok (.aload_n 0, 1) := by decide +kernel
theorem dX6_renew_1 : decode cX6_renew 1 = .ok (.getfield 31, 3) := by decide +kernel
theorem dX6_renew_4 : decode cX6_renew 4 = .ok (.ifCond .eq 4, 3) := by decide +kernel
theorem dX6_renew_7 : decode cX6_renew 7 = .ok (.return_, 1) := by decide +kernel
theorem dX6_renew_8 : decode cX6_renew 8 = .ok (.aload_n 0, 1) := by decide +kernel
theorem dX6_renew_9 : decode cX6_renew 9 = .ok (.iconst 1, 1) := by decide +kernel
theorem dX6_renew_10 : decode cX6_renew 10 = .ok (.putfield 31, 3) := by decide +kernel
theorem dX6_renew_13 : decode cX6_renew 13 = .ok (.aload_n 0, 1) := by decide +kernel
theorem dX6_renew_14 : decode cX6_renew 14 = .ok (.getfield 12, 3) := by decide +kernel
theorem dX6_renew_17 : decode cX6_renew 17 = .ok (.aload_n 1, 1) := by decide +kernel
theorem dX6_renew_18 : decode cX6_renew 18 = .ok (.invokevirtual 35, 3) := by decide +kernel
theorem dX6_renew_21 : decode cX6_renew 21 = .ok (.aload_n 0, 1) := by decide +kernel
theorem dX6_renew_22 : decode cX6_renew 22 = .ok (.getfield 18, 3) := by decide +kernel
theorem dX6_renew_25 : decode cX6_renew 25 = .ok (.aload_n 2, 1) := by decide +kernel
theorem dX6_renew_26 : decode cX6_renew 26 = .ok (.invokevirtual 35, 3) := by decide +kernel
theorem dX6_renew_29 : decode cX6_renew 29 = .ok (.aload_n 0, 1) := by decide +kernel
theorem dX6_renew_30 : decode cX6_renew 30 = .ok (.getfield 21, 3) := by decide +kernel
theorem dX6_renew_33 : decode cX6_renew 33 = .ok (.iconst 1, 1) := by decide +kernel
theorem dX6_renew_34 : decode cX6_renew 34 = .ok (.invokevirtual 39, 3) := by decide +kernel
theorem dX6_renew_37 : decode cX6_renew 37 = .ok (.iconst 0, 1) := by decide +kernel
theorem dX6_renew_38 : decode cX6_renew 38 = .ok (.istore 4, 2) := by decide +kernel
theorem dX6_renew_40 : decode cX6_renew 40 = .ok (.iload 4, 2) := by decide +kernel
theorem dX6_renew_42 : decode cX6_renew 42 = .ok (.aload_n 0, 1) := by decide +kernel
theorem dX6_renew_43 : decode cX6_renew 43 = .ok (.getfield 27, 3) := by decide +kernel
theorem dX6_renew_46 : decode cX6_renew 46 = .ok (.arraylength, 1) := by decide +kernel
theorem dX6_renew_47 : decode cX6_renew 47 = .ok (.if_icmp .ge 108, 3) := by decide +kernel
theorem dX6_renew_50 : decode cX6_renew 50 = .ok (.aload_n 0, 1) := by decide +kernel
theorem dX6_renew_51 : decode cX6_renew 51 = .ok (.getfield 24, 3) := by decide +kernel
theorem dX6_renew_54 : decode cX6_renew 54 = .ok (.aload_n 0, 1) := by decide +kernel
theorem dX6_renew_55 : decode cX6_renew 55 = .ok (.getfield 18, 3) := by decide +kernel
theorem dX6_renew_58 : decode cX6_renew 58 = .ok (.invokevirtual 35, 3) := by decide +kernel
theorem dX6_renew_61 : decode cX6_renew 61 = .ok (.aload_n 0, 1) := by decide +kernel
theorem dX6_renew_62 : decode cX6_renew 62 = .ok (.getfield 24, 3) := by decide +kernel
theorem dX6_renew_65 : decode cX6_renew 65 = .ok (.iload 4, 2) := by decide +kernel
theorem dX6_renew_67 : decode cX6_renew 67 = .ok (.invokevirtual 43, 3) := by decide +kernel
theorem dX6_renew_70 : decode cX6_renew 70 = .ok (.aload_n 3, 1) := by decide +kernel
theorem dX6_renew_71 : decode cX6_renew 71 = .ok (.aload_n 0, 1) := by decide +kernel
theorem dX6_renew_72 : decode cX6_renew 72 = .ok (.getfield 12, 3) := by decide +kernel
theorem dX6_renew_75 : decode cX6_renew 75 = .ok (.aload_n 0, 1) := by decide +kernel
theorem dX6_renew_76 : decode cX6_renew 76 = .ok (.getfield 24, 3) := by decide +kernel
theorem dX6_renew_79 : decode cX6_renew 79 = .ok (.invokevirtual 46, 3) := by decide +kernel
theorem dX6_renew_82 : decode cX6_renew 82 = .ok (.astore 5, 2) := by decide +kernel
theorem dX6_renew_84 : decode cX6_renew 84 = .ok (.aload_n 0, 1) := by decide +kernel
theorem dX6_renew_85 : decode cX6_renew 85 = .ok (.getfield 27, 3) := by decide +kernel
theorem dX6_renew_88 : decode cX6_renew 88 = .ok (.iload 4, 2) := by decide +kernel
theorem dX6_renew_90 : decode cX6_renew 90 = .ok (.aload 5, 2) := by decide +kernel
theorem dX6_renew_92 : decode cX6_renew 92 = .ok (.invokevirtual 52, 3) := by decide +kernel
theorem dX6_renew_95 : decode cX6_renew 95 = .ok (.iastore, 1) := by decide +kernel
theorem dX6_renew_96 : decode cX6_renew 96 = .ok (.aload_n 3, 1) := by decide +kernel
theorem dX6_renew_97 : decode cX6_renew 97 = .ok (.aload_n 0, 1) := by decide +kernel
theorem dX6_renew_98 : decode cX6_renew 98 = .ok (.getfield 12, 3) := by decide +kernel
theorem dX6_renew_101 : decode cX6_renew 101 = .ok (.aload 5, 2) := by decide +kernel
theorem dX6_renew_103 : decode cX6_renew 103 = .ok (.invokevirtual 56, 3) := by decide +kernel
theorem dX6_renew_106 : decode cX6_renew 106 = .ok (.iconst 1, 1) := by decide +kernel
theorem dX6_renew_107 : decode cX6_renew 107 = .ok (.istore 6, 2) := by decide +kernel
theorem dX6_renew_109 : decode cX6_renew 109 = .ok (.iload 6, 2) := by decide +kernel
theorem dX6_renew_111 : decode cX6_renew 111 = .ok (.iload 4, 2) := by decide +kernel
theorem dX6_renew_113 : decode cX6_renew 113 = .ok (.if_icmp .gt 26, 3) := by decide +kernel
theorem dX6_renew_116 : decode cX6_renew 116 = .ok (.aload 5, 2) := by decide +kernel
theorem dX6_renew_118 : decode cX6_renew 118 = .ok (.sipush 32002, 3) := by decide +kernel
theorem dX6_renew_121 : decode cX6_renew 121 = .ok (.invokevirtual 43, 3) := by decide +kernel
theorem dX6_renew_124 : decode cX6_renew 124 = .ok (.aload_n 0, 1) := by decide +kernel
theorem dX6_renew_125 : decode cX6_renew 125 = .ok (.getfield 21, 3) := by decide +kernel
theorem dX6_renew_128 : decode cX6_renew 128 = .ok (.aload 5, 2) := by decide +kernel
theorem dX6_renew_130 : decode cX6_renew 130 = .ok (.invokevirtual 60, 3) := by decide +kernel
theorem dX6_renew_133 : decode cX6_renew 133 = .ok (.iinc 6 1, 3) := by decide +kernel
theorem dX6_renew_136 : decode cX6_renew 136 = .ok (.goto (-27), 3) := by decide +kernel
theorem dX6_renew_139 : decode cX6_renew 139 = .ok (.aload_n 3, 1) := by decide +kernel
theorem dX6_renew_140 : decode cX6_renew 140 = .ok (.aload_n 0, 1) := by decide +kernel
theorem dX6_renew_141 : decode cX6_renew 141 = .ok (.getfield 18, 3) := by decide +kernel
theorem dX6_renew_144 : decode cX6_renew 144 = .ok (.aload 5, 2) := by decide +kernel
theorem dX6_renew_146 : decode cX6_renew 146 = .ok (.invokevirtual 56, 3) := by decide +kernel
theorem dX6_renew_149 : decode cX6_renew 149 = .ok (.iinc 4 1, 3) := by decide +kernel
theorem dX6_renew_152 : decode cX6_renew 152 = .ok (.goto (-112), 3) := by decide +kernel
theorem dX6_renew_155 : decode cX6_renew 155 = .ok (.return_, 1) := by decide +kernel
theorem dX6_commonDegree_0 : decode cX6_commonDegree 0 = .ok (.iload_n 1, 1) := by decide +kernel
theorem dX6_commonDegree_1 : decode cX6_commonDegree 1 = .ok (.ifCond .lt 12, 3) := by decide +kernel
theorem dX6_commonDegree_4 : decode cX6_commonDegree 4 = .ok (.iload_n 1, 1) := by decide +kernel
theorem dX6_commonDegree_5 : decode cX6_commonDegree 5 = .ok (.aload_n 0, 1) := by decide +kernel
theorem dX6_commonDegree_6 : decode cX6_commonDegree 6 = .ok (.getfield 27, 3) := by decide +kernel
theorem dX6_commonDegree_9 : decode cX6_commonDegree 9 = .ok (.arraylength, 1) := by decide +kernel
theorem dX6_commonDegree_10 : decode cX6_commonDegree 10 = .ok (.if_icmp .lt 7, 3) := by decide +kernel
theorem dX6_commonDegree_13 : decode cX6_commonDegree 13 = .ok (.iconst 0, 1) := by decide +kernel
theorem dX6_commonDegree_14 : decode cX6_commonDegree 14 = .ok (.goto 9, 3) := by decide +kernel
theorem dX6_commonDegree_17 : decode cX6_commonDegree 17 = .ok (.aload_n 0, 1) := by decide +kernel
theorem dX6_commonDegree_18 : decode cX6_commonDegree 18 = .ok (.getfield 27, 3) := by decide +kernel
theorem dX6_commonDegree_21 : decode cX6_commonDegree 21 = .ok (.iload_n 1, 1) := by decide +kernel
theorem dX6_commonDegree_22 : decode cX6_commonDegree 22 = .ok (.iaload, 1) := by decide +kernel
theorem dX6_commonDegree_23 : decode cX6_commonDegree 23 = .ok (.ireturn, 1) := by decide +kernel
theorem dX6_part_0 : decode cX6_part 0 = .ok (.iload_n 1, 1) := by decide +kernel
theorem dX6_part_1 : decode cX6_part 1 = .ok (.ifCond .ne 8, 3) := by decide +kernel
theorem dX6_part_4 : decode cX6_part 4 = .ok (.aload_n 0, 1) := by decide +kernel
theorem dX6_part_5 : decode cX6_part 5 = .ok (.getfield 12, 3) := by decide +kernel
theorem dX6_part_8 : decode cX6_part 8 = .ok (.areturn, 1) := by decide +kernel
theorem dX6_part_9 : decode cX6_part 9 = .ok (.iload_n 1, 1) := by decide +kernel
theorem dX6_part_10 : decode cX6_part 10 = .ok (.iconst 1, 1) := by decide +kernel
theorem dX6_part_11 : decode cX6_part 11 = .ok (.if_icmp .ne 10, 3) := by decide +kernel
theorem dX6_part_14 : decode cX6_part 14 = .ok (.aload_n 0, 1) := by decide +kernel
theorem dX6_part_15 : decode cX6_part 15 = .ok (.getfield 18, 3) := by decide +kernel
theorem dX6_part_18 : decode cX6_part 18 = .ok (.goto 7, 3) := by decide +kernel
theorem dX6_part_21 : decode cX6_part 21 = .ok (.aload_n 0, 1) := by decide +kernel
theorem dX6_part_22 : decode cX6_part 22 = .ok (.getfield 21, 3) := by decide +kernel
theorem dX6_part_25 : decode cX6_part 25 = .ok (.areturn, 1) := by decide +kernel
set_option maxRecDepth 20000 in
theorem ggX6_init_X4_init : GoodIn wsX6_init wsX4_init := goodIn_r _ [15, 16, 2, 3, 11, 17, 18, 19, 20] (by decide +kernel) (by decide +kernel)
set_option maxRecDepth 20000 in
theorem gX6_init_X4_init_n11 : GoodIn wsX6_init (wsX4_init) := ggX6_init_X4_init
set_option maxRecDepth 20000 in
theorem ggX6_renew_X4_copyFrom : GoodIn wsX6_renew wsX4_copyFrom := goodIn_r _ [11, 12, 13, 14, 15, 16, 10, 17, 97, 98] (by decide +kernel) (by decide +kernel)
set_option maxRecDepth 20000 in
theorem gX6_renew_X4_copyFrom : GoodIn wsX6_renew (wsV RX6 35 RX4 yX4_copyFrom wsX4_copyFrom) := goodIn_app (goodIn_of _ (by decide +kernel)) ggX6_renew_X4_copyFrom
set_option maxRecDepth 20000 in
theorem ggX6_renew_X4_becomeNumber : GoodIn wsX6_renew wsX4_becomeNumber := goodIn_r _ [21, 12, 13, 97, 98] (by decide +kernel) (by decide +kernel)
set_option maxRecDepth 20000 in
theorem gX6_renew_X4_becomeNumber : GoodIn wsX6_renew (wsV RX6 39 RX4 yX4_becomeNumber wsX4_becomeNumber) := goodIn_app (goodIn_of _ (by decide +kernel)) ggX6_renew_X4_becomeNumber
set_option maxRecDepth 20000 in
theorem ggX6_renew_X4_moveBy : GoodIn wsX6_renew wsX4_moveBy := goodIn_r _ [25, 13, 12, 26, 27, 28, 29, 14, 15, 16, 10, 17, 97, 98] (by decide +kernel) (by decide +kernel)
set_option maxRecDepth 20000 in
theorem gX6_renew_X4_moveBy : GoodIn wsX6_renew (wsV RX6 43 RX4 yX4_moveBy wsX4_moveBy) := goodIn_app (goodIn_of _ (by decide +kernel)) ggX6_renew_X4_moveBy
set_option maxRecDepth 20000 in
theorem ggX6_renew_X0_commonDivisor : GoodIn wsX6_renew wsX0_commonDivisor := goodIn_r _ [34, 35, 36, 37, 38, 39, 8, 9, 10, 11, 12, 13, 14, 15, 16, 17, 40, 41, 42, 43, 44, 45, 46, 47, 48, 19, 20, 21, 49, 50, 51, 52, 53, 54, 55, 56, 57, 58, 59, 60, 61, 62, 28, 63, 64, 65, 66, 67, 68, 69, 70, 71, 72, 73, 74, 75, 76, 77, 78, 99, 100, 101, 102, 97, 98] (by decide +kernel) (by decide +kernel)
set_option maxRecDepth 20000 in
theorem gX6_renew_X0_commonDivisor : GoodIn wsX6_renew (wsV RX6 46 RX0 yX0_commonDivisor wsX0_commonDivisor) := goodIn_app (goodIn_of _ (by decide +kernel)) ggX6_renew_X0_commonDivisor
set_option maxRecDepth 20000 in
theorem ggX6_renew_X4_highest : GoodIn wsX6_renew wsX4_highest := goodIn_r _ [82, 13, 97, 98] (by decide +kernel) (by decide +kernel)
set_option maxRecDepth 20000 in
theorem gX6_renew_X4_highest : GoodIn wsX6_renew (wsV RX6 52 RX4 yX4_highest wsX4_highest) := goodIn_app (goodIn_of _ (by decide +kernel)) ggX6_renew_X4_highest
set_option maxRecDepth 20000 in
theorem ggX6_renew_X0_divideOut : GoodIn wsX6_renew wsX0_divideOut := goodIn_r _ [86, 37, 44, 45, 46, 10, 47, 13, 48, 19, 20, 21, 12, 49, 41, 42, 43, 50, 51, 52, 53, 14, 15, 16, 17, 54, 55, 56, 57, 58, 59, 60, 61, 62, 28, 63, 64, 65, 66, 67, 68, 69, 70, 71, 72, 73, 39, 8, 9, 11, 99, 100, 101, 102, 97, 98] (by decide +kernel) (by decide +kernel)
set_option maxRecDepth 20000 in
theorem gX6_renew_X0_divideOut : GoodIn wsX6_renew (wsV RX6 56 RX0 yX0_divideOut wsX0_divideOut) := goodIn_app (goodIn_of _ (by decide +kernel)) ggX6_renew_X0_divideOut
set_option maxRecDepth 20000 in
theorem ggX6_renew_X4_multiplyBy : GoodIn wsX6_renew wsX4_multiplyBy := goodIn_r _ [90, 13, 12, 26, 27, 28, 29, 49, 41, 42, 10, 43, 14, 15, 16, 17, 64, 65, 66, 67, 97, 98] (by decide +kernel) (by decide +kernel)
set_option maxRecDepth 20000 in
theorem gX6_renew_X4_multiplyBy : GoodIn wsX6_renew (wsV RX6 60 RX4 yX4_multiplyBy wsX4_multiplyBy) := goodIn_app (goodIn_of _ (by decide +kernel)) ggX6_renew_X4_multiplyBy
end
section
theorem in_X6_init_X6 : ∀ w ∈ u_ws RX6 TX6 6, w ∈ wsX6_init := by decide +kernel
theorem in_X6_init_X4 : ∀ w ∈ u_ws RX4 TX4 2, w ∈ wsX6_init := by decide +kernel
theorem lk_X6_init_top : Cond.fieldLink yX6_init.cls 12 (TX6 0).1 (TX6 0).2.1 (TX6 0).2.2.1 ∈ wsX6_init := by decide +kernel
theorem lk_X6_init_bottom : Cond.fieldLink yX6_init.cls 18 (TX6 1).1 (TX6 1).2.1 (TX6 1).2.2.1 ∈ wsX6_init := by decide +kernel
theorem lk_X6_init_extra : Cond.fieldLink yX6_init.cls 21 (TX6 2).1 (TX6 2).2.1 (TX6 2).2.2.1 ∈ wsX6_init := by decide +kernel
theorem lk_X6_init_moved : Cond.fieldLink yX6_init.cls 24 (TX6 3).1 (TX6 3).2.1 (TX6 3).2.2.1 ∈ wsX6_init := by decide +kernel
theorem lk_X6_init_commonDegrees : Cond.fieldLink yX6_init.cls 27 (TX6 4).1 (TX6 4).2.1 (TX6 4).2.2.1 ∈ wsX6_init := by decide +kernel
theorem lk_X6_init_known : Cond.fieldLink yX6_init.cls 31 (TX6 5).1 (TX6 5).2.1 (TX6 5).2.2.1 ∈ wsX6_init := by decide +kernel
theorem nw_X6_init_X4 : Cond.classLink yX6_init.cls 9 RX4 ∈ wsX6_init ∧ Cond.instantiable RX4 2 ∈ wsX6_init ∧ Cond.initialized RX4 ∈ wsX6_init := by decide +kernel
set_option maxHeartbeats 4000000 in
set_option maxRecDepth 100000 in
theorem c_X6_init (E : ev) (l : Launch) (h : Nat) : Mv E l yX6_init wsX6_init { frames := 2, cells := 9, slots := 149, locals := 60 } [.ref h] [(h, .inr (6, [.null, .null, .null, .null, .null, .int (zI 0)]))] (fun w => ∃ t qt b qb e qe m qm dg : Nat, w = [(h, .inr (6, [.ref t, .ref b, .ref e, .ref m, .ref dg, .int (zI 0)])), cP t qt (hi zr), aP E qt zr, cP b qb (hi zr), aP E qb zr, cP e qe (hi zr), aP E qe zr, cP m qm (hi zr), aP E qm zr, (dg, .inl (E.2.2.1, 9, .inl (iv (fun _ => 0))))]) 9 149 := by
  refine enter_v (cc := cX6_init) (nL := 1) (by decide) rfl (Nat.le_of_ble_eq_true rfl) (fun G C hret => ?_)
  show G 0 0 [(h, .inr (6, [.null, .null, .null, .null, .null, .int (zI 0)]))] [(0, .ref h)] 0 []
  refine g_aload_n C dX6_init_0 0 rfl ?_
  refine g_objInit C (by decide +kernel) (List.mem_cons_of_mem _ (List.mem_of_getElem? (i := 2) rfl)) dX6_init_1 (by decide) (Nat.le_of_ble_eq_true rfl) ?_
  refine g_aload_n C dX6_init_4 0 rfl ?_
  refine g_new (ci := 4) C [.null, .int (zI 0)] tyX4 tyX4_ok rfl in_X6_init_X4 nw_X6_init_X4 (by decide +kernel) (by decide) dX6_init_5 (fun q_5 => ?_)
  refine g_eq (ws' := [(h, .inr (6, [.null, .null, .null, .null, .null, .int (zI 0)])), (q_5, .inr (4, [.null, .int (zI 0)]))]) rfl rfl rfl ?_
  refine g_dup C dX6_init_8 rfl ?_
  refine g_callI (n := 0) (wr := [(h, .inr (6, [.null, .null, .null, .null, .null, .int (zI 0)]))]) C (c_X4_init E l q_5) (Or.inl (by decide +kernel)) gX6_init_X4_init_n11 (by decide +kernel) rfl (by decide +kernel) rfl (by decide) dX6_init_9 rfl (Nat.le_of_ble_eq_true rfl) [1] [0] rfl rfl (by decide) (fun w_9 h_9 => ?_)
  obtain ⟨p_9, rfl⟩ := h_9
  refine g_eq (ws' := [(h, .inr (6, [.null, .null, .null, .null, .null, .int (zI 0)])), cP q_5 p_9 (hi zr), aP E p_9 zr]) rfl rfl rfl ?_
  refine g_putF C [(h, .inr (6, [.ref q_5, .null, .null, .null, .null, .int (zI 0)])), cP q_5 p_9 (hi zr), aP E p_9 zr] tyX6 tyX6_ok nmX6 0 rfl rfl 0 (by decide) in_X6_init_X6 lk_X6_init_top rfl rfl rfl rfl (Nat.le_of_ble_eq_true rfl) dX6_init_12 rfl rfl ?_
  refine g_aload_n C dX6_init_15 0 rfl ?_
  refine g_new (ci := 4) C [.null, .int (zI 0)] tyX4 tyX4_ok rfl in_X6_init_X4 nw_X6_init_X4 (by decide +kernel) (by decide) dX6_init_16 (fun q_16 => ?_)
  refine g_eq (ws' := [(h, .inr (6, [.ref q_5, .null, .null, .null, .null, .int (zI 0)])), cP q_5 p_9 (hi zr), aP E p_9 zr, (q_16, .inr (4, [.null, .int (zI 0)]))]) rfl rfl rfl ?_
  refine g_dup C dX6_init_19 rfl ?_
  refine g_callI (n := 0) (wr := [(h, .inr (6, [.ref q_5, .null, .null, .null, .null, .int (zI 0)])), cP q_5 p_9 (hi zr), aP E p_9 zr]) C (c_X4_init E l q_16) (Or.inl (by decide +kernel)) gX6_init_X4_init_n11 (by decide +kernel) rfl (by decide +kernel) rfl (by decide) dX6_init_20 rfl (Nat.le_of_ble_eq_true rfl) [3] [0, 1, 2] rfl rfl (by decide) (fun w_20 h_20 => ?_)
  obtain ⟨p_20, rfl⟩ := h_20
  refine g_eq (ws' := [(h, .inr (6, [.ref q_5, .null, .null, .null, .null, .int (zI 0)])), cP q_5 p_9 (hi zr), aP E p_9 zr, cP q_16 p_20 (hi zr), aP E p_20 zr]) rfl rfl rfl ?_
  refine g_putF C [(h, .inr (6, [.ref q_5, .ref q_16, .null, .null, .null, .int (zI 0)])), cP q_5 p_9 (hi zr), aP E p_9 zr, cP q_16 p_20 (hi zr), aP E p_20 zr] tyX6 tyX6_ok nmX6 0 rfl rfl 1 (by decide) in_X6_init_X6 lk_X6_init_bottom rfl rfl rfl rfl (Nat.le_of_ble_eq_true rfl) dX6_init_23 rfl rfl ?_
  refine g_aload_n C dX6_init_26 0 rfl ?_
  refine g_new (ci := 4) C [.null, .int (zI 0)] tyX4 tyX4_ok rfl in_X6_init_X4 nw_X6_init_X4 (by decide +kernel) (by decide) dX6_init_27 (fun q_27 => ?_)
  refine g_eq (ws' := [(h, .inr (6, [.ref q_5, .ref q_16, .null, .null, .null, .int (zI 0)])), cP q_5 p_9 (hi zr), aP E p_9 zr, cP q_16 p_20 (hi zr), aP E p_20 zr, (q_27, .inr (4, [.null, .int (zI 0)]))]) rfl rfl rfl ?_
  refine g_dup C dX6_init_30 rfl ?_
  refine g_callI (n := 0) (wr := [(h, .inr (6, [.ref q_5, .ref q_16, .null, .null, .null, .int (zI 0)])), cP q_5 p_9 (hi zr), aP E p_9 zr, cP q_16 p_20 (hi zr), aP E p_20 zr]) C (c_X4_init E l q_27) (Or.inl (by decide +kernel)) gX6_init_X4_init_n11 (by decide +kernel) rfl (by decide +kernel) rfl (by decide) dX6_init_31 rfl (Nat.le_of_ble_eq_true rfl) [5] [0, 1, 2, 3, 4] rfl rfl (by decide) (fun w_31 h_31 => ?_)
  obtain ⟨p_31, rfl⟩ := h_31
  refine g_eq (ws' := [(h, .inr (6, [.ref q_5, .ref q_16, .null, .null, .null, .int (zI 0)])), cP q_5 p_9 (hi zr), aP E p_9 zr, cP q_16 p_20 (hi zr), aP E p_20 zr, cP q_27 p_31 (hi zr), aP E p_31 zr]) rfl rfl rfl ?_
  refine g_putF C [(h, .inr (6, [.ref q_5, .ref q_16, .ref q_27, .null, .null, .int (zI 0)])), cP q_5 p_9 (hi zr), aP E p_9 zr, cP q_16 p_20 (hi zr), aP E p_20 zr, cP q_27 p_31 (hi zr), aP E p_31 zr] tyX6 tyX6_ok nmX6 0 rfl rfl 2 (by decide) in_X6_init_X6 lk_X6_init_extra rfl rfl rfl rfl (Nat.le_of_ble_eq_true rfl) dX6_init_34 rfl rfl ?_
  refine g_aload_n C dX6_init_37 0 rfl ?_
  refine g_new (ci := 4) C [.null, .int (zI 0)] tyX4 tyX4_ok rfl in_X6_init_X4 nw_X6_init_X4 (by decide +kernel) (by decide) dX6_init_38 (fun q_38 => ?_)
  refine g_eq (ws' := [(h, .inr (6, [.ref q_5, .ref q_16, .ref q_27, .null, .null, .int (zI 0)])), cP q_5 p_9 (hi zr), aP E p_9 zr, cP q_16 p_20 (hi zr), aP E p_20 zr, cP q_27 p_31 (hi zr), aP E p_31 zr, (q_38, .inr (4, [.null, .int (zI 0)]))]) rfl rfl rfl ?_
  refine g_dup C dX6_init_41 rfl ?_
  refine g_callI (n := 0) (wr := [(h, .inr (6, [.ref q_5, .ref q_16, .ref q_27, .null, .null, .int (zI 0)])), cP q_5 p_9 (hi zr), aP E p_9 zr, cP q_16 p_20 (hi zr), aP E p_20 zr, cP q_27 p_31 (hi zr), aP E p_31 zr]) C (c_X4_init E l q_38) (Or.inl (by decide +kernel)) gX6_init_X4_init_n11 (by decide +kernel) rfl (by decide +kernel) rfl (by decide) dX6_init_42 rfl (Nat.le_of_ble_eq_true rfl) [7] [0, 1, 2, 3, 4, 5, 6] rfl rfl (by decide) (fun w_42 h_42 => ?_)
  obtain ⟨p_42, rfl⟩ := h_42
  refine g_eq (ws' := [(h, .inr (6, [.ref q_5, .ref q_16, .ref q_27, .null, .null, .int (zI 0)])), cP q_5 p_9 (hi zr), aP E p_9 zr, cP q_16 p_20 (hi zr), aP E p_20 zr, cP q_27 p_31 (hi zr), aP E p_31 zr, cP q_38 p_42 (hi zr), aP E p_42 zr]) rfl rfl rfl ?_
  refine g_putF C [(h, .inr (6, [.ref q_5, .ref q_16, .ref q_27, .ref q_38, .null, .int (zI 0)])), cP q_5 p_9 (hi zr), aP E p_9 zr, cP q_16 p_20 (hi zr), aP E p_20 zr, cP q_27 p_31 (hi zr), aP E p_31 zr, cP q_38 p_42 (hi zr), aP E p_42 zr] tyX6 tyX6_ok nmX6 0 rfl rfl 3 (by decide) in_X6_init_X6 lk_X6_init_moved rfl rfl rfl rfl (Nat.le_of_ble_eq_true rfl) dX6_init_45 rfl rfl ?_
  refine g_aload_n C dX6_init_48 0 rfl ?_
  refine g_bipush C dX6_init_49 rfl ?_
  refine g_newaI C 9 (iv (fun _ => 0)) rfl (by decide +kernel) rfl (by decide) (by decide) dX6_init_51 (fun q_51 => ?_)
  refine g_eq (ws' := [(h, .inr (6, [.ref q_5, .ref q_16, .ref q_27, .ref q_38, .null, .int (zI 0)])), cP q_5 p_9 (hi zr), aP E p_9 zr, cP q_16 p_20 (hi zr), aP E p_20 zr, cP q_27 p_31 (hi zr), aP E p_31 zr, cP q_38 p_42 (hi zr), aP E p_42 zr, (q_51, .inl (E.2.2.1, 9, .inl (iv (fun _ => 0))))]) rfl rfl rfl ?_
  refine g_putF C [(h, .inr (6, [.ref q_5, .ref q_16, .ref q_27, .ref q_38, .ref q_51, .int (zI 0)])), cP q_5 p_9 (hi zr), aP E p_9 zr, cP q_16 p_20 (hi zr), aP E p_20 zr, cP q_27 p_31 (hi zr), aP E p_31 zr, cP q_38 p_42 (hi zr), aP E p_42 zr, (q_51, .inl (E.2.2.1, 9, .inl (iv (fun _ => 0))))] tyX6 tyX6_ok nmX6 0 rfl rfl 4 (by decide) in_X6_init_X6 lk_X6_init_commonDegrees rfl rfl rfl rfl (Nat.le_of_ble_eq_true rfl) dX6_init_53 rfl rfl ?_
  refine g_aload_n C dX6_init_56 0 rfl ?_
  refine g_iconst C dX6_init_57 ?_
  refine g_put C [(h, .inr (6, [.ref q_5, .ref q_16, .ref q_27, .ref q_38, .ref q_51, .int (zI 0)])), cP q_5 p_9 (hi zr), aP E p_9 zr, cP q_16 p_20 (hi zr), aP E p_20 zr, cP q_27 p_31 (hi zr), aP E p_31 zr, cP q_38 p_42 (hi zr), aP E p_42 zr, (q_51, .inl (E.2.2.1, 9, .inl (iv (fun _ => 0))))] tyX6 tyX6_ok nmX6 0 rfl rfl 5 (by decide) in_X6_init_X6 lk_X6_init_known rfl rfl rfl (Nat.le_of_ble_eq_true rfl) dX6_init_58 rfl ?_
  exact hret _ _ _ _ _ dX6_init_61 (by decide) (by decide) ⟨q_5, p_9, q_16, p_20, q_27, p_31, q_38, p_42, q_51, rfl⟩
theorem in_X6_forget_X6 : ∀ w ∈ u_ws RX6 TX6 6, w ∈ wsX6_forget := by decide +kernel
theorem lk_X6_forget_known : Cond.fieldLink yX6_forget.cls 31 (TX6 5).1 (TX6 5).2.1 (TX6 5).2.2.1 ∈ wsX6_forget := by decide +kernel
set_option maxHeartbeats 4000000 in
set_option maxRecDepth 100000 in
theorem c_X6_forget (E : ev) (l : Launch) (hp t b e m dg : Nat) (k : Int) : Mv E l yX6_forget wsX6_forget { frames := 0, cells := 0, slots := 0, locals := 0 } [.ref hp] [(hp, .inr (6, [.ref t, .ref b, .ref e, .ref m, .ref dg, .int (zI k)]))] (fun w => w = [(hp, .inr (6, [.ref t, .ref b, .ref e, .ref m, .ref dg, .int (zI 0)]))]) 0 0 := by
  refine enter_v (cc := cX6_forget) (nL := 1) (by decide) rfl (Nat.le_of_ble_eq_true rfl) (fun G C hret => ?_)
  show G 0 0 [(hp, .inr (6, [.ref t, .ref b, .ref e, .ref m, .ref dg, .int (zI k)]))] [(0, .ref hp)] 0 []
  refine g_aload_n C dX6_forget_0 0 rfl ?_
  refine g_iconst C dX6_forget_1 ?_
  refine g_put C [(hp, .inr (6, [.ref t, .ref b, .ref e, .ref m, .ref dg, .int (zI 0)]))] tyX6 tyX6_ok nmX6 0 rfl rfl 5 (by decide) in_X6_forget_X6 lk_X6_forget_known rfl rfl rfl (Nat.le_of_ble_eq_true rfl) dX6_forget_2 rfl ?_
  exact hret _ _ _ _ _ dX6_forget_5 (by decide) (by decide) rfl
theorem in_X6_commonDegree_X6 : ∀ w ∈ u_ws RX6 TX6 6, w ∈ wsX6_commonDegree := by decide +kernel
theorem lk_X6_commonDegree_commonDegrees : Cond.fieldLink yX6_commonDegree.cls 27 (TX6 4).1 (TX6 4).2.1 (TX6 4).2.2.1 ∈ wsX6_commonDegree := by decide +kernel
set_option maxHeartbeats 4000000 in
set_option maxRecDepth 100000 in
theorem c_X6_commonDegree (E : ev) (l : Launch) (hp t b e m dg : Nat) (k : Int) (d : Nat → Int) (n : Nat) (hn : n < 9) : Mi E l yX6_commonDegree wsX6_commonDegree { frames := 0, cells := 0, slots := 0, locals := 0 } [.ref hp, .int (zI (n : Int))] [(hp, .inr (6, [.ref t, .ref b, .ref e, .ref m, .ref dg, .int (zI k)])), (dg, .inl (E.2.2.1, 9, .inl (iv d)))] (fun r w => r = zI (d n) ∧ w = [(hp, .inr (6, [.ref t, .ref b, .ref e, .ref m, .ref dg, .int (zI k)])), (dg, .inl (E.2.2.1, 9, .inl (iv d)))]) 0 0 := by
  refine enter_i (cc := cX6_commonDegree) (nL := 2) (by decide) rfl (Nat.le_of_ble_eq_true rfl) (fun G C hret => ?_)
  show G 0 0 [(hp, .inr (6, [.ref t, .ref b, .ref e, .ref m, .ref dg, .int (zI k)])), (dg, .inl (E.2.2.1, 9, .inl (iv d)))] [(0, .ref hp), (1, .int (zI (n : Int)))] 0 []
  refine g_iload_n C dX6_commonDegree_0 1 rfl ?_
  refine g_if_lt C 13 dX6_commonDegree_1 (by decide) (by omega) (by omega) (fun c_1 => by exfalso; omega) (fun c_1 => ?_)
  refine g_iload_n C dX6_commonDegree_4 1 rfl ?_
  refine g_aload_n C dX6_commonDegree_5 0 rfl ?_
  refine g_get C 0 rfl rfl 4 (by decide) in_X6_commonDegree_X6 lk_X6_commonDegree_commonDegrees rfl dX6_commonDegree_6 ?_
  refine g_alen C 1 rfl dX6_commonDegree_9 ?_
  refine g_icmp_lt C 17 dX6_commonDegree_10 (by decide) (by omega) (by omega) (by omega) (by omega) (fun c_10 => ?_) (fun c_10 => by exfalso; omega)
  refine g_aload_n C dX6_commonDegree_17 0 rfl ?_
  refine g_get C 0 rfl rfl 4 (by decide) in_X6_commonDegree_X6 lk_X6_commonDegree_commonDegrees rfl dX6_commonDegree_18 ?_
  refine g_iload_n C dX6_commonDegree_21 1 rfl ?_
  refine g_ialdZ C 1 n rfl (by omega) (by omega) (by decide) dX6_commonDegree_22 ?_
  exact hret _ _ _ _ _ _ dX6_commonDegree_23 (by decide) (by decide) ⟨rfl, rfl⟩
theorem in_X6_part_X6 : ∀ w ∈ u_ws RX6 TX6 6, w ∈ wsX6_part := by decide +kernel
theorem lk_X6_part_top : Cond.fieldLink yX6_part.cls 12 (TX6 0).1 (TX6 0).2.1 (TX6 0).2.2.1 ∈ wsX6_part := by decide +kernel
theorem lk_X6_part_bottom : Cond.fieldLink yX6_part.cls 18 (TX6 1).1 (TX6 1).2.1 (TX6 1).2.2.1 ∈ wsX6_part := by decide +kernel
theorem lk_X6_part_extra : Cond.fieldLink yX6_part.cls 21 (TX6 2).1 (TX6 2).2.1 (TX6 2).2.2.1 ∈ wsX6_part := by decide +kernel
set_option maxHeartbeats 4000000 in
set_option maxRecDepth 100000 in
theorem c_X6_part (E : ev) (l : Launch) (hp t b e m dg : Nat) (k : Int) (p : Int) (p1 : 0 ≤ p) (p2 : p ≤ 2) : Mr E l yX6_part wsX6_part { frames := 0, cells := 0, slots := 0, locals := 0 } [.ref hp, .int (zI p)] [(hp, .inr (6, [.ref t, .ref b, .ref e, .ref m, .ref dg, .int (zI k)]))] (fun r w => r = (if p = 0 then t else if p = 1 then b else e) ∧ w = [(hp, .inr (6, [.ref t, .ref b, .ref e, .ref m, .ref dg, .int (zI k)]))]) 0 0 := by
  refine enter_r (cc := cX6_part) (nL := 2) (by decide) rfl (Nat.le_of_ble_eq_true rfl) (fun G C hret => ?_)
  show G 0 0 [(hp, .inr (6, [.ref t, .ref b, .ref e, .ref m, .ref dg, .int (zI k)]))] [(0, .ref hp), (1, .int (zI p))] 0 []
  refine g_iload_n C dX6_part_0 1 rfl ?_
  refine g_if_ne C 9 dX6_part_1 (by decide) (by omega) (by omega) (fun c_1 => ?_) (fun c_1 => ?_)
  · refine g_iload_n C dX6_part_9 1 rfl ?_
    refine g_iconst C dX6_part_10 ?_
    refine g_icmp_ne C 21 dX6_part_11 (by decide) (by omega) (by omega) (by omega) (by omega) (fun c_11 => ?_) (fun c_11 => ?_)
    · refine g_aload_n C dX6_part_21 0 rfl ?_
      refine g_get C 0 rfl rfl 2 (by decide) in_X6_part_X6 lk_X6_part_extra rfl dX6_part_22 ?_
      exact hret _ _ _ _ _ _ dX6_part_25 (by decide) (by decide) ⟨by first | rw [if_pos c_1] | rw [if_neg c_1, if_pos c_11] | rw [if_neg c_1, if_neg c_11], rfl⟩
    · refine g_aload_n C dX6_part_14 0 rfl ?_
      refine g_get C 0 rfl rfl 1 (by decide) in_X6_part_X6 lk_X6_part_bottom rfl dX6_part_15 ?_
      refine g_goto C 25 dX6_part_18 (by decide) ?_
      exact hret _ _ _ _ _ _ dX6_part_25 (by decide) (by decide) ⟨by first | rw [if_pos c_1] | rw [if_neg c_1, if_pos c_11] | rw [if_neg c_1, if_neg c_11], rfl⟩
  · refine g_aload_n C dX6_part_4 0 rfl ?_
    refine g_get C 0 rfl rfl 0 (by decide) in_X6_part_X6 lk_X6_part_top rfl dX6_part_5 ?_
    exact hret _ _ _ _ _ _ dX6_part_8 (by decide) (by decide) ⟨by first | rw [if_pos c_1] | rw [if_neg c_1, if_pos c_11] | rw [if_neg c_1, if_neg c_11], rfl⟩
end
section
theorem in_X6_renew_X6 : ∀ w ∈ u_ws RX6 TX6 6, w ∈ wsX6_renew := by decide +kernel
theorem lk_X6_renew_known : Cond.fieldLink yX6_renew.cls 31 (TX6 5).1 (TX6 5).2.1 (TX6 5).2.2.1 ∈ wsX6_renew := by decide +kernel
theorem lk_X6_renew_top : Cond.fieldLink yX6_renew.cls 12 (TX6 0).1 (TX6 0).2.1 (TX6 0).2.2.1 ∈ wsX6_renew := by decide +kernel
theorem lk_X6_renew_bottom : Cond.fieldLink yX6_renew.cls 18 (TX6 1).1 (TX6 1).2.1 (TX6 1).2.2.1 ∈ wsX6_renew := by decide +kernel
theorem lk_X6_renew_extra : Cond.fieldLink yX6_renew.cls 21 (TX6 2).1 (TX6 2).2.1 (TX6 2).2.2.1 ∈ wsX6_renew := by decide +kernel
theorem lk_X6_renew_commonDegrees : Cond.fieldLink yX6_renew.cls 27 (TX6 4).1 (TX6 4).2.1 (TX6 4).2.2.1 ∈ wsX6_renew := by decide +kernel
theorem lk_X6_renew_moved : Cond.fieldLink yX6_renew.cls 24 (TX6 3).1 (TX6 3).2.1 (TX6 3).2.2.1 ∈ wsX6_renew := by decide +kernel
set_option maxHeartbeats 4000000 in
set_option maxRecDepth 100000 in
theorem c_X6_renew (E : ev) (l : Launch) (hp t qt b qb e qe m qm dg hA qA hB qB hd f1 q1 f2 q2 f3 q3 f4 q4 : Nat) (A B ta tb tc tm u1 u2 u3 u4 : Po) (d : Nat → Int) (k : Int) (hR : Ra A B) (hSt : Sm ta ∧ Sm tb ∧ Sm tc ∧ Sm tm) (hSu : Sm u1 ∧ Sm u2 ∧ Sm u3 ∧ Sm u4) (hk : k = 0 ∨ (k = 1 ∧ (ta, tb, tc) = spl A B 9 ∧ ∀ h : Nat, h < 9 → d h = hi (spg h (spl A B h)))) : Mv E l yX6_renew wsX6_renew { frames := 4, cells := 0, slots := 0, locals := 120 } [.ref hp, .ref hA, .ref hB, .ref hd] [(hp, .inr (6, [.ref t, .ref b, .ref e, .ref m, .ref dg, .int (zI k)])), cP t qt (hi ta), aP E qt ta, cP b qb (hi tb), aP E qb tb, cP e qe (hi tc), aP E qe tc, cP m qm (hi tm), aP E qm tm, (dg, .inl (E.2.2.1, 9, .inl (iv d))), cP hA qA (hi A), aP E qA A, cP hB qB (hi B), aP E qB B, (hd, .inr (0, [.ref f1, .ref f2, .ref f3, .ref f4])), cP f1 q1 (hi u1), aP E q1 u1, cP f2 q2 (hi u2), aP E q2 u2, cP f3 q3 (hi u3), aP E q3 u3, cP f4 q4 (hi u4), aP E q4 u4] (fun w => ∃ (v0 v1 v2 v3 v4 : Po) (d2 : Nat → Int), (Sm v0 ∧ Sm v1 ∧ Sm v2 ∧ Sm v3 ∧ Sm v4) ∧ (∀ h : Nat, h < 9 → d2 h = hi (spg h (spl A B h))) ∧ w = [(hp, .inr (6, [.ref t, .ref b, .ref e, .ref m, .ref dg, .int (zI 1)])), cP t qt (hi ((spl A B 9).1)), aP E qt ((spl A B 9).1), cP b qb (hi ((spl A B 9).2.1)), aP E qb ((spl A B 9).2.1), cP e qe (hi ((spl A B 9).2.2)), aP E qe ((spl A B 9).2.2), cP m qm (hi v0), aP E qm v0, (dg, .inl (E.2.2.1, 9, .inl (iv d2))), cP hA qA (hi A), aP E qA A, cP hB qB (hi B), aP E qB B, (hd, .inr (0, [.ref f1, .ref f2, .ref f3, .ref f4])), cP f1 q1 (hi v1), aP E q1 v1, cP f2 q2 (hi v2), aP E q2 v2, cP f3 q3 (hi v3), aP E q3 v3, cP f4 q4 (hi v4), aP E q4 v4]) 0 0 := by
  refine enter_v (cc := cX6_renew) (nL := 7) (by decide) rfl (Nat.le_of_ble_eq_true rfl) (fun G C hret => ?_)
  show G 0 0 [(hp, .inr (6, [.ref t, .ref b, .ref e, .ref m, .ref dg, .int (zI k)])), cP t qt (hi ta), aP E qt ta, cP b qb (hi tb), aP E qb tb, cP e qe (hi tc), aP E qe tc, cP m qm (hi tm), aP E qm tm, (dg, .inl (E.2.2.1, 9, .inl (iv d))), cP hA qA (hi A), aP E qA A, cP hB qB (hi B), aP E qB B, (hd, .inr (0, [.ref f1, .ref f2, .ref f3, .ref f4])), cP f1 q1 (hi u1), aP E q1 u1, cP f2 q2 (hi u2), aP E q2 u2, cP f3 q3 (hi u3), aP E q3 u3, cP f4 q4 (hi u4), aP E q4 u4] [(0, .ref hp), (1, .ref hA), (2, .ref hB), (3, .ref hd)] 0 []
  refine g_aload_n C dX6_renew_0 0 rfl ?_
  refine g_get C 0 rfl rfl 5 (by decide) in_X6_renew_X6 lk_X6_renew_known rfl dX6_renew_1 ?_
  refine g_if_eq C 8 dX6_renew_4 (by decide) (by omega) (by omega) (fun c_4 => ?_) (fun c_4 => ?_)
  · subst c_4
    refine g_aload_n C dX6_renew_8 0 rfl ?_
    refine g_iconst C dX6_renew_9 ?_
    refine g_put C [(hp, .inr (6, [.ref t, .ref b, .ref e, .ref m, .ref dg, .int (zI 1)])), cP t qt (hi ta), aP E qt ta, cP b qb (hi tb), aP E qb tb, cP e qe (hi tc), aP E qe tc, cP m qm (hi tm), aP E qm tm, (dg, .inl (E.2.2.1, 9, .inl (iv d))), cP hA qA (hi A), aP E qA A, cP hB qB (hi B), aP E qB B, (hd, .inr (0, [.ref f1, .ref f2, .ref f3, .ref f4])), cP f1 q1 (hi u1), aP E q1 u1, cP f2 q2 (hi u2), aP E q2 u2, cP f3 q3 (hi u3), aP E q3 u3, cP f4 q4 (hi u4), aP E q4 u4] tyX6 tyX6_ok nmX6 0 rfl rfl 5 (by decide) in_X6_renew_X6 lk_X6_renew_known rfl rfl rfl (Nat.le_of_ble_eq_true rfl) dX6_renew_10 rfl ?_
    refine g_aload_n C dX6_renew_13 0 rfl ?_
    refine g_get C 0 rfl rfl 0 (by decide) in_X6_renew_X6 lk_X6_renew_top rfl dX6_renew_14 ?_
    refine g_aload_n C dX6_renew_17 1 rfl ?_
    refine g_callV (n := 1) (wr := [(hp, .inr (6, [.ref t, .ref b, .ref e, .ref m, .ref dg, .int (zI 1)])), cP b qb (hi tb), aP E qb tb, cP e qe (hi tc), aP E qe tc, cP m qm (hi tm), aP E qm tm, (dg, .inl (E.2.2.1, 9, .inl (iv d))), cP hB qB (hi B), aP E qB B, (hd, .inr (0, [.ref f1, .ref f2, .ref f3, .ref f4])), cP f1 q1 (hi u1), aP E q1 u1, cP f2 q2 (hi u2), aP E q2 u2, cP f3 q3 (hi u3), aP E q3 u3, cP f4 q4 (hi u4), aP E q4 u4]) C (c_X4_copyFrom E l t qt hA qA ta A hSt.1 hR.1) gX6_renew_X4_copyFrom rfl (by decide +kernel) rfl (by decide) dX6_renew_18 rfl (Nat.le_of_ble_eq_true rfl) rfl rfl [1, 2, 10, 11] [0, 3, 4, 5, 6, 7, 8, 9, 12, 13, 14, 15, 16, 17, 18, 19, 20, 21, 22] rfl rfl (by decide) (fun w_18 h_18 => ?_)
    obtain rfl := h_18
    refine g_eq (ws' := [(hp, .inr (6, [.ref t, .ref b, .ref e, .ref m, .ref dg, .int (zI 1)])), cP b qb (hi tb), aP E qb tb, cP e qe (hi tc), aP E qe tc, cP m qm (hi tm), aP E qm tm, (dg, .inl (E.2.2.1, 9, .inl (iv d))), cP hB qB (hi B), aP E qB B, (hd, .inr (0, [.ref f1, .ref f2, .ref f3, .ref f4])), cP f1 q1 (hi u1), aP E q1 u1, cP f2 q2 (hi u2), aP E q2 u2, cP f3 q3 (hi u3), aP E q3 u3, cP f4 q4 (hi u4), aP E q4 u4, cP t qt (hi A), aP E qt A, cP hA qA (hi A), aP E qA A]) rfl rfl rfl ?_
    refine g_aload_n C dX6_renew_21 0 rfl ?_
    refine g_get C 0 rfl rfl 1 (by decide) in_X6_renew_X6 lk_X6_renew_bottom rfl dX6_renew_22 ?_
    refine g_aload_n C dX6_renew_25 2 rfl ?_
    refine g_callV (n := 1) (wr := [(hp, .inr (6, [.ref t, .ref b, .ref e, .ref m, .ref dg, .int (zI 1)])), cP e qe (hi tc), aP E qe tc, cP m qm (hi tm), aP E qm tm, (dg, .inl (E.2.2.1, 9, .inl (iv d))), (hd, .inr (0, [.ref f1, .ref f2, .ref f3, .ref f4])), cP f1 q1 (hi u1), aP E q1 u1, cP f2 q2 (hi u2), aP E q2 u2, cP f3 q3 (hi u3), aP E q3 u3, cP f4 q4 (hi u4), aP E q4 u4, cP t qt (hi A), aP E qt A, cP hA qA (hi A), aP E qA A]) C (c_X4_copyFrom E l b qb hB qB tb B hSt.2.1 hR.2.1) gX6_renew_X4_copyFrom rfl (by decide +kernel) rfl (by decide) dX6_renew_26 rfl (Nat.le_of_ble_eq_true rfl) rfl rfl [1, 2, 8, 9] [0, 3, 4, 5, 6, 7, 10, 11, 12, 13, 14, 15, 16, 17, 18, 19, 20, 21, 22] rfl rfl (by decide) (fun w_26 h_26 => ?_)
    obtain rfl := h_26
    refine g_eq (ws' := [(hp, .inr (6, [.ref t, .ref b, .ref e, .ref m, .ref dg, .int (zI 1)])), cP e qe (hi tc), aP E qe tc, cP m qm (hi tm), aP E qm tm, (dg, .inl (E.2.2.1, 9, .inl (iv d))), (hd, .inr (0, [.ref f1, .ref f2, .ref f3, .ref f4])), cP f1 q1 (hi u1), aP E q1 u1, cP f2 q2 (hi u2), aP E q2 u2, cP f3 q3 (hi u3), aP E q3 u3, cP f4 q4 (hi u4), aP E q4 u4, cP t qt (hi A), aP E qt A, cP hA qA (hi A), aP E qA A, cP b qb (hi B), aP E qb B, cP hB qB (hi B), aP E qB B]) rfl rfl rfl ?_
    refine g_aload_n C dX6_renew_29 0 rfl ?_
    refine g_get C 0 rfl rfl 2 (by decide) in_X6_renew_X6 lk_X6_renew_extra rfl dX6_renew_30 ?_
    refine g_iconst C dX6_renew_33 ?_
    refine g_callV (n := 1) (wr := [(hp, .inr (6, [.ref t, .ref b, .ref e, .ref m, .ref dg, .int (zI 1)])), cP m qm (hi tm), aP E qm tm, (dg, .inl (E.2.2.1, 9, .inl (iv d))), (hd, .inr (0, [.ref f1, .ref f2, .ref f3, .ref f4])), cP f1 q1 (hi u1), aP E q1 u1, cP f2 q2 (hi u2), aP E q2 u2, cP f3 q3 (hi u3), aP E q3 u3, cP f4 q4 (hi u4), aP E q4 u4, cP t qt (hi A), aP E qt A, cP hA qA (hi A), aP E qA A, cP b qb (hi B), aP E qb B, cP hB qB (hi B), aP E qB B]) C (c_X4_becomeNumber E l e qe tc 1 hSt.2.2.1) gX6_renew_X4_becomeNumber rfl (by decide +kernel) rfl (by decide) dX6_renew_34 rfl (Nat.le_of_ble_eq_true rfl) rfl rfl [1, 2] [0, 3, 4, 5, 6, 7, 8, 9, 10, 11, 12, 13, 14, 15, 16, 17, 18, 19, 20, 21, 22] rfl rfl (by decide) (fun w_34 h_34 => ?_)
    obtain rfl := h_34
    refine g_eq (ws' := [(hp, .inr (6, [.ref t, .ref b, .ref e, .ref m, .ref dg, .int (zI 1)])), cP m qm (hi tm), aP E qm tm, (dg, .inl (E.2.2.1, 9, .inl (iv d))), (hd, .inr (0, [.ref f1, .ref f2, .ref f3, .ref f4])), cP f1 q1 (hi u1), aP E q1 u1, cP f2 q2 (hi u2), aP E q2 u2, cP f3 q3 (hi u3), aP E q3 u3, cP f4 q4 (hi u4), aP E q4 u4, cP t qt (hi A), aP E qt A, cP hA qA (hi A), aP E qA A, cP b qb (hi B), aP E qb B, cP hB qB (hi B), aP E qB B, cP e qe (hi (con 1)), aP E qe (con 1)]) rfl rfl rfl ?_
    refine g_iconst C dX6_renew_37 ?_
    refine g_istore C [(4, .int (zI 0)), (0, .ref hp), (1, .ref hA), (2, .ref hB), (3, .ref hd)] dX6_renew_38 (by decide) rfl ?_
    have lp_o : ∀ (n_o : Nat) (x : Int) (n : Nat) (tm2 : Po) (d2 : Nat → Int) (v1 : Po) (v2 : Po) (v3 : Po) (v4 : Po), (x = (n : Int)) → (n ≤ 9) → (Sm tm2 ∧ Sm v1 ∧ Sm v2 ∧ Sm v3 ∧ Sm v4) → (∀ h : Nat, h < n → d2 h = hi (spg h (spl A B h))) → 9 - n < n_o → G 0 0 [(hp, .inr (6, [.ref t, .ref b, .ref e, .ref m, .ref dg, .int (zI 1)])), cP t qt (hi ((spl A B n).1)), aP E qt ((spl A B n).1), cP b qb (hi ((spl A B n).2.1)), aP E qb ((spl A B n).2.1), cP e qe (hi ((spl A B n).2.2)), aP E qe ((spl A B n).2.2), cP m qm (hi tm2), aP E qm tm2, (dg, .inl (E.2.2.1, 9, .inl (iv d2))), cP hA qA (hi A), aP E qA A, cP hB qB (hi B), aP E qB B, (hd, .inr (0, [.ref f1, .ref f2, .ref f3, .ref f4])), cP f1 q1 (hi v1), aP E q1 v1, cP f2 q2 (hi v2), aP E q2 v2, cP f3 q3 (hi v3), aP E q3 v3, cP f4 q4 (hi v4), aP E q4 v4] [(4, .int (zI x)), (0, .ref hp), (1, .ref hA), (2, .ref hB), (3, .ref hd)] 40 [] := by
      intro n_o
      induction n_o with
      | zero =>
        intro x n tm2 d2 v1 v2 v3 v4 hx hn hSv hd2 hm_o
        exact absurd hm_o (by omega)
      | succ n_o ih_o =>
        intro x n tm2 d2 v1 v2 v3 v4 hx hn hSv hd2 hm_o
        refine g_iload C dX6_renew_40 0 rfl ?_
        refine g_aload_n C dX6_renew_42 1 rfl ?_
        refine g_get C 0 rfl rfl 4 (by decide) in_X6_renew_X6 lk_X6_renew_commonDegrees rfl dX6_renew_43 ?_
        refine g_alen C 9 rfl dX6_renew_46 ?_
        refine g_icmp_ge C 155 dX6_renew_47 (by decide) (by omega) (by omega) (by omega) (by omega) (fun c_47 => ?_) (fun c_47 => ?_)
        · obtain rfl : n = 9 := by omega
          exact hret _ _ _ _ _ dX6_renew_155 (by decide) (by decide) ⟨tm2, v1, v2, v3, v4, d2, hSv, hd2, rfl⟩
        · have ok := spl_ok hR n hn
          have og := spg_ok n ok
          refine g_aload_n C dX6_renew_50 1 rfl ?_
          refine g_get C 0 rfl rfl 3 (by decide) in_X6_renew_X6 lk_X6_renew_moved rfl dX6_renew_51 ?_
          refine g_aload_n C dX6_renew_54 1 rfl ?_
          refine g_get C 0 rfl rfl 1 (by decide) in_X6_renew_X6 lk_X6_renew_bottom rfl dX6_renew_55 ?_
          refine g_callV (n := 1) (wr := [(hp, .inr (6, [.ref t, .ref b, .ref e, .ref m, .ref dg, .int (zI 1)])), cP t qt (hi ((spl A B n).1)), aP E qt ((spl A B n).1), cP e qe (hi ((spl A B n).2.2)), aP E qe ((spl A B n).2.2), (dg, .inl (E.2.2.1, 9, .inl (iv d2))), cP hA qA (hi A), aP E qA A, cP hB qB (hi B), aP E qB B, (hd, .inr (0, [.ref f1, .ref f2, .ref f3, .ref f4])), cP f1 q1 (hi v1), aP E q1 v1, cP f2 q2 (hi v2), aP E q2 v2, cP f3 q3 (hi v3), aP E q3 v3, cP f4 q4 (hi v4), aP E q4 v4]) C (c_X4_copyFrom E l m qm b qb tm2 (spl A B n).2.1 hSv.1 ok.2.1) gX6_renew_X4_copyFrom rfl (by decide +kernel) rfl (by decide) dX6_renew_58 rfl (Nat.le_of_ble_eq_true rfl) rfl rfl [7, 8, 3, 4] [0, 1, 2, 5, 6, 9, 10, 11, 12, 13, 14, 15, 16, 17, 18, 19, 20, 21, 22] rfl rfl (by decide) (fun w_58 h_58 => ?_)
          obtain rfl := h_58
          refine g_eq (ws' := [(hp, .inr (6, [.ref t, .ref b, .ref e, .ref m, .ref dg, .int (zI 1)])), cP t qt (hi ((spl A B n).1)), aP E qt ((spl A B n).1), cP e qe (hi ((spl A B n).2.2)), aP E qe ((spl A B n).2.2), (dg, .inl (E.2.2.1, 9, .inl (iv d2))), cP hA qA (hi A), aP E qA A, cP hB qB (hi B), aP E qB B, (hd, .inr (0, [.ref f1, .ref f2, .ref f3, .ref f4])), cP f1 q1 (hi v1), aP E q1 v1, cP f2 q2 (hi v2), aP E q2 v2, cP f3 q3 (hi v3), aP E q3 v3, cP f4 q4 (hi v4), aP E q4 v4, cP m qm (hi ((spl A B n).2.1)), aP E qm ((spl A B n).2.1), cP b qb (hi ((spl A B n).2.1)), aP E qb ((spl A B n).2.1)]) rfl rfl rfl ?_
          refine g_aload_n C dX6_renew_61 1 rfl ?_
          refine g_get C 0 rfl rfl 3 (by decide) in_X6_renew_X6 lk_X6_renew_moved rfl dX6_renew_62 ?_
          refine g_iload C dX6_renew_65 0 rfl ?_
          refine g_top (zI ((cF (n : Int)).val : Int)) (congrArg zI (by rw [cF_val, hx]; omega)) ?_
          refine g_callV (n := 1) (wr := [(hp, .inr (6, [.ref t, .ref b, .ref e, .ref m, .ref dg, .int (zI 1)])), cP t qt (hi ((spl A B n).1)), aP E qt ((spl A B n).1), cP e qe (hi ((spl A B n).2.2)), aP E qe ((spl A B n).2.2), (dg, .inl (E.2.2.1, 9, .inl (iv d2))), cP hA qA (hi A), aP E qA A, cP hB qB (hi B), aP E qB B, (hd, .inr (0, [.ref f1, .ref f2, .ref f3, .ref f4])), cP f1 q1 (hi v1), aP E q1 v1, cP f2 q2 (hi v2), aP E q2 v2, cP f3 q3 (hi v3), aP E q3 v3, cP f4 q4 (hi v4), aP E q4 v4, cP b qb (hi ((spl A B n).2.1)), aP E qb ((spl A B n).2.1)]) C (c_X4_moveBy E l m qm (spl A B n).2.1 (cF (n : Int)) ok.2.1) gX6_renew_X4_moveBy rfl (by decide +kernel) rfl (by decide) dX6_renew_67 rfl (Nat.le_of_ble_eq_true rfl) rfl rfl [19, 20] [0, 1, 2, 3, 4, 5, 6, 7, 8, 9, 10, 11, 12, 13, 14, 15, 16, 17, 18, 21, 22] rfl rfl (by decide) (fun w_67 h_67 => ?_)
          obtain rfl := h_67
          refine g_eq (ws' := [(hp, .inr (6, [.ref t, .ref b, .ref e, .ref m, .ref dg, .int (zI 1)])), cP t qt (hi ((spl A B n).1)), aP E qt ((spl A B n).1), cP e qe (hi ((spl A B n).2.2)), aP E qe ((spl A B n).2.2), (dg, .inl (E.2.2.1, 9, .inl (iv d2))), cP hA qA (hi A), aP E qA A, cP hB qB (hi B), aP E qB B, (hd, .inr (0, [.ref f1, .ref f2, .ref f3, .ref f4])), cP f1 q1 (hi v1), aP E q1 v1, cP f2 q2 (hi v2), aP E q2 v2, cP f3 q3 (hi v3), aP E q3 v3, cP f4 q4 (hi v4), aP E q4 v4, cP b qb (hi ((spl A B n).2.1)), aP E qb ((spl A B n).2.1), cP m qm (hi (mvp (spl A B n).2.1 (cF (n : Int)))), aP E qm (mvp (spl A B n).2.1 (cF (n : Int)))]) rfl rfl rfl ?_
          refine g_aload_n C dX6_renew_70 4 rfl ?_
          refine g_aload_n C dX6_renew_71 1 rfl ?_
          refine g_get C 0 rfl rfl 0 (by decide) in_X6_renew_X6 lk_X6_renew_top rfl dX6_renew_72 ?_
          refine g_aload_n C dX6_renew_75 1 rfl ?_
          refine g_get C 0 rfl rfl 3 (by decide) in_X6_renew_X6 lk_X6_renew_moved rfl dX6_renew_76 ?_
          refine g_callVr (n := 2) (wr := [(hp, .inr (6, [.ref t, .ref b, .ref e, .ref m, .ref dg, .int (zI 1)])), cP e qe (hi ((spl A B n).2.2)), aP E qe ((spl A B n).2.2), (dg, .inl (E.2.2.1, 9, .inl (iv d2))), cP hA qA (hi A), aP E qA A, cP hB qB (hi B), aP E qB B, cP b qb (hi ((spl A B n).2.1)), aP E qb ((spl A B n).2.1)]) C (c_X0_commonDivisor E l hd f1 q1 f2 q2 f3 q3 f4 q4 t qt m qm v1 v2 v3 v4 (spl A B n).1 (mvp (spl A B n).2.1 (cF (n : Int))) hSv.2.1 hSv.2.2.1 hSv.2.2.2.1 hSv.2.2.2.2 ok.1 (mvp_Sm ok.2.1 _)) gX6_renew_X0_commonDivisor rfl (by decide +kernel) rfl (by decide) dX6_renew_79 rfl (Nat.le_of_ble_eq_true rfl) rfl rfl [10, 11, 12, 13, 14, 15, 16, 17, 18, 1, 2, 21, 22] [0, 3, 4, 5, 6, 7, 8, 9, 19, 20] rfl rfl (by decide) (fun r_79 w_79 h_79 => ?_)
          obtain ⟨hr79, y1, y2, y3, ⟨hy1, hy2, hy3⟩, rfl⟩ := h_79
          refine g_eq (ws' := [(hp, .inr (6, [.ref t, .ref b, .ref e, .ref m, .ref dg, .int (zI 1)])), cP e qe (hi ((spl A B n).2.2)), aP E qe ((spl A B n).2.2), (dg, .inl (E.2.2.1, 9, .inl (iv d2))), cP hA qA (hi A), aP E qA A, cP hB qB (hi B), aP E qB B, cP b qb (hi ((spl A B n).2.1)), aP E qb ((spl A B n).2.1), (hd, .inr (0, [.ref f1, .ref f2, .ref f3, .ref f4])), cP f1 q1 (hi y1), aP E q1 y1, cP f2 q2 (hi y2), aP E q2 y2, cP f3 q3 (hi y3), aP E q3 y3, cP f4 q4 (hi (spg n (spl A B n))), aP E q4 (spg n (spl A B n)), cP t qt (hi ((spl A B n).1)), aP E qt ((spl A B n).1), cP m qm (hi (mvp (spl A B n).2.1 (cF (n : Int)))), aP E qm (mvp (spl A B n).2.1 (cF (n : Int)))]) rfl rfl rfl ?_
          rw [hr79]
          have hy : Sm y1 ∧ Sm y2 := ⟨hy1, hy2⟩
          refine g_astore C [(5, .ref f4), (4, .int (zI x)), (0, .ref hp), (1, .ref hA), (2, .ref hB), (3, .ref hd)] dX6_renew_82 (by decide) rfl ?_
          refine g_aload_n C dX6_renew_84 2 rfl ?_
          refine g_get C 0 rfl rfl 4 (by decide) in_X6_renew_X6 lk_X6_renew_commonDegrees rfl dX6_renew_85 ?_
          refine g_iload C dX6_renew_88 1 rfl ?_
          refine g_aload C dX6_renew_90 0 rfl ?_
          refine g_callVi (n := 0) (wr := [(hp, .inr (6, [.ref t, .ref b, .ref e, .ref m, .ref dg, .int (zI 1)])), cP e qe (hi ((spl A B n).2.2)), aP E qe ((spl A B n).2.2), (dg, .inl (E.2.2.1, 9, .inl (iv d2))), cP hA qA (hi A), aP E qA A, cP hB qB (hi B), aP E qB B, cP b qb (hi ((spl A B n).2.1)), aP E qb ((spl A B n).2.1), (hd, .inr (0, [.ref f1, .ref f2, .ref f3, .ref f4])), cP f1 q1 (hi y1), aP E q1 y1, cP f2 q2 (hi y2), aP E q2 y2, cP f3 q3 (hi y3), aP E q3 y3, cP t qt (hi ((spl A B n).1)), aP E qt ((spl A B n).1), cP m qm (hi (mvp (spl A B n).2.1 (cF (n : Int)))), aP E qm (mvp (spl A B n).2.1 (cF (n : Int)))]) C (c_X4_highest E l f4 q4 (spg n (spl A B n))) gX6_renew_X4_highest rfl (by decide +kernel) rfl (by decide) dX6_renew_92 rfl (Nat.le_of_ble_eq_true rfl) rfl rfl [17, 18] [0, 1, 2, 3, 4, 5, 6, 7, 8, 9, 10, 11, 12, 13, 14, 15, 16, 19, 20, 21, 22] rfl rfl (by decide) (fun r_92 w_92 h_92 => ?_)
          obtain ⟨rfl, rfl⟩ := h_92
          refine g_eq (ws' := [(hp, .inr (6, [.ref t, .ref b, .ref e, .ref m, .ref dg, .int (zI 1)])), cP e qe (hi ((spl A B n).2.2)), aP E qe ((spl A B n).2.2), (dg, .inl (E.2.2.1, 9, .inl (iv d2))), cP hA qA (hi A), aP E qA A, cP hB qB (hi B), aP E qB B, cP b qb (hi ((spl A B n).2.1)), aP E qb ((spl A B n).2.1), (hd, .inr (0, [.ref f1, .ref f2, .ref f3, .ref f4])), cP f1 q1 (hi y1), aP E q1 y1, cP f2 q2 (hi y2), aP E q2 y2, cP f3 q3 (hi y3), aP E q3 y3, cP t qt (hi ((spl A B n).1)), aP E qt ((spl A B n).1), cP m qm (hi (mvp (spl A B n).2.1 (cF (n : Int)))), aP E qm (mvp (spl A B n).2.1 (cF (n : Int))), cP f4 q4 (hi (spg n (spl A B n))), aP E q4 (spg n (spl A B n))]) rfl rfl rfl ?_
          refine g_iastZ C [(hp, .inr (6, [.ref t, .ref b, .ref e, .ref m, .ref dg, .int (zI 1)])), cP e qe (hi ((spl A B n).2.2)), aP E qe ((spl A B n).2.2), (dg, .inl (E.2.2.1, 9, .inl (iv (cset d2 n (hi (spg n (spl A B n))))))), cP hA qA (hi A), aP E qA A, cP hB qB (hi B), aP E qB B, cP b qb (hi ((spl A B n).2.1)), aP E qb ((spl A B n).2.1), (hd, .inr (0, [.ref f1, .ref f2, .ref f3, .ref f4])), cP f1 q1 (hi y1), aP E q1 y1, cP f2 q2 (hi y2), aP E q2 y2, cP f3 q3 (hi y3), aP E q3 y3, cP t qt (hi ((spl A B n).1)), aP E qt ((spl A B n).1), cP m qm (hi (mvp (spl A B n).2.1 (cF (n : Int)))), aP E qm (mvp (spl A B n).2.1 (cF (n : Int))), cP f4 q4 (hi (spg n (spl A B n))), aP E q4 (spg n (spl A B n))] 3 n rfl (by omega) (by omega) (by decide) dX6_renew_95 rfl ?_
          refine g_aload_n C dX6_renew_96 5 rfl ?_
          refine g_aload_n C dX6_renew_97 2 rfl ?_
          refine g_get C 0 rfl rfl 0 (by decide) in_X6_renew_X6 lk_X6_renew_top rfl dX6_renew_98 ?_
          refine g_aload C dX6_renew_101 0 rfl ?_
          refine g_callV (n := 2) (wr := [(hp, .inr (6, [.ref t, .ref b, .ref e, .ref m, .ref dg, .int (zI 1)])), cP e qe (hi ((spl A B n).2.2)), aP E qe ((spl A B n).2.2), (dg, .inl (E.2.2.1, 9, .inl (iv (cset d2 n (hi (spg n (spl A B n))))))), cP hA qA (hi A), aP E qA A, cP hB qB (hi B), aP E qB B, cP b qb (hi ((spl A B n).2.1)), aP E qb ((spl A B n).2.1), cP f1 q1 (hi y1), aP E q1 y1, cP f2 q2 (hi y2), aP E q2 y2, cP m qm (hi (mvp (spl A B n).2.1 (cF (n : Int)))), aP E qm (mvp (spl A B n).2.1 (cF (n : Int)))]) C (c_X0_divideOut E l hd f1 f2 f3 q3 f4 t qt f4 q4 y3 (spl A B n).1 (spg n (spl A B n)) hy3 ok.1 og.1 og.2.1.pos) gX6_renew_X0_divideOut rfl (by decide +kernel) rfl (by decide) dX6_renew_103 rfl (Nat.le_of_ble_eq_true rfl) rfl rfl [10, 15, 16, 17, 18, 21, 22] [0, 1, 2, 3, 4, 5, 6, 7, 8, 9, 11, 12, 13, 14, 19, 20] rfl rfl (by decide) (fun w_103 h_103 => ?_)
          obtain rfl := h_103
          refine g_eq (ws' := [(hp, .inr (6, [.ref t, .ref b, .ref e, .ref m, .ref dg, .int (zI 1)])), cP e qe (hi ((spl A B n).2.2)), aP E qe ((spl A B n).2.2), (dg, .inl (E.2.2.1, 9, .inl (iv (cset d2 n (hi (spg n (spl A B n))))))), cP hA qA (hi A), aP E qA A, cP hB qB (hi B), aP E qB B, cP b qb (hi ((spl A B n).2.1)), aP E qb ((spl A B n).2.1), cP f1 q1 (hi y1), aP E q1 y1, cP f2 q2 (hi y2), aP E q2 y2, cP m qm (hi (mvp (spl A B n).2.1 (cF (n : Int)))), aP E qm (mvp (spl A B n).2.1 (cF (n : Int))), (hd, .inr (0, [.ref f1, .ref f2, .ref f3, .ref f4])), cP f3 q3 (hi (quo (spl A B n).1 (spg n (spl A B n)))), aP E q3 (quo (spl A B n).1 (spg n (spl A B n))), cP t qt (hi (quo (spl A B n).1 (spg n (spl A B n)))), aP E qt (quo (spl A B n).1 (spg n (spl A B n))), cP f4 q4 (hi (spg n (spl A B n))), aP E q4 (spg n (spl A B n))]) rfl rfl rfl ?_
          refine g_iconst C dX6_renew_106 ?_
          refine g_istore C [(6, .int (zI 1)), (5, .ref f4), (4, .int (zI x)), (0, .ref hp), (1, .ref hA), (2, .ref hB), (3, .ref hd)] dX6_renew_107 (by decide) rfl ?_
          have lp_i : ∀ (n_i : Nat) (y : Int) (i : Nat), (y = (i : Int) + 1) → (i ≤ n) → n - i < n_i → G 0 0 [(hp, .inr (6, [.ref t, .ref b, .ref e, .ref m, .ref dg, .int (zI 1)])), cP t qt (hi (quo (spl A B n).1 (spg n (spl A B n)))), aP E qt (quo (spl A B n).1 (spg n (spl A B n))), cP b qb (hi ((spl A B n).2.1)), aP E qb ((spl A B n).2.1), cP e qe (hi (cmk (spl A B n).2.2 (spg n (spl A B n)) i)), aP E qe (cmk (spl A B n).2.2 (spg n (spl A B n)) i), cP m qm (hi (mvp (spl A B n).2.1 (cF (n : Int)))), aP E qm (mvp (spl A B n).2.1 (cF (n : Int))), (dg, .inl (E.2.2.1, 9, .inl (iv (cset d2 n (hi (spg n (spl A B n))))))), cP hA qA (hi A), aP E qA A, cP hB qB (hi B), aP E qB B, (hd, .inr (0, [.ref f1, .ref f2, .ref f3, .ref f4])), cP f1 q1 (hi y1), aP E q1 y1, cP f2 q2 (hi y2), aP E q2 y2, cP f3 q3 (hi (quo (spl A B n).1 (spg n (spl A B n)))), aP E q3 (quo (spl A B n).1 (spg n (spl A B n))), cP f4 q4 (hi (mvk (spg n (spl A B n)) i)), aP E q4 (mvk (spg n (spl A B n)) i)] [(6, .int (zI y)), (5, .ref f4), (4, .int (zI x)), (0, .ref hp), (1, .ref hA), (2, .ref hB), (3, .ref hd)] 109 [] := by
            intro n_i
            induction n_i with
            | zero =>
              intro y i hy9 hi9 hm_i
              exact absurd hm_i (by omega)
            | succ n_i ih_i =>
              intro y i hy9 hi9 hm_i
              refine g_iload C dX6_renew_109 0 rfl ?_
              refine g_iload C dX6_renew_111 2 rfl ?_
              refine g_icmp_gt C 139 dX6_renew_113 (by decide) (by omega) (by omega) (by omega) (by omega) (fun c_113 => ?_) (fun c_113 => ?_)
              · obtain rfl : n = i := by omega
                refine g_aload_n C dX6_renew_139 6 rfl ?_
                refine g_aload_n C dX6_renew_140 3 rfl ?_
                refine g_get C 0 rfl rfl 1 (by decide) in_X6_renew_X6 lk_X6_renew_bottom rfl dX6_renew_141 ?_
                refine g_aload C dX6_renew_144 1 rfl ?_
                refine g_callV (n := 2) (wr := [(hp, .inr (6, [.ref t, .ref b, .ref e, .ref m, .ref dg, .int (zI 1)])), cP t qt (hi (quo (spl A B n).1 (spg n (spl A B n)))), aP E qt (quo (spl A B n).1 (spg n (spl A B n))), cP e qe (hi (cmk (spl A B n).2.2 (spg n (spl A B n)) n)), aP E qe (cmk (spl A B n).2.2 (spg n (spl A B n)) n), cP m qm (hi (mvp (spl A B n).2.1 (cF (n : Int)))), aP E qm (mvp (spl A B n).2.1 (cF (n : Int))), (dg, .inl (E.2.2.1, 9, .inl (iv (cset d2 n (hi (spg n (spl A B n))))))), cP hA qA (hi A), aP E qA A, cP hB qB (hi B), aP E qB B, cP f1 q1 (hi y1), aP E q1 y1, cP f2 q2 (hi y2), aP E q2 y2]) C (c_X0_divideOut E l hd f1 f2 f3 q3 f4 b qb f4 q4 (quo (spl A B n).1 (spg n (spl A B n))) (spl A B n).2.1 (mvk (spg n (spl A B n)) n) (quo_Sm ok.1 og.1 og.2.1.pos) ok.2.1 (mvk_ok og.1 og.2.1 n).1 (mvk_ok og.1 og.2.1 n).2.1.pos) gX6_renew_X0_divideOut rfl (by decide +kernel) rfl (by decide) dX6_renew_146 rfl (Nat.le_of_ble_eq_true rfl) rfl rfl [14, 19, 20, 3, 4, 21, 22] [0, 1, 2, 5, 6, 7, 8, 9, 10, 11, 12, 13, 15, 16, 17, 18] rfl rfl (by decide) (fun w_146 h_146 => ?_)
                obtain rfl := h_146
                refine g_eq (ws' := [(hp, .inr (6, [.ref t, .ref b, .ref e, .ref m, .ref dg, .int (zI 1)])), cP t qt (hi (quo (spl A B n).1 (spg n (spl A B n)))), aP E qt (quo (spl A B n).1 (spg n (spl A B n))), cP e qe (hi (cmk (spl A B n).2.2 (spg n (spl A B n)) n)), aP E qe (cmk (spl A B n).2.2 (spg n (spl A B n)) n), cP m qm (hi (mvp (spl A B n).2.1 (cF (n : Int)))), aP E qm (mvp (spl A B n).2.1 (cF (n : Int))), (dg, .inl (E.2.2.1, 9, .inl (iv (cset d2 n (hi (spg n (spl A B n))))))), cP hA qA (hi A), aP E qA A, cP hB qB (hi B), aP E qB B, cP f1 q1 (hi y1), aP E q1 y1, cP f2 q2 (hi y2), aP E q2 y2, (hd, .inr (0, [.ref f1, .ref f2, .ref f3, .ref f4])), cP f3 q3 (hi (quo (spl A B n).2.1 (mvk (spg n (spl A B n)) n))), aP E q3 (quo (spl A B n).2.1 (mvk (spg n (spl A B n)) n)), cP b qb (hi (quo (spl A B n).2.1 (mvk (spg n (spl A B n)) n))), aP E qb (quo (spl A B n).2.1 (mvk (spg n (spl A B n)) n)), cP f4 q4 (hi (mvk (spg n (spl A B n)) n)), aP E q4 (mvk (spg n (spl A B n)) n)]) rfl rfl rfl ?_
                refine g_iinc C [(4, .int (zI (x + 1))), (6, .int (zI y)), (5, .ref f4), (0, .ref hp), (1, .ref hA), (2, .ref hB), (3, .ref hd)] dX6_renew_149 2 rfl (by decide) rfl ?_
                refine g_goto C 40 dX6_renew_152 (by decide) ?_
                refine g_lsub C [0, 3, 4, 5, 6] rfl ?_
                refine g_wsub (ws' := [(hp, .inr (6, [.ref t, .ref b, .ref e, .ref m, .ref dg, .int (zI 1)])), cP t qt (hi (quo (spl A B n).1 (spg n (spl A B n)))), aP E qt (quo (spl A B n).1 (spg n (spl A B n))), cP b qb (hi (quo (spl A B n).2.1 (mvk (spg n (spl A B n)) n))), aP E qb (quo (spl A B n).2.1 (mvk (spg n (spl A B n)) n)), cP e qe (hi (cmk (spl A B n).2.2 (spg n (spl A B n)) n)), aP E qe (cmk (spl A B n).2.2 (spg n (spl A B n)) n), cP m qm (hi (mvp (spl A B n).2.1 (cF (n : Int)))), aP E qm (mvp (spl A B n).2.1 (cF (n : Int))), (dg, .inl (E.2.2.1, 9, .inl (iv (cset d2 n (hi (spg n (spl A B n))))))), cP hA qA (hi A), aP E qA A, cP hB qB (hi B), aP E qB B, (hd, .inr (0, [.ref f1, .ref f2, .ref f3, .ref f4])), cP f1 q1 (hi y1), aP E q1 y1, cP f2 q2 (hi y2), aP E q2 y2, cP f3 q3 (hi (quo (spl A B n).2.1 (mvk (spg n (spl A B n)) n))), aP E q3 (quo (spl A B n).2.1 (mvk (spg n (spl A B n)) n)), cP f4 q4 (hi (mvk (spg n (spl A B n)) n)), aP E q4 (mvk (spg n (spl A B n)) n)]) C [0, 1, 2, 19, 20, 3, 4, 5, 6, 7, 8, 9, 10, 11, 16, 12, 13, 14, 15, 17, 18, 21, 22] (by decide) rfl rfl ?_
                exact ih_o (x + 1) (n + 1) (mvp (spl A B n).2.1 (cF (n : Int))) (cset d2 n (hi (spg n (spl A B n)))) y1 y2 (quo (spl A B n).2.1 (mvk (spg n (spl A B n)) n)) (mvk (spg n (spl A B n)) n) (by omega) (by omega) ⟨mvp_Sm ok.2.1 _, hy.1, hy.2, quo_Sm ok.2.1 (mvk_ok og.1 og.2.1 n).1 (mvk_ok og.1 og.2.1 n).2.1.pos, (mvk_ok og.1 og.2.1 n).1⟩ (fun h hh => by unfold cset; split; (rename_i e9; rw [e9]); exact hd2 h (by omega)) (by omega)
              · have cb := cmk_bd ok hR.2.2.2.2.1 (show n ≤ 8 by omega) (i + 1) (by omega)
                have cb0 := cmk_bd ok hR.2.2.2.2.1 (show n ≤ 8 by omega) i (by omega)
                have ck := cmk_ok ok.2.2.1 ok.2.2.2.2.2.1 og.1 og.2.1 i cb0.2
                have mk := mvk_ok og.1 og.2.1 (i + 1)
                have ec : ((i + 1 : Nat) : Int) * hi (spg n (spl A B n)) = (i : Int) * hi (spg n (spl A B n)) + hi (spg n (spl A B n)) := by rw [Int.natCast_add, Int.add_mul]; simp
                refine g_aload C dX6_renew_116 1 rfl ?_
                refine g_sipush C dX6_renew_118 rfl ?_
                refine g_callV (n := 1) (wr := [(hp, .inr (6, [.ref t, .ref b, .ref e, .ref m, .ref dg, .int (zI 1)])), cP t qt (hi (quo (spl A B n).1 (spg n (spl A B n)))), aP E qt (quo (spl A B n).1 (spg n (spl A B n))), cP b qb (hi ((spl A B n).2.1)), aP E qb ((spl A B n).2.1), cP e qe (hi (cmk (spl A B n).2.2 (spg n (spl A B n)) i)), aP E qe (cmk (spl A B n).2.2 (spg n (spl A B n)) i), cP m qm (hi (mvp (spl A B n).2.1 (cF (n : Int)))), aP E qm (mvp (spl A B n).2.1 (cF (n : Int))), (dg, .inl (E.2.2.1, 9, .inl (iv (cset d2 n (hi (spg n (spl A B n))))))), cP hA qA (hi A), aP E qA A, cP hB qB (hi B), aP E qB B, (hd, .inr (0, [.ref f1, .ref f2, .ref f3, .ref f4])), cP f1 q1 (hi y1), aP E q1 y1, cP f2 q2 (hi y2), aP E q2 y2, cP f3 q3 (hi (quo (spl A B n).1 (spg n (spl A B n)))), aP E q3 (quo (spl A B n).1 (spg n (spl A B n)))]) C (c_X4_moveBy E l f4 q4 (mvk (spg n (spl A B n)) i) 32002 (mvk_ok og.1 og.2.1 i).1) gX6_renew_X4_moveBy rfl (by decide +kernel) rfl (by decide) dX6_renew_121 rfl (Nat.le_of_ble_eq_true rfl) rfl rfl [21, 22] [0, 1, 2, 3, 4, 5, 6, 7, 8, 9, 10, 11, 12, 13, 14, 15, 16, 17, 18, 19, 20] rfl rfl (by decide) (fun w_121 h_121 => ?_)
                obtain rfl := h_121
                refine g_eq (ws' := [(hp, .inr (6, [.ref t, .ref b, .ref e, .ref m, .ref dg, .int (zI 1)])), cP t qt (hi (quo (spl A B n).1 (spg n (spl A B n)))), aP E qt (quo (spl A B n).1 (spg n (spl A B n))), cP b qb (hi ((spl A B n).2.1)), aP E qb ((spl A B n).2.1), cP e qe (hi (cmk (spl A B n).2.2 (spg n (spl A B n)) i)), aP E qe (cmk (spl A B n).2.2 (spg n (spl A B n)) i), cP m qm (hi (mvp (spl A B n).2.1 (cF (n : Int)))), aP E qm (mvp (spl A B n).2.1 (cF (n : Int))), (dg, .inl (E.2.2.1, 9, .inl (iv (cset d2 n (hi (spg n (spl A B n))))))), cP hA qA (hi A), aP E qA A, cP hB qB (hi B), aP E qB B, (hd, .inr (0, [.ref f1, .ref f2, .ref f3, .ref f4])), cP f1 q1 (hi y1), aP E q1 y1, cP f2 q2 (hi y2), aP E q2 y2, cP f3 q3 (hi (quo (spl A B n).1 (spg n (spl A B n)))), aP E q3 (quo (spl A B n).1 (spg n (spl A B n))), cP f4 q4 (hi (mvk (spg n (spl A B n)) (i + 1))), aP E q4 (mvk (spg n (spl A B n)) (i + 1))]) rfl rfl rfl ?_
                refine g_aload_n C dX6_renew_124 3 rfl ?_
                refine g_get C 0 rfl rfl 2 (by decide) in_X6_renew_X6 lk_X6_renew_extra rfl dX6_renew_125 ?_
                refine g_aload C dX6_renew_128 1 rfl ?_
                refine g_callV (n := 1) (wr := [(hp, .inr (6, [.ref t, .ref b, .ref e, .ref m, .ref dg, .int (zI 1)])), cP t qt (hi (quo (spl A B n).1 (spg n (spl A B n)))), aP E qt (quo (spl A B n).1 (spg n (spl A B n))), cP b qb (hi ((spl A B n).2.1)), aP E qb ((spl A B n).2.1), cP m qm (hi (mvp (spl A B n).2.1 (cF (n : Int)))), aP E qm (mvp (spl A B n).2.1 (cF (n : Int))), (dg, .inl (E.2.2.1, 9, .inl (iv (cset d2 n (hi (spg n (spl A B n))))))), cP hA qA (hi A), aP E qA A, cP hB qB (hi B), aP E qB B, (hd, .inr (0, [.ref f1, .ref f2, .ref f3, .ref f4])), cP f1 q1 (hi y1), aP E q1 y1, cP f2 q2 (hi y2), aP E q2 y2, cP f3 q3 (hi (quo (spl A B n).1 (spg n (spl A B n)))), aP E q3 (quo (spl A B n).1 (spg n (spl A B n)))]) C (c_X4_multiplyBy E l e qe f4 q4 (cmk (spl A B n).2.2 (spg n (spl A B n)) i) (mvk (spg n (spl A B n)) (i + 1)) ck.1 mk.1 ck.2.1.pos mk.2.1.pos (by omega)) gX6_renew_X4_multiplyBy rfl (by decide +kernel) rfl (by decide) dX6_renew_130 rfl (Nat.le_of_ble_eq_true rfl) rfl rfl [5, 6, 21, 22] [0, 1, 2, 3, 4, 7, 8, 9, 10, 11, 12, 13, 14, 15, 16, 17, 18, 19, 20] rfl rfl (by decide) (fun w_130 h_130 => ?_)
                obtain rfl := h_130
                refine g_eq (ws' := [(hp, .inr (6, [.ref t, .ref b, .ref e, .ref m, .ref dg, .int (zI 1)])), cP t qt (hi (quo (spl A B n).1 (spg n (spl A B n)))), aP E qt (quo (spl A B n).1 (spg n (spl A B n))), cP b qb (hi ((spl A B n).2.1)), aP E qb ((spl A B n).2.1), cP m qm (hi (mvp (spl A B n).2.1 (cF (n : Int)))), aP E qm (mvp (spl A B n).2.1 (cF (n : Int))), (dg, .inl (E.2.2.1, 9, .inl (iv (cset d2 n (hi (spg n (spl A B n))))))), cP hA qA (hi A), aP E qA A, cP hB qB (hi B), aP E qB B, (hd, .inr (0, [.ref f1, .ref f2, .ref f3, .ref f4])), cP f1 q1 (hi y1), aP E q1 y1, cP f2 q2 (hi y2), aP E q2 y2, cP f3 q3 (hi (quo (spl A B n).1 (spg n (spl A B n)))), aP E q3 (quo (spl A B n).1 (spg n (spl A B n))), cP e qe (hi (cmk (spl A B n).2.2 (spg n (spl A B n)) (i + 1))), aP E qe (cmk (spl A B n).2.2 (spg n (spl A B n)) (i + 1)), cP f4 q4 (hi (mvk (spg n (spl A B n)) (i + 1))), aP E q4 (mvk (spg n (spl A B n)) (i + 1))]) rfl rfl rfl ?_
                refine g_iinc C [(6, .int (zI (y + 1))), (5, .ref f4), (4, .int (zI x)), (0, .ref hp), (1, .ref hA), (2, .ref hB), (3, .ref hd)] dX6_renew_133 0 rfl (by decide) rfl ?_
                refine g_goto C 109 dX6_renew_136 (by decide) ?_
                refine g_wsub (ws' := [(hp, .inr (6, [.ref t, .ref b, .ref e, .ref m, .ref dg, .int (zI 1)])), cP t qt (hi (quo (spl A B n).1 (spg n (spl A B n)))), aP E qt (quo (spl A B n).1 (spg n (spl A B n))), cP b qb (hi ((spl A B n).2.1)), aP E qb ((spl A B n).2.1), cP e qe (hi (cmk (spl A B n).2.2 (spg n (spl A B n)) (i + 1))), aP E qe (cmk (spl A B n).2.2 (spg n (spl A B n)) (i + 1)), cP m qm (hi (mvp (spl A B n).2.1 (cF (n : Int)))), aP E qm (mvp (spl A B n).2.1 (cF (n : Int))), (dg, .inl (E.2.2.1, 9, .inl (iv (cset d2 n (hi (spg n (spl A B n))))))), cP hA qA (hi A), aP E qA A, cP hB qB (hi B), aP E qB B, (hd, .inr (0, [.ref f1, .ref f2, .ref f3, .ref f4])), cP f1 q1 (hi y1), aP E q1 y1, cP f2 q2 (hi y2), aP E q2 y2, cP f3 q3 (hi (quo (spl A B n).1 (spg n (spl A B n)))), aP E q3 (quo (spl A B n).1 (spg n (spl A B n))), cP f4 q4 (hi (mvk (spg n (spl A B n)) (i + 1))), aP E q4 (mvk (spg n (spl A B n)) (i + 1))]) C [0, 1, 2, 3, 4, 19, 20, 5, 6, 7, 8, 9, 10, 11, 12, 13, 14, 15, 16, 17, 18, 21, 22] (by decide) rfl rfl ?_
                exact ih_i (y + 1) (i + 1) (by omega) (by omega) (by omega)
          refine g_wsub (ws' := [(hp, .inr (6, [.ref t, .ref b, .ref e, .ref m, .ref dg, .int (zI 1)])), cP t qt (hi (quo (spl A B n).1 (spg n (spl A B n)))), aP E qt (quo (spl A B n).1 (spg n (spl A B n))), cP b qb (hi ((spl A B n).2.1)), aP E qb ((spl A B n).2.1), cP e qe (hi ((spl A B n).2.2)), aP E qe ((spl A B n).2.2), cP m qm (hi (mvp (spl A B n).2.1 (cF (n : Int)))), aP E qm (mvp (spl A B n).2.1 (cF (n : Int))), (dg, .inl (E.2.2.1, 9, .inl (iv (cset d2 n (hi (spg n (spl A B n))))))), cP hA qA (hi A), aP E qA A, cP hB qB (hi B), aP E qB B, (hd, .inr (0, [.ref f1, .ref f2, .ref f3, .ref f4])), cP f1 q1 (hi y1), aP E q1 y1, cP f2 q2 (hi y2), aP E q2 y2, cP f3 q3 (hi (quo (spl A B n).1 (spg n (spl A B n)))), aP E q3 (quo (spl A B n).1 (spg n (spl A B n))), cP f4 q4 (hi (spg n (spl A B n))), aP E q4 (spg n (spl A B n))]) C [0, 19, 20, 8, 9, 1, 2, 14, 15, 3, 4, 5, 6, 7, 16, 10, 11, 12, 13, 17, 18, 21, 22] (by decide) rfl rfl ?_
          exact lp_i 10 1 0 (by omega) (by omega) (by omega)
    refine g_wsub (ws' := [(hp, .inr (6, [.ref t, .ref b, .ref e, .ref m, .ref dg, .int (zI 1)])), cP t qt (hi A), aP E qt A, cP b qb (hi B), aP E qb B, cP e qe (hi (con 1)), aP E qe (con 1), cP m qm (hi tm), aP E qm tm, (dg, .inl (E.2.2.1, 9, .inl (iv d))), cP hA qA (hi A), aP E qA A, cP hB qB (hi B), aP E qB B, (hd, .inr (0, [.ref f1, .ref f2, .ref f3, .ref f4])), cP f1 q1 (hi u1), aP E q1 u1, cP f2 q2 (hi u2), aP E q2 u2, cP f3 q3 (hi u3), aP E q3 u3, cP f4 q4 (hi u4), aP E q4 u4]) C [0, 13, 14, 17, 18, 21, 22, 1, 2, 3, 15, 16, 19, 20, 4, 5, 6, 7, 8, 9, 10, 11, 12] (by decide) rfl rfl ?_
    exact lp_o 10 0 0 tm d u1 u2 u3 u4 rfl (by omega) ⟨hSt.2.2.2, hSu⟩ (fun h hh => absurd hh (by omega)) (by omega)
  · rcases hk with hk | ⟨rfl, hk2, hk3⟩
    · exact absurd hk c_4
    · have e1 : ta = (spl A B 9).1 := congrArg Prod.fst hk2
      have e2 : tb = (spl A B 9).2.1 := congrArg (fun z => z.2.1) hk2
      have e3 : tc = (spl A B 9).2.2 := congrArg (fun z => z.2.2) hk2
      exact hret _ _ _ _ _ dX6_renew_7 (by decide) (by decide) ⟨tm, u1, u2, u3, u4, d, ⟨hSt.2.2.2, hSu⟩, hk3, by rw [e1, e2, e3]⟩
end
section
theorem dX2_init_0 : decode cX2_init 0 = .ok (.aload_n 0, 1) := by decide +kernel
theorem dX2_init_1 : decode cX2_init 1 = .ok (.invokespecial 3, 3) := by decide +kernel
theorem dX2_init_4 : decode cX2_init 4 = .ok (.aload_n 0, 1) := by decide +kernel
theorem dX2_init_5 : decode cX2_init 5 = .ok (.new 9, 3) := by decide +kernel
theorem dX2_init_8 : decode cX2_init 8 = .ok (.dup, 1) := by decide +kernel
theorem dX2_init_9 : decode cX2_init 9 = .ok (.invokespecial 11, 3) := by decide +kernel
theorem dX2_init_12 : decode cX2_init 12 = .ok (.putfield 12, 3) := by decide +kernel
theorem dX2_init_15 : decode cX2_init 15 = .ok (.aload_n 0, 1) := by decide +kernel
theorem dX2_init_16 : decode cX2_init 16 = .ok (.new 9, 3) := by decide +kernel
theorem dX2_init_19 : decode cX2_init 19 = .ok (.dup, 1) := by decide +kernel
theorem dX2_init_20 : decode cX2_init 20 = .ok (.invokespecial 11, 3) := by decide +kernel
theorem dX2_init_23 : decode cX2_init 23 = .ok (.putfield 18, 3) := by decide +kernel
theorem dX2_init_26 : decode cX2_init 26 = .ok (.aload_n 0, 1) := by decide +kernel
theorem dX2_init_27 : decode cX2_init 27 = .ok (.iconst 0, 1) := by decide +kernel
theorem dX2_init_28 : decode cX2_init 28 = .ok (.putfield 21, 3) := by decide +kernel
theorem dX2_init_31 : decode cX2_init 31 = .ok (.return_, 1) := by decide +kernel
theorem dX2_forget_0 : decode cX2_forget 0 = .ok (.aload_n 0, 1) := by decide +kernel
theorem dX2_forget_1 : decode cX2_forget 1 = .ok (.iconst 0, 1) := by decide +kernel
theorem dX2_forget_2 : decode cX2_forget 2 = .ok (.putfield 21, 3) := by decide +kernel
theorem dX2_forget_5 : decode cX2_forget 5 = .ok (.return_, 1) := by decide +kernel
theorem dX2_renew_0 : decode cX2_renew 0 = .ok (.aload_n 0, 1) := by decide +kernel
theorem dX2_renew_1 : decode cX2_renew 1 = .ok (.getfield 21, 3) := by decide +kernel
theorem dX2_renew_4 : decode cX2_renew 4 = .ok (.ifCond .eq 4, 3) := by decide +kernel
theorem dX2_renew_7 : decode cX2_renew 7 = .ok (.return_, 1) := by decide +kernel
theorem dX2_renew_8 : decode cX2_renew 8 = .ok (.aload_n 0, 1) := by decide +kernel
theorem dX2_renew_9 : decode cX2_renew 9 = .ok (.iconst 1, 1) := by decide +kernel
theorem dX2_renew_10 : decode cX2_renew 10 = .ok (.putfield 21, 3) := by decide +kernel
theorem dX2_renew_13 : decode cX2_renew 13 = .ok (.aload_n 0, 1) := by decide +kernel
theorem dX2_renew_14 : decode cX2_renew 14 = .ok (.getfield 12, 3) := by decide +kernel
theorem dX2_renew_17 : decode cX2_renew 17 = .ok (.aload_n 2, 1) := by decide +kernel
theorem dX2_renew_18 : decode cX2_renew 18 = .ok (.invokevirtual 25, 3) := by decide +kernel
theorem dX2_renew_21 : decode cX2_renew 21 = .ok (.invokevirtual 31, 3) := by decide +kernel
theorem dX2_renew_24 : decode cX2_renew 24 = .ok (.aload_n 0, 1) := by decide +kernel
theorem dX2_renew_25 : decode cX2_renew 25 = .ok (.getfield 12, 3) := by decide +kernel
theorem dX2_renew_28 : decode cX2_renew 28 = .ok (.aload_n 2, 1) := by decide +kernel
theorem dX2_renew_29 : decode cX2_renew 29 = .ok (.invokevirtual 35, 3) := by decide +kernel
theorem dX2_renew_32 : decode cX2_renew 32 = .ok (.invokevirtual 38, 3) := by decide +kernel
theorem dX2_renew_35 : decode cX2_renew 35 = .ok (.aload_n 0, 1) := by decide +kernel
theorem dX2_renew_36 : decode cX2_renew 36 = .ok (.getfield 18, 3) := by decide +kernel
theorem dX2_renew_39 : decode cX2_renew 39 = .ok (.aload_n 1, 1) := by decide +kernel
theorem dX2_renew_40 : decode cX2_renew 40 = .ok (.iconst 2, 1) := by decide +kernel
theorem dX2_renew_41 : decode cX2_renew 41 = .ok (.invokevirtual 43, 3) := by decide +kernel
theorem dX2_renew_44 : decode cX2_renew 44 = .ok (.invokevirtual 31, 3) := by decide +kernel
theorem dX2_renew_47 : decode cX2_renew 47 = .ok (.aload_n 3, 1) := by decide +kernel
theorem dX2_renew_48 : decode cX2_renew 48 = .ok (.aload_n 0, 1) := by decide +kernel
theorem dX2_renew_49 : decode cX2_renew 49 = .ok (.getfield 12, 3) := by decide +kernel
theorem dX2_renew_52 : decode cX2_renew 52 = .ok (.aload_n 0, 1) := by decide +kernel
theorem dX2_renew_53 : decode cX2_renew 53 = .ok (.getfield 18, 3) := by decide +kernel
theorem dX2_renew_56 : decode cX2_renew 56 = .ok (.invokevirtual 47, 3) := by decide +kernel
theorem dX2_renew_59 : decode cX2_renew 59 = .ok (.astore 4, 2) := by decide +kernel
theorem dX2_renew_61 : decode cX2_renew 61 = .ok (.aload_n 3, 1) := by decide +kernel
theorem dX2_renew_62 : decode cX2_renew 62 = .ok (.aload_n 0, 1) := by decide +kernel
theorem dX2_renew_63 : decode cX2_renew 63 = .ok (.getfield 12, 3) := by decide +kernel
theorem dX2_renew_66 : decode cX2_renew 66 = .ok (.aload 4, 2) := by decide +kernel
theorem dX2_renew_68 : decode cX2_renew 68 = .ok (.invokevirtual 53, 3) := by decide +kernel
theorem dX2_renew_71 : decode cX2_renew 71 = .ok (.aload_n 3, 1) := by decide +kernel
theorem dX2_renew_72 : decode cX2_renew 72 = .ok (.aload_n 0, 1) := by decide +kernel
theorem dX2_renew_73 : decode cX2_renew 73 = .ok (.getfield 18, 3) := by decide +kernel
theorem dX2_renew_76 : decode cX2_renew 76 = .ok (.aload 4, 2) := by decide +kernel
theorem dX2_renew_78 : decode cX2_renew 78 = .ok (.invokevirtual 53, 3) := by decide +kernel
theorem dX2_renew_81 : decode cX2_renew 81 = .ok (.return_, 1) := by decide +kernel
theorem dX2_top_0 : decode cX2_top 0 = .ok (.aload_n 0, 1) := by decide +kernel
theorem dX2_top_1 : decode cX2_top 1 = .ok (.getfield 12, 3) := by decide +kernel
theorem dX2_top_4 : decode cX2_top 4 = .ok (.areturn, 1) := by decide +kernel
theorem dX2_bottom_0 : decode cX2_bottom 0 = .ok (.aload_n 0, 1) := by decide +kernel
theorem dX2_bottom_1 : decode cX2_bottom 1 = .ok (.getfield 18, 3) := by decide +kernel
theorem dX2_bottom_4 : decode cX2_bottom 4 = .ok (.areturn, 1) := by decide +kernel
theorem dX2_valueAt_0 : decode cX2_valueAt 0 = .ok (.aload_n 0, 1) := by decide +kernel
theorem dX2_valueAt_1 : decode cX2_valueAt 1 = .ok (.getfield 18, 3) := by decide +kernel
theorem dX2_valueAt_4 : decode cX2_valueAt 4 = .ok (.iload_n 1, 1) := by decide +kernel
theorem dX2_valueAt_5 : decode cX2_valueAt 5 = .ok (.invokevirtual 57, 3) := by decide +kernel
theorem dX2_valueAt_8 : decode cX2_valueAt 8 = .ok (.istore_n 2, 1) := by decide +kernel
theorem dX2_valueAt_9 : decode cX2_valueAt 9 = .ok (.iload_n 2, 1) := by decide +kernel
theorem dX2_valueAt_10 : decode cX2_valueAt 10 = .ok (.ifCond .ne 7, 3) := by decide +kernel
theorem dX2_valueAt_13 : decode cX2_valueAt 13 = .ok (.iconst (-1), 1) := by decide +kernel
theorem dX2_valueAt_14 : decode cX2_valueAt 14 = .ok (.goto 20, 3) := by decide +kernel
theorem dX2_valueAt_17 : decode cX2_valueAt 17 = .ok (.aload_n 0, 1) := by decide +kernel
theorem dX2_valueAt_18 : decode cX2_valueAt 18 = .ok (.getfield 12, 3) := by decide +kernel
theorem dX2_valueAt_21 : decode cX2_valueAt 21 = .ok (.iload_n 1, 1) := by decide +kernel
theorem dX2_valueAt_22 : decode cX2_valueAt 22 = .ok (.invokevirtual 57, 3) := by decide +kernel
theorem dX2_valueAt_25 : decode cX2_valueAt 25 = .ok (.iload_n 2, 1) := by decide +kernel
theorem dX2_valueAt_26 : decode cX2_valueAt 26 = .ok (.invokestatic 61, 3) := by decide +kernel
theorem dX2_valueAt_29 : decode cX2_valueAt 29 = .ok (.imul, 1) := by decide +kernel
theorem dX2_valueAt_30 : decode cX2_valueAt 30 = .ok (.sipush 32003, 3) := by decide +kernel
theorem dX2_valueAt_33 : decode cX2_valueAt 33 = .ok (.irem, 1) := by decide +kernel
theorem dX2_valueAt_34 : decode cX2_valueAt 34 = .ok (.ireturn, 1) := by decide +kernel
set_option maxRecDepth 20000 in
theorem ggX2_init_X4_init : GoodIn wsX2_init wsX4_init := goodIn_r _ [11, 12, 2, 3, 13, 14, 15, 16, 17] (by decide +kernel) (by decide +kernel)
set_option maxRecDepth 20000 in
theorem gX2_init_X4_init_n11 : GoodIn wsX2_init (wsX4_init) := ggX2_init_X4_init
set_option maxRecDepth 20000 in
theorem ggX2_renew_X1_bottomBefore : GoodIn wsX2_renew wsX1_bottomBefore := goodIn_r _ [8, 9, 102, 103, 104, 105, 106, 107, 108, 109] (by decide +kernel) (by decide +kernel)
set_option maxRecDepth 20000 in
theorem gX2_renew_X1_bottomBefore : GoodIn wsX2_renew (wsV RX2 25 RX1 yX1_bottomBefore wsX1_bottomBefore) := goodIn_app (goodIn_of _ (by decide +kernel)) ggX2_renew_X1_bottomBefore
set_option maxRecDepth 20000 in
theorem ggX2_renew_X4_copyFrom : GoodIn wsX2_renew wsX4_copyFrom := goodIn_r _ [14, 15, 16, 17, 18, 19, 13, 20, 110, 111] (by decide +kernel) (by decide +kernel)
set_option maxRecDepth 20000 in
theorem gX2_renew_X4_copyFrom : GoodIn wsX2_renew (wsV RX2 31 RX4 yX4_copyFrom wsX4_copyFrom) := goodIn_app (goodIn_of _ (by decide +kernel)) ggX2_renew_X4_copyFrom
set_option maxRecDepth 20000 in
theorem ggX2_renew_X1_solution : GoodIn wsX2_renew wsX1_solution := goodIn_r _ [24, 25, 26, 102, 103, 104, 105, 106, 107, 108, 109, 112, 113] (by decide +kernel) (by decide +kernel)
set_option maxRecDepth 20000 in
theorem gX2_renew_X1_solution : GoodIn wsX2_renew (wsV RX2 35 RX1 yX1_solution wsX1_solution) := goodIn_app (goodIn_of _ (by decide +kernel)) ggX2_renew_X1_solution
set_option maxRecDepth 20000 in
theorem ggX2_renew_X4_multiplyBy : GoodIn wsX2_renew wsX4_multiplyBy := goodIn_r _ [30, 16, 15, 31, 32, 33, 34, 35, 36, 37, 13, 38, 17, 18, 19, 20, 39, 40, 41, 42, 110, 111] (by decide +kernel) (by decide +kernel)
set_option maxRecDepth 20000 in
theorem gX2_renew_X4_multiplyBy : GoodIn wsX2_renew (wsV RX2 38 RX4 yX4_multiplyBy wsX4_multiplyBy) := goodIn_app (goodIn_of _ (by decide +kernel)) ggX2_renew_X4_multiplyBy
set_option maxRecDepth 20000 in
theorem ggX2_renew_X6_part : GoodIn wsX2_renew wsX6_part := goodIn_r _ [47, 48, 49, 50, 114, 115, 116, 117, 118, 119] (by decide +kernel) (by decide +kernel)
set_option maxRecDepth 20000 in
theorem gX2_renew_X6_part : GoodIn wsX2_renew (wsV RX2 43 RX6 yX6_part wsX6_part) := goodIn_app (goodIn_of _ (by decide +kernel)) ggX2_renew_X6_part
set_option maxRecDepth 20000 in
theorem ggX2_renew_X0_commonDivisor : GoodIn wsX2_renew wsX0_commonDivisor := goodIn_r _ [55, 56, 57, 58, 59, 60, 11, 12, 13, 14, 15, 16, 17, 18, 19, 20, 61, 36, 37, 38, 62, 63, 64, 65, 66, 67, 68, 69, 35, 70, 71, 72, 73, 74, 75, 76, 77, 78, 79, 80, 81, 82, 33, 83, 39, 40, 41, 42, 84, 85, 86, 87, 88, 89, 90, 91, 92, 93, 94, 120, 121, 122, 123, 110, 111] (by decide +kernel) (by decide +kernel)
set_option maxRecDepth 20000 in
theorem gX2_renew_X0_commonDivisor : GoodIn wsX2_renew (wsV RX2 47 RX0 yX0_commonDivisor wsX0_commonDivisor) := goodIn_app (goodIn_of _ (by decide +kernel)) ggX2_renew_X0_commonDivisor
set_option maxRecDepth 20000 in
theorem ggX2_renew_X0_divideOut : GoodIn wsX2_renew wsX0_divideOut := goodIn_r _ [98, 58, 62, 63, 64, 13, 65, 16, 66, 67, 68, 69, 15, 35, 36, 37, 38, 70, 71, 72, 73, 17, 18, 19, 20, 74, 75, 76, 77, 78, 79, 80, 81, 82, 33, 83, 39, 40, 41, 42, 84, 85, 86, 87, 88, 89, 60, 11, 12, 14, 120, 121, 122, 123, 110, 111] (by decide +kernel) (by decide +kernel)
set_option maxRecDepth 20000 in
theorem gX2_renew_X0_divideOut : GoodIn wsX2_renew (wsV RX2 53 RX0 yX0_divideOut wsX0_divideOut) := goodIn_app (goodIn_of _ (by decide +kernel)) ggX2_renew_X0_divideOut
set_option maxRecDepth 20000 in
theorem ggX2_valueAt_X4_valueAt : GoodIn wsX2_valueAt wsX4_valueAt := goodIn_r _ [7, 8, 9, 10, 11, 6, 12, 13, 20, 21] (by decide +kernel) (by decide +kernel)
set_option maxRecDepth 20000 in
theorem gX2_valueAt_X4_valueAt : GoodIn wsX2_valueAt (wsV RX2 57 RX4 yX4_valueAt wsX4_valueAt) := goodIn_app (goodIn_of _ (by decide +kernel)) ggX2_valueAt_X4_valueAt
set_option maxRecDepth 20000 in
theorem ggX2_valueAt_X7_inverse : GoodIn wsX2_valueAt wsX7_inverse := goodIn_r _ [16] (by decide +kernel) (by decide +kernel)
set_option maxRecDepth 20000 in
theorem gX2_valueAt_X7_inverse_n61 : GoodIn wsX2_valueAt (wsX7_inverse) := ggX2_valueAt_X7_inverse
theorem dX5_init_0 : decode cX5_init 0 = .ok (.aload_n 0, 1) := by decide +kernel
theorem dX5_init_1 : decode cX5_init 1 = .ok (.invokespecial 3, 3) := by decide +kernel
theorem dX5_init_4 : decode cX5_init 4 = .ok (.aload_n 0, 1) := by decide +kernel
theorem dX5_init_5 : decode cX5_init 5 = .ok (.bipush 61, 2) := by decide +kernel
theorem dX5_init_7 : decode cX5_init 7 = .ok (.newarray .int, 2) := by decide +kernel
theorem dX5_init_9 : decode cX5_init 9 = .ok (.putfield 9, 3) := by decide +kernel
theorem dX5_init_12 : decode cX5_init 12 = .ok (.aload_n 0, 1) := by decide +kernel
theorem dX5_init_13 : decode cX5_init 13 = .ok (.iconst 0, 1) := by decide +kernel
theorem dX5_init_14 : decode cX5_init 14 = .ok (.putfield 15, 3) := by decide +kernel
theorem dX5_init_17 : decode cX5_init 17 = .ok (.aload_n 0, 1) := by decide +kernel
theorem dX5_init_18 : decode cX5_init 18 = .ok (.getfield 9, 3) := by decide +kernel
theorem dX5_init_21 : decode cX5_init 21 = .ok (.iconst 0, 1) := by decide +kernel
theorem dX5_init_22 : decode cX5_init 22 = .ok (.iconst 1, 1) := by decide +kernel
theorem dX5_init_23 : decode cX5_init 23 = .ok (.iastore, 1) := by decide +kernel
theorem dX5_init_24 : decode cX5_init 24 = .ok (.return_, 1) := by decide +kernel
theorem dX5_forget_0 : decode cX5_forget 0 = .ok (.aload_n 0, 1) := by decide +kernel
theorem dX5_forget_1 : decode cX5_forget 1 = .ok (.iconst 0, 1) := by decide +kernel
theorem dX5_forget_2 : decode cX5_forget 2 = .ok (.putfield 15, 3) := by decide +kernel
theorem dX5_forget_5 : decode cX5_forget 5 = .ok (.return_, 1) := by decide +kernel
theorem dX5_reaches_0 : decode cX5_reaches 0 = .ok (.aload_n 0, 1) := by decide +kernel
theorem dX5_reaches_1 : decode cX5_reaches 1 = .ok (.getfield 15, 3) := by decide +kernel
theorem dX5_reaches_4 : decode cX5_reaches 4 = .ok (.istore 4, 2) := by decide +kernel
theorem dX5_reaches_6 : decode cX5_reaches 6 = .ok (.iload 4, 2) := by decide +kernel
theorem dX5_reaches_8 : decode cX5_reaches 8 = .ok (.iload_n 1, 1) := by decide +kernel
theorem dX5_reaches_9 : decode cX5_reaches 9 = .ok (.if_icmp .ge 85, 3) := by decide +kernel
theorem dX5_reaches_12 : decode cX5_reaches 12 = .ok (.iload 4, 2) := by decide +kernel
theorem dX5_reaches_14 : decode cX5_reaches 14 = .ok (.iconst 1, 1) := by decide +kernel
theorem dX5_reaches_15 : decode cX5_reaches 15 = .ok (.iadd, 1) := by decide +kernel
theorem dX5_reaches_16 : decode cX5_reaches 16 = .ok (.aload_n 0, 1) := by decide +kernel
theorem dX5_reaches_17 : decode cX5_reaches 17 = .ok (.getfield 9, 3) := by decide +kernel
theorem dX5_reaches_20 : decode cX5_reaches 20 = .ok (.arraylength, 1) := by decide +kernel
theorem dX5_reaches_21 : decode cX5_reaches 21 = .ok (.if_icmp .ge 73, 3) := by decide +kernel
theorem dX5_reaches_24 : decode cX5_reaches 24 = .ok (.aload_n 3, 1) := by decide +kernel
theorem dX5_reaches_25 : decode cX5_reaches 25 = .ok (.iload 4, 2) := by decide +kernel
theorem dX5_reaches_27 : decode cX5_reaches 27 = .ok (.invokevirtual 19, 3) := by decide +kernel
theorem dX5_reaches_30 : decode cX5_reaches 30 = .ok (.istore 5, 2) := by decide +kernel
theorem dX5_reaches_32 : decode cX5_reaches 32 = .ok (.iload 5, 2) := by decide +kernel
theorem dX5_reaches_34 : decode cX5_reaches 34 = .ok (.ifCond .ne 5, 3) := by decide +kernel
theorem dX5_reaches_37 : decode cX5_reaches 37 = .ok (.iconst 0, 1) := by decide +kernel
theorem dX5_reaches_38 : decode cX5_reaches 38 = .ok (.ireturn, 1) := by decide +kernel
theorem dX5_reaches_39 : decode cX5_reaches 39 = .ok (.aload_n 2, 1) := by decide +kernel
theorem dX5_reaches_40 : decode cX5_reaches 40 = .ok (.iload 4, 2) := by decide +kernel
theorem dX5_reaches_42 : decode cX5_reaches 42 = .ok (.invokevirtual 19, 3) := by decide +kernel
theorem dX5_reaches_45 : decode cX5_reaches 45 = .ok (.iload 5, 2) := by decide +kernel
theorem dX5_reaches_47 : decode cX5_reaches 47 = .ok (.invokestatic 25, 3) := by decide +kernel
theorem dX5_reaches_50 : decode cX5_reaches 50 = .ok (.imul, 1) := by decide +kernel
theorem dX5_reaches_51 : decode cX5_reaches 51 = .ok (.sipush 32003, 3) := by decide +kernel
theorem dX5_reaches_54 : decode cX5_reaches 54 = .ok (.irem, 1) := by decide +kernel
theorem dX5_reaches_55 : decode cX5_reaches 55 = .ok (.istore 6, 2) := by decide +kernel
theorem dX5_reaches_57 : decode cX5_reaches 57 = .ok (.aload_n 0, 1) := by decide +kernel
theorem dX5_reaches_58 : decode cX5_reaches 58 = .ok (.getfield 9, 3) := by decide +kernel
theorem dX5_reaches_61 : decode cX5_reaches 61 = .ok (.iload 4, 2) := by decide +kernel
theorem dX5_reaches_63 : decode cX5_reaches 63 = .ok (.iconst 1, 1) := by decide +kernel
theorem dX5_reaches_64 : decode cX5_reaches 64 = .ok (.iadd, 1) := by decide +kernel
theorem dX5_reaches_65 : decode cX5_reaches 65 = .ok (.aload_n 0, 1) := by decide +kernel
theorem dX5_reaches_66 : decode cX5_reaches 66 = .ok (.getfield 9, 3) := by decide +kernel
theorem dX5_reaches_69 : decode cX5_reaches 69 = .ok (.iload 4, 2) := by decide +kernel
theorem dX5_reaches_71 : decode cX5_reaches 71 = .ok (.iaload, 1) := by decide +kernel
theorem dX5_reaches_72 : decode cX5_reaches 72 = .ok (.iload 6, 2) := by decide +kernel
theorem dX5_reaches_74 : decode cX5_reaches 74 = .ok (.imul, 1) := by decide +kernel
theorem dX5_reaches_75 : decode cX5_reaches 75 = .ok (.sipush 32003, 3) := by decide +kernel
theorem dX5_reaches_78 : decode cX5_reaches 78 = .ok (.irem, 1) := by decide +kernel
theorem dX5_reaches_79 : decode cX5_reaches 79 = .ok (.iastore, 1) := by decide +kernel
theorem dX5_reaches_80 : decode cX5_reaches 80 = .ok (.aload_n 0, 1) := by decide +kernel
theorem dX5_reaches_81 : decode cX5_reaches 81 = .ok (.iload 4, 2) := by decide +kernel
theorem dX5_reaches_83 : decode cX5_reaches 83 = .ok (.iconst 1, 1) := by decide +kernel
theorem dX5_reaches_84 : decode cX5_reaches 84 = .ok (.iadd, 1) := by decide +kernel
theorem dX5_reaches_85 : decode cX5_reaches 85 = .ok (.putfield 15, 3) := by decide +kernel
theorem dX5_reaches_88 : decode cX5_reaches 88 = .ok (.iinc 4 1, 3) := by decide +kernel
theorem dX5_reaches_91 : decode cX5_reaches 91 = .ok (.goto (-85), 3) := by decide +kernel
theorem dX5_reaches_94 : decode cX5_reaches 94 = .ok (.iload_n 1, 1) := by decide +kernel
theorem dX5_reaches_95 : decode cX5_reaches 95 = .ok (.aload_n 0, 1) := by decide +kernel
theorem dX5_reaches_96 : decode cX5_reaches 96 = .ok (.getfield 15, 3) := by decide +kernel
theorem dX5_reaches_99 : decode cX5_reaches 99 = .ok (.if_icmp .gt 7, 3) := by decide +kernel
theorem dX5_reaches_102 : decode cX5_reaches 102 = .ok (.iconst 1, 1) := by decide +kernel
theorem dX5_reaches_103 : decode cX5_reaches 103 = .ok (.goto 4, 3) := by decide +kernel
theorem dX5_reaches_106 : decode cX5_reaches 106 = .ok (.iconst 0, 1) := by decide +kernel
theorem dX5_reaches_107 : decode cX5_reaches 107 = .ok (.ireturn, 1) := by decide +kernel
theorem dX5_termAt_0 : decode cX5_termAt 0 = .ok (.iload_n 1, 1) := by decide +kernel
theorem dX5_termAt_1 : decode cX5_termAt 1 = .ok (.ifCond .lt 12, 3) := by decide +kernel
theorem dX5_termAt_4 : decode cX5_termAt 4 = .ok (.iload_n 1, 1) := by decide +kernel
theorem dX5_termAt_5 : decode cX5_termAt 5 = .ok (.aload_n 0, 1) := by decide +kernel
theorem dX5_termAt_6 : decode cX5_termAt 6 = .ok (.getfield 9, 3) := by decide +kernel
theorem dX5_termAt_9 : decode cX5_termAt 9 = .ok (.arraylength, 1) := by decide +kernel
theorem dX5_termAt_10 : decode cX5_termAt 10 = .ok (.if_icmp .lt 7, 3) := by decide +kernel
theorem dX5_termAt_13 : decode cX5_termAt 13 = .ok (.iconst 0, 1) := by decide +kernel
theorem dX5_termAt_14 : decode cX5_termAt 14 = .ok (.goto 9, 3) := by decide +kernel
theorem dX5_termAt_17 : decode cX5_termAt 17 = .ok (.aload_n 0, 1) := by decide +kernel
theorem dX5_termAt_18 : decode cX5_termAt 18 = .ok (.getfield 9, 3) := by decide +kernel
theorem dX5_termAt_21 : decode cX5_termAt 21 = .ok (.iload_n 1, 1) := by decide +kernel
theorem dX5_termAt_22 : decode cX5_termAt 22 = .ok (.iaload, 1) := by decide +kernel
theorem dX5_termAt_23 : decode cX5_termAt 23 = .ok (.ireturn, 1) := by decide +kernel
theorem dX5_sumBelow_0 : decode cX5_sumBelow 0 = .ok (.iconst 0, 1) := by decide +kernel
theorem dX5_sumBelow_1 : decode cX5_sumBelow 1 = .ok (.istore_n 2, 1) := by decide +kernel
theorem dX5_sumBelow_2 : decode cX5_sumBelow 2 = .ok (.iconst 0, 1) := by decide +kernel
theorem dX5_sumBelow_3 : decode cX5_sumBelow 3 = .ok (.istore_n 3, 1) := by decide +kernel
theorem dX5_sumBelow_4 : decode cX5_sumBelow 4 = .ok (.iload_n 3, 1) := by decide +kernel
theorem dX5_sumBelow_5 : decode cX5_sumBelow 5 = .ok (.iload_n 1, 1) := by decide +kernel
theorem dX5_sumBelow_6 : decode cX5_sumBelow 6 = .ok (.if_icmp .ge 31, 3) := by decide +kernel
theorem dX5_sumBelow_9 : decode cX5_sumBelow 9 = .ok (.iload_n 3, 1) := by decide +kernel
theorem dX5_sumBelow_10 : decode cX5_sumBelow 10 = .ok (.aload_n 0, 1) := by decide +kernel
theorem dX5_sumBelow_11 : decode cX5_sumBelow 11 = .ok (.getfield 9, 3) := by decide +kernel
theorem dX5_sumBelow_14 : decode cX5_sumBelow 14 = .ok (.arraylength, 1) := by decide +kernel
theorem dX5_sumBelow_15 : decode cX5_sumBelow 15 = .ok (.if_icmp .ge 22, 3) := by decide +kernel
theorem dX5_sumBelow_18 : decode cX5_sumBelow 18 = .ok (.iload_n 2, 1) := by decide +kernel
theorem dX5_sumBelow_19 : decode cX5_sumBelow 19 = .ok (.aload_n 0, 1) := by decide +kernel
theorem dX5_sumBelow_20 : decode cX5_sumBelow 20 = .ok (.getfield 9, 3) := by decide +kernel
theorem dX5_sumBelow_23 : decode cX5_sumBelow 23 = .ok (.iload_n 3, 1) := by decide +kernel
theorem dX5_sumBelow_24 : decode cX5_sumBelow 24 = .ok (.iaload, 1) := by decide +kernel
theorem dX5_sumBelow_25 : decode cX5_sumBelow 25 = .ok (.iadd, 1) := by decide +kernel
theorem dX5_sumBelow_26 : decode cX5_sumBelow 26 = .ok (.sipush 32003, 3) := by decide +kernel
theorem dX5_sumBelow_29 : decode cX5_sumBelow 29 = .ok (.irem, 1) := by decide +kernel
theorem dX5_sumBelow_30 : decode cX5_sumBelow 30 = .ok (.istore_n 2, 1) := by decide +kernel
theorem dX5_sumBelow_31 : decode cX5_sumBelow 31 = .ok (.iinc 3 1, 3) := by decide +kernel
theorem dX5_sumBelow_34 : decode cX5_sumBelow 34 = .ok (.goto (-30), 3) := by decide +kernel
theorem dX5_sumBelow_37 : decode cX5_sumBelow 37 = .ok (.iload_n 2, 1) := by decide +kernel
theorem dX5_sumBelow_38 : decode cX5_sumBelow 38 = .ok (.ireturn, 1) := by decide +kernel
set_option maxRecDepth 20000 in
theorem ggX5_reaches_X4_valueAt : GoodIn wsX5_reaches wsX4_valueAt := goodIn_r _ [7, 8, 9, 10, 11, 6, 12, 13, 19, 20] (by decide +kernel) (by decide +kernel)
set_option maxRecDepth 20000 in
theorem gX5_reaches_X4_valueAt : GoodIn wsX5_reaches (wsV RX5 19 RX4 yX4_valueAt wsX4_valueAt) := goodIn_app (goodIn_of _ (by decide +kernel)) ggX5_reaches_X4_valueAt
set_option maxRecDepth 20000 in
theorem ggX5_reaches_X7_inverse : GoodIn wsX5_reaches wsX7_inverse := goodIn_r _ [16] (by decide +kernel) (by decide +kernel)
set_option maxRecDepth 20000 in
theorem gX5_reaches_X7_inverse_n25 : GoodIn wsX5_reaches (wsX7_inverse) := ggX5_reaches_X7_inverse
end
section
/-- the terms -/
def tmv (A B : Po) : Nat → Fq
  | 0 => 1
  | n + 1 => tmv A B n * (val A (cF (n : Int)) * ivq (val B (cF (n : Int))))
def PrOk (A B : Po) (r : Nat) (t : Po) : Prop := r ≤ 60 ∧ (∀ j : Nat, j ≤ r → t j = tmv A B j) ∧ ∀ j : Nat, j < r → val B (cF (j : Int)) ≠ 0
theorem in_X5_init_X5 : ∀ w ∈ u_ws RX5 TX5 2, w ∈ wsX5_init := by decide +kernel
theorem lk_X5_init_terms : Cond.fieldLink yX5_init.cls 9 (TX5 0).1 (TX5 0).2.1 (TX5 0).2.2.1 ∈ wsX5_init := by decide +kernel
theorem lk_X5_init_reached : Cond.fieldLink yX5_init.cls 15 (TX5 1).1 (TX5 1).2.1 (TX5 1).2.2.1 ∈ wsX5_init := by decide +kernel
set_option maxHeartbeats 4000000 in
set_option maxRecDepth 100000 in
theorem c_X5_init (E : ev) (l : Launch) (h : Nat) : Mv E l yX5_init wsX5_init { frames := 1, cells := 1, slots := 61, locals := 30 } [.ref h] [(h, .inr (5, [.null, .int (zI 0)]))] (fun w => ∃ tq : Nat, w = [(h, .inr (5, [.ref tq, .int (zI 0)])), (tq, .inl (E.2.2.1, 61, .inl (pv (cset zr 0 1))))]) 1 61 := by
  refine enter_v (cc := cX5_init) (nL := 1) (by decide) rfl (Nat.le_of_ble_eq_true rfl) (fun G C hret => ?_)
  show G 0 0 [(h, .inr (5, [.null, .int (zI 0)]))] [(0, .ref h)] 0 []
  refine g_aload_n C dX5_init_0 0 rfl ?_
  refine g_objInit C (by decide +kernel) (List.mem_cons_of_mem _ (List.mem_of_getElem? (i := 2) rfl)) dX5_init_1 (by decide) (Nat.le_of_ble_eq_true rfl) ?_
  refine g_aload_n C dX5_init_4 0 rfl ?_
  refine g_bipush C dX5_init_5 rfl ?_
  refine g_newaI C 61 (pv zr) rfl (by decide +kernel) rfl (by decide) (by decide) dX5_init_7 (fun q_7 => ?_)
  refine g_eq (ws' := [(h, .inr (5, [.null, .int (zI 0)])), (q_7, .inl (E.2.2.1, 61, .inl (pv zr)))]) rfl rfl rfl ?_
  refine g_putF C [(h, .inr (5, [.ref q_7, .int (zI 0)])), (q_7, .inl (E.2.2.1, 61, .inl (pv zr)))] tyX5 tyX5_ok nmX5 0 rfl rfl 0 (by decide) in_X5_init_X5 lk_X5_init_terms rfl rfl rfl rfl (Nat.le_of_ble_eq_true rfl) dX5_init_9 rfl rfl ?_
  refine g_aload_n C dX5_init_12 0 rfl ?_
  refine g_iconst C dX5_init_13 ?_
  refine g_put C [(h, .inr (5, [.ref q_7, .int (zI 0)])), (q_7, .inl (E.2.2.1, 61, .inl (pv zr)))] tyX5 tyX5_ok nmX5 0 rfl rfl 1 (by decide) in_X5_init_X5 lk_X5_init_reached rfl rfl rfl (Nat.le_of_ble_eq_true rfl) dX5_init_14 rfl ?_
  refine g_aload_n C dX5_init_17 0 rfl ?_
  refine g_get C 0 rfl rfl 0 (by decide) in_X5_init_X5 lk_X5_init_terms rfl dX5_init_18 ?_
  refine g_iconst C dX5_init_21 ?_
  refine g_iconst C dX5_init_22 ?_
  refine g_iast C [(h, .inr (5, [.ref q_7, .int (zI 0)])), (q_7, .inl (E.2.2.1, 61, .inl (pv (cset zr 0 1))))] 1 0 1 rfl (by omega) (by omega) (by decide) (rfl) dX5_init_23 rfl ?_
  exact hret _ _ _ _ _ dX5_init_24 (by decide) (by decide) ⟨q_7, rfl⟩
theorem in_X5_forget_X5 : ∀ w ∈ u_ws RX5 TX5 2, w ∈ wsX5_forget := by decide +kernel
theorem lk_X5_forget_reached : Cond.fieldLink yX5_forget.cls 15 (TX5 1).1 (TX5 1).2.1 (TX5 1).2.2.1 ∈ wsX5_forget := by decide +kernel
set_option maxHeartbeats 4000000 in
set_option maxRecDepth 100000 in
theorem c_X5_forget (E : ev) (l : Launch) (h tq : Nat) (r : Int) : Mv E l yX5_forget wsX5_forget { frames := 0, cells := 0, slots := 0, locals := 0 } [.ref h] [(h, .inr (5, [.ref tq, .int (zI r)]))] (fun w => w = [(h, .inr (5, [.ref tq, .int (zI 0)]))]) 0 0 := by
  refine enter_v (cc := cX5_forget) (nL := 1) (by decide) rfl (Nat.le_of_ble_eq_true rfl) (fun G C hret => ?_)
  show G 0 0 [(h, .inr (5, [.ref tq, .int (zI r)]))] [(0, .ref h)] 0 []
  refine g_aload_n C dX5_forget_0 0 rfl ?_
  refine g_iconst C dX5_forget_1 ?_
  refine g_put C [(h, .inr (5, [.ref tq, .int (zI 0)]))] tyX5 tyX5_ok nmX5 0 rfl rfl 1 (by decide) in_X5_forget_X5 lk_X5_forget_reached rfl rfl rfl (Nat.le_of_ble_eq_true rfl) dX5_forget_2 rfl ?_
  exact hret _ _ _ _ _ dX5_forget_5 (by decide) (by decide) rfl
theorem in_X5_termAt_X5 : ∀ w ∈ u_ws RX5 TX5 2, w ∈ wsX5_termAt := by decide +kernel
theorem lk_X5_termAt_terms : Cond.fieldLink yX5_termAt.cls 9 (TX5 0).1 (TX5 0).2.1 (TX5 0).2.2.1 ∈ wsX5_termAt := by decide +kernel
set_option maxHeartbeats 4000000 in
set_option maxRecDepth 100000 in
theorem c_X5_termAt (E : ev) (l : Launch) (h tq : Nat) (r : Int) (t : Po) (n : Nat) (hn : n < 61) : Mi E l yX5_termAt wsX5_termAt { frames := 0, cells := 0, slots := 0, locals := 0 } [.ref h, .int (zI (n : Int))] [(h, .inr (5, [.ref tq, .int (zI r)])), (tq, .inl (E.2.2.1, 61, .inl (pv t)))] (fun v w => v = zI ((t n).val : Int) ∧ w = [(h, .inr (5, [.ref tq, .int (zI r)])), (tq, .inl (E.2.2.1, 61, .inl (pv t)))]) 0 0 := by
  refine enter_i (cc := cX5_termAt) (nL := 2) (by decide) rfl (Nat.le_of_ble_eq_true rfl) (fun G C hret => ?_)
  show G 0 0 [(h, .inr (5, [.ref tq, .int (zI r)])), (tq, .inl (E.2.2.1, 61, .inl (pv t)))] [(0, .ref h), (1, .int (zI (n : Int)))] 0 []
  refine g_iload_n C dX5_termAt_0 1 rfl ?_
  refine g_if_lt C 13 dX5_termAt_1 (by decide) (by omega) (by omega) (fun c_1 => by exfalso; omega) (fun c_1 => ?_)
  refine g_iload_n C dX5_termAt_4 1 rfl ?_
  refine g_aload_n C dX5_termAt_5 0 rfl ?_
  refine g_get C 0 rfl rfl 0 (by decide) in_X5_termAt_X5 lk_X5_termAt_terms rfl dX5_termAt_6 ?_
  refine g_alen C 1 rfl dX5_termAt_9 ?_
  refine g_icmp_lt C 17 dX5_termAt_10 (by decide) (by omega) (by omega) (by omega) (by omega) (fun c_10 => ?_) (fun c_10 => by exfalso; omega)
  refine g_aload_n C dX5_termAt_17 0 rfl ?_
  refine g_get C 0 rfl rfl 0 (by decide) in_X5_termAt_X5 lk_X5_termAt_terms rfl dX5_termAt_18 ?_
  refine g_iload_n C dX5_termAt_21 1 rfl ?_
  refine g_iald C 1 n rfl (by omega) (by omega) (by decide) dX5_termAt_22 ?_
  exact hret _ _ _ _ _ _ dX5_termAt_23 (by decide) (by decide) ⟨rfl, rfl⟩
theorem in_X5_sumBelow_X5 : ∀ w ∈ u_ws RX5 TX5 2, w ∈ wsX5_sumBelow := by decide +kernel
theorem lk_X5_sumBelow_terms : Cond.fieldLink yX5_sumBelow.cls 9 (TX5 0).1 (TX5 0).2.1 (TX5 0).2.2.1 ∈ wsX5_sumBelow := by decide +kernel
set_option maxHeartbeats 4000000 in
set_option maxRecDepth 100000 in
theorem c_X5_sumBelow (E : ev) (l : Launch) (h tq : Nat) (r : Int) (t : Po) (n : Nat) (hn : n ≤ 61) : Mi E l yX5_sumBelow wsX5_sumBelow { frames := 0, cells := 0, slots := 0, locals := 0 } [.ref h, .int (zI (n : Int))] [(h, .inr (5, [.ref tq, .int (zI r)])), (tq, .inl (E.2.2.1, 61, .inl (pv t)))] (fun v w => v = zI ((sm t n).val : Int) ∧ w = [(h, .inr (5, [.ref tq, .int (zI r)])), (tq, .inl (E.2.2.1, 61, .inl (pv t)))]) 0 0 := by
  refine enter_i (cc := cX5_sumBelow) (nL := 4) (by decide) rfl (Nat.le_of_ble_eq_true rfl) (fun G C hret => ?_)
  show G 0 0 [(h, .inr (5, [.ref tq, .int (zI r)])), (tq, .inl (E.2.2.1, 61, .inl (pv t)))] [(0, .ref h), (1, .int (zI (n : Int)))] 0 []
  refine g_iconst C dX5_sumBelow_0 ?_
  refine g_istore_n C [(2, .int (zI 0)), (0, .ref h), (1, .int (zI (n : Int)))] dX5_sumBelow_1 (by decide) rfl ?_
  refine g_iconst C dX5_sumBelow_2 ?_
  refine g_istore_n C [(3, .int (zI 0)), (2, .int (zI 0)), (0, .ref h), (1, .int (zI (n : Int)))] dX5_sumBelow_3 (by decide) rfl ?_
  have lp_o : ∀ (n_o : Nat) (x : Int) (k : Nat) (s : Fq), (x = (k : Int)) → (k ≤ n) → (s = sm t k) → n - k < n_o → G 0 0 [(h, .inr (5, [.ref tq, .int (zI r)])), (tq, .inl (E.2.2.1, 61, .inl (pv t)))] [(3, .int (zI x)), (2, .int (zI (s.val : Int))), (0, .ref h), (1, .int (zI (n : Int)))] 4 [] := by
    intro n_o
    induction n_o with
    | zero =>
      intro x k s hx hk hs hm_o
      exact absurd hm_o (by omega)
    | succ n_o ih_o =>
      intro x k s hx hk hs hm_o
      refine g_iload_n C dX5_sumBelow_4 0 rfl ?_
      refine g_iload_n C dX5_sumBelow_5 3 rfl ?_
      refine g_icmp_ge C 37 dX5_sumBelow_6 (by decide) (by omega) (by omega) (by omega) (by omega) (fun c_6 => ?_) (fun c_6 => ?_)
      · have e : s = sm t n := by rw [hs, show k = n by omega]
        refine g_iload_n C dX5_sumBelow_37 1 rfl ?_
        exact hret _ _ _ _ _ _ dX5_sumBelow_38 (by decide) (by decide) ⟨by rw [e], rfl⟩
      · refine g_iload_n C dX5_sumBelow_9 0 rfl ?_
        refine g_aload_n C dX5_sumBelow_10 2 rfl ?_
        refine g_get C 0 rfl rfl 0 (by decide) in_X5_sumBelow_X5 lk_X5_sumBelow_terms rfl dX5_sumBelow_11 ?_
        refine g_alen C 1 rfl dX5_sumBelow_14 ?_
        refine g_icmp_ge C 37 dX5_sumBelow_15 (by decide) (by omega) (by omega) (by omega) (by omega) (fun c_15 => by exfalso; omega) (fun c_15 => ?_)
        refine g_iload_n C dX5_sumBelow_18 1 rfl ?_
        refine g_aload_n C dX5_sumBelow_19 2 rfl ?_
        refine g_get C 0 rfl rfl 0 (by decide) in_X5_sumBelow_X5 lk_X5_sumBelow_terms rfl dX5_sumBelow_20 ?_
        refine g_iload_n C dX5_sumBelow_23 0 rfl ?_
        refine g_iald C 1 k rfl (by omega) (by omega) (by decide) dX5_sumBelow_24 ?_
        refine g_iadd C dX5_sumBelow_25 ?_
        refine g_sipush C dX5_sumBelow_26 rfl ?_
        refine g_mod C dX5_sumBelow_29 (by have := s.isLt; have := (t k).isLt; omega) (by have := s.isLt; have := (t k).isLt; omega) ?_
        refine g_top (zI ((s + t k).val : Int)) (congrArg (fun u : Fq => zI (u.val : Int)) (by simp only [cF_add, cF_of])) ?_
        refine g_istore_n C [(2, .int (zI ((s + t k).val : Int))), (3, .int (zI x)), (0, .ref h), (1, .int (zI (n : Int)))] dX5_sumBelow_30 (by decide) rfl ?_
        refine g_iinc C [(3, .int (zI (x + 1))), (2, .int (zI ((s + t k).val : Int))), (0, .ref h), (1, .int (zI (n : Int)))] dX5_sumBelow_31 1 rfl (by decide) rfl ?_
        refine g_goto C 4 dX5_sumBelow_34 (by decide) ?_
        exact ih_o (x + 1) (k + 1) (s + t k) (by omega) (by omega) (by rw [hs]; rfl) (by omega)
  exact lp_o (n + 1) 0 0 0 rfl (by omega) rfl (by omega)
theorem in_X5_reaches_X5 : ∀ w ∈ u_ws RX5 TX5 2, w ∈ wsX5_reaches := by decide +kernel
theorem lk_X5_reaches_reached : Cond.fieldLink yX5_reaches.cls 15 (TX5 1).1 (TX5 1).2.1 (TX5 1).2.2.1 ∈ wsX5_reaches := by decide +kernel
theorem lk_X5_reaches_terms : Cond.fieldLink yX5_reaches.cls 9 (TX5 0).1 (TX5 0).2.1 (TX5 0).2.2.1 ∈ wsX5_reaches := by decide +kernel
set_option maxHeartbeats 4000000 in
set_option maxRecDepth 100000 in
theorem c_X5_reaches (E : ev) (l : Launch) (h tq hA qA hB qB : Nat) (r : Nat) (t A B : Po) (n : Int) (hn1 : -1 ≤ n) (hn : n ≤ 60) (hSA : Sm A) (hSB : Sm B) (h0 : PrOk A B r t) : Mi E l yX5_reaches wsX5_reaches { frames := 2, cells := 0, slots := 0, locals := 60 } [.ref h, .int (zI n), .ref hA, .ref hB] [(h, .inr (5, [.ref tq, .int (zI (r : Int))])), (tq, .inl (E.2.2.1, 61, .inl (pv t))), cP hA qA (hi A), aP E qA A, cP hB qB (hi B), aP E qB B] (fun v w => ∃ (r2 : Nat) (t2 : Po), PrOk A B r2 t2 ∧ ((v = zI 1 ∧ n ≤ (r2 : Int)) ∨ (v = zI 0 ∧ ∃ j : Nat, (j : Int) < n ∧ val B (cF (j : Int)) = 0)) ∧ w = [(h, .inr (5, [.ref tq, .int (zI (r2 : Int))])), (tq, .inl (E.2.2.1, 61, .inl (pv t2))), cP hA qA (hi A), aP E qA A, cP hB qB (hi B), aP E qB B]) 0 0 := by
  refine enter_z (cc := cX5_reaches) (nL := 7) (by decide) rfl (Nat.le_of_ble_eq_true rfl) (fun G C hret => ?_)
  show G 0 0 [(h, .inr (5, [.ref tq, .int (zI (r : Int))])), (tq, .inl (E.2.2.1, 61, .inl (pv t))), cP hA qA (hi A), aP E qA A, cP hB qB (hi B), aP E qB B] [(0, .ref h), (1, .int (zI n)), (2, .ref hA), (3, .ref hB)] 0 []
  have hr60 := h0.1
  refine g_aload_n C dX5_reaches_0 0 rfl ?_
  refine g_get C 0 rfl rfl 1 (by decide) in_X5_reaches_X5 lk_X5_reaches_reached rfl dX5_reaches_1 ?_
  refine g_istore C [(4, .int (zI (r : Int))), (0, .ref h), (1, .int (zI n)), (2, .ref hA), (3, .ref hB)] dX5_reaches_4 (by decide) rfl ?_
  have lp_o : ∀ (n_o : Nat) (x : Int) (k : Nat) (t2 : Po), (x = (k : Int)) → (PrOk A B k t2) → 61 - k < n_o → G 0 0 [(h, .inr (5, [.ref tq, .int (zI x)])), (tq, .inl (E.2.2.1, 61, .inl (pv t2))), cP hA qA (hi A), aP E qA A, cP hB qB (hi B), aP E qB B] [(4, .int (zI x)), (0, .ref h), (1, .int (zI n)), (2, .ref hA), (3, .ref hB)] 6 [] := by
    intro n_o
    induction n_o with
    | zero =>
      intro x k t2 hx hok hm_o
      exact absurd hm_o (by omega)
    | succ n_o ih_o =>
      intro x k t2 hx hok hm_o
      have hk60 := hok.1
      refine g_iload C dX5_reaches_6 0 rfl ?_
      refine g_iload_n C dX5_reaches_8 2 rfl ?_
      refine g_icmp_ge C 94 dX5_reaches_9 (by decide) (by omega) (by omega) (by omega) (by omega) (fun c_9 => ?_) (fun c_9 => ?_)
      · refine g_iload_n C dX5_reaches_94 2 rfl ?_
        refine g_aload_n C dX5_reaches_95 1 rfl ?_
        refine g_get C 0 rfl rfl 1 (by decide) in_X5_reaches_X5 lk_X5_reaches_reached rfl dX5_reaches_96 ?_
        refine g_icmp_gt C 106 dX5_reaches_99 (by decide) (by omega) (by omega) (by omega) (by omega) (fun c_99 => ?_) (fun c_99 => ?_)
        · refine g_iconst C dX5_reaches_106 ?_
          exact hret _ _ _ _ _ _ dX5_reaches_107 (by decide) (by decide) rfl ⟨k, t2, hok, by first | exact Or.inl ⟨rfl, by omega⟩ | (exfalso; omega), by rw [hx]⟩
        · refine g_iconst C dX5_reaches_102 ?_
          refine g_goto C 107 dX5_reaches_103 (by decide) ?_
          exact hret _ _ _ _ _ _ dX5_reaches_107 (by decide) (by decide) rfl ⟨k, t2, hok, by first | exact Or.inl ⟨rfl, by omega⟩ | (exfalso; omega), by rw [hx]⟩
      · refine g_iload C dX5_reaches_12 0 rfl ?_
        refine g_iconst C dX5_reaches_14 ?_
        refine g_iadd C dX5_reaches_15 ?_
        refine g_aload_n C dX5_reaches_16 1 rfl ?_
        refine g_get C 0 rfl rfl 0 (by decide) in_X5_reaches_X5 lk_X5_reaches_terms rfl dX5_reaches_17 ?_
        refine g_alen C 1 rfl dX5_reaches_20 ?_
        refine g_icmp_ge C 94 dX5_reaches_21 (by decide) (by omega) (by omega) (by omega) (by omega) (fun c_21 => ?_) (fun c_21 => ?_)
        · refine g_iload_n C dX5_reaches_94 2 rfl ?_
          refine g_aload_n C dX5_reaches_95 1 rfl ?_
          refine g_get C 0 rfl rfl 1 (by decide) in_X5_reaches_X5 lk_X5_reaches_reached rfl dX5_reaches_96 ?_
          refine g_icmp_gt C 106 dX5_reaches_99 (by decide) (by omega) (by omega) (by omega) (by omega) (fun c_99 => ?_) (fun c_99 => ?_)
          · refine g_iconst C dX5_reaches_106 ?_
            exact hret _ _ _ _ _ _ dX5_reaches_107 (by decide) (by decide) rfl ⟨k, t2, hok, by first | exact Or.inl ⟨rfl, by omega⟩ | (exfalso; omega), by rw [hx]⟩
          · refine g_iconst C dX5_reaches_102 ?_
            refine g_goto C 107 dX5_reaches_103 (by decide) ?_
            exact hret _ _ _ _ _ _ dX5_reaches_107 (by decide) (by decide) rfl ⟨k, t2, hok, by first | exact Or.inl ⟨rfl, by omega⟩ | (exfalso; omega), by rw [hx]⟩
        · refine g_aload_n C dX5_reaches_24 4 rfl ?_
          refine g_iload C dX5_reaches_25 0 rfl ?_
          refine g_top (zI ((cF (k : Int)).val : Int)) (congrArg zI (by rw [cF_val, hx]; omega)) ?_
          refine g_callVi (n := 1) (wr := [(h, .inr (5, [.ref tq, .int (zI x)])), (tq, .inl (E.2.2.1, 61, .inl (pv t2))), cP hA qA (hi A), aP E qA A]) C (c_X4_valueAt E l hB qB B (cF (k : Int)) hSB) gX5_reaches_X4_valueAt rfl (by decide +kernel) rfl (by decide) dX5_reaches_27 rfl (Nat.le_of_ble_eq_true rfl) rfl rfl [4, 5] [0, 1, 2, 3] rfl rfl (by decide) (fun r_27 w_27 h_27 => ?_)
          obtain ⟨rfl, rfl⟩ := h_27
          refine g_eq (ws' := [(h, .inr (5, [.ref tq, .int (zI x)])), (tq, .inl (E.2.2.1, 61, .inl (pv t2))), cP hA qA (hi A), aP E qA A, cP hB qB (hi B), aP E qB B]) rfl rfl rfl ?_
          refine g_istore C [(5, .int (zI ((val B (cF (k : Int))).val : Int))), (4, .int (zI x)), (0, .ref h), (1, .int (zI n)), (2, .ref hA), (3, .ref hB)] dX5_reaches_30 (by decide) rfl ?_
          refine g_iload C dX5_reaches_32 0 rfl ?_
          refine g_if_ne C 39 dX5_reaches_34 (by decide) (by omega) (by omega) (fun c_34 => ?_) (fun c_34 => ?_)
          · refine g_aload_n C dX5_reaches_39 4 rfl ?_
            refine g_iload C dX5_reaches_40 1 rfl ?_
            refine g_top (zI ((cF (k : Int)).val : Int)) (congrArg zI (by rw [cF_val, hx]; omega)) ?_
            refine g_callVi (n := 1) (wr := [(h, .inr (5, [.ref tq, .int (zI x)])), (tq, .inl (E.2.2.1, 61, .inl (pv t2))), cP hB qB (hi B), aP E qB B]) C (c_X4_valueAt E l hA qA A (cF (k : Int)) hSA) gX5_reaches_X4_valueAt rfl (by decide +kernel) rfl (by decide) dX5_reaches_42 rfl (Nat.le_of_ble_eq_true rfl) rfl rfl [2, 3] [0, 1, 4, 5] rfl rfl (by decide) (fun r_42 w_42 h_42 => ?_)
            obtain ⟨rfl, rfl⟩ := h_42
            refine g_eq (ws' := [(h, .inr (5, [.ref tq, .int (zI x)])), (tq, .inl (E.2.2.1, 61, .inl (pv t2))), cP hB qB (hi B), aP E qB B, cP hA qA (hi A), aP E qA A]) rfl rfl rfl ?_
            refine g_iload C dX5_reaches_45 0 rfl ?_
            refine g_callSNi (n := 1) C (c_X7_inverse E l (val B (cF (k : Int)))) (by decide +kernel) gX5_reaches_X7_inverse_n25 (by decide +kernel) rfl (by decide +kernel) rfl (by decide) dX5_reaches_47 rfl (Nat.le_of_ble_eq_true rfl) (fun r_47 h_47 => ?_)
            obtain ⟨_, rfl, -⟩ := h_47
            refine g_imul C dX5_reaches_50 ?_
            refine g_sipush C dX5_reaches_51 rfl ?_
            refine g_mod C dX5_reaches_54 (by have := fq_mulb (val A (cF (k : Int))) (ivq (val B (cF (k : Int)))); omega) (by have := fq_mulb (val A (cF (k : Int))) (ivq (val B (cF (k : Int)))); omega) ?_
            refine g_top (zI ((val A (cF (k : Int)) * ivq (val B (cF (k : Int)))).val : Int)) (congrArg (fun u : Fq => zI (u.val : Int)) (by simp only [cF_mul, cF_of])) ?_
            refine g_istore C [(6, .int (zI ((val A (cF (k : Int)) * ivq (val B (cF (k : Int)))).val : Int))), (5, .int (zI ((val B (cF (k : Int))).val : Int))), (4, .int (zI x)), (0, .ref h), (1, .int (zI n)), (2, .ref hA), (3, .ref hB)] dX5_reaches_55 (by decide) rfl ?_
            refine g_aload_n C dX5_reaches_57 3 rfl ?_
            refine g_get C 0 rfl rfl 0 (by decide) in_X5_reaches_X5 lk_X5_reaches_terms rfl dX5_reaches_58 ?_
            refine g_iload C dX5_reaches_61 2 rfl ?_
            refine g_iconst C dX5_reaches_63 ?_
            refine g_iadd C dX5_reaches_64 ?_
            refine g_aload_n C dX5_reaches_65 3 rfl ?_
            refine g_get C 0 rfl rfl 0 (by decide) in_X5_reaches_X5 lk_X5_reaches_terms rfl dX5_reaches_66 ?_
            refine g_iload C dX5_reaches_69 2 rfl ?_
            refine g_iald C 1 k rfl (by omega) (by omega) (by decide) dX5_reaches_71 ?_
            refine g_iload C dX5_reaches_72 0 rfl ?_
            refine g_imul C dX5_reaches_74 ?_
            refine g_sipush C dX5_reaches_75 rfl ?_
            refine g_mod C dX5_reaches_78 (by have := fq_mulb (t2 k) (val A (cF (k : Int)) * ivq (val B (cF (k : Int)))); omega) (by have := fq_mulb (t2 k) (val A (cF (k : Int)) * ivq (val B (cF (k : Int)))); omega) ?_
            refine g_top (zI ((t2 k * (val A (cF (k : Int)) * ivq (val B (cF (k : Int))))).val : Int)) (congrArg (fun u : Fq => zI (u.val : Int)) (by simp only [cF_mul, cF_of])) ?_
            refine g_iast C [(h, .inr (5, [.ref tq, .int (zI x)])), (tq, .inl (E.2.2.1, 61, .inl (pv (cset t2 (k + 1) (t2 k * (val A (cF (k : Int)) * ivq (val B (cF (k : Int))))))))), cP hB qB (hi B), aP E qB B, cP hA qA (hi A), aP E qA A] 1 (k + 1) (t2 k * (val A (cF (k : Int)) * ivq (val B (cF (k : Int))))) rfl (by omega) (by omega) (by decide) (rfl) dX5_reaches_79 rfl ?_
            refine g_aload_n C dX5_reaches_80 3 rfl ?_
            refine g_iload C dX5_reaches_81 2 rfl ?_
            refine g_iconst C dX5_reaches_83 ?_
            refine g_iadd C dX5_reaches_84 ?_
            refine g_put C [(h, .inr (5, [.ref tq, .int (zI (x + 1))])), (tq, .inl (E.2.2.1, 61, .inl (pv (cset t2 (k + 1) (t2 k * (val A (cF (k : Int)) * ivq (val B (cF (k : Int))))))))), cP hB qB (hi B), aP E qB B, cP hA qA (hi A), aP E qA A] tyX5 tyX5_ok nmX5 0 rfl rfl 1 (by decide) in_X5_reaches_X5 lk_X5_reaches_reached rfl rfl rfl (Nat.le_of_ble_eq_true rfl) dX5_reaches_85 rfl ?_
            refine g_iinc C [(4, .int (zI (x + 1))), (6, .int (zI ((val A (cF (k : Int)) * ivq (val B (cF (k : Int)))).val : Int))), (5, .int (zI ((val B (cF (k : Int))).val : Int))), (0, .ref h), (1, .int (zI n)), (2, .ref hA), (3, .ref hB)] dX5_reaches_88 2 rfl (by decide) rfl ?_
            refine g_goto C 6 dX5_reaches_91 (by decide) ?_
            refine g_lsub C [0, 3, 4, 5, 6] rfl ?_
            refine g_wsub (ws' := [(h, .inr (5, [.ref tq, .int (zI (x + 1))])), (tq, .inl (E.2.2.1, 61, .inl (pv (cset t2 (k + 1) (t2 k * (val A (cF (k : Int)) * ivq (val B (cF (k : Int))))))))), cP hA qA (hi A), aP E qA A, cP hB qB (hi B), aP E qB B]) C [0, 1, 4, 5, 2, 3] (by decide) rfl rfl ?_
            exact ih_o (x + 1) (k + 1) (cset t2 (k + 1) (t2 k * (val A (cF (k : Int)) * ivq (val B (cF (k : Int)))))) (by omega) ⟨by omega, fun j hj => by unfold cset; split; (rename_i e; rw [e, hok.2.1 k (Nat.le_refl k)]; rfl); exact hok.2.1 j (by omega), fun j hj => by rcases Classical.em (j = k) with e | e; (rw [e]; exact fqn c_34); exact hok.2.2 j (by omega)⟩ (by have := hok.1; omega)
          · refine g_iconst C dX5_reaches_37 ?_
            exact hret _ _ _ _ _ _ dX5_reaches_38 (by decide) (by decide) rfl ⟨k, t2, hok, Or.inr ⟨rfl, k, by omega, fq0 c_34⟩, by rw [hx]⟩
  exact lp_o 62 (r : Int) r t rfl h0 (by omega)
end
section
theorem dX3_init_0 : decode cX3_init 0 = .ok (.aload_n 0, 1) := by decide +kernel
theorem dX3_init_1 : decode cX3_init 1 = .ok (.invokespecial 1, 3) := by decide +kernel
theorem dX3_init_4 : decode cX3_init 4 = .ok (.aload_n 0, 1) := by decide +kernel
theorem dX3_init_5 : decode cX3_init 5 = .ok (.new 7, 3) := by decide +kernel
theorem dX3_init_8 : decode cX3_init 8 = .ok (.dup, 1) := by decide +kernel
theorem dX3_init_9 : decode cX3_init 9 = .ok (.invokespecial 9, 3) := by decide +kernel
theorem dX3_init_12 : decode cX3_init 12 = .ok (.putfield 10, 3) := by decide +kernel
theorem dX3_init_15 : decode cX3_init 15 = .ok (.aload_n 0, 1) := by decide +kernel
theorem dX3_init_16 : decode cX3_init 16 = .ok (.new 7, 3) := by decide +kernel
theorem dX3_init_19 : decode cX3_init 19 = .ok (.dup, 1) := by decide +kernel
theorem dX3_init_20 : decode cX3_init 20 = .ok (.invokespecial 9, 3) := by decide +kernel
theorem dX3_init_23 : decode cX3_init 23 = .ok (.putfield 16, 3) := by decide +kernel
theorem dX3_init_26 : decode cX3_init 26 = .ok (.return_, 1) := by decide +kernel
set_option maxRecDepth 20000 in
theorem ggX3_init_X4_init : GoodIn wsX3_init wsX4_init := goodIn_r _ [10, 11, 2, 3, 12, 13, 14, 15, 16] (by decide +kernel) (by decide +kernel)
set_option maxRecDepth 20000 in
theorem gX3_init_X4_init_n9 : GoodIn wsX3_init (wsX4_init) := ggX3_init_X4_init
theorem dX1_init_0 : decode cX1_init 0 = .ok (.aload_n 0, 1) := by decide +kernel
theorem dX1_init_1 : decode cX1_init 1 = .ok (.invokespecial 3, 3) := by decide +kernel
theorem dX1_init_4 : decode cX1_init 4 = .ok (.aload_n 0, 1) := by decide +kernel
theorem dX1_init_5 : decode cX1_init 5 = .ok (.bipush 21, 2) := by decide +kernel
theorem dX1_init_7 : decode cX1_init 7 = .ok (.anewarray 9, 3) := by decide +kernel
theorem dX1_init_10 : decode cX1_init 10 = .ok (.putfield 11, 3) := by decide +kernel
theorem dX1_init_13 : decode cX1_init 13 = .ok (.aload_n 0, 1) := by decide +kernel
theorem dX1_init_14 : decode cX1_init 14 = .ok (.bipush 33, 2) := by decide +kernel
theorem dX1_init_16 : decode cX1_init 16 = .ok (.anewarray 9, 3) := by decide +kernel
theorem dX1_init_19 : decode cX1_init 19 = .ok (.putfield 19, 3) := by decide +kernel
theorem dX1_init_22 : decode cX1_init 22 = .ok (.aload_n 0, 1) := by decide +kernel
theorem dX1_init_23 : decode cX1_init 23 = .ok (.new 9, 3) := by decide +kernel
theorem dX1_init_26 : decode cX1_init 26 = .ok (.dup, 1) := by decide +kernel
theorem dX1_init_27 : decode cX1_init 27 = .ok (.invokespecial 22, 3) := by decide +kernel
theorem dX1_init_30 : decode cX1_init 30 = .ok (.putfield 23, 3) := by decide +kernel
theorem dX1_init_33 : decode cX1_init 33 = .ok (.aload_n 0, 1) := by decide +kernel
theorem dX1_init_34 : decode cX1_init 34 = .ok (.new 17, 3) := by decide +kernel
theorem dX1_init_37 : decode cX1_init 37 = .ok (.dup, 1) := by decide +kernel
theorem dX1_init_38 : decode cX1_init 38 = .ok (.invokespecial 27, 3) := by decide +kernel
theorem dX1_init_41 : decode cX1_init 41 = .ok (.putfield 28, 3) := by decide +kernel
theorem dX1_init_44 : decode cX1_init 44 = .ok (.aload_n 0, 1) := by decide +kernel
theorem dX1_init_45 : decode cX1_init 45 = .ok (.new 17, 3) := by decide +kernel
theorem dX1_init_48 : decode cX1_init 48 = .ok (.dup, 1) := by decide +kernel
theorem dX1_init_49 : decode cX1_init 49 = .ok (.invokespecial 27, 3) := by decide +kernel
theorem dX1_init_52 : decode cX1_init 52 = .ok (.putfield 32, 3) := by decide +kernel
theorem dX1_init_55 : decode cX1_init 55 = .ok (.aload_n 0, 1) := by decide +kernel
theorem dX1_init_56 : decode cX1_init 56 = .ok (.new 17, 3) := by decide +kernel
theorem dX1_init_59 : decode cX1_init 59 = .ok (.dup, 1) := by decide +kernel
theorem dX1_init_60 : decode cX1_init 60 = .ok (.invokespecial 27, 3) := by decide +kernel
theorem dX1_init_63 : decode cX1_init 63 = .ok (.putfield 35, 3) := by decide +kernel
theorem dX1_init_66 : decode cX1_init 66 = .ok (.aload_n 0, 1) := by decide +kernel
theorem dX1_init_67 : decode cX1_init 67 = .ok (.iconst (-1), 1) := by decide +kernel
theorem dX1_init_68 : decode cX1_init 68 = .ok (.putfield 38, 3) := by decide +kernel
theorem dX1_init_71 : decode cX1_init 71 = .ok (.aload_n 0, 1) := by decide +kernel
theorem dX1_init_72 : decode cX1_init 72 = .ok (.iconst 0, 1) := by decide +kernel
theorem dX1_init_73 : decode cX1_init 73 = .ok (.putfield 42, 3) := by decide +kernel
theorem dX1_init_76 : decode cX1_init 76 = .ok (.iconst 0, 1) := by decide +kernel
theorem dX1_init_77 : decode cX1_init 77 = .ok (.istore_n 1, 1) := by decide +kernel
theorem dX1_init_78 : decode cX1_init 78 = .ok (.iload_n 1, 1) := by decide +kernel
theorem dX1_init_79 : decode cX1_init 79 = .ok (.aload_n 0, 1) := by decide +kernel
theorem dX1_init_80 : decode cX1_init 80 = .ok (.getfield 11, 3) := by decide +kernel
theorem dX1_init_83 : decode cX1_init 83 = .ok (.arraylength, 1) := by decide +kernel
theorem dX1_init_84 : decode cX1_init 84 = .ok (.if_icmp .ge 22, 3) := by decide +kernel
theorem dX1_init_87 : decode cX1_init 87 = .ok (.aload_n 0, 1) := by decide +kernel
theorem dX1_init_88 : decode cX1_init 88 = .ok (.getfield 11, 3) := by decide +kernel
theorem dX1_init_91 : decode cX1_init 91 = .ok (.iload_n 1, 1) := by decide +kernel
theorem dX1_init_92 : decode cX1_init 92 = .ok (.new 9, 3) := by decide +kernel
theorem dX1_init_95 : decode cX1_init 95 = .ok (.dup, 1) := by decide +kernel
theorem dX1_init_96 : decode cX1_init 96 = .ok (.invokespecial 22, 3) := by decide +kernel
theorem dX1_init_99 : decode cX1_init 99 = .ok (.aastore, 1) := by decide +kernel
theorem dX1_init_100 : decode cX1_init 100 = .ok (.iinc 1 1, 3) := by decide +kernel
theorem dX1_init_103 : decode cX1_init 103 = .ok (.goto (-25), 3) := by decide +kernel
theorem dX1_init_106 : decode cX1_init 106 = .ok (.aload_n 0, 1) := by decide +kernel
theorem dX1_init_107 : decode cX1_init 107 = .ok (.getfield 35, 3) := by decide +kernel
theorem dX1_init_110 : decode cX1_init 110 = .ok (.iconst 0, 1) := by decide +kernel
theorem dX1_init_111 : decode cX1_init 111 = .ok (.iconst 1, 1) := by decide +kernel
theorem dX1_init_112 : decode cX1_init 112 = .ok (.invokevirtual 46, 3) := by decide +kernel
theorem dX1_init_115 : decode cX1_init 115 = .ok (.aload_n 0, 1) := by decide +kernel
theorem dX1_init_116 : decode cX1_init 116 = .ok (.getfield 35, 3) := by decide +kernel
theorem dX1_init_119 : decode cX1_init 119 = .ok (.iconst 1, 1) := by decide +kernel
theorem dX1_init_120 : decode cX1_init 120 = .ok (.iconst 1, 1) := by decide +kernel
theorem dX1_init_121 : decode cX1_init 121 = .ok (.invokevirtual 46, 3) := by decide +kernel
theorem dX1_init_124 : decode cX1_init 124 = .ok (.return_, 1) := by decide +kernel
theorem dX1_forget_0 : decode cX1_forget 0 = .ok (.aload_n 0, 1) := by decide +kernel
theorem dX1_forget_1 : decode cX1_forget 1 = .ok (.iconst 0, 1) := by decide +kernel
theorem dX1_forget_2 : decode cX1_forget 2 = .ok (.putfield 42, 3) := by decide +kernel
theorem dX1_forget_5 : decode cX1_forget 5 = .ok (.return_, 1) := by decide +kernel
theorem dX1_leastDegree_0 : decode cX1_leastDegree 0 = .ok (.aload_n 0, 1) := by decide +kernel
theorem dX1_leastDegree_1 : decode cX1_leastDegree 1 = .ok (.getfield 38, 3) := by decide +kernel
theorem dX1_leastDegree_4 : decode cX1_leastDegree 4 = .ok (.ireturn, 1) := by decide +kernel
theorem dX1_solution_0 : decode cX1_solution 0 = .ok (.aload_n 0, 1) := by decide +kernel
theorem dX1_solution_1 : decode cX1_solution 1 = .ok (.getfield 23, 3) := by decide +kernel
theorem dX1_solution_4 : decode cX1_solution 4 = .ok (.getfield 50, 3) := by decide +kernel
theorem dX1_solution_7 : decode cX1_solution 7 = .ok (.areturn, 1) := by decide +kernel
theorem dX1_renew_0 : decode cX1_renew 0 = .ok (.aload_n 0, 1) := by decide +kernel
theorem dX1_renew_1 : decode cX1_renew 1 = .ok (.getfield 42, 3) := by decide +kernel
theorem dX1_renew_4 : decode cX1_renew 4 = .ok (.ifCond .eq 4, 3) := by decide +kernel
theorem dX1_renew_7 : decode cX1_renew 7 = .ok (.return_, 1) := by decide +kernel
theorem dX1_renew_8 : decode cX1_renew 8 = .ok (.aload_n 0, 1) := by decide +kernel
theorem dX1_renew_9 : decode cX1_renew 9 = .ok (.iconst 1, 1) := by decide +kernel
theorem dX1_renew_10 : decode cX1_renew 10 = .ok (.putfield 42, 3) := by decide +kernel
theorem dX1_renew_13 : decode cX1_renew 13 = .ok (.aload_n 0, 1) := by decide +kernel
theorem dX1_renew_14 : decode cX1_renew 14 = .ok (.aload_n 1, 1) := by decide +kernel
theorem dX1_renew_15 : decode cX1_renew 15 = .ok (.invokevirtual 53, 3) := by decide +kernel
theorem dX1_renew_18 : decode cX1_renew 18 = .ok (.aload_n 0, 1) := by decide +kernel
theorem dX1_renew_19 : decode cX1_renew 19 = .ok (.aload_n 0, 1) := by decide +kernel
theorem dX1_renew_20 : decode cX1_renew 20 = .ok (.invokevirtual 57, 3) := by decide +kernel
theorem dX1_renew_23 : decode cX1_renew 23 = .ok (.putfield 38, 3) := by decide +kernel
theorem dX1_renew_26 : decode cX1_renew 26 = .ok (.aload_n 0, 1) := by decide +kernel
theorem dX1_renew_27 : decode cX1_renew 27 = .ok (.getfield 23, 3) := by decide +kernel
theorem dX1_renew_30 : decode cX1_renew 30 = .ok (.getfield 50, 3) := by decide +kernel
theorem dX1_renew_33 : decode cX1_renew 33 = .ok (.sipush 32002, 3) := by decide +kernel
theorem dX1_renew_36 : decode cX1_renew 36 = .ok (.invokevirtual 61, 3) := by decide +kernel
theorem dX1_renew_39 : decode cX1_renew 39 = .ok (.return_, 1) := by decide +kernel
theorem dX1_start_0 : decode cX1_start 0 = .ok (.iconst 0, 1) := by decide +kernel
theorem dX1_start_1 : decode cX1_start 1 = .ok (.istore_n 2, 1) := by decide +kernel
theorem dX1_start_2 : decode cX1_start 2 = .ok (.iload_n 2, 1) := by decide +kernel
theorem dX1_start_3 : decode cX1_start 3 = .ok (.aload_n 0, 1) := by decide +kernel
theorem dX1_start_4 : decode cX1_start 4 = .ok (.getfield 19, 3) := by decide +kernel
theorem dX1_start_7 : decode cX1_start 7 = .ok (.arraylength, 1) := by decide +kernel
theorem dX1_start_8 : decode cX1_start 8 = .ok (.if_icmp .ge 16, 3) := by decide +kernel
theorem dX1_start_11 : decode cX1_start 11 = .ok (.aload_n 0, 1) := by decide +kernel
theorem dX1_start_12 : decode cX1_start 12 = .ok (.getfield 19, 3) := by decide +kernel
theorem dX1_start_15 : decode cX1_start 15 = .ok (.iload_n 2, 1) := by decide +kernel
theorem dX1_start_16 : decode cX1_start 16 = .ok (.aconst_null, 1) := by decide +kernel
theorem dX1_start_17 : decode cX1_start 17 = .ok (.aastore, 1) := by decide +kernel
theorem dX1_start_18 : decode cX1_start 18 = .ok (.iinc 2 1, 3) := by decide +kernel
theorem dX1_start_21 : decode cX1_start 21 = .ok (.goto (-19), 3) := by decide +kernel
theorem dX1_start_24 : decode cX1_start 24 = .ok (.aload_n 0, 1) := by decide +kernel
theorem dX1_start_25 : decode cX1_start 25 = .ok (.getfield 23, 3) := by decide +kernel
theorem dX1_start_28 : decode cX1_start 28 = .ok (.getfield 65, 3) := by decide +kernel
theorem dX1_start_31 : decode cX1_start 31 = .ok (.aload_n 1, 1) := by decide +kernel
theorem dX1_start_32 : decode cX1_start 32 = .ok (.iconst 2, 1) := by decide +kernel
theorem dX1_start_33 : decode cX1_start 33 = .ok (.invokevirtual 70, 3) := by decide +kernel
theorem dX1_start_36 : decode cX1_start 36 = .ok (.invokevirtual 74, 3) := by decide +kernel
theorem dX1_start_39 : decode cX1_start 39 = .ok (.aload_n 0, 1) := by decide +kernel
theorem dX1_start_40 : decode cX1_start 40 = .ok (.getfield 23, 3) := by decide +kernel
theorem dX1_start_43 : decode cX1_start 43 = .ok (.getfield 50, 3) := by decide +kernel
theorem dX1_start_46 : decode cX1_start 46 = .ok (.iconst 0, 1) := by decide +kernel
theorem dX1_start_47 : decode cX1_start 47 = .ok (.invokevirtual 78, 3) := by decide +kernel
theorem dX1_start_50 : decode cX1_start 50 = .ok (.aload_n 0, 1) := by decide +kernel
theorem dX1_start_51 : decode cX1_start 51 = .ok (.getfield 28, 3) := by decide +kernel
theorem dX1_start_54 : decode cX1_start 54 = .ok (.aload_n 1, 1) := by decide +kernel
theorem dX1_start_55 : decode cX1_start 55 = .ok (.iconst 1, 1) := by decide +kernel
theorem dX1_start_56 : decode cX1_start 56 = .ok (.invokevirtual 70, 3) := by decide +kernel
theorem dX1_start_59 : decode cX1_start 59 = .ok (.invokevirtual 74, 3) := by decide +kernel
theorem dX1_start_62 : decode cX1_start 62 = .ok (.aload_n 0, 1) := by decide +kernel
theorem dX1_start_63 : decode cX1_start 63 = .ok (.getfield 28, 3) := by decide +kernel
theorem dX1_start_66 : decode cX1_start 66 = .ok (.sipush 32002, 3) := by decide +kernel
theorem dX1_start_69 : decode cX1_start 69 = .ok (.invokevirtual 81, 3) := by decide +kernel
theorem dX1_start_72 : decode cX1_start 72 = .ok (.aload_n 0, 1) := by decide +kernel
theorem dX1_start_73 : decode cX1_start 73 = .ok (.getfield 32, 3) := by decide +kernel
theorem dX1_start_76 : decode cX1_start 76 = .ok (.aload_n 1, 1) := by decide +kernel
theorem dX1_start_77 : decode cX1_start 77 = .ok (.iconst 0, 1) := by decide +kernel
theorem dX1_start_78 : decode cX1_start 78 = .ok (.invokevirtual 70, 3) := by decide +kernel
theorem dX1_start_81 : decode cX1_start 81 = .ok (.invokevirtual 74, 3) := by decide +kernel
theorem dX1_start_84 : decode cX1_start 84 = .ok (.return_, 1) := by decide +kernel
theorem dX1_solve_0 : decode cX1_solve 0 = .ok (.iconst 0, 1) := by decide +kernel
theorem dX1_solve_1 : decode cX1_solve 1 = .ok (.istore_n 1, 1) := by decide +kernel
theorem dX1_solve_2 : decode cX1_solve 2 = .ok (.iload_n 1, 1) := by decide +kernel
theorem dX1_solve_3 : decode cX1_solve 3 = .ok (.aload_n 0, 1) := by decide +kernel
theorem dX1_solve_4 : decode cX1_solve 4 = .ok (.getfield 11, 3) := by decide +kernel
theorem dX1_solve_7 : decode cX1_solve 7 = .ok (.arraylength, 1) := by decide +kernel
theorem dX1_solve_8 : decode cX1_solve 8 = .ok (.if_icmp .ge 55, 3) := by decide +kernel
theorem dX1_solve_11 : decode cX1_solve 11 = .ok (.aload_n 0, 1) := by decide +kernel
theorem dX1_solve_12 : decode cX1_solve 12 = .ok (.getfield 11, 3) := by decide +kernel
theorem dX1_solve_15 : decode cX1_solve 15 = .ok (.iload_n 1, 1) := by decide +kernel
theorem dX1_solve_16 : decode cX1_solve 16 = .ok (.aaload, 1) := by decide +kernel
theorem dX1_solve_17 : decode cX1_solve 17 = .ok (.astore_n 2, 1) := by decide +kernel
theorem dX1_solve_18 : decode cX1_solve 18 = .ok (.aload_n 0, 1) := by decide +kernel
theorem dX1_solve_19 : decode cX1_solve 19 = .ok (.aload_n 2, 1) := by decide +kernel
theorem dX1_solve_20 : decode cX1_solve 20 = .ok (.iload_n 1, 1) := by decide +kernel
theorem dX1_solve_21 : decode cX1_solve 21 = .ok (.invokevirtual 84, 3) := by decide +kernel
theorem dX1_solve_24 : decode cX1_solve 24 = .ok (.aload_n 0, 1) := by decide +kernel
theorem dX1_solve_25 : decode cX1_solve 25 = .ok (.aload_n 2, 1) := by decide +kernel
theorem dX1_solve_26 : decode cX1_solve 26 = .ok (.invokevirtual 88, 3) := by decide +kernel
theorem dX1_solve_29 : decode cX1_solve 29 = .ok (.aload_n 0, 1) := by decide +kernel
theorem dX1_solve_30 : decode cX1_solve 30 = .ok (.aload_n 2, 1) := by decide +kernel
theorem dX1_solve_31 : decode cX1_solve 31 = .ok (.invokevirtual 92, 3) := by decide +kernel
theorem dX1_solve_34 : decode cX1_solve 34 = .ok (.aload_n 0, 1) := by decide +kernel
theorem dX1_solve_35 : decode cX1_solve 35 = .ok (.aload_n 0, 1) := by decide +kernel
theorem dX1_solve_36 : decode cX1_solve 36 = .ok (.getfield 23, 3) := by decide +kernel
theorem dX1_solve_39 : decode cX1_solve 39 = .ok (.invokevirtual 88, 3) := by decide +kernel
theorem dX1_solve_42 : decode cX1_solve 42 = .ok (.aload_n 0, 1) := by decide +kernel
theorem dX1_solve_43 : decode cX1_solve 43 = .ok (.getfield 23, 3) := by decide +kernel
theorem dX1_solve_46 : decode cX1_solve 46 = .ok (.getfield 65, 3) := by decide +kernel
theorem dX1_solve_49 : decode cX1_solve 49 = .ok (.invokevirtual 95, 3) := by decide +kernel
theorem dX1_solve_52 : decode cX1_solve 52 = .ok (.ifCond .eq 5, 3) := by decide +kernel
theorem dX1_solve_55 : decode cX1_solve 55 = .ok (.iload_n 1, 1) := by decide +kernel
theorem dX1_solve_56 : decode cX1_solve 56 = .ok (.ireturn, 1) := by decide +kernel
theorem dX1_solve_57 : decode cX1_solve 57 = .ok (.iinc 1 1, 3) := by decide +kernel
theorem dX1_solve_60 : decode cX1_solve 60 = .ok (.goto (-58), 3) := by decide +kernel
theorem dX1_solve_63 : decode cX1_solve 63 = .ok (.iconst (-1), 1) := by decide +kernel
theorem dX1_solve_64 : decode cX1_solve 64 = .ok (.ireturn, 1) := by decide +kernel
theorem dX1_fill_0 : decode cX1_fill 0 = .ok (.aload_n 1, 1) := by decide +kernel
theorem dX1_fill_1 : decode cX1_fill 1 = .ok (.getfield 50, 3) := by decide +kernel
theorem dX1_fill_4 : decode cX1_fill 4 = .ok (.iconst 0, 1) := by decide +kernel
theorem dX1_fill_5 : decode cX1_fill 5 = .ok (.invokevirtual 78, 3) := by decide +kernel
theorem dX1_fill_8 : decode cX1_fill 8 = .ok (.aload_n 1, 1) := by decide +kernel
theorem dX1_fill_9 : decode cX1_fill 9 = .ok (.getfield 50, 3) := by decide +kernel
theorem dX1_fill_12 : decode cX1_fill 12 = .ok (.iload_n 2, 1) := by decide +kernel
theorem dX1_fill_13 : decode cX1_fill 13 = .ok (.iconst 1, 1) := by decide +kernel
theorem dX1_fill_14 : decode cX1_fill 14 = .ok (.invokevirtual 46, 3) := by decide +kernel
theorem dX1_fill_17 : decode cX1_fill 17 = .ok (.aload_n 1, 1) := by decide +kernel
theorem dX1_fill_18 : decode cX1_fill 18 = .ok (.getfield 65, 3) := by decide +kernel
theorem dX1_fill_21 : decode cX1_fill 21 = .ok (.aload_n 0, 1) := by decide +kernel
theorem dX1_fill_22 : decode cX1_fill 22 = .ok (.getfield 32, 3) := by decide +kernel
theorem dX1_fill_25 : decode cX1_fill 25 = .ok (.invokevirtual 74, 3) := by decide +kernel
theorem dX1_fill_28 : decode cX1_fill 28 = .ok (.aload_n 1, 1) := by decide +kernel
theorem dX1_fill_29 : decode cX1_fill 29 = .ok (.getfield 65, 3) := by decide +kernel
theorem dX1_fill_32 : decode cX1_fill 32 = .ok (.sipush 32002, 3) := by decide +kernel
theorem dX1_fill_35 : decode cX1_fill 35 = .ok (.aload_n 0, 1) := by decide +kernel
theorem dX1_fill_36 : decode cX1_fill 36 = .ok (.getfield 28, 3) := by decide +kernel
theorem dX1_fill_39 : decode cX1_fill 39 = .ok (.iload_n 2, 1) := by decide +kernel
theorem dX1_fill_40 : decode cX1_fill 40 = .ok (.invokevirtual 99, 3) := by decide +kernel
theorem dX1_fill_43 : decode cX1_fill 43 = .ok (.aload_n 0, 1) := by decide +kernel
theorem dX1_fill_44 : decode cX1_fill 44 = .ok (.getfield 32, 3) := by decide +kernel
theorem dX1_fill_47 : decode cX1_fill 47 = .ok (.aload_n 0, 1) := by decide +kernel
theorem dX1_fill_48 : decode cX1_fill 48 = .ok (.getfield 35, 3) := by decide +kernel
theorem dX1_fill_51 : decode cX1_fill 51 = .ok (.invokevirtual 103, 3) := by decide +kernel
theorem dX1_fill_54 : decode cX1_fill 54 = .ok (.return_, 1) := by decide +kernel
theorem dX1_lower_0 : decode cX1_lower 0 = .ok (.aload_n 1, 1) := by decide +kernel
theorem dX1_lower_1 : decode cX1_lower 1 = .ok (.getfield 65, 3) := by decide +kernel
theorem dX1_lower_4 : decode cX1_lower 4 = .ok (.invokevirtual 106, 3) := by decide +kernel
theorem dX1_lower_7 : decode cX1_lower 7 = .ok (.aload_n 0, 1) := by decide +kernel
theorem dX1_lower_8 : decode cX1_lower 8 = .ok (.getfield 19, 3) := by decide +kernel
theorem dX1_lower_11 : decode cX1_lower 11 = .ok (.arraylength, 1) := by decide +kernel
theorem dX1_lower_12 : decode cX1_lower 12 = .ok (.iconst 1, 1) := by decide +kernel
theorem dX1_lower_13 : decode cX1_lower 13 = .ok (.isub, 1) := by decide +kernel
theorem dX1_lower_14 : decode cX1_lower 14 = .ok (.invokestatic 109, 3) := by decide +kernel
theorem dX1_lower_17 : decode cX1_lower 17 = .ok (.istore_n 2, 1) := by decide +kernel
theorem dX1_lower_18 : decode cX1_lower 18 = .ok (.iload_n 2, 1) := by decide +kernel
theorem dX1_lower_19 : decode cX1_lower 19 = .ok (.istore_n 3, 1) := by decide +kernel
theorem dX1_lower_20 : decode cX1_lower 20 = .ok (.iload_n 3, 1) := by decide +kernel
theorem dX1_lower_21 : decode cX1_lower 21 = .ok (.ifCond .lt 74, 3) := by decide +kernel
theorem dX1_lower_24 : decode cX1_lower 24 = .ok (.aload_n 1, 1) := by decide +kernel
theorem dX1_lower_25 : decode cX1_lower 25 = .ok (.getfield 65, 3) := by decide +kernel
theorem dX1_lower_28 : decode cX1_lower 28 = .ok (.iload_n 3, 1) := by decide +kernel
theorem dX1_lower_29 : decode cX1_lower 29 = .ok (.invokevirtual 115, 3) := by decide +kernel
theorem dX1_lower_32 : decode cX1_lower 32 = .ok (.istore 4, 2) := by decide +kernel
theorem dX1_lower_34 : decode cX1_lower 34 = .ok (.iload 4, 2) := by decide +kernel
theorem dX1_lower_36 : decode cX1_lower 36 = .ok (.ifCond .eq 53, 3) := by decide +kernel
theorem dX1_lower_39 : decode cX1_lower 39 = .ok (.aload_n 0, 1) := by decide +kernel
theorem dX1_lower_40 : decode cX1_lower 40 = .ok (.getfield 19, 3) := by decide +kernel
theorem dX1_lower_43 : decode cX1_lower 43 = .ok (.iload_n 3, 1) := by decide +kernel
theorem dX1_lower_44 : decode cX1_lower 44 = .ok (.aaload, 1) := by decide +kernel
theorem dX1_lower_45 : decode cX1_lower 45 = .ok (.astore 5, 2) := by decide +kernel
theorem dX1_lower_47 : decode cX1_lower 47 = .ok (.aload 5, 2) := by decide +kernel
theorem dX1_lower_49 : decode cX1_lower 49 = .ok (.ifnonnull 4, 3) := by decide +kernel
theorem dX1_lower_52 : decode cX1_lower 52 = .ok (.return_, 1) := by decide +kernel
theorem dX1_lower_53 : decode cX1_lower 53 = .ok (.aload_n 1, 1) := by decide +kernel
theorem dX1_lower_54 : decode cX1_lower 54 = .ok (.getfield 65, 3) := by decide +kernel
theorem dX1_lower_57 : decode cX1_lower 57 = .ok (.iload 4, 2) := by decide +kernel
theorem dX1_lower_59 : decode cX1_lower 59 = .ok (.invokestatic 119, 3) := by decide +kernel
theorem dX1_lower_62 : decode cX1_lower 62 = .ok (.aload 5, 2) := by decide +kernel
theorem dX1_lower_64 : decode cX1_lower 64 = .ok (.getfield 65, 3) := by decide +kernel
theorem dX1_lower_67 : decode cX1_lower 67 = .ok (.iconst 0, 1) := by decide +kernel
theorem dX1_lower_68 : decode cX1_lower 68 = .ok (.invokevirtual 99, 3) := by decide +kernel
theorem dX1_lower_71 : decode cX1_lower 71 = .ok (.aload_n 1, 1) := by decide +kernel
theorem dX1_lower_72 : decode cX1_lower 72 = .ok (.getfield 50, 3) := by decide +kernel
theorem dX1_lower_75 : decode cX1_lower 75 = .ok (.iload 4, 2) := by decide +kernel
theorem dX1_lower_77 : decode cX1_lower 77 = .ok (.invokestatic 119, 3) := by decide +kernel
theorem dX1_lower_80 : decode cX1_lower 80 = .ok (.aload 5, 2) := by decide +kernel
theorem dX1_lower_82 : decode cX1_lower 82 = .ok (.getfield 50, 3) := by decide +kernel
theorem dX1_lower_85 : decode cX1_lower 85 = .ok (.iconst 0, 1) := by decide +kernel
theorem dX1_lower_86 : decode cX1_lower 86 = .ok (.invokevirtual 99, 3) := by decide +kernel
theorem dX1_lower_89 : decode cX1_lower 89 = .ok (.iinc 3 (-1), 3) := by decide +kernel
theorem dX1_lower_92 : decode cX1_lower 92 = .ok (.goto (-72), 3) := by decide +kernel
theorem dX1_lower_95 : decode cX1_lower 95 = .ok (.return_, 1) := by decide +kernel
theorem dX1_keep_0 : decode cX1_keep 0 = .ok (.aload_n 1, 1) := by decide +kernel
theorem dX1_keep_1 : decode cX1_keep 1 = .ok (.getfield 65, 3) := by decide +kernel
theorem dX1_keep_4 : decode cX1_keep 4 = .ok (.invokevirtual 106, 3) := by decide +kernel
theorem dX1_keep_7 : decode cX1_keep 7 = .ok (.istore_n 2, 1) := by decide +kernel
theorem dX1_keep_8 : decode cX1_keep 8 = .ok (.iload_n 2, 1) := by decide +kernel
theorem dX1_keep_9 : decode cX1_keep 9 = .ok (.ifCond .lt 12, 3) := by decide +kernel
theorem dX1_keep_12 : decode cX1_keep 12 = .ok (.iload_n 2, 1) := by decide +kernel
theorem dX1_keep_13 : decode cX1_keep 13 = .ok (.aload_n 0, 1) := by decide +kernel
theorem dX1_keep_14 : decode cX1_keep 14 = .ok (.getfield 19, 3) := by decide +kernel
theorem dX1_keep_17 : decode cX1_keep 17 = .ok (.arraylength, 1) := by decide +kernel
theorem dX1_keep_18 : decode cX1_keep 18 = .ok (.if_icmp .lt 4, 3) := by decide +kernel
theorem dX1_keep_21 : decode cX1_keep 21 = .ok (.return_, 1) := by decide +kernel
theorem dX1_keep_22 : decode cX1_keep 22 = .ok (.aload_n 1, 1) := by decide +kernel
theorem dX1_keep_23 : decode cX1_keep 23 = .ok (.getfield 65, 3) := by decide +kernel
theorem dX1_keep_26 : decode cX1_keep 26 = .ok (.invokevirtual 122, 3) := by decide +kernel
theorem dX1_keep_29 : decode cX1_keep 29 = .ok (.invokestatic 125, 3) := by decide +kernel
theorem dX1_keep_32 : decode cX1_keep 32 = .ok (.istore_n 3, 1) := by decide +kernel
theorem dX1_keep_33 : decode cX1_keep 33 = .ok (.aload_n 1, 1) := by decide +kernel
theorem dX1_keep_34 : decode cX1_keep 34 = .ok (.getfield 65, 3) := by decide +kernel
theorem dX1_keep_37 : decode cX1_keep 37 = .ok (.iload_n 3, 1) := by decide +kernel
theorem dX1_keep_38 : decode cX1_keep 38 = .ok (.invokevirtual 61, 3) := by decide +kernel
theorem dX1_keep_41 : decode cX1_keep 41 = .ok (.aload_n 1, 1) := by decide +kernel
theorem dX1_keep_42 : decode cX1_keep 42 = .ok (.getfield 50, 3) := by decide +kernel
theorem dX1_keep_45 : decode cX1_keep 45 = .ok (.iload_n 3, 1) := by decide +kernel
theorem dX1_keep_46 : decode cX1_keep 46 = .ok (.invokevirtual 61, 3) := by decide +kernel
theorem dX1_keep_49 : decode cX1_keep 49 = .ok (.aload_n 0, 1) := by decide +kernel
theorem dX1_keep_50 : decode cX1_keep 50 = .ok (.getfield 19, 3) := by decide +kernel
theorem dX1_keep_53 : decode cX1_keep 53 = .ok (.iload_n 2, 1) := by decide +kernel
theorem dX1_keep_54 : decode cX1_keep 54 = .ok (.aload_n 1, 1) := by decide +kernel
theorem dX1_keep_55 : decode cX1_keep 55 = .ok (.aastore, 1) := by decide +kernel
theorem dX1_keep_56 : decode cX1_keep 56 = .ok (.return_, 1) := by decide +kernel
theorem dX1_bottomBefore_0 : decode cX1_bottomBefore 0 = .ok (.aload_n 0, 1) := by decide +kernel
theorem dX1_bottomBefore_1 : decode cX1_bottomBefore 1 = .ok (.getfield 28, 3) := by decide +kernel
theorem dX1_bottomBefore_4 : decode cX1_bottomBefore 4 = .ok (.areturn, 1) := by decide +kernel
set_option maxRecDepth 20000 in
theorem ggX1_init_X3_init : GoodIn wsX1_init wsX3_init := goodIn_r _ [19, 20, 2, 3, 21, 11, 12, 22, 23, 24, 25, 26, 27, 28, 29, 52, 53, 50, 51] (by decide +kernel) (by decide +kernel)
set_option maxRecDepth 20000 in
theorem gX1_init_X3_init_n22 : GoodIn wsX1_init (wsX3_init) := ggX1_init_X3_init
set_option maxRecDepth 20000 in
theorem ggX1_init_X4_init : GoodIn wsX1_init wsX4_init := goodIn_r _ [25, 26, 2, 3, 27, 28, 29, 52, 53] (by decide +kernel) (by decide +kernel)
set_option maxRecDepth 20000 in
theorem gX1_init_X4_init_n27 : GoodIn wsX1_init (wsX4_init) := ggX1_init_X4_init
set_option maxRecDepth 20000 in
theorem ggX1_init_X4_setNumber : GoodIn wsX1_init wsX4_setNumber := goodIn_r _ [33, 28, 29, 34, 35, 36, 37, 38, 39, 40, 12, 41, 52, 53] (by decide +kernel) (by decide +kernel)
set_option maxRecDepth 20000 in
theorem gX1_init_X4_setNumber : GoodIn wsX1_init (wsV RX1 46 RX4 yX4_setNumber wsX4_setNumber) := goodIn_app (goodIn_of _ (by decide +kernel)) ggX1_init_X4_setNumber
set_option maxRecDepth 20000 in
theorem ggX1_renew_X1_start : GoodIn wsX1_renew wsX1_start := goodIn_r _ [9, 10, 3, 11, 4, 12, 13, 14, 15, 16, 17, 18, 19, 20, 21, 22, 23, 24, 25, 26, 27, 28, 29, 30, 31, 32, 33, 34, 35, 36, 37, 38, 39, 40, 41, 42, 43, 44, 106, 107, 108, 109, 110, 111, 112, 113, 114, 115, 116, 117, 118, 119, 120, 121, 122, 123] (by decide +kernel) (by decide +kernel)
set_option maxRecDepth 20000 in
theorem gX1_renew_X1_start : GoodIn wsX1_renew (wsV RX1 53 RX1 yX1_start wsX1_start) := goodIn_app (goodIn_of _ (by decide +kernel)) ggX1_renew_X1_start
set_option maxRecDepth 20000 in
theorem ggX1_renew_X1_solve : GoodIn wsX1_renew wsX1_solve := goodIn_r _ [48, 49, 3, 11, 50, 51, 52, 8, 53, 4, 13, 12, 54, 33, 34, 35, 25, 36, 27, 28, 55, 56, 57, 58, 59, 60, 43, 61, 62, 63, 64, 65, 22, 23, 24, 26, 29, 30, 31, 32, 66, 67, 68, 69, 70, 71, 72, 73, 41, 42, 44, 74, 75, 76, 77, 78, 79, 80, 81, 10, 82, 83, 84, 85, 86, 87, 88, 89, 90, 91, 92, 93, 94, 95, 96, 97, 98, 99, 100, 101, 102, 103, 104, 105, 106, 107, 108, 109, 110, 111, 112, 113, 114, 115, 122, 123] (by decide +kernel) (by decide +kernel)
set_option maxRecDepth 20000 in
theorem gX1_renew_X1_solve : GoodIn wsX1_renew (wsV RX1 57 RX1 yX1_solve wsX1_solve) := goodIn_app (goodIn_of _ (by decide +kernel)) ggX1_renew_X1_solve
set_option maxRecDepth 20000 in
theorem ggX1_renew_X4_scaleBy : GoodIn wsX1_renew wsX4_scaleBy := goodIn_r _ [104, 27, 28, 62, 63, 64, 25, 65, 122, 123] (by decide +kernel) (by decide +kernel)
set_option maxRecDepth 20000 in
theorem gX1_renew_X4_scaleBy : GoodIn wsX1_renew (wsV RX1 61 RX4 yX4_scaleBy wsX4_scaleBy) := goodIn_app (goodIn_of _ (by decide +kernel)) ggX1_renew_X4_scaleBy
set_option maxRecDepth 20000 in
theorem ggX1_start_X6_part : GoodIn wsX1_start wsX6_part := goodIn_r _ [11, 12, 13, 14, 48, 49, 50, 51, 52, 53] (by decide +kernel) (by decide +kernel)
set_option maxRecDepth 20000 in
theorem gX1_start_X6_part : GoodIn wsX1_start (wsV RX1 70 RX6 yX6_part wsX6_part) := goodIn_app (goodIn_of _ (by decide +kernel)) ggX1_start_X6_part
set_option maxRecDepth 20000 in
theorem ggX1_start_X4_copyFrom : GoodIn wsX1_start wsX4_copyFrom := goodIn_r _ [19, 20, 21, 22, 23, 24, 18, 25, 54, 55] (by decide +kernel) (by decide +kernel)
set_option maxRecDepth 20000 in
theorem gX1_start_X4_copyFrom : GoodIn wsX1_start (wsV RX1 74 RX4 yX4_copyFrom wsX4_copyFrom) := goodIn_app (goodIn_of _ (by decide +kernel)) ggX1_start_X4_copyFrom
set_option maxRecDepth 20000 in
theorem ggX1_start_X4_becomeNumber : GoodIn wsX1_start wsX4_becomeNumber := goodIn_r _ [29, 20, 21, 54, 55] (by decide +kernel) (by decide +kernel)
set_option maxRecDepth 20000 in
theorem gX1_start_X4_becomeNumber : GoodIn wsX1_start (wsV RX1 78 RX4 yX4_becomeNumber wsX4_becomeNumber) := goodIn_app (goodIn_of _ (by decide +kernel)) ggX1_start_X4_becomeNumber
set_option maxRecDepth 20000 in
theorem ggX1_start_X4_moveBy : GoodIn wsX1_start wsX4_moveBy := goodIn_r _ [33, 21, 20, 34, 35, 36, 37, 22, 23, 24, 18, 25, 54, 55] (by decide +kernel) (by decide +kernel)
set_option maxRecDepth 20000 in
theorem gX1_start_X4_moveBy : GoodIn wsX1_start (wsV RX1 81 RX4 yX4_moveBy wsX4_moveBy) := goodIn_app (goodIn_of _ (by decide +kernel)) ggX1_start_X4_moveBy
set_option maxRecDepth 20000 in
theorem ggX1_solve_X1_fill : GoodIn wsX1_solve wsX1_fill := goodIn_r _ [8, 9, 3, 10, 11, 12, 13, 14, 15, 16, 17, 18, 19, 20, 21, 22, 23, 24, 25, 26, 27, 28, 29, 30, 31, 32, 33, 34, 35, 36, 37, 38, 39, 40, 41, 42, 43, 44, 45, 46, 47, 48, 49, 50, 51, 52, 53, 54, 92, 93, 84, 85, 86, 87, 88, 89, 90, 91, 94, 95] (by decide +kernel) (by decide +kernel)
set_option maxRecDepth 20000 in
theorem gX1_solve_X1_fill : GoodIn wsX1_solve (wsV RX1 84 RX1 yX1_fill wsX1_fill) := goodIn_app (goodIn_of _ (by decide +kernel)) ggX1_solve_X1_fill
set_option maxRecDepth 20000 in
theorem ggX1_solve_X1_lower : GoodIn wsX1_solve wsX1_lower := goodIn_r _ [58, 3, 59, 60, 49, 26, 50, 9, 61, 62, 63, 16, 64, 19, 65, 37, 38, 39, 18, 66, 67, 68, 40, 41, 42, 43, 24, 25, 27, 36, 28, 29, 30, 31, 92, 93, 84, 85, 86, 87, 88, 89, 90, 91, 94, 95] (by decide +kernel) (by decide +kernel)
set_option maxRecDepth 20000 in
theorem gX1_solve_X1_lower : GoodIn wsX1_solve (wsV RX1 88 RX1 yX1_lower wsX1_lower) := goodIn_app (goodIn_of _ (by decide +kernel)) ggX1_solve_X1_lower
set_option maxRecDepth 20000 in
theorem ggX1_solve_X1_keep : GoodIn wsX1_solve wsX1_keep := goodIn_r _ [72, 3, 59, 9, 61, 62, 63, 16, 64, 19, 73, 74, 75, 76, 36, 37, 38, 39, 18, 77, 67, 78, 79, 80, 81, 82, 28, 29, 30, 31, 92, 93, 84, 85, 86, 87, 88, 89, 90, 91, 94, 95] (by decide +kernel) (by decide +kernel)
set_option maxRecDepth 20000 in
theorem gX1_solve_X1_keep : GoodIn wsX1_solve (wsV RX1 92 RX1 yX1_keep wsX1_keep) := goodIn_app (goodIn_of _ (by decide +kernel)) ggX1_solve_X1_keep
set_option maxRecDepth 20000 in
theorem ggX1_solve_X4_isZero : GoodIn wsX1_solve wsX4_isZero := goodIn_r _ [54, 19, 94, 95] (by decide +kernel) (by decide +kernel)
set_option maxRecDepth 20000 in
theorem gX1_solve_X4_isZero : GoodIn wsX1_solve (wsV RX1 95 RX4 yX4_isZero wsX4_isZero) := goodIn_app (goodIn_of _ (by decide +kernel)) ggX1_solve_X4_isZero
set_option maxRecDepth 20000 in
theorem ggX1_fill_X4_becomeNumber : GoodIn wsX1_fill wsX4_becomeNumber := goodIn_r _ [10, 11, 12, 58, 59] (by decide +kernel) (by decide +kernel)
set_option maxRecDepth 20000 in
theorem gX1_fill_X4_becomeNumber : GoodIn wsX1_fill (wsV RX1 78 RX4 yX4_becomeNumber wsX4_becomeNumber) := goodIn_app (goodIn_of _ (by decide +kernel)) ggX1_fill_X4_becomeNumber
set_option maxRecDepth 20000 in
theorem ggX1_fill_X4_setNumber : GoodIn wsX1_fill wsX4_setNumber := goodIn_r _ [16, 11, 12, 17, 18, 19, 20, 21, 22, 23, 9, 24, 58, 59] (by decide +kernel) (by decide +kernel)
set_option maxRecDepth 20000 in
theorem gX1_fill_X4_setNumber : GoodIn wsX1_fill (wsV RX1 46 RX4 yX4_setNumber wsX4_setNumber) := goodIn_app (goodIn_of _ (by decide +kernel)) ggX1_fill_X4_setNumber
set_option maxRecDepth 20000 in
theorem ggX1_fill_X4_copyFrom : GoodIn wsX1_fill wsX4_copyFrom := goodIn_r _ [28, 11, 12, 29, 30, 31, 9, 32, 58, 59] (by decide +kernel) (by decide +kernel)
set_option maxRecDepth 20000 in
theorem gX1_fill_X4_copyFrom : GoodIn wsX1_fill (wsV RX1 74 RX4 yX4_copyFrom wsX4_copyFrom) := goodIn_app (goodIn_of _ (by decide +kernel)) ggX1_fill_X4_copyFrom
set_option maxRecDepth 20000 in
theorem ggX1_fill_X4_addMultiple : GoodIn wsX1_fill wsX4_addMultiple := goodIn_r _ [36, 12, 17, 18, 19, 20, 11, 29, 30, 31, 9, 32, 21, 22, 23, 24, 58, 59] (by decide +kernel) (by decide +kernel)
set_option maxRecDepth 20000 in
theorem gX1_fill_X4_addMultiple : GoodIn wsX1_fill (wsV RX1 99 RX4 yX4_addMultiple wsX4_addMultiple) := goodIn_app (goodIn_of _ (by decide +kernel)) ggX1_fill_X4_addMultiple
set_option maxRecDepth 20000 in
theorem ggX1_fill_X4_multiplyBy : GoodIn wsX1_fill wsX4_multiplyBy := goodIn_r _ [40, 12, 11, 41, 42, 19, 43, 44, 45, 46, 9, 47, 29, 30, 31, 32, 21, 22, 23, 24, 58, 59] (by decide +kernel) (by decide +kernel)
set_option maxRecDepth 20000 in
theorem gX1_fill_X4_multiplyBy : GoodIn wsX1_fill (wsV RX1 103 RX4 yX4_multiplyBy wsX4_multiplyBy) := goodIn_app (goodIn_of _ (by decide +kernel)) ggX1_fill_X4_multiplyBy
set_option maxRecDepth 20000 in
theorem ggX1_lower_X4_highest : GoodIn wsX1_lower wsX4_highest := goodIn_r _ [12, 13, 44, 45] (by decide +kernel) (by decide +kernel)
set_option maxRecDepth 20000 in
theorem gX1_lower_X4_highest : GoodIn wsX1_lower (wsV RX1 106 RX4 yX4_highest wsX4_highest) := goodIn_app (goodIn_of _ (by decide +kernel)) ggX1_lower_X4_highest
set_option maxRecDepth 20000 in
theorem ggX1_lower_X4_number : GoodIn wsX1_lower wsX4_number := goodIn_r _ [17, 18, 44, 45] (by decide +kernel) (by decide +kernel)
set_option maxRecDepth 20000 in
theorem gX1_lower_X4_number : GoodIn wsX1_lower (wsV RX1 115 RX4 yX4_number wsX4_number) := goodIn_app (goodIn_of _ (by decide +kernel)) ggX1_lower_X4_number
set_option maxRecDepth 20000 in
theorem ggX1_lower_X7_negative : GoodIn wsX1_lower wsX7_negative := goodIn_r _ [21] (by decide +kernel) (by decide +kernel)
set_option maxRecDepth 20000 in
theorem gX1_lower_X7_negative_n119 : GoodIn wsX1_lower (wsX7_negative) := ggX1_lower_X7_negative
set_option maxRecDepth 20000 in
theorem ggX1_lower_X4_addMultiple : GoodIn wsX1_lower wsX4_addMultiple := goodIn_r _ [25, 13, 26, 27, 5, 28, 18, 29, 15, 16, 11, 17, 30, 31, 32, 33, 44, 45] (by decide +kernel) (by decide +kernel)
set_option maxRecDepth 20000 in
theorem gX1_lower_X4_addMultiple : GoodIn wsX1_lower (wsV RX1 99 RX4 yX4_addMultiple wsX4_addMultiple) := goodIn_app (goodIn_of _ (by decide +kernel)) ggX1_lower_X4_addMultiple
set_option maxRecDepth 20000 in
theorem ggX1_keep_X4_highest : GoodIn wsX1_keep wsX4_highest := goodIn_r _ [8, 9, 40, 41] (by decide +kernel) (by decide +kernel)
set_option maxRecDepth 20000 in
theorem gX1_keep_X4_highest : GoodIn wsX1_keep (wsV RX1 106 RX4 yX4_highest wsX4_highest) := goodIn_app (goodIn_of _ (by decide +kernel)) ggX1_keep_X4_highest
set_option maxRecDepth 20000 in
theorem ggX1_keep_X4_leading : GoodIn wsX1_keep wsX4_leading := goodIn_r _ [13, 9, 14, 15, 16, 7, 17, 18, 40, 41] (by decide +kernel) (by decide +kernel)
set_option maxRecDepth 20000 in
theorem gX1_keep_X4_leading : GoodIn wsX1_keep (wsV RX1 122 RX4 yX4_leading wsX4_leading) := goodIn_app (goodIn_of _ (by decide +kernel)) ggX1_keep_X4_leading
set_option maxRecDepth 20000 in
theorem ggX1_keep_X7_inverse : GoodIn wsX1_keep wsX7_inverse := goodIn_r _ [21] (by decide +kernel) (by decide +kernel)
set_option maxRecDepth 20000 in
theorem gX1_keep_X7_inverse_n125 : GoodIn wsX1_keep (wsX7_inverse) := ggX1_keep_X7_inverse
set_option maxRecDepth 20000 in
theorem ggX1_keep_X4_scaleBy : GoodIn wsX1_keep wsX4_scaleBy := goodIn_r _ [25, 18, 9, 26, 27, 28, 7, 29, 40, 41] (by decide +kernel) (by decide +kernel)
set_option maxRecDepth 20000 in
theorem gX1_keep_X4_scaleBy : GoodIn wsX1_keep (wsV RX1 61 RX4 yX4_scaleBy wsX4_scaleBy) := goodIn_app (goodIn_of _ (by decide +kernel)) ggX1_keep_X4_scaleBy
end
section
/-- the sum as a multiple of the term: y is b with n - 1, x the answer -/
def cdg (y x c : Po) : Po := gm (conv y x) c
def cTop (y x c : Po) : Po := quo (conv y x) (cdg y x c)
def cBot (y x c : Po) : Po := quo c (cdg y x c)
theorem in_X1_bottomBefore_X1 : ∀ w ∈ u_ws RX1 TX1 8, w ∈ wsX1_bottomBefore := by decide +kernel
theorem lk_X1_bottomBefore_bottomBefore : Cond.fieldLink yX1_bottomBefore.cls 28 (TX1 3).1 (TX1 3).2.1 (TX1 3).2.2.1 ∈ wsX1_bottomBefore := by decide +kernel
set_option maxHeartbeats 4000000 in
set_option maxRecDepth 100000 in
theorem c_X1_bottomBefore (E : ev) (l : Launch) (he ep eb er bb tg pa : Nat) (least ke : Int) : Mr E l yX1_bottomBefore wsX1_bottomBefore { frames := 0, cells := 0, slots := 0, locals := 0 } [.ref he] [(he, .inr (1, [.ref ep, .ref eb, .ref er, .ref bb, .ref tg, .ref pa, .int (zI least), .int (zI ke)]))] (fun r w => r = bb ∧ w = [(he, .inr (1, [.ref ep, .ref eb, .ref er, .ref bb, .ref tg, .ref pa, .int (zI least), .int (zI ke)]))]) 0 0 := by
  refine enter_r (cc := cX1_bottomBefore) (nL := 1) (by decide) rfl (Nat.le_of_ble_eq_true rfl) (fun G C hret => ?_)
  show G 0 0 [(he, .inr (1, [.ref ep, .ref eb, .ref er, .ref bb, .ref tg, .ref pa, .int (zI least), .int (zI ke)]))] [(0, .ref he)] 0 []
  refine g_aload_n C dX1_bottomBefore_0 0 rfl ?_
  refine g_get C 0 rfl rfl 3 (by decide) in_X1_bottomBefore_X1 lk_X1_bottomBefore_bottomBefore rfl dX1_bottomBefore_1 ?_
  exact hret _ _ _ _ _ _ dX1_bottomBefore_4 (by decide) (by decide) ⟨rfl, rfl⟩
theorem in_X1_solution_X3 : ∀ w ∈ u_ws RX3 TX3 2, w ∈ wsX1_solution := by decide +kernel
theorem in_X1_solution_X1 : ∀ w ∈ u_ws RX1 TX1 8, w ∈ wsX1_solution := by decide +kernel
theorem lk_X1_solution_remaining : Cond.fieldLink yX1_solution.cls 23 (TX1 2).1 (TX1 2).2.1 (TX1 2).2.2.1 ∈ wsX1_solution := by decide +kernel
theorem lk_X1_solution_origin : Cond.fieldLink yX1_solution.cls 50 (TX3 0).1 (TX3 0).2.1 (TX3 0).2.2.1 ∈ wsX1_solution := by decide +kernel
set_option maxHeartbeats 4000000 in
set_option maxRecDepth 100000 in
theorem c_X1_solution (E : ev) (l : Launch) (he ep eb er bb tg pa eo ei : Nat) (least ke : Int) : Mr E l yX1_solution wsX1_solution { frames := 0, cells := 0, slots := 0, locals := 0 } [.ref he] [(he, .inr (1, [.ref ep, .ref eb, .ref er, .ref bb, .ref tg, .ref pa, .int (zI least), .int (zI ke)])), (er, .inr (3, [.ref eo, .ref ei]))] (fun r w => r = eo ∧ w = [(he, .inr (1, [.ref ep, .ref eb, .ref er, .ref bb, .ref tg, .ref pa, .int (zI least), .int (zI ke)])), (er, .inr (3, [.ref eo, .ref ei]))]) 0 0 := by
  refine enter_r (cc := cX1_solution) (nL := 1) (by decide) rfl (Nat.le_of_ble_eq_true rfl) (fun G C hret => ?_)
  show G 0 0 [(he, .inr (1, [.ref ep, .ref eb, .ref er, .ref bb, .ref tg, .ref pa, .int (zI least), .int (zI ke)])), (er, .inr (3, [.ref eo, .ref ei]))] [(0, .ref he)] 0 []
  refine g_aload_n C dX1_solution_0 0 rfl ?_
  refine g_get C 0 rfl rfl 2 (by decide) in_X1_solution_X1 lk_X1_solution_remaining rfl dX1_solution_1 ?_
  refine g_get C 1 rfl rfl 0 (by decide) in_X1_solution_X3 lk_X1_solution_origin rfl dX1_solution_4 ?_
  exact hret _ _ _ _ _ _ dX1_solution_7 (by decide) (by decide) ⟨rfl, rfl⟩
theorem in_X1_leastDegree_X1 : ∀ w ∈ u_ws RX1 TX1 8, w ∈ wsX1_leastDegree := by decide +kernel
theorem lk_X1_leastDegree_leastDegree : Cond.fieldLink yX1_leastDegree.cls 38 (TX1 6).1 (TX1 6).2.1 (TX1 6).2.2.1 ∈ wsX1_leastDegree := by decide +kernel
set_option maxHeartbeats 4000000 in
set_option maxRecDepth 100000 in
theorem c_X1_leastDegree (E : ev) (l : Launch) (he ep eb er bb tg pa : Nat) (least ke : Int) : Mi E l yX1_leastDegree wsX1_leastDegree { frames := 0, cells := 0, slots := 0, locals := 0 } [.ref he] [(he, .inr (1, [.ref ep, .ref eb, .ref er, .ref bb, .ref tg, .ref pa, .int (zI least), .int (zI ke)]))] (fun r w => r = zI least ∧ w = [(he, .inr (1, [.ref ep, .ref eb, .ref er, .ref bb, .ref tg, .ref pa, .int (zI least), .int (zI ke)]))]) 0 0 := by
  refine enter_i (cc := cX1_leastDegree) (nL := 1) (by decide) rfl (Nat.le_of_ble_eq_true rfl) (fun G C hret => ?_)
  show G 0 0 [(he, .inr (1, [.ref ep, .ref eb, .ref er, .ref bb, .ref tg, .ref pa, .int (zI least), .int (zI ke)]))] [(0, .ref he)] 0 []
  refine g_aload_n C dX1_leastDegree_0 0 rfl ?_
  refine g_get C 0 rfl rfl 6 (by decide) in_X1_leastDegree_X1 lk_X1_leastDegree_leastDegree rfl dX1_leastDegree_1 ?_
  exact hret _ _ _ _ _ _ dX1_leastDegree_4 (by decide) (by decide) ⟨rfl, rfl⟩
theorem in_X1_forget_X1 : ∀ w ∈ u_ws RX1 TX1 8, w ∈ wsX1_forget := by decide +kernel
theorem lk_X1_forget_known : Cond.fieldLink yX1_forget.cls 42 (TX1 7).1 (TX1 7).2.1 (TX1 7).2.2.1 ∈ wsX1_forget := by decide +kernel
set_option maxHeartbeats 4000000 in
set_option maxRecDepth 100000 in
theorem c_X1_forget (E : ev) (l : Launch) (he ep eb er bb tg pa : Nat) (least ke : Int) : Mv E l yX1_forget wsX1_forget { frames := 0, cells := 0, slots := 0, locals := 0 } [.ref he] [(he, .inr (1, [.ref ep, .ref eb, .ref er, .ref bb, .ref tg, .ref pa, .int (zI least), .int (zI ke)]))] (fun w => w = [(he, .inr (1, [.ref ep, .ref eb, .ref er, .ref bb, .ref tg, .ref pa, .int (zI least), .int (zI 0)]))]) 0 0 := by
  refine enter_v (cc := cX1_forget) (nL := 1) (by decide) rfl (Nat.le_of_ble_eq_true rfl) (fun G C hret => ?_)
  show G 0 0 [(he, .inr (1, [.ref ep, .ref eb, .ref er, .ref bb, .ref tg, .ref pa, .int (zI least), .int (zI ke)]))] [(0, .ref he)] 0 []
  refine g_aload_n C dX1_forget_0 0 rfl ?_
  refine g_iconst C dX1_forget_1 ?_
  refine g_put C [(he, .inr (1, [.ref ep, .ref eb, .ref er, .ref bb, .ref tg, .ref pa, .int (zI least), .int (zI 0)]))] tyX1 tyX1_ok nmX1 0 rfl rfl 7 (by decide) in_X1_forget_X1 lk_X1_forget_known rfl rfl rfl (Nat.le_of_ble_eq_true rfl) dX1_forget_2 rfl ?_
  exact hret _ _ _ _ _ dX1_forget_5 (by decide) (by decide) rfl
theorem in_X2_init_X4 : ∀ w ∈ u_ws RX4 TX4 2, w ∈ wsX2_init := by decide +kernel
theorem in_X2_init_X2 : ∀ w ∈ u_ws RX2 TX2 3, w ∈ wsX2_init := by decide +kernel
theorem lk_X2_init_top : Cond.fieldLink yX2_init.cls 12 (TX2 0).1 (TX2 0).2.1 (TX2 0).2.2.1 ∈ wsX2_init := by decide +kernel
theorem lk_X2_init_bottom : Cond.fieldLink yX2_init.cls 18 (TX2 1).1 (TX2 1).2.1 (TX2 1).2.2.1 ∈ wsX2_init := by decide +kernel
theorem lk_X2_init_known : Cond.fieldLink yX2_init.cls 21 (TX2 2).1 (TX2 2).2.1 (TX2 2).2.2.1 ∈ wsX2_init := by decide +kernel
theorem nw_X2_init_X4 : Cond.classLink yX2_init.cls 9 RX4 ∈ wsX2_init ∧ Cond.instantiable RX4 2 ∈ wsX2_init ∧ Cond.initialized RX4 ∈ wsX2_init := by decide +kernel
set_option maxHeartbeats 4000000 in
set_option maxRecDepth 100000 in
theorem c_X2_init (E : ev) (l : Launch) (h : Nat) : Mv E l yX2_init wsX2_init { frames := 2, cells := 4, slots := 70, locals := 60 } [.ref h] [(h, .inr (2, [.null, .null, .int (zI 0)]))] (fun w => ∃ ft qt fb qb : Nat, w = [(h, .inr (2, [.ref ft, .ref fb, .int (zI 0)])), cP ft qt (hi zr), aP E qt zr, cP fb qb (hi zr), aP E qb zr]) 4 70 := by
  refine enter_v (cc := cX2_init) (nL := 1) (by decide) rfl (Nat.le_of_ble_eq_true rfl) (fun G C hret => ?_)
  show G 0 0 [(h, .inr (2, [.null, .null, .int (zI 0)]))] [(0, .ref h)] 0 []
  refine g_aload_n C dX2_init_0 0 rfl ?_
  refine g_objInit C (by decide +kernel) (List.mem_cons_of_mem _ (List.mem_of_getElem? (i := 2) rfl)) dX2_init_1 (by decide) (Nat.le_of_ble_eq_true rfl) ?_
  refine g_aload_n C dX2_init_4 0 rfl ?_
  refine g_new (ci := 4) C [.null, .int (zI 0)] tyX4 tyX4_ok rfl in_X2_init_X4 nw_X2_init_X4 (by decide +kernel) (by decide) dX2_init_5 (fun q_5 => ?_)
  refine g_eq (ws' := [(h, .inr (2, [.null, .null, .int (zI 0)])), (q_5, .inr (4, [.null, .int (zI 0)]))]) rfl rfl rfl ?_
  refine g_dup C dX2_init_8 rfl ?_
  refine g_callI (n := 0) (wr := [(h, .inr (2, [.null, .null, .int (zI 0)]))]) C (c_X4_init E l q_5) (Or.inl (by decide +kernel)) gX2_init_X4_init_n11 (by decide +kernel) rfl (by decide +kernel) rfl (by decide) dX2_init_9 rfl (Nat.le_of_ble_eq_true rfl) [1] [0] rfl rfl (by decide) (fun w_9 h_9 => ?_)
  obtain ⟨p_9, rfl⟩ := h_9
  refine g_eq (ws' := [(h, .inr (2, [.null, .null, .int (zI 0)])), cP q_5 p_9 (hi zr), aP E p_9 zr]) rfl rfl rfl ?_
  refine g_putF C [(h, .inr (2, [.ref q_5, .null, .int (zI 0)])), cP q_5 p_9 (hi zr), aP E p_9 zr] tyX2 tyX2_ok nmX2 0 rfl rfl 0 (by decide) in_X2_init_X2 lk_X2_init_top rfl rfl rfl rfl (Nat.le_of_ble_eq_true rfl) dX2_init_12 rfl rfl ?_
  refine g_aload_n C dX2_init_15 0 rfl ?_
  refine g_new (ci := 4) C [.null, .int (zI 0)] tyX4 tyX4_ok rfl in_X2_init_X4 nw_X2_init_X4 (by decide +kernel) (by decide) dX2_init_16 (fun q_16 => ?_)
  refine g_eq (ws' := [(h, .inr (2, [.ref q_5, .null, .int (zI 0)])), cP q_5 p_9 (hi zr), aP E p_9 zr, (q_16, .inr (4, [.null, .int (zI 0)]))]) rfl rfl rfl ?_
  refine g_dup C dX2_init_19 rfl ?_
  refine g_callI (n := 0) (wr := [(h, .inr (2, [.ref q_5, .null, .int (zI 0)])), cP q_5 p_9 (hi zr), aP E p_9 zr]) C (c_X4_init E l q_16) (Or.inl (by decide +kernel)) gX2_init_X4_init_n11 (by decide +kernel) rfl (by decide +kernel) rfl (by decide) dX2_init_20 rfl (Nat.le_of_ble_eq_true rfl) [3] [0, 1, 2] rfl rfl (by decide) (fun w_20 h_20 => ?_)
  obtain ⟨p_20, rfl⟩ := h_20
  refine g_eq (ws' := [(h, .inr (2, [.ref q_5, .null, .int (zI 0)])), cP q_5 p_9 (hi zr), aP E p_9 zr, cP q_16 p_20 (hi zr), aP E p_20 zr]) rfl rfl rfl ?_
  refine g_putF C [(h, .inr (2, [.ref q_5, .ref q_16, .int (zI 0)])), cP q_5 p_9 (hi zr), aP E p_9 zr, cP q_16 p_20 (hi zr), aP E p_20 zr] tyX2 tyX2_ok nmX2 0 rfl rfl 1 (by decide) in_X2_init_X2 lk_X2_init_bottom rfl rfl rfl rfl (Nat.le_of_ble_eq_true rfl) dX2_init_23 rfl rfl ?_
  refine g_aload_n C dX2_init_26 0 rfl ?_
  refine g_iconst C dX2_init_27 ?_
  refine g_put C [(h, .inr (2, [.ref q_5, .ref q_16, .int (zI 0)])), cP q_5 p_9 (hi zr), aP E p_9 zr, cP q_16 p_20 (hi zr), aP E p_20 zr] tyX2 tyX2_ok nmX2 0 rfl rfl 2 (by decide) in_X2_init_X2 lk_X2_init_known rfl rfl rfl (Nat.le_of_ble_eq_true rfl) dX2_init_28 rfl ?_
  exact hret _ _ _ _ _ dX2_init_31 (by decide) (by decide) ⟨q_5, p_9, q_16, p_20, rfl⟩
theorem in_X2_forget_X2 : ∀ w ∈ u_ws RX2 TX2 3, w ∈ wsX2_forget := by decide +kernel
theorem lk_X2_forget_known : Cond.fieldLink yX2_forget.cls 21 (TX2 2).1 (TX2 2).2.1 (TX2 2).2.2.1 ∈ wsX2_forget := by decide +kernel
set_option maxHeartbeats 4000000 in
set_option maxRecDepth 100000 in
theorem c_X2_forget (E : ev) (l : Launch) (hf ft fb : Nat) (k : Int) : Mv E l yX2_forget wsX2_forget { frames := 0, cells := 0, slots := 0, locals := 0 } [.ref hf] [(hf, .inr (2, [.ref ft, .ref fb, .int (zI k)]))] (fun w => w = [(hf, .inr (2, [.ref ft, .ref fb, .int (zI 0)]))]) 0 0 := by
  refine enter_v (cc := cX2_forget) (nL := 1) (by decide) rfl (Nat.le_of_ble_eq_true rfl) (fun G C hret => ?_)
  show G 0 0 [(hf, .inr (2, [.ref ft, .ref fb, .int (zI k)]))] [(0, .ref hf)] 0 []
  refine g_aload_n C dX2_forget_0 0 rfl ?_
  refine g_iconst C dX2_forget_1 ?_
  refine g_put C [(hf, .inr (2, [.ref ft, .ref fb, .int (zI 0)]))] tyX2 tyX2_ok nmX2 0 rfl rfl 2 (by decide) in_X2_forget_X2 lk_X2_forget_known rfl rfl rfl (Nat.le_of_ble_eq_true rfl) dX2_forget_2 rfl ?_
  exact hret _ _ _ _ _ dX2_forget_5 (by decide) (by decide) rfl
theorem in_X2_top_X2 : ∀ w ∈ u_ws RX2 TX2 3, w ∈ wsX2_top := by decide +kernel
theorem lk_X2_top_top : Cond.fieldLink yX2_top.cls 12 (TX2 0).1 (TX2 0).2.1 (TX2 0).2.2.1 ∈ wsX2_top := by decide +kernel
set_option maxHeartbeats 4000000 in
set_option maxRecDepth 100000 in
theorem c_X2_top (E : ev) (l : Launch) (hf ft fb : Nat) (k : Int) : Mr E l yX2_top wsX2_top { frames := 0, cells := 0, slots := 0, locals := 0 } [.ref hf] [(hf, .inr (2, [.ref ft, .ref fb, .int (zI k)]))] (fun r w => r = ft ∧ w = [(hf, .inr (2, [.ref ft, .ref fb, .int (zI k)]))]) 0 0 := by
  refine enter_r (cc := cX2_top) (nL := 1) (by decide) rfl (Nat.le_of_ble_eq_true rfl) (fun G C hret => ?_)
  show G 0 0 [(hf, .inr (2, [.ref ft, .ref fb, .int (zI k)]))] [(0, .ref hf)] 0 []
  refine g_aload_n C dX2_top_0 0 rfl ?_
  refine g_get C 0 rfl rfl 0 (by decide) in_X2_top_X2 lk_X2_top_top rfl dX2_top_1 ?_
  exact hret _ _ _ _ _ _ dX2_top_4 (by decide) (by decide) ⟨rfl, rfl⟩
theorem in_X2_bottom_X2 : ∀ w ∈ u_ws RX2 TX2 3, w ∈ wsX2_bottom := by decide +kernel
theorem lk_X2_bottom_bottom : Cond.fieldLink yX2_bottom.cls 18 (TX2 1).1 (TX2 1).2.1 (TX2 1).2.2.1 ∈ wsX2_bottom := by decide +kernel
set_option maxHeartbeats 4000000 in
set_option maxRecDepth 100000 in
theorem c_X2_bottom (E : ev) (l : Launch) (hf ft fb : Nat) (k : Int) : Mr E l yX2_bottom wsX2_bottom { frames := 0, cells := 0, slots := 0, locals := 0 } [.ref hf] [(hf, .inr (2, [.ref ft, .ref fb, .int (zI k)]))] (fun r w => r = fb ∧ w = [(hf, .inr (2, [.ref ft, .ref fb, .int (zI k)]))]) 0 0 := by
  refine enter_r (cc := cX2_bottom) (nL := 1) (by decide) rfl (Nat.le_of_ble_eq_true rfl) (fun G C hret => ?_)
  show G 0 0 [(hf, .inr (2, [.ref ft, .ref fb, .int (zI k)]))] [(0, .ref hf)] 0 []
  refine g_aload_n C dX2_bottom_0 0 rfl ?_
  refine g_get C 0 rfl rfl 1 (by decide) in_X2_bottom_X2 lk_X2_bottom_bottom rfl dX2_bottom_1 ?_
  exact hret _ _ _ _ _ _ dX2_bottom_4 (by decide) (by decide) ⟨rfl, rfl⟩
theorem in_X2_valueAt_X2 : ∀ w ∈ u_ws RX2 TX2 3, w ∈ wsX2_valueAt := by decide +kernel
theorem lk_X2_valueAt_bottom : Cond.fieldLink yX2_valueAt.cls 18 (TX2 1).1 (TX2 1).2.1 (TX2 1).2.2.1 ∈ wsX2_valueAt := by decide +kernel
theorem lk_X2_valueAt_top : Cond.fieldLink yX2_valueAt.cls 12 (TX2 0).1 (TX2 0).2.1 (TX2 0).2.2.1 ∈ wsX2_valueAt := by decide +kernel
set_option maxHeartbeats 4000000 in
set_option maxRecDepth 100000 in
theorem c_X2_valueAt (E : ev) (l : Launch) (hf ft qt fb qb : Nat) (k : Int) (a b : Po) (v : Fq) (hSa : Sm a) (hSb : Sm b) : Mi E l yX2_valueAt wsX2_valueAt { frames := 2, cells := 0, slots := 0, locals := 60 } [.ref hf, .int (zI (v.val : Int))] [(hf, .inr (2, [.ref ft, .ref fb, .int (zI k)])), cP ft qt (hi a), aP E qt a, cP fb qb (hi b), aP E qb b] (fun r w => r = zI (if val b v = 0 then -1 else ((val a v * ivq (val b v)).val : Int)) ∧ w = [(hf, .inr (2, [.ref ft, .ref fb, .int (zI k)])), cP ft qt (hi a), aP E qt a, cP fb qb (hi b), aP E qb b]) 0 0 := by
  refine enter_i (cc := cX2_valueAt) (nL := 3) (by decide) rfl (Nat.le_of_ble_eq_true rfl) (fun G C hret => ?_)
  show G 0 0 [(hf, .inr (2, [.ref ft, .ref fb, .int (zI k)])), cP ft qt (hi a), aP E qt a, cP fb qb (hi b), aP E qb b] [(0, .ref hf), (1, .int (zI (v.val : Int)))] 0 []
  refine g_aload_n C dX2_valueAt_0 0 rfl ?_
  refine g_get C 0 rfl rfl 1 (by decide) in_X2_valueAt_X2 lk_X2_valueAt_bottom rfl dX2_valueAt_1 ?_
  refine g_iload_n C dX2_valueAt_4 1 rfl ?_
  refine g_callVi (n := 1) (wr := [(hf, .inr (2, [.ref ft, .ref fb, .int (zI k)])), cP ft qt (hi a), aP E qt a]) C (c_X4_valueAt E l fb qb b v hSb) gX2_valueAt_X4_valueAt rfl (by decide +kernel) rfl (by decide) dX2_valueAt_5 rfl (Nat.le_of_ble_eq_true rfl) rfl rfl [3, 4] [0, 1, 2] rfl rfl (by decide) (fun r_5 w_5 h_5 => ?_)
  obtain ⟨rfl, rfl⟩ := h_5
  refine g_eq (ws' := [(hf, .inr (2, [.ref ft, .ref fb, .int (zI k)])), cP ft qt (hi a), aP E qt a, cP fb qb (hi b), aP E qb b]) rfl rfl rfl ?_
  refine g_istore_n C [(2, .int (zI ((val b v).val : Int))), (0, .ref hf), (1, .int (zI (v.val : Int)))] dX2_valueAt_8 (by decide) rfl ?_
  refine g_iload_n C dX2_valueAt_9 0 rfl ?_
  refine g_if_ne C 17 dX2_valueAt_10 (by decide) (by omega) (by omega) (fun c_10 => ?_) (fun c_10 => ?_)
  · refine g_aload_n C dX2_valueAt_17 1 rfl ?_
    refine g_get C 0 rfl rfl 0 (by decide) in_X2_valueAt_X2 lk_X2_valueAt_top rfl dX2_valueAt_18 ?_
    refine g_iload_n C dX2_valueAt_21 2 rfl ?_
    refine g_callVi (n := 1) (wr := [(hf, .inr (2, [.ref ft, .ref fb, .int (zI k)])), cP fb qb (hi b), aP E qb b]) C (c_X4_valueAt E l ft qt a v hSa) gX2_valueAt_X4_valueAt rfl (by decide +kernel) rfl (by decide) dX2_valueAt_22 rfl (Nat.le_of_ble_eq_true rfl) rfl rfl [1, 2] [0, 3, 4] rfl rfl (by decide) (fun r_22 w_22 h_22 => ?_)
    obtain ⟨rfl, rfl⟩ := h_22
    refine g_eq (ws' := [(hf, .inr (2, [.ref ft, .ref fb, .int (zI k)])), cP fb qb (hi b), aP E qb b, cP ft qt (hi a), aP E qt a]) rfl rfl rfl ?_
    refine g_iload_n C dX2_valueAt_25 0 rfl ?_
    refine g_callSNi (n := 1) C (c_X7_inverse E l (val b v)) (by decide +kernel) gX2_valueAt_X7_inverse_n61 (by decide +kernel) rfl (by decide +kernel) rfl (by decide) dX2_valueAt_26 rfl (Nat.le_of_ble_eq_true rfl) (fun r_26 h_26 => ?_)
    obtain ⟨_, rfl, -⟩ := h_26
    refine g_imul C dX2_valueAt_29 ?_
    refine g_sipush C dX2_valueAt_30 rfl ?_
    refine g_mod C dX2_valueAt_33 (by have := fq_mulb (val a v) (ivq (val b v)); omega) (by have := fq_mulb (val a v) (ivq (val b v)); omega) ?_
    refine g_top (zI ((val a v * ivq (val b v)).val : Int)) (congrArg (fun u : Fq => zI (u.val : Int)) (by simp only [cF_mul, cF_of])) ?_
    refine g_wsub (ws' := [(hf, .inr (2, [.ref ft, .ref fb, .int (zI k)])), cP ft qt (hi a), aP E qt a, cP fb qb (hi b), aP E qb b]) C [0, 3, 4, 1, 2] (by decide) rfl rfl ?_
    exact hret _ _ _ _ _ _ dX2_valueAt_34 (by decide) (by decide) ⟨by first | rw [if_pos (fq0 c_10)] | rw [if_neg (fqn c_10)], rfl⟩
  · refine g_iconst C dX2_valueAt_13 ?_
    refine g_goto C 34 dX2_valueAt_14 (by decide) ?_
    exact hret _ _ _ _ _ _ dX2_valueAt_34 (by decide) (by decide) ⟨by first | rw [if_pos (fq0 c_10)] | rw [if_neg (fqn c_10)], rfl⟩
theorem in_X2_renew_X2 : ∀ w ∈ u_ws RX2 TX2 3, w ∈ wsX2_renew := by decide +kernel
theorem lk_X2_renew_known : Cond.fieldLink yX2_renew.cls 21 (TX2 2).1 (TX2 2).2.1 (TX2 2).2.2.1 ∈ wsX2_renew := by decide +kernel
theorem lk_X2_renew_top : Cond.fieldLink yX2_renew.cls 12 (TX2 0).1 (TX2 0).2.1 (TX2 0).2.2.1 ∈ wsX2_renew := by decide +kernel
theorem lk_X2_renew_bottom : Cond.fieldLink yX2_renew.cls 18 (TX2 1).1 (TX2 1).2.1 (TX2 1).2.2.1 ∈ wsX2_renew := by decide +kernel
set_option maxHeartbeats 4000000 in
set_option maxRecDepth 100000 in
theorem c_X2_renew (E : ev) (l : Launch) (hf ft qt fb qb hp t b e qe m dg he ep eb er bb qbb tg pa eo qo ei hd f1 q1 f2 q2 f3 q3 f4 q4 : Nat) (k kp least ke : Int) (ta tb c x y u1 u2 u3 u4 : Po) (hS1 : Sm ta ∧ Sm tb ∧ Sm c ∧ Sm x ∧ Sm y) (hSu : Sm u1 ∧ Sm u2 ∧ Sm u3 ∧ Sm u4) (hx : 0 ≤ hi x) (hy : 0 ≤ hi y) (hc : 0 ≤ hi c) (hxy : hi y + hi x < 33) (hk : k = 0 ∨ (k = 1 ∧ ta = cTop y x c ∧ tb = cBot y x c)) : Mv E l yX2_renew wsX2_renew { frames := 4, cells := 0, slots := 0, locals := 120 } [.ref hf, .ref hp, .ref he, .ref hd] [(hf, .inr (2, [.ref ft, .ref fb, .int (zI k)])), cP ft qt (hi ta), aP E qt ta, cP fb qb (hi tb), aP E qb tb, (hp, .inr (6, [.ref t, .ref b, .ref e, .ref m, .ref dg, .int (zI kp)])), cP e qe (hi c), aP E qe c, (he, .inr (1, [.ref ep, .ref eb, .ref er, .ref bb, .ref tg, .ref pa, .int (zI least), .int (zI ke)])), (er, .inr (3, [.ref eo, .ref ei])), cP eo qo (hi x), aP E qo x, cP bb qbb (hi y), aP E qbb y, (hd, .inr (0, [.ref f1, .ref f2, .ref f3, .ref f4])), cP f1 q1 (hi u1), aP E q1 u1, cP f2 q2 (hi u2), aP E q2 u2, cP f3 q3 (hi u3), aP E q3 u3, cP f4 q4 (hi u4), aP E q4 u4] (fun w => ∃ (v1 v2 v3 v4 : Po), (Sm v1 ∧ Sm v2 ∧ Sm v3 ∧ Sm v4) ∧ w = [(hf, .inr (2, [.ref ft, .ref fb, .int (zI 1)])), cP ft qt (hi (cTop y x c)), aP E qt (cTop y x c), cP fb qb (hi (cBot y x c)), aP E qb (cBot y x c), (hp, .inr (6, [.ref t, .ref b, .ref e, .ref m, .ref dg, .int (zI kp)])), cP e qe (hi c), aP E qe c, (he, .inr (1, [.ref ep, .ref eb, .ref er, .ref bb, .ref tg, .ref pa, .int (zI least), .int (zI ke)])), (er, .inr (3, [.ref eo, .ref ei])), cP eo qo (hi x), aP E qo x, cP bb qbb (hi y), aP E qbb y, (hd, .inr (0, [.ref f1, .ref f2, .ref f3, .ref f4])), cP f1 q1 (hi v1), aP E q1 v1, cP f2 q2 (hi v2), aP E q2 v2, cP f3 q3 (hi v3), aP E q3 v3, cP f4 q4 (hi v4), aP E q4 v4]) 0 0 := by
  refine enter_v (cc := cX2_renew) (nL := 5) (by decide) rfl (Nat.le_of_ble_eq_true rfl) (fun G C hret => ?_)
  show G 0 0 [(hf, .inr (2, [.ref ft, .ref fb, .int (zI k)])), cP ft qt (hi ta), aP E qt ta, cP fb qb (hi tb), aP E qb tb, (hp, .inr (6, [.ref t, .ref b, .ref e, .ref m, .ref dg, .int (zI kp)])), cP e qe (hi c), aP E qe c, (he, .inr (1, [.ref ep, .ref eb, .ref er, .ref bb, .ref tg, .ref pa, .int (zI least), .int (zI ke)])), (er, .inr (3, [.ref eo, .ref ei])), cP eo qo (hi x), aP E qo x, cP bb qbb (hi y), aP E qbb y, (hd, .inr (0, [.ref f1, .ref f2, .ref f3, .ref f4])), cP f1 q1 (hi u1), aP E q1 u1, cP f2 q2 (hi u2), aP E q2 u2, cP f3 q3 (hi u3), aP E q3 u3, cP f4 q4 (hi u4), aP E q4 u4] [(0, .ref hf), (1, .ref hp), (2, .ref he), (3, .ref hd)] 0 []
  refine g_aload_n C dX2_renew_0 0 rfl ?_
  refine g_get C 0 rfl rfl 2 (by decide) in_X2_renew_X2 lk_X2_renew_known rfl dX2_renew_1 ?_
  refine g_if_eq C 8 dX2_renew_4 (by decide) (by omega) (by omega) (fun c_4 => ?_) (fun c_4 => ?_)
  · subst c_4
    have od := conv_dg hS1.2.2.2.2 hS1.2.2.2.1 hy hx hxy
    have oS := conv_Sm hS1.2.2.2.2 hS1.2.2.2.1 hxy
    have og : Sm (cdg y x c) ∧ Mo (cdg y x c) ∧ hi (cdg y x c) ≤ hi (conv y x) ∧ hi (cdg y x c) ≤ hi c := gm_ok oS hS1.2.2.1 (by omega) hc
    refine g_aload_n C dX2_renew_8 0 rfl ?_
    refine g_iconst C dX2_renew_9 ?_
    refine g_put C [(hf, .inr (2, [.ref ft, .ref fb, .int (zI 1)])), cP ft qt (hi ta), aP E qt ta, cP fb qb (hi tb), aP E qb tb, (hp, .inr (6, [.ref t, .ref b, .ref e, .ref m, .ref dg, .int (zI kp)])), cP e qe (hi c), aP E qe c, (he, .inr (1, [.ref ep, .ref eb, .ref er, .ref bb, .ref tg, .ref pa, .int (zI least), .int (zI ke)])), (er, .inr (3, [.ref eo, .ref ei])), cP eo qo (hi x), aP E qo x, cP bb qbb (hi y), aP E qbb y, (hd, .inr (0, [.ref f1, .ref f2, .ref f3, .ref f4])), cP f1 q1 (hi u1), aP E q1 u1, cP f2 q2 (hi u2), aP E q2 u2, cP f3 q3 (hi u3), aP E q3 u3, cP f4 q4 (hi u4), aP E q4 u4] tyX2 tyX2_ok nmX2 0 rfl rfl 2 (by decide) in_X2_renew_X2 lk_X2_renew_known rfl rfl rfl (Nat.le_of_ble_eq_true rfl) dX2_renew_10 rfl ?_
    refine g_aload_n C dX2_renew_13 0 rfl ?_
    refine g_get C 0 rfl rfl 0 (by decide) in_X2_renew_X2 lk_X2_renew_top rfl dX2_renew_14 ?_
    refine g_aload_n C dX2_renew_17 2 rfl ?_
    refine g_callVr (n := 0) (wr := [(hf, .inr (2, [.ref ft, .ref fb, .int (zI 1)])), cP ft qt (hi ta), aP E qt ta, cP fb qb (hi tb), aP E qb tb, (hp, .inr (6, [.ref t, .ref b, .ref e, .ref m, .ref dg, .int (zI kp)])), cP e qe (hi c), aP E qe c, (er, .inr (3, [.ref eo, .ref ei])), cP eo qo (hi x), aP E qo x, cP bb qbb (hi y), aP E qbb y, (hd, .inr (0, [.ref f1, .ref f2, .ref f3, .ref f4])), cP f1 q1 (hi u1), aP E q1 u1, cP f2 q2 (hi u2), aP E q2 u2, cP f3 q3 (hi u3), aP E q3 u3, cP f4 q4 (hi u4), aP E q4 u4]) C (c_X1_bottomBefore E l he ep eb er bb tg pa least ke) gX2_renew_X1_bottomBefore rfl (by decide +kernel) rfl (by decide) dX2_renew_18 rfl (Nat.le_of_ble_eq_true rfl) rfl rfl [8] [0, 1, 2, 3, 4, 5, 6, 7, 9, 10, 11, 12, 13, 14, 15, 16, 17, 18, 19, 20, 21, 22] rfl rfl (by decide) (fun r_18 w_18 h_18 => ?_)
    obtain ⟨hr18, rfl⟩ := h_18
    refine g_eq (ws' := [(hf, .inr (2, [.ref ft, .ref fb, .int (zI 1)])), cP ft qt (hi ta), aP E qt ta, cP fb qb (hi tb), aP E qb tb, (hp, .inr (6, [.ref t, .ref b, .ref e, .ref m, .ref dg, .int (zI kp)])), cP e qe (hi c), aP E qe c, (er, .inr (3, [.ref eo, .ref ei])), cP eo qo (hi x), aP E qo x, cP bb qbb (hi y), aP E qbb y, (hd, .inr (0, [.ref f1, .ref f2, .ref f3, .ref f4])), cP f1 q1 (hi u1), aP E q1 u1, cP f2 q2 (hi u2), aP E q2 u2, cP f3 q3 (hi u3), aP E q3 u3, cP f4 q4 (hi u4), aP E q4 u4, (he, .inr (1, [.ref ep, .ref eb, .ref er, .ref bb, .ref tg, .ref pa, .int (zI least), .int (zI ke)]))]) rfl rfl rfl ?_
    rw [hr18]
    refine g_callV (n := 1) (wr := [(hf, .inr (2, [.ref ft, .ref fb, .int (zI 1)])), cP fb qb (hi tb), aP E qb tb, (hp, .inr (6, [.ref t, .ref b, .ref e, .ref m, .ref dg, .int (zI kp)])), cP e qe (hi c), aP E qe c, (er, .inr (3, [.ref eo, .ref ei])), cP eo qo (hi x), aP E qo x, (hd, .inr (0, [.ref f1, .ref f2, .ref f3, .ref f4])), cP f1 q1 (hi u1), aP E q1 u1, cP f2 q2 (hi u2), aP E q2 u2, cP f3 q3 (hi u3), aP E q3 u3, cP f4 q4 (hi u4), aP E q4 u4, (he, .inr (1, [.ref ep, .ref eb, .ref er, .ref bb, .ref tg, .ref pa, .int (zI least), .int (zI ke)]))]) C (c_X4_copyFrom E l ft qt bb qbb ta y hS1.1 hS1.2.2.2.2) gX2_renew_X4_copyFrom rfl (by decide +kernel) rfl (by decide) dX2_renew_21 rfl (Nat.le_of_ble_eq_true rfl) rfl rfl [1, 2, 11, 12] [0, 3, 4, 5, 6, 7, 8, 9, 10, 13, 14, 15, 16, 17, 18, 19, 20, 21, 22] rfl rfl (by decide) (fun w_21 h_21 => ?_)
    obtain rfl := h_21
    refine g_eq (ws' := [(hf, .inr (2, [.ref ft, .ref fb, .int (zI 1)])), cP fb qb (hi tb), aP E qb tb, (hp, .inr (6, [.ref t, .ref b, .ref e, .ref m, .ref dg, .int (zI kp)])), cP e qe (hi c), aP E qe c, (er, .inr (3, [.ref eo, .ref ei])), cP eo qo (hi x), aP E qo x, (hd, .inr (0, [.ref f1, .ref f2, .ref f3, .ref f4])), cP f1 q1 (hi u1), aP E q1 u1, cP f2 q2 (hi u2), aP E q2 u2, cP f3 q3 (hi u3), aP E q3 u3, cP f4 q4 (hi u4), aP E q4 u4, (he, .inr (1, [.ref ep, .ref eb, .ref er, .ref bb, .ref tg, .ref pa, .int (zI least), .int (zI ke)])), cP ft qt (hi y), aP E qt y, cP bb qbb (hi y), aP E qbb y]) rfl rfl rfl ?_
    refine g_aload_n C dX2_renew_24 0 rfl ?_
    refine g_get C 0 rfl rfl 0 (by decide) in_X2_renew_X2 lk_X2_renew_top rfl dX2_renew_25 ?_
    refine g_aload_n C dX2_renew_28 2 rfl ?_
    refine g_callVr (n := 0) (wr := [(hf, .inr (2, [.ref ft, .ref fb, .int (zI 1)])), cP fb qb (hi tb), aP E qb tb, (hp, .inr (6, [.ref t, .ref b, .ref e, .ref m, .ref dg, .int (zI kp)])), cP e qe (hi c), aP E qe c, cP eo qo (hi x), aP E qo x, (hd, .inr (0, [.ref f1, .ref f2, .ref f3, .ref f4])), cP f1 q1 (hi u1), aP E q1 u1, cP f2 q2 (hi u2), aP E q2 u2, cP f3 q3 (hi u3), aP E q3 u3, cP f4 q4 (hi u4), aP E q4 u4, cP ft qt (hi y), aP E qt y, cP bb qbb (hi y), aP E qbb y]) C (c_X1_solution E l he ep eb er bb tg pa eo ei least ke) gX2_renew_X1_solution rfl (by decide +kernel) rfl (by decide) dX2_renew_29 rfl (Nat.le_of_ble_eq_true rfl) rfl rfl [18, 6] [0, 1, 2, 3, 4, 5, 7, 8, 9, 10, 11, 12, 13, 14, 15, 16, 17, 19, 20, 21, 22] rfl rfl (by decide) (fun r_29 w_29 h_29 => ?_)
    obtain ⟨hr29, rfl⟩ := h_29
    refine g_eq (ws' := [(hf, .inr (2, [.ref ft, .ref fb, .int (zI 1)])), cP fb qb (hi tb), aP E qb tb, (hp, .inr (6, [.ref t, .ref b, .ref e, .ref m, .ref dg, .int (zI kp)])), cP e qe (hi c), aP E qe c, cP eo qo (hi x), aP E qo x, (hd, .inr (0, [.ref f1, .ref f2, .ref f3, .ref f4])), cP f1 q1 (hi u1), aP E q1 u1, cP f2 q2 (hi u2), aP E q2 u2, cP f3 q3 (hi u3), aP E q3 u3, cP f4 q4 (hi u4), aP E q4 u4, cP ft qt (hi y), aP E qt y, cP bb qbb (hi y), aP E qbb y, (he, .inr (1, [.ref ep, .ref eb, .ref er, .ref bb, .ref tg, .ref pa, .int (zI least), .int (zI ke)])), (er, .inr (3, [.ref eo, .ref ei]))]) rfl rfl rfl ?_
    rw [hr29]
    refine g_callV (n := 1) (wr := [(hf, .inr (2, [.ref ft, .ref fb, .int (zI 1)])), cP fb qb (hi tb), aP E qb tb, (hp, .inr (6, [.ref t, .ref b, .ref e, .ref m, .ref dg, .int (zI kp)])), cP e qe (hi c), aP E qe c, (hd, .inr (0, [.ref f1, .ref f2, .ref f3, .ref f4])), cP f1 q1 (hi u1), aP E q1 u1, cP f2 q2 (hi u2), aP E q2 u2, cP f3 q3 (hi u3), aP E q3 u3, cP f4 q4 (hi u4), aP E q4 u4, cP bb qbb (hi y), aP E qbb y, (he, .inr (1, [.ref ep, .ref eb, .ref er, .ref bb, .ref tg, .ref pa, .int (zI least), .int (zI ke)])), (er, .inr (3, [.ref eo, .ref ei]))]) C (c_X4_multiplyBy E l ft qt eo qo y x hS1.2.2.2.2 hS1.2.2.2.1 hy hx hxy) gX2_renew_X4_multiplyBy rfl (by decide +kernel) rfl (by decide) dX2_renew_32 rfl (Nat.le_of_ble_eq_true rfl) rfl rfl [17, 18, 6, 7] [0, 1, 2, 3, 4, 5, 8, 9, 10, 11, 12, 13, 14, 15, 16, 19, 20, 21, 22] rfl rfl (by decide) (fun w_32 h_32 => ?_)
    obtain rfl := h_32
    refine g_eq (ws' := [(hf, .inr (2, [.ref ft, .ref fb, .int (zI 1)])), cP fb qb (hi tb), aP E qb tb, (hp, .inr (6, [.ref t, .ref b, .ref e, .ref m, .ref dg, .int (zI kp)])), cP e qe (hi c), aP E qe c, (hd, .inr (0, [.ref f1, .ref f2, .ref f3, .ref f4])), cP f1 q1 (hi u1), aP E q1 u1, cP f2 q2 (hi u2), aP E q2 u2, cP f3 q3 (hi u3), aP E q3 u3, cP f4 q4 (hi u4), aP E q4 u4, cP bb qbb (hi y), aP E qbb y, (he, .inr (1, [.ref ep, .ref eb, .ref er, .ref bb, .ref tg, .ref pa, .int (zI least), .int (zI ke)])), (er, .inr (3, [.ref eo, .ref ei])), cP ft qt (hi (conv y x)), aP E qt (conv y x), cP eo qo (hi x), aP E qo x]) rfl rfl rfl ?_
    refine g_aload_n C dX2_renew_35 0 rfl ?_
    refine g_get C 0 rfl rfl 1 (by decide) in_X2_renew_X2 lk_X2_renew_bottom rfl dX2_renew_36 ?_
    refine g_aload_n C dX2_renew_39 1 rfl ?_
    refine g_iconst C dX2_renew_40 ?_
    refine g_callVr (n := 1) (wr := [(hf, .inr (2, [.ref ft, .ref fb, .int (zI 1)])), cP fb qb (hi tb), aP E qb tb, cP e qe (hi c), aP E qe c, (hd, .inr (0, [.ref f1, .ref f2, .ref f3, .ref f4])), cP f1 q1 (hi u1), aP E q1 u1, cP f2 q2 (hi u2), aP E q2 u2, cP f3 q3 (hi u3), aP E q3 u3, cP f4 q4 (hi u4), aP E q4 u4, cP bb qbb (hi y), aP E qbb y, (he, .inr (1, [.ref ep, .ref eb, .ref er, .ref bb, .ref tg, .ref pa, .int (zI least), .int (zI ke)])), (er, .inr (3, [.ref eo, .ref ei])), cP ft qt (hi (conv y x)), aP E qt (conv y x), cP eo qo (hi x), aP E qo x]) C (c_X6_part E l hp t b e m dg kp 2 (by omega) (by omega)) gX2_renew_X6_part rfl (by decide +kernel) rfl (by decide) dX2_renew_41 rfl (Nat.le_of_ble_eq_true rfl) rfl rfl [3] [0, 1, 2, 4, 5, 6, 7, 8, 9, 10, 11, 12, 13, 14, 15, 16, 17, 18, 19, 20, 21, 22] rfl rfl (by decide) (fun r_41 w_41 h_41 => ?_)
    obtain ⟨hr41, rfl⟩ := h_41
    refine g_eq (ws' := [(hf, .inr (2, [.ref ft, .ref fb, .int (zI 1)])), cP fb qb (hi tb), aP E qb tb, cP e qe (hi c), aP E qe c, (hd, .inr (0, [.ref f1, .ref f2, .ref f3, .ref f4])), cP f1 q1 (hi u1), aP E q1 u1, cP f2 q2 (hi u2), aP E q2 u2, cP f3 q3 (hi u3), aP E q3 u3, cP f4 q4 (hi u4), aP E q4 u4, cP bb qbb (hi y), aP E qbb y, (he, .inr (1, [.ref ep, .ref eb, .ref er, .ref bb, .ref tg, .ref pa, .int (zI least), .int (zI ke)])), (er, .inr (3, [.ref eo, .ref ei])), cP ft qt (hi (conv y x)), aP E qt (conv y x), cP eo qo (hi x), aP E qo x, (hp, .inr (6, [.ref t, .ref b, .ref e, .ref m, .ref dg, .int (zI kp)]))]) rfl rfl rfl ?_
    rw [hr41, if_neg (by decide), if_neg (by decide)]
    refine g_callV (n := 1) (wr := [(hf, .inr (2, [.ref ft, .ref fb, .int (zI 1)])), (hd, .inr (0, [.ref f1, .ref f2, .ref f3, .ref f4])), cP f1 q1 (hi u1), aP E q1 u1, cP f2 q2 (hi u2), aP E q2 u2, cP f3 q3 (hi u3), aP E q3 u3, cP f4 q4 (hi u4), aP E q4 u4, cP bb qbb (hi y), aP E qbb y, (he, .inr (1, [.ref ep, .ref eb, .ref er, .ref bb, .ref tg, .ref pa, .int (zI least), .int (zI ke)])), (er, .inr (3, [.ref eo, .ref ei])), cP ft qt (hi (conv y x)), aP E qt (conv y x), cP eo qo (hi x), aP E qo x, (hp, .inr (6, [.ref t, .ref b, .ref e, .ref m, .ref dg, .int (zI kp)]))]) C (c_X4_copyFrom E l fb qb e qe tb c hS1.2.1 hS1.2.2.1) gX2_renew_X4_copyFrom rfl (by decide +kernel) rfl (by decide) dX2_renew_44 rfl (Nat.le_of_ble_eq_true rfl) rfl rfl [1, 2, 3, 4] [0, 5, 6, 7, 8, 9, 10, 11, 12, 13, 14, 15, 16, 17, 18, 19, 20, 21, 22] rfl rfl (by decide) (fun w_44 h_44 => ?_)
    obtain rfl := h_44
    refine g_eq (ws' := [(hf, .inr (2, [.ref ft, .ref fb, .int (zI 1)])), (hd, .inr (0, [.ref f1, .ref f2, .ref f3, .ref f4])), cP f1 q1 (hi u1), aP E q1 u1, cP f2 q2 (hi u2), aP E q2 u2, cP f3 q3 (hi u3), aP E q3 u3, cP f4 q4 (hi u4), aP E q4 u4, cP bb qbb (hi y), aP E qbb y, (he, .inr (1, [.ref ep, .ref eb, .ref er, .ref bb, .ref tg, .ref pa, .int (zI least), .int (zI ke)])), (er, .inr (3, [.ref eo, .ref ei])), cP ft qt (hi (conv y x)), aP E qt (conv y x), cP eo qo (hi x), aP E qo x, (hp, .inr (6, [.ref t, .ref b, .ref e, .ref m, .ref dg, .int (zI kp)])), cP fb qb (hi c), aP E qb c, cP e qe (hi c), aP E qe c]) rfl rfl rfl ?_
    refine g_aload_n C dX2_renew_47 3 rfl ?_
    refine g_aload_n C dX2_renew_48 0 rfl ?_
    refine g_get C 0 rfl rfl 0 (by decide) in_X2_renew_X2 lk_X2_renew_top rfl dX2_renew_49 ?_
    refine g_aload_n C dX2_renew_52 0 rfl ?_
    refine g_get C 0 rfl rfl 1 (by decide) in_X2_renew_X2 lk_X2_renew_bottom rfl dX2_renew_53 ?_
    refine g_callVr (n := 2) (wr := [(hf, .inr (2, [.ref ft, .ref fb, .int (zI 1)])), cP bb qbb (hi y), aP E qbb y, (he, .inr (1, [.ref ep, .ref eb, .ref er, .ref bb, .ref tg, .ref pa, .int (zI least), .int (zI ke)])), (er, .inr (3, [.ref eo, .ref ei])), cP eo qo (hi x), aP E qo x, (hp, .inr (6, [.ref t, .ref b, .ref e, .ref m, .ref dg, .int (zI kp)])), cP e qe (hi c), aP E qe c]) C (c_X0_commonDivisor E l hd f1 q1 f2 q2 f3 q3 f4 q4 ft qt fb qb u1 u2 u3 u4 (conv y x) c hSu.1 hSu.2.1 hSu.2.2.1 hSu.2.2.2 oS hS1.2.2.1) gX2_renew_X0_commonDivisor rfl (by decide +kernel) rfl (by decide) dX2_renew_56 rfl (Nat.le_of_ble_eq_true rfl) rfl rfl [1, 2, 3, 4, 5, 6, 7, 8, 9, 14, 15, 19, 20] [0, 10, 11, 12, 13, 16, 17, 18, 21, 22] rfl rfl (by decide) (fun r_56 w_56 h_56 => ?_)
    obtain ⟨hr56, z1, z2, z3, ⟨hz1, hz2, hz3⟩, rfl⟩ := h_56
    refine g_eq (ws' := [(hf, .inr (2, [.ref ft, .ref fb, .int (zI 1)])), cP bb qbb (hi y), aP E qbb y, (he, .inr (1, [.ref ep, .ref eb, .ref er, .ref bb, .ref tg, .ref pa, .int (zI least), .int (zI ke)])), (er, .inr (3, [.ref eo, .ref ei])), cP eo qo (hi x), aP E qo x, (hp, .inr (6, [.ref t, .ref b, .ref e, .ref m, .ref dg, .int (zI kp)])), cP e qe (hi c), aP E qe c, (hd, .inr (0, [.ref f1, .ref f2, .ref f3, .ref f4])), cP f1 q1 (hi z1), aP E q1 z1, cP f2 q2 (hi z2), aP E q2 z2, cP f3 q3 (hi z3), aP E q3 z3, cP f4 q4 (hi (cdg y x c)), aP E q4 (cdg y x c), cP ft qt (hi (conv y x)), aP E qt (conv y x), cP fb qb (hi c), aP E qb c]) rfl rfl rfl ?_
    rw [hr56]
    refine g_astore C [(4, .ref f4), (0, .ref hf), (1, .ref hp), (2, .ref he), (3, .ref hd)] dX2_renew_59 (by decide) rfl ?_
    refine g_aload_n C dX2_renew_61 4 rfl ?_
    refine g_aload_n C dX2_renew_62 1 rfl ?_
    refine g_get C 0 rfl rfl 0 (by decide) in_X2_renew_X2 lk_X2_renew_top rfl dX2_renew_63 ?_
    refine g_aload C dX2_renew_66 0 rfl ?_
    refine g_callV (n := 2) (wr := [(hf, .inr (2, [.ref ft, .ref fb, .int (zI 1)])), cP bb qbb (hi y), aP E qbb y, (he, .inr (1, [.ref ep, .ref eb, .ref er, .ref bb, .ref tg, .ref pa, .int (zI least), .int (zI ke)])), (er, .inr (3, [.ref eo, .ref ei])), cP eo qo (hi x), aP E qo x, (hp, .inr (6, [.ref t, .ref b, .ref e, .ref m, .ref dg, .int (zI kp)])), cP e qe (hi c), aP E qe c, cP f1 q1 (hi z1), aP E q1 z1, cP f2 q2 (hi z2), aP E q2 z2, cP fb qb (hi c), aP E qb c]) C (c_X0_divideOut E l hd f1 f2 f3 q3 f4 ft qt f4 q4 z3 (conv y x) (cdg y x c) hz3 oS og.1 og.2.1.pos) gX2_renew_X0_divideOut rfl (by decide +kernel) rfl (by decide) dX2_renew_68 rfl (Nat.le_of_ble_eq_true rfl) rfl rfl [10, 15, 16, 19, 20, 17, 18] [0, 1, 2, 3, 4, 5, 6, 7, 8, 9, 11, 12, 13, 14, 21, 22] rfl rfl (by decide) (fun w_68 h_68 => ?_)
    obtain rfl := h_68
    refine g_eq (ws' := [(hf, .inr (2, [.ref ft, .ref fb, .int (zI 1)])), cP bb qbb (hi y), aP E qbb y, (he, .inr (1, [.ref ep, .ref eb, .ref er, .ref bb, .ref tg, .ref pa, .int (zI least), .int (zI ke)])), (er, .inr (3, [.ref eo, .ref ei])), cP eo qo (hi x), aP E qo x, (hp, .inr (6, [.ref t, .ref b, .ref e, .ref m, .ref dg, .int (zI kp)])), cP e qe (hi c), aP E qe c, cP f1 q1 (hi z1), aP E q1 z1, cP f2 q2 (hi z2), aP E q2 z2, cP fb qb (hi c), aP E qb c, (hd, .inr (0, [.ref f1, .ref f2, .ref f3, .ref f4])), cP f3 q3 (hi (quo (conv y x) (cdg y x c))), aP E q3 (quo (conv y x) (cdg y x c)), cP ft qt (hi (cTop y x c)), aP E qt (cTop y x c), cP f4 q4 (hi (cdg y x c)), aP E q4 (cdg y x c)]) rfl rfl rfl ?_
    refine g_aload_n C dX2_renew_71 4 rfl ?_
    refine g_aload_n C dX2_renew_72 1 rfl ?_
    refine g_get C 0 rfl rfl 1 (by decide) in_X2_renew_X2 lk_X2_renew_bottom rfl dX2_renew_73 ?_
    refine g_aload C dX2_renew_76 0 rfl ?_
    refine g_callV (n := 2) (wr := [(hf, .inr (2, [.ref ft, .ref fb, .int (zI 1)])), cP bb qbb (hi y), aP E qbb y, (he, .inr (1, [.ref ep, .ref eb, .ref er, .ref bb, .ref tg, .ref pa, .int (zI least), .int (zI ke)])), (er, .inr (3, [.ref eo, .ref ei])), cP eo qo (hi x), aP E qo x, (hp, .inr (6, [.ref t, .ref b, .ref e, .ref m, .ref dg, .int (zI kp)])), cP e qe (hi c), aP E qe c, cP f1 q1 (hi z1), aP E q1 z1, cP f2 q2 (hi z2), aP E q2 z2, cP ft qt (hi (cTop y x c)), aP E qt (cTop y x c)]) C (c_X0_divideOut E l hd f1 f2 f3 q3 f4 fb qb f4 q4 (quo (conv y x) (cdg y x c)) c (cdg y x c) (quo_Sm oS og.1 og.2.1.pos) hS1.2.2.1 og.1 og.2.1.pos) gX2_renew_X0_divideOut rfl (by decide +kernel) rfl (by decide) dX2_renew_78 rfl (Nat.le_of_ble_eq_true rfl) rfl rfl [16, 17, 18, 14, 15, 21, 22] [0, 1, 2, 3, 4, 5, 6, 7, 8, 9, 10, 11, 12, 13, 19, 20] rfl rfl (by decide) (fun w_78 h_78 => ?_)
    obtain rfl := h_78
    refine g_eq (ws' := [(hf, .inr (2, [.ref ft, .ref fb, .int (zI 1)])), cP bb qbb (hi y), aP E qbb y, (he, .inr (1, [.ref ep, .ref eb, .ref er, .ref bb, .ref tg, .ref pa, .int (zI least), .int (zI ke)])), (er, .inr (3, [.ref eo, .ref ei])), cP eo qo (hi x), aP E qo x, (hp, .inr (6, [.ref t, .ref b, .ref e, .ref m, .ref dg, .int (zI kp)])), cP e qe (hi c), aP E qe c, cP f1 q1 (hi z1), aP E q1 z1, cP f2 q2 (hi z2), aP E q2 z2, cP ft qt (hi (cTop y x c)), aP E qt (cTop y x c), (hd, .inr (0, [.ref f1, .ref f2, .ref f3, .ref f4])), cP f3 q3 (hi (quo c (cdg y x c))), aP E q3 (quo c (cdg y x c)), cP fb qb (hi (cBot y x c)), aP E qb (cBot y x c), cP f4 q4 (hi (cdg y x c)), aP E q4 (cdg y x c)]) rfl rfl rfl ?_
    refine g_wsub (ws' := [(hf, .inr (2, [.ref ft, .ref fb, .int (zI 1)])), cP ft qt (hi (cTop y x c)), aP E qt (cTop y x c), cP fb qb (hi (cBot y x c)), aP E qb (cBot y x c), (hp, .inr (6, [.ref t, .ref b, .ref e, .ref m, .ref dg, .int (zI kp)])), cP e qe (hi c), aP E qe c, (he, .inr (1, [.ref ep, .ref eb, .ref er, .ref bb, .ref tg, .ref pa, .int (zI least), .int (zI ke)])), (er, .inr (3, [.ref eo, .ref ei])), cP eo qo (hi x), aP E qo x, cP bb qbb (hi y), aP E qbb y, (hd, .inr (0, [.ref f1, .ref f2, .ref f3, .ref f4])), cP f1 q1 (hi z1), aP E q1 z1, cP f2 q2 (hi z2), aP E q2 z2, cP f3 q3 (hi (quo c (cdg y x c))), aP E q3 (quo c (cdg y x c)), cP f4 q4 (hi (cdg y x c)), aP E q4 (cdg y x c)]) C [0, 14, 15, 19, 20, 7, 8, 9, 3, 4, 5, 6, 1, 2, 16, 10, 11, 12, 13, 17, 18, 21, 22] (by decide) rfl rfl ?_
    exact hret _ _ _ _ _ dX2_renew_81 (by decide) (by decide) ⟨z1, z2, quo c (cdg y x c), cdg y x c, ⟨hz1, hz2, quo_Sm hS1.2.2.1 og.1 og.2.1.pos, og.1⟩, rfl⟩
  · rcases hk with hk | ⟨rfl, rfl, rfl⟩
    · exact absurd hk c_4
    · exact hret _ _ _ _ _ dX2_renew_7 (by decide) (by decide) ⟨u1, u2, u3, u4, hSu, rfl⟩
end
section
/-! cells in another order; pairs in any number; arrays of pairs -/
theorem P_mem {D : va_G} {cl : List vw_C} {ws : va_W} {H : Heap} : va_P D cl ws H ↔ ∀ q ∈ ws, va_at D cl q H := by
  constructor
  · intro h q hq
    obtain ⟨k, hk⟩ := List.mem_iff_getElem?.mp hq
    exact h k q hk
  · intro h k q hk
    exact h q (List.mem_of_getElem? hk)
theorem D_iff {A : Nat → Prop} {ws : va_W} : va_D A ws ↔ ws.Pairwise (fun p q => p.1 ≠ q.1) ∧ ∀ q ∈ ws, A q.1 := by
  constructor
  · intro h
    refine ⟨List.pairwise_iff_getElem.mpr (fun i j hi hj hij e => ?_), fun q hq => ?_⟩
    · have := h.1 i j _ _ (List.getElem?_eq_getElem hi) (List.getElem?_eq_getElem hj) e
      omega
    · obtain ⟨k, hk⟩ := List.mem_iff_getElem?.mp hq
      exact h.2 k q hk
  · intro h
    refine ⟨fun i j p q hi hj e => ?_, fun k q hk => h.2 q (List.mem_of_getElem? hk)⟩
    obtain ⟨i1, i2⟩ := List.getElem?_eq_some_iff.mp hi
    obtain ⟨j1, j2⟩ := List.getElem?_eq_some_iff.mp hj
    rcases Nat.lt_trichotomy i j with g | g | g
    · exact absurd (by rw [i2, j2]; exact e) (List.pairwise_iff_getElem.mp h.1 i j i1 j1 g)
    · exact g
    · exact absurd (by rw [i2, j2]; exact e.symm) (List.pairwise_iff_getElem.mp h.1 j i j1 i1 g)
theorem P_perm {D : va_G} {cl : List vw_C} {ws ws' : va_W} {H : Heap} (p : ws.Perm ws') (h : va_P D cl ws H) : va_P D cl ws' H := P_mem.mpr (fun q hq => P_mem.mp h q (p.mem_iff.mpr hq))
theorem D_perm {A : Nat → Prop} {ws ws' : va_W} (p : ws.Perm ws') (h : va_D A ws) : va_D A ws' := D_iff.mpr ⟨(p.pairwise_iff (fun h => Ne.symm h)).mp (D_iff.mp h).1, fun q hq => (D_iff.mp h).2 q (p.mem_iff.mpr hq)⟩
section GF
variable {G : Gt} {E : ev} {l : Launch} {R : Room} {y : MethodName} {cc : ByteArray} {nL : Nat} {Ts : List Cond} {ce so : Nat} {ws : va_W} {lv : Lv} {pc : Nat} {st : List Value}
theorem g_perm (C : Ok G E l R y cc nL Ts) {ws' : va_W} (h : ws.Perm ws') (k : G ce so ws' lv pc st) : G ce so ws lv pc st := by
  obtain ⟨p, e, s, m, args, below, meth, c, A, Q, tl, rfl, hr⟩ := C
  exact fun H locs ls hP hD hS hl => k H locs ls (P_perm (h.append_right tl) hP) (D_perm (h.append_right tl) hD) hS hl
theorem g_null (C : Ok G E l R y cc nL Ts) (hd : decode cc pc = .ok (.aconst_null, 1)) (k : G ce so ws lv (pc + 1) (.null :: st)) : G ce so ws lv pc st := by
  obtain ⟨p, e, s, m, args, below, meth, c, A, Q, tl, rfl, hx, hb, -⟩ := C
  exact fun H locs ls hP hD hS hl => lv_null hx hb hd (k H locs ls hP hD hS hl)
theorem g_aloadN (C : Ok G E l R y cc nL Ts) {k : Nat} (hd : decode cc pc = .ok (.aload k, 2)) (j : Nat) (hj : lv[j]? = some (k, .null)) (kk : G ce so ws lv (pc + 2) (.null :: st)) : G ce so ws lv pc st := by
  obtain ⟨p, e, s, m, args, below, meth, c, A, Q, tl, rfl, hx, hb, -⟩ := C
  exact fun H locs ls hP hD hS hl => lv_aloadN hx hb hd (lv_at hl j hj) (kk H locs ls hP hD hS hl)
theorem g_astoreN (C : Ok G E l R y cc nL Ts) {k : Nat} (lv' : Lv) (hd : decode cc pc = .ok (.astore k, 2)) (hn : k < nL) (hl : (k, Value.null) :: lv.filter (fun q => !(q.1 == k) && !(q.1 + 1 == k && q.2.category == 2)) = lv') (kk : G ce so ws lv' (pc + 2) st) : G ce so ws lv pc (.null :: st) := by
  obtain ⟨p, e, s, m, args, below, meth, c, A, Q, tl, rfl, hx, hb, -⟩ := C
  exact fun H locs ls hP hD hS h => lv_astoreN hx hb hd h hn hl (fun ls' h' => kk H locs ls' hP hD hS h')
theorem g_ifnonnull (C : Ok G E l R y cc nL Ts) {x : Nat} {off : Int} (tgt : Nat) (hd : decode cc pc = .ok (.ifnonnull off, 3)) (ht : (pc : Int) + off = (tgt : Int)) (k : G ce so ws lv tgt st) : G ce so ws lv pc (.ref x :: st) := by
  obtain ⟨p, e, s, m, args, below, meth, c, A, Q, tl, rfl, hx, hb, -⟩ := C
  exact fun H locs ls hP hD hS hl => lv_ifnonnull hx hb hd ht (k H locs ls hP hD hS hl)
theorem g_ifnonnullN (C : Ok G E l R y cc nL Ts) {off : Int} (hd : decode cc pc = .ok (.ifnonnull off, 3)) (k : G ce so ws lv (pc + 3) st) : G ce so ws lv pc (.null :: st) := by
  obtain ⟨p, e, s, m, args, below, meth, c, A, Q, tl, rfl, hx, hb, -⟩ := C
  exact fun H locs ls hP hD hS hl => lv_ifnonnullN hx hb hd (k H locs ls hP hD hS hl)
theorem g_alenQ (C : Ok G E l R y cc nL Ts) {a n : Nat} {f : Nat → Option Nat} (q0 : Nat) (ha : ws[q0]? = some (a, .inl (E.2.2.2.2, n, .inr (.inr (.inr (.inr f)))))) (hd : decode cc pc = .ok (.arraylength, 1)) (kk : G ce so ws lv (pc + 1) (.int (zI (n : Int)) :: st)) : G ce so ws lv pc (.ref a :: st) := by
  obtain ⟨p, e, s, m, args, below, meth, c, A, Q, tl, rfl, hx, hb, hml, hown, hnm, hts, hK, hA⟩ := C
  exact fun H locs ls hP hD hS hl => va_alen (ty := .object RX3) hx hb hK.1 hP q0 2 (tl_at ha) rfl (zI_nat n).symm hd (kk H locs ls hP hD hS hl)
theorem g_aald (C : Ok G E l R y cc nL Ts) {a n : Nat} {f : Nat → Option Nat} {x : Int} (q0 : Nat) (k : Nat) (ha : ws[q0]? = some (a, .inl (E.2.2.2.2, n, .inr (.inr (.inr (.inr f)))))) (hx0 : x = (k : Int)) (hk : k < n) (hn : n < 2147483648) (hd : decode cc pc = .ok (.aaload, 1)) (v : Value) (hv : va_rf (f k) = v) (kk : G ce so ws lv (pc + 1) (v :: st)) : G ce so ws lv pc (.int (zI x) :: .ref a :: st) := by
  obtain ⟨p, e, s, m, args, below, meth, c, A, Q, tl, rfl, hx, hb, hml, hown, hnm, hts, hK, hA⟩ := C
  subst hx0
  subst hv
  refine fun H locs ls hP hD hS hl => va_aldq (C := RX3) hx hb hK.1 hP q0 2 (tl_at ha) rfl (zI_in hk hn) hd ?_
  rw [zI_cl (by omega)]
  exact kk H locs ls hP hD hS hl
theorem g_aast (C : Ok G E l R y cc nL Ts) {a n v : Nat} {vs : List Value} {f : Nat → Option Nat} {x : Int} (ws' : va_W) (q0 qk : Nat) (k : Nat) (ha : ws[q0]? = some (a, .inl (E.2.2.2.2, n, .inr (.inr (.inr (.inr f)))))) (hv : ws[qk]? = some (v, .inr (3, vs))) (hx0 : x = (k : Int)) (hk : k < n) (hn : n < 2147483648) (hd : decode cc pc = .ok (.aastore, 1)) (hw : ws.set q0 (a, .inl (E.2.2.2.2, n, .inr (.inr (.inr (.inr (cset f k (some v))))))) = ws') (kk : G ce so ws' lv (pc + 1) st) : G ce so ws lv pc (.ref v :: .int (zI x) :: .ref a :: st) := by
  obtain ⟨p, e, s, m, args, below, meth, c, A, Q, tl, rfl, hx, hb, hml, hown, hnm, hts, hK, hA⟩ := C
  subst hx0
  subst hw
  refine fun H locs ls hP hD hS hl => va_astq (r := (RX3, TX3, 2)) hx hb hK.1 hP hD hS q0 2 qk 3 (tl_at ha) rfl (tl_at hv) rfl (zI_in hk hn) hd ?_
  rw [zI_cl (by omega), tl_set ha]
  exact fun H1 locs1 hP1 hD1 hS1 => kk H1 locs1 ls hP1 hD1 hS1 hl
theorem g_aastN (C : Ok G E l R y cc nL Ts) {a n : Nat} {f : Nat → Option Nat} {x : Int} (ws' : va_W) (q0 : Nat) (k : Nat) (ha : ws[q0]? = some (a, .inl (E.2.2.2.2, n, .inr (.inr (.inr (.inr f)))))) (hx0 : x = (k : Int)) (hk : k < n) (hn : n < 2147483648) (hd : decode cc pc = .ok (.aastore, 1)) (hw : ws.set q0 (a, .inl (E.2.2.2.2, n, .inr (.inr (.inr (.inr (cset f k none)))))) = ws') (kk : G ce so ws' lv (pc + 1) st) : G ce so ws lv pc (.null :: .int (zI x) :: .ref a :: st) := by
  obtain ⟨p, e, s, m, args, below, meth, c, A, Q, tl, rfl, hx, hb, hml, hown, hnm, hts, hK, hA⟩ := C
  subst hx0
  subst hw
  refine fun H locs ls hP hD hS hl => va_astqN (C := RX3) hx hb hK.1 hP hD hS q0 2 (tl_at ha) rfl (zI_in hk hn) hd ?_
  rw [zI_cl (by omega), tl_set ha]
  exact fun H1 locs1 hP1 hD1 hS1 => kk H1 locs1 ls hP1 hD1 hS1 hl
theorem g_anewa (C : Ok G E l R y cc nL Ts) {z : Int} {index : Nat} (N : Nat) (hcl : Cond.classLink y.cls index RX3 ∈ Ts) (hz : z = (N : Int)) (hN : N < 1000000) (hro : ce + 1 ≤ R.cells ∧ so + N ≤ R.slots) (hd : decode cc pc = .ok (.anewarray index, 3))
    (kk : ∀ q : Nat, G (ce + 1) (so + N) (ws ++ [(q, .inl (E.2.2.2.2, N, .inr (.inr (.inr (.inr (fun _ => none))))))]) lv (pc + 3) (.ref q :: st)) : G ce so ws lv pc (.int (zI z) :: st) := by
  obtain ⟨p, e, s, m, args, below, meth, c, A, Q, tl, rfl, hx, hb, hml, hown, hnm, hts, hK, hA⟩ := C
  subst hz
  refine fun H locs ls hP hD hS hl => va_newq (C := RX3) (N' := N) hx hb hown (hts _ hcl) hK.2.2 hK.1 hP hD hS hA (fun h => by rw [← zI_0, zI_lt (by omega) (by omega) (by omega) (by omega)] at h; omega) (zI_cl (by omega)) (by omega) hro.1 hro.2 hd (fun q cA H1 hK1 hP1 hD1 hS1 => ?_)
  obtain ⟨k1, c1, -, -, -, e1⟩ := (hK1.2 3 (cA, .object RX3) rfl).2
  obtain ⟨k2, c2, -, -, -, e2⟩ := (hK.1.2 2 (E.2.2.2.2, .object RX3) rfl).2
  cases Option.some.inj (e1.symm.trans e2)
  exact kk q H1 locs ls (P_new hP1) (D_new hD1) hS1 hl
end GF
/-- the cells of pair j: the pair, its origin, its image -/
def grp (E : ev) (F : Nat → Nat × Nat × Nat × Nat × Nat) (o i : Nat → Po) (j : Nat) : va_W := [((F j).1, .inr (3, [.ref (F j).2.1, .ref (F j).2.2.2.1])), cP (F j).2.1 (F j).2.2.1 (hi (o j)), aP E (F j).2.2.1 (o j), cP (F j).2.2.2.1 (F j).2.2.2.2 (hi (i j)), aP E (F j).2.2.2.2 (i j)]
def fam (E : ev) (F : Nat → Nat × Nat × Nat × Nat × Nat) (o i : Nat → Po) (js : List Nat) : va_W := js.flatMap (grp E F o i)
theorem fam_pick {E : ev} {F : Nat → Nat × Nat × Nat × Nat × Nat} {o i : Nat → Po} {js : List Nat} {j : Nat} (h : j ∈ js) : (fam E F o i js).Perm (grp E F o i j ++ fam E F o i (js.erase j)) := by
  have p := (List.perm_cons_erase h).flatMap_right (grp E F o i)
  exact p
theorem fam_congr {E : ev} {F : Nat → Nat × Nat × Nat × Nat × Nat} {o i o' i' : Nat → Po} {js : List Nat} (h : ∀ j ∈ js, o j = o' j ∧ i j = i' j) : fam E F o i js = fam E F o' i' js := by
  unfold fam
  induction js with
  | nil => rfl
  | cons a t ih =>
    rw [List.flatMap_cons, List.flatMap_cons, ih (fun j hj => h j (List.mem_cons_of_mem _ hj))]
    have h1 := h a List.mem_cons_self
    unfold grp
    rw [h1.1, h1.2]
theorem fam_in {E : ev} {F : Nat → Nat × Nat × Nat × Nat × Nat} {o i : Nat → Po} {js : List Nat} {j p1 p2 p3 p4 p5 : Nat} {X : va_W} (h : j ∈ js) (hF : F j = (p1, p2, p3, p4, p5)) : (X ++ fam E F o i js).Perm ((X ++ [(p1, .inr (3, [.ref p2, .ref p4])), cP p2 p3 (hi (o j)), aP E p3 (o j), cP p4 p5 (hi (i j)), aP E p5 (i j)]) ++ fam E F o i (js.erase j)) := by
  have p := (fam_pick (E := E) (F := F) (o := o) (i := i) h).append_left X
  have e : grp E F o i j = [(p1, .inr (3, [.ref p2, .ref p4])), cP p2 p3 (hi (o j)), aP E p3 (o j), cP p4 p5 (hi (i j)), aP E p5 (i j)] := by unfold grp; rw [hF]
  rw [e, ← List.append_assoc] at p
  exact p
/-- a pair's image and origin lowered by the kept ones: n powers left -/
def low (kx : Nat → Option Nat) (o i : Nat → Po) : Nat → Po → Po → Po × Po
  | 0, y, x => (y, x)
  | n + 1, y, x => if y n = 0 then low kx o i n y x else match kx n with
    | none => (y, x)
    | some j => low kx o i n (am y (-(y n)) (i j) 0) (am x (-(y n)) (o j) 0)
def lowr (kx : Nat → Option Nat) (o i : Nat → Po) (y x : Po) : Po × Po := low kx o i (hi y + 1).toNat y x
theorem low_0 {kx : Nat → Option Nat} {o i : Nat → Po} {n : Nat} {y x : Po} (h : y n = 0) : low kx o i (n + 1) y x = low kx o i n y x := by rw [low, if_pos h]
theorem low_n {kx : Nat → Option Nat} {o i : Nat → Po} {n : Nat} {y x : Po} (h : y n ≠ 0) (hk : kx n = none) : low kx o i (n + 1) y x = (y, x) := by rw [low, if_neg h, hk]
theorem low_s {kx : Nat → Option Nat} {o i : Nat → Po} {n j : Nat} {y x : Po} (h : y n ≠ 0) (hk : kx n = some j) : low kx o i (n + 1) y x = low kx o i n (am y (-(y n)) (i j) 0) (am x (-(y n)) (o j) 0) := by rw [low, if_neg h, hk]
/-- what is kept: the pair at a power has that highest power, with 1 there -/
def KpOk (kx : Nat → Option Nat) (o i : Nat → Po) (js : List Nat) : Prop := ∀ p : Nat, p < 33 → ∀ j : Nat, kx p = some j → j ∈ js ∧ hi (i j) = (p : Int) ∧ i j p = 1 ∧ Sm (i j) ∧ Sm (o j)
theorem low_Sm {kx : Nat → Option Nat} {o i : Nat → Po} {js : List Nat} (hk : KpOk kx o i js) : ∀ (n : Nat) (y x : Po), n ≤ 33 → Sm y → Sm x → Sm (low kx o i n y x).1 ∧ Sm (low kx o i n y x).2
  | 0, y, x, _, hy, hx => ⟨hy, hx⟩
  | n + 1, y, x, hn, hy, hx => by
    by_cases h : y n = 0
    · rw [low_0 h]; exact low_Sm hk n y x (by omega) hy hx
    · cases e : kx n with
      | none => rw [low_n h e]; exact ⟨hy, hx⟩
      | some j =>
        rw [low_s h e]
        have := hk n (by omega) j e
        exact low_Sm hk n _ _ (by omega) (am_Sm hy (fun j9 h9 => this.2.2.2.1 j9 (by omega))) (am_Sm hx (fun j9 h9 => this.2.2.2.2 j9 (by omega)))
end
section
/-- the power n^k -/
def mono (k : Nat) : Po := cset (con 0) k 1
theorem mono_Sm {k : Nat} (h : k < 33) : Sm (mono k) := Sm_set (Sm_con 0) h 1
theorem in_X1_fill_X3 : ∀ w ∈ u_ws RX3 TX3 2, w ∈ wsX1_fill := by decide +kernel
theorem in_X1_fill_X1 : ∀ w ∈ u_ws RX1 TX1 8, w ∈ wsX1_fill := by decide +kernel
theorem lk_X1_fill_origin : Cond.fieldLink yX1_fill.cls 50 (TX3 0).1 (TX3 0).2.1 (TX3 0).2.2.1 ∈ wsX1_fill := by decide +kernel
theorem lk_X1_fill_image : Cond.fieldLink yX1_fill.cls 65 (TX3 1).1 (TX3 1).2.1 (TX3 1).2.2.1 ∈ wsX1_fill := by decide +kernel
theorem lk_X1_fill_topGrown : Cond.fieldLink yX1_fill.cls 32 (TX1 4).1 (TX1 4).2.1 (TX1 4).2.2.1 ∈ wsX1_fill := by decide +kernel
theorem lk_X1_fill_bottomBefore : Cond.fieldLink yX1_fill.cls 28 (TX1 3).1 (TX1 3).2.1 (TX1 3).2.2.1 ∈ wsX1_fill := by decide +kernel
theorem lk_X1_fill_placeAfter : Cond.fieldLink yX1_fill.cls 35 (TX1 5).1 (TX1 5).2.1 (TX1 5).2.2.1 ∈ wsX1_fill := by decide +kernel
set_option maxHeartbeats 4000000 in
set_option maxRecDepth 100000 in
theorem c_X1_fill (E : ev) (l : Launch) (he ep eb er bb tg pa : Nat) (least ke : Int) (pp po qpo pi qpi qbb qtg qpa : Nat) (x y b t a : Po) (k : Nat) (hS : Sm x ∧ Sm y ∧ Sm b ∧ Sm t ∧ Sm a) (hk : k < 33) (hb : hi b + (k : Int) < 33) (ht : 0 ≤ hi t) (ha : 0 ≤ hi a) (hta : hi t + hi a < 33) : Mv E l yX1_fill wsX1_fill { frames := 2, cells := 0, slots := 0, locals := 60 } [.ref he, .ref pp, .int (zI (k : Int))] [(he, .inr (1, [.ref ep, .ref eb, .ref er, .ref bb, .ref tg, .ref pa, .int (zI least), .int (zI ke)])), (pp, .inr (3, [.ref po, .ref pi])), cP po qpo (hi x), aP E qpo x, cP pi qpi (hi y), aP E qpi y, cP bb qbb (hi b), aP E qbb b, cP tg qtg (hi t), aP E qtg t, cP pa qpa (hi a), aP E qpa a] (fun w => w = [(he, .inr (1, [.ref ep, .ref eb, .ref er, .ref bb, .ref tg, .ref pa, .int (zI least), .int (zI ke)])), (pp, .inr (3, [.ref po, .ref pi])), cP po qpo (hi (mono k)), aP E qpo (mono k), cP pi qpi (hi (am t 32002 b k)), aP E qpi (am t 32002 b k), cP bb qbb (hi b), aP E qbb b, cP tg qtg (hi (conv t a)), aP E qtg (conv t a), cP pa qpa (hi a), aP E qpa a]) 0 0 := by
  refine enter_v (cc := cX1_fill) (nL := 3) (by decide) rfl (Nat.le_of_ble_eq_true rfl) (fun G C hret => ?_)
  show G 0 0 [(he, .inr (1, [.ref ep, .ref eb, .ref er, .ref bb, .ref tg, .ref pa, .int (zI least), .int (zI ke)])), (pp, .inr (3, [.ref po, .ref pi])), cP po qpo (hi x), aP E qpo x, cP pi qpi (hi y), aP E qpi y, cP bb qbb (hi b), aP E qbb b, cP tg qtg (hi t), aP E qtg t, cP pa qpa (hi a), aP E qpa a] [(0, .ref he), (1, .ref pp), (2, .int (zI (k : Int)))] 0 []
  refine g_aload_n C dX1_fill_0 1 rfl ?_
  refine g_get C 1 rfl rfl 0 (by decide) in_X1_fill_X3 lk_X1_fill_origin rfl dX1_fill_1 ?_
  refine g_iconst C dX1_fill_4 ?_
  refine g_callV (n := 1) (wr := [(he, .inr (1, [.ref ep, .ref eb, .ref er, .ref bb, .ref tg, .ref pa, .int (zI least), .int (zI ke)])), (pp, .inr (3, [.ref po, .ref pi])), cP pi qpi (hi y), aP E qpi y, cP bb qbb (hi b), aP E qbb b, cP tg qtg (hi t), aP E qtg t, cP pa qpa (hi a), aP E qpa a]) C (c_X4_becomeNumber E l po qpo x 0 hS.1) gX1_fill_X4_becomeNumber rfl (by decide +kernel) rfl (by decide) dX1_fill_5 rfl (Nat.le_of_ble_eq_true rfl) rfl rfl [2, 3] [0, 1, 4, 5, 6, 7, 8, 9, 10, 11] rfl rfl (by decide) (fun w_5 h_5 => ?_)
  obtain rfl := h_5
  refine g_eq (ws' := [(he, .inr (1, [.ref ep, .ref eb, .ref er, .ref bb, .ref tg, .ref pa, .int (zI least), .int (zI ke)])), (pp, .inr (3, [.ref po, .ref pi])), cP pi qpi (hi y), aP E qpi y, cP bb qbb (hi b), aP E qbb b, cP tg qtg (hi t), aP E qtg t, cP pa qpa (hi a), aP E qpa a, cP po qpo (hi (con 0)), aP E qpo (con 0)]) rfl rfl rfl ?_
  refine g_aload_n C dX1_fill_8 1 rfl ?_
  refine g_get C 1 rfl rfl 0 (by decide) in_X1_fill_X3 lk_X1_fill_origin rfl dX1_fill_9 ?_
  refine g_iload_n C dX1_fill_12 2 rfl ?_
  refine g_iconst C dX1_fill_13 ?_
  refine g_callV (n := 2) (wr := [(he, .inr (1, [.ref ep, .ref eb, .ref er, .ref bb, .ref tg, .ref pa, .int (zI least), .int (zI ke)])), (pp, .inr (3, [.ref po, .ref pi])), cP pi qpi (hi y), aP E qpi y, cP bb qbb (hi b), aP E qbb b, cP tg qtg (hi t), aP E qtg t, cP pa qpa (hi a), aP E qpa a]) C (c_X4_setNumber E l po qpo (con 0) k 1 (Sm_con 0) hk) gX1_fill_X4_setNumber rfl (by decide +kernel) rfl (by decide) dX1_fill_14 rfl (Nat.le_of_ble_eq_true rfl) rfl rfl [10, 11] [0, 1, 2, 3, 4, 5, 6, 7, 8, 9] rfl rfl (by decide) (fun w_14 h_14 => ?_)
  obtain rfl := h_14
  refine g_eq (ws' := [(he, .inr (1, [.ref ep, .ref eb, .ref er, .ref bb, .ref tg, .ref pa, .int (zI least), .int (zI ke)])), (pp, .inr (3, [.ref po, .ref pi])), cP pi qpi (hi y), aP E qpi y, cP bb qbb (hi b), aP E qbb b, cP tg qtg (hi t), aP E qtg t, cP pa qpa (hi a), aP E qpa a, cP po qpo (hi (mono k)), aP E qpo (mono k)]) rfl rfl rfl ?_
  refine g_aload_n C dX1_fill_17 1 rfl ?_
  refine g_get C 1 rfl rfl 1 (by decide) in_X1_fill_X3 lk_X1_fill_image rfl dX1_fill_18 ?_
  refine g_aload_n C dX1_fill_21 0 rfl ?_
  refine g_get C 0 rfl rfl 4 (by decide) in_X1_fill_X1 lk_X1_fill_topGrown rfl dX1_fill_22 ?_
  refine g_callV (n := 1) (wr := [(he, .inr (1, [.ref ep, .ref eb, .ref er, .ref bb, .ref tg, .ref pa, .int (zI least), .int (zI ke)])), (pp, .inr (3, [.ref po, .ref pi])), cP bb qbb (hi b), aP E qbb b, cP pa qpa (hi a), aP E qpa a, cP po qpo (hi (mono k)), aP E qpo (mono k)]) C (c_X4_copyFrom E l pi qpi tg qtg y t hS.2.1 hS.2.2.2.1) gX1_fill_X4_copyFrom rfl (by decide +kernel) rfl (by decide) dX1_fill_25 rfl (Nat.le_of_ble_eq_true rfl) rfl rfl [2, 3, 6, 7] [0, 1, 4, 5, 8, 9, 10, 11] rfl rfl (by decide) (fun w_25 h_25 => ?_)
  obtain rfl := h_25
  refine g_eq (ws' := [(he, .inr (1, [.ref ep, .ref eb, .ref er, .ref bb, .ref tg, .ref pa, .int (zI least), .int (zI ke)])), (pp, .inr (3, [.ref po, .ref pi])), cP bb qbb (hi b), aP E qbb b, cP pa qpa (hi a), aP E qpa a, cP po qpo (hi (mono k)), aP E qpo (mono k), cP pi qpi (hi t), aP E qpi t, cP tg qtg (hi t), aP E qtg t]) rfl rfl rfl ?_
  refine g_aload_n C dX1_fill_28 1 rfl ?_
  refine g_get C 1 rfl rfl 1 (by decide) in_X1_fill_X3 lk_X1_fill_image rfl dX1_fill_29 ?_
  refine g_sipush C dX1_fill_32 rfl ?_
  refine g_aload_n C dX1_fill_35 0 rfl ?_
  refine g_get C 0 rfl rfl 3 (by decide) in_X1_fill_X1 lk_X1_fill_bottomBefore rfl dX1_fill_36 ?_
  refine g_iload_n C dX1_fill_39 2 rfl ?_
  refine g_callV (n := 3) (wr := [(he, .inr (1, [.ref ep, .ref eb, .ref er, .ref bb, .ref tg, .ref pa, .int (zI least), .int (zI ke)])), (pp, .inr (3, [.ref po, .ref pi])), cP pa qpa (hi a), aP E qpa a, cP po qpo (hi (mono k)), aP E qpo (mono k), cP tg qtg (hi t), aP E qtg t]) C (c_X4_addMultiple E l pi qpi bb qbb t b 32002 k hS.2.2.2.1 hS.2.2.1 hb) gX1_fill_X4_addMultiple rfl (by decide +kernel) rfl (by decide) dX1_fill_40 rfl (Nat.le_of_ble_eq_true rfl) rfl rfl [8, 9, 2, 3] [0, 1, 4, 5, 6, 7, 10, 11] rfl rfl (by decide) (fun w_40 h_40 => ?_)
  obtain rfl := h_40
  refine g_eq (ws' := [(he, .inr (1, [.ref ep, .ref eb, .ref er, .ref bb, .ref tg, .ref pa, .int (zI least), .int (zI ke)])), (pp, .inr (3, [.ref po, .ref pi])), cP pa qpa (hi a), aP E qpa a, cP po qpo (hi (mono k)), aP E qpo (mono k), cP tg qtg (hi t), aP E qtg t, cP pi qpi (hi (am t 32002 b k)), aP E qpi (am t 32002 b k), cP bb qbb (hi b), aP E qbb b]) rfl rfl rfl ?_
  refine g_aload_n C dX1_fill_43 0 rfl ?_
  refine g_get C 0 rfl rfl 4 (by decide) in_X1_fill_X1 lk_X1_fill_topGrown rfl dX1_fill_44 ?_
  refine g_aload_n C dX1_fill_47 0 rfl ?_
  refine g_get C 0 rfl rfl 5 (by decide) in_X1_fill_X1 lk_X1_fill_placeAfter rfl dX1_fill_48 ?_
  refine g_callV (n := 1) (wr := [(he, .inr (1, [.ref ep, .ref eb, .ref er, .ref bb, .ref tg, .ref pa, .int (zI least), .int (zI ke)])), (pp, .inr (3, [.ref po, .ref pi])), cP po qpo (hi (mono k)), aP E qpo (mono k), cP pi qpi (hi (am t 32002 b k)), aP E qpi (am t 32002 b k), cP bb qbb (hi b), aP E qbb b]) C (c_X4_multiplyBy E l tg qtg pa qpa t a hS.2.2.2.1 hS.2.2.2.2 ht ha hta) gX1_fill_X4_multiplyBy rfl (by decide +kernel) rfl (by decide) dX1_fill_51 rfl (Nat.le_of_ble_eq_true rfl) rfl rfl [6, 7, 2, 3] [0, 1, 4, 5, 8, 9, 10, 11] rfl rfl (by decide) (fun w_51 h_51 => ?_)
  obtain rfl := h_51
  refine g_eq (ws' := [(he, .inr (1, [.ref ep, .ref eb, .ref er, .ref bb, .ref tg, .ref pa, .int (zI least), .int (zI ke)])), (pp, .inr (3, [.ref po, .ref pi])), cP po qpo (hi (mono k)), aP E qpo (mono k), cP pi qpi (hi (am t 32002 b k)), aP E qpi (am t 32002 b k), cP bb qbb (hi b), aP E qbb b, cP tg qtg (hi (conv t a)), aP E qtg (conv t a), cP pa qpa (hi a), aP E qpa a]) rfl rfl rfl ?_
  exact hret _ _ _ _ _ dX1_fill_54 (by decide) (by decide) rfl
/-- a pair behind 'keep' -/
def kpc (y a : Po) : Po := if hi y < 0 then a else sc a (ivq (nm y (hi y)))
theorem in_X1_keep_X3 : ∀ w ∈ u_ws RX3 TX3 2, w ∈ wsX1_keep := by decide +kernel
theorem in_X1_keep_X1 : ∀ w ∈ u_ws RX1 TX1 8, w ∈ wsX1_keep := by decide +kernel
theorem lk_X1_keep_image : Cond.fieldLink yX1_keep.cls 65 (TX3 1).1 (TX3 1).2.1 (TX3 1).2.2.1 ∈ wsX1_keep := by decide +kernel
theorem lk_X1_keep_byHighest : Cond.fieldLink yX1_keep.cls 19 (TX1 1).1 (TX1 1).2.1 (TX1 1).2.2.1 ∈ wsX1_keep := by decide +kernel
theorem lk_X1_keep_origin : Cond.fieldLink yX1_keep.cls 50 (TX3 0).1 (TX3 0).2.1 (TX3 0).2.2.1 ∈ wsX1_keep := by decide +kernel
set_option maxHeartbeats 4000000 in
set_option maxRecDepth 100000 in
theorem c_X1_keep (E : ev) (l : Launch) (he ep eb er bb tg pa : Nat) (least ke : Int) (pp po qpo pi qpi : Nat) (x y : Po) (bh : Nat → Option Nat) (hS : Sm x ∧ Sm y) : Mv E l yX1_keep wsX1_keep { frames := 2, cells := 0, slots := 0, locals := 60 } [.ref he, .ref pp] [(he, .inr (1, [.ref ep, .ref eb, .ref er, .ref bb, .ref tg, .ref pa, .int (zI least), .int (zI ke)])), (eb, .inl (E.2.2.2.2, 33, .inr (.inr (.inr (.inr bh))))), (pp, .inr (3, [.ref po, .ref pi])), cP po qpo (hi x), aP E qpo x, cP pi qpi (hi y), aP E qpi y] (fun w => w = [(he, .inr (1, [.ref ep, .ref eb, .ref er, .ref bb, .ref tg, .ref pa, .int (zI least), .int (zI ke)])), (eb, .inl (E.2.2.2.2, 33, .inr (.inr (.inr (.inr (if hi y < 0 then bh else cset bh (hi y).toNat (some pp))))))), (pp, .inr (3, [.ref po, .ref pi])), cP po qpo (hi (kpc y x)), aP E qpo (kpc y x), cP pi qpi (hi (kpc y y)), aP E qpi (kpc y y)]) 0 0 := by
  refine enter_v (cc := cX1_keep) (nL := 4) (by decide) rfl (Nat.le_of_ble_eq_true rfl) (fun G C hret => ?_)
  show G 0 0 [(he, .inr (1, [.ref ep, .ref eb, .ref er, .ref bb, .ref tg, .ref pa, .int (zI least), .int (zI ke)])), (eb, .inl (E.2.2.2.2, 33, .inr (.inr (.inr (.inr bh))))), (pp, .inr (3, [.ref po, .ref pi])), cP po qpo (hi x), aP E qpo x, cP pi qpi (hi y), aP E qpi y] [(0, .ref he), (1, .ref pp)] 0 []
  have hlo := hi_lo y
  refine g_aload_n C dX1_keep_0 1 rfl ?_
  refine g_get C 2 rfl rfl 1 (by decide) in_X1_keep_X3 lk_X1_keep_image rfl dX1_keep_1 ?_
  refine g_callVi (n := 0) (wr := [(he, .inr (1, [.ref ep, .ref eb, .ref er, .ref bb, .ref tg, .ref pa, .int (zI least), .int (zI ke)])), (eb, .inl (E.2.2.2.2, 33, .inr (.inr (.inr (.inr bh))))), (pp, .inr (3, [.ref po, .ref pi])), cP po qpo (hi x), aP E qpo x]) C (c_X4_highest E l pi qpi y) gX1_keep_X4_highest rfl (by decide +kernel) rfl (by decide) dX1_keep_4 rfl (Nat.le_of_ble_eq_true rfl) rfl rfl [5, 6] [0, 1, 2, 3, 4] rfl rfl (by decide) (fun r_4 w_4 h_4 => ?_)
  obtain ⟨rfl, rfl⟩ := h_4
  refine g_eq (ws' := [(he, .inr (1, [.ref ep, .ref eb, .ref er, .ref bb, .ref tg, .ref pa, .int (zI least), .int (zI ke)])), (eb, .inl (E.2.2.2.2, 33, .inr (.inr (.inr (.inr bh))))), (pp, .inr (3, [.ref po, .ref pi])), cP po qpo (hi x), aP E qpo x, cP pi qpi (hi y), aP E qpi y]) rfl rfl rfl ?_
  refine g_istore_n C [(2, .int (zI (hi y))), (0, .ref he), (1, .ref pp)] dX1_keep_7 (by decide) rfl ?_
  refine g_iload_n C dX1_keep_8 0 rfl ?_
  refine g_if_lt C 21 dX1_keep_9 (by decide) (by omega) (by omega) (fun c_9 => ?_) (fun c_9 => ?_)
  · exact hret _ _ _ _ _ dX1_keep_21 (by decide) (by decide) (by unfold kpc; first | rw [if_pos c_9, if_pos c_9, if_pos c_9] | rw [if_neg (show ¬ hi y < 0 by omega), if_neg (show ¬ hi y < 0 by omega), if_neg (show ¬ hi y < 0 by omega)])
  · refine g_iload_n C dX1_keep_12 0 rfl ?_
    refine g_aload_n C dX1_keep_13 1 rfl ?_
    refine g_get C 0 rfl rfl 1 (by decide) in_X1_keep_X1 lk_X1_keep_byHighest rfl dX1_keep_14 ?_
    refine g_alenQ C 1 rfl dX1_keep_17 ?_
    refine g_icmp_lt C 22 dX1_keep_18 (by decide) (by omega) (by omega) (by omega) (by omega) (fun c_18 => ?_) (fun c_18 => by exfalso; omega)
    refine g_aload_n C dX1_keep_22 2 rfl ?_
    refine g_get C 2 rfl rfl 1 (by decide) in_X1_keep_X3 lk_X1_keep_image rfl dX1_keep_23 ?_
    refine g_callVi (n := 0) (wr := [(he, .inr (1, [.ref ep, .ref eb, .ref er, .ref bb, .ref tg, .ref pa, .int (zI least), .int (zI ke)])), (eb, .inl (E.2.2.2.2, 33, .inr (.inr (.inr (.inr bh))))), (pp, .inr (3, [.ref po, .ref pi])), cP po qpo (hi x), aP E qpo x]) C (c_X4_leading E l pi qpi y hS.2) gX1_keep_X4_leading rfl (by decide +kernel) rfl (by decide) dX1_keep_26 rfl (Nat.le_of_ble_eq_true rfl) rfl rfl [5, 6] [0, 1, 2, 3, 4] rfl rfl (by decide) (fun r_26 w_26 h_26 => ?_)
    obtain ⟨rfl, rfl⟩ := h_26
    refine g_eq (ws' := [(he, .inr (1, [.ref ep, .ref eb, .ref er, .ref bb, .ref tg, .ref pa, .int (zI least), .int (zI ke)])), (eb, .inl (E.2.2.2.2, 33, .inr (.inr (.inr (.inr bh))))), (pp, .inr (3, [.ref po, .ref pi])), cP po qpo (hi x), aP E qpo x, cP pi qpi (hi y), aP E qpi y]) rfl rfl rfl ?_
    refine g_callSNi (n := 1) C (c_X7_inverse E l (nm y (hi y))) (by decide +kernel) gX1_keep_X7_inverse_n125 (by decide +kernel) rfl (by decide +kernel) rfl (by decide) dX1_keep_29 rfl (Nat.le_of_ble_eq_true rfl) (fun r_29 h_29 => ?_)
    obtain ⟨_, rfl, -⟩ := h_29
    refine g_istore_n C [(3, .int (zI ((ivq (nm y (hi y))).val : Int))), (2, .int (zI (hi y))), (0, .ref he), (1, .ref pp)] dX1_keep_32 (by decide) rfl ?_
    refine g_aload_n C dX1_keep_33 3 rfl ?_
    refine g_get C 2 rfl rfl 1 (by decide) in_X1_keep_X3 lk_X1_keep_image rfl dX1_keep_34 ?_
    refine g_iload_n C dX1_keep_37 0 rfl ?_
    refine g_callV (n := 1) (wr := [(he, .inr (1, [.ref ep, .ref eb, .ref er, .ref bb, .ref tg, .ref pa, .int (zI least), .int (zI ke)])), (eb, .inl (E.2.2.2.2, 33, .inr (.inr (.inr (.inr bh))))), (pp, .inr (3, [.ref po, .ref pi])), cP po qpo (hi x), aP E qpo x]) C (c_X4_scaleBy E l pi qpi y (ivq (nm y (hi y))) hS.2) gX1_keep_X4_scaleBy rfl (by decide +kernel) rfl (by decide) dX1_keep_38 rfl (Nat.le_of_ble_eq_true rfl) rfl rfl [5, 6] [0, 1, 2, 3, 4] rfl rfl (by decide) (fun w_38 h_38 => ?_)
    obtain rfl := h_38
    refine g_eq (ws' := [(he, .inr (1, [.ref ep, .ref eb, .ref er, .ref bb, .ref tg, .ref pa, .int (zI least), .int (zI ke)])), (eb, .inl (E.2.2.2.2, 33, .inr (.inr (.inr (.inr bh))))), (pp, .inr (3, [.ref po, .ref pi])), cP po qpo (hi x), aP E qpo x, cP pi qpi (hi (sc y (ivq (nm y (hi y))))), aP E qpi (sc y (ivq (nm y (hi y))))]) rfl rfl rfl ?_
    refine g_aload_n C dX1_keep_41 3 rfl ?_
    refine g_get C 2 rfl rfl 0 (by decide) in_X1_keep_X3 lk_X1_keep_origin rfl dX1_keep_42 ?_
    refine g_iload_n C dX1_keep_45 0 rfl ?_
    refine g_callV (n := 1) (wr := [(he, .inr (1, [.ref ep, .ref eb, .ref er, .ref bb, .ref tg, .ref pa, .int (zI least), .int (zI ke)])), (eb, .inl (E.2.2.2.2, 33, .inr (.inr (.inr (.inr bh))))), (pp, .inr (3, [.ref po, .ref pi])), cP pi qpi (hi (sc y (ivq (nm y (hi y))))), aP E qpi (sc y (ivq (nm y (hi y))))]) C (c_X4_scaleBy E l po qpo x (ivq (nm y (hi y))) hS.1) gX1_keep_X4_scaleBy rfl (by decide +kernel) rfl (by decide) dX1_keep_46 rfl (Nat.le_of_ble_eq_true rfl) rfl rfl [3, 4] [0, 1, 2, 5, 6] rfl rfl (by decide) (fun w_46 h_46 => ?_)
    obtain rfl := h_46
    refine g_eq (ws' := [(he, .inr (1, [.ref ep, .ref eb, .ref er, .ref bb, .ref tg, .ref pa, .int (zI least), .int (zI ke)])), (eb, .inl (E.2.2.2.2, 33, .inr (.inr (.inr (.inr bh))))), (pp, .inr (3, [.ref po, .ref pi])), cP pi qpi (hi (sc y (ivq (nm y (hi y))))), aP E qpi (sc y (ivq (nm y (hi y)))), cP po qpo (hi (sc x (ivq (nm y (hi y))))), aP E qpo (sc x (ivq (nm y (hi y))))]) rfl rfl rfl ?_
    refine g_aload_n C dX1_keep_49 2 rfl ?_
    refine g_get C 0 rfl rfl 1 (by decide) in_X1_keep_X1 lk_X1_keep_byHighest rfl dX1_keep_50 ?_
    refine g_iload_n C dX1_keep_53 1 rfl ?_
    refine g_aload_n C dX1_keep_54 3 rfl ?_
    refine g_aast C [(he, .inr (1, [.ref ep, .ref eb, .ref er, .ref bb, .ref tg, .ref pa, .int (zI least), .int (zI ke)])), (eb, .inl (E.2.2.2.2, 33, .inr (.inr (.inr (.inr (cset bh ((hi y).toNat) (some pp))))))), (pp, .inr (3, [.ref po, .ref pi])), cP pi qpi (hi (sc y (ivq (nm y (hi y))))), aP E qpi (sc y (ivq (nm y (hi y)))), cP po qpo (hi (sc x (ivq (nm y (hi y))))), aP E qpo (sc x (ivq (nm y (hi y))))] 1 2 ((hi y).toNat) rfl rfl (by omega) (by omega) (by decide) dX1_keep_55 rfl ?_
    refine g_wsub (ws' := [(he, .inr (1, [.ref ep, .ref eb, .ref er, .ref bb, .ref tg, .ref pa, .int (zI least), .int (zI ke)])), (eb, .inl (E.2.2.2.2, 33, .inr (.inr (.inr (.inr (cset bh ((hi y).toNat) (some pp))))))), (pp, .inr (3, [.ref po, .ref pi])), cP po qpo (hi (sc x (ivq (nm y (hi y))))), aP E qpo (sc x (ivq (nm y (hi y)))), cP pi qpi (hi (sc y (ivq (nm y (hi y))))), aP E qpi (sc y (ivq (nm y (hi y))))]) C [0, 1, 2, 5, 6, 3, 4] (by decide) rfl rfl ?_
    exact hret _ _ _ _ _ dX1_keep_56 (by decide) (by decide) (by unfold kpc; first | rw [if_pos c_9, if_pos c_9, if_pos c_9] | rw [if_neg (show ¬ hi y < 0 by omega), if_neg (show ¬ hi y < 0 by omega), if_neg (show ¬ hi y < 0 by omega)])
theorem in_X1_start_X3 : ∀ w ∈ u_ws RX3 TX3 2, w ∈ wsX1_start := by decide +kernel
theorem in_X1_start_X1 : ∀ w ∈ u_ws RX1 TX1 8, w ∈ wsX1_start := by decide +kernel
theorem lk_X1_start_byHighest : Cond.fieldLink yX1_start.cls 19 (TX1 1).1 (TX1 1).2.1 (TX1 1).2.2.1 ∈ wsX1_start := by decide +kernel
theorem lk_X1_start_remaining : Cond.fieldLink yX1_start.cls 23 (TX1 2).1 (TX1 2).2.1 (TX1 2).2.2.1 ∈ wsX1_start := by decide +kernel
theorem lk_X1_start_image : Cond.fieldLink yX1_start.cls 65 (TX3 1).1 (TX3 1).2.1 (TX3 1).2.2.1 ∈ wsX1_start := by decide +kernel
theorem lk_X1_start_origin : Cond.fieldLink yX1_start.cls 50 (TX3 0).1 (TX3 0).2.1 (TX3 0).2.2.1 ∈ wsX1_start := by decide +kernel
theorem lk_X1_start_bottomBefore : Cond.fieldLink yX1_start.cls 28 (TX1 3).1 (TX1 3).2.1 (TX1 3).2.2.1 ∈ wsX1_start := by decide +kernel
theorem lk_X1_start_topGrown : Cond.fieldLink yX1_start.cls 32 (TX1 4).1 (TX1 4).2.1 (TX1 4).2.2.1 ∈ wsX1_start := by decide +kernel
set_option maxHeartbeats 4000000 in
set_option maxRecDepth 100000 in
theorem c_X1_start (E : ev) (l : Launch) (he ep eb er bb tg pa : Nat) (least ke : Int) (qbb qtg eo qo ei qi hp t qt b qb e qe m dg : Nat) (kp : Int) (x y z g a bb0 c : Po) (bh : Nat → Option Nat) (hS : Sm x ∧ Sm y ∧ Sm z ∧ Sm g) (hSa : Sm a ∧ Sm bb0 ∧ Sm c) : Mv E l yX1_start wsX1_start { frames := 2, cells := 0, slots := 0, locals := 60 } [.ref he, .ref hp] [(he, .inr (1, [.ref ep, .ref eb, .ref er, .ref bb, .ref tg, .ref pa, .int (zI least), .int (zI ke)])), (eb, .inl (E.2.2.2.2, 33, .inr (.inr (.inr (.inr bh))))), (er, .inr (3, [.ref eo, .ref ei])), cP eo qo (hi x), aP E qo x, cP ei qi (hi y), aP E qi y, cP bb qbb (hi z), aP E qbb z, cP tg qtg (hi g), aP E qtg g, (hp, .inr (6, [.ref t, .ref b, .ref e, .ref m, .ref dg, .int (zI kp)])), cP t qt (hi a), aP E qt a, cP b qb (hi bb0), aP E qb bb0, cP e qe (hi c), aP E qe c] (fun w => ∃ bh2 : Nat → Option Nat, (∀ j : Nat, j < 33 → bh2 j = none) ∧ w = [(he, .inr (1, [.ref ep, .ref eb, .ref er, .ref bb, .ref tg, .ref pa, .int (zI least), .int (zI ke)])), (eb, .inl (E.2.2.2.2, 33, .inr (.inr (.inr (.inr bh2))))), (er, .inr (3, [.ref eo, .ref ei])), cP eo qo (hi (con 0)), aP E qo (con 0), cP ei qi (hi c), aP E qi c, cP bb qbb (hi (mvp bb0 32002)), aP E qbb (mvp bb0 32002), cP tg qtg (hi a), aP E qtg a, (hp, .inr (6, [.ref t, .ref b, .ref e, .ref m, .ref dg, .int (zI kp)])), cP t qt (hi a), aP E qt a, cP b qb (hi bb0), aP E qb bb0, cP e qe (hi c), aP E qe c]) 0 0 := by
  refine enter_v (cc := cX1_start) (nL := 3) (by decide) rfl (Nat.le_of_ble_eq_true rfl) (fun G C hret => ?_)
  show G 0 0 [(he, .inr (1, [.ref ep, .ref eb, .ref er, .ref bb, .ref tg, .ref pa, .int (zI least), .int (zI ke)])), (eb, .inl (E.2.2.2.2, 33, .inr (.inr (.inr (.inr bh))))), (er, .inr (3, [.ref eo, .ref ei])), cP eo qo (hi x), aP E qo x, cP ei qi (hi y), aP E qi y, cP bb qbb (hi z), aP E qbb z, cP tg qtg (hi g), aP E qtg g, (hp, .inr (6, [.ref t, .ref b, .ref e, .ref m, .ref dg, .int (zI kp)])), cP t qt (hi a), aP E qt a, cP b qb (hi bb0), aP E qb bb0, cP e qe (hi c), aP E qe c] [(0, .ref he), (1, .ref hp)] 0 []
  refine g_iconst C dX1_start_0 ?_
  refine g_istore_n C [(2, .int (zI 0)), (0, .ref he), (1, .ref hp)] dX1_start_1 (by decide) rfl ?_
  have lp_o : ∀ (n_o : Nat) (x9 : Int) (k : Nat) (f : Nat → Option Nat), (x9 = (k : Int)) → (k ≤ 33) → (∀ j : Nat, j < k → f j = none) → 33 - k < n_o → G 0 0 [(he, .inr (1, [.ref ep, .ref eb, .ref er, .ref bb, .ref tg, .ref pa, .int (zI least), .int (zI ke)])), (eb, .inl (E.2.2.2.2, 33, .inr (.inr (.inr (.inr f))))), (er, .inr (3, [.ref eo, .ref ei])), cP eo qo (hi x), aP E qo x, cP ei qi (hi y), aP E qi y, cP bb qbb (hi z), aP E qbb z, cP tg qtg (hi g), aP E qtg g, (hp, .inr (6, [.ref t, .ref b, .ref e, .ref m, .ref dg, .int (zI kp)])), cP t qt (hi a), aP E qt a, cP b qb (hi bb0), aP E qb bb0, cP e qe (hi c), aP E qe c] [(2, .int (zI x9)), (0, .ref he), (1, .ref hp)] 2 [] := by
    intro n_o
    induction n_o with
    | zero =>
      intro x9 k f hx hk hf hm_o
      exact absurd hm_o (by omega)
    | succ n_o ih_o =>
      intro x9 k f hx hk hf hm_o
      refine g_iload_n C dX1_start_2 0 rfl ?_
      refine g_aload_n C dX1_start_3 1 rfl ?_
      refine g_get C 0 rfl rfl 1 (by decide) in_X1_start_X1 lk_X1_start_byHighest rfl dX1_start_4 ?_
      refine g_alenQ C 1 rfl dX1_start_7 ?_
      refine g_icmp_ge C 24 dX1_start_8 (by decide) (by omega) (by omega) (by omega) (by omega) (fun c_8 => ?_) (fun c_8 => ?_)
      · refine g_aload_n C dX1_start_24 1 rfl ?_
        refine g_get C 0 rfl rfl 2 (by decide) in_X1_start_X1 lk_X1_start_remaining rfl dX1_start_25 ?_
        refine g_get C 2 rfl rfl 1 (by decide) in_X1_start_X3 lk_X1_start_image rfl dX1_start_28 ?_
        refine g_aload_n C dX1_start_31 2 rfl ?_
        refine g_iconst C dX1_start_32 ?_
        refine g_callVr (n := 1) (wr := [(he, .inr (1, [.ref ep, .ref eb, .ref er, .ref bb, .ref tg, .ref pa, .int (zI least), .int (zI ke)])), (eb, .inl (E.2.2.2.2, 33, .inr (.inr (.inr (.inr f))))), (er, .inr (3, [.ref eo, .ref ei])), cP eo qo (hi x), aP E qo x, cP ei qi (hi y), aP E qi y, cP bb qbb (hi z), aP E qbb z, cP tg qtg (hi g), aP E qtg g, cP t qt (hi a), aP E qt a, cP b qb (hi bb0), aP E qb bb0, cP e qe (hi c), aP E qe c]) C (c_X6_part E l hp t b e m dg kp 2 (by omega) (by omega)) gX1_start_X6_part rfl (by decide +kernel) rfl (by decide) dX1_start_33 rfl (Nat.le_of_ble_eq_true rfl) rfl rfl [11] [0, 1, 2, 3, 4, 5, 6, 7, 8, 9, 10, 12, 13, 14, 15, 16, 17] rfl rfl (by decide) (fun r_33 w_33 h_33 => ?_)
        obtain ⟨hr9, rfl⟩ := h_33
        refine g_eq (ws' := [(he, .inr (1, [.ref ep, .ref eb, .ref er, .ref bb, .ref tg, .ref pa, .int (zI least), .int (zI ke)])), (eb, .inl (E.2.2.2.2, 33, .inr (.inr (.inr (.inr f))))), (er, .inr (3, [.ref eo, .ref ei])), cP eo qo (hi x), aP E qo x, cP ei qi (hi y), aP E qi y, cP bb qbb (hi z), aP E qbb z, cP tg qtg (hi g), aP E qtg g, cP t qt (hi a), aP E qt a, cP b qb (hi bb0), aP E qb bb0, cP e qe (hi c), aP E qe c, (hp, .inr (6, [.ref t, .ref b, .ref e, .ref m, .ref dg, .int (zI kp)]))]) rfl rfl rfl ?_
        rw [hr9, if_neg (by decide), if_neg (by decide)]
        clear hr9
        refine g_callV (n := 1) (wr := [(he, .inr (1, [.ref ep, .ref eb, .ref er, .ref bb, .ref tg, .ref pa, .int (zI least), .int (zI ke)])), (eb, .inl (E.2.2.2.2, 33, .inr (.inr (.inr (.inr f))))), (er, .inr (3, [.ref eo, .ref ei])), cP eo qo (hi x), aP E qo x, cP bb qbb (hi z), aP E qbb z, cP tg qtg (hi g), aP E qtg g, cP t qt (hi a), aP E qt a, cP b qb (hi bb0), aP E qb bb0, (hp, .inr (6, [.ref t, .ref b, .ref e, .ref m, .ref dg, .int (zI kp)]))]) C (c_X4_copyFrom E l ei qi e qe y c hS.2.1 hSa.2.2) gX1_start_X4_copyFrom rfl (by decide +kernel) rfl (by decide) dX1_start_36 rfl (Nat.le_of_ble_eq_true rfl) rfl rfl [5, 6, 15, 16] [0, 1, 2, 3, 4, 7, 8, 9, 10, 11, 12, 13, 14, 17] rfl rfl (by decide) (fun w_36 h_36 => ?_)
        obtain rfl := h_36
        refine g_eq (ws' := [(he, .inr (1, [.ref ep, .ref eb, .ref er, .ref bb, .ref tg, .ref pa, .int (zI least), .int (zI ke)])), (eb, .inl (E.2.2.2.2, 33, .inr (.inr (.inr (.inr f))))), (er, .inr (3, [.ref eo, .ref ei])), cP eo qo (hi x), aP E qo x, cP bb qbb (hi z), aP E qbb z, cP tg qtg (hi g), aP E qtg g, cP t qt (hi a), aP E qt a, cP b qb (hi bb0), aP E qb bb0, (hp, .inr (6, [.ref t, .ref b, .ref e, .ref m, .ref dg, .int (zI kp)])), cP ei qi (hi c), aP E qi c, cP e qe (hi c), aP E qe c]) rfl rfl rfl ?_
        refine g_aload_n C dX1_start_39 1 rfl ?_
        refine g_get C 0 rfl rfl 2 (by decide) in_X1_start_X1 lk_X1_start_remaining rfl dX1_start_40 ?_
        refine g_get C 2 rfl rfl 0 (by decide) in_X1_start_X3 lk_X1_start_origin rfl dX1_start_43 ?_
        refine g_iconst C dX1_start_46 ?_
        refine g_callV (n := 1) (wr := [(he, .inr (1, [.ref ep, .ref eb, .ref er, .ref bb, .ref tg, .ref pa, .int (zI least), .int (zI ke)])), (eb, .inl (E.2.2.2.2, 33, .inr (.inr (.inr (.inr f))))), (er, .inr (3, [.ref eo, .ref ei])), cP bb qbb (hi z), aP E qbb z, cP tg qtg (hi g), aP E qtg g, cP t qt (hi a), aP E qt a, cP b qb (hi bb0), aP E qb bb0, (hp, .inr (6, [.ref t, .ref b, .ref e, .ref m, .ref dg, .int (zI kp)])), cP ei qi (hi c), aP E qi c, cP e qe (hi c), aP E qe c]) C (c_X4_becomeNumber E l eo qo x 0 hS.1) gX1_start_X4_becomeNumber rfl (by decide +kernel) rfl (by decide) dX1_start_47 rfl (Nat.le_of_ble_eq_true rfl) rfl rfl [3, 4] [0, 1, 2, 5, 6, 7, 8, 9, 10, 11, 12, 13, 14, 15, 16, 17] rfl rfl (by decide) (fun w_47 h_47 => ?_)
        obtain rfl := h_47
        refine g_eq (ws' := [(he, .inr (1, [.ref ep, .ref eb, .ref er, .ref bb, .ref tg, .ref pa, .int (zI least), .int (zI ke)])), (eb, .inl (E.2.2.2.2, 33, .inr (.inr (.inr (.inr f))))), (er, .inr (3, [.ref eo, .ref ei])), cP bb qbb (hi z), aP E qbb z, cP tg qtg (hi g), aP E qtg g, cP t qt (hi a), aP E qt a, cP b qb (hi bb0), aP E qb bb0, (hp, .inr (6, [.ref t, .ref b, .ref e, .ref m, .ref dg, .int (zI kp)])), cP ei qi (hi c), aP E qi c, cP e qe (hi c), aP E qe c, cP eo qo (hi (con 0)), aP E qo (con 0)]) rfl rfl rfl ?_
        refine g_aload_n C dX1_start_50 1 rfl ?_
        refine g_get C 0 rfl rfl 3 (by decide) in_X1_start_X1 lk_X1_start_bottomBefore rfl dX1_start_51 ?_
        refine g_aload_n C dX1_start_54 2 rfl ?_
        refine g_iconst C dX1_start_55 ?_
        refine g_callVr (n := 1) (wr := [(he, .inr (1, [.ref ep, .ref eb, .ref er, .ref bb, .ref tg, .ref pa, .int (zI least), .int (zI ke)])), (eb, .inl (E.2.2.2.2, 33, .inr (.inr (.inr (.inr f))))), (er, .inr (3, [.ref eo, .ref ei])), cP bb qbb (hi z), aP E qbb z, cP tg qtg (hi g), aP E qtg g, cP t qt (hi a), aP E qt a, cP b qb (hi bb0), aP E qb bb0, cP ei qi (hi c), aP E qi c, cP e qe (hi c), aP E qe c, cP eo qo (hi (con 0)), aP E qo (con 0)]) C (c_X6_part E l hp t b e m dg kp 1 (by omega) (by omega)) gX1_start_X6_part rfl (by decide +kernel) rfl (by decide) dX1_start_56 rfl (Nat.le_of_ble_eq_true rfl) rfl rfl [11] [0, 1, 2, 3, 4, 5, 6, 7, 8, 9, 10, 12, 13, 14, 15, 16, 17] rfl rfl (by decide) (fun r_56 w_56 h_56 => ?_)
        obtain ⟨hr9, rfl⟩ := h_56
        refine g_eq (ws' := [(he, .inr (1, [.ref ep, .ref eb, .ref er, .ref bb, .ref tg, .ref pa, .int (zI least), .int (zI ke)])), (eb, .inl (E.2.2.2.2, 33, .inr (.inr (.inr (.inr f))))), (er, .inr (3, [.ref eo, .ref ei])), cP bb qbb (hi z), aP E qbb z, cP tg qtg (hi g), aP E qtg g, cP t qt (hi a), aP E qt a, cP b qb (hi bb0), aP E qb bb0, cP ei qi (hi c), aP E qi c, cP e qe (hi c), aP E qe c, cP eo qo (hi (con 0)), aP E qo (con 0), (hp, .inr (6, [.ref t, .ref b, .ref e, .ref m, .ref dg, .int (zI kp)]))]) rfl rfl rfl ?_
        rw [hr9, if_neg (by decide), if_pos rfl]
        clear hr9
        refine g_callV (n := 1) (wr := [(he, .inr (1, [.ref ep, .ref eb, .ref er, .ref bb, .ref tg, .ref pa, .int (zI least), .int (zI ke)])), (eb, .inl (E.2.2.2.2, 33, .inr (.inr (.inr (.inr f))))), (er, .inr (3, [.ref eo, .ref ei])), cP tg qtg (hi g), aP E qtg g, cP t qt (hi a), aP E qt a, cP ei qi (hi c), aP E qi c, cP e qe (hi c), aP E qe c, cP eo qo (hi (con 0)), aP E qo (con 0), (hp, .inr (6, [.ref t, .ref b, .ref e, .ref m, .ref dg, .int (zI kp)]))]) C (c_X4_copyFrom E l bb qbb b qb z bb0 hS.2.2.1 hSa.2.1) gX1_start_X4_copyFrom rfl (by decide +kernel) rfl (by decide) dX1_start_59 rfl (Nat.le_of_ble_eq_true rfl) rfl rfl [3, 4, 9, 10] [0, 1, 2, 5, 6, 7, 8, 11, 12, 13, 14, 15, 16, 17] rfl rfl (by decide) (fun w_59 h_59 => ?_)
        obtain rfl := h_59
        refine g_eq (ws' := [(he, .inr (1, [.ref ep, .ref eb, .ref er, .ref bb, .ref tg, .ref pa, .int (zI least), .int (zI ke)])), (eb, .inl (E.2.2.2.2, 33, .inr (.inr (.inr (.inr f))))), (er, .inr (3, [.ref eo, .ref ei])), cP tg qtg (hi g), aP E qtg g, cP t qt (hi a), aP E qt a, cP ei qi (hi c), aP E qi c, cP e qe (hi c), aP E qe c, cP eo qo (hi (con 0)), aP E qo (con 0), (hp, .inr (6, [.ref t, .ref b, .ref e, .ref m, .ref dg, .int (zI kp)])), cP bb qbb (hi bb0), aP E qbb bb0, cP b qb (hi bb0), aP E qb bb0]) rfl rfl rfl ?_
        refine g_aload_n C dX1_start_62 1 rfl ?_
        refine g_get C 0 rfl rfl 3 (by decide) in_X1_start_X1 lk_X1_start_bottomBefore rfl dX1_start_63 ?_
        refine g_sipush C dX1_start_66 rfl ?_
        refine g_callV (n := 1) (wr := [(he, .inr (1, [.ref ep, .ref eb, .ref er, .ref bb, .ref tg, .ref pa, .int (zI least), .int (zI ke)])), (eb, .inl (E.2.2.2.2, 33, .inr (.inr (.inr (.inr f))))), (er, .inr (3, [.ref eo, .ref ei])), cP tg qtg (hi g), aP E qtg g, cP t qt (hi a), aP E qt a, cP ei qi (hi c), aP E qi c, cP e qe (hi c), aP E qe c, cP eo qo (hi (con 0)), aP E qo (con 0), (hp, .inr (6, [.ref t, .ref b, .ref e, .ref m, .ref dg, .int (zI kp)])), cP b qb (hi bb0), aP E qb bb0]) C (c_X4_moveBy E l bb qbb bb0 32002 hSa.2.1) gX1_start_X4_moveBy rfl (by decide +kernel) rfl (by decide) dX1_start_69 rfl (Nat.le_of_ble_eq_true rfl) rfl rfl [14, 15] [0, 1, 2, 3, 4, 5, 6, 7, 8, 9, 10, 11, 12, 13, 16, 17] rfl rfl (by decide) (fun w_69 h_69 => ?_)
        obtain rfl := h_69
        refine g_eq (ws' := [(he, .inr (1, [.ref ep, .ref eb, .ref er, .ref bb, .ref tg, .ref pa, .int (zI least), .int (zI ke)])), (eb, .inl (E.2.2.2.2, 33, .inr (.inr (.inr (.inr f))))), (er, .inr (3, [.ref eo, .ref ei])), cP tg qtg (hi g), aP E qtg g, cP t qt (hi a), aP E qt a, cP ei qi (hi c), aP E qi c, cP e qe (hi c), aP E qe c, cP eo qo (hi (con 0)), aP E qo (con 0), (hp, .inr (6, [.ref t, .ref b, .ref e, .ref m, .ref dg, .int (zI kp)])), cP b qb (hi bb0), aP E qb bb0, cP bb qbb (hi (mvp bb0 32002)), aP E qbb (mvp bb0 32002)]) rfl rfl rfl ?_
        refine g_aload_n C dX1_start_72 1 rfl ?_
        refine g_get C 0 rfl rfl 4 (by decide) in_X1_start_X1 lk_X1_start_topGrown rfl dX1_start_73 ?_
        refine g_aload_n C dX1_start_76 2 rfl ?_
        refine g_iconst C dX1_start_77 ?_
        refine g_callVr (n := 1) (wr := [(he, .inr (1, [.ref ep, .ref eb, .ref er, .ref bb, .ref tg, .ref pa, .int (zI least), .int (zI ke)])), (eb, .inl (E.2.2.2.2, 33, .inr (.inr (.inr (.inr f))))), (er, .inr (3, [.ref eo, .ref ei])), cP tg qtg (hi g), aP E qtg g, cP t qt (hi a), aP E qt a, cP ei qi (hi c), aP E qi c, cP e qe (hi c), aP E qe c, cP eo qo (hi (con 0)), aP E qo (con 0), cP b qb (hi bb0), aP E qb bb0, cP bb qbb (hi (mvp bb0 32002)), aP E qbb (mvp bb0 32002)]) C (c_X6_part E l hp t b e m dg kp 0 (by omega) (by omega)) gX1_start_X6_part rfl (by decide +kernel) rfl (by decide) dX1_start_78 rfl (Nat.le_of_ble_eq_true rfl) rfl rfl [13] [0, 1, 2, 3, 4, 5, 6, 7, 8, 9, 10, 11, 12, 14, 15, 16, 17] rfl rfl (by decide) (fun r_78 w_78 h_78 => ?_)
        obtain ⟨hr9, rfl⟩ := h_78
        refine g_eq (ws' := [(he, .inr (1, [.ref ep, .ref eb, .ref er, .ref bb, .ref tg, .ref pa, .int (zI least), .int (zI ke)])), (eb, .inl (E.2.2.2.2, 33, .inr (.inr (.inr (.inr f))))), (er, .inr (3, [.ref eo, .ref ei])), cP tg qtg (hi g), aP E qtg g, cP t qt (hi a), aP E qt a, cP ei qi (hi c), aP E qi c, cP e qe (hi c), aP E qe c, cP eo qo (hi (con 0)), aP E qo (con 0), cP b qb (hi bb0), aP E qb bb0, cP bb qbb (hi (mvp bb0 32002)), aP E qbb (mvp bb0 32002), (hp, .inr (6, [.ref t, .ref b, .ref e, .ref m, .ref dg, .int (zI kp)]))]) rfl rfl rfl ?_
        rw [hr9, if_pos rfl]
        clear hr9
        refine g_callV (n := 1) (wr := [(he, .inr (1, [.ref ep, .ref eb, .ref er, .ref bb, .ref tg, .ref pa, .int (zI least), .int (zI ke)])), (eb, .inl (E.2.2.2.2, 33, .inr (.inr (.inr (.inr f))))), (er, .inr (3, [.ref eo, .ref ei])), cP ei qi (hi c), aP E qi c, cP e qe (hi c), aP E qe c, cP eo qo (hi (con 0)), aP E qo (con 0), cP b qb (hi bb0), aP E qb bb0, cP bb qbb (hi (mvp bb0 32002)), aP E qbb (mvp bb0 32002), (hp, .inr (6, [.ref t, .ref b, .ref e, .ref m, .ref dg, .int (zI kp)]))]) C (c_X4_copyFrom E l tg qtg t qt g a hS.2.2.2 hSa.1) gX1_start_X4_copyFrom rfl (by decide +kernel) rfl (by decide) dX1_start_81 rfl (Nat.le_of_ble_eq_true rfl) rfl rfl [3, 4, 5, 6] [0, 1, 2, 7, 8, 9, 10, 11, 12, 13, 14, 15, 16, 17] rfl rfl (by decide) (fun w_81 h_81 => ?_)
        obtain rfl := h_81
        refine g_eq (ws' := [(he, .inr (1, [.ref ep, .ref eb, .ref er, .ref bb, .ref tg, .ref pa, .int (zI least), .int (zI ke)])), (eb, .inl (E.2.2.2.2, 33, .inr (.inr (.inr (.inr f))))), (er, .inr (3, [.ref eo, .ref ei])), cP ei qi (hi c), aP E qi c, cP e qe (hi c), aP E qe c, cP eo qo (hi (con 0)), aP E qo (con 0), cP b qb (hi bb0), aP E qb bb0, cP bb qbb (hi (mvp bb0 32002)), aP E qbb (mvp bb0 32002), (hp, .inr (6, [.ref t, .ref b, .ref e, .ref m, .ref dg, .int (zI kp)])), cP tg qtg (hi a), aP E qtg a, cP t qt (hi a), aP E qt a]) rfl rfl rfl ?_
        refine g_wsub (ws' := [(he, .inr (1, [.ref ep, .ref eb, .ref er, .ref bb, .ref tg, .ref pa, .int (zI least), .int (zI ke)])), (eb, .inl (E.2.2.2.2, 33, .inr (.inr (.inr (.inr f))))), (er, .inr (3, [.ref eo, .ref ei])), cP eo qo (hi (con 0)), aP E qo (con 0), cP ei qi (hi c), aP E qi c, cP bb qbb (hi (mvp bb0 32002)), aP E qbb (mvp bb0 32002), cP tg qtg (hi a), aP E qtg a, (hp, .inr (6, [.ref t, .ref b, .ref e, .ref m, .ref dg, .int (zI kp)])), cP t qt (hi a), aP E qt a, cP b qb (hi bb0), aP E qb bb0, cP e qe (hi c), aP E qe c]) C [0, 1, 2, 7, 8, 3, 4, 11, 12, 14, 15, 13, 16, 17, 9, 10, 5, 6] (by decide) rfl rfl ?_
        exact hret _ _ _ _ _ dX1_start_84 (by decide) (by decide) ⟨f, fun j hj => hf j (by omega), rfl⟩
      · refine g_aload_n C dX1_start_11 1 rfl ?_
        refine g_get C 0 rfl rfl 1 (by decide) in_X1_start_X1 lk_X1_start_byHighest rfl dX1_start_12 ?_
        refine g_iload_n C dX1_start_15 0 rfl ?_
        refine g_null C dX1_start_16 ?_
        refine g_aastN C [(he, .inr (1, [.ref ep, .ref eb, .ref er, .ref bb, .ref tg, .ref pa, .int (zI least), .int (zI ke)])), (eb, .inl (E.2.2.2.2, 33, .inr (.inr (.inr (.inr (cset f k none)))))), (er, .inr (3, [.ref eo, .ref ei])), cP eo qo (hi x), aP E qo x, cP ei qi (hi y), aP E qi y, cP bb qbb (hi z), aP E qbb z, cP tg qtg (hi g), aP E qtg g, (hp, .inr (6, [.ref t, .ref b, .ref e, .ref m, .ref dg, .int (zI kp)])), cP t qt (hi a), aP E qt a, cP b qb (hi bb0), aP E qb bb0, cP e qe (hi c), aP E qe c] 1 k rfl (by omega) (by omega) (by decide) dX1_start_17 rfl ?_
        refine g_iinc C [(2, .int (zI (x9 + 1))), (0, .ref he), (1, .ref hp)] dX1_start_18 0 rfl (by decide) rfl ?_
        refine g_goto C 2 dX1_start_21 (by decide) ?_
        exact ih_o (x9 + 1) (k + 1) (cset f k none) (by omega) (by omega) (fun j hj => by unfold cset; split; rfl; exact hf j (by omega)) (by omega)
  exact lp_o 34 0 0 bh rfl (by omega) (fun j hj => absurd hj (by omega)) (by omega)
end
section
theorem in_X1_lower_X3 : ∀ w ∈ u_ws RX3 TX3 2, w ∈ wsX1_lower := by decide +kernel
theorem in_X1_lower_X1 : ∀ w ∈ u_ws RX1 TX1 8, w ∈ wsX1_lower := by decide +kernel
theorem lk_X1_lower_image : Cond.fieldLink yX1_lower.cls 65 (TX3 1).1 (TX3 1).2.1 (TX3 1).2.2.1 ∈ wsX1_lower := by decide +kernel
theorem lk_X1_lower_byHighest : Cond.fieldLink yX1_lower.cls 19 (TX1 1).1 (TX1 1).2.1 (TX1 1).2.2.1 ∈ wsX1_lower := by decide +kernel
theorem lk_X1_lower_mn : Cond.methodLink yX1_lower.cls 109 Lib.Math.min.name ∈ wsX1_lower ∧ Cond.static Lib.Math.min.name ∈ wsX1_lower ∧ Cond.initialized "java/lang/Math" ∈ wsX1_lower ∧ Cond.code Lib.Math.min.name Lib.Math.min.code 2 (some .int) ∈ wsX1_lower := by decide +kernel
theorem lk_X1_lower_origin : Cond.fieldLink yX1_lower.cls 50 (TX3 0).1 (TX3 0).2.1 (TX3 0).2.2.1 ∈ wsX1_lower := by decide +kernel
set_option maxHeartbeats 4000000 in
set_option maxRecDepth 100000 in
theorem c_X1_lower (E : ev) (l : Launch) (he ep eb er bb tg pa : Nat) (least ke : Int) (pp po qpo pi qpi : Nat) (x y : Po) (bh kx : Nat → Option Nat) (F : Nat → Nat × Nat × Nat × Nat × Nat) (o i : Nat → Po) (js : List Nat) (hS : Sm x ∧ Sm y) (hbh : ∀ p : Nat, p < 33 → bh p = (kx p).map (fun j => (F j).1)) (hkp : KpOk kx o i js) : Mv E l yX1_lower wsX1_lower { frames := 2, cells := 0, slots := 0, locals := 60 } [.ref he, .ref pp] ([(he, .inr (1, [.ref ep, .ref eb, .ref er, .ref bb, .ref tg, .ref pa, .int (zI least), .int (zI ke)])), (eb, .inl (E.2.2.2.2, 33, .inr (.inr (.inr (.inr bh))))), (pp, .inr (3, [.ref po, .ref pi])), cP po qpo (hi x), aP E qpo x, cP pi qpi (hi y), aP E qpi y] ++ fam E F o i js) (fun w => w = [(he, .inr (1, [.ref ep, .ref eb, .ref er, .ref bb, .ref tg, .ref pa, .int (zI least), .int (zI ke)])), (eb, .inl (E.2.2.2.2, 33, .inr (.inr (.inr (.inr bh))))), (pp, .inr (3, [.ref po, .ref pi])), cP po qpo (hi ((lowr kx o i y x).2)), aP E qpo ((lowr kx o i y x).2), cP pi qpi (hi ((lowr kx o i y x).1)), aP E qpi ((lowr kx o i y x).1)] ++ fam E F o i js) 0 0 := by
  refine enter_v (cc := cX1_lower) (nL := 6) (by decide) rfl (Nat.le_of_ble_eq_true rfl) (fun G C hret => ?_)
  show G 0 0 ([(he, .inr (1, [.ref ep, .ref eb, .ref er, .ref bb, .ref tg, .ref pa, .int (zI least), .int (zI ke)])), (eb, .inl (E.2.2.2.2, 33, .inr (.inr (.inr (.inr bh))))), (pp, .inr (3, [.ref po, .ref pi])), cP po qpo (hi x), aP E qpo x, cP pi qpi (hi y), aP E qpi y] ++ fam E F o i js) [(0, .ref he), (1, .ref pp)] 0 []
  have hlo := hi_lo y
  refine g_in C (fun G2 C2 back2 => ?_)
  refine g_aload_n C2 dX1_lower_0 1 rfl ?_
  refine g_get C2 2 rfl rfl 1 (by decide) in_X1_lower_X3 lk_X1_lower_image rfl dX1_lower_1 ?_
  refine g_callVi (n := 0) (wr := [(he, .inr (1, [.ref ep, .ref eb, .ref er, .ref bb, .ref tg, .ref pa, .int (zI least), .int (zI ke)])), (eb, .inl (E.2.2.2.2, 33, .inr (.inr (.inr (.inr bh))))), (pp, .inr (3, [.ref po, .ref pi])), cP po qpo (hi x), aP E qpo x]) C2 (c_X4_highest E l pi qpi y) gX1_lower_X4_highest rfl (by decide +kernel) rfl (by decide) dX1_lower_4 rfl (Nat.le_of_ble_eq_true rfl) rfl rfl [5, 6] [0, 1, 2, 3, 4] rfl rfl (by decide) (fun r_4 w_4 h_4 => ?_)
  obtain ⟨rfl, rfl⟩ := h_4
  refine g_eq (ws' := [(he, .inr (1, [.ref ep, .ref eb, .ref er, .ref bb, .ref tg, .ref pa, .int (zI least), .int (zI ke)])), (eb, .inl (E.2.2.2.2, 33, .inr (.inr (.inr (.inr bh))))), (pp, .inr (3, [.ref po, .ref pi])), cP po qpo (hi x), aP E qpo x, cP pi qpi (hi y), aP E qpi y]) rfl rfl rfl ?_
  refine g_aload_n C2 dX1_lower_7 0 rfl ?_
  refine g_get C2 0 rfl rfl 1 (by decide) in_X1_lower_X1 lk_X1_lower_byHighest rfl dX1_lower_8 ?_
  refine g_alenQ C2 1 rfl dX1_lower_11 ?_
  refine g_iconst C2 dX1_lower_12 ?_
  refine g_isub C2 dX1_lower_13 ?_
  refine g_mmin C2 lk_X1_lower_mn dX1_lower_14 (by omega) (by omega) (by omega) (by omega) (by decide) (Nat.le_of_ble_eq_true rfl) ?_
  refine g_istore_n C2 [(2, .int (zI (min (hi y) (((33 : Nat) : Int) - 1)))), (0, .ref he), (1, .ref pp)] dX1_lower_17 (by decide) rfl ?_
  refine g_iload_n C2 dX1_lower_18 0 rfl ?_
  refine g_istore_n C2 [(3, .int (zI (min (hi y) (((33 : Nat) : Int) - 1)))), (2, .int (zI (min (hi y) (((33 : Nat) : Int) - 1)))), (0, .ref he), (1, .ref pp)] dX1_lower_19 (by decide) rfl ?_
  have lp_o : ∀ (n_o : Nat) (x9 : Int) (n : Nat) (yy : Po) (xx : Po), (x9 = (n : Int) - 1) → (n ≤ 33) → (low kx o i n yy xx = lowr kx o i y x) → (Sm yy) → (Sm xx) → n < n_o → G 0 0 ([(he, .inr (1, [.ref ep, .ref eb, .ref er, .ref bb, .ref tg, .ref pa, .int (zI least), .int (zI ke)])), (eb, .inl (E.2.2.2.2, 33, .inr (.inr (.inr (.inr bh))))), (pp, .inr (3, [.ref po, .ref pi])), cP po qpo (hi xx), aP E qpo xx, cP pi qpi (hi yy), aP E qpi yy] ++ fam E F o i js) [(3, .int (zI x9)), (0, .ref he), (1, .ref pp)] 20 [] := by
    intro n_o
    induction n_o with
    | zero =>
      intro x9 n yy xx hx hn hl hSy hSx hm_o
      exact absurd hm_o (by omega)
    | succ n_o ih_o =>
      intro x9 n yy xx hx hn hl hSy hSx hm_o
      refine g_in C (fun G_o C_o back_o => ?_)
      refine g_iload_n C_o dX1_lower_20 0 rfl ?_
      refine g_if_lt C_o 95 dX1_lower_21 (by decide) (by omega) (by omega) (fun c_21 => ?_) (fun c_21 => ?_)
      · have e0 : (yy, xx) = lowr kx o i y x := by rw [← hl, show n = 0 by omega]; rfl
        refine back_o _ _ _ _ _ _ ?_
        have e1 : yy = (lowr kx o i y x).1 := congrArg Prod.fst e0
        have e2 : xx = (lowr kx o i y x).2 := congrArg Prod.snd e0
        exact hret _ _ _ _ _ dX1_lower_95 (by decide) (by decide) (by rw [e1, e2])
      · obtain ⟨n2, rfl⟩ : ∃ n2, n = n2 + 1 := ⟨n - 1, by omega⟩
        refine g_aload_n C_o dX1_lower_24 2 rfl ?_
        refine g_get C_o 2 rfl rfl 1 (by decide) in_X1_lower_X3 lk_X1_lower_image rfl dX1_lower_25 ?_
        refine g_iload_n C_o dX1_lower_28 0 rfl ?_
        refine g_callVi (n := 1) (wr := [(he, .inr (1, [.ref ep, .ref eb, .ref er, .ref bb, .ref tg, .ref pa, .int (zI least), .int (zI ke)])), (eb, .inl (E.2.2.2.2, 33, .inr (.inr (.inr (.inr bh))))), (pp, .inr (3, [.ref po, .ref pi])), cP po qpo (hi xx), aP E qpo xx]) C_o (c_X4_number E l pi qpi yy x9 hSy (by omega) (by omega)) gX1_lower_X4_number rfl (by decide +kernel) rfl (by decide) dX1_lower_29 rfl (Nat.le_of_ble_eq_true rfl) rfl rfl [5, 6] [0, 1, 2, 3, 4] rfl rfl (by decide) (fun r_29 w_29 h_29 => ?_)
        obtain ⟨rfl, rfl⟩ := h_29
        refine g_eq (ws' := [(he, .inr (1, [.ref ep, .ref eb, .ref er, .ref bb, .ref tg, .ref pa, .int (zI least), .int (zI ke)])), (eb, .inl (E.2.2.2.2, 33, .inr (.inr (.inr (.inr bh))))), (pp, .inr (3, [.ref po, .ref pi])), cP po qpo (hi xx), aP E qpo xx, cP pi qpi (hi yy), aP E qpi yy]) rfl rfl rfl ?_
        rw [show nm yy x9 = yy n2 by rw [show x9 = (n2 : Int) by omega, nm_nat]]
        refine g_istore C_o [(4, .int (zI ((yy n2).val : Int))), (3, .int (zI x9)), (0, .ref he), (1, .ref pp)] dX1_lower_32 (by decide) rfl ?_
        refine g_iload C_o dX1_lower_34 0 rfl ?_
        refine g_if_eq C_o 89 dX1_lower_36 (by decide) (by omega) (by omega) (fun c_36 => ?_) (fun c_36 => ?_)
        · refine g_iinc C_o [(3, .int (zI (x9 + (-1)))), (4, .int (zI ((yy n2).val : Int))), (0, .ref he), (1, .ref pp)] dX1_lower_89 1 rfl (by decide) rfl ?_
          refine g_goto C_o 20 dX1_lower_92 (by decide) ?_
          refine g_lsub C_o [0, 2, 3] rfl ?_
          refine back_o _ _ _ _ _ _ ?_
          exact ih_o (x9 + -1) n2 yy xx (by omega) (by omega) (by rw [← hl, low_0 (fq0 c_36)]) hSy hSx (by omega)
        · refine g_aload_n C_o dX1_lower_39 2 rfl ?_
          refine g_get C_o 0 rfl rfl 1 (by decide) in_X1_lower_X1 lk_X1_lower_byHighest rfl dX1_lower_40 ?_
          refine g_iload_n C_o dX1_lower_43 1 rfl ?_
          rcases hkx : kx n2 with _ | j
          · have e0 : (yy, xx) = lowr kx o i y x := by rw [← hl, low_n (fqn c_36) hkx]
            refine g_aald C_o 1 n2 rfl (by omega) (by omega) (by decide) dX1_lower_44 .null (by rw [hbh n2 (by omega), hkx]; rfl) ?_
            refine g_astoreN C_o [(5, .null), (4, .int (zI ((yy n2).val : Int))), (3, .int (zI x9)), (0, .ref he), (1, .ref pp)] dX1_lower_45 (by decide) rfl ?_
            refine g_aloadN C_o dX1_lower_47 0 rfl ?_
            refine g_ifnonnullN C_o dX1_lower_49 ?_
            refine back_o _ _ _ _ _ _ ?_
            have e1 : yy = (lowr kx o i y x).1 := congrArg Prod.fst e0
            have e2 : xx = (lowr kx o i y x).2 := congrArg Prod.snd e0
            exact hret _ _ _ _ _ dX1_lower_52 (by decide) (by decide) (by rw [e1, e2])
          · obtain ⟨p1, p2, p3, p4, p5, hF⟩ : ∃ p1 p2 p3 p4 p5, F j = (p1, p2, p3, p4, p5) := ⟨_, _, _, _, _, rfl⟩
            have hkj := hkp n2 (by omega) j hkx
            refine g_aald C_o 1 n2 rfl (by omega) (by omega) (by decide) dX1_lower_44 (.ref p1) (by rw [hbh n2 (by omega), hkx]; show va_rf (some (F j).1) = _; rw [hF]; rfl) ?_
            refine g_astore C_o [(5, .ref p1), (4, .int (zI ((yy n2).val : Int))), (3, .int (zI x9)), (0, .ref he), (1, .ref pp)] dX1_lower_45 (by decide) rfl ?_
            refine g_aload C_o dX1_lower_47 0 rfl ?_
            refine g_ifnonnull C_o 53 dX1_lower_49 (by decide) ?_
            refine back_o _ _ _ _ _ _ ?_
            refine g_perm C (fam_in hkj.1 hF) ?_
            refine g_in C (fun G3 C3 back3 => ?_)
            refine g_eq (ws' := [(he, .inr (1, [.ref ep, .ref eb, .ref er, .ref bb, .ref tg, .ref pa, .int (zI least), .int (zI ke)])), (eb, .inl (E.2.2.2.2, 33, .inr (.inr (.inr (.inr bh))))), (pp, .inr (3, [.ref po, .ref pi])), cP po qpo (hi xx), aP E qpo xx, cP pi qpi (hi yy), aP E qpi yy, (p1, .inr (3, [.ref p2, .ref p4])), cP p2 p3 (hi (o j)), aP E p3 (o j), cP p4 p5 (hi (i j)), aP E p5 (i j)]) rfl rfl rfl ?_
            refine g_aload_n C3 dX1_lower_53 4 rfl ?_
            refine g_get C3 2 rfl rfl 1 (by decide) in_X1_lower_X3 lk_X1_lower_image rfl dX1_lower_54 ?_
            refine g_iload C3 dX1_lower_57 1 rfl ?_
            refine g_callSNi (n := 1) C3 (c_X7_negative E l (yy n2)) (by decide +kernel) gX1_lower_X7_negative_n119 (by decide +kernel) rfl (by decide +kernel) rfl (by decide) dX1_lower_59 rfl (Nat.le_of_ble_eq_true rfl) (fun r_59 h_59 => ?_)
            obtain ⟨_, rfl, -⟩ := h_59
            refine g_aload C3 dX1_lower_62 0 rfl ?_
            refine g_get C3 7 rfl rfl 1 (by decide) in_X1_lower_X3 lk_X1_lower_image rfl dX1_lower_64 ?_
            refine g_iconst C3 dX1_lower_67 ?_
            refine g_callV (n := 3) (wr := [(he, .inr (1, [.ref ep, .ref eb, .ref er, .ref bb, .ref tg, .ref pa, .int (zI least), .int (zI ke)])), (eb, .inl (E.2.2.2.2, 33, .inr (.inr (.inr (.inr bh))))), (pp, .inr (3, [.ref po, .ref pi])), cP po qpo (hi xx), aP E qpo xx, (p1, .inr (3, [.ref p2, .ref p4])), cP p2 p3 (hi (o j)), aP E p3 (o j)]) C3 (c_X4_addMultiple E l pi qpi p4 p5 yy (i j) (-(yy n2)) 0 hSy hkj.2.2.2.1 (by omega)) gX1_lower_X4_addMultiple rfl (by decide +kernel) rfl (by decide) dX1_lower_68 rfl (Nat.le_of_ble_eq_true rfl) rfl rfl [5, 6, 10, 11] [0, 1, 2, 3, 4, 7, 8, 9] rfl rfl (by decide) (fun w_68 h_68 => ?_)
            obtain rfl := h_68
            refine g_eq (ws' := [(he, .inr (1, [.ref ep, .ref eb, .ref er, .ref bb, .ref tg, .ref pa, .int (zI least), .int (zI ke)])), (eb, .inl (E.2.2.2.2, 33, .inr (.inr (.inr (.inr bh))))), (pp, .inr (3, [.ref po, .ref pi])), cP po qpo (hi xx), aP E qpo xx, (p1, .inr (3, [.ref p2, .ref p4])), cP p2 p3 (hi (o j)), aP E p3 (o j), cP pi qpi (hi (am yy (-(yy n2)) (i j) 0)), aP E qpi (am yy (-(yy n2)) (i j) 0), cP p4 p5 (hi (i j)), aP E p5 (i j)]) rfl rfl rfl ?_
            refine g_aload_n C3 dX1_lower_71 4 rfl ?_
            refine g_get C3 2 rfl rfl 0 (by decide) in_X1_lower_X3 lk_X1_lower_origin rfl dX1_lower_72 ?_
            refine g_iload C3 dX1_lower_75 1 rfl ?_
            refine g_callSNi (n := 1) C3 (c_X7_negative E l (yy n2)) (by decide +kernel) gX1_lower_X7_negative_n119 (by decide +kernel) rfl (by decide +kernel) rfl (by decide) dX1_lower_77 rfl (Nat.le_of_ble_eq_true rfl) (fun r_77 h_77 => ?_)
            obtain ⟨_, rfl, -⟩ := h_77
            refine g_aload C3 dX1_lower_80 0 rfl ?_
            refine g_get C3 5 rfl rfl 0 (by decide) in_X1_lower_X3 lk_X1_lower_origin rfl dX1_lower_82 ?_
            refine g_iconst C3 dX1_lower_85 ?_
            refine g_callV (n := 3) (wr := [(he, .inr (1, [.ref ep, .ref eb, .ref er, .ref bb, .ref tg, .ref pa, .int (zI least), .int (zI ke)])), (eb, .inl (E.2.2.2.2, 33, .inr (.inr (.inr (.inr bh))))), (pp, .inr (3, [.ref po, .ref pi])), (p1, .inr (3, [.ref p2, .ref p4])), cP pi qpi (hi (am yy (-(yy n2)) (i j) 0)), aP E qpi (am yy (-(yy n2)) (i j) 0), cP p4 p5 (hi (i j)), aP E p5 (i j)]) C3 (c_X4_addMultiple E l po qpo p2 p3 xx (o j) (-(yy n2)) 0 hSx hkj.2.2.2.2 (by have := hi_lo (o j); omega)) gX1_lower_X4_addMultiple rfl (by decide +kernel) rfl (by decide) dX1_lower_86 rfl (Nat.le_of_ble_eq_true rfl) rfl rfl [3, 4, 6, 7] [0, 1, 2, 5, 8, 9, 10, 11] rfl rfl (by decide) (fun w_86 h_86 => ?_)
            obtain rfl := h_86
            refine g_eq (ws' := [(he, .inr (1, [.ref ep, .ref eb, .ref er, .ref bb, .ref tg, .ref pa, .int (zI least), .int (zI ke)])), (eb, .inl (E.2.2.2.2, 33, .inr (.inr (.inr (.inr bh))))), (pp, .inr (3, [.ref po, .ref pi])), (p1, .inr (3, [.ref p2, .ref p4])), cP pi qpi (hi (am yy (-(yy n2)) (i j) 0)), aP E qpi (am yy (-(yy n2)) (i j) 0), cP p4 p5 (hi (i j)), aP E p5 (i j), cP po qpo (hi (am xx (-(yy n2)) (o j) 0)), aP E qpo (am xx (-(yy n2)) (o j) 0), cP p2 p3 (hi (o j)), aP E p3 (o j)]) rfl rfl rfl ?_
            refine g_iinc C3 [(3, .int (zI (x9 + (-1)))), (5, .ref p1), (4, .int (zI ((yy n2).val : Int))), (0, .ref he), (1, .ref pp)] dX1_lower_89 2 rfl (by decide) rfl ?_
            refine g_goto C3 20 dX1_lower_92 (by decide) ?_
            refine g_lsub C3 [0, 3, 4] rfl ?_
            refine g_wsub (ws' := [(he, .inr (1, [.ref ep, .ref eb, .ref er, .ref bb, .ref tg, .ref pa, .int (zI least), .int (zI ke)])), (eb, .inl (E.2.2.2.2, 33, .inr (.inr (.inr (.inr bh))))), (pp, .inr (3, [.ref po, .ref pi])), cP po qpo (hi (am xx (-(yy n2)) (o j) 0)), aP E qpo (am xx (-(yy n2)) (o j) 0), cP pi qpi (hi (am yy (-(yy n2)) (i j) 0)), aP E qpi (am yy (-(yy n2)) (i j) 0), (p1, .inr (3, [.ref p2, .ref p4])), cP p2 p3 (hi (o j)), aP E p3 (o j), cP p4 p5 (hi (i j)), aP E p5 (i j)]) C3 [0, 1, 2, 8, 9, 4, 5, 3, 10, 11, 6, 7] (by decide) rfl rfl ?_
            refine g_eq (ws' := [(he, .inr (1, [.ref ep, .ref eb, .ref er, .ref bb, .ref tg, .ref pa, .int (zI least), .int (zI ke)])), (eb, .inl (E.2.2.2.2, 33, .inr (.inr (.inr (.inr bh))))), (pp, .inr (3, [.ref po, .ref pi])), cP po qpo (hi (am xx (-(yy n2)) (o j) 0)), aP E qpo (am xx (-(yy n2)) (o j) 0), cP pi qpi (hi (am yy (-(yy n2)) (i j) 0)), aP E qpi (am yy (-(yy n2)) (i j) 0)] ++ [(p1, .inr (3, [.ref p2, .ref p4])), cP p2 p3 (hi (o j)), aP E p3 (o j), cP p4 p5 (hi (i j)), aP E p5 (i j)]) rfl rfl rfl ?_
            refine back3 _ _ _ _ _ _ ?_
            refine g_perm C (fam_in hkj.1 hF).symm ?_
            exact ih_o (x9 + -1) n2 (am yy (-(yy n2)) (i j) 0) (am xx (-(yy n2)) (o j) 0) (by omega) (by omega) (by rw [← hl, low_s (fqn c_36) hkx]) (am_Sm hSy (fun j9 h9 => hkj.2.2.2.1 j9 (by omega))) (am_Sm hSx (fun j9 h9 => hkj.2.2.2.2 j9 (by omega))) (by omega)
  refine g_lsub C2 [0, 2, 3] rfl ?_
  refine back2 _ _ _ _ _ _ ?_
  exact lp_o 40 (min (hi y) (((33 : Nat) : Int) - 1)) (hi y + 1).toNat y x (by omega) (by omega) rfl hS.2 hS.1 (by omega)
end
section
/-! calls whose cells are told by an order of the caller's -/
theorem jnP {D : va_G} {cl : List vw_C} {A : Nat → Prop} {wc wr w1 tl : va_W} {H H1 : Heap} (hP : va_P D cl ((wr ++ wc) ++ tl) H) (hD : va_D A ((wr ++ wc) ++ tl))
    (hk : ∀ q : Nat, q < H.size → ¬ va_A wc H.size q → H1[q]? = H[q]?) (hF : ∀ q, va_A wc H.size q → A q) (hP1 : va_P D cl w1 H1) (hD1 : va_D (va_A wc H.size) w1) : va_P D cl ((wr ++ w1) ++ tl) H1 ∧ va_D A ((wr ++ w1) ++ tl) := by
  have apart : ∀ (z : Nat × va_E), z ∈ wr ∨ z ∈ tl → z.1 < H.size ∧ ¬ va_A wc H.size z.1 := by
    intro z hz
    have hlt : z.1 < H.size := by
      rcases hz with h | h
      · obtain ⟨k, hk⟩ := List.mem_iff_getElem?.mp h
        exact ((P_l (P_l hP)) k z hk).lt
      · obtain ⟨k, hk⟩ := List.mem_iff_getElem?.mp h
        exact ((P_r hP) k z hk).lt
    refine ⟨hlt, fun h => ?_⟩
    rcases h with ⟨k2, e, h⟩ | h
    · rcases hz with g | g
      · obtain ⟨k, hk⟩ := List.mem_iff_getElem?.mp g
        exact D_x (D_l hD) hk h rfl
      · obtain ⟨k, hk⟩ := List.mem_iff_getElem?.mp g
        exact D_x hD (tl_ar (ws := wr) h) hk rfl
    · omega
  have kr : va_P D cl wr H1 := fun k q hq => ((P_l (P_l hP)) k q hq).kept (hk q.1 (apart q (Or.inl (List.mem_of_getElem? hq))).1 (apart q (Or.inl (List.mem_of_getElem? hq))).2)
  have kt : va_P D cl tl H1 := fun k q hq => ((P_r hP) k q hq).kept (hk q.1 (apart q (Or.inr (List.mem_of_getElem? hq))).1 (apart q (Or.inr (List.mem_of_getElem? hq))).2)
  have d1 : va_D A (wr ++ w1) := (D_l (D_l hD)).app (hD1.weaken (fun k q _ h => hF q.1 h)) (fun i j p q hi hj e => (apart p (Or.inl (List.mem_of_getElem? hi))).2 (by rw [e]; exact hD1.2 j q hj))
  refine ⟨(kr.app hP1).app kt, d1.app (D_r hD) (fun i j p q hi hj => ?_)⟩
  by_cases g : i < wr.length
  · rw [List.getElem?_append_left g] at hi
    exact D_x hD (tl_at hi) hj
  · rw [List.getElem?_append_right (by omega)] at hi
    exact fun e => (apart q (Or.inr (List.mem_of_getElem? hj))).2 (by rw [← e]; exact hD1.2 _ p hi)
section CP
variable {G : Gt} {E : ev} {l : Launch} {R : Room} {y : MethodName} {cc : ByteArray} {nL : Nat} {Ts : List Cond} {ce so : Nat} {ws : va_W} {lv : Lv} {pc : Nat} {st : List Value}
variable {y' : MethodName} {wY wR : List Cond} {rm : Room} {b ci index n maxL mc ms : Nat} {As rest : List Value} {wc wr : va_W} {bytes : ByteArray} {ret : Option FieldType} {CC : String} {T : u_T} {N : Nat} {fs : List Value}
theorem g_callVp (C : Ok G E l R y cc nL Ts) {post : va_W → Prop} (hM : Mv E l y' wY rm (.ref b :: As) wc post mc ms) (hG : GoodIn Ts (wsV y.cls index CC y' wY)) (hw : wY = Cond.code y' bytes maxL ret :: wR)
    (hd0 : y'.cls = CC ∧ y'.cls ≠ "java/lang/invoke/MethodHandle" ∧ y'.cls ≠ "java/lang/invoke/VarHandle" ∧ (parseMethodDescriptor y'.desc).map (fun d => d.parameters.length) = some n) (hn : As.length = n)
    (hrm : (rm.cells = mc ∧ rm.slots = ms) ∧ (rm.frames + 1 ≤ R.frames ∧ 8 + (maxL + 11) + rm.locals ≤ R.locals) ∧ (ce + mc ≤ R.cells ∧ so + ms ≤ R.slots))
    (hd : decode cc pc = .ok (.invokevirtual index, 3)) (hst : st = As.reverse ++ .ref b :: rest) (hro : (rest.map fun v => v.category).sum ≤ 8)
    (hc : vwCl[ci]? = some (CC, T, N)) (he : wc[0]? = some (b, .inr (ci, fs))) (hp : ws.Perm (wr ++ wc))
    (kk : ∀ ws' : va_W, post ws' → G (ce + mc) (so + ms) (wr ++ ws') lv (pc + 3) rest) : G ce so ws lv pc st := by
  refine g_perm C hp ?_
  obtain ⟨p, e, s, m, args, below, meth, c, A, Q, tl, rfl, hx, hb, hml, hown, hnm, hts, hK, hA⟩ := C
  subst hst
  intro H locs ls hP hD hS hl
  have hPc : Pw E wc H := P_r (P_l hP)
  have hDc : va_D A wc := D_r (D_l hD)
  have hFc : ∀ q, va_A wc H.size q → A q := fun q h => by
    rcases h with ⟨k, e, h⟩ | h
    · exact hDc.2 k _ h
    · exact hA q (Nat.le_trans hS.1 h)
  refine va_callv (va_runV (As := As) (rest := rest) ⟨hx, hb, hml, hown, hts⟩ (hM H.size) (cwV n hts hG hw hrm.1.1 hrm.1.2 hd0 hrm.2.1) ⟨cPre_blind, va_recv hK.1 hPc (ci := ci) (q0 := 0) hc he, fun U hU hW => ⟨rfl, by rw [hU], by rw [hU]; exact hPc, hK.warm hW, hDc.weaken (fun _ _ _ _ => trivial)⟩⟩ rfl hn hl.1 rfl (lv_room hro) hd hrm.2.2) hS (fun q _ h => hFc q h) hFc (fun u t H1 locs1 ht hvm hw1 hB hz1 hk1 hS1 => ?_)
  obtain ⟨hP1, hD1⟩ := hB
  rw [ht] at hP1
  obtain ⟨hP2, hD2⟩ := jnP (w1 := u) hP hD hk1 hFc hP1 hD1
  exact kk u hw1 H1 locs1 ls hP2 hD2 hS1 hl
theorem g_callVip (C : Ok G E l R y cc nL Ts) {post : Int32 → va_W → Prop} (hM : Mi E l y' wY rm (.ref b :: As) wc post mc ms) (hG : GoodIn Ts (wsV y.cls index CC y' wY)) (hw : wY = Cond.code y' bytes maxL ret :: wR)
    (hd0 : y'.cls = CC ∧ y'.cls ≠ "java/lang/invoke/MethodHandle" ∧ y'.cls ≠ "java/lang/invoke/VarHandle" ∧ (parseMethodDescriptor y'.desc).map (fun d => d.parameters.length) = some n) (hn : As.length = n)
    (hrm : (rm.cells = mc ∧ rm.slots = ms) ∧ (rm.frames + 1 ≤ R.frames ∧ 8 + (maxL + 11) + rm.locals ≤ R.locals) ∧ (ce + mc ≤ R.cells ∧ so + ms ≤ R.slots))
    (hd : decode cc pc = .ok (.invokevirtual index, 3)) (hst : st = As.reverse ++ .ref b :: rest) (hro : (rest.map fun v => v.category).sum ≤ 8)
    (hc : vwCl[ci]? = some (CC, T, N)) (he : wc[0]? = some (b, .inr (ci, fs))) (hp : ws.Perm (wr ++ wc))
    (kk : ∀ (r : Int32) (ws' : va_W), post r ws' → G (ce + mc) (so + ms) (wr ++ ws') lv (pc + 3) (.int r :: rest)) : G ce so ws lv pc st := by
  refine g_perm C hp ?_
  obtain ⟨p, e, s, m, args, below, meth, c, A, Q, tl, rfl, hx, hb, hml, hown, hnm, hts, hK, hA⟩ := C
  subst hst
  intro H locs ls hP hD hS hl
  have hPc : Pw E wc H := P_r (P_l hP)
  have hDc : va_D A wc := D_r (D_l hD)
  have hFc : ∀ q, va_A wc H.size q → A q := fun q h => by
    rcases h with ⟨k, e, h⟩ | h
    · exact hDc.2 k _ h
    · exact hA q (Nat.le_trans hS.1 h)
  refine va_calli (va_runV (As := As) (rest := rest) ⟨hx, hb, hml, hown, hts⟩ (hM H.size) (cwV n hts hG hw hrm.1.1 hrm.1.2 hd0 hrm.2.1) ⟨cPre_blind, va_recv hK.1 hPc (ci := ci) (q0 := 0) hc he, fun U hU hW => ⟨rfl, by rw [hU], by rw [hU]; exact hPc, hK.warm hW, hDc.weaken (fun _ _ _ _ => trivial)⟩⟩ rfl hn hl.1 rfl (lv_room hro) hd hrm.2.2) hS (fun q _ h => hFc q h) hFc (fun r u t H1 locs1 ht hvm hw1 hB hz1 hk1 hS1 => ?_)
  obtain ⟨hP1, hD1⟩ := hB
  rw [ht] at hP1
  obtain ⟨hP2, hD2⟩ := jnP (w1 := u) hP hD hk1 hFc hP1 hD1
  exact kk r u hw1 H1 locs1 ls hP2 hD2 hS1 hl
end CP
theorem fam_out {E : ev} {F : Nat → Nat × Nat × Nat × Nat × Nat} {o i : Nat → Po} {js : List Nat} {j p1 p2 p3 p4 p5 : Nat} {x y : Po} {X : va_W} (h : j ∈ js) (hn : js.Nodup) (hF : F j = (p1, p2, p3, p4, p5)) : ((X ++ [(p1, .inr (3, [.ref p2, .ref p4])), cP p2 p3 (hi x), aP E p3 x, cP p4 p5 (hi y), aP E p5 y]) ++ fam E F o i (js.erase j)).Perm (X ++ fam E F (cset o j x) (cset i j y) js) := by
  have p := (fam_in (E := E) (F := F) (o := cset o j x) (i := cset i j y) (X := X) h hF).symm
  rw [cset_eq, cset_eq] at p
  rw [fam_congr (o := o) (i := i) (o' := cset o j x) (i' := cset i j y) (fun k hk => ?_)]
  · exact p
  · have : k ≠ j := (hn.mem_erase_iff.mp hk).1
    exact ⟨(cset_ne this).symm, (cset_ne this).symm⟩
/-- the equation's state: what is kept, origins, images, the grown top, what remains (image, origin) -/
abbrev St6 : Type := (Nat → Option Nat) × (Nat → Po) × (Nat → Po) × Po × Po × Po
def svs (b a : Po) (k : Nat) (s : St6) : St6 :=
  let yx := lowr s.1 s.2.1 s.2.2.1 (am s.2.2.2.1 32002 b k) (mono k)
  let kx2 := if hi yx.1 < 0 then s.1 else cset s.1 (hi yx.1).toNat (some k)
  let o2 := cset s.2.1 k (kpc yx.1 yx.2)
  let i2 := cset s.2.2.1 k (kpc yx.1 yx.1)
  let r := lowr kx2 o2 i2 s.2.2.2.2.1 s.2.2.2.2.2
  (kx2, o2, i2, conv s.2.2.2.1 a, r.1, r.2)
def sv (b a : Po) (s : St6) : Nat → St6
  | 0 => s
  | k + 1 => svs b a k (sv b a s k)
theorem KpOk.mono {kx : Nat → Option Nat} {o i : Nat → Po} {js js' : List Nat} (h : KpOk kx o i js) (hj : ∀ j ∈ js, j ∈ js') : KpOk kx o i js' := fun p hp j hk => ⟨hj j (h p hp j hk).1, (h p hp j hk).2⟩
theorem kpc_Sm {y a : Po} (h : Sm a) : Sm (kpc y a) := by
  unfold kpc; split
  · exact h
  · exact sc_Sm h _
theorem kpc_top {y : Po} (hS : Sm y) (h : ¬ hi y < 0) : hi (kpc y y) = hi y ∧ kpc y y (hi y).toNat = 1 := by
  have hp : 0 ≤ hi y := by omega
  unfold kpc
  rw [if_neg h]
  refine ⟨sc_hi hS (ivq_ne (nm_ne hp)), ?_⟩
  unfold sc
  rw [nm_hi hp]
  exact ivq_mul (hi_ne hp)
/-- what is kept, one more -/
theorem KpOk_step {kx : Nat → Option Nat} {o i : Nat → Po} {k : Nat} {y x : Po} (h : KpOk kx o i (List.range k)) (hy : Sm y) (hx : Sm x) : KpOk (if hi y < 0 then kx else cset kx (hi y).toNat (some k)) (cset o k (kpc y x)) (cset i k (kpc y y)) (List.range (k + 1)) := by
  intro p hp j hk
  by_cases g : hi y < 0
  · rw [if_pos g] at hk
    have h1 := h p hp j hk
    have hj : j ≠ k := by have := List.mem_range.mp h1.1; omega
    rw [cset_ne hj, cset_ne hj]
    exact ⟨List.mem_range.mpr (by have := List.mem_range.mp h1.1; omega), h1.2⟩
  · rw [if_neg g] at hk
    unfold cset at hk
    split at hk
    · rename_i e
      cases hk
      rw [cset_eq, cset_eq]
      have h2 := kpc_top hy g
      refine ⟨List.mem_range.mpr (by omega), by omega, by rw [e]; exact h2.2, kpc_Sm hy, kpc_Sm hx⟩
    · have h1 := h p hp j hk
      have hj : j ≠ k := by have := List.mem_range.mp h1.1; omega
      rw [cset_ne hj, cset_ne hj]
      exact ⟨List.mem_range.mpr (by have := List.mem_range.mp h1.1; omega), h1.2⟩
end
section
theorem in_X1_solve_X3 : ∀ w ∈ u_ws RX3 TX3 2, w ∈ wsX1_solve := by decide +kernel
theorem in_X1_solve_X1 : ∀ w ∈ u_ws RX1 TX1 8, w ∈ wsX1_solve := by decide +kernel
theorem lk_X1_solve_pairs : Cond.fieldLink yX1_solve.cls 11 (TX1 0).1 (TX1 0).2.1 (TX1 0).2.2.1 ∈ wsX1_solve := by decide +kernel
theorem lk_X1_solve_remaining : Cond.fieldLink yX1_solve.cls 23 (TX1 2).1 (TX1 2).2.1 (TX1 2).2.2.1 ∈ wsX1_solve := by decide +kernel
theorem lk_X1_solve_image : Cond.fieldLink yX1_solve.cls 65 (TX3 1).1 (TX3 1).2.1 (TX3 1).2.2.1 ∈ wsX1_solve := by decide +kernel
set_option maxHeartbeats 4000000 in
set_option maxRecDepth 100000 in
theorem c_X1_solve (E : ev) (l : Launch) (he ep eb er bb tg pa : Nat) (least ke : Int) (qbb qtg qpa eo qo ei qi : Nat) (F : Nat → Nat × Nat × Nat × Nat × Nat) (o i : Nat → Po) (b t a ry rx : Po) (bh pr : Nat → Option Nat) (hpr : ∀ j : Nat, j < 21 → pr j = some (F j).1) (hbh : ∀ p : Nat, p < 33 → bh p = none) (hSm : ∀ j : Nat, j < 21 → Sm (o j) ∧ Sm (i j)) (hS : Sm b ∧ Sm t ∧ Sm a ∧ Sm ry ∧ Sm rx) (hb : hi b ≤ 4) (ht : 0 ≤ hi t ∧ hi t ≤ 4) (ha : hi a = 1) : Mi E l yX1_solve wsX1_solve { frames := 3, cells := 0, slots := 0, locals := 90 } [.ref he] ([(he, .inr (1, [.ref ep, .ref eb, .ref er, .ref bb, .ref tg, .ref pa, .int (zI least), .int (zI ke)])), (ep, .inl (E.2.2.2.2, 21, .inr (.inr (.inr (.inr pr))))), (eb, .inl (E.2.2.2.2, 33, .inr (.inr (.inr (.inr bh))))), (er, .inr (3, [.ref eo, .ref ei])), cP eo qo (hi rx), aP E qo rx, cP ei qi (hi ry), aP E qi ry, cP bb qbb (hi b), aP E qbb b, cP tg qtg (hi t), aP E qtg t, cP pa qpa (hi a), aP E qpa a] ++ fam E F o i (List.range 21)) (fun r w => ∃ (K : Nat) (bh2 : Nat → Option Nat), K ≤ 21 ∧ ((∃ k : Nat, K = k + 1 ∧ r = zI (k : Int) ∧ hi (sv b a (fun _ => none, o, i, t, ry, rx) K).2.2.2.2.1 < 0) ∨ (K = 21 ∧ r = zI (-1) ∧ 0 ≤ hi (sv b a (fun _ => none, o, i, t, ry, rx) K).2.2.2.2.1)) ∧ (∀ j : Nat, 1 ≤ j → j < K → 0 ≤ hi (sv b a (fun _ => none, o, i, t, ry, rx) j).2.2.2.2.1) ∧ w = [(he, .inr (1, [.ref ep, .ref eb, .ref er, .ref bb, .ref tg, .ref pa, .int (zI least), .int (zI ke)])), (ep, .inl (E.2.2.2.2, 21, .inr (.inr (.inr (.inr pr))))), (eb, .inl (E.2.2.2.2, 33, .inr (.inr (.inr (.inr bh2))))), (er, .inr (3, [.ref eo, .ref ei])), cP eo qo (hi ((sv b a (fun _ => none, o, i, t, ry, rx) K).2.2.2.2.2)), aP E qo ((sv b a (fun _ => none, o, i, t, ry, rx) K).2.2.2.2.2), cP ei qi (hi ((sv b a (fun _ => none, o, i, t, ry, rx) K).2.2.2.2.1)), aP E qi ((sv b a (fun _ => none, o, i, t, ry, rx) K).2.2.2.2.1), cP bb qbb (hi b), aP E qbb b, cP tg qtg (hi ((sv b a (fun _ => none, o, i, t, ry, rx) K).2.2.2.1)), aP E qtg ((sv b a (fun _ => none, o, i, t, ry, rx) K).2.2.2.1), cP pa qpa (hi a), aP E qpa a] ++ fam E F (sv b a (fun _ => none, o, i, t, ry, rx) K).2.1 (sv b a (fun _ => none, o, i, t, ry, rx) K).2.2.1 (List.range 21)) 0 0 := by
  refine enter_i (cc := cX1_solve) (nL := 3) (by decide) rfl (Nat.le_of_ble_eq_true rfl) (fun G C hret => ?_)
  show G 0 0 ([(he, .inr (1, [.ref ep, .ref eb, .ref er, .ref bb, .ref tg, .ref pa, .int (zI least), .int (zI ke)])), (ep, .inl (E.2.2.2.2, 21, .inr (.inr (.inr (.inr pr))))), (eb, .inl (E.2.2.2.2, 33, .inr (.inr (.inr (.inr bh))))), (er, .inr (3, [.ref eo, .ref ei])), cP eo qo (hi rx), aP E qo rx, cP ei qi (hi ry), aP E qi ry, cP bb qbb (hi b), aP E qbb b, cP tg qtg (hi t), aP E qtg t, cP pa qpa (hi a), aP E qpa a] ++ fam E F o i (List.range 21)) [(0, .ref he)] 0 []
  refine g_in C (fun G2 C2 back2 => ?_)
  refine g_iconst C2 dX1_solve_0 ?_
  refine g_istore_n C2 [(1, .int (zI 0)), (0, .ref he)] dX1_solve_1 (by decide) rfl ?_
  have lp_o : ∀ (n_o : Nat) (x9 : Int) (k : Nat) (kx : Nat → Option Nat) (o2 : Nat → Po) (i2 : Nat → Po) (t2 : Po) (ry2 : Po) (rx2 : Po) (bh2 : Nat → Option Nat), (x9 = (k : Int)) → (k ≤ 21) → (sv b a (fun _ => none, o, i, t, ry, rx) k = (kx, o2, i2, t2, ry2, rx2)) → (∀ p : Nat, p < 33 → bh2 p = (kx p).map (fun j => (F j).1)) → (KpOk kx o2 i2 (List.range k)) → (∀ j : Nat, j < 21 → Sm (o2 j) ∧ Sm (i2 j)) → (Sm t2 ∧ Sm ry2 ∧ Sm rx2) → (hi t2 = hi t + (k : Int)) → (∀ j : Nat, 1 ≤ j → j ≤ k → 0 ≤ hi (sv b a (fun _ => none, o, i, t, ry, rx) j).2.2.2.2.1) → 21 - k < n_o → G 0 0 ([(he, .inr (1, [.ref ep, .ref eb, .ref er, .ref bb, .ref tg, .ref pa, .int (zI least), .int (zI ke)])), (ep, .inl (E.2.2.2.2, 21, .inr (.inr (.inr (.inr pr))))), (eb, .inl (E.2.2.2.2, 33, .inr (.inr (.inr (.inr bh2))))), (er, .inr (3, [.ref eo, .ref ei])), cP eo qo (hi rx2), aP E qo rx2, cP ei qi (hi ry2), aP E qi ry2, cP bb qbb (hi b), aP E qbb b, cP tg qtg (hi t2), aP E qtg t2, cP pa qpa (hi a), aP E qpa a] ++ fam E F o2 i2 (List.range 21)) [(1, .int (zI x9)), (0, .ref he)] 2 [] := by
    intro n_o
    induction n_o with
    | zero =>
      intro x9 k kx o2 i2 t2 ry2 rx2 bh2 hx hk hs hbh2 hkp hSm2 hS2 ht2 hnz hm_o
      exact absurd hm_o (by omega)
    | succ n_o ih_o =>
      intro x9 k kx o2 i2 t2 ry2 rx2 bh2 hx hk hs hbh2 hkp hSm2 hS2 ht2 hnz hm_o
      refine g_in C (fun G_o C_o back_o => ?_)
      refine g_iload_n C_o dX1_solve_2 0 rfl ?_
      refine g_aload_n C_o dX1_solve_3 1 rfl ?_
      refine g_get C_o 0 rfl rfl 0 (by decide) in_X1_solve_X1 lk_X1_solve_pairs rfl dX1_solve_4 ?_
      refine g_alenQ C_o 1 rfl dX1_solve_7 ?_
      refine g_icmp_ge C_o 63 dX1_solve_8 (by decide) (by (try split) <;> omega) (by (try split) <;> omega) (by (try split) <;> omega) (by (try split) <;> omega) (fun c_8 => ?_) (fun c_8 => ?_)
      · refine g_iconst C_o dX1_solve_63 ?_
        refine back_o _ _ _ _ _ _ ?_
        obtain rfl : k = 21 := by omega
        exact hret _ _ _ _ _ _ dX1_solve_64 (by decide) (by decide) ⟨21, bh2, by omega, Or.inr ⟨rfl, rfl, hnz 21 (by omega) (by omega)⟩, fun j h1 h2 => hnz j h1 (by omega), by rw [hs]⟩
      · refine g_aload_n C_o dX1_solve_11 1 rfl ?_
        refine g_get C_o 0 rfl rfl 0 (by decide) in_X1_solve_X1 lk_X1_solve_pairs rfl dX1_solve_12 ?_
        refine g_iload_n C_o dX1_solve_15 0 rfl ?_
        obtain ⟨p1, p2, p3, p4, p5, hF⟩ : ∃ p1 p2 p3 p4 p5, F k = (p1, p2, p3, p4, p5) := ⟨_, _, _, _, _, rfl⟩
        refine g_aald C_o 1 k rfl (by omega) (by omega) (by decide) dX1_solve_16 (.ref p1) (by rw [hpr k (by omega), hF]; rfl) ?_
        refine back_o _ _ _ _ _ _ ?_
        refine g_perm C (fam_in (List.mem_range.mpr (by omega)) hF) ?_
        refine g_in C (fun G_a C_a back_a => ?_)
        refine g_eq (ws' := [(he, .inr (1, [.ref ep, .ref eb, .ref er, .ref bb, .ref tg, .ref pa, .int (zI least), .int (zI ke)])), (ep, .inl (E.2.2.2.2, 21, .inr (.inr (.inr (.inr pr))))), (eb, .inl (E.2.2.2.2, 33, .inr (.inr (.inr (.inr bh2))))), (er, .inr (3, [.ref eo, .ref ei])), cP eo qo (hi rx2), aP E qo rx2, cP ei qi (hi ry2), aP E qi ry2, cP bb qbb (hi b), aP E qbb b, cP tg qtg (hi t2), aP E qtg t2, cP pa qpa (hi a), aP E qpa a, (p1, .inr (3, [.ref p2, .ref p4])), cP p2 p3 (hi (o2 k)), aP E p3 (o2 k), cP p4 p5 (hi (i2 k)), aP E p5 (i2 k)]) rfl rfl rfl ?_
        refine g_astore_n C_a [(2, .ref p1), (1, .int (zI x9)), (0, .ref he)] dX1_solve_17 (by decide) rfl ?_
        refine g_aload_n C_a dX1_solve_18 2 rfl ?_
        refine g_aload_n C_a dX1_solve_19 0 rfl ?_
        refine g_iload_n C_a dX1_solve_20 1 rfl ?_
        refine g_top (zI (k : Int)) (congrArg zI (hx)) ?_
        refine g_callV (n := 2) (wr := [(ep, .inl (E.2.2.2.2, 21, .inr (.inr (.inr (.inr pr))))), (eb, .inl (E.2.2.2.2, 33, .inr (.inr (.inr (.inr bh2))))), (er, .inr (3, [.ref eo, .ref ei])), cP eo qo (hi rx2), aP E qo rx2, cP ei qi (hi ry2), aP E qi ry2]) C_a (c_X1_fill E l he ep eb er bb tg pa least ke p1 p2 p3 p4 p5 qbb qtg qpa (o2 k) (i2 k) b t2 a k ⟨(hSm2 k (by omega)).1, (hSm2 k (by omega)).2, hS.1, hS2.1, hS.2.2.1⟩ (by omega) (by omega) (by omega) (by omega) (by omega)) gX1_solve_X1_fill rfl (by decide +kernel) rfl (by decide) dX1_solve_21 rfl (Nat.le_of_ble_eq_true rfl) rfl rfl [0, 14, 15, 16, 17, 18, 8, 9, 10, 11, 12, 13] [1, 2, 3, 4, 5, 6, 7] rfl rfl (by decide) (fun w_21 h_21 => ?_)
        obtain rfl := h_21
        refine g_eq (ws' := [(ep, .inl (E.2.2.2.2, 21, .inr (.inr (.inr (.inr pr))))), (eb, .inl (E.2.2.2.2, 33, .inr (.inr (.inr (.inr bh2))))), (er, .inr (3, [.ref eo, .ref ei])), cP eo qo (hi rx2), aP E qo rx2, cP ei qi (hi ry2), aP E qi ry2, (he, .inr (1, [.ref ep, .ref eb, .ref er, .ref bb, .ref tg, .ref pa, .int (zI least), .int (zI ke)])), (p1, .inr (3, [.ref p2, .ref p4])), cP p2 p3 (hi (mono k)), aP E p3 (mono k), cP p4 p5 (hi (am t2 32002 b k)), aP E p5 (am t2 32002 b k), cP bb qbb (hi b), aP E qbb b, cP tg qtg (hi (conv t2 a)), aP E qtg (conv t2 a), cP pa qpa (hi a), aP E qpa a]) rfl rfl rfl ?_
        refine g_aload_n C_a dX1_solve_24 2 rfl ?_
        refine g_aload_n C_a dX1_solve_25 0 rfl ?_
        have hSy0 : Sm (am t2 32002 b k) := am_Sm hS2.1 (fun j9 h9 => hi_zero hS.1 (by omega))
        refine g_wsub (ws' := [(ep, .inl (E.2.2.2.2, 21, .inr (.inr (.inr (.inr pr))))), (er, .inr (3, [.ref eo, .ref ei])), cP eo qo (hi rx2), aP E qo rx2, cP ei qi (hi ry2), aP E qi ry2, cP bb qbb (hi b), aP E qbb b, cP tg qtg (hi (conv t2 a)), aP E qtg (conv t2 a), cP pa qpa (hi a), aP E qpa a, (he, .inr (1, [.ref ep, .ref eb, .ref er, .ref bb, .ref tg, .ref pa, .int (zI least), .int (zI ke)])), (eb, .inl (E.2.2.2.2, 33, .inr (.inr (.inr (.inr bh2))))), (p1, .inr (3, [.ref p2, .ref p4])), cP p2 p3 (hi (mono k)), aP E p3 (mono k), cP p4 p5 (hi (am t2 32002 b k)), aP E p5 (am t2 32002 b k)]) C_a [0, 2, 3, 4, 5, 6, 13, 14, 15, 16, 17, 18, 7, 1, 8, 9, 10, 11, 12] (by decide) rfl rfl ?_
        refine g_eq (ws' := [(ep, .inl (E.2.2.2.2, 21, .inr (.inr (.inr (.inr pr))))), (er, .inr (3, [.ref eo, .ref ei])), cP eo qo (hi rx2), aP E qo rx2, cP ei qi (hi ry2), aP E qi ry2, cP bb qbb (hi b), aP E qbb b, cP tg qtg (hi (conv t2 a)), aP E qtg (conv t2 a), cP pa qpa (hi a), aP E qpa a] ++ [(he, .inr (1, [.ref ep, .ref eb, .ref er, .ref bb, .ref tg, .ref pa, .int (zI least), .int (zI ke)])), (eb, .inl (E.2.2.2.2, 33, .inr (.inr (.inr (.inr bh2))))), (p1, .inr (3, [.ref p2, .ref p4])), cP p2 p3 (hi (mono k)), aP E p3 (mono k), cP p4 p5 (hi (am t2 32002 b k)), aP E p5 (am t2 32002 b k)]) rfl rfl rfl ?_
        refine back_a _ _ _ _ _ _ ?_
        refine g_callVp (n := 1) (wr := [(ep, .inl (E.2.2.2.2, 21, .inr (.inr (.inr (.inr pr))))), (er, .inr (3, [.ref eo, .ref ei])), cP eo qo (hi rx2), aP E qo rx2, cP ei qi (hi ry2), aP E qi ry2, cP bb qbb (hi b), aP E qbb b, cP tg qtg (hi (conv t2 a)), aP E qtg (conv t2 a), cP pa qpa (hi a), aP E qpa a]) C (c_X1_lower E l he ep eb er bb tg pa least ke p1 p2 p3 p4 p5 (mono k) (am t2 32002 b k) bh2 kx F o2 i2 ((List.range 21).erase k) ⟨mono_Sm (by omega), hSy0⟩ hbh2 (hkp.mono (fun j hj => (List.nodup_range.mem_erase_iff).mpr ⟨by have := List.mem_range.mp hj; omega, List.mem_range.mpr (by have := List.mem_range.mp hj; omega)⟩))) gX1_solve_X1_lower rfl (by decide +kernel) rfl (by decide) dX1_solve_26 rfl (Nat.le_of_ble_eq_true rfl) rfl rfl (List.Perm.of_eq (List.append_assoc _ _ _)) (fun w_26 h_26 => ?_)
        obtain rfl := h_26
        refine g_perm C (List.Perm.of_eq (List.append_assoc _ _ _).symm) ?_
        refine g_in C (fun G_b C_b back_b => ?_)
        refine g_eq (ws' := [(ep, .inl (E.2.2.2.2, 21, .inr (.inr (.inr (.inr pr))))), (er, .inr (3, [.ref eo, .ref ei])), cP eo qo (hi rx2), aP E qo rx2, cP ei qi (hi ry2), aP E qi ry2, cP bb qbb (hi b), aP E qbb b, cP tg qtg (hi (conv t2 a)), aP E qtg (conv t2 a), cP pa qpa (hi a), aP E qpa a, (he, .inr (1, [.ref ep, .ref eb, .ref er, .ref bb, .ref tg, .ref pa, .int (zI least), .int (zI ke)])), (eb, .inl (E.2.2.2.2, 33, .inr (.inr (.inr (.inr bh2))))), (p1, .inr (3, [.ref p2, .ref p4])), cP p2 p3 (hi ((lowr kx o2 i2 (am t2 32002 b k) (mono k)).2)), aP E p3 ((lowr kx o2 i2 (am t2 32002 b k) (mono k)).2), cP p4 p5 (hi ((lowr kx o2 i2 (am t2 32002 b k) (mono k)).1)), aP E p5 ((lowr kx o2 i2 (am t2 32002 b k) (mono k)).1)]) rfl rfl rfl ?_
        have hSl := low_Sm hkp (hi (am t2 32002 b k) + 1).toNat (am t2 32002 b k) (mono k) (by have := hi_lo (am t2 32002 b k); omega) hSy0 (mono_Sm (by omega))
        obtain ⟨y1, x1, hyx⟩ : ∃ y1 x1, lowr kx o2 i2 (am t2 32002 b k) (mono k) = (y1, x1) := ⟨_, _, rfl⟩
        have hSy1 : Sm y1 := by have h9 := hSl.1; rw [show low kx o2 i2 (hi (am t2 32002 b k) + 1).toNat (am t2 32002 b k) (mono k) = (y1, x1) from hyx] at h9; exact h9
        have hSx1 : Sm x1 := by have h9 := hSl.2; rw [show low kx o2 i2 (hi (am t2 32002 b k) + 1).toNat (am t2 32002 b k) (mono k) = (y1, x1) from hyx] at h9; exact h9
        refine g_eq (ws' := [(ep, .inl (E.2.2.2.2, 21, .inr (.inr (.inr (.inr pr))))), (er, .inr (3, [.ref eo, .ref ei])), cP eo qo (hi rx2), aP E qo rx2, cP ei qi (hi ry2), aP E qi ry2, cP bb qbb (hi b), aP E qbb b, cP tg qtg (hi (conv t2 a)), aP E qtg (conv t2 a), cP pa qpa (hi a), aP E qpa a, (he, .inr (1, [.ref ep, .ref eb, .ref er, .ref bb, .ref tg, .ref pa, .int (zI least), .int (zI ke)])), (eb, .inl (E.2.2.2.2, 33, .inr (.inr (.inr (.inr bh2))))), (p1, .inr (3, [.ref p2, .ref p4])), cP p2 p3 (hi (x1)), aP E p3 x1, cP p4 p5 (hi (y1)), aP E p5 y1]) (by rw [hyx]) rfl rfl ?_
        refine g_aload_n C_b dX1_solve_29 2 rfl ?_
        refine g_aload_n C_b dX1_solve_30 0 rfl ?_
        refine g_callV (n := 1) (wr := [(ep, .inl (E.2.2.2.2, 21, .inr (.inr (.inr (.inr pr))))), (er, .inr (3, [.ref eo, .ref ei])), cP eo qo (hi rx2), aP E qo rx2, cP ei qi (hi ry2), aP E qi ry2, cP bb qbb (hi b), aP E qbb b, cP tg qtg (hi (conv t2 a)), aP E qtg (conv t2 a), cP pa qpa (hi a), aP E qpa a]) C_b (c_X1_keep E l he ep eb er bb tg pa least ke p1 p2 p3 p4 p5 x1 y1 bh2 ⟨hSx1, hSy1⟩) gX1_solve_X1_keep rfl (by decide +kernel) rfl (by decide) dX1_solve_31 rfl (Nat.le_of_ble_eq_true rfl) rfl rfl [12, 13, 14, 15, 16, 17, 18] [0, 1, 2, 3, 4, 5, 6, 7, 8, 9, 10, 11] rfl rfl (by decide) (fun w_31 h_31 => ?_)
        obtain rfl := h_31
        refine g_eq (ws' := [(ep, .inl (E.2.2.2.2, 21, .inr (.inr (.inr (.inr pr))))), (er, .inr (3, [.ref eo, .ref ei])), cP eo qo (hi rx2), aP E qo rx2, cP ei qi (hi ry2), aP E qi ry2, cP bb qbb (hi b), aP E qbb b, cP tg qtg (hi (conv t2 a)), aP E qtg (conv t2 a), cP pa qpa (hi a), aP E qpa a, (he, .inr (1, [.ref ep, .ref eb, .ref er, .ref bb, .ref tg, .ref pa, .int (zI least), .int (zI ke)])), (eb, .inl (E.2.2.2.2, 33, .inr (.inr (.inr (.inr (if hi y1 < 0 then bh2 else cset bh2 (hi y1).toNat (some p1))))))), (p1, .inr (3, [.ref p2, .ref p4])), cP p2 p3 (hi (kpc y1 x1)), aP E p3 (kpc y1 x1), cP p4 p5 (hi (kpc y1 y1)), aP E p5 (kpc y1 y1)]) rfl rfl rfl ?_
        refine g_aload_n C_b dX1_solve_34 2 rfl ?_
        refine g_aload_n C_b dX1_solve_35 2 rfl ?_
        refine g_get C_b 12 rfl rfl 2 (by decide) in_X1_solve_X1 lk_X1_solve_remaining rfl dX1_solve_36 ?_
        refine g_wsub (ws' := [(he, .inr (1, [.ref ep, .ref eb, .ref er, .ref bb, .ref tg, .ref pa, .int (zI least), .int (zI ke)])), (ep, .inl (E.2.2.2.2, 21, .inr (.inr (.inr (.inr pr))))), (eb, .inl (E.2.2.2.2, 33, .inr (.inr (.inr (.inr (if hi y1 < 0 then bh2 else cset bh2 (hi y1).toNat (some p1))))))), (er, .inr (3, [.ref eo, .ref ei])), cP eo qo (hi rx2), aP E qo rx2, cP ei qi (hi ry2), aP E qi ry2, cP bb qbb (hi b), aP E qbb b, cP tg qtg (hi (conv t2 a)), aP E qtg (conv t2 a), cP pa qpa (hi a), aP E qpa a, (p1, .inr (3, [.ref p2, .ref p4])), cP p2 p3 (hi (kpc y1 x1)), aP E p3 (kpc y1 x1), cP p4 p5 (hi (kpc y1 y1)), aP E p5 (kpc y1 y1)]) C_b [12, 0, 13, 1, 2, 3, 4, 5, 6, 7, 8, 9, 10, 11, 14, 15, 16, 17, 18] (by decide) rfl rfl ?_
        refine g_eq (ws' := [(he, .inr (1, [.ref ep, .ref eb, .ref er, .ref bb, .ref tg, .ref pa, .int (zI least), .int (zI ke)])), (ep, .inl (E.2.2.2.2, 21, .inr (.inr (.inr (.inr pr))))), (eb, .inl (E.2.2.2.2, 33, .inr (.inr (.inr (.inr (if hi y1 < 0 then bh2 else cset bh2 (hi y1).toNat (some p1))))))), (er, .inr (3, [.ref eo, .ref ei])), cP eo qo (hi rx2), aP E qo rx2, cP ei qi (hi ry2), aP E qi ry2, cP bb qbb (hi b), aP E qbb b, cP tg qtg (hi (conv t2 a)), aP E qtg (conv t2 a), cP pa qpa (hi a), aP E qpa a] ++ [(p1, .inr (3, [.ref p2, .ref p4])), cP p2 p3 (hi (kpc y1 x1)), aP E p3 (kpc y1 x1), cP p4 p5 (hi (kpc y1 y1)), aP E p5 (kpc y1 y1)]) rfl rfl rfl ?_
        refine back_b _ _ _ _ _ _ ?_
        refine g_perm C (fam_out (List.mem_range.mpr (by omega)) List.nodup_range hF) ?_
        refine g_in C (fun G_c C_c back_c => ?_)
        have hkp3 := KpOk_step hkp hSy1 hSx1
        have hbh3 : ∀ p : Nat, p < 33 → (if hi y1 < 0 then bh2 else cset bh2 (hi y1).toNat (some p1)) p = ((if hi y1 < 0 then kx else cset kx (hi y1).toNat (some k)) p).map (fun j => (F j).1) := by
          intro p hp
          by_cases g9 : hi y1 < 0
          · rw [if_pos g9, if_pos g9]; exact hbh2 p hp
          · rw [if_neg g9, if_neg g9]; unfold cset; split; (show some p1 = some (F k).1; rw [hF]); exact hbh2 p hp
        refine g_wsub (ws' := [(ep, .inl (E.2.2.2.2, 21, .inr (.inr (.inr (.inr pr))))), cP bb qbb (hi b), aP E qbb b, cP tg qtg (hi (conv t2 a)), aP E qtg (conv t2 a), cP pa qpa (hi a), aP E qpa a, (he, .inr (1, [.ref ep, .ref eb, .ref er, .ref bb, .ref tg, .ref pa, .int (zI least), .int (zI ke)])), (eb, .inl (E.2.2.2.2, 33, .inr (.inr (.inr (.inr (if hi y1 < 0 then bh2 else cset bh2 (hi y1).toNat (some p1))))))), (er, .inr (3, [.ref eo, .ref ei])), cP eo qo (hi rx2), aP E qo rx2, cP ei qi (hi ry2), aP E qi ry2]) C_c [1, 8, 9, 10, 11, 12, 13, 0, 2, 3, 4, 5, 6, 7] (by decide) rfl rfl ?_
        refine g_eq (ws' := [(ep, .inl (E.2.2.2.2, 21, .inr (.inr (.inr (.inr pr))))), cP bb qbb (hi b), aP E qbb b, cP tg qtg (hi (conv t2 a)), aP E qtg (conv t2 a), cP pa qpa (hi a), aP E qpa a] ++ [(he, .inr (1, [.ref ep, .ref eb, .ref er, .ref bb, .ref tg, .ref pa, .int (zI least), .int (zI ke)])), (eb, .inl (E.2.2.2.2, 33, .inr (.inr (.inr (.inr (if hi y1 < 0 then bh2 else cset bh2 (hi y1).toNat (some p1))))))), (er, .inr (3, [.ref eo, .ref ei])), cP eo qo (hi rx2), aP E qo rx2, cP ei qi (hi ry2), aP E qi ry2]) rfl rfl rfl ?_
        refine back_c _ _ _ _ _ _ ?_
        refine g_callVp (n := 1) (wr := [(ep, .inl (E.2.2.2.2, 21, .inr (.inr (.inr (.inr pr))))), cP bb qbb (hi b), aP E qbb b, cP tg qtg (hi (conv t2 a)), aP E qtg (conv t2 a), cP pa qpa (hi a), aP E qpa a]) C (c_X1_lower E l he ep eb er bb tg pa least ke er eo qo ei qi rx2 ry2 (if hi y1 < 0 then bh2 else cset bh2 (hi y1).toNat (some p1)) (if hi y1 < 0 then kx else cset kx (hi y1).toNat (some k)) F (cset o2 k (kpc y1 x1)) (cset i2 k (kpc y1 y1)) (List.range 21) ⟨hS2.2.2, hS2.2.1⟩ hbh3 (hkp3.mono (fun j hj => List.mem_range.mpr (by have := List.mem_range.mp hj; omega)))) gX1_solve_X1_lower rfl (by decide +kernel) rfl (by decide) dX1_solve_39 rfl (Nat.le_of_ble_eq_true rfl) rfl rfl (List.Perm.of_eq (List.append_assoc _ _ _)) (fun w_39 h_39 => ?_)
        obtain rfl := h_39
        refine g_perm C (List.Perm.of_eq (List.append_assoc _ _ _).symm) ?_
        refine g_in C (fun G_d C_d back_d => ?_)
        refine g_eq (ws' := [(ep, .inl (E.2.2.2.2, 21, .inr (.inr (.inr (.inr pr))))), cP bb qbb (hi b), aP E qbb b, cP tg qtg (hi (conv t2 a)), aP E qtg (conv t2 a), cP pa qpa (hi a), aP E qpa a, (he, .inr (1, [.ref ep, .ref eb, .ref er, .ref bb, .ref tg, .ref pa, .int (zI least), .int (zI ke)])), (eb, .inl (E.2.2.2.2, 33, .inr (.inr (.inr (.inr (if hi y1 < 0 then bh2 else cset bh2 (hi y1).toNat (some p1))))))), (er, .inr (3, [.ref eo, .ref ei])), cP eo qo (hi ((lowr (if hi y1 < 0 then kx else cset kx (hi y1).toNat (some k)) (cset o2 k (kpc y1 x1)) (cset i2 k (kpc y1 y1)) ry2 rx2).2)), aP E qo ((lowr (if hi y1 < 0 then kx else cset kx (hi y1).toNat (some k)) (cset o2 k (kpc y1 x1)) (cset i2 k (kpc y1 y1)) ry2 rx2).2), cP ei qi (hi ((lowr (if hi y1 < 0 then kx else cset kx (hi y1).toNat (some k)) (cset o2 k (kpc y1 x1)) (cset i2 k (kpc y1 y1)) ry2 rx2).1)), aP E qi ((lowr (if hi y1 < 0 then kx else cset kx (hi y1).toNat (some k)) (cset o2 k (kpc y1 x1)) (cset i2 k (kpc y1 y1)) ry2 rx2).1)]) rfl rfl rfl ?_
        have hSl2 := low_Sm hkp3 (hi ry2 + 1).toNat ry2 rx2 (by have := hi_lo ry2; omega) hS2.2.1 hS2.2.2
        obtain ⟨ry3, rx3, hry⟩ : ∃ ry3 rx3, lowr (if hi y1 < 0 then kx else cset kx (hi y1).toNat (some k)) (cset o2 k (kpc y1 x1)) (cset i2 k (kpc y1 y1)) ry2 rx2 = (ry3, rx3) := ⟨_, _, rfl⟩
        have hSr3 : Sm ry3 ∧ Sm rx3 := by have h9 := hSl2; rw [show low (if hi y1 < 0 then kx else cset kx (hi y1).toNat (some k)) (cset o2 k (kpc y1 x1)) (cset i2 k (kpc y1 y1)) (hi ry2 + 1).toNat ry2 rx2 = (ry3, rx3) from hry] at h9; exact h9
        have hs3 : sv b a (fun _ => none, o, i, t, ry, rx) (k + 1) = ((if hi y1 < 0 then kx else cset kx (hi y1).toNat (some k)), (cset o2 k (kpc y1 x1)), (cset i2 k (kpc y1 y1)), conv t2 a, ry3, rx3) := by show svs b a k (sv b a (fun _ => none, o, i, t, ry, rx) k) = _; rw [hs]; simp only [svs, hyx, hry]
        refine g_eq (ws' := [(ep, .inl (E.2.2.2.2, 21, .inr (.inr (.inr (.inr pr))))), cP bb qbb (hi b), aP E qbb b, cP tg qtg (hi (conv t2 a)), aP E qtg (conv t2 a), cP pa qpa (hi a), aP E qpa a, (he, .inr (1, [.ref ep, .ref eb, .ref er, .ref bb, .ref tg, .ref pa, .int (zI least), .int (zI ke)])), (eb, .inl (E.2.2.2.2, 33, .inr (.inr (.inr (.inr (if hi y1 < 0 then bh2 else cset bh2 (hi y1).toNat (some p1))))))), (er, .inr (3, [.ref eo, .ref ei])), cP eo qo (hi (rx3)), aP E qo rx3, cP ei qi (hi (ry3)), aP E qi ry3]) (by rw [hry]) rfl rfl ?_
        refine g_aload_n C_d dX1_solve_42 2 rfl ?_
        refine g_get C_d 7 rfl rfl 2 (by decide) in_X1_solve_X1 lk_X1_solve_remaining rfl dX1_solve_43 ?_
        refine g_get C_d 9 rfl rfl 1 (by decide) in_X1_solve_X3 lk_X1_solve_image rfl dX1_solve_46 ?_
        refine g_callVi (n := 0) (wr := [(ep, .inl (E.2.2.2.2, 21, .inr (.inr (.inr (.inr pr))))), cP bb qbb (hi b), aP E qbb b, cP tg qtg (hi (conv t2 a)), aP E qtg (conv t2 a), cP pa qpa (hi a), aP E qpa a, (he, .inr (1, [.ref ep, .ref eb, .ref er, .ref bb, .ref tg, .ref pa, .int (zI least), .int (zI ke)])), (eb, .inl (E.2.2.2.2, 33, .inr (.inr (.inr (.inr (if hi y1 < 0 then bh2 else cset bh2 (hi y1).toNat (some p1))))))), (er, .inr (3, [.ref eo, .ref ei])), cP eo qo (hi (rx3)), aP E qo rx3]) C_d (c_X4_isZero E l ei qi ry3) gX1_solve_X4_isZero rfl (by decide +kernel) rfl (by decide) dX1_solve_49 rfl (Nat.le_of_ble_eq_true rfl) rfl rfl [12, 13] [0, 1, 2, 3, 4, 5, 6, 7, 8, 9, 10, 11] rfl rfl (by decide) (fun r_49 w_49 h_49 => ?_)
        obtain ⟨rfl, rfl⟩ := h_49
        refine g_eq (ws' := [(ep, .inl (E.2.2.2.2, 21, .inr (.inr (.inr (.inr pr))))), cP bb qbb (hi b), aP E qbb b, cP tg qtg (hi (conv t2 a)), aP E qtg (conv t2 a), cP pa qpa (hi a), aP E qpa a, (he, .inr (1, [.ref ep, .ref eb, .ref er, .ref bb, .ref tg, .ref pa, .int (zI least), .int (zI ke)])), (eb, .inl (E.2.2.2.2, 33, .inr (.inr (.inr (.inr (if hi y1 < 0 then bh2 else cset bh2 (hi y1).toNat (some p1))))))), (er, .inr (3, [.ref eo, .ref ei])), cP eo qo (hi (rx3)), aP E qo rx3, cP ei qi (hi ry3), aP E qi ry3]) rfl rfl rfl ?_
        refine g_if_eq C_d 57 dX1_solve_52 (by decide) (by (try split) <;> omega) (by (try split) <;> omega) (fun c_52 => ?_) (fun c_52 => ?_)
        · have ey : ¬ hi ry3 < 0 := by rcases Classical.em (hi ry3 < 0) with g | g; (rw [if_pos g] at c_52; exact absurd c_52 (by decide)); exact g
          refine g_iinc C_d [(1, .int (zI (x9 + 1))), (2, .ref p1), (0, .ref he)] dX1_solve_57 1 rfl (by decide) rfl ?_
          refine g_goto C_d 2 dX1_solve_60 (by decide) ?_
          refine g_lsub C_d [0, 2] rfl ?_
          refine g_wsub (ws' := [(he, .inr (1, [.ref ep, .ref eb, .ref er, .ref bb, .ref tg, .ref pa, .int (zI least), .int (zI ke)])), (ep, .inl (E.2.2.2.2, 21, .inr (.inr (.inr (.inr pr))))), (eb, .inl (E.2.2.2.2, 33, .inr (.inr (.inr (.inr (if hi y1 < 0 then bh2 else cset bh2 (hi y1).toNat (some p1))))))), (er, .inr (3, [.ref eo, .ref ei])), cP eo qo (hi (rx3)), aP E qo rx3, cP ei qi (hi ry3), aP E qi ry3, cP bb qbb (hi b), aP E qbb b, cP tg qtg (hi (conv t2 a)), aP E qtg (conv t2 a), cP pa qpa (hi a), aP E qpa a]) C_d [7, 0, 8, 9, 10, 11, 12, 13, 1, 2, 3, 4, 5, 6] (by decide) rfl rfl ?_
          refine back_d _ _ _ _ _ _ ?_
          exact ih_o (x9 + 1) (k + 1) (if hi y1 < 0 then kx else cset kx (hi y1).toNat (some k)) (cset o2 k (kpc y1 x1)) (cset i2 k (kpc y1 y1)) (conv t2 a) ry3 rx3 (if hi y1 < 0 then bh2 else cset bh2 (hi y1).toNat (some p1)) (by omega) (by omega) hs3 hbh3 hkp3 (fun j hj => by unfold cset; split; exact ⟨kpc_Sm hSx1, kpc_Sm hSy1⟩; exact hSm2 j hj) ⟨conv_Sm hS2.1 hS.2.2.1 (by omega), hSr3⟩ (by rw [conv_dg hS2.1 hS.2.2.1 (by omega) (by omega) (by omega)]; omega) (fun j h1 h2 => by rcases Classical.em (j = k + 1) with e9 | e9; (rw [e9, hs3]; show 0 ≤ hi ry3; omega); exact hnz j h1 (by omega)) (by omega)
        · have ey : hi ry3 < 0 := by rcases Classical.em (hi ry3 < 0) with g | g; exact g; (rw [if_neg g] at c_52; exact absurd rfl c_52)
          refine g_iload_n C_d dX1_solve_55 1 rfl ?_
          refine g_wsub (ws' := [(he, .inr (1, [.ref ep, .ref eb, .ref er, .ref bb, .ref tg, .ref pa, .int (zI least), .int (zI ke)])), (ep, .inl (E.2.2.2.2, 21, .inr (.inr (.inr (.inr pr))))), (eb, .inl (E.2.2.2.2, 33, .inr (.inr (.inr (.inr (if hi y1 < 0 then bh2 else cset bh2 (hi y1).toNat (some p1))))))), (er, .inr (3, [.ref eo, .ref ei])), cP eo qo (hi (rx3)), aP E qo rx3, cP ei qi (hi ry3), aP E qi ry3, cP bb qbb (hi b), aP E qbb b, cP tg qtg (hi (conv t2 a)), aP E qtg (conv t2 a), cP pa qpa (hi a), aP E qpa a]) C_d [7, 0, 8, 9, 10, 11, 12, 13, 1, 2, 3, 4, 5, 6] (by decide) rfl rfl ?_
          refine back_d _ _ _ _ _ _ ?_
          exact hret _ _ _ _ _ _ dX1_solve_56 (by decide) (by decide) ⟨k + 1, _, by omega, Or.inl ⟨k, rfl, by rw [hx], by rw [hs3]; exact ey⟩, fun j h1 h2 => hnz j h1 (by omega), by rw [hs3]⟩
  refine back2 _ _ _ _ _ _ ?_
  exact lp_o 22 0 0 (fun _ => none) o i t ry rx bh rfl (by omega) rfl (fun p hp => by rw [hbh p hp]; rfl) (fun p _ j hj => by cases hj) hSm ⟨hS.2.1, hS.2.2.2⟩ (by omega) (fun j h1 h2 => absurd h1 (by omega)) (by omega)
end
