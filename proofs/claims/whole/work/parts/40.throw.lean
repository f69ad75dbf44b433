/-! methods that may throw -/
def xcL : List String := ["java/lang/IndexOutOfBoundsException", "java/lang/IllegalArgumentException", "java/lang/IllegalStateException"]
def dcL : List String := ["java/lang/RuntimeException", "java/lang/Exception", "java/lang/Throwable"]
def strL : List (Nat × String) := [(161, "no such power"), (174, "a side of the ratio is 0"), (89, "no such shift"), (166, "no such part"), (177, "no answer"), (164, "no such place"), (183, "the term ends earlier")]
def nmL : List String := ["java/lang/RuntimeException", "java/lang/Exception"]
def Thw (U : State) : Prop := (∀ X ∈ xcL, va_Nw (.castable X X) U) ∧ (∀ Y ∈ dcL, va_Nw (.declares (Bundle.initS Y)) U) ∧ ∀ q ∈ strL, ∃ sa, vk_R RX7 q.1 q.2 sa U
def Thz (A : Nat → Prop) (U : State) (H : Heap) : Prop := vx_Zq Bundle.tN "UNASSIGNED_STACK" Bundle.steD A U H ∧ vx_Zq Bundle.tN "SUPPRESSED_SENTINEL" Bundle.listD A U H
theorem Thw.warm {s U : State} (h : Thw s) (hW : s.WarmedH U.vm) : Thw U := ⟨fun X hX => va_Nw.warmC hW (h.1 X hX), fun Y hY => va_Nw.warmD hW (h.2.1 Y hY), fun q hq => by obtain ⟨sa, h9⟩ := h.2.2 q hq; exact ⟨sa, h9.warm hW⟩⟩
theorem Thw.calling {U : State} {g : JFrame} {mk : MethodId} {a : Array Value} (h : Thw U) : Thw (U.calling g mk a) := ⟨fun X hX => va_Nw.same rfl rfl (h.1 X hX), fun Y hY => va_Nw.same rfl rfl (h.2.1 Y hY), fun q hq => by obtain ⟨sa, h9⟩ := h.2.2 q hq; exact ⟨sa, vk_R.same (u := U) rfl h9⟩⟩
def xPre (E : ev) (sz : Nat) (ws : va_W) : State → Prop := fun U => cPre E sz ws U ∧ Thw U ∧ Thz (va_A ws sz) U U.heap
theorem xPre_blind {E : ev} {sz : Nat} {ws : va_W} {av : List Value} : FrameBlind (va_Pc av (xPre E sz ws)) := fun a U g mk q => by
  obtain ⟨q0, ⟨q1, qP, qK, qD⟩, qT, qZ⟩ := q
  exact ⟨q0, ⟨q1, qP, qK.calling, qD⟩, qT.calling, vx_Zq.moved (u := U) (U := U.calling g mk a) (Vm.Alike.refl U.vm) qZ.1, vx_Zq.moved (u := U) (U := U.calling g mk a) (Vm.Alike.refl U.vm) qZ.2⟩
def XC (E : ev) (A : Nat → Prop) (XP : String → va_W → Prop) : String → State → State → Prop := vx_X (fun _ : va_W => True) (fun Ex u t => XP Ex u ∧ cPost E A u t) A
def Xv (E : ev) (l : Launch) (y : MethodName) (wY : List Cond) (rm : Room) (av : List Value) (ws : va_W) (post : va_W → Prop) (XP : String → va_W → Prop) (mc ms : Nat) : Prop :=
  ∀ sz : Nat, vx_Met l y wY rm (va_Pc av (xPre E sz ws)) (va_Qv post (cPost E (va_A ws sz)) (va_A ws sz)) (XC E (va_A ws sz) XP) mc ms (va_A ws sz)
def Xi (E : ev) (l : Launch) (y : MethodName) (wY : List Cond) (rm : Room) (av : List Value) (ws : va_W) (post : Int32 → va_W → Prop) (XP : String → va_W → Prop) (mc ms : Nat) : Prop :=
  ∀ sz : Nat, vx_Met l y wY rm (va_Pc av (xPre E sz ws)) (va_Qi post (cPost E (va_A ws sz)) (va_A ws sz)) (XC E (va_A ws sz) XP) mc ms (va_A ws sz)
def OkX (G : Gt) (E : ev) (l : Launch) (R : Room) (y : MethodName) (cc : ByteArray) (nL : Nat) (Ts : List Cond) (XP : String → va_W → Prop) (mc ms : Nat) : Prop :=
  ∃ (p : Program) (e : Env) (s : State) (m : MethodId) (args : Array Value) (below : List Frame) (meth : Method) (c : Code) (A : Nat → Prop) (Qc : Array Value → State → Outcome → State → Prop),
    G = gg E p l e R s m args below meth c A (vx_MQ below Qc (XC E A XP) args s mc ms A) nL [] ∧ p.tables.exec = Jvm.exec ∧ c.code = cc ∧ c.maxLocals = nL ∧ s.vm.findClass y.cls = some m.cls ∧ meth.name = y.name ∧ (∀ w ∈ Ts, w.before args s = true) ∧ Kw E s ∧ (∀ q : Nat, s.heap.size ≤ q → A q) ∧ Thw s ∧ Thz A s s.heap ∧ l.stackTraces = false ∧ (∀ x ∈ c.exceptionTable.toList, False) ∧ meth.locks = false
theorem OkX.ok {G : Gt} {E : ev} {l : Launch} {R : Room} {y : MethodName} {cc : ByteArray} {nL : Nat} {Ts : List Cond} {XP : String → va_W → Prop} {mc ms : Nat} (C : OkX G E l R y cc nL Ts XP mc ms) : Ok G E l R y cc nL Ts := by
  obtain ⟨p, e, s, m, args, below, meth, c, A, Qc, rfl, hx, hb, hml, hown, hnm, hts, hK, hA, -⟩ := C
  exact ⟨p, e, s, m, args, below, meth, c, A, _, [], rfl, hx, hb, hml, hown, hnm, hts, hK, hA⟩
section EX
variable {E : ev} {l : Launch} {y : MethodName} {wY wR : List Cond} {rm : Room} {av : List Value} {ws : va_W} {mc ms : Nat} {cc : ByteArray} {nL : Nat} {XP : String → va_W → Prop}
theorem enter_xv {post : va_W → Prop} (hl : l.stackTraces = false) (hy : plainName y.cls = true) (hw : wY = Cond.code y cc nL none :: wR) (hlen : (lg_sl av).length ≤ nL)
    (body : ∀ G : Gt, OkX G E l rm y cc nL wY XP mc ms → (∀ (ws' : va_W) (lv : Lv) (pc ce so : Nat), decode cc pc = .ok (.return_, 1) → ce ≤ mc → so ≤ ms → post ws' → G ce so ws' lv pc []) → G 0 0 ws (lv_args 0 av) 0 []) : Xv E l y wY rm av ws post XP mc ms := by
  intro sz
  refine vx_ofW (cc := cc) (maxL := nL) (ret := none) hy hw ?_
  intro p e s m args below meth c s₁ B hml hex hv
  obtain ⟨rfl, ⟨hsz, hP, hK, hD0⟩, hT, hZ⟩ := hv
  subst hsz
  have hx := B.exec
  have hb := B.bytes
  have hr := B.returns
  have hts := atoms_spec (ws := wY) B.pre
  have hown : s.vm.findClass y.cls = some m.cls := findClass_of_methodNamed B.named
  have hlocks := B.notSynchronized
  have hin : meth.name = y.name := (name_of_methodNamed B.named B.method).1
  rw [lg_entry_eq]
  refine body (gg E p l e rm s m av.toArray below meth c (va_A ws s.heap.size) _ nL []) ⟨p, e, s, m, av.toArray, below, meth, c, va_A ws s.heap.size, _, rfl, hx, hb, hml, hown, hin, hts, hK, fun q h => Or.inr h, hT, hZ, hl, hex, hlocks⟩ ?_ s.heap [] _ (by rw [List.append_nil]; exact hP) (by rw [List.append_nil]; exact hD0.self) va_S.rf (lv_entry av hlen)
  intro ws' lv pc ce so hd h1 h2 hpost H locs ls hP' hD' hS' hl'
  rw [List.append_nil] at hP' hD'
  refine vx_ret ?_
  refine W.widen h1 h2 ?_
  exact W.vret hx hb hr (fun t ht hW => ⟨⟨ws', rfl, hpost, by rw [ht]; exact hP', hD'⟩, hS'.F ht⟩) hS'.2.2 hd
theorem enter_xi {post : Int32 → va_W → Prop} (hl : l.stackTraces = false) (hy : plainName y.cls = true) (hw : wY = Cond.code y cc nL (some .int) :: wR) (hlen : (lg_sl av).length ≤ nL)
    (body : ∀ G : Gt, OkX G E l rm y cc nL wY XP mc ms → (∀ (r : Int32) (ws' : va_W) (lv : Lv) (pc ce so : Nat), decode cc pc = .ok (.ireturn, 1) → ce ≤ mc → so ≤ ms → post r ws' → G ce so ws' lv pc [.int r]) → G 0 0 ws (lv_args 0 av) 0 []) : Xi E l y wY rm av ws post XP mc ms := by
  intro sz
  refine vx_ofW (cc := cc) (maxL := nL) (ret := some .int) hy hw ?_
  intro p e s m args below meth c s₁ B hml hex hv
  obtain ⟨rfl, ⟨hsz, hP, hK, hD0⟩, hT, hZ⟩ := hv
  subst hsz
  have hx := B.exec
  have hb := B.bytes
  have hr := B.returns
  have hts := atoms_spec (ws := wY) B.pre
  have hown : s.vm.findClass y.cls = some m.cls := findClass_of_methodNamed B.named
  have hlocks := B.notSynchronized
  have hin : meth.name = y.name := (name_of_methodNamed B.named B.method).1
  rw [lg_entry_eq]
  refine body (gg E p l e rm s m av.toArray below meth c (va_A ws s.heap.size) _ nL []) ⟨p, e, s, m, av.toArray, below, meth, c, va_A ws s.heap.size, _, rfl, hx, hb, hml, hown, hin, hts, hK, fun q h => Or.inr h, hT, hZ, hl, hex, hlocks⟩ ?_ s.heap [] _ (by rw [List.append_nil]; exact hP) (by rw [List.append_nil]; exact hD0.self) va_S.rf (lv_entry av hlen)
  intro r ws' lv pc ce so hd h1 h2 hpost H locs ls hP' hD' hS' hl'
  rw [List.append_nil] at hP' hD'
  refine vx_ret ?_
  refine W.widen h1 h2 ?_
  exact W.iret hx hb hr (fun t ht hW => ⟨⟨r, ws', rfl, hpost, by rw [ht]; exact hP', hD'⟩, hS'.F ht⟩) hS'.2.2 hd
theorem enter_xz {post : Int32 → va_W → Prop} (hl : l.stackTraces = false) (hy : plainName y.cls = true) (hw : wY = Cond.code y cc nL (some .boolean) :: wR) (hlen : (lg_sl av).length ≤ nL)
    (body : ∀ G : Gt, OkX G E l rm y cc nL wY XP mc ms → (∀ (r : Int32) (ws' : va_W) (lv : Lv) (pc ce so : Nat), decode cc pc = .ok (.ireturn, 1) → ce ≤ mc → so ≤ ms → (narrow .boolean (.int r) = .int r) → post r ws' → G ce so ws' lv pc [.int r]) → G 0 0 ws (lv_args 0 av) 0 []) : Xi E l y wY rm av ws post XP mc ms := by
  intro sz
  refine vx_ofW (cc := cc) (maxL := nL) (ret := some .boolean) hy hw ?_
  intro p e s m args below meth c s₁ B hml hex hv
  obtain ⟨rfl, ⟨hsz, hP, hK, hD0⟩, hT, hZ⟩ := hv
  subst hsz
  have hx := B.exec
  have hb := B.bytes
  have hr := B.returns
  have hts := atoms_spec (ws := wY) B.pre
  have hown : s.vm.findClass y.cls = some m.cls := findClass_of_methodNamed B.named
  have hlocks := B.notSynchronized
  have hin : meth.name = y.name := (name_of_methodNamed B.named B.method).1
  rw [lg_entry_eq]
  refine body (gg E p l e rm s m av.toArray below meth c (va_A ws s.heap.size) _ nL []) ⟨p, e, s, m, av.toArray, below, meth, c, va_A ws s.heap.size, _, rfl, hx, hb, hml, hown, hin, hts, hK, fun q h => Or.inr h, hT, hZ, hl, hex, hlocks⟩ ?_ s.heap [] _ (by rw [List.append_nil]; exact hP) (by rw [List.append_nil]; exact hD0.self) va_S.rf (lv_entry av hlen)
  intro r ws' lv pc ce so hd h1 h2 hn hpost H locs ls hP' hD' hS' hl'
  rw [List.append_nil] at hP' hD'
  refine vx_ret ?_
  refine W.widen h1 h2 ?_
  exact W.zret hx hb hr hn (fun t ht hW => ⟨⟨r, ws', rfl, hpost, by rw [ht]; exact hP', hD'⟩, hS'.F ht⟩) hS'.2.2 hd
end EX
section TX
variable {G : Gt} {E : ev} {l : Launch} {R : Room} {y : MethodName} {cc : ByteArray} {nL : Nat} {Ts : List Cond} {ce so : Nat} {ws : va_W} {lv : Lv} {pc : Nat} {st : List Value} {XP : String → va_W → Prop} {mc ms : Nat}
theorem g_throw (C : OkX G E l R y cc nL Ts XP mc ms) {cls text : String} {ik is ic : Nat} (hy : y.cls = RX7) (hX : cls ∈ xcL) (hst : (is, text) ∈ strL) (hfit : Bundle.fit cls = true)
    (hw : Cond.classLink RX7 ik cls ∈ Ts ∧ Cond.initialized cls ∈ Ts) (hw2 : ∀ w ∈ (vx_atS RX7 ic cls nmL).filter goodWord, w ∈ Ts)
    (hbad : ∀ w ∈ (vx_atS RX7 ic cls nmL).filter (fun w => !goodWord w), w ∈ [Cond.castable cls cls, .declares (Bundle.initS "java/lang/RuntimeException"), .declares (Bundle.initS "java/lang/Exception"), .declares (Bundle.initS "java/lang/Throwable")])
    (hgood : ∀ w ∈ Cond.classLink RX7 ik cls :: Cond.initialized cls :: vx_atS RX7 ic cls nmL, vx_ot w = true)
    (d0 : decode cc pc = .ok (.new ik, 3)) (d3 : decode cc (pc + 3) = .ok (.dup, 1)) (d4 : decode cc (pc + 4) = .ok (.ldc is, 2)) (d6 : decode cc (pc + 6) = .ok (.invokespecial ic, 3)) (d9 : decode cc (pc + 9) = .ok (.athrow, 1))
    (hR : (5 < R.frames ∧ 90 ≤ R.locals) ∧ (ce + 1 ≤ R.cells ∧ so + 6 ≤ R.slots) ∧ (ce + 1 ≤ mc ∧ so + 6 ≤ ms)) (hro : (st.map fun v => v.category).sum ≤ 8) (hXP : XP cls ws) : G ce so ws lv pc st := by
  obtain ⟨p, e, s, m, args, below, meth, c, A, Qc, rfl, hx, hb, hml, hown, hnm, hts, hK, hA, hT, hZ, hl, hex, hlocks⟩ := C
  intro H locs ls hP hD hS hl'
  rw [List.append_nil] at hP hD
  obtain ⟨sa, hsa⟩ := hT.2.2 _ hst
  rw [hy] at hown
  refine vx_throwS (A := A) (names := nmL) (text := text) hx hb hl hown hfit (by decide +kernel) (hts _ hw.1) (hts _ hw.2) hsa (vx_hat (fun w hw => hts w (hw2 w hw)) hbad (vx_c (va_Nw.use rfl (hT.1 cls hX)) (vx_c (va_Nw.use rfl (hT.2.1 _ (by decide +kernel))) (vx_c (va_Nw.use rfl (hT.2.1 _ (by decide +kernel))) (vx_c (va_Nw.use rfl (hT.2.1 _ (by decide +kernel))) vx_n))))) hgood hZ.1 hZ.2 hS (hl'.1.trans hml.symm) d0 d3 d4 d6 d9 (fun x h => (hex x h).elim) (by show 2 + 3 < _; omega) (by show _ + (13 * (2 + 1) + 43) ≤ _; omega) hR.2.1.1 hR.2.1.2 hlocks (fun t hvm hsz hk => ?_) hS.2.2 hR.2.2.1 hR.2.2.2
  refine ⟨ws, trivial, ⟨hXP, fun k q hq => (hP k q hq).kept (hk q.1 (hP k q hq).lt), hD⟩, Nat.le_trans hS.1 hsz, fun q h1 h2 => (hk q (Nat.lt_of_lt_of_le h1 hS.1)).trans (hS.2.1 q h1 h2)⟩
variable {y' : MethodName} {wY wR : List Cond} {rm : Room} {b ci index n maxL mc2 ms2 : Nat} {As rest : List Value} {wc wr : va_W} {bytes : ByteArray} {ret : Option FieldType} {CC : String} {T : u_T} {N : Nat} {fs : List Value} {XQ : String → va_W → Prop}
theorem g_callX (C : OkX G E l R y cc nL Ts XP mc ms) {post : va_W → Prop} (hM : Xv E l y' wY rm (.ref b :: As) wc post XQ mc2 ms2) (hG : GoodIn Ts (wsV y.cls index CC y' wY)) (hw : wY = Cond.code y' bytes maxL ret :: wR)
    (hd0 : y'.cls = CC ∧ y'.cls ≠ "java/lang/invoke/MethodHandle" ∧ y'.cls ≠ "java/lang/invoke/VarHandle" ∧ (parseMethodDescriptor y'.desc).map (fun d => d.parameters.length) = some n) (hn : As.length = n)
    (hrm : (rm.cells = mc2 ∧ rm.slots = ms2) ∧ (rm.frames + 1 ≤ R.frames ∧ 8 + (maxL + 11) + rm.locals ≤ R.locals) ∧ (ce + mc2 ≤ R.cells ∧ so + ms2 ≤ R.slots)) (hrx : ce + mc2 ≤ mc ∧ so + ms2 ≤ ms)
    (hd : decode cc pc = .ok (.invokevirtual index, 3)) (hst : st = As.reverse ++ .ref b :: rest) (hro : (rest.map fun v => v.category).sum ≤ 8)
    (hc : vwCl[ci]? = some (CC, T, N)) (he : wc[0]? = some (b, .inr (ci, fs))) (hp : ws.Perm (wr ++ wc))
    (kx : ∀ (Ex : String) (ws' : va_W), XQ Ex ws' → XP Ex (wr ++ ws'))
    (kk : ∀ ws' : va_W, post ws' → G (ce + mc2) (so + ms2) (wr ++ ws') lv (pc + 3) rest) : G ce so ws lv pc st := by
  refine g_perm C.ok hp ?_
  obtain ⟨p, e, s, m, args, below, meth, c, A, Qc, rfl, hx, hb, hml, hown, hnm, hts, hK, hA, hT, hZ, hl, hex, hlocks⟩ := C
  subst hst
  intro H locs ls hP hD hS hl'
  have hPc : Pw E wc H := P_r (P_l hP)
  have hDc : va_D A wc := D_r (D_l hD)
  have hFc : ∀ q, va_A wc H.size q → A q := fun q h => by
    rcases h with ⟨k, e, h⟩ | h
    · exact hDc.2 k _ h
    · exact hA q (Nat.le_trans hS.1 h)
  refine vx_callv (vx_runV (As := As) (rest := rest) ⟨hx, hb, hml, hown, hts⟩ (hM H.size) (cwV n hts hG hw hrm.1.1 hrm.1.2 hd0 hrm.2.1) ⟨xPre_blind, va_recv hK.1 hPc (ci := ci) (q0 := 0) hc he, fun U hU hW => ⟨rfl, ⟨by rw [hU], by rw [hU]; exact hPc, hK.warm hW, hDc.weaken (fun _ _ _ _ => trivial)⟩, hT.warm hW, ((hZ.1.kept (fun a h1 h2 => by rw [hU]; exact hS.2.1 a h1 h2)).moved hW.alike).narrow hFc, ((hZ.2.kept (fun a h1 h2 => by rw [hU]; exact hS.2.1 a h1 h2)).moved hW.alike).narrow hFc⟩⟩ rfl hn hl'.1 rfl (lv_room hro) hd hrm.2.2) hS (fun q _ h => hFc q h) hFc (fun q _ h => hFc q h) (fun Ex cE q9 u t H1 locs1 ht hvm _ hB hz1 hk1 hS1 hcell hcv hcl => ?_) (fun u t H1 locs1 ht hvm hw1 hB hz1 hk1 hS1 => ?_)
  · obtain ⟨hXQ, hP1, hD1⟩ := hB
    rw [ht] at hP1
    obtain ⟨hP2, hD2⟩ := jnP (w1 := u) hP hD hk1 hFc hP1 hD1
    rw [List.append_nil] at hP2 hD2
    refine vx_out (fun x h => (hex x h).elim) hlocks hcell hcv hcl (fun t2 ht2 hvm2 => ?_) hS1.2.2 hrx.1 hrx.2
    exact ⟨wr ++ u, trivial, ⟨kx Ex u hXQ, by rw [ht2]; exact hP2, hD2⟩, hS1.F ht2⟩
  · obtain ⟨hP1, hD1⟩ := hB
    rw [ht] at hP1
    obtain ⟨hP2, hD2⟩ := jnP (w1 := u) hP hD hk1 hFc hP1 hD1
    exact kk u hw1 H1 locs1 ls hP2 hD2 hS1 hl'
end TX
