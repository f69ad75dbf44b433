/-! the law's own methods: they call the class, and catch -/
def ncL : List (String × String) := [("java/lang/IllegalArgumentException", "java/lang/IllegalStateException"), ("java/lang/IllegalStateException", "java/lang/IndexOutOfBoundsException")]
def Ncs (U : State) : Prop := ∀ q ∈ ncL, va_Nc q.1 q.2 U
theorem Ncs.warm {s U : State} (h : Ncs s) (hW : s.WarmedH U.vm) : Ncs U := fun q hq => va_Nc.moved hW.alike (h q hq)
theorem Ncs.calling {U : State} {g : JFrame} {mk : MethodId} {a : Array Value} (h : Ncs U) : Ncs (U.calling g mk a) := fun q hq => va_Nc.moved (u := U) (U := U.calling g mk a) (Vm.Alike.refl U.vm) (h q hq)
def hPre (E : ev) (sz : Nat) (ws : va_W) : State → Prop := fun U => xPre E sz ws U ∧ Ncs U
theorem hPre_blind {E : ev} {sz : Nat} {ws : va_W} {av : List Value} : FrameBlind (va_Pc av (hPre E sz ws)) := fun a U g mk q => by
  obtain ⟨q0, qX, qN⟩ := q
  have h := xPre_blind (E := E) (sz := sz) (ws := ws) (av := av) a U g mk ⟨q0, qX⟩
  exact ⟨h.1, h.2, qN.calling⟩
def Hi (E : ev) (l : Launch) (y : MethodName) (wY : List Cond) (rm : Room) (av : List Value) (ws : va_W) (post : Int32 → va_W → Prop) (mc ms : Nat) : Prop :=
  ∀ sz : Nat, vx_Met l y wY rm (va_Pc av (hPre E sz ws)) (va_Qi post (cPost E (va_A ws sz)) (va_A ws sz)) (XC E (va_A ws sz) (fun _ _ => False)) mc ms (va_A ws sz)
/-- a method with a table of its own -/
def OkH (G : Gt) (E : ev) (l : Launch) (R : Room) (y : MethodName) (cc : ByteArray) (nL : Nat) (Ts : List Cond) (hh : List (Nat × Nat × Nat × Nat)) : Prop :=
  ∃ (p : Program) (e : Env) (s : State) (m : MethodId) (args : Array Value) (below : List Frame) (meth : Method) (c : Code) (A : Nat → Prop) (Q : State → Prop),
    G = gg E p l e R s m args below meth c A Q nL [] ∧ p.tables.exec = Jvm.exec ∧ c.code = cc ∧ c.maxLocals = nL ∧ s.vm.findClass y.cls = some m.cls ∧ meth.name = y.name ∧ (∀ w ∈ Ts, w.before args s = true) ∧ Kw E s ∧ (∀ q : Nat, s.heap.size ≤ q → A q) ∧ Thw s ∧ Thz A s s.heap ∧ Ncs s ∧ c.exceptionTable.toList = tableOf hh
theorem OkH.ok {G : Gt} {E : ev} {l : Launch} {R : Room} {y : MethodName} {cc : ByteArray} {nL : Nat} {Ts : List Cond} {hh : List (Nat × Nat × Nat × Nat)} (C : OkH G E l R y cc nL Ts hh) : Ok G E l R y cc nL Ts := by
  obtain ⟨p, e, s, m, args, below, meth, c, A, Q, rfl, hx, hb, hml, hown, hnm, hts, hK, hA, -⟩ := C
  exact ⟨p, e, s, m, args, below, meth, c, A, _, [], rfl, hx, hb, hml, hown, hnm, hts, hK, hA⟩
/-- a method that calls such ones -/
def OkT (G : Gt) (E : ev) (l : Launch) (R : Room) (y : MethodName) (cc : ByteArray) (nL : Nat) (Ts : List Cond) : Prop :=
  ∃ (p : Program) (e : Env) (s : State) (m : MethodId) (args : Array Value) (below : List Frame) (meth : Method) (c : Code) (A : Nat → Prop) (Q : State → Prop),
    G = gg E p l e R s m args below meth c A Q nL [] ∧ p.tables.exec = Jvm.exec ∧ c.code = cc ∧ c.maxLocals = nL ∧ s.vm.findClass y.cls = some m.cls ∧ meth.name = y.name ∧ (∀ w ∈ Ts, w.before args s = true) ∧ Kw E s ∧ (∀ q : Nat, s.heap.size ≤ q → A q) ∧ Thw s ∧ Thz A s s.heap ∧ Ncs s
theorem enter_h {E : ev} {l : Launch} {y : MethodName} {wY wR : List Cond} {rm : Room} {av : List Value} {ws : va_W} {mc ms : Nat} {cc : ByteArray} {nL : Nat} {hh : List (Nat × Nat × Nat × Nat)} {post : Int32 → va_W → Prop} (hy : plainName y.cls = true) (hw : wY = Cond.codeWith y cc nL (some .int) hh :: wR) (hlen : (lg_sl av).length ≤ nL)
    (body : ∀ G : Gt, OkH G E l rm y cc nL wY hh → (∀ (r : Int32) (ws' : va_W) (lv : Lv) (pc ce so : Nat), decode cc pc = .ok (.ireturn, 1) → ce ≤ mc → so ≤ ms → post r ws' → G ce so ws' lv pc [.int r]) → G 0 0 ws (lv_args 0 av) 0 []) : Hi E l y wY rm av ws post mc ms := by
  intro sz
  refine vx_ofWH (cc := cc) (maxL := nL) (ret := some .int) hy hw ?_
  intro p e s m args below meth c s₁ B hml hv
  obtain ⟨rfl, ⟨⟨hsz, hP, hK, hD0⟩, hT, hZ⟩, hN⟩ := hv
  subst hsz
  have hx := B.exec
  have hb := B.bytes
  have hr := B.returns
  have hts := atoms_spec (ws := wY) B.pre
  have hown : s.vm.findClass y.cls = some m.cls := findClass_of_methodNamed B.named
  have hin : meth.name = y.name := (name_of_methodNamed B.named B.method).1
  have htab : c.exceptionTable.toList = tableOf hh := vx_table (x := y) B (hts _ (by rw [hw]; exact List.mem_cons_self))
  rw [lg_entry_eq]
  refine body (gg E p l e rm s m av.toArray below meth c (va_A ws s.heap.size) _ nL []) ⟨p, e, s, m, av.toArray, below, meth, c, va_A ws s.heap.size, _, rfl, hx, hb, hml, hown, hin, hts, hK, fun q h => Or.inr h, hT, hZ, hN, htab⟩ ?_ s.heap [] _ (by rw [List.append_nil]; exact hP) (by rw [List.append_nil]; exact hD0.self) va_S.rf (lv_entry av hlen)
  intro r ws' lv pc ce so hd h1 h2 hpost H locs ls hP' hD' hS' hl'
  rw [List.append_nil] at hP' hD'
  refine vx_ret ?_
  refine W.widen h1 h2 ?_
  exact W.iret hx hb hr (fun t ht hW => ⟨⟨r, ws', rfl, hpost, by rw [ht]; exact hP', hD'⟩, hS'.F ht⟩) hS'.2.2 hd
section HX
variable {G : Gt} {E : ev} {l : Launch} {R : Room} {y : MethodName} {cc : ByteArray} {nL : Nat} {Ts : List Cond} {ce so : Nat} {ws : va_W} {lv : Lv} {pc : Nat} {st : List Value} {hh : List (Nat × Nat × Nat × Nat)}
variable {y' : MethodName} {wY wR : List Cond} {rm : Room} {b ci index n maxL mc2 ms2 : Nat} {As rest : List Value} {wc wr : va_W} {bytes : ByteArray} {ret : Option FieldType} {CC : String} {T : u_T} {N : Nat} {fs : List Value} {XQ : String → va_W → Prop}
theorem g_callH (C : OkH G E l R y cc nL Ts hh) {post : Int32 → va_W → Prop} (hM : Xi E l y' wY rm (.ref b :: As) wc post XQ mc2 ms2) (hG : GoodIn Ts (wsV y.cls index CC y' wY)) (hw : wY = Cond.code y' bytes maxL ret :: wR)
    (hd0 : y'.cls = CC ∧ y'.cls ≠ "java/lang/invoke/MethodHandle" ∧ y'.cls ≠ "java/lang/invoke/VarHandle" ∧ (parseMethodDescriptor y'.desc).map (fun d => d.parameters.length) = some n) (hn : As.length = n)
    (hrm : (rm.cells = mc2 ∧ rm.slots = ms2) ∧ (rm.frames + 1 ≤ R.frames ∧ 8 + (maxL + 11) + rm.locals ≤ R.locals) ∧ (ce + mc2 ≤ R.cells ∧ so + ms2 ≤ R.slots))
    (hd : decode cc pc = .ok (.invokevirtual index, 3)) (hst : st = As.reverse ++ .ref b :: rest) (hro : (rest.map fun v => v.category).sum ≤ 8)
    (hc : vwCl[ci]? = some (CC, T, N)) (he : wc[0]? = some (b, .inr (ci, fs))) (hp : ws.Perm (wr ++ wc))
    (kx : ∀ (Ex : String) (ws' : va_W), XQ Ex ws' → ∃ (pre suf : List (Nat × Nat × Nat × Nat)) (x : Nat × Nat × Nat × Nat), hh = pre ++ x :: suf ∧ (∀ z ∈ pre, z.2.2.2 ≠ 0 ∧ ∃ nm : String, Cond.classLink y.cls z.2.2.2 nm ∈ Ts ∧ (Ex, nm) ∈ ncL) ∧ (x.1 ≤ pc ∧ pc < x.2.1) ∧ x.2.2.2 ≠ 0 ∧ Cond.classLink y.cls x.2.2.2 Ex ∈ Ts ∧ Ex ∈ xcL ∧ ∀ q : Nat, G (ce + mc2) (so + ms2) (wr ++ ws') lv x.2.2.1 [.ref q])
    (kk : ∀ (r : Int32) (ws' : va_W), post r ws' → G (ce + mc2) (so + ms2) (wr ++ ws') lv (pc + 3) (.int r :: rest)) : G ce so ws lv pc st := by
  refine g_perm C.ok hp ?_
  obtain ⟨p, e, s, m, args, below, meth, c, A, Q, rfl, hx, hb, hml, hown, hnm, hts, hK, hA, hT, hZ, hN, hex⟩ := C
  subst hst
  intro H locs ls hP hD hS hl'
  have hPc : Pw E wc H := P_r (P_l hP)
  have hDc : va_D A wc := D_r (D_l hD)
  have hFc : ∀ q, va_A wc H.size q → A q := fun q h => by
    rcases h with ⟨k, e, h⟩ | h
    · exact hDc.2 k _ h
    · exact hA q (Nat.le_trans hS.1 h)
  refine vx_calli (vx_runV (As := As) (rest := rest) ⟨hx, hb, hml, hown, hts⟩ (hM H.size) (cwV n hts hG hw hrm.1.1 hrm.1.2 hd0 hrm.2.1) ⟨xPre_blind, va_recv hK.1 hPc (ci := ci) (q0 := 0) hc he, fun U hU hW => ⟨rfl, ⟨by rw [hU], by rw [hU]; exact hPc, hK.warm hW, hDc.weaken (fun _ _ _ _ => trivial)⟩, hT.warm hW, ((hZ.1.kept (fun a h1 h2 => by rw [hU]; exact hS.2.1 a h1 h2)).moved hW.alike).narrow hFc, ((hZ.2.kept (fun a h1 h2 => by rw [hU]; exact hS.2.1 a h1 h2)).moved hW.alike).narrow hFc⟩⟩ rfl hn hl'.1 rfl (lv_room hro) hd hrm.2.2) hS (fun q _ h => hFc q h) hFc (fun q _ h => hFc q h) (fun Ex cE q9 u t H1 locs1 ht hvm _ hB hz1 hk1 hS1 hcell hcv hcl => ?_) (fun r u t H1 locs1 ht hvm hw1 hB hz1 hk1 hS1 => ?_)
  · obtain ⟨hXQ, hP1, hD1⟩ := hB
    rw [ht] at hP1
    obtain ⟨hP2, hD2⟩ := jnP (w1 := u) hP hD hk1 hFc hP1 hD1
    obtain ⟨pre, suf, x, e1, e2, e3, e4, e5, e6, e7⟩ := kx Ex u hXQ
    refine ct_catch (own := y.cls) (name := Ex) hown (tableOf pre) ⟨x.1, x.2.1, x.2.2.1, x.2.2.2⟩ (tableOf suf) (by rw [hex, e1]; simp [tableOf]) (fun z hz => ?_) ?_ e4 (hts _ e5) (va_Nw.use rfl (hT.1 Ex e6)) hcell hcv hcl (e7 q9 H1 locs1 ls hP2 hD2 hS1 hl')
    · obtain ⟨z0, hz0, rfl⟩ := List.mem_map.mp hz
      obtain ⟨g1, nm9, g2, g3⟩ := e2 z0 hz0
      exact Or.inr ⟨g1, nm9, hts _ g2, hN _ g3⟩
    · show (decide (x.1 ≤ pc) && decide (pc < x.2.1)) = true
      rw [decide_eq_true e3.1, decide_eq_true e3.2]; rfl
  · obtain ⟨hP1, hD1⟩ := hB
    rw [ht] at hP1
    obtain ⟨hP2, hD2⟩ := jnP (w1 := u) hP hD hk1 hFc hP1 hD1
    exact kk r u hw1 H1 locs1 ls hP2 hD2 hS1 hl'
theorem OkT.ok (C : OkT G E l R y cc nL Ts) : Ok G E l R y cc nL Ts := by
  obtain ⟨p, e, s, m, args, below, meth, c, A, Q, rfl, hx, hb, hml, hown, hnm, hts, hK, hA, -⟩ := C
  exact ⟨p, e, s, m, args, below, meth, c, A, _, [], rfl, hx, hb, hml, hown, hnm, hts, hK, hA⟩
theorem g_callL (C : OkT G E l R y cc nL Ts) {post : Int32 → va_W → Prop} (hM : Hi E l y' wY rm As wc post mc2 ms2) (hG : GoodIn Ts (va_wsS y.cls index y' wY)) (hw : wY = Cond.codeWith y' bytes maxL ret hh :: wR)
    (hd0 : y'.cls ≠ "java/lang/invoke/MethodHandle" ∧ y'.cls ≠ "java/lang/invoke/VarHandle" ∧ (parseMethodDescriptor y'.desc).map (fun d => d.parameters.length) = some n) (hn : As.length = n)
    (hrm : (rm.cells = mc2 ∧ rm.slots = ms2) ∧ (rm.frames + 1 ≤ R.frames ∧ 8 + (maxL + 11) + rm.locals ≤ R.locals) ∧ (ce + mc2 ≤ R.cells ∧ so + ms2 ≤ R.slots))
    (hd : decode cc pc = .ok (.invokestatic index, 3)) (hst : st = As.reverse ++ rest) (hro : (rest.map fun v => v.category).sum ≤ 8)
    (hp : ws.Perm (wr ++ wc))
    (kk : ∀ (r : Int32) (ws' : va_W), post r ws' → G (ce + mc2) (so + ms2) (wr ++ ws') lv (pc + 3) (.int r :: rest)) : G ce so ws lv pc st := by
  refine g_perm C.ok hp ?_
  obtain ⟨p, e, s, m, args, below, meth, c, A, Q, rfl, hx, hb, hml, hown, hnm, hts, hK, hA, hT, hZ, hN⟩ := C
  subst hst
  intro H locs ls hP hD hS hl'
  have hPc : Pw E wc H := P_r (P_l hP)
  have hDc : va_D A wc := D_r (D_l hD)
  have hFc : ∀ q, va_A wc H.size q → A q := fun q h => by
    rcases h with ⟨k, e, h⟩ | h
    · exact hDc.2 k _ h
    · exact hA q (Nat.le_trans hS.1 h)
  refine vx_calli (vx_runSX (hh := hh) (As := As) (rest := rest) ⟨hx, hb, hml, hown, hts⟩ (hM H.size) (vx_cwSW n hts hG hw hrm.1.1 hrm.1.2 hd0 hrm.2.1) ⟨hPre_blind, fun U hU hW => ⟨rfl, ⟨⟨by rw [hU], by rw [hU]; exact hPc, hK.warm hW, hDc.weaken (fun _ _ _ _ => trivial)⟩, hT.warm hW, ((hZ.1.kept (fun a h1 h2 => by rw [hU]; exact hS.2.1 a h1 h2)).moved hW.alike).narrow hFc, ((hZ.2.kept (fun a h1 h2 => by rw [hU]; exact hS.2.1 a h1 h2)).moved hW.alike).narrow hFc⟩, hN.warm hW⟩⟩ rfl hn hl'.1 rfl (lv_room hro) hd hrm.2.2) hS (fun q _ h => hFc q h) hFc (fun q _ h => hFc q h) (fun Ex cE q9 u t H1 locs1 ht hvm _ hB hz1 hk1 hS1 hcell hcv hcl => hB.1.elim) (fun r u t H1 locs1 ht hvm hw1 hB hz1 hk1 hS1 => ?_)
  obtain ⟨hP1, hD1⟩ := hB
  rw [ht] at hP1
  obtain ⟨hP2, hD2⟩ := jnP (w1 := u) hP hD hk1 hFc hP1 hD1
  exact kk r u hw1 H1 locs1 ls hP2 hD2 hS1 hl'
end HX
/-- the cell in which the answer is laid -/
def oc (E : ev) (o : Nat) (f : Nat → Int) : Nat × va_E := (o, .inl (E.2.2.2.1, 1, .inr (.inl (qL f))))
/-- what such a method gives: 0 and the answer laid down, or the number of the row that caught -/
def HP (E : ev) (o : Nat) (f : Nat → Int) (rows : List (String × Int)) (post : Int32 → va_W → Prop) (XQ : String → va_W → Prop) : Int32 → va_W → Prop := fun r w =>
  (∃ (a : Int) (wc : va_W), (-2147483648 ≤ a ∧ a < 2147483648) ∧ post (zI a) wc ∧ r = zI 0 ∧ w = oc E o (cset f 0 a) :: wc) ∨ ∃ (Ex : String) (k : Int) (wc : va_W), (Ex, k) ∈ rows ∧ XQ Ex wc ∧ r = zI k ∧ w = oc E o f :: wc
