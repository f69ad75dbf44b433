/-! contracts in the words of the judgement, their entry, and calls of them -/
def cPre (E : ev) (sz : Nat) (ws : va_W) : State → Prop := fun U => U.heap.size = sz ∧ Pw E ws U.heap ∧ Kw E U ∧ va_D (fun _ => True) ws
def cPost (E : ev) (A : Nat → Prop) (ws : va_W) : State → Prop := fun t => Pw E ws t.heap ∧ va_D A ws
def Mv (E : ev) (l : Launch) (y : MethodName) (wY : List Cond) (rm : Room) (av : List Value) (ws : va_W) (post : va_W → Prop) (mc ms : Nat) : Prop :=
  ∀ sz : Nat, Met l y wY rm (va_Pc av (cPre E sz ws)) (va_Qv post (cPost E (va_A ws sz)) (va_A ws sz)) mc ms (va_A ws sz)
def Mi (E : ev) (l : Launch) (y : MethodName) (wY : List Cond) (rm : Room) (av : List Value) (ws : va_W) (post : Int32 → va_W → Prop) (mc ms : Nat) : Prop :=
  ∀ sz : Nat, Met l y wY rm (va_Pc av (cPre E sz ws)) (va_Qi post (cPost E (va_A ws sz)) (va_A ws sz)) mc ms (va_A ws sz)
def Ml (E : ev) (l : Launch) (y : MethodName) (wY : List Cond) (rm : Room) (av : List Value) (ws : va_W) (post : Int64 → va_W → Prop) (mc ms : Nat) : Prop :=
  ∀ sz : Nat, Met l y wY rm (va_Pc av (cPre E sz ws)) (va_Ql post (cPost E (va_A ws sz)) (va_A ws sz)) mc ms (va_A ws sz)
def Mr (E : ev) (l : Launch) (y : MethodName) (wY : List Cond) (rm : Room) (av : List Value) (ws : va_W) (post : Nat → va_W → Prop) (mc ms : Nat) : Prop :=
  ∀ sz : Nat, Met l y wY rm (va_Pc av (cPre E sz ws)) (va_Qr (fun u : Nat × va_W => post u.1 u.2) (fun u a t => u.1 = a ∧ cPost E (va_A ws sz) u.2 t) (va_A ws sz)) mc ms (va_A ws sz)
theorem cPre_blind {E : ev} {sz : Nat} {ws : va_W} {av : List Value} : FrameBlind (va_Pc av (cPre E sz ws)) := fun a U g mk q => by
  obtain ⟨q0, q1, qP, qK, qD⟩ := q
  exact ⟨q0, q1, qP, qK.calling, qD⟩
section EN
variable {E : ev} {l : Launch} {y : MethodName} {wY wR : List Cond} {rm : Room} {av : List Value} {ws : va_W} {mc ms : Nat} {cc : ByteArray} {nL : Nat}
theorem enter_v {post : va_W → Prop} (hy : plainName y.cls = true) (hw : wY = Cond.code y cc nL none :: wR) (hlen : (lg_sl av).length ≤ nL)
    (body : ∀ G : Gt, Ok G E l rm y cc nL wY → (∀ (ws' : va_W) (lv : Lv) (pc ce so : Nat), decode cc pc = .ok (.return_, 1) → ce ≤ mc → so ≤ ms → post ws' → G ce so ws' lv pc []) → G 0 0 ws (lv_args 0 av) 0 []) : Mv E l y wY rm av ws post mc ms := by
  intro sz
  refine Met.ofW (cc := cc) (maxL := nL) (ret := none) hy hw ?_
  intro p e s m args below meth c s₁ B hml hv
  obtain ⟨rfl, hsz, hP, hK, hD0⟩ := hv
  subst hsz
  have hx := B.exec
  have hb := B.bytes
  have hr := B.returns
  have hts := atoms_spec (ws := wY) B.pre
  have hown : s.vm.findClass y.cls = some m.cls := findClass_of_methodNamed B.named
  have hlocks := B.notSynchronized
  have hin : meth.name = y.name := (name_of_methodNamed B.named B.method).1
  rw [lg_entry_eq]
  refine body (gg E p l e rm s m av.toArray below meth c (va_A ws s.heap.size) _ nL []) ⟨p, e, s, m, av.toArray, below, meth, c, va_A ws s.heap.size, _, [], rfl, hx, hb, hml, hown, hin, hts, hK, fun q h => Or.inr h⟩ ?_ s.heap [] _ (by rw [List.append_nil]; exact hP) (by rw [List.append_nil]; exact hD0.self) va_S.rf (lv_entry av hlen)
  intro ws' lv pc ce so hd h1 h2 hpost H locs ls hP' hD' hS' hl'
  rw [List.append_nil] at hP' hD'
  refine W.widen h1 h2 ?_
  exact W.vret hx hb hr (fun t ht hW => ⟨⟨ws', rfl, hpost, by rw [ht]; exact hP', hD'⟩, hS'.F ht⟩) hS'.2.2 hd
theorem enter_i {post : Int32 → va_W → Prop} (hy : plainName y.cls = true) (hw : wY = Cond.code y cc nL (some .int) :: wR) (hlen : (lg_sl av).length ≤ nL)
    (body : ∀ G : Gt, Ok G E l rm y cc nL wY → (∀ (r : Int32) (ws' : va_W) (lv : Lv) (pc ce so : Nat), decode cc pc = .ok (.ireturn, 1) → ce ≤ mc → so ≤ ms → post r ws' → G ce so ws' lv pc [.int r]) → G 0 0 ws (lv_args 0 av) 0 []) : Mi E l y wY rm av ws post mc ms := by
  intro sz
  refine Met.ofW (cc := cc) (maxL := nL) (ret := some .int) hy hw ?_
  intro p e s m args below meth c s₁ B hml hv
  obtain ⟨rfl, hsz, hP, hK, hD0⟩ := hv
  subst hsz
  have hx := B.exec
  have hb := B.bytes
  have hr := B.returns
  have hts := atoms_spec (ws := wY) B.pre
  have hown : s.vm.findClass y.cls = some m.cls := findClass_of_methodNamed B.named
  have hlocks := B.notSynchronized
  have hin : meth.name = y.name := (name_of_methodNamed B.named B.method).1
  rw [lg_entry_eq]
  refine body (gg E p l e rm s m av.toArray below meth c (va_A ws s.heap.size) _ nL []) ⟨p, e, s, m, av.toArray, below, meth, c, va_A ws s.heap.size, _, [], rfl, hx, hb, hml, hown, hin, hts, hK, fun q h => Or.inr h⟩ ?_ s.heap [] _ (by rw [List.append_nil]; exact hP) (by rw [List.append_nil]; exact hD0.self) va_S.rf (lv_entry av hlen)
  intro r ws' lv pc ce so hd h1 h2 hpost H locs ls hP' hD' hS' hl'
  rw [List.append_nil] at hP' hD'
  refine W.widen h1 h2 ?_
  exact W.iret hx hb hr (fun t ht hW => ⟨⟨r, ws', rfl, hpost, by rw [ht]; exact hP', hD'⟩, hS'.F ht⟩) hS'.2.2 hd
theorem enter_z {post : Int32 → va_W → Prop} (hy : plainName y.cls = true) (hw : wY = Cond.code y cc nL (some .boolean) :: wR) (hlen : (lg_sl av).length ≤ nL)
    (body : ∀ G : Gt, Ok G E l rm y cc nL wY → (∀ (r : Int32) (ws' : va_W) (lv : Lv) (pc ce so : Nat), decode cc pc = .ok (.ireturn, 1) → ce ≤ mc → so ≤ ms → (narrow .boolean (.int r) = .int r) → post r ws' → G ce so ws' lv pc [.int r]) → G 0 0 ws (lv_args 0 av) 0 []) : Mi E l y wY rm av ws post mc ms := by
  intro sz
  refine Met.ofW (cc := cc) (maxL := nL) (ret := some .boolean) hy hw ?_
  intro p e s m args below meth c s₁ B hml hv
  obtain ⟨rfl, hsz, hP, hK, hD0⟩ := hv
  subst hsz
  have hx := B.exec
  have hb := B.bytes
  have hr := B.returns
  have hts := atoms_spec (ws := wY) B.pre
  have hown : s.vm.findClass y.cls = some m.cls := findClass_of_methodNamed B.named
  have hlocks := B.notSynchronized
  have hin : meth.name = y.name := (name_of_methodNamed B.named B.method).1
  rw [lg_entry_eq]
  refine body (gg E p l e rm s m av.toArray below meth c (va_A ws s.heap.size) _ nL []) ⟨p, e, s, m, av.toArray, below, meth, c, va_A ws s.heap.size, _, [], rfl, hx, hb, hml, hown, hin, hts, hK, fun q h => Or.inr h⟩ ?_ s.heap [] _ (by rw [List.append_nil]; exact hP) (by rw [List.append_nil]; exact hD0.self) va_S.rf (lv_entry av hlen)
  intro r ws' lv pc ce so hd h1 h2 hn hpost H locs ls hP' hD' hS' hl'
  rw [List.append_nil] at hP' hD'
  refine W.widen h1 h2 ?_
  exact W.zret hx hb hr hn (fun t ht hW => ⟨⟨r, ws', rfl, hpost, by rw [ht]; exact hP', hD'⟩, hS'.F ht⟩) hS'.2.2 hd
theorem enter_l {post : Int64 → va_W → Prop} (hy : plainName y.cls = true) (hw : wY = Cond.code y cc nL (some .long) :: wR) (hlen : (lg_sl av).length ≤ nL)
    (body : ∀ G : Gt, Ok G E l rm y cc nL wY → (∀ (r : Int64) (ws' : va_W) (lv : Lv) (pc ce so : Nat), decode cc pc = .ok (.lreturn, 1) → ce ≤ mc → so ≤ ms → post r ws' → G ce so ws' lv pc [.long r]) → G 0 0 ws (lv_args 0 av) 0 []) : Ml E l y wY rm av ws post mc ms := by
  intro sz
  refine Met.ofW (cc := cc) (maxL := nL) (ret := some .long) hy hw ?_
  intro p e s m args below meth c s₁ B hml hv
  obtain ⟨rfl, hsz, hP, hK, hD0⟩ := hv
  subst hsz
  have hx := B.exec
  have hb := B.bytes
  have hr := B.returns
  have hts := atoms_spec (ws := wY) B.pre
  have hown : s.vm.findClass y.cls = some m.cls := findClass_of_methodNamed B.named
  have hlocks := B.notSynchronized
  have hin : meth.name = y.name := (name_of_methodNamed B.named B.method).1
  rw [lg_entry_eq]
  refine body (gg E p l e rm s m av.toArray below meth c (va_A ws s.heap.size) _ nL []) ⟨p, e, s, m, av.toArray, below, meth, c, va_A ws s.heap.size, _, [], rfl, hx, hb, hml, hown, hin, hts, hK, fun q h => Or.inr h⟩ ?_ s.heap [] _ (by rw [List.append_nil]; exact hP) (by rw [List.append_nil]; exact hD0.self) va_S.rf (lv_entry av hlen)
  intro r ws' lv pc ce so hd h1 h2 hpost H locs ls hP' hD' hS' hl'
  rw [List.append_nil] at hP' hD'
  refine W.widen h1 h2 ?_
  exact W.lret hx hb hr (fun t ht hW => ⟨⟨r, ws', rfl, hpost, by rw [ht]; exact hP', hD'⟩, hS'.F ht⟩) hS'.2.2 hd
end EN
section CA
variable {G : Gt} {E : ev} {l : Launch} {R : Room} {y : MethodName} {cc : ByteArray} {nL : Nat} {Ts : List Cond} {ce so : Nat} {ws : va_W} {lv : Lv} {pc : Nat} {st : List Value}
variable {y' : MethodName} {wY wR : List Cond} {rm : Room} {b ci index n maxL mc ms : Nat} {As rest : List Value} {wc wr : va_W} {bytes : ByteArray} {ret : Option FieldType} {CC : String} {T : u_T} {N : Nat} {fs : List Value}
theorem g_callV (C : Ok G E l R y cc nL Ts) {post : va_W → Prop} (hM : Mv E l y' wY rm (.ref b :: As) wc post mc ms) (hG : GoodIn Ts (wsV y.cls index CC y' wY)) (hw : wY = Cond.code y' bytes maxL ret :: wR)
    (hd0 : y'.cls = CC ∧ y'.cls ≠ "java/lang/invoke/MethodHandle" ∧ y'.cls ≠ "java/lang/invoke/VarHandle" ∧ (parseMethodDescriptor y'.desc).map (fun d => d.parameters.length) = some n) (hn : As.length = n)
    (hrm : (rm.cells = mc ∧ rm.slots = ms) ∧ (rm.frames + 1 ≤ R.frames ∧ 8 + (maxL + 11) + rm.locals ≤ R.locals) ∧ (ce + mc ≤ R.cells ∧ so + ms ≤ R.slots))
    (hd : decode cc pc = .ok (.invokevirtual index, 3)) (hst : st = As.reverse ++ .ref b :: rest) (hro : (rest.map fun v => v.category).sum ≤ 8)
    (hc : vwCl[ci]? = some (CC, T, N)) (he : wc[0]? = some (b, .inr (ci, fs)))
    (isC isR : List Nat) (hC : isC.map (fun i => ws[i]?) = wc.map some) (hR : isR.map (fun i => ws[i]?) = wr.map some) (hnd : va_nd isC = true ∧ va_nd isR = true ∧ ∀ i ∈ isR, i ∉ isC)
    (kk : ∀ ws' : va_W, post ws' → G (ce + mc) (so + ms) (wr ++ ws') lv (pc + 3) rest) : G ce so ws lv pc st := by
  obtain ⟨p, e, s, m, args, below, meth, c, A, Q, tl, rfl, hx, hb, hml, hown, hnm, hts, hK, hA⟩ := C
  subst hst
  intro H locs ls hP hD hS hl
  have hPc : Pw E wc H := fun k q hq => by
    have h1 : (isC.map (fun i => ws[i]?))[k]? = some (some q) := by rw [hC, List.getElem?_map, hq]; rfl
    rw [List.getElem?_map] at h1
    cases hi : isC[k]? with
    | none => rw [hi] at h1; cases h1
    | some i => rw [hi] at h1; exact (P_l hP) i q (Option.some.inj h1)
  have hDc : va_D A wc := (D_l hD).sub isC hnd.1 hC
  have hFc := free_l (wc := wc) hD hS hA isC hC
  refine va_callv (va_runV (As := As) (rest := rest) ⟨hx, hb, hml, hown, hts⟩ (hM H.size) (cwV n hts hG hw hrm.1.1 hrm.1.2 hd0 hrm.2.1) ⟨cPre_blind, va_recv hK.1 hPc (ci := ci) (q0 := 0) hc he, fun U hU hW => ⟨rfl, by rw [hU], by rw [hU]; exact hPc, hK.warm hW, hDc.weaken (fun _ _ _ _ => trivial)⟩⟩ rfl hn hl.1 rfl (lv_room hro) hd hrm.2.2) hS (fun q _ h => hFc q h) hFc (fun u t H1 locs1 ht hvm hw1 hB hz1 hk1 hS1 => ?_)
  obtain ⟨hP1, hD1⟩ := hB
  rw [ht] at hP1
  obtain ⟨hP2, hD2⟩ := jn (wr := wr) (w1 := u) hP hD isC isR hC hR hnd.2.1 hnd.2.2 hk1 hFc hP1 hD1
  exact kk u hw1 H1 locs1 ls hP2 hD2 hS1 hl
theorem g_callVi (C : Ok G E l R y cc nL Ts) {post : Int32 → va_W → Prop} (hM : Mi E l y' wY rm (.ref b :: As) wc post mc ms) (hG : GoodIn Ts (wsV y.cls index CC y' wY)) (hw : wY = Cond.code y' bytes maxL ret :: wR)
    (hd0 : y'.cls = CC ∧ y'.cls ≠ "java/lang/invoke/MethodHandle" ∧ y'.cls ≠ "java/lang/invoke/VarHandle" ∧ (parseMethodDescriptor y'.desc).map (fun d => d.parameters.length) = some n) (hn : As.length = n)
    (hrm : (rm.cells = mc ∧ rm.slots = ms) ∧ (rm.frames + 1 ≤ R.frames ∧ 8 + (maxL + 11) + rm.locals ≤ R.locals) ∧ (ce + mc ≤ R.cells ∧ so + ms ≤ R.slots))
    (hd : decode cc pc = .ok (.invokevirtual index, 3)) (hst : st = As.reverse ++ .ref b :: rest) (hro : (rest.map fun v => v.category).sum ≤ 8)
    (hc : vwCl[ci]? = some (CC, T, N)) (he : wc[0]? = some (b, .inr (ci, fs)))
    (isC isR : List Nat) (hC : isC.map (fun i => ws[i]?) = wc.map some) (hR : isR.map (fun i => ws[i]?) = wr.map some) (hnd : va_nd isC = true ∧ va_nd isR = true ∧ ∀ i ∈ isR, i ∉ isC)
    (kk : ∀ (r : Int32) (ws' : va_W), post r ws' → G (ce + mc) (so + ms) (wr ++ ws') lv (pc + 3) (.int r :: rest)) : G ce so ws lv pc st := by
  obtain ⟨p, e, s, m, args, below, meth, c, A, Q, tl, rfl, hx, hb, hml, hown, hnm, hts, hK, hA⟩ := C
  subst hst
  intro H locs ls hP hD hS hl
  have hPc : Pw E wc H := fun k q hq => by
    have h1 : (isC.map (fun i => ws[i]?))[k]? = some (some q) := by rw [hC, List.getElem?_map, hq]; rfl
    rw [List.getElem?_map] at h1
    cases hi : isC[k]? with
    | none => rw [hi] at h1; cases h1
    | some i => rw [hi] at h1; exact (P_l hP) i q (Option.some.inj h1)
  have hDc : va_D A wc := (D_l hD).sub isC hnd.1 hC
  have hFc := free_l (wc := wc) hD hS hA isC hC
  refine va_calli (va_runV (As := As) (rest := rest) ⟨hx, hb, hml, hown, hts⟩ (hM H.size) (cwV n hts hG hw hrm.1.1 hrm.1.2 hd0 hrm.2.1) ⟨cPre_blind, va_recv hK.1 hPc (ci := ci) (q0 := 0) hc he, fun U hU hW => ⟨rfl, by rw [hU], by rw [hU]; exact hPc, hK.warm hW, hDc.weaken (fun _ _ _ _ => trivial)⟩⟩ rfl hn hl.1 rfl (lv_room hro) hd hrm.2.2) hS (fun q _ h => hFc q h) hFc (fun r u t H1 locs1 ht hvm hw1 hB hz1 hk1 hS1 => ?_)
  obtain ⟨hP1, hD1⟩ := hB
  rw [ht] at hP1
  obtain ⟨hP2, hD2⟩ := jn (wr := wr) (w1 := u) hP hD isC isR hC hR hnd.2.1 hnd.2.2 hk1 hFc hP1 hD1
  exact kk r u hw1 H1 locs1 ls hP2 hD2 hS1 hl
/-- a private static method across the nest -/
theorem g_callSNi (C : Ok G E l R y cc nL Ts) {post : Int32 → va_W → Prop} (hM : Mi E l y' wY rm As [] post 0 0) (hN : (y.cls, index, y') ∈ nestL) (hG : GoodIn Ts wY) (hst0 : Cond.static y' ∈ Ts ∧ Cond.initialized y'.cls ∈ Ts) (hw : wY = Cond.code y' bytes maxL ret :: wR)
    (hd0 : y'.cls ≠ "java/lang/invoke/MethodHandle" ∧ y'.cls ≠ "java/lang/invoke/VarHandle" ∧ (parseMethodDescriptor y'.desc).map (fun d => d.parameters.length) = some n) (hn : As.length = n)
    (hrm : (rm.cells = 0 ∧ rm.slots = 0) ∧ (rm.frames + 1 ≤ R.frames ∧ 8 + (maxL + 11) + rm.locals ≤ R.locals) ∧ (ce + 0 ≤ R.cells ∧ so + 0 ≤ R.slots))
    (hd : decode cc pc = .ok (.invokestatic index, 3)) (hst : st = As.reverse ++ rest) (hro : (rest.map fun v => v.category).sum ≤ 8)
    (kk : ∀ (r : Int32), (∃ w, post r w) → G ce so ws lv (pc + 3) (.int r :: rest)) : G ce so ws lv pc st := by
  obtain ⟨p, e, s, m, args, below, meth, c, A, Q, tl, rfl, hx, hb, hml, hown, hnm, hts, hK, hA⟩ := C
  subst hst
  intro H locs ls hP hD hS hl
  have hF : ∀ q, va_A [] H.size q → A q := fun q h => by
    rcases h with ⟨k, e, h⟩ | h
    · simp at h
    · exact hA q (Nat.le_trans hS.1 h)
  refine va_calli (va_runSN (As := As) (rest := rest) ⟨hx, hb, hml, hown, hts⟩ (hM H.size) ⟨va_cnB n hts hG hw hrm.1.1 hrm.1.2 (hK.2.1 _ hN) (hts _ hst0.2) hd0 hrm.2.1, hts _ hst0.1, trivial⟩ ⟨cPre_blind, fun U hU hW => ⟨rfl, by rw [hU], (fun k q h => by simp at h), hK.warm hW, ⟨fun i j p q h => by simp at h, fun k q h => by simp at h⟩⟩⟩ rfl hn hl.1 rfl (lv_room hro) hd hrm.2.2) hS (fun q _ h => hF q h) hF (fun r u t H1 locs1 ht hvm hw1 hB hz1 hk1 hS1 => ?_)
  have hkeep : ∀ (k : Nat) (q : Nat × va_E), (ws ++ tl)[k]? = some q → H1[q.1]? = H[q.1]? := fun k q hq => by
    have hlt : q.1 < H.size := va_at.lt (hP k q hq)
    refine hk1 q.1 hlt (fun h => ?_)
    rcases h with ⟨k, e, h⟩ | h
    · simp at h
    · omega
  exact kk r ⟨u, hw1⟩ H1 locs1 ls (va_P.kept hP hkeep) hD hS1 hl
/-- a static method of the own class -/
theorem g_callSi (C : Ok G E l R y cc nL Ts) {post : Int32 → va_W → Prop} (hM : Mi E l y' wY rm As wc post mc ms) (hG : GoodIn Ts (wsS y.cls index y' wY)) (hw : wY = Cond.code y' bytes maxL ret :: wR)
    (hd0 : y'.cls = y.cls ∧ y'.cls ≠ "java/lang/invoke/MethodHandle" ∧ y'.cls ≠ "java/lang/invoke/VarHandle" ∧ (parseMethodDescriptor y'.desc).map (fun d => d.parameters.length) = some n) (hn : As.length = n)
    (hrm : (rm.cells = mc ∧ rm.slots = ms) ∧ (rm.frames + 1 ≤ R.frames ∧ 8 + (maxL + 11) + rm.locals ≤ R.locals) ∧ (ce + mc ≤ R.cells ∧ so + ms ≤ R.slots))
    (hd : decode cc pc = .ok (.invokestatic index, 3)) (hst : st = As.reverse ++ rest) (hro : (rest.map fun v => v.category).sum ≤ 8)
    (isC isR : List Nat) (hC : isC.map (fun i => ws[i]?) = wc.map some) (hR : isR.map (fun i => ws[i]?) = wr.map some) (hnd : va_nd isC = true ∧ va_nd isR = true ∧ ∀ i ∈ isR, i ∉ isC)
    (kk : ∀ (r : Int32) (ws' : va_W), post r ws' → G (ce + mc) (so + ms) (wr ++ ws') lv (pc + 3) (.int r :: rest)) : G ce so ws lv pc st := by
  obtain ⟨p, e, s, m, args, below, meth, c, A, Q, tl, rfl, hx, hb, hml, hown, hnm, hts, hK, hA⟩ := C
  subst hst
  intro H locs ls hP hD hS hl
  have hPc : Pw E wc H := fun k q hq => by
    have h1 : (isC.map (fun i => ws[i]?))[k]? = some (some q) := by rw [hC, List.getElem?_map, hq]; rfl
    rw [List.getElem?_map] at h1
    cases hi : isC[k]? with
    | none => rw [hi] at h1; cases h1
    | some i => rw [hi] at h1; exact (P_l hP) i q (Option.some.inj h1)
  have hDc : va_D A wc := (D_l hD).sub isC hnd.1 hC
  have hFc := free_l (wc := wc) hD hS hA isC hC
  refine va_calli (va_runS (As := As) (rest := rest) ⟨hx, hb, hml, hown, hts⟩ (hM H.size) (cwS n hts hG hw hrm.1.1 hrm.1.2 hd0 hrm.2.1) ⟨cPre_blind, fun U hU hW => ⟨rfl, by rw [hU], by rw [hU]; exact hPc, hK.warm hW, hDc.weaken (fun _ _ _ _ => trivial)⟩⟩ rfl hn hl.1 rfl (lv_room hro) hd hrm.2.2) hS (fun q _ h => hFc q h) hFc (fun r u t H1 locs1 ht hvm hw1 hB hz1 hk1 hS1 => ?_)
  obtain ⟨hP1, hD1⟩ := hB
  rw [ht] at hP1
  obtain ⟨hP2, hD2⟩ := jn (wr := wr) (w1 := u) hP hD isC isR hC hR hnd.2.1 hnd.2.2 hk1 hFc hP1 hD1
  exact kk r u hw1 H1 locs1 ls hP2 hD2 hS1 hl
end CA
