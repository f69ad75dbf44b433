/-! a throw that this method's own table takes: the rows ahead are looked at, linked, and don't fit -/
section CT
variable {Q : Handler → Pre} {X : CtlPost} {e : Env} {d : Bool} {acts : List Action} {S s : State} {f : JFrame} {a : Addr} {o : Cell}
theorem ct_here {S s : State} {vm : Vm} {cl : ClassId} {i c : Nat} {pl : Platform} (hW : s.WarmedH vm) (hl : s.vm.ClassLinks pl cl i c) : s.WarmedH (vm.noted cl i (.cls c)) := by
  obtain ⟨dk, _, _, kt, hd, _, _, _, _, hkt, _, hop⟩ := hl.here
  exact hW.noted hd hop (State.rightAt_cls hl)
theorem ct_k {vm : Vm} {c : ClassId} (hW : s.WarmedH vm) (h : ∃ k, s.vm.classes[c]? = some k) : ∃ k, vm.classes[c]? = some k := by
  obtain ⟨k, hk⟩ := h
  obtain ⟨k2, hk2, -⟩ := hW.alike.2.2 _ _ hk
  exact ⟨k2, hk2⟩
/-- one row of the table that covers the place -/
theorem ct_row {z : ExceptionTableEntry} {t : List ExceptionTableEntry} {c : ClassId} (hz : covers z f.pc = true) (h0 : z.catchType ≠ 0) (hl : S.vm.ClassLinks e.platform f.method.cls z.catchType c) (ho : S.heap[a]? = some o) (hv : o.vm = .none) (hk : ∃ k, S.vm.classes[o.cls]? = some k) :
    wp (findHandler.go f a (z :: t)) Q X e d acts S ↔ if S.vm.assignable o.cls c = true then Q (.found z.handlerPc) d acts (S.setVm (S.vm.noted f.method.cls z.catchType (.cls c))) else wp (findHandler.go f a t) Q X e d acts (S.setVm (S.vm.noted f.method.cls z.catchType (.cls c))) := by
  have hz2 : (decide (z.startPc ≤ f.pc) && decide (f.pc < z.endPc)) = true := hz
  have hs : ∀ k, o.vm ≠ .statics k := fun k h => by rw [hv] at h; cases h
  obtain ⟨r1, r2⟩ := (resolveClass_links e.toSetting hl).op (op := VmOp.resolveClass f.method.cls z.catchType) rfl
  have al : S.vm.Alike (S.vm.noted f.method.cls z.catchType (.cls c)) := (Vm.Alike.refl S.vm).noted _ _ _
  have hk2 : ∃ k, S.vm.classes[c]? = some k := by
    obtain ⟨_, _, _, kt, _, _, _, _, _, hkt, _, _⟩ := hl.here
    exact ⟨kt, hkt⟩
  obtain ⟨k1, e1⟩ := hk
  obtain ⟨k2, e2⟩ := hk2
  obtain ⟨k1', e1', -⟩ := al.2.2 _ _ e1
  obtain ⟨k2', e2', -⟩ := al.2.2 _ _ e2
  cases hb : S.vm.assignable o.cls c with
  | true =>
    have hb2 : (S.vm.noted f.method.cls z.catchType (.cls c)).assignable o.cls c = true := by rw [al.assignable]; exact hb
    simp [findHandler.go, hz2, h0, r1, r2, ho, hs, e1', e2', hb2, VmOp.dirties, VmOp.acts]
  | false =>
    have hb2 : (S.vm.noted f.method.cls z.catchType (.cls c)).assignable o.cls c = false := by rw [al.assignable]; exact hb
    simp [findHandler.go, hz2, h0, r1, r2, ho, hs, e1', e2', hb2, VmOp.dirties, VmOp.acts]
theorem ct_go {x : ExceptionTableEntry} {suf : List ExceptionTableEntry} {c : ClassId} (hv : o.vm = .none) (hk : ∃ k, s.vm.classes[o.cls]? = some k) (hx : covers x f.pc = true) (h0 : x.catchType ≠ 0) (hl : s.vm.ClassLinks e.platform f.method.cls x.catchType c) (hc : s.vm.assignable o.cls c = true) :
    ∀ (pre : List ExceptionTableEntry) (S : State), s.WarmedH S.vm → S.heap[a]? = some o → (∀ z ∈ pre, covers z f.pc = false ∨ (z.catchType ≠ 0 ∧ ∃ c1 : ClassId, s.vm.ClassLinks e.platform f.method.cls z.catchType c1 ∧ s.vm.assignable o.cls c1 = false)) →
      ∃ vm2 : Vm, s.WarmedH vm2 ∧ ∀ (Q : Handler → Pre) (X : CtlPost) (d : Bool) (acts : List Action), wp (findHandler.go f a (pre ++ x :: suf)) Q X e d acts S ↔ Q (.found x.handlerPc) d acts (S.setVm vm2) := by
  intro pre
  induction pre with
  | nil =>
    intro S hW ho _
    refine ⟨_, ct_here (S := S) hW hl, fun Q X d acts => ?_⟩
    rw [List.nil_append, ct_row hx h0 (hW.classLinks hl) ho hv (ct_k hW hk), if_pos (by rw [hW.alike.assignable]; exact hc)]
  | cons z zs ih =>
    intro S hW ho hp
    have hp2 : ∀ y ∈ zs, covers y f.pc = false ∨ (y.catchType ≠ 0 ∧ ∃ c1 : ClassId, s.vm.ClassLinks e.platform f.method.cls y.catchType c1 ∧ s.vm.assignable o.cls c1 = false) := fun y hy => hp y (List.mem_cons_of_mem _ hy)
    cases hz : covers z f.pc with
    | false =>
      obtain ⟨vm2, g1, g2⟩ := ih S hW ho hp2
      refine ⟨vm2, g1, fun Q X d acts => ?_⟩
      rw [List.cons_append, Jvm.W.findHandler_go_skip hz]
      exact g2 Q X d acts
    | true =>
      rcases hp z List.mem_cons_self with h | ⟨g0, c1, g1, g2⟩
      · rw [hz] at h; cases h
      · obtain ⟨vm2, k1, k2⟩ := ih (S.setVm (S.vm.noted f.method.cls z.catchType (.cls c1))) (ct_here (S := S) hW g1) ho hp2
        refine ⟨vm2, k1, fun Q X d acts => ?_⟩
        rw [List.cons_append, ct_row hz g0 (hW.classLinks g1) ho hv (ct_k hW hk), if_neg (by rw [hW.alike.assignable, g2]; decide)]
        exact k2 Q X d acts
/-- the step that comes to the handler -/
theorem ct_step {r : List Frame} {pc : Nat} {vm2 : Vm} (h : ∀ (Q : Handler → Pre) (X : CtlPost) (d : Bool) (acts : List Action), wp (findHandler f a) Q X e d acts S ↔ Q (.found pc) d acts (S.setVm vm2)) :
    (stepThrowing e S a (.java f :: r)).Is ((S.setVm vm2).setFrames (.java { f with pc := pc, stack := [.ref a] } :: r)) [] := by
  simp only [stepThrowing, searchFrame, vmDo]
  generalize hr : Sem.go _ e false [] S = res
  obtain ⟨as, rfl, ha⟩ := Sem.eq_ok_of hr (a := Handler.found pc) (s' := S.setVm vm2) (acts' := []) (by simp [h _ _ _ _])
  exact ⟨rfl, ha⟩
end CT
section CC
variable {p : Program} {l : Launch} {e : Env} {R : Room} {s : State} {m : MethodId} {args : Array Value} {below : List Frame} {meth : Method} {c : Code} {H : Heap} {locs : List Loc} {cells slots : Nat} {Q : State → Prop}
variable {pc : Nat} {ls : Array Slot} {rest : List Value}
theorem ct_catch {own name : String} {E : String} {ce : Cell} {q : Addr} (hown : s.vm.findClass own = some m.cls) (pre : List ExceptionTableEntry) (x : ExceptionTableEntry) (suf : List ExceptionTableEntry) (hsplit : c.exceptionTable.toList = pre ++ x :: suf)
    (hpass : ∀ z ∈ pre, covers z pc = false ∨ (z.catchType ≠ 0 ∧ ∃ nm : String, (Cond.classLink own z.catchType nm).before args s = true ∧ va_Nc E nm s)) (hx : covers x pc = true) (h0 : x.catchType ≠ 0)
    (hlink : (Cond.classLink own x.catchType name).before args s = true) (hcast : (Cond.castable E name).before args s = true) (hcell : H[q]? = some ce) (hv : ce.vm = .none) (hcl : s.vm.findClass E = some ce.cls)
    (kk : W p l e R s m args below meth c H locs cells slots Q (F0 m x.handlerPc ls [.ref q])) : vx_W p l e R s m args below meth c H locs cells slots Q (F0 m pc ls rest) q := by
  intro T hT X
  have hpl : e.platform.magicAccessors = ({} : Platform).magicAccessors := by rw [X.admits.platform]
  obtain ⟨c3, c4, hc3, hc4, hasg⟩ := Cond.castable_spec hcast
  cases Option.some.inj (hc3.symm.trans hcl)
  obtain ⟨c5, hc5, hcl5⟩ := Cond.classLink_spec hown hlink e.platform hpl
  cases Option.some.inj (hc4.symm.trans hc5)
  have hk : ∃ k, s.vm.classes[ce.cls]? = some k := Vm.classAt_of_findClass hcl
  have hcell2 : ((T.setTop (F0 m pc ls rest)).pushFrame (.throwing q)).heap[q]? = some ce := by
    show T.heap[q]? = some ce
    rw [hT]; exact hcell
  obtain ⟨vm2, hW2, hq⟩ := ct_go (e := e) (s := s) (f := F0 m pc ls rest) (a := q) (o := ce) (x := x) (suf := suf) (c := c4) hv hk hx h0 hcl5 hasg pre ((T.setTop (F0 m pc ls rest)).pushFrame (.throwing q)) X.warmed hcell2 (fun z hz => by
    rcases hpass z hz with h | ⟨hz0, nm, hl1, hn1⟩
    · exact Or.inl h
    · obtain ⟨c6, hc6, hcl6⟩ := Cond.classLink_spec hown hl1 e.platform hpl
      obtain ⟨a8, b8, h1, h2, h3⟩ := hn1
      cases Option.some.inj (h1.symm.trans hcl)
      cases Option.some.inj (h2.symm.trans hc6)
      exact Or.inr ⟨hz0, _, hcl6, h3⟩)
  have X9 := X.code
  have hm : ((T.setTop (F0 m pc ls rest)).pushFrame (.throwing q)).vm.method? (F0 m pc ls rest).method = some meth := X.method'
  obtain ⟨t, a1, b1⟩ := kk (T.setVm vm2) hT (X.noted hW2)
  refine ⟨t, ?_, b1⟩
  obtain ⟨hgo, hwi⟩ := At.throwing (g := F0 m pc ls rest) (X.here) q
  refine Steps.head hgo hwi ?_
  rw [stepThread_throwing (frames_entered X.here.top _), (ct_step (S := (T.setTop (F0 m pc ls rest)).pushFrame (.throwing q)) (f := F0 m pc ls rest) (a := q) (pc := x.handlerPc) (vm2 := vm2) (fun Q X d acts => by rw [Jvm.W.findHandler_eq hm X9, hsplit]; exact hq Q X d acts)).1]
  obtain ⟨g1, hfr⟩ := X.frames_eq
  have hfr2 : (T.setVm vm2).frames = .java g1 :: below := hfr
  rw [State.setTop_of_frames _ hfr2] at a1
  rw [State.setTop_of_frames _ hfr, State.pushFrame]
  have hset : ∀ (F G : List Frame), ((T.setFrames F).setVm vm2).setFrames G = (T.setVm vm2).setFrames G := fun F G => by
    have h1 : (T.setFrames F).setVm vm2 = (T.setVm vm2).setFrames F := rfl
    rw [h1, State.setFrames_setFrames]
  rw [hfr, List.tail_cons, State.setFrames_setFrames, hset]
  exact a1
end CC
