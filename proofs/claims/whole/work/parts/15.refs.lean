/-! methods that hand back an object -/
section ER
variable {E : ev} {l : Launch} {y : MethodName} {wY wR : List Cond} {rm : Room} {av : List Value} {ws : va_W} {mc ms : Nat} {cc : ByteArray} {nL : Nat} {cn : String}
theorem enter_r {post : Nat → va_W → Prop} (hy : plainName y.cls = true) (hw : wY = Cond.code y cc nL (some (.object cn)) :: wR) (hlen : (lg_sl av).length ≤ nL)
    (body : ∀ G : Gt, Ok G E l rm y cc nL wY → (∀ (r : Nat) (ws' : va_W) (lv : Lv) (pc ce so : Nat), decode cc pc = .ok (.areturn, 1) → ce ≤ mc → so ≤ ms → post r ws' → G ce so ws' lv pc [.ref r]) → G 0 0 ws (lv_args 0 av) 0 []) : Mr E l y wY rm av ws post mc ms := by
  intro sz
  refine Met.ofW (cc := cc) (maxL := nL) (ret := some (.object cn)) hy hw ?_
  intro p e s m args below meth c s₁ B hml hv
  obtain ⟨rfl, hsz, hP, hK, hD0⟩ := hv
  subst hsz
  have hx := B.exec
  have hb := B.bytes
  have hr := B.returns
  have hts := atoms_spec (ws := wY) B.pre
  have hown : s.vm.findClass y.cls = some m.cls := findClass_of_methodNamed B.named
  have hlocks := B.notSynchronized
  have hin : meth.name = y.name := (name_of_methodNamed B.named B.method).1
  rw [lg_entry_eq]
  refine body (gg E p l e rm s m av.toArray below meth c (va_A ws s.heap.size) _ nL []) ⟨p, e, s, m, av.toArray, below, meth, c, va_A ws s.heap.size, _, [], rfl, hx, hb, hml, hown, hin, hts, hK, fun q h => Or.inr h⟩ ?_ s.heap [] _ (by rw [List.append_nil]; exact hP) (by rw [List.append_nil]; exact hD0.self) va_S.rf (lv_entry av hlen)
  intro r ws' lv pc ce so hd h1 h2 hpost H locs ls hP' hD' hS' hl'
  rw [List.append_nil] at hP' hD'
  refine W.widen h1 h2 ?_
  exact W.aret hx hb hr (Or.inl ⟨cn, rfl⟩) (Or.inr ⟨r, rfl⟩) (fun t ht hW => ⟨⟨(r, ws'), r, rfl, hpost, rfl, by rw [ht]; exact hP', hD'⟩, hS'.F ht⟩) hS'.2.2 hd
end ER
section CR
variable {G : Gt} {E : ev} {l : Launch} {R : Room} {y : MethodName} {cc : ByteArray} {nL : Nat} {Ts : List Cond} {ce so : Nat} {ws : va_W} {lv : Lv} {pc : Nat} {st : List Value}
variable {y' : MethodName} {wY wR : List Cond} {rm : Room} {b ci index n maxL mc ms : Nat} {As rest : List Value} {wc wr : va_W} {bytes : ByteArray} {ret : Option FieldType} {CC : String} {T : u_T} {N : Nat} {fs : List Value}
theorem g_callVr (C : Ok G E l R y cc nL Ts) {post : Nat → va_W → Prop} (hM : Mr E l y' wY rm (.ref b :: As) wc post mc ms) (hG : GoodIn Ts (wsV y.cls index CC y' wY)) (hw : wY = Cond.code y' bytes maxL ret :: wR)
    (hd0 : y'.cls = CC ∧ y'.cls ≠ "java/lang/invoke/MethodHandle" ∧ y'.cls ≠ "java/lang/invoke/VarHandle" ∧ (parseMethodDescriptor y'.desc).map (fun d => d.parameters.length) = some n) (hn : As.length = n)
    (hrm : (rm.cells = mc ∧ rm.slots = ms) ∧ (rm.frames + 1 ≤ R.frames ∧ 8 + (maxL + 11) + rm.locals ≤ R.locals) ∧ (ce + mc ≤ R.cells ∧ so + ms ≤ R.slots))
    (hd : decode cc pc = .ok (.invokevirtual index, 3)) (hst : st = As.reverse ++ .ref b :: rest) (hro : (rest.map fun v => v.category).sum ≤ 8)
    (hc : vwCl[ci]? = some (CC, T, N)) (he : wc[0]? = some (b, .inr (ci, fs)))
    (isC isR : List Nat) (hC : isC.map (fun i => ws[i]?) = wc.map some) (hR : isR.map (fun i => ws[i]?) = wr.map some) (hnd : va_nd isC = true ∧ va_nd isR = true ∧ ∀ i ∈ isR, i ∉ isC)
    (kk : ∀ (r : Nat) (ws' : va_W), post r ws' → G (ce + mc) (so + ms) (wr ++ ws') lv (pc + 3) (.ref r :: rest)) : G ce so ws lv pc st := by
  obtain ⟨p, e, s, m, args, below, meth, c, A, Q, tl, rfl, hx, hb, hml, hown, hnm, hts, hK, hA⟩ := C
  subst hst
  intro H locs ls hP hD hS hl
  have hPc : Pw E wc H := fun k q hq => by
    have h1 : (isC.map (fun i => ws[i]?))[k]? = some (some q) := by rw [hC, List.getElem?_map, hq]; rfl
    rw [List.getElem?_map] at h1
    cases hi : isC[k]? with
    | none => rw [hi] at h1; cases h1
    | some i => rw [hi] at h1; exact (P_l hP) i q (Option.some.inj h1)
  have hDc : va_D A wc := (D_l hD).sub isC hnd.1 hC
  have hFc := free_l (wc := wc) hD hS hA isC hC
  refine va_callr (va_runV (As := As) (rest := rest) ⟨hx, hb, hml, hown, hts⟩ (hM H.size) (cwV n hts hG hw hrm.1.1 hrm.1.2 hd0 hrm.2.1) ⟨cPre_blind, va_recv hK.1 hPc (ci := ci) (q0 := 0) hc he, fun U hU hW => ⟨rfl, by rw [hU], by rw [hU]; exact hPc, hK.warm hW, hDc.weaken (fun _ _ _ _ => trivial)⟩⟩ rfl hn hl.1 rfl (lv_room hro) hd hrm.2.2) hS (fun q _ h => hFc q h) hFc (fun u ra t H1 locs1 ht hvm hw1 hB hz1 hk1 hS1 => ?_)
  obtain ⟨hr1, hP1, hD1⟩ := hB
  subst hr1
  rw [ht] at hP1
  obtain ⟨hP2, hD2⟩ := jn (wr := wr) (w1 := u.2) hP hD isC isR hC hR hnd.2.1 hnd.2.2 hk1 hFc hP1 hD1
  exact kk u.1 u.2 hw1 H1 locs1 ls hP2 hD2 hS1 hl
end CR
