/-! static methods of the reference, with cells -/
section CR
variable {G : Gt} {E : ev} {l : Launch} {R : Room} {y : MethodName} {cc : ByteArray} {nL : Nat} {Ts : List Cond} {ce so : Nat} {ws : va_W} {lv : Lv} {pc : Nat} {st : List Value}
variable {y' : MethodName} {wY wR : List Cond} {rm : Room} {b ci index n maxL mc ms : Nat} {As rest : List Value} {wc wr : va_W} {bytes : ByteArray} {ret : Option FieldType}
theorem g_callSCi (C : Ok G E l R y cc nL Ts) {post : Int32 → va_W → Prop} (hM : Mi E l y' wY rm As wc post mc ms) (hG : GoodIn Ts (va_wsS y.cls index y' wY)) (hw : wY = Cond.code y' bytes maxL ret :: wR)
    (hd0 : y'.cls ≠ "java/lang/invoke/MethodHandle" ∧ y'.cls ≠ "java/lang/invoke/VarHandle" ∧ (parseMethodDescriptor y'.desc).map (fun d => d.parameters.length) = some n) (hn : As.length = n)
    (hrm : (rm.cells = mc ∧ rm.slots = ms) ∧ (rm.frames + 1 ≤ R.frames ∧ 8 + (maxL + 11) + rm.locals ≤ R.locals) ∧ (ce + mc ≤ R.cells ∧ so + ms ≤ R.slots))
    (hd : decode cc pc = .ok (.invokestatic index, 3)) (hst : st = As.reverse ++ rest) (hro : (rest.map fun v => v.category).sum ≤ 8)
    (isC isR : List Nat) (hC : isC.map (fun i => ws[i]?) = wc.map some) (hR : isR.map (fun i => ws[i]?) = wr.map some) (hnd : va_nd isC = true ∧ va_nd isR = true ∧ ∀ i ∈ isR, i ∉ isC)
    (kk : ∀ (r : Int32) (ws' : va_W), post r ws' → G (ce + mc) (so + ms) (wr ++ ws') lv (pc + 3) (.int r :: rest)) : G ce so ws lv pc st := by
  obtain ⟨p, e, s, m, args, below, meth, c, A, Q, tl, rfl, hx, hb, hml, hown, hnm, hts, hK, hA⟩ := C
  subst hst
  intro H locs ls hP hD hS hl
  have hPc : Pw E wc H := fun k q hq => by
    have h1 : (isC.map (fun i => ws[i]?))[k]? = some (some q) := by rw [hC, List.getElem?_map, hq]; rfl
    rw [List.getElem?_map] at h1
    cases hi : isC[k]? with
    | none => rw [hi] at h1; cases h1
    | some i => rw [hi] at h1; exact (P_l hP) i q (Option.some.inj h1)
  have hDc : va_D A wc := (D_l hD).sub isC hnd.1 hC
  have hFc := free_l (wc := wc) hD hS hA isC hC
  refine va_calli (va_runS (As := As) (rest := rest) ⟨hx, hb, hml, hown, hts⟩ (hM H.size) (va_cwS n hts hG hw hrm.1.1 hrm.1.2 hd0 hrm.2.1) ⟨cPre_blind, fun U hU hW => ⟨rfl, by rw [hU], by rw [hU]; exact hPc, hK.warm hW, hDc.weaken (fun _ _ _ _ => trivial)⟩⟩ rfl hn hl.1 rfl (lv_room hro) hd hrm.2.2) hS (fun q _ h => hFc q h) hFc (fun r u t H1 locs1 ht hvm hw1 hB hz1 hk1 hS1 => ?_)
  obtain ⟨hP1, hD1⟩ := hB
  rw [ht] at hP1
  obtain ⟨hP2, hD2⟩ := jn (wr := wr) (w1 := u) hP hD isC isR hC hR hnd.2.1 hnd.2.2 hk1 hFc hP1 hD1
  exact kk r u hw1 H1 locs1 ls hP2 hD2 hS1 hl
theorem g_callSCl (C : Ok G E l R y cc nL Ts) {post : Int64 → va_W → Prop} (hM : Ml E l y' wY rm As wc post mc ms) (hG : GoodIn Ts (va_wsS y.cls index y' wY)) (hw : wY = Cond.code y' bytes maxL ret :: wR)
    (hd0 : y'.cls ≠ "java/lang/invoke/MethodHandle" ∧ y'.cls ≠ "java/lang/invoke/VarHandle" ∧ (parseMethodDescriptor y'.desc).map (fun d => d.parameters.length) = some n) (hn : As.length = n)
    (hrm : (rm.cells = mc ∧ rm.slots = ms) ∧ (rm.frames + 1 ≤ R.frames ∧ 8 + (maxL + 11) + rm.locals ≤ R.locals) ∧ (ce + mc ≤ R.cells ∧ so + ms ≤ R.slots))
    (hd : decode cc pc = .ok (.invokestatic index, 3)) (hst : st = As.reverse ++ rest) (hro : (rest.map fun v => v.category).sum ≤ 8)
    (isC isR : List Nat) (hC : isC.map (fun i => ws[i]?) = wc.map some) (hR : isR.map (fun i => ws[i]?) = wr.map some) (hnd : va_nd isC = true ∧ va_nd isR = true ∧ ∀ i ∈ isR, i ∉ isC)
    (kk : ∀ (r : Int64) (ws' : va_W), post r ws' → G (ce + mc) (so + ms) (wr ++ ws') lv (pc + 3) (.long r :: rest)) : G ce so ws lv pc st := by
  obtain ⟨p, e, s, m, args, below, meth, c, A, Q, tl, rfl, hx, hb, hml, hown, hnm, hts, hK, hA⟩ := C
  subst hst
  intro H locs ls hP hD hS hl
  have hPc : Pw E wc H := fun k q hq => by
    have h1 : (isC.map (fun i => ws[i]?))[k]? = some (some q) := by rw [hC, List.getElem?_map, hq]; rfl
    rw [List.getElem?_map] at h1
    cases hi : isC[k]? with
    | none => rw [hi] at h1; cases h1
    | some i => rw [hi] at h1; exact (P_l hP) i q (Option.some.inj h1)
  have hDc : va_D A wc := (D_l hD).sub isC hnd.1 hC
  have hFc := free_l (wc := wc) hD hS hA isC hC
  refine va_calll (va_runS (As := As) (rest := rest) ⟨hx, hb, hml, hown, hts⟩ (hM H.size) (va_cwS n hts hG hw hrm.1.1 hrm.1.2 hd0 hrm.2.1) ⟨cPre_blind, fun U hU hW => ⟨rfl, by rw [hU], by rw [hU]; exact hPc, hK.warm hW, hDc.weaken (fun _ _ _ _ => trivial)⟩⟩ rfl hn hl.1 rfl (lv_room hro) hd hrm.2.2) hS (fun q _ h => hFc q h) hFc (fun r u t H1 locs1 ht hvm hw1 hB hz1 hk1 hS1 => ?_)
  obtain ⟨hP1, hD1⟩ := hB
  rw [ht] at hP1
  obtain ⟨hP2, hD2⟩ := jn (wr := wr) (w1 := u) hP hD isC isR hC hR hnd.2.1 hnd.2.2 hk1 hFc hP1 hD1
  exact kk r u hw1 H1 locs1 ls hP2 hD2 hS1 hl
theorem g_callSCv (C : Ok G E l R y cc nL Ts) {post : va_W → Prop} (hM : Mv E l y' wY rm As wc post mc ms) (hG : GoodIn Ts (va_wsS y.cls index y' wY)) (hw : wY = Cond.code y' bytes maxL ret :: wR)
    (hd0 : y'.cls ≠ "java/lang/invoke/MethodHandle" ∧ y'.cls ≠ "java/lang/invoke/VarHandle" ∧ (parseMethodDescriptor y'.desc).map (fun d => d.parameters.length) = some n) (hn : As.length = n)
    (hrm : (rm.cells = mc ∧ rm.slots = ms) ∧ (rm.frames + 1 ≤ R.frames ∧ 8 + (maxL + 11) + rm.locals ≤ R.locals) ∧ (ce + mc ≤ R.cells ∧ so + ms ≤ R.slots))
    (hd : decode cc pc = .ok (.invokestatic index, 3)) (hst : st = As.reverse ++ rest) (hro : (rest.map fun v => v.category).sum ≤ 8)
    (isC isR : List Nat) (hC : isC.map (fun i => ws[i]?) = wc.map some) (hR : isR.map (fun i => ws[i]?) = wr.map some) (hnd : va_nd isC = true ∧ va_nd isR = true ∧ ∀ i ∈ isR, i ∉ isC)
    (kk : ∀ (ws' : va_W), post ws' → G (ce + mc) (so + ms) (wr ++ ws') lv (pc + 3) rest) : G ce so ws lv pc st := by
  obtain ⟨p, e, s, m, args, below, meth, c, A, Q, tl, rfl, hx, hb, hml, hown, hnm, hts, hK, hA⟩ := C
  subst hst
  intro H locs ls hP hD hS hl
  have hPc : Pw E wc H := fun k q hq => by
    have h1 : (isC.map (fun i => ws[i]?))[k]? = some (some q) := by rw [hC, List.getElem?_map, hq]; rfl
    rw [List.getElem?_map] at h1
    cases hi : isC[k]? with
    | none => rw [hi] at h1; cases h1
    | some i => rw [hi] at h1; exact (P_l hP) i q (Option.some.inj h1)
  have hDc : va_D A wc := (D_l hD).sub isC hnd.1 hC
  have hFc := free_l (wc := wc) hD hS hA isC hC
  refine va_callv (va_runS (As := As) (rest := rest) ⟨hx, hb, hml, hown, hts⟩ (hM H.size) (va_cwS n hts hG hw hrm.1.1 hrm.1.2 hd0 hrm.2.1) ⟨cPre_blind, fun U hU hW => ⟨rfl, by rw [hU], by rw [hU]; exact hPc, hK.warm hW, hDc.weaken (fun _ _ _ _ => trivial)⟩⟩ rfl hn hl.1 rfl (lv_room hro) hd hrm.2.2) hS (fun q _ h => hFc q h) hFc (fun u t H1 locs1 ht hvm hw1 hB hz1 hk1 hS1 => ?_)
  obtain ⟨hP1, hD1⟩ := hB
  rw [ht] at hP1
  obtain ⟨hP2, hD2⟩ := jn (wr := wr) (w1 := u) hP hD isC isR hC hR hnd.2.1 hnd.2.2 hk1 hFc hP1 hD1
  exact kk u hw1 H1 locs1 ls hP2 hD2 hS1 hl
end CR
