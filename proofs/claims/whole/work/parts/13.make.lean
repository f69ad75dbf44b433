/-! objects and arrays made, constructors called -/
def zr : Po := fun _ => 0
theorem zr_con : con 0 = zr := by funext j; unfold con zr; split <;> rfl
theorem hi_zr : hi zr = -1 := hi_eq (by omega) (by omega) (fun g => absurd g (by omega)) (fun _ _ => rfl)
theorem Sm_zr : Sm zr := fun _ _ => rfl
theorem hi_neg {a : Po} (hS : Sm a) (h : hi a < 0) : a = zr := funext fun j => hi_zero hS (by omega)
section GN
variable {G : Gt} {E : ev} {l : Launch} {R : Room} {y : MethodName} {cc : ByteArray} {nL : Nat} {Ts : List Cond} {ce so : Nat} {ws : va_W} {lv : Lv} {pc : Nat} {st : List Value}
theorem g_objInit (C : Ok G E l R y cc nL Ts) {a idx : Nat} (hlk : Cond.methodLink y.cls idx objectInit ∈ Ts ∧ Cond.instanceMethod objectInit ∈ Ts) (hcode : Cond.code objectInit ⟨#[0xb1]⟩ 1 none ∈ Ts) (hd : decode cc pc = .ok (.invokespecial idx, 3)) (hR : 1 ≤ R.frames ∧ 20 ≤ R.locals) (hro : (st.map fun v => v.category).sum ≤ 8) (k : G ce so ws lv (pc + 3) st) : G ce so ws lv pc (.ref a :: st) := by
  obtain ⟨p, e, s, m, args, below, meth, c, A, Q, tl, rfl, hx, hb, hml, hown, hnm, hts, hK, hA⟩ := C
  refine fun H locs ls hP hD hS hl => W.objInit hx hb hown (hts _ hlk.1) (hts _ hlk.2) (hts _ hcode) rfl (by rw [hml]; exact hl.1) rfl hd hR.1 (by show 2 * 0 + _ + 12 ≤ _; omega) (k H locs ls hP hD hS hl)
theorem g_new (C : Ok G E l R y cc nL Ts) {CC : String} {T : u_T} {N ci index : Nat} (fs : List Value) (ty : Nat → FieldType) (hty : ∀ k, k < N → parseFieldDescriptor (T k).2.2.1 = some (ty k)) (hc : vwCl[ci]? = some (CC, T, N)) (hin : ∀ w ∈ u_ws CC T N, w ∈ Ts) (hlk : Cond.classLink y.cls index CC ∈ Ts ∧ Cond.instantiable CC N ∈ Ts ∧ Cond.initialized CC ∈ Ts) (hfs : ∀ j, j < N → defaultValue (ty j) = vp_V fs j) (hro : ce + 1 ≤ R.cells ∧ so + N ≤ R.slots) (hd : decode cc pc = .ok (.new index, 3))
    (kk : ∀ q : Nat, G (ce + 1) (so + N) (ws ++ [(q, .inr (ci, fs))]) lv (pc + 3) (.ref q :: st)) : G ce so ws lv pc st := by
  obtain ⟨p, e, s, m, args, below, meth, c, A, Q, tl, rfl, hx, hb, hml, hown, hnm, hts, hK, hA⟩ := C
  exact fun H locs ls hP hD hS hl => va_new hx hb hts hin ty hty hown (hts _ hlk.1) (hts _ hlk.2.1) (hts _ hlk.2.2) hK.1 hP hD hS hA hc hfs hro.1 hro.2 hd (fun q H1 hP1 hD1 hS1 => kk q H1 locs ls (P_new hP1) (D_new hD1) hS1 hl)
theorem g_newaI (C : Ok G E l R y cc nL Ts) {z : Int} (N : Nat) (f : Nat → Int32) (hf : f = fun _ => 0) (harr : Cond.arrayClass .int ∈ Ts) (hz : z = (N : Int)) (hN : N < 1000000) (hro : ce + 1 ≤ R.cells ∧ so + N ≤ R.slots) (hd : decode cc pc = .ok (.newarray .int, 2))
    (kk : ∀ q : Nat, G (ce + 1) (so + N) (ws ++ [(q, .inl (E.2.2.1, N, .inl f))]) lv (pc + 2) (.ref q :: st)) : G ce so ws lv pc (.int (zI z) :: st) := by
  obtain ⟨p, e, s, m, args, below, meth, c, A, Q, tl, rfl, hx, hb, hml, hown, hnm, hts, hK, hA⟩ := C
  subst hz
  subst hf
  refine fun H locs ls hP hD hS hl => va_newa (atype := .int) (a0 := (N, .inl (fun _ => 0))) (N' := N) (ty := .int) hx hb (hts _ harr) rfl hK.1 hP hD hS hA (fun cA => rfl) (fun h => by rw [← zI_0, zI_lt (by omega) (by omega) (by omega) (by omega)] at h; omega) (zI_cl (by omega)) (by show N * 4 ≤ _; omega) hro.1 hro.2 hd (fun q cA H1 hK1 hP1 hD1 hS1 => ?_)
  have e1 : s.vm.findClass ("[" ++ (FieldType.int).toString) = some cA := (hK1.2 3 (cA, .int) rfl).2
  have e2 : s.vm.findClass ("[" ++ (FieldType.int).toString) = some E.2.2.1 := (hK.1.2 0 (E.2.2.1, .int) rfl).2
  cases Option.some.inj (e1.symm.trans e2)
  exact kk q H1 locs ls (P_new hP1) (D_new hD1) hS1 hl
theorem g_newaJ (C : Ok G E l R y cc nL Ts) {z : Int} (N : Nat) (f : Nat → Int64) (hf : f = fun _ => 0) (harr : Cond.arrayClass .long ∈ Ts) (hz : z = (N : Int)) (hN : N < 1000000) (hro : ce + 1 ≤ R.cells ∧ so + N ≤ R.slots) (hd : decode cc pc = .ok (.newarray .long, 2))
    (kk : ∀ q : Nat, G (ce + 1) (so + N) (ws ++ [(q, .inl (E.2.2.2.1, N, .inr (.inl f)))]) lv (pc + 2) (.ref q :: st)) : G ce so ws lv pc (.int (zI z) :: st) := by
  obtain ⟨p, e, s, m, args, below, meth, c, A, Q, tl, rfl, hx, hb, hml, hown, hnm, hts, hK, hA⟩ := C
  subst hz
  subst hf
  refine fun H locs ls hP hD hS hl => va_newa (atype := .long) (a0 := (N, .inr (.inl (fun _ => 0)))) (N' := N) (ty := .long) hx hb (hts _ harr) rfl hK.1 hP hD hS hA (fun cA => rfl) (fun h => by rw [← zI_0, zI_lt (by omega) (by omega) (by omega) (by omega)] at h; omega) (zI_cl (by omega)) (by show N * 8 ≤ _; omega) hro.1 hro.2 hd (fun q cA H1 hK1 hP1 hD1 hS1 => ?_)
  have e1 : s.vm.findClass ("[" ++ (FieldType.long).toString) = some cA := (hK1.2 3 (cA, .long) rfl).2
  have e2 : s.vm.findClass ("[" ++ (FieldType.long).toString) = some E.2.2.2.1 := (hK.1.2 1 (E.2.2.2.1, .long) rfl).2
  cases Option.some.inj (e1.symm.trans e2)
  exact kk q H1 locs ls (P_new hP1) (D_new hD1) hS1 hl
variable {y' : MethodName} {wY wR : List Cond} {rm : Room} {b index n maxL mc ms : Nat} {As rest : List Value} {wc wr : va_W} {bytes : ByteArray}
/-- a constructor, private across the nest or not -/
theorem g_callI (C : Ok G E l R y cc nL Ts) {post : va_W → Prop} (hM : Mv E l y' wY rm (.ref b :: As) wc post mc ms) (hN : ((y.cls, index, y') ∈ nestL) ∨ (Cond.methodLink y.cls index y' ∈ Ts)) (hG : GoodIn Ts wY) (hst0 : Cond.instanceMethod y' ∈ Ts ∧ Cond.initialized y'.cls ∈ Ts ∧ y'.name = "<init>") (hw : wY = Cond.code y' bytes maxL none :: wR)
    (hd0 : y'.cls ≠ "java/lang/invoke/MethodHandle" ∧ y'.cls ≠ "java/lang/invoke/VarHandle" ∧ (parseMethodDescriptor y'.desc).map (fun d => d.parameters.length) = some n) (hn : As.length = n)
    (hrm : (rm.cells = mc ∧ rm.slots = ms) ∧ (rm.frames + 1 ≤ R.frames ∧ 8 + (maxL + 11) + rm.locals ≤ R.locals) ∧ (ce + mc ≤ R.cells ∧ so + ms ≤ R.slots))
    (hd : decode cc pc = .ok (.invokespecial index, 3)) (hst : st = As.reverse ++ .ref b :: rest) (hro : (rest.map fun v => v.category).sum ≤ 8)
    (isC isR : List Nat) (hC : isC.map (fun i => ws[i]?) = wc.map some) (hR : isR.map (fun i => ws[i]?) = wr.map some) (hnd : va_nd isC = true ∧ va_nd isR = true ∧ ∀ i ∈ isR, i ∉ isC)
    (kk : ∀ ws' : va_W, post ws' → G (ce + mc) (so + ms) (wr ++ ws') lv (pc + 3) rest) : G ce so ws lv pc st := by
  obtain ⟨p, e, s, m, args, below, meth, c, A, Q, tl, rfl, hx, hb, hml, hown, hnm, hts, hK, hA⟩ := C
  subst hst
  intro H locs ls hP hD hS hl
  have hPc : Pw E wc H := fun k q hq => by
    have h1 : (isC.map (fun i => ws[i]?))[k]? = some (some q) := by rw [hC, List.getElem?_map, hq]; rfl
    rw [List.getElem?_map] at h1
    cases hi : isC[k]? with
    | none => rw [hi] at h1; cases h1
    | some i => rw [hi] at h1; exact (P_l hP) i q (Option.some.inj h1)
  have hDc : va_D A wc := (D_l hD).sub isC hnd.1 hC
  have hFc := free_l (wc := wc) hD hS hA isC hC
  have hPre : PreS s H (va_Pc (.ref b :: As) (cPre E H.size wc)) (.ref b :: As) := ⟨cPre_blind, fun U hU hW => ⟨rfl, by rw [hU], by rw [hU]; exact hPc, hK.warm hW, hDc.weaken (fun _ _ _ _ => trivial)⟩⟩
  have hrun : va_Run p l e R s m args below meth c H locs ce so mc ms (F0 m pc ls (As.reverse ++ .ref b :: rest)) rest (va_Qv post (cPost E (va_A wc H.size)) (va_A wc H.size) (Value.ref b :: As).toArray) (va_A wc H.size) := by
    rcases hN with hN | hN
    · exact va_runIN (As := As) (rest := rest) ⟨hx, hb, hml, hown, hts⟩ (hM H.size) ⟨va_cnB n hts hG hw hrm.1.1 hrm.1.2 (hK.2.1 _ hN) (hts _ hst0.2.1) hd0 hrm.2.1, hst0.2.2, hts _ hst0.1⟩ hPre rfl hn hl.1 rfl (lv_room hro) hd hrm.2.2
    · exact va_runI (As := As) (rest := rest) ⟨hx, hb, hml, hown, hts⟩ (hM H.size) (cwI n hts hG hw hrm.1.1 hrm.1.2 (hts _ hst0.2.1) (hts _ hN) (hts _ hst0.1) hst0.2.2 hd0 hrm.2.1) hPre rfl hn hl.1 rfl (lv_room hro) hd hrm.2.2
  refine va_callv hrun hS (fun q _ h => hFc q h) hFc (fun u t H1 locs1 ht hvm hw1 hB hz1 hk1 hS1 => ?_)
  obtain ⟨hP1, hD1⟩ := hB
  rw [ht] at hP1
  obtain ⟨hP2, hD2⟩ := jn (wr := wr) (w1 := u) hP hD isC isR hC hR hnd.2.1 hnd.2.2 hk1 hFc hP1 hD1
  exact kk u hw1 H1 locs1 ls hP2 hD2 hS1 hl
end GN
