/-! static methods of the JDK: the rest modulo 32003 -/
theorem x32 {x y : Int32} (hy : 0 ≤ y.toInt) : (x ^^^ y).toInt < 0 ↔ x.toInt < 0 := by
  have h1 : (x ^^^ y).toBitVec.msb = (x.toBitVec ^^^ y.toBitVec).msb := rfl
  have h2 : (x ^^^ y).toBitVec.msb = decide ((x ^^^ y).toInt < 0) := BitVec.msb_eq_toInt
  have h3 : x.toBitVec.msb = decide (x.toInt < 0) := BitVec.msb_eq_toInt
  have h4 : y.toBitVec.msb = decide (y.toInt < 0) := BitVec.msb_eq_toInt
  rw [BitVec.msb_xor, h3, h4, h2] at h1
  have h5 : decide (y.toInt < 0) = false := decide_eq_false (by omega)
  rw [h5, Bool.xor_false] at h1
  simpa using h1
theorem x64 {x y : Int64} (hy : 0 ≤ y.toInt) : (x ^^^ y).toInt < 0 ↔ x.toInt < 0 := by
  have h1 : (x ^^^ y).toBitVec.msb = (x.toBitVec ^^^ y.toBitVec).msb := rfl
  have h2 : (x ^^^ y).toBitVec.msb = decide ((x ^^^ y).toInt < 0) := BitVec.msb_eq_toInt
  have h3 : x.toBitVec.msb = decide (x.toInt < 0) := BitVec.msb_eq_toInt
  have h4 : y.toBitVec.msb = decide (y.toInt < 0) := BitVec.msb_eq_toInt
  rw [BitVec.msb_xor, h3, h4, h2] at h1
  have h5 : decide (y.toInt < 0) = false := decide_eq_false (by omega)
  rw [h5, Bool.xor_false] at h1
  simpa using h1
theorem zI_remT {a b : Int} (a1 : -2147483648 ≤ a) (a2 : a < 2147483648) (b1 : 0 < b) (b2 : b < 2147483648) : zI a - zI a / zI b * zI b = zI (a.tmod b) := by
  have h : zI (a.tdiv b) = zI a / zI b := Int32.ofInt_tdiv (by rw [show Int32.minValue.toInt = -2147483648 from rfl]; omega) (by rw [show Int32.maxValue.toInt = 2147483647 from rfl]; omega) (by rw [show Int32.minValue.toInt = -2147483648 from rfl]; omega) (by rw [show Int32.maxValue.toInt = 2147483647 from rfl]; omega)
  rw [← h, zI_mul, zI_sub, Int.tmod_def, Int.mul_comm]
/-- the rest that is not below 0, out of the one that Java has -/
theorem tm_pos {x : Int} (h : 0 ≤ x) : ((cF x).val : Int) = x.tmod 32003 := by rw [cF_val, Int.tmod_eq_emod_of_nonneg h]
theorem tm_neg {x : Int} (h : x < 0) : (x.tmod 32003 = 0 ∧ ((cF x).val : Int) = 0) ∨ (x.tmod 32003 ≠ 0 ∧ ((cF x).val : Int) = x.tmod 32003 + 32003) := by
  have e : x.tmod 32003 = -((-x) % 32003) := by
    have h1 : x.tmod 32003 = -((-x).tmod 32003) := by rw [Int.neg_tmod, Int.neg_neg]
    rw [h1, Int.tmod_eq_emod_of_nonneg (by omega)]
  rw [cF_val, e]
  omega
section GX
variable {G : Gt} {E : ev} {l : Launch} {R : Room} {y : MethodName} {cc : ByteArray} {nL : Nat} {Ts : List Cond} {ce so : Nat} {ws : va_W} {lv : Lv} {pc : Nat} {st : List Value}
theorem g_iremT (C : Ok G E l R y cc nL Ts) {a b : Int} (hd : decode cc pc = .ok (.irem, 1)) (a1 : -2147483648 ≤ a) (a2 : a < 2147483648) (b1 : 0 < b) (b2 : b < 2147483648) (k : G ce so ws lv (pc + 1) (.int (zI (a.tmod b)) :: st)) : G ce so ws lv pc (.int (zI b) :: .int (zI a) :: st) := by
  obtain ⟨p, e, s, m, args, below, meth, c, A, Q, tl, rfl, hx, hb, -⟩ := C
  rw [← zI_remT a1 a2 b1 b2] at k
  have hne : ¬ zI b = 0 := fun h => by
    rw [← zI_0, zI_eq (by omega) b2 (by omega) (by omega)] at h
    omega
  exact fun H locs ls hP hD hS hl => lv_irem hx hb hd hne (k H locs ls hP hD hS hl)
theorem g_ixor (C : Ok G E l R y cc nL Ts) {a b : Int} (hd : decode cc pc = .ok (.ixor, 1)) (a1 : -2147483648 ≤ a) (a2 : a < 2147483648) (b1 : 0 ≤ b) (b2 : b < 2147483648) (k : ∀ w : Int, -2147483648 ≤ w → w < 2147483648 → (w < 0 ↔ a < 0) → G ce so ws lv (pc + 1) (.int (zI w) :: st)) : G ce so ws lv pc (.int (zI b) :: .int (zI a) :: st) := by
  have hr := zI_rng (zI a ^^^ zI b)
  have h := x32 (x := zI a) (y := zI b) (by rw [zI_toInt (by omega) b2]; exact b1)
  rw [zI_toInt a1 a2] at h
  have k2 := k _ hr.1 hr.2 h
  rw [zI_of] at k2
  obtain ⟨p, e, s, m, args, below, meth, c, A, Q, tl, rfl, hx, hb, -⟩ := C
  exact fun H locs ls hP hD hS hl => lv_ixor hx hb hd (k2 H locs ls hP hD hS hl)
theorem g_lxor (C : Ok G E l R y cc nL Ts) {a b : Int} (hd : decode cc pc = .ok (.lxor, 1)) (a1 : -9223372036854775808 ≤ a) (a2 : a < 9223372036854775808) (b1 : 0 ≤ b) (b2 : b < 9223372036854775808) (k : ∀ w : Int, -9223372036854775808 ≤ w → w < 9223372036854775808 → (w < 0 ↔ a < 0) → G ce so ws lv (pc + 1) (.long (zL w) :: st)) : G ce so ws lv pc (.long (zL b) :: .long (zL a) :: st) := by
  have hr := zL_rng (zL a ^^^ zL b)
  have h := x64 (x := zL a) (y := zL b) (by rw [zL_toInt (by omega) b2]; exact b1)
  rw [zL_toInt a1 a2] at h
  have k2 := k _ hr.1 hr.2 h
  rw [zL_of] at k2
  obtain ⟨p, e, s, m, args, below, meth, c, A, Q, tl, rfl, hx, hb, -⟩ := C
  exact fun H locs ls hP hD hS hl => lv_lxor hx hb hd (k2 H locs ls hP hD hS hl)
end GX
section CA
variable {G : Gt} {E : ev} {l : Launch} {R : Room} {y : MethodName} {cc : ByteArray} {nL : Nat} {Ts : List Cond} {ce so : Nat} {ws : va_W} {lv : Lv} {pc : Nat} {st : List Value}
variable {y' : MethodName} {wY wR : List Cond} {rm : Room} {b ci index n maxL mc ms : Nat} {As rest : List Value} {wc wr : va_W} {bytes : ByteArray} {ret : Option FieldType} {CC : String} {T : u_T} {N : Nat} {fs : List Value}
/-- a static method of another class -/
theorem g_callSOi (C : Ok G E l R y cc nL Ts) {post : Int32 → va_W → Prop} (hM : Mi E l y' wY rm As [] post 0 0) (hG : GoodIn Ts (va_wsS y.cls index y' wY)) (hw : wY = Cond.code y' bytes maxL ret :: wR)
    (hd0 : y'.cls ≠ "java/lang/invoke/MethodHandle" ∧ y'.cls ≠ "java/lang/invoke/VarHandle" ∧ (parseMethodDescriptor y'.desc).map (fun d => d.parameters.length) = some n) (hn : As.length = n)
    (hrm : (rm.cells = 0 ∧ rm.slots = 0) ∧ (rm.frames + 1 ≤ R.frames ∧ 8 + (maxL + 11) + rm.locals ≤ R.locals) ∧ (ce + 0 ≤ R.cells ∧ so + 0 ≤ R.slots))
    (hd : decode cc pc = .ok (.invokestatic index, 3)) (hst : st = As.reverse ++ rest) (hro : (rest.map fun v => v.category).sum ≤ 8)
    (kk : ∀ (r : Int32), (∃ w, post r w) → G ce so ws lv (pc + 3) (.int r :: rest)) : G ce so ws lv pc st := by
  obtain ⟨p, e, s, m, args, below, meth, c, A, Q, tl, rfl, hx, hb, hml, hown, hnm, hts, hK, hA⟩ := C
  subst hst
  intro H locs ls hP hD hS hl
  have hF : ∀ q, va_A [] H.size q → A q := fun q h => by
    rcases h with ⟨k, e, h⟩ | h
    · simp at h
    · exact hA q (Nat.le_trans hS.1 h)
  refine va_calli (va_runS (As := As) (rest := rest) ⟨hx, hb, hml, hown, hts⟩ (hM H.size) (va_cwS n hts hG hw hrm.1.1 hrm.1.2 hd0 hrm.2.1) ⟨cPre_blind, fun U hU hW => ⟨rfl, by rw [hU], (fun k q h => by simp at h), hK.warm hW, ⟨fun i j p q h => by simp at h, fun k q h => by simp at h⟩⟩⟩ rfl hn hl.1 rfl (lv_room hro) hd hrm.2.2) hS (fun q _ h => hF q h) hF (fun r u t H1 locs1 ht hvm hw1 hB hz1 hk1 hS1 => ?_)
  have hkeep : ∀ (k : Nat) (q : Nat × va_E), (ws ++ tl)[k]? = some q → H1[q.1]? = H[q.1]? := fun k q hq => by
    have hlt : q.1 < H.size := va_at.lt (hP k q hq)
    refine hk1 q.1 hlt (fun h => ?_)
    rcases h with ⟨k, e, h⟩ | h
    · simp at h
    · omega
  exact kk r ⟨u, hw1⟩ H1 locs1 ls (va_P.kept hP hkeep) hD hS1 hl
/-- a static method of another class -/
theorem g_callSOl (C : Ok G E l R y cc nL Ts) {post : Int64 → va_W → Prop} (hM : Ml E l y' wY rm As [] post 0 0) (hG : GoodIn Ts (va_wsS y.cls index y' wY)) (hw : wY = Cond.code y' bytes maxL ret :: wR)
    (hd0 : y'.cls ≠ "java/lang/invoke/MethodHandle" ∧ y'.cls ≠ "java/lang/invoke/VarHandle" ∧ (parseMethodDescriptor y'.desc).map (fun d => d.parameters.length) = some n) (hn : As.length = n)
    (hrm : (rm.cells = 0 ∧ rm.slots = 0) ∧ (rm.frames + 1 ≤ R.frames ∧ 8 + (maxL + 11) + rm.locals ≤ R.locals) ∧ (ce + 0 ≤ R.cells ∧ so + 0 ≤ R.slots))
    (hd : decode cc pc = .ok (.invokestatic index, 3)) (hst : st = As.reverse ++ rest) (hro : (rest.map fun v => v.category).sum ≤ 8)
    (kk : ∀ (r : Int64), (∃ w, post r w) → G ce so ws lv (pc + 3) (.long r :: rest)) : G ce so ws lv pc st := by
  obtain ⟨p, e, s, m, args, below, meth, c, A, Q, tl, rfl, hx, hb, hml, hown, hnm, hts, hK, hA⟩ := C
  subst hst
  intro H locs ls hP hD hS hl
  have hF : ∀ q, va_A [] H.size q → A q := fun q h => by
    rcases h with ⟨k, e, h⟩ | h
    · simp at h
    · exact hA q (Nat.le_trans hS.1 h)
  refine va_calll (va_runS (As := As) (rest := rest) ⟨hx, hb, hml, hown, hts⟩ (hM H.size) (va_cwS n hts hG hw hrm.1.1 hrm.1.2 hd0 hrm.2.1) ⟨cPre_blind, fun U hU hW => ⟨rfl, by rw [hU], (fun k q h => by simp at h), hK.warm hW, ⟨fun i j p q h => by simp at h, fun k q h => by simp at h⟩⟩⟩ rfl hn hl.1 rfl (lv_room hro) hd hrm.2.2) hS (fun q _ h => hF q h) hF (fun r u t H1 locs1 ht hvm hw1 hB hz1 hk1 hS1 => ?_)
  have hkeep : ∀ (k : Nat) (q : Nat × va_E), (ws ++ tl)[k]? = some q → H1[q.1]? = H[q.1]? := fun k q hq => by
    have hlt : q.1 < H.size := va_at.lt (hP k q hq)
    refine hk1 q.1 hlt (fun h => ?_)
    rcases h with ⟨k, e, h⟩ | h
    · simp at h
    · omega
  exact kk r ⟨u, hw1⟩ H1 locs1 ls (va_P.kept hP hkeep) hD hS1 hl
end CA
section EN
variable {E : ev} {l : Launch} {y : MethodName} {wY wR : List Cond} {rm : Room} {av : List Value} {ws : va_W} {mc ms : Nat} {cc : ByteArray} {nL : Nat}
theorem enter_iF {post : Int32 → va_W → Prop} (hy : plainFor y = true) (hw : wY = Cond.code y cc nL (some .int) :: wR) (hlen : (lg_sl av).length ≤ nL)
    (body : ∀ G : Gt, Ok G E l rm y cc nL wY → (∀ (r : Int32) (ws' : va_W) (lv : Lv) (pc ce so : Nat), decode cc pc = .ok (.ireturn, 1) → ce ≤ mc → so ≤ ms → post r ws' → G ce so ws' lv pc [.int r]) → G 0 0 ws (lv_args 0 av) 0 []) : Mi E l y wY rm av ws post mc ms := by
  intro sz
  refine va_MetF (cc := cc) (maxL := nL) (ret := some .int) hy hw ?_
  intro p e s m args below meth c s₁ B hml hv
  obtain ⟨rfl, hsz, hP, hK, hD0⟩ := hv
  subst hsz
  have hx := B.exec
  have hb := B.bytes
  have hr := B.returns
  have hts := atoms_spec (ws := wY) B.pre
  have hown : s.vm.findClass y.cls = some m.cls := findClass_of_methodNamed B.named
  have hlocks := B.notSynchronized
  have hin : meth.name = y.name := (name_of_methodNamed B.named B.method).1
  rw [lg_entry_eq]
  refine body (gg E p l e rm s m av.toArray below meth c (va_A ws s.heap.size) _ nL []) ⟨p, e, s, m, av.toArray, below, meth, c, va_A ws s.heap.size, _, [], rfl, hx, hb, hml, hown, hin, hts, hK, fun q h => Or.inr h⟩ ?_ s.heap [] _ (by rw [List.append_nil]; exact hP) (by rw [List.append_nil]; exact hD0.self) va_S.rf (lv_entry av hlen)
  intro r ws' lv pc ce so hd h1 h2 hpost H locs ls hP' hD' hS' hl'
  rw [List.append_nil] at hP' hD'
  refine W.widen h1 h2 ?_
  exact W.iret hx hb hr (fun t ht hW => ⟨⟨r, ws', rfl, hpost, by rw [ht]; exact hP', hD'⟩, hS'.F ht⟩) hS'.2.2 hd
theorem enter_lF {post : Int64 → va_W → Prop} (hy : plainFor y = true) (hw : wY = Cond.code y cc nL (some .long) :: wR) (hlen : (lg_sl av).length ≤ nL)
    (body : ∀ G : Gt, Ok G E l rm y cc nL wY → (∀ (r : Int64) (ws' : va_W) (lv : Lv) (pc ce so : Nat), decode cc pc = .ok (.lreturn, 1) → ce ≤ mc → so ≤ ms → post r ws' → G ce so ws' lv pc [.long r]) → G 0 0 ws (lv_args 0 av) 0 []) : Ml E l y wY rm av ws post mc ms := by
  intro sz
  refine va_MetF (cc := cc) (maxL := nL) (ret := some .long) hy hw ?_
  intro p e s m args below meth c s₁ B hml hv
  obtain ⟨rfl, hsz, hP, hK, hD0⟩ := hv
  subst hsz
  have hx := B.exec
  have hb := B.bytes
  have hr := B.returns
  have hts := atoms_spec (ws := wY) B.pre
  have hown : s.vm.findClass y.cls = some m.cls := findClass_of_methodNamed B.named
  have hlocks := B.notSynchronized
  have hin : meth.name = y.name := (name_of_methodNamed B.named B.method).1
  rw [lg_entry_eq]
  refine body (gg E p l e rm s m av.toArray below meth c (va_A ws s.heap.size) _ nL []) ⟨p, e, s, m, av.toArray, below, meth, c, va_A ws s.heap.size, _, [], rfl, hx, hb, hml, hown, hin, hts, hK, fun q h => Or.inr h⟩ ?_ s.heap [] _ (by rw [List.append_nil]; exact hP) (by rw [List.append_nil]; exact hD0.self) va_S.rf (lv_entry av hlen)
  intro r ws' lv pc ce so hd h1 h2 hpost H locs ls hP' hD' hS' hl'
  rw [List.append_nil] at hP' hD'
  refine W.widen h1 h2 ?_
  exact W.lret hx hb hr (fun t ht hW => ⟨⟨r, ws', rfl, hpost, by rw [ht]; exact hP', hD'⟩, hS'.F ht⟩) hS'.2.2 hd
end EN
