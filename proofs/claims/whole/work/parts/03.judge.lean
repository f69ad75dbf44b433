/-! the judgement: at pc, with the cells ws, the locals lv and the stack st, the method comes to its end as it should -/
abbrev ev : Type := (Nat → ClassId) × (Nat → Nat → Nat) × ClassId × ClassId × ClassId
abbrev Lv : Type := List (Nat × Value)
abbrev Gt : Type := Nat → Nat → va_W → Lv → Nat → List Value → Prop
def tyE (E : ev) : List (ClassId × FieldType) := [(E.2.2.1, .int), (E.2.2.2.1, .long), (E.2.2.2.2, .object RX3)]
def Pw (E : ev) (ws : va_W) (H : Heap) : Prop := va_P (E.1, E.2.1) vwCl ws H
/-- the private members that are called across the nest -/
def nestL : List (String × Nat × MethodName) := [(RX7, 9, yX4_init), (RX7, 21, yX0_init), (RX0, 9, yX4_init), (RX7, 28, yX6_init), (RX6, 11, yX4_init), (RX1, 22, yX3_init), (RX3, 9, yX4_init), (RX1, 27, yX4_init), (RX7, 42, yX2_init), (RX2, 11, yX4_init), (RX4, 47, yX7_inverse), (RX4, 54, yX7_negative), (RX0, 41, yX7_inverse), (RX1, 119, yX7_negative), (RX1, 125, yX7_inverse), (RX2, 61, yX7_inverse), (RX5, 25, yX7_inverse)]
def Nst (U : State) : Prop := ∀ q ∈ nestL, va_Nw (.methodLinkNest q.1 q.2.1 q.2.2 "ClosedSums") U
def Kw (E : ev) (U : State) : Prop := va_K (E.1, E.2.1) vwCl (tyE E) U ∧ Nst U ∧ va_AO RX3 U
theorem Kw.warm {E : ev} {s U : State} (h : Kw E s) (hW : s.WarmedH U.vm) : Kw E U := ⟨va_K.moved hW.alike h.1, fun q hq => va_Nw.warmM hW (h.2.1 q hq), va_AO.moved hW.alike h.2.2⟩
theorem Kw.calling {E : ev} {U : State} {g : JFrame} {mk : MethodId} {a : Array Value} (h : Kw E U) : Kw E (U.calling g mk a) := ⟨va_K.moved (u := U) (U := U.calling g mk a) (Vm.Alike.refl U.vm) h.1, fun q hq => va_Nw.same rfl rfl (h.2.1 q hq), va_AO.moved (u := U) (U := U.calling g mk a) (Vm.Alike.refl U.vm) h.2.2⟩
/-! a list of cells and its tail -/
theorem tl_at {α : Type} {ws tl : List α} {k : Nat} {x : α} (h : ws[k]? = some x) : (ws ++ tl)[k]? = some x := by
  rw [List.getElem?_append_left (List.getElem?_eq_some_iff.mp h).1]; exact h
theorem tl_ar {α : Type} {ws tl : List α} {k : Nat} {x : α} (h : tl[k]? = some x) : (ws ++ tl)[ws.length + k]? = some x := by
  rw [List.getElem?_append_right (by omega), show ws.length + k - ws.length = k by omega]; exact h
theorem tl_set {α : Type} {ws tl : List α} {k : Nat} {x y : α} (h : ws[k]? = some x) : (ws ++ tl).set k y = ws.set k y ++ tl := List.set_append_left (s := ws) (t := tl) k y (List.getElem?_eq_some_iff.mp h).1
section TL
variable {D : va_G} {cl : List vw_C} {ws tl : va_W} {H : Heap} {A : Nat → Prop}
theorem P_l (h : va_P D cl (ws ++ tl) H) : va_P D cl ws H := fun k q hk => h k q (tl_at hk)
theorem P_r (h : va_P D cl (ws ++ tl) H) : va_P D cl tl H := fun k q hk => h (ws.length + k) q (tl_ar hk)
theorem D_l (h : va_D A (ws ++ tl)) : va_D A ws := ⟨fun i j p q hi hj e => h.1 i j p q (tl_at hi) (tl_at hj) e, fun k q hk => h.2 k q (tl_at hk)⟩
theorem D_r (h : va_D A (ws ++ tl)) : va_D A tl := ⟨fun i j p q hi hj e => by have := h.1 _ _ p q (tl_ar (ws := ws) hi) (tl_ar (ws := ws) hj) e; omega, fun k q hk => h.2 _ q (tl_ar hk)⟩
theorem D_x (h : va_D A (ws ++ tl)) {i j : Nat} {p q : Nat × va_E} (hi : ws[i]? = some p) (hj : tl[j]? = some q) : p.1 ≠ q.1 := fun e => by
  have h1 := h.1 i _ p q (tl_at hi) (tl_ar hj) e
  have h2 := (List.getElem?_eq_some_iff.mp hi).1
  omega
theorem P_new {x : va_W} (h : va_P D cl ((ws ++ tl) ++ x) H) : va_P D cl ((ws ++ x) ++ tl) H := ((P_l (P_l h)).app (P_r h)).app (P_r (P_l h))
theorem D_new {x : va_W} (h : va_D A ((ws ++ tl) ++ x)) : va_D A ((ws ++ x) ++ tl) := by
  have h1 := D_l (D_l h)
  have h2 := D_r (D_l h)
  have h3 := D_r h
  refine (h1.app h3 (fun i j p q hi hj => D_x h (tl_at hi) hj)).app h2 (fun i j p q hi hj => ?_)
  by_cases g : i < ws.length
  · rw [List.getElem?_append_left g] at hi
    exact D_x (D_l h) hi hj
  · rw [List.getElem?_append_right (by omega)] at hi
    exact (D_x h (tl_ar hj) hi).symm
/-- behind a call: what came back beside the rest and the tail -/
theorem jn {wc wr w1 : va_W} {H1 : Heap} (hP : va_P D cl (ws ++ tl) H) (hD : va_D A (ws ++ tl)) (isC isR : List Nat) (hC : isC.map (fun i => ws[i]?) = wc.map some) (hR : isR.map (fun i => ws[i]?) = wr.map some) (hn : va_nd isR = true) (hdis : ∀ i ∈ isR, i ∉ isC)
    (hk : ∀ q : Nat, q < H.size → ¬ va_A wc H.size q → H1[q]? = H[q]?) (hF : ∀ q, va_A wc H.size q → A q) (hP1 : va_P D cl w1 H1) (hD1 : va_D (va_A wc H.size) w1) : va_P D cl ((wr ++ w1) ++ tl) H1 ∧ va_D A ((wr ++ w1) ++ tl) := by
  obtain ⟨gP, gD⟩ := va_join (wr := wr) (w1 := w1) (P_l hP) (D_l hD) isC isR hC hR hn hdis hk hF hP1 hD1
  have at' : ∀ {is : List Nat} {w : va_W}, is.map (fun i => ws[i]?) = w.map some → ∀ (k : Nat) (q : Nat × va_E), w[k]? = some q → ∃ i : Nat, ws[i]? = some q := by
    intro is w hs k q hq
    have h1 : (is.map (fun i => ws[i]?))[k]? = some (some q) := by rw [hs, List.getElem?_map, hq]; rfl
    rw [List.getElem?_map] at h1
    cases hi : is[k]? with
    | none => rw [hi] at h1; cases h1
    | some i => rw [hi] at h1; exact ⟨i, Option.some.inj h1⟩
  have apart : ∀ (k : Nat) (q : Nat × va_E), tl[k]? = some q → q.1 < H.size ∧ ¬ va_A wc H.size q.1 := by
    intro k q hq
    have hl := ((P_r hP) k q hq).lt
    refine ⟨hl, fun h => ?_⟩
    rcases h with ⟨k2, e, h⟩ | h
    · obtain ⟨j, h4⟩ := at' hC k2 (q.1, e) h
      exact D_x hD h4 hq rfl
    · omega
  refine ⟨gP.app (fun k q hq => ((P_r hP) k q hq).kept (hk q.1 (apart k q hq).1 (apart k q hq).2)), gD.app (D_r hD) (fun i j p q hi hj => ?_)⟩
  by_cases g : i < wr.length
  · rw [List.getElem?_append_left g] at hi
    obtain ⟨i2, h2⟩ := at' hR i p hi
    exact D_x hD h2 hj
  · rw [List.getElem?_append_right (by omega)] at hi
    exact fun e => (apart j q hj).2 (by rw [← e]; exact hD1.2 _ p hi)
theorem free_l {H0 : Heap} {locs : List Loc} {wc : va_W} (hD : va_D A (ws ++ tl)) (hS : va_S A H0 H locs) (hA : ∀ q, H0.size ≤ q → A q) (isC : List Nat) (hC : isC.map (fun i => ws[i]?) = wc.map some) : ∀ q, va_A wc H.size q → A q := va_free (wc := wc) (D_l hD) hS hA isC hC
end TL
def gg (E : ev) (p : Program) (l : Launch) (e : Env) (R : Room) (s : State) (m : MethodId) (args : Array Value) (below : List Frame) (meth : Method) (c : Code) (A : Nat → Prop) (Q : State → Prop) (nL : Nat) (tl : va_W) : Gt := fun ce so ws lv pc st =>
  ∀ (H : Heap) (locs : List Loc) (ls : Array Slot), Pw E (ws ++ tl) H → va_D A (ws ++ tl) → va_S A s.heap H locs → lv_has ls nL lv → W p l e R s m args below meth c H locs ce so Q (F0 m pc ls st)
def Ok (G : Gt) (E : ev) (l : Launch) (R : Room) (y : MethodName) (cc : ByteArray) (nL : Nat) (Ts : List Cond) : Prop :=
  ∃ (p : Program) (e : Env) (s : State) (m : MethodId) (args : Array Value) (below : List Frame) (meth : Method) (c : Code) (A : Nat → Prop) (Q : State → Prop) (tl : va_W),
    G = gg E p l e R s m args below meth c A Q nL tl ∧ p.tables.exec = Jvm.exec ∧ c.code = cc ∧ c.maxLocals = nL ∧ s.vm.findClass y.cls = some m.cls ∧ meth.name = y.name ∧ (∀ w ∈ Ts, w.before args s = true) ∧ Kw E s ∧ (∀ q : Nat, s.heap.size ≤ q → A q)
section GR
variable {G : Gt} {E : ev} {l : Launch} {R : Room} {y : MethodName} {cc : ByteArray} {nL : Nat} {Ts : List Cond} {ce so : Nat} {ws : va_W} {lv : Lv} {pc : Nat} {st : List Value}
theorem g_iconst (C : Ok G E l R y cc nL Ts) {n : Int} (hd : decode cc pc = .ok (.iconst n, 1)) (k : G ce so ws lv (pc + 1) (.int (zI n) :: st)) : G ce so ws lv pc st := by
  obtain ⟨p, e, s, m, args, below, meth, c, A, Q, tl, rfl, hx, hb, -⟩ := C
  exact fun H locs ls hP hD hS hl => lv_iconst hx hb hd rfl (k H locs ls hP hD hS hl)
theorem g_bipush (C : Ok G E l R y cc nL Ts) {n : Int} (hd : decode cc pc = .ok (.bipush n, 2)) (hn : (Int8.ofInt n).toInt32 = zI n) (k : G ce so ws lv (pc + 2) (.int (zI n) :: st)) : G ce so ws lv pc st := by
  obtain ⟨p, e, s, m, args, below, meth, c, A, Q, tl, rfl, hx, hb, -⟩ := C
  exact fun H locs ls hP hD hS hl => lv_bipush hx hb hd hn (k H locs ls hP hD hS hl)
theorem g_sipush (C : Ok G E l R y cc nL Ts) {n : Int} (hd : decode cc pc = .ok (.sipush n, 3)) (hn : (Int16.ofInt n).toInt32 = zI n) (k : G ce so ws lv (pc + 3) (.int (zI n) :: st)) : G ce so ws lv pc st := by
  obtain ⟨p, e, s, m, args, below, meth, c, A, Q, tl, rfl, hx, hb, -⟩ := C
  exact fun H locs ls hP hD hS hl => lv_sipush hx hb hd hn (k H locs ls hP hD hS hl)
theorem g_iload_n (C : Ok G E l R y cc nL Ts) {k : Fin 4} {x : Int32} (hd : decode cc pc = .ok (.iload_n k, 1)) (j : Nat) (hj : lv[j]? = some ((k : Nat), .int x)) (kk : G ce so ws lv (pc + 1) (.int x :: st)) : G ce so ws lv pc st := by
  obtain ⟨p, e, s, m, args, below, meth, c, A, Q, tl, rfl, hx, hb, -⟩ := C
  exact fun H locs ls hP hD hS hl => lv_iload_n hx hb hd rfl (lv_at hl j hj) (kk H locs ls hP hD hS hl)
theorem g_iload (C : Ok G E l R y cc nL Ts) {k : Nat} {x : Int32} (hd : decode cc pc = .ok (.iload k, 2)) (j : Nat) (hj : lv[j]? = some (k, .int x)) (kk : G ce so ws lv (pc + 2) (.int x :: st)) : G ce so ws lv pc st := by
  obtain ⟨p, e, s, m, args, below, meth, c, A, Q, tl, rfl, hx, hb, -⟩ := C
  exact fun H locs ls hP hD hS hl => lv_iload hx hb hd (lv_at hl j hj) (kk H locs ls hP hD hS hl)
theorem g_lload_n (C : Ok G E l R y cc nL Ts) {k : Fin 4} {x : Int64} (hd : decode cc pc = .ok (.lload_n k, 1)) (j : Nat) (hj : lv[j]? = some ((k : Nat), .long x)) (kk : G ce so ws lv (pc + 1) (.long x :: st)) : G ce so ws lv pc st := by
  obtain ⟨p, e, s, m, args, below, meth, c, A, Q, tl, rfl, hx, hb, -⟩ := C
  exact fun H locs ls hP hD hS hl => lv_lload_n hx hb hd rfl (lv_at hl j hj) (kk H locs ls hP hD hS hl)
theorem g_lload (C : Ok G E l R y cc nL Ts) {k : Nat} {x : Int64} (hd : decode cc pc = .ok (.lload k, 2)) (j : Nat) (hj : lv[j]? = some (k, .long x)) (kk : G ce so ws lv (pc + 2) (.long x :: st)) : G ce so ws lv pc st := by
  obtain ⟨p, e, s, m, args, below, meth, c, A, Q, tl, rfl, hx, hb, -⟩ := C
  exact fun H locs ls hP hD hS hl => lv_lload hx hb hd (lv_at hl j hj) (kk H locs ls hP hD hS hl)
theorem g_aload_n (C : Ok G E l R y cc nL Ts) {k : Fin 4} {x : Nat} (hd : decode cc pc = .ok (.aload_n k, 1)) (j : Nat) (hj : lv[j]? = some ((k : Nat), .ref x)) (kk : G ce so ws lv (pc + 1) (.ref x :: st)) : G ce so ws lv pc st := by
  obtain ⟨p, e, s, m, args, below, meth, c, A, Q, tl, rfl, hx, hb, -⟩ := C
  exact fun H locs ls hP hD hS hl => lv_aload_n hx hb hd rfl (lv_at hl j hj) (kk H locs ls hP hD hS hl)
theorem g_aload (C : Ok G E l R y cc nL Ts) {k : Nat} {x : Nat} (hd : decode cc pc = .ok (.aload k, 2)) (j : Nat) (hj : lv[j]? = some (k, .ref x)) (kk : G ce so ws lv (pc + 2) (.ref x :: st)) : G ce so ws lv pc st := by
  obtain ⟨p, e, s, m, args, below, meth, c, A, Q, tl, rfl, hx, hb, -⟩ := C
  exact fun H locs ls hP hD hS hl => lv_aload hx hb hd (lv_at hl j hj) (kk H locs ls hP hD hS hl)
theorem g_istore_n (C : Ok G E l R y cc nL Ts) {k : Fin 4} {x : Int32} (lv' : Lv) (hd : decode cc pc = .ok (.istore_n k, 1)) (hn : (k : Nat) < nL) (hl : ((k : Nat), Value.int x) :: lv.filter (fun q => !(q.1 == (k : Nat)) && !(q.1 + 1 == (k : Nat) && q.2.category == 2)) = lv') (kk : G ce so ws lv' (pc + 1) st) : G ce so ws lv pc (.int x :: st) := by
  obtain ⟨p, e, s, m, args, below, meth, c, A, Q, tl, rfl, hx, hb, -⟩ := C
  exact fun H locs ls hP hD hS h => lv_istore_n hx hb hd rfl h hn hl (fun ls' h' => kk H locs ls' hP hD hS h')
theorem g_istore (C : Ok G E l R y cc nL Ts) {k : Nat} {x : Int32} (lv' : Lv) (hd : decode cc pc = .ok (.istore k, 2)) (hn : k < nL) (hl : (k, Value.int x) :: lv.filter (fun q => !(q.1 == k) && !(q.1 + 1 == k && q.2.category == 2)) = lv') (kk : G ce so ws lv' (pc + 2) st) : G ce so ws lv pc (.int x :: st) := by
  obtain ⟨p, e, s, m, args, below, meth, c, A, Q, tl, rfl, hx, hb, -⟩ := C
  exact fun H locs ls hP hD hS h => lv_istore hx hb hd h hn hl (fun ls' h' => kk H locs ls' hP hD hS h')
theorem g_lstore_n (C : Ok G E l R y cc nL Ts) {k : Fin 4} {x : Int64} (lv' : Lv) (hd : decode cc pc = .ok (.lstore_n k, 1)) (hn : (k : Nat) + 1 < nL) (hl : ((k : Nat), Value.long x) :: lv.filter (fun q => !(q.1 == (k : Nat)) && (!(q.1 == (k : Nat) + 1) && !(q.1 + 1 == (k : Nat) && q.2.category == 2))) = lv') (kk : G ce so ws lv' (pc + 1) st) : G ce so ws lv pc (.long x :: st) := by
  obtain ⟨p, e, s, m, args, below, meth, c, A, Q, tl, rfl, hx, hb, -⟩ := C
  exact fun H locs ls hP hD hS h => lv_lstore_n hx hb hd rfl h hn hl (fun ls' h' => kk H locs ls' hP hD hS h')
theorem g_lstore (C : Ok G E l R y cc nL Ts) {k : Nat} {x : Int64} (lv' : Lv) (hd : decode cc pc = .ok (.lstore k, 2)) (hn : k + 1 < nL) (hl : (k, Value.long x) :: lv.filter (fun q => !(q.1 == k) && (!(q.1 == k + 1) && !(q.1 + 1 == k && q.2.category == 2))) = lv') (kk : G ce so ws lv' (pc + 2) st) : G ce so ws lv pc (.long x :: st) := by
  obtain ⟨p, e, s, m, args, below, meth, c, A, Q, tl, rfl, hx, hb, -⟩ := C
  exact fun H locs ls hP hD hS h => lv_lstore hx hb hd h hn hl (fun ls' h' => kk H locs ls' hP hD hS h')
theorem g_astore_n (C : Ok G E l R y cc nL Ts) {k : Fin 4} {x : Nat} (lv' : Lv) (hd : decode cc pc = .ok (.astore_n k, 1)) (hn : (k : Nat) < nL) (hl : ((k : Nat), Value.ref x) :: lv.filter (fun q => !(q.1 == (k : Nat)) && !(q.1 + 1 == (k : Nat) && q.2.category == 2)) = lv') (kk : G ce so ws lv' (pc + 1) st) : G ce so ws lv pc (.ref x :: st) := by
  obtain ⟨p, e, s, m, args, below, meth, c, A, Q, tl, rfl, hx, hb, -⟩ := C
  exact fun H locs ls hP hD hS h => lv_astore_n hx hb hd rfl h hn hl (fun ls' h' => kk H locs ls' hP hD hS h')
theorem g_astore (C : Ok G E l R y cc nL Ts) {k : Nat} {x : Nat} (lv' : Lv) (hd : decode cc pc = .ok (.astore k, 2)) (hn : k < nL) (hl : (k, Value.ref x) :: lv.filter (fun q => !(q.1 == k) && !(q.1 + 1 == k && q.2.category == 2)) = lv') (kk : G ce so ws lv' (pc + 2) st) : G ce so ws lv pc (.ref x :: st) := by
  obtain ⟨p, e, s, m, args, below, meth, c, A, Q, tl, rfl, hx, hb, -⟩ := C
  exact fun H locs ls hP hD hS h => lv_astore hx hb hd h hn hl (fun ls' h' => kk H locs ls' hP hD hS h')
theorem g_iinc (C : Ok G E l R y cc nL Ts) {k : Nat} {n x : Int} (lv' : Lv) (hd : decode cc pc = .ok (.iinc k n, 3)) (j : Nat) (hj : lv[j]? = some (k, .int (zI x))) (hn : k < nL) (hl : (k, Value.int (zI (x + n))) :: lv.filter (fun q => !(q.1 == k) && !(q.1 + 1 == k && q.2.category == 2)) = lv') (kk : G ce so ws lv' (pc + 3) st) : G ce so ws lv pc st := by
  obtain ⟨p, e, s, m, args, below, meth, c, A, Q, tl, rfl, hx, hb, -⟩ := C
  exact fun H locs ls hP hD hS h => lv_iinc (k := j) hx hb hd h hj (zI_add x n) hn hl (fun ls' h' => kk H locs ls' hP hD hS h')
theorem g_iadd (C : Ok G E l R y cc nL Ts) {a b : Int} (hd : decode cc pc = .ok (.iadd, 1)) (k : G ce so ws lv (pc + 1) (.int (zI (a + b)) :: st)) : G ce so ws lv pc (.int (zI b) :: .int (zI a) :: st) := by
  obtain ⟨p, e, s, m, args, below, meth, c, A, Q, tl, rfl, hx, hb, -⟩ := C
  rw [← zI_add] at k
  exact fun H locs ls hP hD hS hl => lv_iadd hx hb hd (k H locs ls hP hD hS hl)
theorem g_isub (C : Ok G E l R y cc nL Ts) {a b : Int} (hd : decode cc pc = .ok (.isub, 1)) (k : G ce so ws lv (pc + 1) (.int (zI (a - b)) :: st)) : G ce so ws lv pc (.int (zI b) :: .int (zI a) :: st) := by
  obtain ⟨p, e, s, m, args, below, meth, c, A, Q, tl, rfl, hx, hb, -⟩ := C
  rw [← zI_sub] at k
  exact fun H locs ls hP hD hS hl => lv_isub hx hb hd (k H locs ls hP hD hS hl)
theorem g_imul (C : Ok G E l R y cc nL Ts) {a b : Int} (hd : decode cc pc = .ok (.imul, 1)) (k : G ce so ws lv (pc + 1) (.int (zI (a * b)) :: st)) : G ce so ws lv pc (.int (zI b) :: .int (zI a) :: st) := by
  obtain ⟨p, e, s, m, args, below, meth, c, A, Q, tl, rfl, hx, hb, -⟩ := C
  rw [← zI_mul] at k
  exact fun H locs ls hP hD hS hl => lv_imul hx hb hd (k H locs ls hP hD hS hl)
theorem g_irem (C : Ok G E l R y cc nL Ts) {a b : Int} (hd : decode cc pc = .ok (.irem, 1)) (a1 : 0 ≤ a) (a2 : a < 2147483648) (b1 : 0 < b) (b2 : b < 2147483648) (k : G ce so ws lv (pc + 1) (.int (zI (a % b)) :: st)) : G ce so ws lv pc (.int (zI b) :: .int (zI a) :: st) := by
  obtain ⟨p, e, s, m, args, below, meth, c, A, Q, tl, rfl, hx, hb, -⟩ := C
  rw [← zI_rem a1 a2 b1 b2] at k
  have hne : ¬ zI b = 0 := fun h => by
    rw [← zI_0, zI_eq (by omega) b2 (by omega) (by omega)] at h
    omega
  exact fun H locs ls hP hD hS hl => lv_irem hx hb hd hne (k H locs ls hP hD hS hl)
/-- modulo 32003 -/
theorem g_mod (C : Ok G E l R y cc nL Ts) {a : Int} (hd : decode cc pc = .ok (.irem, 1)) (a1 : 0 ≤ a) (a2 : a < 2147483648) (k : G ce so ws lv (pc + 1) (.int (zI ((cF a).val : Int)) :: st)) : G ce so ws lv pc (.int (zI 32003) :: .int (zI a) :: st) := by
  rw [cF_val] at k
  exact g_irem C hd a1 a2 (by omega) (by omega) k
theorem g_goto (C : Ok G E l R y cc nL Ts) {off : Int} (tgt : Nat) (hd : decode cc pc = .ok (.goto off, 3)) (ht : (pc : Int) + off = (tgt : Int)) (k : G ce so ws lv tgt st) : G ce so ws lv pc st := by
  obtain ⟨p, e, s, m, args, below, meth, c, A, Q, tl, rfl, hx, hb, -⟩ := C
  exact fun H locs ls hP hD hS hl => lv_goto hx hb hd ht (k H locs ls hP hD hS hl)
theorem g_icmp_eq (C : Ok G E l R y cc nL Ts) {a b off : Int} (tgt : Nat) (hd : decode cc pc = .ok (.if_icmp .eq off, 3)) (ht : (pc : Int) + off = (tgt : Int)) (a1 : -2147483648 ≤ a) (a2 : a < 2147483648) (b1 : -2147483648 ≤ b) (b2 : b < 2147483648) (kt : a = b → G ce so ws lv tgt st) (kf : a ≠ b → G ce so ws lv (pc + 3) st) : G ce so ws lv pc (.int (zI b) :: .int (zI a) :: st) := by
  obtain ⟨p, e, s, m, args, below, meth, c, A, Q, tl, rfl, hx, hb, -⟩ := C
  exact fun H locs ls hP hD hS hl => lv_icmp_eq hx hb hd ht (fun h => kt ((zI_eq a1 a2 b1 b2).mp h) H locs ls hP hD hS hl) (fun h => kf (fun q => h ((zI_eq a1 a2 b1 b2).mpr q)) H locs ls hP hD hS hl)
theorem g_icmp_ne (C : Ok G E l R y cc nL Ts) {a b off : Int} (tgt : Nat) (hd : decode cc pc = .ok (.if_icmp .ne off, 3)) (ht : (pc : Int) + off = (tgt : Int)) (a1 : -2147483648 ≤ a) (a2 : a < 2147483648) (b1 : -2147483648 ≤ b) (b2 : b < 2147483648) (kt : a ≠ b → G ce so ws lv tgt st) (kf : a = b → G ce so ws lv (pc + 3) st) : G ce so ws lv pc (.int (zI b) :: .int (zI a) :: st) := by
  obtain ⟨p, e, s, m, args, below, meth, c, A, Q, tl, rfl, hx, hb, -⟩ := C
  exact fun H locs ls hP hD hS hl => lv_icmp_ne hx hb hd ht (fun h => kt (fun q => h ((zI_eq a1 a2 b1 b2).mpr q)) H locs ls hP hD hS hl) (fun h => kf ((zI_eq a1 a2 b1 b2).mp h) H locs ls hP hD hS hl)
theorem g_icmp_lt (C : Ok G E l R y cc nL Ts) {a b off : Int} (tgt : Nat) (hd : decode cc pc = .ok (.if_icmp .lt off, 3)) (ht : (pc : Int) + off = (tgt : Int)) (a1 : -2147483648 ≤ a) (a2 : a < 2147483648) (b1 : -2147483648 ≤ b) (b2 : b < 2147483648) (kt : a < b → G ce so ws lv tgt st) (kf : b ≤ a → G ce so ws lv (pc + 3) st) : G ce so ws lv pc (.int (zI b) :: .int (zI a) :: st) := by
  obtain ⟨p, e, s, m, args, below, meth, c, A, Q, tl, rfl, hx, hb, -⟩ := C
  exact fun H locs ls hP hD hS hl => lv_icmp_lt hx hb hd ht (fun h => kt ((zI_lt a1 a2 b1 b2).mp h) H locs ls hP hD hS hl) (fun h => kf (by
    have q : ¬ a < b := fun z => h ((zI_lt a1 a2 b1 b2).mpr z)
    omega) H locs ls hP hD hS hl)
theorem g_icmp_ge (C : Ok G E l R y cc nL Ts) {a b off : Int} (tgt : Nat) (hd : decode cc pc = .ok (.if_icmp .ge off, 3)) (ht : (pc : Int) + off = (tgt : Int)) (a1 : -2147483648 ≤ a) (a2 : a < 2147483648) (b1 : -2147483648 ≤ b) (b2 : b < 2147483648) (kt : b ≤ a → G ce so ws lv tgt st) (kf : a < b → G ce so ws lv (pc + 3) st) : G ce so ws lv pc (.int (zI b) :: .int (zI a) :: st) := by
  obtain ⟨p, e, s, m, args, below, meth, c, A, Q, tl, rfl, hx, hb, -⟩ := C
  exact fun H locs ls hP hD hS hl => lv_icmp_ge hx hb hd ht (fun h => kt ((zI_le b1 b2 a1 a2).mp h) H locs ls hP hD hS hl) (fun h => kf (by
    have q : ¬ b ≤ a := fun z => h ((zI_le b1 b2 a1 a2).mpr z)
    omega) H locs ls hP hD hS hl)
theorem g_icmp_gt (C : Ok G E l R y cc nL Ts) {a b off : Int} (tgt : Nat) (hd : decode cc pc = .ok (.if_icmp .gt off, 3)) (ht : (pc : Int) + off = (tgt : Int)) (a1 : -2147483648 ≤ a) (a2 : a < 2147483648) (b1 : -2147483648 ≤ b) (b2 : b < 2147483648) (kt : b < a → G ce so ws lv tgt st) (kf : a ≤ b → G ce so ws lv (pc + 3) st) : G ce so ws lv pc (.int (zI b) :: .int (zI a) :: st) := by
  obtain ⟨p, e, s, m, args, below, meth, c, A, Q, tl, rfl, hx, hb, -⟩ := C
  exact fun H locs ls hP hD hS hl => lv_icmp_gt hx hb hd ht (fun h => kt ((zI_lt b1 b2 a1 a2).mp h) H locs ls hP hD hS hl) (fun h => kf (by
    have q : ¬ b < a := fun z => h ((zI_lt b1 b2 a1 a2).mpr z)
    omega) H locs ls hP hD hS hl)
theorem g_icmp_le (C : Ok G E l R y cc nL Ts) {a b off : Int} (tgt : Nat) (hd : decode cc pc = .ok (.if_icmp .le off, 3)) (ht : (pc : Int) + off = (tgt : Int)) (a1 : -2147483648 ≤ a) (a2 : a < 2147483648) (b1 : -2147483648 ≤ b) (b2 : b < 2147483648) (kt : a ≤ b → G ce so ws lv tgt st) (kf : b < a → G ce so ws lv (pc + 3) st) : G ce so ws lv pc (.int (zI b) :: .int (zI a) :: st) := by
  obtain ⟨p, e, s, m, args, below, meth, c, A, Q, tl, rfl, hx, hb, -⟩ := C
  exact fun H locs ls hP hD hS hl => lv_icmp_le hx hb hd ht (fun h => kt ((zI_le a1 a2 b1 b2).mp h) H locs ls hP hD hS hl) (fun h => kf (by
    have q : ¬ a ≤ b := fun z => h ((zI_le a1 a2 b1 b2).mpr z)
    omega) H locs ls hP hD hS hl)
theorem g_if_eq (C : Ok G E l R y cc nL Ts) {a off : Int} (tgt : Nat) (hd : decode cc pc = .ok (.ifCond .eq off, 3)) (ht : (pc : Int) + off = (tgt : Int)) (a1 : -2147483648 ≤ a) (a2 : a < 2147483648) (kt : a = 0 → G ce so ws lv tgt st) (kf : a ≠ 0 → G ce so ws lv (pc + 3) st) : G ce so ws lv pc (.int (zI a) :: st) := by
  obtain ⟨p, e, s, m, args, below, meth, c, A, Q, tl, rfl, hx, hb, -⟩ := C
  exact fun H locs ls hP hD hS hl => lv_if_eq hx hb hd ht (fun h => kt ((zI_eq a1 a2 (by omega) (by omega)).mp (h.trans zI_0.symm)) H locs ls hP hD hS hl) (fun h => kf (fun q => h (by rw [q]; rfl)) H locs ls hP hD hS hl)
theorem g_if_ne (C : Ok G E l R y cc nL Ts) {a off : Int} (tgt : Nat) (hd : decode cc pc = .ok (.ifCond .ne off, 3)) (ht : (pc : Int) + off = (tgt : Int)) (a1 : -2147483648 ≤ a) (a2 : a < 2147483648) (kt : a ≠ 0 → G ce so ws lv tgt st) (kf : a = 0 → G ce so ws lv (pc + 3) st) : G ce so ws lv pc (.int (zI a) :: st) := by
  obtain ⟨p, e, s, m, args, below, meth, c, A, Q, tl, rfl, hx, hb, -⟩ := C
  exact fun H locs ls hP hD hS hl => lv_if_ne hx hb hd ht (fun h => kt (fun q => h (by rw [q]; rfl)) H locs ls hP hD hS hl) (fun h => kf ((zI_eq a1 a2 (by omega) (by omega)).mp (h.trans zI_0.symm)) H locs ls hP hD hS hl)
theorem g_if_lt (C : Ok G E l R y cc nL Ts) {a off : Int} (tgt : Nat) (hd : decode cc pc = .ok (.ifCond .lt off, 3)) (ht : (pc : Int) + off = (tgt : Int)) (a1 : -2147483648 ≤ a) (a2 : a < 2147483648) (kt : a < 0 → G ce so ws lv tgt st) (kf : 0 ≤ a → G ce so ws lv (pc + 3) st) : G ce so ws lv pc (.int (zI a) :: st) := by
  obtain ⟨p, e, s, m, args, below, meth, c, A, Q, tl, rfl, hx, hb, -⟩ := C
  have hz := zI_lt a1 a2 (b := 0) (by omega) (by omega)
  rw [zI_0] at hz
  exact fun H locs ls hP hD hS hl => lv_if_lt hx hb hd ht (fun h => kt (hz.mp h) H locs ls hP hD hS hl) (fun h => kf (by
    have q : ¬ a < 0 := fun z => h (hz.mpr z)
    omega) H locs ls hP hD hS hl)
theorem g_if_ge (C : Ok G E l R y cc nL Ts) {a off : Int} (tgt : Nat) (hd : decode cc pc = .ok (.ifCond .ge off, 3)) (ht : (pc : Int) + off = (tgt : Int)) (a1 : -2147483648 ≤ a) (a2 : a < 2147483648) (kt : 0 ≤ a → G ce so ws lv tgt st) (kf : a < 0 → G ce so ws lv (pc + 3) st) : G ce so ws lv pc (.int (zI a) :: st) := by
  obtain ⟨p, e, s, m, args, below, meth, c, A, Q, tl, rfl, hx, hb, -⟩ := C
  have hz := zI_le (a := 0) (by omega) (by omega) a1 a2
  rw [zI_0] at hz
  exact fun H locs ls hP hD hS hl => lv_if_ge hx hb hd ht (fun h => kt (hz.mp h) H locs ls hP hD hS hl) (fun h => kf (by
    have q : ¬ 0 ≤ a := fun z => h (hz.mpr z)
    omega) H locs ls hP hD hS hl)
theorem g_if_gt (C : Ok G E l R y cc nL Ts) {a off : Int} (tgt : Nat) (hd : decode cc pc = .ok (.ifCond .gt off, 3)) (ht : (pc : Int) + off = (tgt : Int)) (a1 : -2147483648 ≤ a) (a2 : a < 2147483648) (kt : 0 < a → G ce so ws lv tgt st) (kf : a ≤ 0 → G ce so ws lv (pc + 3) st) : G ce so ws lv pc (.int (zI a) :: st) := by
  obtain ⟨p, e, s, m, args, below, meth, c, A, Q, tl, rfl, hx, hb, -⟩ := C
  have hz := zI_lt (a := 0) (by omega) (by omega) a1 a2
  rw [zI_0] at hz
  exact fun H locs ls hP hD hS hl => lv_if_gt hx hb hd ht (fun h => kt (hz.mp h) H locs ls hP hD hS hl) (fun h => kf (by
    have q : ¬ 0 < a := fun z => h (hz.mpr z)
    omega) H locs ls hP hD hS hl)
theorem g_if_le (C : Ok G E l R y cc nL Ts) {a off : Int} (tgt : Nat) (hd : decode cc pc = .ok (.ifCond .le off, 3)) (ht : (pc : Int) + off = (tgt : Int)) (a1 : -2147483648 ≤ a) (a2 : a < 2147483648) (kt : a ≤ 0 → G ce so ws lv tgt st) (kf : 0 < a → G ce so ws lv (pc + 3) st) : G ce so ws lv pc (.int (zI a) :: st) := by
  obtain ⟨p, e, s, m, args, below, meth, c, A, Q, tl, rfl, hx, hb, -⟩ := C
  have hz := zI_le a1 a2 (b := 0) (by omega) (by omega)
  rw [zI_0] at hz
  exact fun H locs ls hP hD hS hl => lv_if_le hx hb hd ht (fun h => kt (hz.mp h) H locs ls hP hD hS hl) (fun h => kf (by
    have q : ¬ a ≤ 0 := fun z => h (hz.mpr z)
    omega) H locs ls hP hD hS hl)
theorem g_dup (C : Ok G E l R y cc nL Ts) {v : Value} (hd : decode cc pc = .ok (.dup, 1)) (hv : v.category = 1) (k : G ce so ws lv (pc + 1) (v :: v :: st)) : G ce so ws lv pc (v :: st) := by
  obtain ⟨p, e, s, m, args, below, meth, c, A, Q, tl, rfl, hx, hb, -⟩ := C
  exact fun H locs ls hP hD hS hl => lv_dup hx hb hd hv (k H locs ls hP hD hS hl)
/-- the same state, said otherwise -/
theorem g_eq {ws' : va_W} {lv' : Lv} {st' : List Value} (hw : ws = ws') (hl : lv = lv') (hs : st = st') (k : G ce so ws' lv' pc st') : G ce so ws lv pc st := by subst hw; subst hl; subst hs; exact k
theorem g_top {x : Int32} (x' : Int32) (h : x = x') (k : G ce so ws lv pc (.int x' :: st)) : G ce so ws lv pc (.int x :: st) := by subst h; exact k
theorem g_lsub (C : Ok G E l R y cc nL Ts) {lv' : Lv} (is : List Nat) (h : lv_pick lv is = lv') (k : G ce so ws lv' pc st) : G ce so ws lv pc st := by
  obtain ⟨p, e, s, m, args, below, meth, c, A, Q, tl, rfl, hx, hb, -⟩ := C
  exact fun H locs ls hP hD hS hl => k H locs ls hP hD hS (lv_sub hl is h)
theorem g_wsub (C : Ok G E l R y cc nL Ts) {ws' : va_W} (is : List Nat) (hn : va_nd is = true) (h1 : is.filterMap (fun i => ws[i]?) = ws') (h : is.map (fun i => ws[i]?) = ws'.map some) (k : G ce so ws' lv pc st) : G ce so ws lv pc st := by
  obtain ⟨p, e, s, m, args, below, meth, c, A, Q, tl, rfl, hx, hb, -⟩ := C
  refine fun H locs ls hP hD hS hl => k H locs ls (((P_l hP).sub is h1).app (P_r hP)) (((D_l hD).sub is hn h).app (D_r hD) (fun i j p q hi hj => ?_)) hS hl
  have h2 : (is.map (fun i => ws[i]?))[i]? = some (some p) := by rw [h, List.getElem?_map, hi]; rfl
  rw [List.getElem?_map] at h2
  cases h3 : is[i]? with
  | none => rw [h3] at h2; cases h2
  | some i2 => rw [h3] at h2; exact D_x hD (Option.some.inj h2) hj
/-- a list of cells in another order -/
theorem g_in (C : Ok G E l R y cc nL Ts) {w1 w2 : va_W} (k : ∀ G2 : Gt, Ok G2 E l R y cc nL Ts → (∀ (ce so : Nat) (ws : va_W) (lv : Lv) (pc : Nat) (st : List Value), G ce so (ws ++ w2) lv pc st → G2 ce so ws lv pc st) → G2 ce so w1 lv pc st) : G ce so (w1 ++ w2) lv pc st := by
  obtain ⟨p, e, s, m, args, below, meth, c, A, Q, tl, rfl, hr⟩ := C
  have h := k (gg E p l e R s m args below meth c A Q nL (w2 ++ tl)) ⟨p, e, s, m, args, below, meth, c, A, Q, w2 ++ tl, rfl, hr⟩ (fun ce so ws lv pc st h H locs ls hP hD hS hl => h H locs ls (by rw [List.append_assoc]; exact hP) (by rw [List.append_assoc]; exact hD) hS hl)
  exact fun H locs ls hP hD hS hl => h H locs ls (by rw [← List.append_assoc]; exact hP) (by rw [← List.append_assoc]; exact hD) hS hl
theorem g_get (C : Ok G E l R y cc nL Ts) {CC : String} {T : u_T} {N ci index a : Nat} {fs : List Value} {v : Value} (q0 : Nat) (he : ws[q0]? = some (a, .inr (ci, fs))) (hc : vwCl[ci]? = some (CC, T, N)) (k : Nat) (hk : k < N) (hin : ∀ w ∈ u_ws CC T N, w ∈ Ts) (hlink : Cond.fieldLink y.cls index (T k).1 (T k).2.1 (T k).2.2.1 ∈ Ts) (hv : fs[k]? = some v) (hd : decode cc pc = .ok (.getfield index, 3)) (kk : G ce so ws lv (pc + 3) (v :: st)) : G ce so ws lv pc (.ref a :: st) := by
  obtain ⟨p, e, s, m, args, below, meth, c, A, Q, tl, rfl, hx, hb, hml, hown, hnm, hts, hK, hA⟩ := C
  exact fun H locs ls hP hD hS hl => va_get hx hb hts hin hown hK.1 hP q0 (tl_at he) hc k hk (hts _ hlink) (fun _ h9 => h9) hv hd (kk H locs ls hP hD hS hl)
theorem g_put (C : Ok G E l R y cc nL Ts) {CC : String} {T : u_T} {N ci index a : Nat} {fs : List Value} {v : Value} (ws' : va_W) (ty0 : Nat → FieldType) (hty : ∀ k, k < N → parseFieldDescriptor (T k).2.2.1 = some (ty0 k)) (hnm0 : ∀ a, a < N → ∀ b, b < N → a ≠ b → (T a).2.1 ≠ (T b).2.1) (q0 : Nat) (he : ws[q0]? = some (a, .inr (ci, fs))) (hc : vwCl[ci]? = some (CC, T, N)) (k : Nat) (hk : k < N) (hin : ∀ w ∈ u_ws CC T N, w ∈ Ts) (hlink : Cond.fieldLink y.cls index (T k).1 (T k).2.1 (T k).2.2.1 ∈ Ts) (hfin : (T k).2.2.2 = false) (hn : narrow (ty0 k) v = v) (hfit : fits (ty0 k) v = true) (hl0 : k < fs.length) (hd : decode cc pc = .ok (.putfield index, 3)) (hw : ws.set q0 (a, .inr (ci, fs.set k v)) = ws') (kk : G ce so ws' lv (pc + 3) st) : G ce so ws lv pc (v :: .ref a :: st) := by
  obtain ⟨p, e, s, m, args, below, meth, c, A, Q, tl, rfl, hx, hb, hml, hown, hnm, hts, hK, hA⟩ := C
  subst hw
  exact fun H locs ls hP hD hS hl => va_put hx hb hts hin ty0 hty hnm0 hown hK.1 hP hD hS q0 (tl_at he) hc k hk (hts _ hlink) (fun _ h9 => h9) hfin (hty k hk) hn hfit hl0 hd (fun H1 locs1 hP1 hD1 hS1 => kk H1 locs1 ls (by rw [tl_set he] at hP1; exact hP1) (by rw [tl_set he] at hD1; exact hD1) hS1 hl)
theorem g_putF (C : Ok G E l R y cc nL Ts) {CC : String} {T : u_T} {N ci index a : Nat} {fs : List Value} {v : Value} (ws' : va_W) (ty0 : Nat → FieldType) (hty : ∀ k, k < N → parseFieldDescriptor (T k).2.2.1 = some (ty0 k)) (hnm0 : ∀ a, a < N → ∀ b, b < N → a ≠ b → (T a).2.1 ≠ (T b).2.1) (q0 : Nat) (he : ws[q0]? = some (a, .inr (ci, fs))) (hc : vwCl[ci]? = some (CC, T, N)) (k : Nat) (hk : k < N) (hin : ∀ w ∈ u_ws CC T N, w ∈ Ts) (hlink : Cond.fieldLink y.cls index (T k).1 (T k).2.1 (T k).2.2.1 ∈ Ts) (hini : y.name = "<init>") (hfin : (T k).2.2.2 = true) (hn : narrow (ty0 k) v = v) (hfit : fits (ty0 k) v = true) (hl0 : k < fs.length) (hd : decode cc pc = .ok (.putfield index, 3)) (hdc : (T k).1 = y.cls) (hw : ws.set q0 (a, .inr (ci, fs.set k v)) = ws') (kk : G ce so ws' lv (pc + 3) st) : G ce so ws lv pc (v :: .ref a :: st) := by
  obtain ⟨p, e, s, m, args, below, meth, c, A, Q, tl, rfl, hx, hb, hml, hown, hnm, hts, hK, hA⟩ := C
  subst hw
  exact fun H locs ls hP hD hS hl => va_putF hx hb hts hin ty0 hty hnm0 hown hK.1 hP hD hS q0 (tl_at he) hc k hk (hts _ hlink) (fun _ h9 => h9) hfin (hnm.trans hini) hdc (hty k hk) hn hfit hl0 hd (fun H1 locs1 hP1 hD1 hS1 => kk H1 locs1 ls (by rw [tl_set he] at hP1; exact hP1) (by rw [tl_set he] at hD1; exact hD1) hS1 hl)
theorem g_alen (C : Ok G E l R y cc nL Ts) {a n : Nat} {f : Nat → Int32} (q0 : Nat) (ha : ws[q0]? = some (a, .inl (E.2.2.1, n, .inl f))) (hd : decode cc pc = .ok (.arraylength, 1)) (kk : G ce so ws lv (pc + 1) (.int (zI (n : Int)) :: st)) : G ce so ws lv pc (.ref a :: st) := by
  obtain ⟨p, e, s, m, args, below, meth, c, A, Q, tl, rfl, hx, hb, hml, hown, hnm, hts, hK, hA⟩ := C
  exact fun H locs ls hP hD hS hl => va_alen (ty := .int) hx hb hK.1 hP q0 0 (tl_at ha) rfl (zI_nat n).symm hd (kk H locs ls hP hD hS hl)
theorem g_iald (C : Ok G E l R y cc nL Ts) {a n : Nat} {f : Nat → Fq} {x : Int} (q0 : Nat) (k : Nat) (ha : ws[q0]? = some (a, .inl (E.2.2.1, n, .inl (pv f)))) (hx0 : x = (k : Int)) (hk : k < n) (hn : n < 2147483648) (hd : decode cc pc = .ok (.iaload, 1)) (kk : G ce so ws lv (pc + 1) (.int (zI ((f k).val : Int)) :: st)) : G ce so ws lv pc (.int (zI x) :: .ref a :: st) := by
  obtain ⟨p, e, s, m, args, below, meth, c, A, Q, tl, rfl, hx, hb, hml, hown, hnm, hts, hK, hA⟩ := C
  subst hx0
  refine fun H locs ls hP hD hS hl => va_iald hx hb hK.1 hP q0 0 (tl_at ha) rfl (zI_in hk hn) hd ?_
  rw [zI_cl (by omega)]
  exact kk H locs ls hP hD hS hl
theorem g_ialdZ (C : Ok G E l R y cc nL Ts) {a n : Nat} {f : Nat → Int} {x : Int} (q0 : Nat) (k : Nat) (ha : ws[q0]? = some (a, .inl (E.2.2.1, n, .inl (iv f)))) (hx0 : x = (k : Int)) (hk : k < n) (hn : n < 2147483648) (hd : decode cc pc = .ok (.iaload, 1)) (kk : G ce so ws lv (pc + 1) (.int (zI (f k)) :: st)) : G ce so ws lv pc (.int (zI x) :: .ref a :: st) := by
  obtain ⟨p, e, s, m, args, below, meth, c, A, Q, tl, rfl, hx, hb, hml, hown, hnm, hts, hK, hA⟩ := C
  subst hx0
  refine fun H locs ls hP hD hS hl => va_iald hx hb hK.1 hP q0 0 (tl_at ha) rfl (zI_in hk hn) hd ?_
  rw [zI_cl (by omega)]
  exact kk H locs ls hP hD hS hl
theorem g_iast (C : Ok G E l R y cc nL Ts) {a n : Nat} {f : Nat → Fq} {x z : Int} (ws' : va_W) (q0 : Nat) (k : Nat) (v : Fq) (ha : ws[q0]? = some (a, .inl (E.2.2.1, n, .inl (pv f)))) (hx0 : x = (k : Int)) (hk : k < n) (hn : n < 2147483648) (hz : z = (v.val : Int)) (hd : decode cc pc = .ok (.iastore, 1)) (hw : ws.set q0 (a, .inl (E.2.2.1, n, .inl (pv (cset f k v)))) = ws') (kk : G ce so ws' lv (pc + 1) st) : G ce so ws lv pc (.int (zI z) :: .int (zI x) :: .ref a :: st) := by
  obtain ⟨p, e, s, m, args, below, meth, c, A, Q, tl, rfl, hx, hb, hml, hown, hnm, hts, hK, hA⟩ := C
  subst hx0
  subst hz
  subst hw
  refine fun H locs ls hP hD hS hl => va_iast hx hb hK.1 hP hD hS q0 0 (tl_at ha) rfl (zI_in hk hn) hd ?_
  rw [zI_cl (by omega), pv_set, tl_set ha]
  exact fun H1 locs1 hP1 hD1 hS1 => kk H1 locs1 ls hP1 hD1 hS1 hl
theorem g_iastZ (C : Ok G E l R y cc nL Ts) {a n : Nat} {f : Nat → Int} {x z : Int} (ws' : va_W) (q0 : Nat) (k : Nat) (ha : ws[q0]? = some (a, .inl (E.2.2.1, n, .inl (iv f)))) (hx0 : x = (k : Int)) (hk : k < n) (hn : n < 2147483648) (hd : decode cc pc = .ok (.iastore, 1)) (hw : ws.set q0 (a, .inl (E.2.2.1, n, .inl (iv (cset f k z)))) = ws') (kk : G ce so ws' lv (pc + 1) st) : G ce so ws lv pc (.int (zI z) :: .int (zI x) :: .ref a :: st) := by
  obtain ⟨p, e, s, m, args, below, meth, c, A, Q, tl, rfl, hx, hb, hml, hown, hnm, hts, hK, hA⟩ := C
  subst hx0
  subst hw
  refine fun H locs ls hP hD hS hl => va_iast hx hb hK.1 hP hD hS q0 0 (tl_at ha) rfl (zI_in hk hn) hd ?_
  rw [zI_cl (by omega), iv_set, tl_set ha]
  exact fun H1 locs1 hP1 hD1 hS1 => kk H1 locs1 ls hP1 hD1 hS1 hl
theorem g_mmax (C : Ok G E l R y cc nL Ts) {a b : Int} {index : Nat} (hlk : Cond.methodLink y.cls index Lib.Math.max.name ∈ Ts ∧ Cond.static Lib.Math.max.name ∈ Ts ∧ Cond.initialized "java/lang/Math" ∈ Ts ∧ Cond.code Lib.Math.max.name Lib.Math.max.code 2 (some .int) ∈ Ts) (hd : decode cc pc = .ok (.invokestatic index, 3)) (a1 : -2147483648 ≤ a) (a2 : a < 2147483648) (b1 : -2147483648 ≤ b) (b2 : b < 2147483648) (hR : (1 ≤ R.frames ∧ 21 ≤ R.locals) ∧ ce ≤ R.cells ∧ so ≤ R.slots) (hro : (st.map fun v => v.category).sum ≤ 8) (k : G ce so ws lv (pc + 3) (.int (zI (max a b)) :: st)) : G ce so ws lv pc (.int (zI b) :: .int (zI a) :: st) := by
  obtain ⟨p, e, s, m, args, below, meth, c, A, Q, tl, rfl, hx, hb, hml, hown, hnm, hts, hK, hA⟩ := C
  have hz : (if zI a < zI b then zI b else zI a) = zI (max a b) := by
    by_cases h : a < b
    · rw [if_pos ((zI_lt a1 a2 b1 b2).mpr h), show max a b = b by omega]
    · rw [if_neg (fun q => h ((zI_lt a1 a2 b1 b2).mp q)), show max a b = a by omega]
  refine fun H locs ls hP hD hS hl => va_mmax hx hb (hml.trans hl.1.symm) hown (hts _ hlk.1) (hts _ hlk.2.1) (hts _ hlk.2.2.1) (hts _ hlk.2.2.2) hR.1.1 (by omega) hR.2.1 hR.2.2 hd ?_
  rw [hz]
  exact k H locs ls hP hD hS hl
theorem g_mmin (C : Ok G E l R y cc nL Ts) {a b : Int} {index : Nat} (hlk : Cond.methodLink y.cls index Lib.Math.min.name ∈ Ts ∧ Cond.static Lib.Math.min.name ∈ Ts ∧ Cond.initialized "java/lang/Math" ∈ Ts ∧ Cond.code Lib.Math.min.name Lib.Math.min.code 2 (some .int) ∈ Ts) (hd : decode cc pc = .ok (.invokestatic index, 3)) (a1 : -2147483648 ≤ a) (a2 : a < 2147483648) (b1 : -2147483648 ≤ b) (b2 : b < 2147483648) (hR : (1 ≤ R.frames ∧ 21 ≤ R.locals) ∧ ce ≤ R.cells ∧ so ≤ R.slots) (hro : (st.map fun v => v.category).sum ≤ 8) (k : G ce so ws lv (pc + 3) (.int (zI (min a b)) :: st)) : G ce so ws lv pc (.int (zI b) :: .int (zI a) :: st) := by
  obtain ⟨p, e, s, m, args, below, meth, c, A, Q, tl, rfl, hx, hb, hml, hown, hnm, hts, hK, hA⟩ := C
  have hz : (if zI b < zI a then zI b else zI a) = zI (min a b) := by
    by_cases h : b < a
    · rw [if_pos ((zI_lt b1 b2 a1 a2).mpr h), show min a b = b by omega]
    · rw [if_neg (fun q => h ((zI_lt b1 b2 a1 a2).mp q)), show min a b = a by omega]
  refine fun H locs ls hP hD hS hl => va_mmin hx hb (hml.trans hl.1.symm) hown (hts _ hlk.1) (hts _ hlk.2.1) (hts _ hlk.2.2.1) (hts _ hlk.2.2.2) hR.1.1 (by omega) hR.2.1 hR.2.2 hd ?_
  rw [hz]
  exact k H locs ls hP hD hS hl
end GR
