/-! THE CLAIM OUT OF ONE WALK OF THE LAW'S BODY. Your part is whole_start (and what it stands on); all else here is the same for every law, but numbers. -/
def R_law : String := "ClosedSumsLaw"
def lw_P (b : Addr) (xs : List Int32) (args : Array Value) (s : State) : Prop := args = #[.ref b] ∧ s.IntsAt b xs ∧ xs.length ≤ 2560 ∧ (Jvm.Cond.and given_1 narrow_1).before args s = true
def lw_Q (_ : Array Value) (s : State) (o : Outcome) (t : State) : Prop := o = .returned (some (.int 1)) ∧ Framed s o t [] 601024 7293033
def lw_Z (below : List Frame) (a : Array Value) (s : State) : State → Prop := fun t => ∃ o, t.status = .running ∧ Ended t below o ∧ lw_Q a s o t
/-- the law's own end, with 1 on the stack, nothing written that was there before, its room as the claim has it -/
theorem lw_ret {p : Program} {l : Launch} {e : Env} {s : State} {m : MethodId} {below : List Frame} {meth : Method} {c : Code} {b : Nat} (hx : p.tables.exec = Jvm.exec) (hb : c.code = code) (hr : meth.sig.returnType = ret) (hlocks : meth.locks = false) {pc : Nat} {H : Heap} {ls : Array Slot} (hdg : decode code pc = .ok (.ireturn, 1)) : W p l e room_1 s m #[Value.ref b] below meth c H [] 601024 7293033 (lw_Z below #[Value.ref b] s) (F0 m pc ls [.int 1]) := by
  intro T hT X
  obtain ⟨fs, hret, hrun, hended, hW, hframe⟩ := X.leave (v := some (.int 1)) (hlocks := hlocks) (fun h => by rw [hr] at h; cases h)
  have hmeth' : T.vm.method? m = some meth := X.method'
  refine ⟨T.setFrames fs, ?_, .returned (some (.int 1)), hrun, hended, rfl, ⟨_, rfl⟩, hW, hframe⟩
  jvm_step X.here [X.here.top, hx, hb, hdg, hmeth', hr, ret, narrow_b1]
  (try refine ⟨rfl, ?_⟩); (try refine ⟨rfl, ?_⟩)
  first | (intro acts; rw [hret _ acts rfl rfl rfl]) | rw [hret _ _ rfl rfl rfl]
  exact Steps.refl _
/-- what holds at the law's entry: the machine, the code, the tables' words (any of lw_tbl by 'hts w (by decide +kernel)'), the script of L ints xs at the cell b, what the Statement gives of the start (any of its parts by flat_of_before) -/
def lw_At (p : Program) (s : State) (m : MethodId) (meth : Method) (c : Code) (b L : Nat) (xs : Nat → Int32) : Prop :=
  p.tables.exec = Jvm.exec ∧ c.code = code ∧ meth.sig.returnType = ret ∧ c.maxLocals = 7 ∧ s.vm.findClass R_law = some m.cls ∧ (∀ w ∈ lw_tbl, w.before #[Value.ref b] s = true) ∧ va_X b L xs s s.heap ∧ b < s.heap.size ∧ meth.locks = false ∧ (Jvm.Cond.and given_1 narrow_1).before #[Value.ref b] s = true
/-! the law's own rows -/
abbrev yLw (nx : String) : MethodName := ⟨RL, nx, ""⟩
def OkL (G : Gt) (E : ev) (l : Launch) (nx : String) (b L : Nat) (xs : Nat → Int32) : Prop :=
  ∃ (p : Program) (e : Env) (s : State) (m : MethodId) (below : List Frame) (meth : Method) (c : Code), G = gg E p l e room_1 s m #[Value.ref b] below meth c (fun q => s.heap.size ≤ q) (lw_Z below #[Value.ref b] s) 7 [] ∧ lw_At p s m meth c b L xs ∧ meth.name = nx ∧ Kw E s ∧ Thw s ∧ Thz (fun q => s.heap.size ≤ q) s s.heap ∧ Ncs s
section LW
variable {G : Gt} {E : ev} {l : Launch} {nx : String} {b L : Nat} {xs : Nat → Int32} {ce so : Nat} {ws : va_W} {lv : Lv} {pc : Nat} {st : List Value}
theorem OkL.t (C : OkL G E l nx b L xs) : OkT G E l room_1 (yLw nx) cL_law 7 wsL_law := by
  obtain ⟨p, e, s, m, below, meth, c, rfl, ⟨hx, hb, hr, hml, hown, hts, hX, hbl, hlocks, hgv⟩, hnm, hK, hT, hZ, hN⟩ := C
  exact ⟨p, e, s, m, #[Value.ref b], below, meth, c, fun q => s.heap.size ≤ q, lw_Z below #[Value.ref b] s, rfl, hx, hb, hml, hown, hnm, fun w hw => hts w (wsL_law_in w hw), hK, fun _ h => h, hT, hZ, hN⟩
theorem OkL.ok (C : OkL G E l nx b L xs) : Ok G E l room_1 (yLw nx) cL_law 7 wsL_law := C.t.ok
theorem g_sld (C : OkL G E l nx b L xs) {x : Int} (k : Nat) (hx0 : x = (k : Int)) (hk : k < L) (hL : L ≤ 2560) (hd : decode cL_law pc = .ok (.iaload, 1)) (kk : G ce so ws lv (pc + 1) (.int (zI (xs k).toInt) :: st)) : G ce so ws lv pc (.int (zI x) :: .ref b :: st) := by
  obtain ⟨p, e, s, m, below, meth, c, rfl, ⟨hx, hb, hr, hml, hown, hts, hX, hbl, hlocks, hgv⟩, -⟩ := C
  subst hx0
  intro H locs ls hP hD hS hl
  refine va_sld hx hb hX hbl (A := fun q => s.heap.size ≤ q) (Nat.not_le.mpr hbl) hS (zI_in hk (by omega)) hd ?_
  have h := kk H locs ls hP hD hS hl
  rw [zI_of] at h
  rw [zI_cl (by omega)]
  exact h
theorem g_slen (C : OkL G E l nx b L xs) (hd : decode cL_law pc = .ok (.arraylength, 1)) (kk : G ce so ws lv (pc + 1) (.int (zI (L : Int)) :: st)) : G ce so ws lv pc (.ref b :: st) := by
  obtain ⟨p, e, s, m, below, meth, c, rfl, ⟨hx, hb, hr, hml, hown, hts, hX, hbl, hlocks, hgv⟩, -⟩ := C
  intro H locs ls hP hD hS hl
  refine va_slen hx hb hX hbl (A := fun q => s.heap.size ≤ q) (Nat.not_le.mpr hbl) hS hd ?_
  have h := kk H locs ls hP hD hS hl
  rw [zI_nat] at h
  exact h
theorem g_lawret (C : OkL G E l nx b L xs) (hd : decode cL_law pc = .ok (.ireturn, 1)) (h1 : ce ≤ 601024) (h2 : so ≤ 7293033) : G ce so ws lv pc [.int (zI 1)] := by
  obtain ⟨p, e, s, m, below, meth, c, rfl, ⟨hx, hb, hr, hml, hown, hts, hX, hbl, hlocks, hgv⟩, -⟩ := C
  intro H locs ls hP hD hS hl
  refine va_forget (fun q hq => hS.2.2 q hq) ?_
  refine W.widen h1 h2 ?_
  rw [show zI 1 = 1 from rfl]
  exact lw_ret hx hb hr hlocks hd
end LW
section LB
variable {G : Gt} {E : ev} {l : Launch} {R : Room} {y : MethodName} {cc : ByteArray} {nL : Nat} {Ts : List Cond} {ce so : Nat} {ws : va_W} {lv : Lv} {pc : Nat} {st : List Value}
theorem g_wide (C : Ok G E l R y cc nL Ts) {ce2 so2 : Nat} (h1 : ce ≤ ce2) (h2 : so ≤ so2) (k : G ce2 so2 ws lv pc st) : G ce so ws lv pc st := by
  obtain ⟨p, e, s, m, args, below, meth, c, A, Q, tl, rfl, hx, hb, -⟩ := C
  exact fun H locs ls hP hD hS hl => W.widen h1 h2 (k H locs ls hP hD hS hl)
theorem and15 (x : Int32) : 0 ≤ (x &&& zI 15).toInt ∧ (x &&& zI 15).toInt < 16 := by
  have h1 : (x &&& zI 15).toBitVec.toNat ≤ 15 := by
    rw [Int32.toBitVec_and, BitVec.toNat_and]
    exact Nat.and_le_right
  have h2 : (x &&& zI 15).toInt = ((x &&& zI 15).toBitVec.toNat : Int) := by
    show (x &&& zI 15).toBitVec.toInt = _
    rw [BitVec.toInt_eq_toNat_of_lt (by omega)]
  omega
theorem g_and15 (C : Ok G E l R y cc nL Ts) {a : Int} (hd : decode cc pc = .ok (.iand, 1)) (k : ∀ r : Int, 0 ≤ r → r < 16 → G ce so ws lv (pc + 1) (.int (zI r) :: st)) : G ce so ws lv pc (.int (zI 15) :: .int (zI a) :: st) := by
  obtain ⟨h1, h2⟩ := and15 (zI a)
  have h := k _ h1 h2
  obtain ⟨p, e, s, m, args, below, meth, c, A, Q, tl, rfl, hx, hb, -⟩ := C
  rw [zI_of] at h
  exact fun H locs ls hP hD hS hl => lv_iand hx hb hd (h H locs ls hP hD hS hl)
theorem g_tabIn (C : Ok G E l R y cc nL Ts) {dflt lo hi' : Int} {offs : Array Int} {len : Nat} {r : Int} (off : Int) (tgt : Nat) (hd : decode cc pc = .ok (.tableswitch dflt lo hi' offs, len)) (r1 : -2147483648 ≤ r) (r2 : r < 2147483648) (h1 : ¬ r < lo) (h2 : ¬ hi' < r) (ho : offs[(r - lo).toNat]? = some off) (ht : (pc : Int) + off = (tgt : Int)) (k : G ce so ws lv tgt st) : G ce so ws lv pc (.int (zI r) :: st) := by
  obtain ⟨p, e, s, m, args, below, meth, c, A, Q, tl, rfl, hx, hb, -⟩ := C
  have e1 := zI_toInt r1 r2
  exact fun H locs ls hP hD hS hl => lv_tableIn hx hb hd (by rw [e1]; exact h1) (by rw [e1]; exact h2) (by rw [e1]; exact ho) ht (k H locs ls hP hD hS hl)
theorem g_tabOut (C : Ok G E l R y cc nL Ts) {dflt lo hi' : Int} {offs : Array Int} {len : Nat} {r : Int} (tgt : Nat) (hd : decode cc pc = .ok (.tableswitch dflt lo hi' offs, len)) (r1 : -2147483648 ≤ r) (r2 : r < 2147483648) (h1 : hi' < r) (ht : (pc : Int) + dflt = (tgt : Int)) (k : G ce so ws lv tgt st) : G ce so ws lv pc (.int (zI r) :: st) := by
  obtain ⟨p, e, s, m, args, below, meth, c, A, Q, tl, rfl, hx, hb, -⟩ := C
  have e1 := zI_toInt r1 r2
  exact fun H locs ls hP hD hS hl => lv_tableOut hx hb hd (by rw [e1]; exact Or.inr h1) ht (k H locs ls hP hD hS hl)
theorem g_lshl (C : Ok G E l R y cc nL Ts) {x : Int64} {z : Int32} (hd : decode cc pc = .ok (.lshl, 1)) (k : G ce so ws lv (pc + 1) (.long (x <<< (z.toInt64 &&& 63)) :: st)) : G ce so ws lv pc (.int z :: .long x :: st) := by
  obtain ⟨p, e, s, m, args, below, meth, c, A, Q, tl, rfl, hx, hb, -⟩ := C
  exact fun H locs ls hP hD hS hl => lv_lshl hx hb hd rfl (k H locs ls hP hD hS hl)
theorem g_land (C : Ok G E l R y cc nL Ts) {x z : Int64} (hd : decode cc pc = .ok (.land, 1)) (k : G ce so ws lv (pc + 1) (.long (x &&& z) :: st)) : G ce so ws lv pc (.long z :: .long x :: st) := by
  obtain ⟨p, e, s, m, args, below, meth, c, A, Q, tl, rfl, hx, hb, -⟩ := C
  exact fun H locs ls hP hD hS hl => lv_land hx hb hd (k H locs ls hP hD hS hl)
theorem g_lor (C : Ok G E l R y cc nL Ts) {x z : Int64} (hd : decode cc pc = .ok (.lor, 1)) (k : G ce so ws lv (pc + 1) (.long (x ||| z) :: st)) : G ce so ws lv pc (.long z :: .long x :: st) := by
  obtain ⟨p, e, s, m, args, below, meth, c, A, Q, tl, rfl, hx, hb, -⟩ := C
  exact fun H locs ls hP hD hS hl => lv_lor hx hb hd (k H locs ls hP hD hS hl)
end LB
/-- two ints of the script as one long -/
def two (a b : Int) : Int := ((zL a <<< ((zI 32).toInt64 &&& 63)) ||| (zL b &&& zL 4294967295)).toInt
theorem two_eq (a b : Int) : ((zL a <<< ((zI 32).toInt64 &&& 63)) ||| (zL b &&& zL 4294967295)) = zL (two a b) := (zL_of _).symm
theorem two_rng (a b : Int) : -9223372036854775808 ≤ two a b ∧ two a b < 9223372036854775808 := zL_rng _
theorem pm1 {x : Nat × va_E} {wc wm K : va_W} (h : wc.Perm K) : (x :: (wc ++ wm)).Perm (wm ++ (x :: K)) := ((List.perm_append_comm.cons x).trans ((h.append_left wm).cons x)).trans List.perm_middle.symm
theorem pm2 (x : Nat × va_E) (wc wm : va_W) : (wm ++ (x :: wc)).Perm (x :: (wc ++ wm)) := List.perm_middle.trans (List.perm_append_comm.cons x)
