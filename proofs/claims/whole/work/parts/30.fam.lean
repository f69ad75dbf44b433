/-! cells in another order; pairs in any number; arrays of pairs -/
theorem P_mem {D : va_G} {cl : List vw_C} {ws : va_W} {H : Heap} : va_P D cl ws H ↔ ∀ q ∈ ws, va_at D cl q H := by
  constructor
  · intro h q hq
    obtain ⟨k, hk⟩ := List.mem_iff_getElem?.mp hq
    exact h k q hk
  · intro h k q hk
    exact h q (List.mem_of_getElem? hk)
theorem D_iff {A : Nat → Prop} {ws : va_W} : va_D A ws ↔ ws.Pairwise (fun p q => p.1 ≠ q.1) ∧ ∀ q ∈ ws, A q.1 := by
  constructor
  · intro h
    refine ⟨List.pairwise_iff_getElem.mpr (fun i j hi hj hij e => ?_), fun q hq => ?_⟩
    · have := h.1 i j _ _ (List.getElem?_eq_getElem hi) (List.getElem?_eq_getElem hj) e
      omega
    · obtain ⟨k, hk⟩ := List.mem_iff_getElem?.mp hq
      exact h.2 k q hk
  · intro h
    refine ⟨fun i j p q hi hj e => ?_, fun k q hk => h.2 q (List.mem_of_getElem? hk)⟩
    obtain ⟨i1, i2⟩ := List.getElem?_eq_some_iff.mp hi
    obtain ⟨j1, j2⟩ := List.getElem?_eq_some_iff.mp hj
    rcases Nat.lt_trichotomy i j with g | g | g
    · exact absurd (by rw [i2, j2]; exact e) (List.pairwise_iff_getElem.mp h.1 i j i1 j1 g)
    · exact g
    · exact absurd (by rw [i2, j2]; exact e.symm) (List.pairwise_iff_getElem.mp h.1 j i j1 i1 g)
theorem P_perm {D : va_G} {cl : List vw_C} {ws ws' : va_W} {H : Heap} (p : ws.Perm ws') (h : va_P D cl ws H) : va_P D cl ws' H := P_mem.mpr (fun q hq => P_mem.mp h q (p.mem_iff.mpr hq))
theorem D_perm {A : Nat → Prop} {ws ws' : va_W} (p : ws.Perm ws') (h : va_D A ws) : va_D A ws' := D_iff.mpr ⟨(p.pairwise_iff (fun h => Ne.symm h)).mp (D_iff.mp h).1, fun q hq => (D_iff.mp h).2 q (p.mem_iff.mpr hq)⟩
section GF
variable {G : Gt} {E : ev} {l : Launch} {R : Room} {y : MethodName} {cc : ByteArray} {nL : Nat} {Ts : List Cond} {ce so : Nat} {ws : va_W} {lv : Lv} {pc : Nat} {st : List Value}
theorem g_perm (C : Ok G E l R y cc nL Ts) {ws' : va_W} (h : ws.Perm ws') (k : G ce so ws' lv pc st) : G ce so ws lv pc st := by
  obtain ⟨p, e, s, m, args, below, meth, c, A, Q, tl, rfl, hr⟩ := C
  exact fun H locs ls hP hD hS hl => k H locs ls (P_perm (h.append_right tl) hP) (D_perm (h.append_right tl) hD) hS hl
theorem g_null (C : Ok G E l R y cc nL Ts) (hd : decode cc pc = .ok (.aconst_null, 1)) (k : G ce so ws lv (pc + 1) (.null :: st)) : G ce so ws lv pc st := by
  obtain ⟨p, e, s, m, args, below, meth, c, A, Q, tl, rfl, hx, hb, -⟩ := C
  exact fun H locs ls hP hD hS hl => lv_null hx hb hd (k H locs ls hP hD hS hl)
theorem g_aloadN (C : Ok G E l R y cc nL Ts) {k : Nat} (hd : decode cc pc = .ok (.aload k, 2)) (j : Nat) (hj : lv[j]? = some (k, .null)) (kk : G ce so ws lv (pc + 2) (.null :: st)) : G ce so ws lv pc st := by
  obtain ⟨p, e, s, m, args, below, meth, c, A, Q, tl, rfl, hx, hb, -⟩ := C
  exact fun H locs ls hP hD hS hl => lv_aloadN hx hb hd (lv_at hl j hj) (kk H locs ls hP hD hS hl)
theorem g_astoreN (C : Ok G E l R y cc nL Ts) {k : Nat} (lv' : Lv) (hd : decode cc pc = .ok (.astore k, 2)) (hn : k < nL) (hl : (k, Value.null) :: lv.filter (fun q => !(q.1 == k) && !(q.1 + 1 == k && q.2.category == 2)) = lv') (kk : G ce so ws lv' (pc + 2) st) : G ce so ws lv pc (.null :: st) := by
  obtain ⟨p, e, s, m, args, below, meth, c, A, Q, tl, rfl, hx, hb, -⟩ := C
  exact fun H locs ls hP hD hS h => lv_astoreN hx hb hd h hn hl (fun ls' h' => kk H locs ls' hP hD hS h')
theorem g_ifnonnull (C : Ok G E l R y cc nL Ts) {x : Nat} {off : Int} (tgt : Nat) (hd : decode cc pc = .ok (.ifnonnull off, 3)) (ht : (pc : Int) + off = (tgt : Int)) (k : G ce so ws lv tgt st) : G ce so ws lv pc (.ref x :: st) := by
  obtain ⟨p, e, s, m, args, below, meth, c, A, Q, tl, rfl, hx, hb, -⟩ := C
  exact fun H locs ls hP hD hS hl => lv_ifnonnull hx hb hd ht (k H locs ls hP hD hS hl)
theorem g_ifnonnullN (C : Ok G E l R y cc nL Ts) {off : Int} (hd : decode cc pc = .ok (.ifnonnull off, 3)) (k : G ce so ws lv (pc + 3) st) : G ce so ws lv pc (.null :: st) := by
  obtain ⟨p, e, s, m, args, below, meth, c, A, Q, tl, rfl, hx, hb, -⟩ := C
  exact fun H locs ls hP hD hS hl => lv_ifnonnullN hx hb hd (k H locs ls hP hD hS hl)
theorem g_alenQ (C : Ok G E l R y cc nL Ts) {a n : Nat} {f : Nat → Option Nat} (q0 : Nat) (ha : ws[q0]? = some (a, .inl (E.2.2.2.2, n, .inr (.inr (.inr (.inr f)))))) (hd : decode cc pc = .ok (.arraylength, 1)) (kk : G ce so ws lv (pc + 1) (.int (zI (n : Int)) :: st)) : G ce so ws lv pc (.ref a :: st) := by
  obtain ⟨p, e, s, m, args, below, meth, c, A, Q, tl, rfl, hx, hb, hml, hown, hnm, hts, hK, hA⟩ := C
  exact fun H locs ls hP hD hS hl => va_alen (ty := .object RX3) hx hb hK.1 hP q0 2 (tl_at ha) rfl (zI_nat n).symm hd (kk H locs ls hP hD hS hl)
theorem g_aald (C : Ok G E l R y cc nL Ts) {a n : Nat} {f : Nat → Option Nat} {x : Int} (q0 : Nat) (k : Nat) (ha : ws[q0]? = some (a, .inl (E.2.2.2.2, n, .inr (.inr (.inr (.inr f)))))) (hx0 : x = (k : Int)) (hk : k < n) (hn : n < 2147483648) (hd : decode cc pc = .ok (.aaload, 1)) (v : Value) (hv : va_rf (f k) = v) (kk : G ce so ws lv (pc + 1) (v :: st)) : G ce so ws lv pc (.int (zI x) :: .ref a :: st) := by
  obtain ⟨p, e, s, m, args, below, meth, c, A, Q, tl, rfl, hx, hb, hml, hown, hnm, hts, hK, hA⟩ := C
  subst hx0
  subst hv
  refine fun H locs ls hP hD hS hl => va_aldq (C := RX3) hx hb hK.1 hP q0 2 (tl_at ha) rfl (zI_in hk hn) hd ?_
  rw [zI_cl (by omega)]
  exact kk H locs ls hP hD hS hl
theorem g_aast (C : Ok G E l R y cc nL Ts) {a n v : Nat} {vs : List Value} {f : Nat → Option Nat} {x : Int} (ws' : va_W) (q0 qk : Nat) (k : Nat) (ha : ws[q0]? = some (a, .inl (E.2.2.2.2, n, .inr (.inr (.inr (.inr f)))))) (hv : ws[qk]? = some (v, .inr (3, vs))) (hx0 : x = (k : Int)) (hk : k < n) (hn : n < 2147483648) (hd : decode cc pc = .ok (.aastore, 1)) (hw : ws.set q0 (a, .inl (E.2.2.2.2, n, .inr (.inr (.inr (.inr (cset f k (some v))))))) = ws') (kk : G ce so ws' lv (pc + 1) st) : G ce so ws lv pc (.ref v :: .int (zI x) :: .ref a :: st) := by
  obtain ⟨p, e, s, m, args, below, meth, c, A, Q, tl, rfl, hx, hb, hml, hown, hnm, hts, hK, hA⟩ := C
  subst hx0
  subst hw
  refine fun H locs ls hP hD hS hl => va_astq (r := (RX3, TX3, 2)) hx hb hK.1 hP hD hS q0 2 qk 3 (tl_at ha) rfl (tl_at hv) rfl (zI_in hk hn) hd ?_
  rw [zI_cl (by omega), tl_set ha]
  exact fun H1 locs1 hP1 hD1 hS1 => kk H1 locs1 ls hP1 hD1 hS1 hl
theorem g_aastN (C : Ok G E l R y cc nL Ts) {a n : Nat} {f : Nat → Option Nat} {x : Int} (ws' : va_W) (q0 : Nat) (k : Nat) (ha : ws[q0]? = some (a, .inl (E.2.2.2.2, n, .inr (.inr (.inr (.inr f)))))) (hx0 : x = (k : Int)) (hk : k < n) (hn : n < 2147483648) (hd : decode cc pc = .ok (.aastore, 1)) (hw : ws.set q0 (a, .inl (E.2.2.2.2, n, .inr (.inr (.inr (.inr (cset f k none)))))) = ws') (kk : G ce so ws' lv (pc + 1) st) : G ce so ws lv pc (.null :: .int (zI x) :: .ref a :: st) := by
  obtain ⟨p, e, s, m, args, below, meth, c, A, Q, tl, rfl, hx, hb, hml, hown, hnm, hts, hK, hA⟩ := C
  subst hx0
  subst hw
  refine fun H locs ls hP hD hS hl => va_astqN (C := RX3) hx hb hK.1 hP hD hS q0 2 (tl_at ha) rfl (zI_in hk hn) hd ?_
  rw [zI_cl (by omega), tl_set ha]
  exact fun H1 locs1 hP1 hD1 hS1 => kk H1 locs1 ls hP1 hD1 hS1 hl
theorem g_anewa (C : Ok G E l R y cc nL Ts) {z : Int} {index : Nat} (N : Nat) (hcl : Cond.classLink y.cls index RX3 ∈ Ts) (hz : z = (N : Int)) (hN : N < 1000000) (hro : ce + 1 ≤ R.cells ∧ so + N ≤ R.slots) (hd : decode cc pc = .ok (.anewarray index, 3))
    (kk : ∀ q : Nat, G (ce + 1) (so + N) (ws ++ [(q, .inl (E.2.2.2.2, N, .inr (.inr (.inr (.inr (fun _ => none))))))]) lv (pc + 3) (.ref q :: st)) : G ce so ws lv pc (.int (zI z) :: st) := by
  obtain ⟨p, e, s, m, args, below, meth, c, A, Q, tl, rfl, hx, hb, hml, hown, hnm, hts, hK, hA⟩ := C
  subst hz
  refine fun H locs ls hP hD hS hl => va_newq (C := RX3) (N' := N) hx hb hown (hts _ hcl) hK.2.2 hK.1 hP hD hS hA (fun h => by rw [← zI_0, zI_lt (by omega) (by omega) (by omega) (by omega)] at h; omega) (zI_cl (by omega)) (by omega) hro.1 hro.2 hd (fun q cA H1 hK1 hP1 hD1 hS1 => ?_)
  obtain ⟨k1, c1, -, -, -, e1⟩ := (hK1.2 3 (cA, .object RX3) rfl).2
  obtain ⟨k2, c2, -, -, -, e2⟩ := (hK.1.2 2 (E.2.2.2.2, .object RX3) rfl).2
  cases Option.some.inj (e1.symm.trans e2)
  exact kk q H1 locs ls (P_new hP1) (D_new hD1) hS1 hl
end GF
/-- the cells of pair j: the pair, its origin, its image -/
def grp (E : ev) (F : Nat → Nat × Nat × Nat × Nat × Nat) (o i : Nat → Po) (j : Nat) : va_W := [((F j).1, .inr (3, [.ref (F j).2.1, .ref (F j).2.2.2.1])), cP (F j).2.1 (F j).2.2.1 (hi (o j)), aP E (F j).2.2.1 (o j), cP (F j).2.2.2.1 (F j).2.2.2.2 (hi (i j)), aP E (F j).2.2.2.2 (i j)]
def fam (E : ev) (F : Nat → Nat × Nat × Nat × Nat × Nat) (o i : Nat → Po) (js : List Nat) : va_W := js.flatMap (grp E F o i)
theorem fam_pick {E : ev} {F : Nat → Nat × Nat × Nat × Nat × Nat} {o i : Nat → Po} {js : List Nat} {j : Nat} (h : j ∈ js) : (fam E F o i js).Perm (grp E F o i j ++ fam E F o i (js.erase j)) := by
  have p := (List.perm_cons_erase h).flatMap_right (grp E F o i)
  exact p
theorem fam_congr {E : ev} {F : Nat → Nat × Nat × Nat × Nat × Nat} {o i o' i' : Nat → Po} {js : List Nat} (h : ∀ j ∈ js, o j = o' j ∧ i j = i' j) : fam E F o i js = fam E F o' i' js := by
  unfold fam
  induction js with
  | nil => rfl
  | cons a t ih =>
    rw [List.flatMap_cons, List.flatMap_cons, ih (fun j hj => h j (List.mem_cons_of_mem _ hj))]
    have h1 := h a List.mem_cons_self
    unfold grp
    rw [h1.1, h1.2]
theorem fam_in {E : ev} {F : Nat → Nat × Nat × Nat × Nat × Nat} {o i : Nat → Po} {js : List Nat} {j p1 p2 p3 p4 p5 : Nat} {X : va_W} (h : j ∈ js) (hF : F j = (p1, p2, p3, p4, p5)) : (X ++ fam E F o i js).Perm ((X ++ [(p1, .inr (3, [.ref p2, .ref p4])), cP p2 p3 (hi (o j)), aP E p3 (o j), cP p4 p5 (hi (i j)), aP E p5 (i j)]) ++ fam E F o i (js.erase j)) := by
  have p := (fam_pick (E := E) (F := F) (o := o) (i := i) h).append_left X
  have e : grp E F o i j = [(p1, .inr (3, [.ref p2, .ref p4])), cP p2 p3 (hi (o j)), aP E p3 (o j), cP p4 p5 (hi (i j)), aP E p5 (i j)] := by unfold grp; rw [hF]
  rw [e, ← List.append_assoc] at p
  exact p
/-- a pair's image and origin lowered by the kept ones: n powers left -/
def low (kx : Nat → Option Nat) (o i : Nat → Po) : Nat → Po → Po → Po × Po
  | 0, y, x => (y, x)
  | n + 1, y, x => if y n = 0 then low kx o i n y x else match kx n with
    | none => (y, x)
    | some j => low kx o i n (am y (-(y n)) (i j) 0) (am x (-(y n)) (o j) 0)
def lowr (kx : Nat → Option Nat) (o i : Nat → Po) (y x : Po) : Po × Po := low kx o i (hi y + 1).toNat y x
theorem low_0 {kx : Nat → Option Nat} {o i : Nat → Po} {n : Nat} {y x : Po} (h : y n = 0) : low kx o i (n + 1) y x = low kx o i n y x := by rw [low, if_pos h]
theorem low_n {kx : Nat → Option Nat} {o i : Nat → Po} {n : Nat} {y x : Po} (h : y n ≠ 0) (hk : kx n = none) : low kx o i (n + 1) y x = (y, x) := by rw [low, if_neg h, hk]
theorem low_s {kx : Nat → Option Nat} {o i : Nat → Po} {n j : Nat} {y x : Po} (h : y n ≠ 0) (hk : kx n = some j) : low kx o i (n + 1) y x = low kx o i n (am y (-(y n)) (i j) 0) (am x (-(y n)) (o j) 0) := by rw [low, if_neg h, hk]
/-- what is kept: the pair at a power has that highest power, with 1 there -/
def KpOk (kx : Nat → Option Nat) (o i : Nat → Po) (js : List Nat) : Prop := ∀ p : Nat, p < 33 → ∀ j : Nat, kx p = some j → j ∈ js ∧ hi (i j) = (p : Int) ∧ i j p = 1 ∧ Sm (i j) ∧ Sm (o j)
theorem low_Sm {kx : Nat → Option Nat} {o i : Nat → Po} {js : List Nat} (hk : KpOk kx o i js) : ∀ (n : Nat) (y x : Po), n ≤ 33 → Sm y → Sm x → Sm (low kx o i n y x).1 ∧ Sm (low kx o i n y x).2
  | 0, y, x, _, hy, hx => ⟨hy, hx⟩
  | n + 1, y, x, hn, hy, hx => by
    by_cases h : y n = 0
    · rw [low_0 h]; exact low_Sm hk n y x (by omega) hy hx
    · cases e : kx n with
      | none => rw [low_n h e]; exact ⟨hy, hx⟩
      | some j =>
        rw [low_s h e]
        have := hk n (by omega) j e
        exact low_Sm hk n _ _ (by omega) (am_Sm hy (fun j9 h9 => this.2.2.2.1 j9 (by omega))) (am_Sm hx (fun j9 h9 => this.2.2.2.2 j9 (by omega)))
