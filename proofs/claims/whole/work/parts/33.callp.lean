/-! calls whose cells are told by an order of the caller's -/
theorem jnP {D : va_G} {cl : List vw_C} {A : Nat → Prop} {wc wr w1 tl : va_W} {H H1 : Heap} (hP : va_P D cl ((wr ++ wc) ++ tl) H) (hD : va_D A ((wr ++ wc) ++ tl))
    (hk : ∀ q : Nat, q < H.size → ¬ va_A wc H.size q → H1[q]? = H[q]?) (hF : ∀ q, va_A wc H.size q → A q) (hP1 : va_P D cl w1 H1) (hD1 : va_D (va_A wc H.size) w1) : va_P D cl ((wr ++ w1) ++ tl) H1 ∧ va_D A ((wr ++ w1) ++ tl) := by
  have apart : ∀ (z : Nat × va_E), z ∈ wr ∨ z ∈ tl → z.1 < H.size ∧ ¬ va_A wc H.size z.1 := by
    intro z hz
    have hlt : z.1 < H.size := by
      rcases hz with h | h
      · obtain ⟨k, hk⟩ := List.mem_iff_getElem?.mp h
        exact ((P_l (P_l hP)) k z hk).lt
      · obtain ⟨k, hk⟩ := List.mem_iff_getElem?.mp h
        exact ((P_r hP) k z hk).lt
    refine ⟨hlt, fun h => ?_⟩
    rcases h with ⟨k2, e, h⟩ | h
    · rcases hz with g | g
      · obtain ⟨k, hk⟩ := List.mem_iff_getElem?.mp g
        exact D_x (D_l hD) hk h rfl
      · obtain ⟨k, hk⟩ := List.mem_iff_getElem?.mp g
        exact D_x hD (tl_ar (ws := wr) h) hk rfl
    · omega
  have kr : va_P D cl wr H1 := fun k q hq => ((P_l (P_l hP)) k q hq).kept (hk q.1 (apart q (Or.inl (List.mem_of_getElem? hq))).1 (apart q (Or.inl (List.mem_of_getElem? hq))).2)
  have kt : va_P D cl tl H1 := fun k q hq => ((P_r hP) k q hq).kept (hk q.1 (apart q (Or.inr (List.mem_of_getElem? hq))).1 (apart q (Or.inr (List.mem_of_getElem? hq))).2)
  have d1 : va_D A (wr ++ w1) := (D_l (D_l hD)).app (hD1.weaken (fun k q _ h => hF q.1 h)) (fun i j p q hi hj e => (apart p (Or.inl (List.mem_of_getElem? hi))).2 (by rw [e]; exact hD1.2 j q hj))
  refine ⟨(kr.app hP1).app kt, d1.app (D_r hD) (fun i j p q hi hj => ?_)⟩
  by_cases g : i < wr.length
  · rw [List.getElem?_append_left g] at hi
    exact D_x hD (tl_at hi) hj
  · rw [List.getElem?_append_right (by omega)] at hi
    exact fun e => (apart q (Or.inr (List.mem_of_getElem? hj))).2 (by rw [← e]; exact hD1.2 _ p hi)
section CP
variable {G : Gt} {E : ev} {l : Launch} {R : Room} {y : MethodName} {cc : ByteArray} {nL : Nat} {Ts : List Cond} {ce so : Nat} {ws : va_W} {lv : Lv} {pc : Nat} {st : List Value}
variable {y' : MethodName} {wY wR : List Cond} {rm : Room} {b ci index n maxL mc ms : Nat} {As rest : List Value} {wc wr : va_W} {bytes : ByteArray} {ret : Option FieldType} {CC : String} {T : u_T} {N : Nat} {fs : List Value}
theorem g_callVp (C : Ok G E l R y cc nL Ts) {post : va_W → Prop} (hM : Mv E l y' wY rm (.ref b :: As) wc post mc ms) (hG : GoodIn Ts (wsV y.cls index CC y' wY)) (hw : wY = Cond.code y' bytes maxL ret :: wR)
    (hd0 : y'.cls = CC ∧ y'.cls ≠ "java/lang/invoke/MethodHandle" ∧ y'.cls ≠ "java/lang/invoke/VarHandle" ∧ (parseMethodDescriptor y'.desc).map (fun d => d.parameters.length) = some n) (hn : As.length = n)
    (hrm : (rm.cells = mc ∧ rm.slots = ms) ∧ (rm.frames + 1 ≤ R.frames ∧ 8 + (maxL + 11) + rm.locals ≤ R.locals) ∧ (ce + mc ≤ R.cells ∧ so + ms ≤ R.slots))
    (hd : decode cc pc = .ok (.invokevirtual index, 3)) (hst : st = As.reverse ++ .ref b :: rest) (hro : (rest.map fun v => v.category).sum ≤ 8)
    (hc : vwCl[ci]? = some (CC, T, N)) (he : wc[0]? = some (b, .inr (ci, fs))) (hp : ws.Perm (wr ++ wc))
    (kk : ∀ ws' : va_W, post ws' → G (ce + mc) (so + ms) (wr ++ ws') lv (pc + 3) rest) : G ce so ws lv pc st := by
  refine g_perm C hp ?_
  obtain ⟨p, e, s, m, args, below, meth, c, A, Q, tl, rfl, hx, hb, hml, hown, hnm, hts, hK, hA⟩ := C
  subst hst
  intro H locs ls hP hD hS hl
  have hPc : Pw E wc H := P_r (P_l hP)
  have hDc : va_D A wc := D_r (D_l hD)
  have hFc : ∀ q, va_A wc H.size q → A q := fun q h => by
    rcases h with ⟨k, e, h⟩ | h
    · exact hDc.2 k _ h
    · exact hA q (Nat.le_trans hS.1 h)
  refine va_callv (va_runV (As := As) (rest := rest) ⟨hx, hb, hml, hown, hts⟩ (hM H.size) (cwV n hts hG hw hrm.1.1 hrm.1.2 hd0 hrm.2.1) ⟨cPre_blind, va_recv hK.1 hPc (ci := ci) (q0 := 0) hc he, fun U hU hW => ⟨rfl, by rw [hU], by rw [hU]; exact hPc, hK.warm hW, hDc.weaken (fun _ _ _ _ => trivial)⟩⟩ rfl hn hl.1 rfl (lv_room hro) hd hrm.2.2) hS (fun q _ h => hFc q h) hFc (fun u t H1 locs1 ht hvm hw1 hB hz1 hk1 hS1 => ?_)
  obtain ⟨hP1, hD1⟩ := hB
  rw [ht] at hP1
  obtain ⟨hP2, hD2⟩ := jnP (w1 := u) hP hD hk1 hFc hP1 hD1
  exact kk u hw1 H1 locs1 ls hP2 hD2 hS1 hl
theorem g_callVip (C : Ok G E l R y cc nL Ts) {post : Int32 → va_W → Prop} (hM : Mi E l y' wY rm (.ref b :: As) wc post mc ms) (hG : GoodIn Ts (wsV y.cls index CC y' wY)) (hw : wY = Cond.code y' bytes maxL ret :: wR)
    (hd0 : y'.cls = CC ∧ y'.cls ≠ "java/lang/invoke/MethodHandle" ∧ y'.cls ≠ "java/lang/invoke/VarHandle" ∧ (parseMethodDescriptor y'.desc).map (fun d => d.parameters.length) = some n) (hn : As.length = n)
    (hrm : (rm.cells = mc ∧ rm.slots = ms) ∧ (rm.frames + 1 ≤ R.frames ∧ 8 + (maxL + 11) + rm.locals ≤ R.locals) ∧ (ce + mc ≤ R.cells ∧ so + ms ≤ R.slots))
    (hd : decode cc pc = .ok (.invokevirtual index, 3)) (hst : st = As.reverse ++ .ref b :: rest) (hro : (rest.map fun v => v.category).sum ≤ 8)
    (hc : vwCl[ci]? = some (CC, T, N)) (he : wc[0]? = some (b, .inr (ci, fs))) (hp : ws.Perm (wr ++ wc))
    (kk : ∀ (r : Int32) (ws' : va_W), post r ws' → G (ce + mc) (so + ms) (wr ++ ws') lv (pc + 3) (.int r :: rest)) : G ce so ws lv pc st := by
  refine g_perm C hp ?_
  obtain ⟨p, e, s, m, args, below, meth, c, A, Q, tl, rfl, hx, hb, hml, hown, hnm, hts, hK, hA⟩ := C
  subst hst
  intro H locs ls hP hD hS hl
  have hPc : Pw E wc H := P_r (P_l hP)
  have hDc : va_D A wc := D_r (D_l hD)
  have hFc : ∀ q, va_A wc H.size q → A q := fun q h => by
    rcases h with ⟨k, e, h⟩ | h
    · exact hDc.2 k _ h
    · exact hA q (Nat.le_trans hS.1 h)
  refine va_calli (va_runV (As := As) (rest := rest) ⟨hx, hb, hml, hown, hts⟩ (hM H.size) (cwV n hts hG hw hrm.1.1 hrm.1.2 hd0 hrm.2.1) ⟨cPre_blind, va_recv hK.1 hPc (ci := ci) (q0 := 0) hc he, fun U hU hW => ⟨rfl, by rw [hU], by rw [hU]; exact hPc, hK.warm hW, hDc.weaken (fun _ _ _ _ => trivial)⟩⟩ rfl hn hl.1 rfl (lv_room hro) hd hrm.2.2) hS (fun q _ h => hFc q h) hFc (fun r u t H1 locs1 ht hvm hw1 hB hz1 hk1 hS1 => ?_)
  obtain ⟨hP1, hD1⟩ := hB
  rw [ht] at hP1
  obtain ⟨hP2, hD2⟩ := jnP (w1 := u) hP hD hk1 hFc hP1 hD1
  exact kk r u hw1 H1 locs1 ls hP2 hD2 hS1 hl
end CP
theorem fam_out {E : ev} {F : Nat → Nat × Nat × Nat × Nat × Nat} {o i : Nat → Po} {js : List Nat} {j p1 p2 p3 p4 p5 : Nat} {x y : Po} {X : va_W} (h : j ∈ js) (hn : js.Nodup) (hF : F j = (p1, p2, p3, p4, p5)) : ((X ++ [(p1, .inr (3, [.ref p2, .ref p4])), cP p2 p3 (hi x), aP E p3 x, cP p4 p5 (hi y), aP E p5 y]) ++ fam E F o i (js.erase j)).Perm (X ++ fam E F (cset o j x) (cset i j y) js) := by
  have p := (fam_in (E := E) (F := F) (o := cset o j x) (i := cset i j y) (X := X) h hF).symm
  rw [cset_eq, cset_eq] at p
  rw [fam_congr (o := o) (i := i) (o' := cset o j x) (i' := cset i j y) (fun k hk => ?_)]
  · exact p
  · have : k ≠ j := (hn.mem_erase_iff.mp hk).1
    exact ⟨(cset_ne this).symm, (cset_ne this).symm⟩
/-- the equation's state: what is kept, origins, images, the grown top, what remains (image, origin) -/
abbrev St6 : Type := (Nat → Option Nat) × (Nat → Po) × (Nat → Po) × Po × Po × Po
def svs (b a : Po) (k : Nat) (s : St6) : St6 :=
  let yx := lowr s.1 s.2.1 s.2.2.1 (am s.2.2.2.1 32002 b k) (mono k)
  let kx2 := if hi yx.1 < 0 then s.1 else cset s.1 (hi yx.1).toNat (some k)
  let o2 := cset s.2.1 k (kpc yx.1 yx.2)
  let i2 := cset s.2.2.1 k (kpc yx.1 yx.1)
  let r := lowr kx2 o2 i2 s.2.2.2.2.1 s.2.2.2.2.2
  (kx2, o2, i2, conv s.2.2.2.1 a, r.1, r.2)
def sv (b a : Po) (s : St6) : Nat → St6
  | 0 => s
  | k + 1 => svs b a k (sv b a s k)
theorem KpOk.mono {kx : Nat → Option Nat} {o i : Nat → Po} {js js' : List Nat} (h : KpOk kx o i js) (hj : ∀ j ∈ js, j ∈ js') : KpOk kx o i js' := fun p hp j hk => ⟨hj j (h p hp j hk).1, (h p hp j hk).2⟩
theorem kpc_Sm {y a : Po} (h : Sm a) : Sm (kpc y a) := by
  unfold kpc; split
  · exact h
  · exact sc_Sm h _
theorem kpc_top {y : Po} (hS : Sm y) (h : ¬ hi y < 0) : hi (kpc y y) = hi y ∧ kpc y y (hi y).toNat = 1 := by
  have hp : 0 ≤ hi y := by omega
  unfold kpc
  rw [if_neg h]
  refine ⟨sc_hi hS (ivq_ne (nm_ne hp)), ?_⟩
  unfold sc
  rw [nm_hi hp]
  exact ivq_mul (hi_ne hp)
/-- what is kept, one more -/
theorem KpOk_step {kx : Nat → Option Nat} {o i : Nat → Po} {k : Nat} {y x : Po} (h : KpOk kx o i (List.range k)) (hy : Sm y) (hx : Sm x) : KpOk (if hi y < 0 then kx else cset kx (hi y).toNat (some k)) (cset o k (kpc y x)) (cset i k (kpc y y)) (List.range (k + 1)) := by
  intro p hp j hk
  by_cases g : hi y < 0
  · rw [if_pos g] at hk
    have h1 := h p hp j hk
    have hj : j ≠ k := by have := List.mem_range.mp h1.1; omega
    rw [cset_ne hj, cset_ne hj]
    exact ⟨List.mem_range.mpr (by have := List.mem_range.mp h1.1; omega), h1.2⟩
  · rw [if_neg g] at hk
    unfold cset at hk
    split at hk
    · rename_i e
      cases hk
      rw [cset_eq, cset_eq]
      have h2 := kpc_top hy g
      refine ⟨List.mem_range.mpr (by omega), by omega, by rw [e]; exact h2.2, kpc_Sm hy, kpc_Sm hx⟩
    · have h1 := h p hp j hk
      have hj : j ≠ k := by have := List.mem_range.mp h1.1; omega
      rw [cset_ne hj, cset_ne hj]
      exact ⟨List.mem_range.mpr (by have := List.mem_range.mp h1.1; omega), h1.2⟩
