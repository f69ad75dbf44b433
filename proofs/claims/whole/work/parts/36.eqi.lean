theorem famF_congr {E : ev} {F F' : Nat → Nat × Nat × Nat × Nat × Nat} {o i : Nat → Po} {js : List Nat} (h : ∀ j ∈ js, F j = F' j) : fam E F o i js = fam E F' o i js := by
  unfold fam
  induction js with
  | nil => rfl
  | cons a t ih =>
    rw [List.flatMap_cons, List.flatMap_cons, ih (fun j hj => h j (List.mem_cons_of_mem _ hj))]
    unfold grp
    rw [h a List.mem_cons_self]
theorem fam_add {E : ev} {F : Nat → Nat × Nat × Nat × Nat × Nat} {o i : Nat → Po} {k p1 p2 p3 p4 p5 : Nat} {X : va_W} : ((X ++ [(p1, .inr (3, [.ref p2, .ref p4])), cP p2 p3 (hi (o k)), aP E p3 (o k), cP p4 p5 (hi (i k)), aP E p5 (i k)]) ++ fam E F o i (List.range k)).Perm (X ++ fam E (cset F k (p1, p2, p3, p4, p5)) o i (List.range (k + 1))) := by
  have e1 : fam E (cset F k (p1, p2, p3, p4, p5)) o i (List.range (k + 1)) = fam E F o i (List.range k) ++ [(p1, .inr (3, [.ref p2, .ref p4])), cP p2 p3 (hi (o k)), aP E p3 (o k), cP p4 p5 (hi (i k)), aP E p5 (i k)] := by
    have e2 : fam E F o i (List.range k) = fam E (cset F k (p1, p2, p3, p4, p5)) o i (List.range k) := famF_congr (fun j hj => (cset_ne (by have := List.mem_range.mp hj; omega)).symm)
    rw [e2]
    show (List.range (k + 1)).flatMap _ = (List.range k).flatMap _ ++ _
    rw [List.range_succ, List.flatMap_append]
    congr 1
    show grp _ _ _ _ k ++ [] = _
    unfold grp
    rw [cset_eq, List.append_nil]
  rw [e1, List.append_assoc]
  exact List.Perm.append_left X List.perm_append_comm
theorem g_cs {G : Gt} {ce so ce' so' : Nat} {ws : va_W} {lv : Lv} {pc : Nat} {st : List Value} (h1 : ce = ce') (h2 : so = so') (k : G ce' so' ws lv pc st) : G ce so ws lv pc st := by subst h1; subst h2; exact k
theorem in_X1_init_X4 : ∀ w ∈ u_ws RX4 TX4 2, w ∈ wsX1_init := by decide +kernel
theorem in_X1_init_X3 : ∀ w ∈ u_ws RX3 TX3 2, w ∈ wsX1_init := by decide +kernel
theorem in_X1_init_X1 : ∀ w ∈ u_ws RX1 TX1 8, w ∈ wsX1_init := by decide +kernel
theorem lk_X1_init_pairs : Cond.fieldLink yX1_init.cls 11 (TX1 0).1 (TX1 0).2.1 (TX1 0).2.2.1 ∈ wsX1_init := by decide +kernel
theorem lk_X1_init_byHighest : Cond.fieldLink yX1_init.cls 19 (TX1 1).1 (TX1 1).2.1 (TX1 1).2.2.1 ∈ wsX1_init := by decide +kernel
theorem lk_X1_init_remaining : Cond.fieldLink yX1_init.cls 23 (TX1 2).1 (TX1 2).2.1 (TX1 2).2.2.1 ∈ wsX1_init := by decide +kernel
theorem lk_X1_init_bottomBefore : Cond.fieldLink yX1_init.cls 28 (TX1 3).1 (TX1 3).2.1 (TX1 3).2.2.1 ∈ wsX1_init := by decide +kernel
theorem lk_X1_init_topGrown : Cond.fieldLink yX1_init.cls 32 (TX1 4).1 (TX1 4).2.1 (TX1 4).2.2.1 ∈ wsX1_init := by decide +kernel
theorem lk_X1_init_placeAfter : Cond.fieldLink yX1_init.cls 35 (TX1 5).1 (TX1 5).2.1 (TX1 5).2.2.1 ∈ wsX1_init := by decide +kernel
theorem lk_X1_init_leastDegree : Cond.fieldLink yX1_init.cls 38 (TX1 6).1 (TX1 6).2.1 (TX1 6).2.2.1 ∈ wsX1_init := by decide +kernel
theorem lk_X1_init_known : Cond.fieldLink yX1_init.cls 42 (TX1 7).1 (TX1 7).2.1 (TX1 7).2.2.1 ∈ wsX1_init := by decide +kernel
theorem nw_X1_init_X3 : Cond.classLink yX1_init.cls 9 RX3 ∈ wsX1_init ∧ Cond.instantiable RX3 2 ∈ wsX1_init ∧ Cond.initialized RX3 ∈ wsX1_init := by decide +kernel
theorem nw_X1_init_X4 : Cond.classLink yX1_init.cls 17 RX4 ∈ wsX1_init ∧ Cond.instantiable RX4 2 ∈ wsX1_init ∧ Cond.initialized RX4 ∈ wsX1_init := by decide +kernel
set_option maxHeartbeats 4000000 in
set_option maxRecDepth 100000 in
theorem c_X1_init (E : ev) (l : Launch) (h : Nat) : Mv E l yX1_init wsX1_init { frames := 3, cells := 118, slots := 1743, locals := 90 } [.ref h] [(h, .inr (1, [.null, .null, .null, .null, .null, .null, .int (zI 0), .int (zI 0)]))] (fun w => ∃ (ep eb er bb qbb tg qtg pa qpa eo qo ei qi : Nat) (F : Nat → Nat × Nat × Nat × Nat × Nat) (pr : Nat → Option Nat), (∀ j : Nat, j < 21 → pr j = some (F j).1) ∧ w = [(h, .inr (1, [.ref ep, .ref eb, .ref er, .ref bb, .ref tg, .ref pa, .int (zI (-1)), .int (zI 0)])), (ep, .inl (E.2.2.2.2, 21, .inr (.inr (.inr (.inr pr))))), (eb, .inl (E.2.2.2.2, 33, .inr (.inr (.inr (.inr (fun _ => none)))))), (er, .inr (3, [.ref eo, .ref ei])), cP eo qo (hi zr), aP E qo zr, cP ei qi (hi zr), aP E qi zr, cP bb qbb (hi zr), aP E qbb zr, cP tg qtg (hi zr), aP E qtg zr, cP pa qpa (hi pA), aP E qpa pA] ++ fam E F (fun _ => zr) (fun _ => zr) (List.range 21)) 118 1743 := by
  refine enter_v (cc := cX1_init) (nL := 2) (by decide) rfl (Nat.le_of_ble_eq_true rfl) (fun G C hret => ?_)
  show G 0 0 [(h, .inr (1, [.null, .null, .null, .null, .null, .null, .int (zI 0), .int (zI 0)]))] [(0, .ref h)] 0 []
  refine g_aload_n C dX1_init_0 0 rfl ?_
  refine g_objInit C (by decide +kernel) (List.mem_cons_of_mem _ (List.mem_of_getElem? (i := 2) rfl)) dX1_init_1 (by decide) (Nat.le_of_ble_eq_true rfl) ?_
  refine g_aload_n C dX1_init_4 0 rfl ?_
  refine g_bipush C dX1_init_5 rfl ?_
  refine g_anewa C 21 (by decide +kernel) rfl (by decide) (by decide) dX1_init_7 (fun q_7 => ?_)
  refine g_eq (ws' := [(h, .inr (1, [.null, .null, .null, .null, .null, .null, .int (zI 0), .int (zI 0)])), (q_7, .inl (E.2.2.2.2, 21, .inr (.inr (.inr (.inr (fun _ => none))))))]) rfl rfl rfl ?_
  refine g_putF C [(h, .inr (1, [.ref q_7, .null, .null, .null, .null, .null, .int (zI 0), .int (zI 0)])), (q_7, .inl (E.2.2.2.2, 21, .inr (.inr (.inr (.inr (fun _ => none))))))] tyX1 tyX1_ok nmX1 0 rfl rfl 0 (by decide) in_X1_init_X1 lk_X1_init_pairs rfl rfl rfl rfl (Nat.le_of_ble_eq_true rfl) dX1_init_10 rfl rfl ?_
  refine g_aload_n C dX1_init_13 0 rfl ?_
  refine g_bipush C dX1_init_14 rfl ?_
  refine g_anewa C 33 (by decide +kernel) rfl (by decide) (by decide) dX1_init_16 (fun q_16 => ?_)
  refine g_eq (ws' := [(h, .inr (1, [.ref q_7, .null, .null, .null, .null, .null, .int (zI 0), .int (zI 0)])), (q_7, .inl (E.2.2.2.2, 21, .inr (.inr (.inr (.inr (fun _ => none)))))), (q_16, .inl (E.2.2.2.2, 33, .inr (.inr (.inr (.inr (fun _ => none))))))]) rfl rfl rfl ?_
  refine g_putF C [(h, .inr (1, [.ref q_7, .ref q_16, .null, .null, .null, .null, .int (zI 0), .int (zI 0)])), (q_7, .inl (E.2.2.2.2, 21, .inr (.inr (.inr (.inr (fun _ => none)))))), (q_16, .inl (E.2.2.2.2, 33, .inr (.inr (.inr (.inr (fun _ => none))))))] tyX1 tyX1_ok nmX1 0 rfl rfl 1 (by decide) in_X1_init_X1 lk_X1_init_byHighest rfl rfl rfl rfl (Nat.le_of_ble_eq_true rfl) dX1_init_19 rfl rfl ?_
  refine g_aload_n C dX1_init_22 0 rfl ?_
  refine g_new (ci := 3) C [.null, .null] tyX3 tyX3_ok rfl in_X1_init_X3 nw_X1_init_X3 (by decide +kernel) (by decide) dX1_init_23 (fun q_23 => ?_)
  refine g_eq (ws' := [(h, .inr (1, [.ref q_7, .ref q_16, .null, .null, .null, .null, .int (zI 0), .int (zI 0)])), (q_7, .inl (E.2.2.2.2, 21, .inr (.inr (.inr (.inr (fun _ => none)))))), (q_16, .inl (E.2.2.2.2, 33, .inr (.inr (.inr (.inr (fun _ => none)))))), (q_23, .inr (3, [.null, .null]))]) rfl rfl rfl ?_
  refine g_dup C dX1_init_26 rfl ?_
  refine g_callI (n := 0) (wr := [(h, .inr (1, [.ref q_7, .ref q_16, .null, .null, .null, .null, .int (zI 0), .int (zI 0)])), (q_7, .inl (E.2.2.2.2, 21, .inr (.inr (.inr (.inr (fun _ => none)))))), (q_16, .inl (E.2.2.2.2, 33, .inr (.inr (.inr (.inr (fun _ => none))))))]) C (c_X3_init E l q_23) (Or.inl (by decide +kernel)) gX1_init_X3_init_n22 (by decide +kernel) rfl (by decide +kernel) rfl (by decide) dX1_init_27 rfl (Nat.le_of_ble_eq_true rfl) [3] [0, 1, 2] rfl rfl (by decide) (fun w_27 h_27 => ?_)
  obtain ⟨a_27, b_27, c_27, d_27, rfl⟩ := h_27
  refine g_eq (ws' := [(h, .inr (1, [.ref q_7, .ref q_16, .null, .null, .null, .null, .int (zI 0), .int (zI 0)])), (q_7, .inl (E.2.2.2.2, 21, .inr (.inr (.inr (.inr (fun _ => none)))))), (q_16, .inl (E.2.2.2.2, 33, .inr (.inr (.inr (.inr (fun _ => none)))))), (q_23, .inr (3, [.ref a_27, .ref c_27])), cP a_27 b_27 (hi zr), aP E b_27 zr, cP c_27 d_27 (hi zr), aP E d_27 zr]) rfl rfl rfl ?_
  refine g_putF C [(h, .inr (1, [.ref q_7, .ref q_16, .ref q_23, .null, .null, .null, .int (zI 0), .int (zI 0)])), (q_7, .inl (E.2.2.2.2, 21, .inr (.inr (.inr (.inr (fun _ => none)))))), (q_16, .inl (E.2.2.2.2, 33, .inr (.inr (.inr (.inr (fun _ => none)))))), (q_23, .inr (3, [.ref a_27, .ref c_27])), cP a_27 b_27 (hi zr), aP E b_27 zr, cP c_27 d_27 (hi zr), aP E d_27 zr] tyX1 tyX1_ok nmX1 0 rfl rfl 2 (by decide) in_X1_init_X1 lk_X1_init_remaining rfl rfl rfl rfl (Nat.le_of_ble_eq_true rfl) dX1_init_30 rfl rfl ?_
  refine g_aload_n C dX1_init_33 0 rfl ?_
  refine g_new (ci := 4) C [.null, .int (zI 0)] tyX4 tyX4_ok rfl in_X1_init_X4 nw_X1_init_X4 (by decide +kernel) (by decide) dX1_init_34 (fun q_34 => ?_)
  refine g_eq (ws' := [(h, .inr (1, [.ref q_7, .ref q_16, .ref q_23, .null, .null, .null, .int (zI 0), .int (zI 0)])), (q_7, .inl (E.2.2.2.2, 21, .inr (.inr (.inr (.inr (fun _ => none)))))), (q_16, .inl (E.2.2.2.2, 33, .inr (.inr (.inr (.inr (fun _ => none)))))), (q_23, .inr (3, [.ref a_27, .ref c_27])), cP a_27 b_27 (hi zr), aP E b_27 zr, cP c_27 d_27 (hi zr), aP E d_27 zr, (q_34, .inr (4, [.null, .int (zI 0)]))]) rfl rfl rfl ?_
  refine g_dup C dX1_init_37 rfl ?_
  refine g_callI (n := 0) (wr := [(h, .inr (1, [.ref q_7, .ref q_16, .ref q_23, .null, .null, .null, .int (zI 0), .int (zI 0)])), (q_7, .inl (E.2.2.2.2, 21, .inr (.inr (.inr (.inr (fun _ => none)))))), (q_16, .inl (E.2.2.2.2, 33, .inr (.inr (.inr (.inr (fun _ => none)))))), (q_23, .inr (3, [.ref a_27, .ref c_27])), cP a_27 b_27 (hi zr), aP E b_27 zr, cP c_27 d_27 (hi zr), aP E d_27 zr]) C (c_X4_init E l q_34) (Or.inl (by decide +kernel)) gX1_init_X4_init_n27 (by decide +kernel) rfl (by decide +kernel) rfl (by decide) dX1_init_38 rfl (Nat.le_of_ble_eq_true rfl) [8] [0, 1, 2, 3, 4, 5, 6, 7] rfl rfl (by decide) (fun w_38 h_38 => ?_)
  obtain ⟨p_38, rfl⟩ := h_38
  refine g_eq (ws' := [(h, .inr (1, [.ref q_7, .ref q_16, .ref q_23, .null, .null, .null, .int (zI 0), .int (zI 0)])), (q_7, .inl (E.2.2.2.2, 21, .inr (.inr (.inr (.inr (fun _ => none)))))), (q_16, .inl (E.2.2.2.2, 33, .inr (.inr (.inr (.inr (fun _ => none)))))), (q_23, .inr (3, [.ref a_27, .ref c_27])), cP a_27 b_27 (hi zr), aP E b_27 zr, cP c_27 d_27 (hi zr), aP E d_27 zr, cP q_34 p_38 (hi zr), aP E p_38 zr]) rfl rfl rfl ?_
  refine g_putF C [(h, .inr (1, [.ref q_7, .ref q_16, .ref q_23, .ref q_34, .null, .null, .int (zI 0), .int (zI 0)])), (q_7, .inl (E.2.2.2.2, 21, .inr (.inr (.inr (.inr (fun _ => none)))))), (q_16, .inl (E.2.2.2.2, 33, .inr (.inr (.inr (.inr (fun _ => none)))))), (q_23, .inr (3, [.ref a_27, .ref c_27])), cP a_27 b_27 (hi zr), aP E b_27 zr, cP c_27 d_27 (hi zr), aP E d_27 zr, cP q_34 p_38 (hi zr), aP E p_38 zr] tyX1 tyX1_ok nmX1 0 rfl rfl 3 (by decide) in_X1_init_X1 lk_X1_init_bottomBefore rfl rfl rfl rfl (Nat.le_of_ble_eq_true rfl) dX1_init_41 rfl rfl ?_
  refine g_aload_n C dX1_init_44 0 rfl ?_
  refine g_new (ci := 4) C [.null, .int (zI 0)] tyX4 tyX4_ok rfl in_X1_init_X4 nw_X1_init_X4 (by decide +kernel) (by decide) dX1_init_45 (fun q_45 => ?_)
  refine g_eq (ws' := [(h, .inr (1, [.ref q_7, .ref q_16, .ref q_23, .ref q_34, .null, .null, .int (zI 0), .int (zI 0)])), (q_7, .inl (E.2.2.2.2, 21, .inr (.inr (.inr (.inr (fun _ => none)))))), (q_16, .inl (E.2.2.2.2, 33, .inr (.inr (.inr (.inr (fun _ => none)))))), (q_23, .inr (3, [.ref a_27, .ref c_27])), cP a_27 b_27 (hi zr), aP E b_27 zr, cP c_27 d_27 (hi zr), aP E d_27 zr, cP q_34 p_38 (hi zr), aP E p_38 zr, (q_45, .inr (4, [.null, .int (zI 0)]))]) rfl rfl rfl ?_
  refine g_dup C dX1_init_48 rfl ?_
  refine g_callI (n := 0) (wr := [(h, .inr (1, [.ref q_7, .ref q_16, .ref q_23, .ref q_34, .null, .null, .int (zI 0), .int (zI 0)])), (q_7, .inl (E.2.2.2.2, 21, .inr (.inr (.inr (.inr (fun _ => none)))))), (q_16, .inl (E.2.2.2.2, 33, .inr (.inr (.inr (.inr (fun _ => none)))))), (q_23, .inr (3, [.ref a_27, .ref c_27])), cP a_27 b_27 (hi zr), aP E b_27 zr, cP c_27 d_27 (hi zr), aP E d_27 zr, cP q_34 p_38 (hi zr), aP E p_38 zr]) C (c_X4_init E l q_45) (Or.inl (by decide +kernel)) gX1_init_X4_init_n27 (by decide +kernel) rfl (by decide +kernel) rfl (by decide) dX1_init_49 rfl (Nat.le_of_ble_eq_true rfl) [10] [0, 1, 2, 3, 4, 5, 6, 7, 8, 9] rfl rfl (by decide) (fun w_49 h_49 => ?_)
  obtain ⟨p_49, rfl⟩ := h_49
  refine g_eq (ws' := [(h, .inr (1, [.ref q_7, .ref q_16, .ref q_23, .ref q_34, .null, .null, .int (zI 0), .int (zI 0)])), (q_7, .inl (E.2.2.2.2, 21, .inr (.inr (.inr (.inr (fun _ => none)))))), (q_16, .inl (E.2.2.2.2, 33, .inr (.inr (.inr (.inr (fun _ => none)))))), (q_23, .inr (3, [.ref a_27, .ref c_27])), cP a_27 b_27 (hi zr), aP E b_27 zr, cP c_27 d_27 (hi zr), aP E d_27 zr, cP q_34 p_38 (hi zr), aP E p_38 zr, cP q_45 p_49 (hi zr), aP E p_49 zr]) rfl rfl rfl ?_
  refine g_putF C [(h, .inr (1, [.ref q_7, .ref q_16, .ref q_23, .ref q_34, .ref q_45, .null, .int (zI 0), .int (zI 0)])), (q_7, .inl (E.2.2.2.2, 21, .inr (.inr (.inr (.inr (fun _ => none)))))), (q_16, .inl (E.2.2.2.2, 33, .inr (.inr (.inr (.inr (fun _ => none)))))), (q_23, .inr (3, [.ref a_27, .ref c_27])), cP a_27 b_27 (hi zr), aP E b_27 zr, cP c_27 d_27 (hi zr), aP E d_27 zr, cP q_34 p_38 (hi zr), aP E p_38 zr, cP q_45 p_49 (hi zr), aP E p_49 zr] tyX1 tyX1_ok nmX1 0 rfl rfl 4 (by decide) in_X1_init_X1 lk_X1_init_topGrown rfl rfl rfl rfl (Nat.le_of_ble_eq_true rfl) dX1_init_52 rfl rfl ?_
  refine g_aload_n C dX1_init_55 0 rfl ?_
  refine g_new (ci := 4) C [.null, .int (zI 0)] tyX4 tyX4_ok rfl in_X1_init_X4 nw_X1_init_X4 (by decide +kernel) (by decide) dX1_init_56 (fun q_56 => ?_)
  refine g_eq (ws' := [(h, .inr (1, [.ref q_7, .ref q_16, .ref q_23, .ref q_34, .ref q_45, .null, .int (zI 0), .int (zI 0)])), (q_7, .inl (E.2.2.2.2, 21, .inr (.inr (.inr (.inr (fun _ => none)))))), (q_16, .inl (E.2.2.2.2, 33, .inr (.inr (.inr (.inr (fun _ => none)))))), (q_23, .inr (3, [.ref a_27, .ref c_27])), cP a_27 b_27 (hi zr), aP E b_27 zr, cP c_27 d_27 (hi zr), aP E d_27 zr, cP q_34 p_38 (hi zr), aP E p_38 zr, cP q_45 p_49 (hi zr), aP E p_49 zr, (q_56, .inr (4, [.null, .int (zI 0)]))]) rfl rfl rfl ?_
  refine g_dup C dX1_init_59 rfl ?_
  refine g_callI (n := 0) (wr := [(h, .inr (1, [.ref q_7, .ref q_16, .ref q_23, .ref q_34, .ref q_45, .null, .int (zI 0), .int (zI 0)])), (q_7, .inl (E.2.2.2.2, 21, .inr (.inr (.inr (.inr (fun _ => none)))))), (q_16, .inl (E.2.2.2.2, 33, .inr (.inr (.inr (.inr (fun _ => none)))))), (q_23, .inr (3, [.ref a_27, .ref c_27])), cP a_27 b_27 (hi zr), aP E b_27 zr, cP c_27 d_27 (hi zr), aP E d_27 zr, cP q_34 p_38 (hi zr), aP E p_38 zr, cP q_45 p_49 (hi zr), aP E p_49 zr]) C (c_X4_init E l q_56) (Or.inl (by decide +kernel)) gX1_init_X4_init_n27 (by decide +kernel) rfl (by decide +kernel) rfl (by decide) dX1_init_60 rfl (Nat.le_of_ble_eq_true rfl) [12] [0, 1, 2, 3, 4, 5, 6, 7, 8, 9, 10, 11] rfl rfl (by decide) (fun w_60 h_60 => ?_)
  obtain ⟨p_60, rfl⟩ := h_60
  refine g_eq (ws' := [(h, .inr (1, [.ref q_7, .ref q_16, .ref q_23, .ref q_34, .ref q_45, .null, .int (zI 0), .int (zI 0)])), (q_7, .inl (E.2.2.2.2, 21, .inr (.inr (.inr (.inr (fun _ => none)))))), (q_16, .inl (E.2.2.2.2, 33, .inr (.inr (.inr (.inr (fun _ => none)))))), (q_23, .inr (3, [.ref a_27, .ref c_27])), cP a_27 b_27 (hi zr), aP E b_27 zr, cP c_27 d_27 (hi zr), aP E d_27 zr, cP q_34 p_38 (hi zr), aP E p_38 zr, cP q_45 p_49 (hi zr), aP E p_49 zr, cP q_56 p_60 (hi zr), aP E p_60 zr]) rfl rfl rfl ?_
  refine g_putF C [(h, .inr (1, [.ref q_7, .ref q_16, .ref q_23, .ref q_34, .ref q_45, .ref q_56, .int (zI 0), .int (zI 0)])), (q_7, .inl (E.2.2.2.2, 21, .inr (.inr (.inr (.inr (fun _ => none)))))), (q_16, .inl (E.2.2.2.2, 33, .inr (.inr (.inr (.inr (fun _ => none)))))), (q_23, .inr (3, [.ref a_27, .ref c_27])), cP a_27 b_27 (hi zr), aP E b_27 zr, cP c_27 d_27 (hi zr), aP E d_27 zr, cP q_34 p_38 (hi zr), aP E p_38 zr, cP q_45 p_49 (hi zr), aP E p_49 zr, cP q_56 p_60 (hi zr), aP E p_60 zr] tyX1 tyX1_ok nmX1 0 rfl rfl 5 (by decide) in_X1_init_X1 lk_X1_init_placeAfter rfl rfl rfl rfl (Nat.le_of_ble_eq_true rfl) dX1_init_63 rfl rfl ?_
  refine g_aload_n C dX1_init_66 0 rfl ?_
  refine g_iconst C dX1_init_67 ?_
  refine g_put C [(h, .inr (1, [.ref q_7, .ref q_16, .ref q_23, .ref q_34, .ref q_45, .ref q_56, .int (zI (-1)), .int (zI 0)])), (q_7, .inl (E.2.2.2.2, 21, .inr (.inr (.inr (.inr (fun _ => none)))))), (q_16, .inl (E.2.2.2.2, 33, .inr (.inr (.inr (.inr (fun _ => none)))))), (q_23, .inr (3, [.ref a_27, .ref c_27])), cP a_27 b_27 (hi zr), aP E b_27 zr, cP c_27 d_27 (hi zr), aP E d_27 zr, cP q_34 p_38 (hi zr), aP E p_38 zr, cP q_45 p_49 (hi zr), aP E p_49 zr, cP q_56 p_60 (hi zr), aP E p_60 zr] tyX1 tyX1_ok nmX1 0 rfl rfl 6 (by decide) in_X1_init_X1 lk_X1_init_leastDegree rfl rfl rfl (Nat.le_of_ble_eq_true rfl) dX1_init_68 rfl ?_
  refine g_aload_n C dX1_init_71 0 rfl ?_
  refine g_iconst C dX1_init_72 ?_
  refine g_put C [(h, .inr (1, [.ref q_7, .ref q_16, .ref q_23, .ref q_34, .ref q_45, .ref q_56, .int (zI (-1)), .int (zI 0)])), (q_7, .inl (E.2.2.2.2, 21, .inr (.inr (.inr (.inr (fun _ => none)))))), (q_16, .inl (E.2.2.2.2, 33, .inr (.inr (.inr (.inr (fun _ => none)))))), (q_23, .inr (3, [.ref a_27, .ref c_27])), cP a_27 b_27 (hi zr), aP E b_27 zr, cP c_27 d_27 (hi zr), aP E d_27 zr, cP q_34 p_38 (hi zr), aP E p_38 zr, cP q_45 p_49 (hi zr), aP E p_49 zr, cP q_56 p_60 (hi zr), aP E p_60 zr] tyX1 tyX1_ok nmX1 0 rfl rfl 7 (by decide) in_X1_init_X1 lk_X1_init_known rfl rfl rfl (Nat.le_of_ble_eq_true rfl) dX1_init_73 rfl ?_
  refine g_iconst C dX1_init_76 ?_
  refine g_istore_n C [(1, .int (zI 0)), (0, .ref h)] dX1_init_77 (by decide) rfl ?_
  have lp_o : ∀ (n_o : Nat) (x9 : Int) (k : Nat) (F : Nat → Nat × Nat × Nat × Nat × Nat) (pr : Nat → Option Nat), (x9 = (k : Int)) → (k ≤ 21) → (∀ j : Nat, j < k → pr j = some (F j).1) → 21 - k < n_o → G (13 + 5 * k) (231 + 72 * k) ([(h, .inr (1, [.ref q_7, .ref q_16, .ref q_23, .ref q_34, .ref q_45, .ref q_56, .int (zI (-1)), .int (zI 0)])), (q_7, .inl (E.2.2.2.2, 21, .inr (.inr (.inr (.inr pr))))), (q_16, .inl (E.2.2.2.2, 33, .inr (.inr (.inr (.inr (fun _ => none)))))), (q_23, .inr (3, [.ref a_27, .ref c_27])), cP a_27 b_27 (hi zr), aP E b_27 zr, cP c_27 d_27 (hi zr), aP E d_27 zr, cP q_34 p_38 (hi zr), aP E p_38 zr, cP q_45 p_49 (hi zr), aP E p_49 zr, cP q_56 p_60 (hi zr), aP E p_60 zr] ++ fam E F (fun _ => zr) (fun _ => zr) (List.range k)) [(1, .int (zI x9)), (0, .ref h)] 78 [] := by
    intro n_o
    induction n_o with
    | zero =>
      intro x9 k F pr hx hk hpr hm
      exact absurd hm (by omega)
    | succ n_o ih_o =>
      intro x9 k F pr hx hk hpr hm
      refine g_in C (fun G_o C_o back_o => ?_)
      refine g_iload_n C_o dX1_init_78 0 rfl ?_
      refine g_aload_n C_o dX1_init_79 1 rfl ?_
      refine g_get C_o 0 rfl rfl 0 (by decide) in_X1_init_X1 lk_X1_init_pairs rfl dX1_init_80 ?_
      refine g_alenQ C_o 1 rfl dX1_init_83 ?_
      refine g_icmp_ge C_o 106 dX1_init_84 (by decide) (by omega) (by omega) (by omega) (by omega) (fun c_84 => ?_) (fun c_84 => ?_)
      · obtain rfl : k = 21 := by omega
        refine g_aload_n C_o dX1_init_106 1 rfl ?_
        refine g_get C_o 0 rfl rfl 5 (by decide) in_X1_init_X1 lk_X1_init_placeAfter rfl dX1_init_107 ?_
        refine g_iconst C_o dX1_init_110 ?_
        refine g_iconst C_o dX1_init_111 ?_
        refine g_callV (n := 2) (wr := [(h, .inr (1, [.ref q_7, .ref q_16, .ref q_23, .ref q_34, .ref q_45, .ref q_56, .int (zI (-1)), .int (zI 0)])), (q_7, .inl (E.2.2.2.2, 21, .inr (.inr (.inr (.inr pr))))), (q_16, .inl (E.2.2.2.2, 33, .inr (.inr (.inr (.inr (fun _ => none)))))), (q_23, .inr (3, [.ref a_27, .ref c_27])), cP a_27 b_27 (hi zr), aP E b_27 zr, cP c_27 d_27 (hi zr), aP E d_27 zr, cP q_34 p_38 (hi zr), aP E p_38 zr, cP q_45 p_49 (hi zr), aP E p_49 zr]) C_o (c_X4_setNumber E l q_56 p_60 zr 0 1 Sm_zr (by omega)) gX1_init_X4_setNumber rfl (by decide +kernel) rfl (by decide) dX1_init_112 rfl (Nat.le_of_ble_eq_true rfl) rfl rfl [12, 13] [0, 1, 2, 3, 4, 5, 6, 7, 8, 9, 10, 11] rfl rfl (by decide) (fun w_112 h_112 => ?_)
        obtain rfl := h_112
        refine g_eq (ws' := [(h, .inr (1, [.ref q_7, .ref q_16, .ref q_23, .ref q_34, .ref q_45, .ref q_56, .int (zI (-1)), .int (zI 0)])), (q_7, .inl (E.2.2.2.2, 21, .inr (.inr (.inr (.inr pr))))), (q_16, .inl (E.2.2.2.2, 33, .inr (.inr (.inr (.inr (fun _ => none)))))), (q_23, .inr (3, [.ref a_27, .ref c_27])), cP a_27 b_27 (hi zr), aP E b_27 zr, cP c_27 d_27 (hi zr), aP E d_27 zr, cP q_34 p_38 (hi zr), aP E p_38 zr, cP q_45 p_49 (hi zr), aP E p_49 zr, cP q_56 p_60 (hi (cset zr 0 1)), aP E p_60 (cset zr 0 1)]) rfl rfl rfl ?_
        refine g_aload_n C_o dX1_init_115 1 rfl ?_
        refine g_get C_o 0 rfl rfl 5 (by decide) in_X1_init_X1 lk_X1_init_placeAfter rfl dX1_init_116 ?_
        refine g_iconst C_o dX1_init_119 ?_
        refine g_iconst C_o dX1_init_120 ?_
        refine g_callV (n := 2) (wr := [(h, .inr (1, [.ref q_7, .ref q_16, .ref q_23, .ref q_34, .ref q_45, .ref q_56, .int (zI (-1)), .int (zI 0)])), (q_7, .inl (E.2.2.2.2, 21, .inr (.inr (.inr (.inr pr))))), (q_16, .inl (E.2.2.2.2, 33, .inr (.inr (.inr (.inr (fun _ => none)))))), (q_23, .inr (3, [.ref a_27, .ref c_27])), cP a_27 b_27 (hi zr), aP E b_27 zr, cP c_27 d_27 (hi zr), aP E d_27 zr, cP q_34 p_38 (hi zr), aP E p_38 zr, cP q_45 p_49 (hi zr), aP E p_49 zr]) C_o (c_X4_setNumber E l q_56 p_60 (cset zr 0 1) 1 1 (Sm_set Sm_zr (by omega) 1) (by omega)) gX1_init_X4_setNumber rfl (by decide +kernel) rfl (by decide) dX1_init_121 rfl (Nat.le_of_ble_eq_true rfl) rfl rfl [12, 13] [0, 1, 2, 3, 4, 5, 6, 7, 8, 9, 10, 11] rfl rfl (by decide) (fun w_121 h_121 => ?_)
        obtain rfl := h_121
        refine g_eq (ws' := [(h, .inr (1, [.ref q_7, .ref q_16, .ref q_23, .ref q_34, .ref q_45, .ref q_56, .int (zI (-1)), .int (zI 0)])), (q_7, .inl (E.2.2.2.2, 21, .inr (.inr (.inr (.inr pr))))), (q_16, .inl (E.2.2.2.2, 33, .inr (.inr (.inr (.inr (fun _ => none)))))), (q_23, .inr (3, [.ref a_27, .ref c_27])), cP a_27 b_27 (hi zr), aP E b_27 zr, cP c_27 d_27 (hi zr), aP E d_27 zr, cP q_34 p_38 (hi zr), aP E p_38 zr, cP q_45 p_49 (hi zr), aP E p_49 zr, cP q_56 p_60 (hi pA), aP E p_60 pA]) rfl rfl rfl ?_
        refine back_o _ _ _ _ _ _ ?_
        exact hret _ _ _ _ _ dX1_init_124 (by decide) (by decide) ⟨q_7, q_16, q_23, q_34, p_38, q_45, p_49, q_56, p_60, a_27, b_27, c_27, d_27, F, pr, hpr, rfl⟩
      · refine g_aload_n C_o dX1_init_87 1 rfl ?_
        refine g_get C_o 0 rfl rfl 0 (by decide) in_X1_init_X1 lk_X1_init_pairs rfl dX1_init_88 ?_
        refine g_iload_n C_o dX1_init_91 0 rfl ?_
        refine g_new (ci := 3) C_o [.null, .null] tyX3 tyX3_ok rfl in_X1_init_X3 nw_X1_init_X3 (by decide +kernel) ⟨show 13 + 5 * k + 1 ≤ 118 by omega, show 231 + 72 * k + 2 ≤ 1743 by omega⟩ dX1_init_92 (fun q_92 => ?_)
        refine g_eq (ws' := [(h, .inr (1, [.ref q_7, .ref q_16, .ref q_23, .ref q_34, .ref q_45, .ref q_56, .int (zI (-1)), .int (zI 0)])), (q_7, .inl (E.2.2.2.2, 21, .inr (.inr (.inr (.inr pr))))), (q_16, .inl (E.2.2.2.2, 33, .inr (.inr (.inr (.inr (fun _ => none)))))), (q_23, .inr (3, [.ref a_27, .ref c_27])), cP a_27 b_27 (hi zr), aP E b_27 zr, cP c_27 d_27 (hi zr), aP E d_27 zr, cP q_34 p_38 (hi zr), aP E p_38 zr, cP q_45 p_49 (hi zr), aP E p_49 zr, cP q_56 p_60 (hi zr), aP E p_60 zr, (q_92, .inr (3, [.null, .null]))]) rfl rfl rfl ?_
        refine g_dup C_o dX1_init_95 rfl ?_
        refine g_callI (n := 0) (wr := [(h, .inr (1, [.ref q_7, .ref q_16, .ref q_23, .ref q_34, .ref q_45, .ref q_56, .int (zI (-1)), .int (zI 0)])), (q_7, .inl (E.2.2.2.2, 21, .inr (.inr (.inr (.inr pr))))), (q_16, .inl (E.2.2.2.2, 33, .inr (.inr (.inr (.inr (fun _ => none)))))), (q_23, .inr (3, [.ref a_27, .ref c_27])), cP a_27 b_27 (hi zr), aP E b_27 zr, cP c_27 d_27 (hi zr), aP E d_27 zr, cP q_34 p_38 (hi zr), aP E p_38 zr, cP q_45 p_49 (hi zr), aP E p_49 zr, cP q_56 p_60 (hi zr), aP E p_60 zr]) C_o (c_X3_init E l q_92) (Or.inl (by decide +kernel)) gX1_init_X3_init_n22 (by decide +kernel) rfl (by decide +kernel) rfl ⟨⟨rfl, rfl⟩, by decide, ⟨show (13 + 5 * k + 1) + 4 ≤ 118 by omega, show (231 + 72 * k + 2) + 70 ≤ 1743 by omega⟩⟩ dX1_init_96 rfl (Nat.le_of_ble_eq_true rfl) [14] [0, 1, 2, 3, 4, 5, 6, 7, 8, 9, 10, 11, 12, 13] rfl rfl (by decide) (fun w_96 h_96 => ?_)
        obtain ⟨a_96, b_96, c_96, d_96, rfl⟩ := h_96
        refine g_eq (ws' := [(h, .inr (1, [.ref q_7, .ref q_16, .ref q_23, .ref q_34, .ref q_45, .ref q_56, .int (zI (-1)), .int (zI 0)])), (q_7, .inl (E.2.2.2.2, 21, .inr (.inr (.inr (.inr pr))))), (q_16, .inl (E.2.2.2.2, 33, .inr (.inr (.inr (.inr (fun _ => none)))))), (q_23, .inr (3, [.ref a_27, .ref c_27])), cP a_27 b_27 (hi zr), aP E b_27 zr, cP c_27 d_27 (hi zr), aP E d_27 zr, cP q_34 p_38 (hi zr), aP E p_38 zr, cP q_45 p_49 (hi zr), aP E p_49 zr, cP q_56 p_60 (hi zr), aP E p_60 zr, (q_92, .inr (3, [.ref a_96, .ref c_96])), cP a_96 b_96 (hi zr), aP E b_96 zr, cP c_96 d_96 (hi zr), aP E d_96 zr]) rfl rfl rfl ?_
        refine g_aast C_o [(h, .inr (1, [.ref q_7, .ref q_16, .ref q_23, .ref q_34, .ref q_45, .ref q_56, .int (zI (-1)), .int (zI 0)])), (q_7, .inl (E.2.2.2.2, 21, .inr (.inr (.inr (.inr (cset pr k (some q_92))))))), (q_16, .inl (E.2.2.2.2, 33, .inr (.inr (.inr (.inr (fun _ => none)))))), (q_23, .inr (3, [.ref a_27, .ref c_27])), cP a_27 b_27 (hi zr), aP E b_27 zr, cP c_27 d_27 (hi zr), aP E d_27 zr, cP q_34 p_38 (hi zr), aP E p_38 zr, cP q_45 p_49 (hi zr), aP E p_49 zr, cP q_56 p_60 (hi zr), aP E p_60 zr, (q_92, .inr (3, [.ref a_96, .ref c_96])), cP a_96 b_96 (hi zr), aP E b_96 zr, cP c_96 d_96 (hi zr), aP E d_96 zr] 1 14 k rfl rfl (by omega) (by omega) (by decide) dX1_init_99 rfl ?_
        refine g_iinc C_o [(1, .int (zI (x9 + 1))), (0, .ref h)] dX1_init_100 0 rfl (by decide) rfl ?_
        refine g_goto C_o 78 dX1_init_103 (by decide) ?_
        refine g_lsub C_o [0, 1] rfl ?_
        refine g_eq (ws' := [(h, .inr (1, [.ref q_7, .ref q_16, .ref q_23, .ref q_34, .ref q_45, .ref q_56, .int (zI (-1)), .int (zI 0)])), (q_7, .inl (E.2.2.2.2, 21, .inr (.inr (.inr (.inr (cset pr k (some q_92))))))), (q_16, .inl (E.2.2.2.2, 33, .inr (.inr (.inr (.inr (fun _ => none)))))), (q_23, .inr (3, [.ref a_27, .ref c_27])), cP a_27 b_27 (hi zr), aP E b_27 zr, cP c_27 d_27 (hi zr), aP E d_27 zr, cP q_34 p_38 (hi zr), aP E p_38 zr, cP q_45 p_49 (hi zr), aP E p_49 zr, cP q_56 p_60 (hi zr), aP E p_60 zr] ++ [(q_92, .inr (3, [.ref a_96, .ref c_96])), cP a_96 b_96 (hi zr), aP E b_96 zr, cP c_96 d_96 (hi zr), aP E d_96 zr]) rfl rfl rfl ?_
        refine back_o _ _ _ _ _ _ ?_
        refine g_perm C (fam_add (o := fun _ => zr) (i := fun _ => zr)) ?_
        exact g_cs (by omega) (by omega) (ih_o (x9 + 1) (k + 1) (cset F k (q_92, a_96, b_96, c_96, d_96)) (cset pr k (some q_92)) (by omega) (by omega) (fun j hj => by unfold cset; split; rfl; exact hpr j (by omega)) (by omega))
  refine g_eq (ws' := [(h, .inr (1, [.ref q_7, .ref q_16, .ref q_23, .ref q_34, .ref q_45, .ref q_56, .int (zI (-1)), .int (zI 0)])), (q_7, .inl (E.2.2.2.2, 21, .inr (.inr (.inr (.inr (fun _ => none)))))), (q_16, .inl (E.2.2.2.2, 33, .inr (.inr (.inr (.inr (fun _ => none)))))), (q_23, .inr (3, [.ref a_27, .ref c_27])), cP a_27 b_27 (hi zr), aP E b_27 zr, cP c_27 d_27 (hi zr), aP E d_27 zr, cP q_34 p_38 (hi zr), aP E p_38 zr, cP q_45 p_49 (hi zr), aP E p_49 zr, cP q_56 p_60 (hi zr), aP E p_60 zr] ++ fam E (fun _ => (0, 0, 0, 0, 0)) (fun _ => zr) (fun _ => zr) (List.range 0)) rfl rfl rfl ?_
  exact lp_o 22 0 0 (fun _ => (0, 0, 0, 0, 0)) (fun _ => none) rfl (by omega) (fun j hj => absurd hj (by omega)) (by omega)
