theorem in_X6_init_X6 : ∀ w ∈ u_ws RX6 TX6 6, w ∈ wsX6_init := by decide +kernel
theorem in_X6_init_X4 : ∀ w ∈ u_ws RX4 TX4 2, w ∈ wsX6_init := by decide +kernel
theorem lk_X6_init_top : Cond.fieldLink yX6_init.cls 12 (TX6 0).1 (TX6 0).2.1 (TX6 0).2.2.1 ∈ wsX6_init := by decide +kernel
theorem lk_X6_init_bottom : Cond.fieldLink yX6_init.cls 18 (TX6 1).1 (TX6 1).2.1 (TX6 1).2.2.1 ∈ wsX6_init := by decide +kernel
theorem lk_X6_init_extra : Cond.fieldLink yX6_init.cls 21 (TX6 2).1 (TX6 2).2.1 (TX6 2).2.2.1 ∈ wsX6_init := by decide +kernel
theorem lk_X6_init_moved : Cond.fieldLink yX6_init.cls 24 (TX6 3).1 (TX6 3).2.1 (TX6 3).2.2.1 ∈ wsX6_init := by decide +kernel
theorem lk_X6_init_commonDegrees : Cond.fieldLink yX6_init.cls 27 (TX6 4).1 (TX6 4).2.1 (TX6 4).2.2.1 ∈ wsX6_init := by decide +kernel
theorem lk_X6_init_known : Cond.fieldLink yX6_init.cls 31 (TX6 5).1 (TX6 5).2.1 (TX6 5).2.2.1 ∈ wsX6_init := by decide +kernel
theorem nw_X6_init_X4 : Cond.classLink yX6_init.cls 9 RX4 ∈ wsX6_init ∧ Cond.instantiable RX4 2 ∈ wsX6_init ∧ Cond.initialized RX4 ∈ wsX6_init := by decide +kernel
set_option maxHeartbeats 4000000 in
set_option maxRecDepth 100000 in
theorem c_X6_init (E : ev) (l : Launch) (h : Nat) : Mv E l yX6_init wsX6_init { frames := 2, cells := 9, slots := 149, locals := 60 } [.ref h] [(h, .inr (6, [.null, .null, .null, .null, .null, .int (zI 0)]))] (fun w => ∃ t qt b qb e qe m qm dg : Nat, w = [(h, .inr (6, [.ref t, .ref b, .ref e, .ref m, .ref dg, .int (zI 0)])), cP t qt (hi zr), aP E qt zr, cP b qb (hi zr), aP E qb zr, cP e qe (hi zr), aP E qe zr, cP m qm (hi zr), aP E qm zr, (dg, .inl (E.2.2.1, 9, .inl (iv (fun _ => 0))))]) 9 149 := by
  refine enter_v (cc := cX6_init) (nL := 1) (by decide) rfl (Nat.le_of_ble_eq_true rfl) (fun G C hret => ?_)
  show G 0 0 [(h, .inr (6, [.null, .null, .null, .null, .null, .int (zI 0)]))] [(0, .ref h)] 0 []
  refine g_aload_n C dX6_init_0 0 rfl ?_
  refine g_objInit C (by decide +kernel) (List.mem_cons_of_mem _ (List.mem_of_getElem? (i := 2) rfl)) dX6_init_1 (by decide) (Nat.le_of_ble_eq_true rfl) ?_
  refine g_aload_n C dX6_init_4 0 rfl ?_
  refine g_new (ci := 4) C [.null, .int (zI 0)] tyX4 tyX4_ok rfl in_X6_init_X4 nw_X6_init_X4 (by decide +kernel) (by decide) dX6_init_5 (fun q_5 => ?_)
  refine g_eq (ws' := [(h, .inr (6, [.null, .null, .null, .null, .null, .int (zI 0)])), (q_5, .inr (4, [.null, .int (zI 0)]))]) rfl rfl rfl ?_
  refine g_dup C dX6_init_8 rfl ?_
  refine g_callI (n := 0) (wr := [(h, .inr (6, [.null, .null, .null, .null, .null, .int (zI 0)]))]) C (c_X4_init E l q_5) (Or.inl (by decide +kernel)) gX6_init_X4_init_n11 (by decide +kernel) rfl (by decide +kernel) rfl (by decide) dX6_init_9 rfl (Nat.le_of_ble_eq_true rfl) [1] [0] rfl rfl (by decide) (fun w_9 h_9 => ?_)
  obtain ⟨p_9, rfl⟩ := h_9
  refine g_eq (ws' := [(h, .inr (6, [.null, .null, .null, .null, .null, .int (zI 0)])), cP q_5 p_9 (hi zr), aP E p_9 zr]) rfl rfl rfl ?_
  refine g_putF C [(h, .inr (6, [.ref q_5, .null, .null, .null, .null, .int (zI 0)])), cP q_5 p_9 (hi zr), aP E p_9 zr] tyX6 tyX6_ok nmX6 0 rfl rfl 0 (by decide) in_X6_init_X6 lk_X6_init_top rfl rfl rfl rfl (Nat.le_of_ble_eq_true rfl) dX6_init_12 rfl rfl ?_
  refine g_aload_n C dX6_init_15 0 rfl ?_
  refine g_new (ci := 4) C [.null, .int (zI 0)] tyX4 tyX4_ok rfl in_X6_init_X4 nw_X6_init_X4 (by decide +kernel) (by decide) dX6_init_16 (fun q_16 => ?_)
  refine g_eq (ws' := [(h, .inr (6, [.ref q_5, .null, .null, .null, .null, .int (zI 0)])), cP q_5 p_9 (hi zr), aP E p_9 zr, (q_16, .inr (4, [.null, .int (zI 0)]))]) rfl rfl rfl ?_
  refine g_dup C dX6_init_19 rfl ?_
  refine g_callI (n := 0) (wr := [(h, .inr (6, [.ref q_5, .null, .null, .null, .null, .int (zI 0)])), cP q_5 p_9 (hi zr), aP E p_9 zr]) C (c_X4_init E l q_16) (Or.inl (by decide +kernel)) gX6_init_X4_init_n11 (by decide +kernel) rfl (by decide +kernel) rfl (by decide) dX6_init_20 rfl (Nat.le_of_ble_eq_true rfl) [3] [0, 1, 2] rfl rfl (by decide) (fun w_20 h_20 => ?_)
  obtain ⟨p_20, rfl⟩ := h_20
  refine g_eq (ws' := [(h, .inr (6, [.ref q_5, .null, .null, .null, .null, .int (zI 0)])), cP q_5 p_9 (hi zr), aP E p_9 zr, cP q_16 p_20 (hi zr), aP E p_20 zr]) rfl rfl rfl ?_
  refine g_putF C [(h, .inr (6, [.ref q_5, .ref q_16, .null, .null, .null, .int (zI 0)])), cP q_5 p_9 (hi zr), aP E p_9 zr, cP q_16 p_20 (hi zr), aP E p_20 zr] tyX6 tyX6_ok nmX6 0 rfl rfl 1 (by decide) in_X6_init_X6 lk_X6_init_bottom rfl rfl rfl rfl (Nat.le_of_ble_eq_true rfl) dX6_init_23 rfl rfl ?_
  refine g_aload_n C dX6_init_26 0 rfl ?_
  refine g_new (ci := 4) C [.null, .int (zI 0)] tyX4 tyX4_ok rfl in_X6_init_X4 nw_X6_init_X4 (by decide +kernel) (by decide) dX6_init_27 (fun q_27 => ?_)
  refine g_eq (ws' := [(h, .inr (6, [.ref q_5, .ref q_16, .null, .null, .null, .int (zI 0)])), cP q_5 p_9 (hi zr), aP E p_9 zr, cP q_16 p_20 (hi zr), aP E p_20 zr, (q_27, .inr (4, [.null, .int (zI 0)]))]) rfl rfl rfl ?_
  refine g_dup C dX6_init_30 rfl ?_
  refine g_callI (n := 0) (wr := [(h, .inr (6, [.ref q_5, .ref q_16, .null, .null, .null, .int (zI 0)])), cP q_5 p_9 (hi zr), aP E p_9 zr, cP q_16 p_20 (hi zr), aP E p_20 zr]) C (c_X4_init E l q_27) (Or.inl (by decide +kernel)) gX6_init_X4_init_n11 (by decide +kernel) rfl (by decide +kernel) rfl (by decide) dX6_init_31 rfl (Nat.le_of_ble_eq_true rfl) [5] [0, 1, 2, 3, 4] rfl rfl (by decide) (fun w_31 h_31 => ?_)
  obtain ⟨p_31, rfl⟩ := h_31
  refine g_eq (ws' := [(h, .inr (6, [.ref q_5, .ref q_16, .null, .null, .null, .int (zI 0)])), cP q_5 p_9 (hi zr), aP E p_9 zr, cP q_16 p_20 (hi zr), aP E p_20 zr, cP q_27 p_31 (hi zr), aP E p_31 zr]) rfl rfl rfl ?_
  refine g_putF C [(h, .inr (6, [.ref q_5, .ref q_16, .ref q_27, .null, .null, .int (zI 0)])), cP q_5 p_9 (hi zr), aP E p_9 zr, cP q_16 p_20 (hi zr), aP E p_20 zr, cP q_27 p_31 (hi zr), aP E p_31 zr] tyX6 tyX6_ok nmX6 0 rfl rfl 2 (by decide) in_X6_init_X6 lk_X6_init_extra rfl rfl rfl rfl (Nat.le_of_ble_eq_true rfl) dX6_init_34 rfl rfl ?_
  refine g_aload_n C dX6_init_37 0 rfl ?_
  refine g_new (ci := 4) C [.null, .int (zI 0)] tyX4 tyX4_ok rfl in_X6_init_X4 nw_X6_init_X4 (by decide +kernel) (by decide) dX6_init_38 (fun q_38 => ?_)
  refine g_eq (ws' := [(h, .inr (6, [.ref q_5, .ref q_16, .ref q_27, .null, .null, .int (zI 0)])), cP q_5 p_9 (hi zr), aP E p_9 zr, cP q_16 p_20 (hi zr), aP E p_20 zr, cP q_27 p_31 (hi zr), aP E p_31 zr, (q_38, .inr (4, [.null, .int (zI 0)]))]) rfl rfl rfl ?_
  refine g_dup C dX6_init_41 rfl ?_
  refine g_callI (n := 0) (wr := [(h, .inr (6, [.ref q_5, .ref q_16, .ref q_27, .null, .null, .int (zI 0)])), cP q_5 p_9 (hi zr), aP E p_9 zr, cP q_16 p_20 (hi zr), aP E p_20 zr, cP q_27 p_31 (hi zr), aP E p_31 zr]) C (c_X4_init E l q_38) (Or.inl (by decide +kernel)) gX6_init_X4_init_n11 (by decide +kernel) rfl (by decide +kernel) rfl (by decide) dX6_init_42 rfl (Nat.le_of_ble_eq_true rfl) [7] [0, 1, 2, 3, 4, 5, 6] rfl rfl (by decide) (fun w_42 h_42 => ?_)
  obtain ⟨p_42, rfl⟩ := h_42
  refine g_eq (ws' := [(h, .inr (6, [.ref q_5, .ref q_16, .ref q_27, .null, .null, .int (zI 0)])), cP q_5 p_9 (hi zr), aP E p_9 zr, cP q_16 p_20 (hi zr), aP E p_20 zr, cP q_27 p_31 (hi zr), aP E p_31 zr, cP q_38 p_42 (hi zr), aP E p_42 zr]) rfl rfl rfl ?_
  refine g_putF C [(h, .inr (6, [.ref q_5, .ref q_16, .ref q_27, .ref q_38, .null, .int (zI 0)])), cP q_5 p_9 (hi zr), aP E p_9 zr, cP q_16 p_20 (hi zr), aP E p_20 zr, cP q_27 p_31 (hi zr), aP E p_31 zr, cP q_38 p_42 (hi zr), aP E p_42 zr] tyX6 tyX6_ok nmX6 0 rfl rfl 3 (by decide) in_X6_init_X6 lk_X6_init_moved rfl rfl rfl rfl (Nat.le_of_ble_eq_true rfl) dX6_init_45 rfl rfl ?_
  refine g_aload_n C dX6_init_48 0 rfl ?_
  refine g_bipush C dX6_init_49 rfl ?_
  refine g_newaI C 9 (iv (fun _ => 0)) rfl (by decide +kernel) rfl (by decide) (by decide) dX6_init_51 (fun q_51 => ?_)
  refine g_eq (ws' := [(h, .inr (6, [.ref q_5, .ref q_16, .ref q_27, .ref q_38, .null, .int (zI 0)])), cP q_5 p_9 (hi zr), aP E p_9 zr, cP q_16 p_20 (hi zr), aP E p_20 zr, cP q_27 p_31 (hi zr), aP E p_31 zr, cP q_38 p_42 (hi zr), aP E p_42 zr, (q_51, .inl (E.2.2.1, 9, .inl (iv (fun _ => 0))))]) rfl rfl rfl ?_
  refine g_putF C [(h, .inr (6, [.ref q_5, .ref q_16, .ref q_27, .ref q_38, .ref q_51, .int (zI 0)])), cP q_5 p_9 (hi zr), aP E p_9 zr, cP q_16 p_20 (hi zr), aP E p_20 zr, cP q_27 p_31 (hi zr), aP E p_31 zr, cP q_38 p_42 (hi zr), aP E p_42 zr, (q_51, .inl (E.2.2.1, 9, .inl (iv (fun _ => 0))))] tyX6 tyX6_ok nmX6 0 rfl rfl 4 (by decide) in_X6_init_X6 lk_X6_init_commonDegrees rfl rfl rfl rfl (Nat.le_of_ble_eq_true rfl) dX6_init_53 rfl rfl ?_
  refine g_aload_n C dX6_init_56 0 rfl ?_
  refine g_iconst C dX6_init_57 ?_
  refine g_put C [(h, .inr (6, [.ref q_5, .ref q_16, .ref q_27, .ref q_38, .ref q_51, .int (zI 0)])), cP q_5 p_9 (hi zr), aP E p_9 zr, cP q_16 p_20 (hi zr), aP E p_20 zr, cP q_27 p_31 (hi zr), aP E p_31 zr, cP q_38 p_42 (hi zr), aP E p_42 zr, (q_51, .inl (E.2.2.1, 9, .inl (iv (fun _ => 0))))] tyX6 tyX6_ok nmX6 0 rfl rfl 5 (by decide) in_X6_init_X6 lk_X6_init_known rfl rfl rfl (Nat.le_of_ble_eq_true rfl) dX6_init_58 rfl ?_
  exact hret _ _ _ _ _ dX6_init_61 (by decide) (by decide) ⟨q_5, p_9, q_16, p_20, q_27, p_31, q_38, p_42, q_51, rfl⟩
theorem in_X6_forget_X6 : ∀ w ∈ u_ws RX6 TX6 6, w ∈ wsX6_forget := by decide +kernel
theorem lk_X6_forget_known : Cond.fieldLink yX6_forget.cls 31 (TX6 5).1 (TX6 5).2.1 (TX6 5).2.2.1 ∈ wsX6_forget := by decide +kernel
set_option maxHeartbeats 4000000 in
set_option maxRecDepth 100000 in
theorem c_X6_forget (E : ev) (l : Launch) (hp t b e m dg : Nat) (k : Int) : Mv E l yX6_forget wsX6_forget { frames := 0, cells := 0, slots := 0, locals := 0 } [.ref hp] [(hp, .inr (6, [.ref t, .ref b, .ref e, .ref m, .ref dg, .int (zI k)]))] (fun w => w = [(hp, .inr (6, [.ref t, .ref b, .ref e, .ref m, .ref dg, .int (zI 0)]))]) 0 0 := by
  refine enter_v (cc := cX6_forget) (nL := 1) (by decide) rfl (Nat.le_of_ble_eq_true rfl) (fun G C hret => ?_)
  show G 0 0 [(hp, .inr (6, [.ref t, .ref b, .ref e, .ref m, .ref dg, .int (zI k)]))] [(0, .ref hp)] 0 []
  refine g_aload_n C dX6_forget_0 0 rfl ?_
  refine g_iconst C dX6_forget_1 ?_
  refine g_put C [(hp, .inr (6, [.ref t, .ref b, .ref e, .ref m, .ref dg, .int (zI 0)]))] tyX6 tyX6_ok nmX6 0 rfl rfl 5 (by decide) in_X6_forget_X6 lk_X6_forget_known rfl rfl rfl (Nat.le_of_ble_eq_true rfl) dX6_forget_2 rfl ?_
  exact hret _ _ _ _ _ dX6_forget_5 (by decide) (by decide) rfl
theorem in_X6_commonDegree_X6 : ∀ w ∈ u_ws RX6 TX6 6, w ∈ wsX6_commonDegree := by decide +kernel
theorem lk_X6_commonDegree_commonDegrees : Cond.fieldLink yX6_commonDegree.cls 27 (TX6 4).1 (TX6 4).2.1 (TX6 4).2.2.1 ∈ wsX6_commonDegree := by decide +kernel
set_option maxHeartbeats 4000000 in
set_option maxRecDepth 100000 in
theorem c_X6_commonDegree (E : ev) (l : Launch) (hp t b e m dg : Nat) (k : Int) (d : Nat → Int) (n : Nat) (hn : n < 9) : Mi E l yX6_commonDegree wsX6_commonDegree { frames := 0, cells := 0, slots := 0, locals := 0 } [.ref hp, .int (zI (n : Int))] [(hp, .inr (6, [.ref t, .ref b, .ref e, .ref m, .ref dg, .int (zI k)])), (dg, .inl (E.2.2.1, 9, .inl (iv d)))] (fun r w => r = zI (d n) ∧ w = [(hp, .inr (6, [.ref t, .ref b, .ref e, .ref m, .ref dg, .int (zI k)])), (dg, .inl (E.2.2.1, 9, .inl (iv d)))]) 0 0 := by
  refine enter_i (cc := cX6_commonDegree) (nL := 2) (by decide) rfl (Nat.le_of_ble_eq_true rfl) (fun G C hret => ?_)
  show G 0 0 [(hp, .inr (6, [.ref t, .ref b, .ref e, .ref m, .ref dg, .int (zI k)])), (dg, .inl (E.2.2.1, 9, .inl (iv d)))] [(0, .ref hp), (1, .int (zI (n : Int)))] 0 []
  refine g_iload_n C dX6_commonDegree_0 1 rfl ?_
  refine g_if_lt C 13 dX6_commonDegree_1 (by decide) (by omega) (by omega) (fun c_1 => by exfalso; omega) (fun c_1 => ?_)
  refine g_iload_n C dX6_commonDegree_4 1 rfl ?_
  refine g_aload_n C dX6_commonDegree_5 0 rfl ?_
  refine g_get C 0 rfl rfl 4 (by decide) in_X6_commonDegree_X6 lk_X6_commonDegree_commonDegrees rfl dX6_commonDegree_6 ?_
  refine g_alen C 1 rfl dX6_commonDegree_9 ?_
  refine g_icmp_lt C 17 dX6_commonDegree_10 (by decide) (by omega) (by omega) (by omega) (by omega) (fun c_10 => ?_) (fun c_10 => by exfalso; omega)
  refine g_aload_n C dX6_commonDegree_17 0 rfl ?_
  refine g_get C 0 rfl rfl 4 (by decide) in_X6_commonDegree_X6 lk_X6_commonDegree_commonDegrees rfl dX6_commonDegree_18 ?_
  refine g_iload_n C dX6_commonDegree_21 1 rfl ?_
  refine g_ialdZ C 1 n rfl (by omega) (by omega) (by decide) dX6_commonDegree_22 ?_
  exact hret _ _ _ _ _ _ dX6_commonDegree_23 (by decide) (by decide) ⟨rfl, rfl⟩
theorem in_X6_part_X6 : ∀ w ∈ u_ws RX6 TX6 6, w ∈ wsX6_part := by decide +kernel
theorem lk_X6_part_top : Cond.fieldLink yX6_part.cls 12 (TX6 0).1 (TX6 0).2.1 (TX6 0).2.2.1 ∈ wsX6_part := by decide +kernel
theorem lk_X6_part_bottom : Cond.fieldLink yX6_part.cls 18 (TX6 1).1 (TX6 1).2.1 (TX6 1).2.2.1 ∈ wsX6_part := by decide +kernel
theorem lk_X6_part_extra : Cond.fieldLink yX6_part.cls 21 (TX6 2).1 (TX6 2).2.1 (TX6 2).2.2.1 ∈ wsX6_part := by decide +kernel
set_option maxHeartbeats 4000000 in
set_option maxRecDepth 100000 in
theorem c_X6_part (E : ev) (l : Launch) (hp t b e m dg : Nat) (k : Int) (p : Int) (p1 : 0 ≤ p) (p2 : p ≤ 2) : Mr E l yX6_part wsX6_part { frames := 0, cells := 0, slots := 0, locals := 0 } [.ref hp, .int (zI p)] [(hp, .inr (6, [.ref t, .ref b, .ref e, .ref m, .ref dg, .int (zI k)]))] (fun r w => r = (if p = 0 then t else if p = 1 then b else e) ∧ w = [(hp, .inr (6, [.ref t, .ref b, .ref e, .ref m, .ref dg, .int (zI k)]))]) 0 0 := by
  refine enter_r (cc := cX6_part) (nL := 2) (by decide) rfl (Nat.le_of_ble_eq_true rfl) (fun G C hret => ?_)
  show G 0 0 [(hp, .inr (6, [.ref t, .ref b, .ref e, .ref m, .ref dg, .int (zI k)]))] [(0, .ref hp), (1, .int (zI p))] 0 []
  refine g_iload_n C dX6_part_0 1 rfl ?_
  refine g_if_ne C 9 dX6_part_1 (by decide) (by omega) (by omega) (fun c_1 => ?_) (fun c_1 => ?_)
  · refine g_iload_n C dX6_part_9 1 rfl ?_
    refine g_iconst C dX6_part_10 ?_
    refine g_icmp_ne C 21 dX6_part_11 (by decide) (by omega) (by omega) (by omega) (by omega) (fun c_11 => ?_) (fun c_11 => ?_)
    · refine g_aload_n C dX6_part_21 0 rfl ?_
      refine g_get C 0 rfl rfl 2 (by decide) in_X6_part_X6 lk_X6_part_extra rfl dX6_part_22 ?_
      exact hret _ _ _ _ _ _ dX6_part_25 (by decide) (by decide) ⟨by first | rw [if_pos c_1] | rw [if_neg c_1, if_pos c_11] | rw [if_neg c_1, if_neg c_11], rfl⟩
    · refine g_aload_n C dX6_part_14 0 rfl ?_
      refine g_get C 0 rfl rfl 1 (by decide) in_X6_part_X6 lk_X6_part_bottom rfl dX6_part_15 ?_
      refine g_goto C 25 dX6_part_18 (by decide) ?_
      exact hret _ _ _ _ _ _ dX6_part_25 (by decide) (by decide) ⟨by first | rw [if_pos c_1] | rw [if_neg c_1, if_pos c_11] | rw [if_neg c_1, if_neg c_11], rfl⟩
  · refine g_aload_n C dX6_part_4 0 rfl ?_
    refine g_get C 0 rfl rfl 0 (by decide) in_X6_part_X6 lk_X6_part_top rfl dX6_part_5 ?_
    exact hret _ _ _ _ _ _ dX6_part_8 (by decide) (by decide) ⟨by first | rw [if_pos c_1] | rw [if_neg c_1, if_pos c_11] | rw [if_neg c_1, if_neg c_11], rfl⟩
