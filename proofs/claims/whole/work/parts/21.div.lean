theorem in_X0_init_X4 : ∀ w ∈ u_ws RX4 TX4 2, w ∈ wsX0_init := by decide +kernel
theorem in_X0_init_X0 : ∀ w ∈ u_ws RX0 TX0 4, w ∈ wsX0_init := by decide +kernel
theorem lk_X0_init_first : Cond.fieldLink yX0_init.cls 10 (TX0 0).1 (TX0 0).2.1 (TX0 0).2.2.1 ∈ wsX0_init := by decide +kernel
theorem lk_X0_init_second : Cond.fieldLink yX0_init.cls 16 (TX0 1).1 (TX0 1).2.1 (TX0 1).2.2.1 ∈ wsX0_init := by decide +kernel
theorem lk_X0_init_quotient : Cond.fieldLink yX0_init.cls 19 (TX0 2).1 (TX0 2).2.1 (TX0 2).2.2.1 ∈ wsX0_init := by decide +kernel
theorem lk_X0_init_common : Cond.fieldLink yX0_init.cls 22 (TX0 3).1 (TX0 3).2.1 (TX0 3).2.2.1 ∈ wsX0_init := by decide +kernel
theorem nw_X0_init_X4 : Cond.classLink yX0_init.cls 7 RX4 ∈ wsX0_init ∧ Cond.instantiable RX4 2 ∈ wsX0_init ∧ Cond.initialized RX4 ∈ wsX0_init := by decide +kernel
set_option maxHeartbeats 4000000 in
set_option maxRecDepth 100000 in
theorem c_X0_init (E : ev) (l : Launch) (h : Nat) : Mv E l yX0_init wsX0_init { frames := 2, cells := 8, slots := 140, locals := 60 } [.ref h] [(h, .inr (0, [.null, .null, .null, .null]))] (fun w => ∃ f1 q1 f2 q2 f3 q3 f4 q4 : Nat, w = [(h, .inr (0, [.ref f1, .ref f2, .ref f3, .ref f4])), cP f1 q1 (hi zr), aP E q1 zr, cP f2 q2 (hi zr), aP E q2 zr, cP f3 q3 (hi zr), aP E q3 zr, cP f4 q4 (hi zr), aP E q4 zr]) 8 140 := by
  refine enter_v (cc := cX0_init) (nL := 1) (by decide) rfl (Nat.le_of_ble_eq_true rfl) (fun G C hret => ?_)
  show G 0 0 [(h, .inr (0, [.null, .null, .null, .null]))] [(0, .ref h)] 0 []
  refine g_aload_n C dX0_init_0 0 rfl ?_
  refine g_objInit C (by decide +kernel) (List.mem_cons_of_mem _ (List.mem_of_getElem? (i := 2) rfl)) dX0_init_1 (by decide) (Nat.le_of_ble_eq_true rfl) ?_
  refine g_aload_n C dX0_init_4 0 rfl ?_
  refine g_new (ci := 4) C [.null, .int (zI 0)] tyX4 tyX4_ok rfl in_X0_init_X4 nw_X0_init_X4 (by decide +kernel) (by decide) dX0_init_5 (fun q_5 => ?_)
  refine g_eq (ws' := [(h, .inr (0, [.null, .null, .null, .null])), (q_5, .inr (4, [.null, .int (zI 0)]))]) rfl rfl rfl ?_
  refine g_dup C dX0_init_8 rfl ?_
  refine g_callI (n := 0) (wr := [(h, .inr (0, [.null, .null, .null, .null]))]) C (c_X4_init E l q_5) (Or.inl (by decide +kernel)) gX0_init_X4_init_n9 (by decide +kernel) rfl (by decide +kernel) rfl (by decide) dX0_init_9 rfl (Nat.le_of_ble_eq_true rfl) [1] [0] rfl rfl (by decide) (fun w_9 h_9 => ?_)
  obtain ⟨p_9, rfl⟩ := h_9
  refine g_eq (ws' := [(h, .inr (0, [.null, .null, .null, .null])), cP q_5 p_9 (hi zr), aP E p_9 zr]) rfl rfl rfl ?_
  refine g_putF C [(h, .inr (0, [.ref q_5, .null, .null, .null])), cP q_5 p_9 (hi zr), aP E p_9 zr] tyX0 tyX0_ok nmX0 0 rfl rfl 0 (by decide) in_X0_init_X0 lk_X0_init_first rfl rfl rfl rfl (Nat.le_of_ble_eq_true rfl) dX0_init_12 rfl rfl ?_
  refine g_aload_n C dX0_init_15 0 rfl ?_
  refine g_new (ci := 4) C [.null, .int (zI 0)] tyX4 tyX4_ok rfl in_X0_init_X4 nw_X0_init_X4 (by decide +kernel) (by decide) dX0_init_16 (fun q_16 => ?_)
  refine g_eq (ws' := [(h, .inr (0, [.ref q_5, .null, .null, .null])), cP q_5 p_9 (hi zr), aP E p_9 zr, (q_16, .inr (4, [.null, .int (zI 0)]))]) rfl rfl rfl ?_
  refine g_dup C dX0_init_19 rfl ?_
  refine g_callI (n := 0) (wr := [(h, .inr (0, [.ref q_5, .null, .null, .null])), cP q_5 p_9 (hi zr), aP E p_9 zr]) C (c_X4_init E l q_16) (Or.inl (by decide +kernel)) gX0_init_X4_init_n9 (by decide +kernel) rfl (by decide +kernel) rfl (by decide) dX0_init_20 rfl (Nat.le_of_ble_eq_true rfl) [3] [0, 1, 2] rfl rfl (by decide) (fun w_20 h_20 => ?_)
  obtain ⟨p_20, rfl⟩ := h_20
  refine g_eq (ws' := [(h, .inr (0, [.ref q_5, .null, .null, .null])), cP q_5 p_9 (hi zr), aP E p_9 zr, cP q_16 p_20 (hi zr), aP E p_20 zr]) rfl rfl rfl ?_
  refine g_putF C [(h, .inr (0, [.ref q_5, .ref q_16, .null, .null])), cP q_5 p_9 (hi zr), aP E p_9 zr, cP q_16 p_20 (hi zr), aP E p_20 zr] tyX0 tyX0_ok nmX0 0 rfl rfl 1 (by decide) in_X0_init_X0 lk_X0_init_second rfl rfl rfl rfl (Nat.le_of_ble_eq_true rfl) dX0_init_23 rfl rfl ?_
  refine g_aload_n C dX0_init_26 0 rfl ?_
  refine g_new (ci := 4) C [.null, .int (zI 0)] tyX4 tyX4_ok rfl in_X0_init_X4 nw_X0_init_X4 (by decide +kernel) (by decide) dX0_init_27 (fun q_27 => ?_)
  refine g_eq (ws' := [(h, .inr (0, [.ref q_5, .ref q_16, .null, .null])), cP q_5 p_9 (hi zr), aP E p_9 zr, cP q_16 p_20 (hi zr), aP E p_20 zr, (q_27, .inr (4, [.null, .int (zI 0)]))]) rfl rfl rfl ?_
  refine g_dup C dX0_init_30 rfl ?_
  refine g_callI (n := 0) (wr := [(h, .inr (0, [.ref q_5, .ref q_16, .null, .null])), cP q_5 p_9 (hi zr), aP E p_9 zr, cP q_16 p_20 (hi zr), aP E p_20 zr]) C (c_X4_init E l q_27) (Or.inl (by decide +kernel)) gX0_init_X4_init_n9 (by decide +kernel) rfl (by decide +kernel) rfl (by decide) dX0_init_31 rfl (Nat.le_of_ble_eq_true rfl) [5] [0, 1, 2, 3, 4] rfl rfl (by decide) (fun w_31 h_31 => ?_)
  obtain ⟨p_31, rfl⟩ := h_31
  refine g_eq (ws' := [(h, .inr (0, [.ref q_5, .ref q_16, .null, .null])), cP q_5 p_9 (hi zr), aP E p_9 zr, cP q_16 p_20 (hi zr), aP E p_20 zr, cP q_27 p_31 (hi zr), aP E p_31 zr]) rfl rfl rfl ?_
  refine g_putF C [(h, .inr (0, [.ref q_5, .ref q_16, .ref q_27, .null])), cP q_5 p_9 (hi zr), aP E p_9 zr, cP q_16 p_20 (hi zr), aP E p_20 zr, cP q_27 p_31 (hi zr), aP E p_31 zr] tyX0 tyX0_ok nmX0 0 rfl rfl 2 (by decide) in_X0_init_X0 lk_X0_init_quotient rfl rfl rfl rfl (Nat.le_of_ble_eq_true rfl) dX0_init_34 rfl rfl ?_
  refine g_aload_n C dX0_init_37 0 rfl ?_
  refine g_new (ci := 4) C [.null, .int (zI 0)] tyX4 tyX4_ok rfl in_X0_init_X4 nw_X0_init_X4 (by decide +kernel) (by decide) dX0_init_38 (fun q_38 => ?_)
  refine g_eq (ws' := [(h, .inr (0, [.ref q_5, .ref q_16, .ref q_27, .null])), cP q_5 p_9 (hi zr), aP E p_9 zr, cP q_16 p_20 (hi zr), aP E p_20 zr, cP q_27 p_31 (hi zr), aP E p_31 zr, (q_38, .inr (4, [.null, .int (zI 0)]))]) rfl rfl rfl ?_
  refine g_dup C dX0_init_41 rfl ?_
  refine g_callI (n := 0) (wr := [(h, .inr (0, [.ref q_5, .ref q_16, .ref q_27, .null])), cP q_5 p_9 (hi zr), aP E p_9 zr, cP q_16 p_20 (hi zr), aP E p_20 zr, cP q_27 p_31 (hi zr), aP E p_31 zr]) C (c_X4_init E l q_38) (Or.inl (by decide +kernel)) gX0_init_X4_init_n9 (by decide +kernel) rfl (by decide +kernel) rfl (by decide) dX0_init_42 rfl (Nat.le_of_ble_eq_true rfl) [7] [0, 1, 2, 3, 4, 5, 6] rfl rfl (by decide) (fun w_42 h_42 => ?_)
  obtain ⟨p_42, rfl⟩ := h_42
  refine g_eq (ws' := [(h, .inr (0, [.ref q_5, .ref q_16, .ref q_27, .null])), cP q_5 p_9 (hi zr), aP E p_9 zr, cP q_16 p_20 (hi zr), aP E p_20 zr, cP q_27 p_31 (hi zr), aP E p_31 zr, cP q_38 p_42 (hi zr), aP E p_42 zr]) rfl rfl rfl ?_
  refine g_putF C [(h, .inr (0, [.ref q_5, .ref q_16, .ref q_27, .ref q_38])), cP q_5 p_9 (hi zr), aP E p_9 zr, cP q_16 p_20 (hi zr), aP E p_20 zr, cP q_27 p_31 (hi zr), aP E p_31 zr, cP q_38 p_42 (hi zr), aP E p_42 zr] tyX0 tyX0_ok nmX0 0 rfl rfl 3 (by decide) in_X0_init_X0 lk_X0_init_common rfl rfl rfl rfl (Nat.le_of_ble_eq_true rfl) dX0_init_45 rfl rfl ?_
  exact hret _ _ _ _ _ dX0_init_48 (by decide) (by decide) ⟨q_5, p_9, q_16, p_20, q_27, p_31, q_38, p_42, rfl⟩
theorem in_X0_divideOut_X0 : ∀ w ∈ u_ws RX0 TX0 4, w ∈ wsX0_divideOut := by decide +kernel
theorem lk_X0_divideOut_quotient : Cond.fieldLink yX0_divideOut.cls 19 (TX0 2).1 (TX0 2).2.1 (TX0 2).2.2.1 ∈ wsX0_divideOut := by decide +kernel
set_option maxHeartbeats 4000000 in
set_option maxRecDepth 100000 in
theorem c_X0_divideOut (E : ev) (l : Launch) (hd f1 f2 f3 q3 f4 ht qt hv qv : Nat) (u3 t v : Po) (hS3 : Sm u3) (hSt : Sm t) (hSv : Sm v) (hv0 : 0 ≤ hi v) : Mv E l yX0_divideOut wsX0_divideOut { frames := 3, cells := 0, slots := 0, locals := 90 } [.ref hd, .ref ht, .ref hv] [(hd, .inr (0, [.ref f1, .ref f2, .ref f3, .ref f4])), cP f3 q3 (hi u3), aP E q3 u3, cP ht qt (hi t), aP E qt t, cP hv qv (hi v), aP E qv v] (fun w => w = [(hd, .inr (0, [.ref f1, .ref f2, .ref f3, .ref f4])), cP f3 q3 (hi (quo t v)), aP E q3 (quo t v), cP ht qt (hi (quo t v)), aP E qt (quo t v), cP hv qv (hi v), aP E qv v]) 0 0 := by
  refine enter_v (cc := cX0_divideOut) (nL := 3) (by decide) rfl (Nat.le_of_ble_eq_true rfl) (fun G C hret => ?_)
  show G 0 0 [(hd, .inr (0, [.ref f1, .ref f2, .ref f3, .ref f4])), cP f3 q3 (hi u3), aP E q3 u3, cP ht qt (hi t), aP E qt t, cP hv qv (hi v), aP E qv v] [(0, .ref hd), (1, .ref ht), (2, .ref hv)] 0 []
  refine g_aload_n C dX0_divideOut_0 1 rfl ?_
  refine g_aload_n C dX0_divideOut_1 2 rfl ?_
  refine g_aload_n C dX0_divideOut_2 0 rfl ?_
  refine g_get C 0 rfl rfl 2 (by decide) in_X0_divideOut_X0 lk_X0_divideOut_quotient rfl dX0_divideOut_3 ?_
  refine g_callV (n := 2) (wr := [(hd, .inr (0, [.ref f1, .ref f2, .ref f3, .ref f4]))]) C (c_X4_divideBy E l ht qt hv qv f3 q3 t v u3 hSt hSv hS3 hv0) gX0_divideOut_X4_divideBy rfl (by decide +kernel) rfl (by decide) dX0_divideOut_6 rfl (Nat.le_of_ble_eq_true rfl) rfl rfl [3, 4, 5, 6, 1, 2] [0] rfl rfl (by decide) (fun w_6 h_6 => ?_)
  obtain rfl := h_6
  refine g_eq (ws' := [(hd, .inr (0, [.ref f1, .ref f2, .ref f3, .ref f4])), cP ht qt (hi (rem t v)), aP E qt (rem t v), cP hv qv (hi v), aP E qv v, cP f3 q3 (hi (quo t v)), aP E q3 (quo t v)]) rfl rfl rfl ?_
  refine g_aload_n C dX0_divideOut_9 1 rfl ?_
  refine g_aload_n C dX0_divideOut_10 0 rfl ?_
  refine g_get C 0 rfl rfl 2 (by decide) in_X0_divideOut_X0 lk_X0_divideOut_quotient rfl dX0_divideOut_11 ?_
  refine g_callV (n := 1) (wr := [(hd, .inr (0, [.ref f1, .ref f2, .ref f3, .ref f4])), cP hv qv (hi v), aP E qv v]) C (c_X4_copyFrom E l ht qt f3 q3 (rem t v) (quo t v) (rem_Sm hSt hSv hv0) (quo_Sm hSt hSv hv0)) gX0_divideOut_X4_copyFrom rfl (by decide +kernel) rfl (by decide) dX0_divideOut_14 rfl (Nat.le_of_ble_eq_true rfl) rfl rfl [1, 2, 5, 6] [0, 3, 4] rfl rfl (by decide) (fun w_14 h_14 => ?_)
  obtain rfl := h_14
  refine g_eq (ws' := [(hd, .inr (0, [.ref f1, .ref f2, .ref f3, .ref f4])), cP hv qv (hi v), aP E qv v, cP ht qt (hi (quo t v)), aP E qt (quo t v), cP f3 q3 (hi (quo t v)), aP E q3 (quo t v)]) rfl rfl rfl ?_
  refine g_wsub (ws' := [(hd, .inr (0, [.ref f1, .ref f2, .ref f3, .ref f4])), cP f3 q3 (hi (quo t v)), aP E q3 (quo t v), cP ht qt (hi (quo t v)), aP E qt (quo t v), cP hv qv (hi v), aP E qv v]) C [0, 5, 6, 3, 4, 1, 2] (by decide) rfl rfl ?_
  exact hret _ _ _ _ _ dX0_divideOut_17 (by decide) (by decide) rfl
theorem in_X0_commonDivisor_X0 : ∀ w ∈ u_ws RX0 TX0 4, w ∈ wsX0_commonDivisor := by decide +kernel
theorem lk_X0_commonDivisor_first : Cond.fieldLink yX0_commonDivisor.cls 10 (TX0 0).1 (TX0 0).2.1 (TX0 0).2.2.1 ∈ wsX0_commonDivisor := by decide +kernel
theorem lk_X0_commonDivisor_second : Cond.fieldLink yX0_commonDivisor.cls 16 (TX0 1).1 (TX0 1).2.1 (TX0 1).2.2.1 ∈ wsX0_commonDivisor := by decide +kernel
theorem lk_X0_commonDivisor_quotient : Cond.fieldLink yX0_commonDivisor.cls 19 (TX0 2).1 (TX0 2).2.1 (TX0 2).2.2.1 ∈ wsX0_commonDivisor := by decide +kernel
theorem lk_X0_commonDivisor_common : Cond.fieldLink yX0_commonDivisor.cls 22 (TX0 3).1 (TX0 3).2.1 (TX0 3).2.2.1 ∈ wsX0_commonDivisor := by decide +kernel
set_option maxHeartbeats 4000000 in
set_option maxRecDepth 100000 in
theorem c_X0_commonDivisor (E : ev) (l : Launch) (hd f1 q1 f2 q2 f3 q3 f4 q4 h1 p1 h2 p2 : Nat) (u1 u2 u3 u4 a b : Po) (hS1 : Sm u1) (hS2 : Sm u2) (hS3 : Sm u3) (hS4 : Sm u4) (hSa : Sm a) (hSb : Sm b) : Mr E l yX0_commonDivisor wsX0_commonDivisor { frames := 3, cells := 0, slots := 0, locals := 90 } [.ref hd, .ref h1, .ref h2] [(hd, .inr (0, [.ref f1, .ref f2, .ref f3, .ref f4])), cP f1 q1 (hi u1), aP E q1 u1, cP f2 q2 (hi u2), aP E q2 u2, cP f3 q3 (hi u3), aP E q3 u3, cP f4 q4 (hi u4), aP E q4 u4, cP h1 p1 (hi a), aP E p1 a, cP h2 p2 (hi b), aP E p2 b] (fun r w => r = f4 ∧ ∃ v1 v2 v3 : Po, (Sm v1 ∧ Sm v2 ∧ Sm v3) ∧ w = [(hd, .inr (0, [.ref f1, .ref f2, .ref f3, .ref f4])), cP f1 q1 (hi v1), aP E q1 v1, cP f2 q2 (hi v2), aP E q2 v2, cP f3 q3 (hi v3), aP E q3 v3, cP f4 q4 (hi (gm a b)), aP E q4 (gm a b), cP h1 p1 (hi a), aP E p1 a, cP h2 p2 (hi b), aP E p2 b]) 0 0 := by
  refine enter_r (cc := cX0_commonDivisor) (nL := 7) (by decide) rfl (Nat.le_of_ble_eq_true rfl) (fun G C hret => ?_)
  show G 0 0 [(hd, .inr (0, [.ref f1, .ref f2, .ref f3, .ref f4])), cP f1 q1 (hi u1), aP E q1 u1, cP f2 q2 (hi u2), aP E q2 u2, cP f3 q3 (hi u3), aP E q3 u3, cP f4 q4 (hi u4), aP E q4 u4, cP h1 p1 (hi a), aP E p1 a, cP h2 p2 (hi b), aP E p2 b] [(0, .ref hd), (1, .ref h1), (2, .ref h2)] 0 []
  refine g_aload_n C dX0_commonDivisor_0 0 rfl ?_
  refine g_get C 0 rfl rfl 0 (by decide) in_X0_commonDivisor_X0 lk_X0_commonDivisor_first rfl dX0_commonDivisor_1 ?_
  refine g_aload_n C dX0_commonDivisor_4 1 rfl ?_
  refine g_callV (n := 1) (wr := [(hd, .inr (0, [.ref f1, .ref f2, .ref f3, .ref f4])), cP f2 q2 (hi u2), aP E q2 u2, cP f3 q3 (hi u3), aP E q3 u3, cP f4 q4 (hi u4), aP E q4 u4, cP h2 p2 (hi b), aP E p2 b]) C (c_X4_copyFrom E l f1 q1 h1 p1 u1 a hS1 hSa) gX0_commonDivisor_X4_copyFrom rfl (by decide +kernel) rfl (by decide) dX0_commonDivisor_5 rfl (Nat.le_of_ble_eq_true rfl) rfl rfl [1, 2, 9, 10] [0, 3, 4, 5, 6, 7, 8, 11, 12] rfl rfl (by decide) (fun w_5 h_5 => ?_)
  obtain rfl := h_5
  refine g_eq (ws' := [(hd, .inr (0, [.ref f1, .ref f2, .ref f3, .ref f4])), cP f2 q2 (hi u2), aP E q2 u2, cP f3 q3 (hi u3), aP E q3 u3, cP f4 q4 (hi u4), aP E q4 u4, cP h2 p2 (hi b), aP E p2 b, cP f1 q1 (hi a), aP E q1 a, cP h1 p1 (hi a), aP E p1 a]) rfl rfl rfl ?_
  refine g_aload_n C dX0_commonDivisor_8 0 rfl ?_
  refine g_get C 0 rfl rfl 1 (by decide) in_X0_commonDivisor_X0 lk_X0_commonDivisor_second rfl dX0_commonDivisor_9 ?_
  refine g_aload_n C dX0_commonDivisor_12 2 rfl ?_
  refine g_callV (n := 1) (wr := [(hd, .inr (0, [.ref f1, .ref f2, .ref f3, .ref f4])), cP f3 q3 (hi u3), aP E q3 u3, cP f4 q4 (hi u4), aP E q4 u4, cP f1 q1 (hi a), aP E q1 a, cP h1 p1 (hi a), aP E p1 a]) C (c_X4_copyFrom E l f2 q2 h2 p2 u2 b hS2 hSb) gX0_commonDivisor_X4_copyFrom rfl (by decide +kernel) rfl (by decide) dX0_commonDivisor_13 rfl (Nat.le_of_ble_eq_true rfl) rfl rfl [1, 2, 7, 8] [0, 3, 4, 5, 6, 9, 10, 11, 12] rfl rfl (by decide) (fun w_13 h_13 => ?_)
  obtain rfl := h_13
  refine g_eq (ws' := [(hd, .inr (0, [.ref f1, .ref f2, .ref f3, .ref f4])), cP f3 q3 (hi u3), aP E q3 u3, cP f4 q4 (hi u4), aP E q4 u4, cP f1 q1 (hi a), aP E q1 a, cP h1 p1 (hi a), aP E p1 a, cP f2 q2 (hi b), aP E q2 b, cP h2 p2 (hi b), aP E p2 b]) rfl rfl rfl ?_
  refine g_aload_n C dX0_commonDivisor_16 0 rfl ?_
  refine g_get C 0 rfl rfl 0 (by decide) in_X0_commonDivisor_X0 lk_X0_commonDivisor_first rfl dX0_commonDivisor_17 ?_
  refine g_astore_n C [(3, .ref f1), (0, .ref hd), (1, .ref h1), (2, .ref h2)] dX0_commonDivisor_20 (by decide) rfl ?_
  refine g_aload_n C dX0_commonDivisor_21 1 rfl ?_
  refine g_get C 0 rfl rfl 1 (by decide) in_X0_commonDivisor_X0 lk_X0_commonDivisor_second rfl dX0_commonDivisor_22 ?_
  refine g_astore C [(4, .ref f2), (3, .ref f1), (0, .ref hd), (1, .ref h1), (2, .ref h2)] dX0_commonDivisor_25 (by decide) rfl ?_
  refine g_iconst C dX0_commonDivisor_27 ?_
  refine g_istore C [(5, .int (zI 0)), (4, .ref f2), (3, .ref f1), (0, .ref hd), (1, .ref h1), (2, .ref h2)] dX0_commonDivisor_28 (by decide) rfl ?_
  have lp_o : ∀ (n_o : Nat) (r : Int) (n : Nat) (L : Nat) (qL : Nat) (S : Nat) (qS : Nat) (x : Po) (y : Po) (z : Po), (r = 66 - (n : Int)) → (n ≤ 66) → (eu n x y = eu 66 a b) → (Sm x) → (Sm y) → (Sm z) → ((L = f1 ∧ qL = q1 ∧ S = f2 ∧ qS = q2) ∨ (L = f2 ∧ qL = q2 ∧ S = f1 ∧ qS = q1)) → n < n_o → G 0 0 [(hd, .inr (0, [.ref f1, .ref f2, .ref f3, .ref f4])), cP L qL (hi x), aP E qL x, cP S qS (hi y), aP E qS y, cP f3 q3 (hi z), aP E q3 z, cP f4 q4 (hi u4), aP E q4 u4, cP h1 p1 (hi a), aP E p1 a, cP h2 p2 (hi b), aP E p2 b] [(5, .int (zI r)), (4, .ref S), (3, .ref L), (0, .ref hd), (1, .ref h1), (2, .ref h2)] 30 [] := by
    intro n_o
    induction n_o with
    | zero =>
      intro r n L qL S qS x y z hr hn he hSx hSy hSz hLS hm_o
      exact absurd hm_o (by omega)
    | succ n_o ih_o =>
      intro r n L qL S qS x y z hr hn he hSx hSy hSz hLS hm_o
      refine g_iload C dX0_commonDivisor_30 0 rfl ?_
      refine g_bipush C dX0_commonDivisor_32 rfl ?_
      refine g_icmp_ge C 71 dX0_commonDivisor_34 (by decide) (by (try split) <;> omega) (by (try split) <;> omega) (by (try split) <;> omega) (by (try split) <;> omega) (fun c_34 => ?_) (fun c_34 => ?_)
      · have ex : x = eu 66 a b := by rw [← he, show n = 0 by omega]; rfl
        refine g_aload_n C dX0_commonDivisor_71 3 rfl ?_
        refine g_get C 0 rfl rfl 3 (by decide) in_X0_commonDivisor_X0 lk_X0_commonDivisor_common rfl dX0_commonDivisor_72 ?_
        refine g_aload_n C dX0_commonDivisor_75 2 rfl ?_
        refine g_callV (n := 1) (wr := [(hd, .inr (0, [.ref f1, .ref f2, .ref f3, .ref f4])), cP S qS (hi y), aP E qS y, cP f3 q3 (hi z), aP E q3 z, cP h1 p1 (hi a), aP E p1 a, cP h2 p2 (hi b), aP E p2 b]) C (c_X4_copyFrom E l f4 q4 L qL u4 x hS4 hSx) gX0_commonDivisor_X4_copyFrom rfl (by decide +kernel) rfl (by decide) dX0_commonDivisor_76 rfl (Nat.le_of_ble_eq_true rfl) rfl rfl [7, 8, 1, 2] [0, 3, 4, 5, 6, 9, 10, 11, 12] rfl rfl (by decide) (fun w_76 h_76 => ?_)
        obtain rfl := h_76
        refine g_eq (ws' := [(hd, .inr (0, [.ref f1, .ref f2, .ref f3, .ref f4])), cP S qS (hi y), aP E qS y, cP f3 q3 (hi z), aP E q3 z, cP h1 p1 (hi a), aP E p1 a, cP h2 p2 (hi b), aP E p2 b, cP f4 q4 (hi x), aP E q4 x, cP L qL (hi x), aP E qL x]) rfl rfl rfl ?_
        refine g_aload_n C dX0_commonDivisor_79 3 rfl ?_
        refine g_get C 0 rfl rfl 3 (by decide) in_X0_commonDivisor_X0 lk_X0_commonDivisor_common rfl dX0_commonDivisor_80 ?_
        refine g_aload_n C dX0_commonDivisor_83 3 rfl ?_
        refine g_get C 0 rfl rfl 3 (by decide) in_X0_commonDivisor_X0 lk_X0_commonDivisor_common rfl dX0_commonDivisor_84 ?_
        refine g_callVi (n := 0) (wr := [(hd, .inr (0, [.ref f1, .ref f2, .ref f3, .ref f4])), cP S qS (hi y), aP E qS y, cP f3 q3 (hi z), aP E q3 z, cP h1 p1 (hi a), aP E p1 a, cP h2 p2 (hi b), aP E p2 b, cP L qL (hi x), aP E qL x]) C (c_X4_leading E l f4 q4 x hSx) gX0_commonDivisor_X4_leading rfl (by decide +kernel) rfl (by decide) dX0_commonDivisor_87 rfl (Nat.le_of_ble_eq_true rfl) rfl rfl [9, 10] [0, 1, 2, 3, 4, 5, 6, 7, 8, 11, 12] rfl rfl (by decide) (fun r_87 w_87 h_87 => ?_)
        obtain ⟨rfl, rfl⟩ := h_87
        refine g_eq (ws' := [(hd, .inr (0, [.ref f1, .ref f2, .ref f3, .ref f4])), cP S qS (hi y), aP E qS y, cP f3 q3 (hi z), aP E q3 z, cP h1 p1 (hi a), aP E p1 a, cP h2 p2 (hi b), aP E p2 b, cP L qL (hi x), aP E qL x, cP f4 q4 (hi x), aP E q4 x]) rfl rfl rfl ?_
        refine g_callSNi (n := 1) C (c_X7_inverse E l (nm x (hi x))) (by decide +kernel) gX0_commonDivisor_X7_inverse_n41 (by decide +kernel) rfl (by decide +kernel) rfl (by decide) dX0_commonDivisor_90 rfl (Nat.le_of_ble_eq_true rfl) (fun r_90 h_90 => ?_)
        obtain ⟨_, rfl, -⟩ := h_90
        refine g_callV (n := 1) (wr := [(hd, .inr (0, [.ref f1, .ref f2, .ref f3, .ref f4])), cP S qS (hi y), aP E qS y, cP f3 q3 (hi z), aP E q3 z, cP h1 p1 (hi a), aP E p1 a, cP h2 p2 (hi b), aP E p2 b, cP L qL (hi x), aP E qL x]) C (c_X4_scaleBy E l f4 q4 x (ivq (nm x (hi x))) hSx) gX0_commonDivisor_X4_scaleBy rfl (by decide +kernel) rfl (by decide) dX0_commonDivisor_93 rfl (Nat.le_of_ble_eq_true rfl) rfl rfl [11, 12] [0, 1, 2, 3, 4, 5, 6, 7, 8, 9, 10] rfl rfl (by decide) (fun w_93 h_93 => ?_)
        obtain rfl := h_93
        refine g_eq (ws' := [(hd, .inr (0, [.ref f1, .ref f2, .ref f3, .ref f4])), cP S qS (hi y), aP E qS y, cP f3 q3 (hi z), aP E q3 z, cP h1 p1 (hi a), aP E p1 a, cP h2 p2 (hi b), aP E p2 b, cP L qL (hi x), aP E qL x, cP f4 q4 (hi (sc x (ivq (nm x (hi x))))), aP E q4 (sc x (ivq (nm x (hi x))))]) rfl rfl rfl ?_
        refine g_aload_n C dX0_commonDivisor_96 3 rfl ?_
        refine g_get C 0 rfl rfl 3 (by decide) in_X0_commonDivisor_X0 lk_X0_commonDivisor_common rfl dX0_commonDivisor_97 ?_
        refine g_wsub (ws' := [(hd, .inr (0, [.ref f1, .ref f2, .ref f3, .ref f4])), cP L qL (hi x), aP E qL x, cP S qS (hi y), aP E qS y, cP f3 q3 (hi z), aP E q3 z, cP f4 q4 (hi (sc x (ivq (nm x (hi x))))), aP E q4 (sc x (ivq (nm x (hi x)))), cP h1 p1 (hi a), aP E p1 a, cP h2 p2 (hi b), aP E p2 b]) C [0, 9, 10, 1, 2, 3, 4, 11, 12, 5, 6, 7, 8] (by decide) rfl rfl ?_
        have eg : gm a b = sc x (ivq (nm x (hi x))) := by unfold gm mon; rw [← ex]
        rcases hLS with ⟨rfl, rfl, rfl, rfl⟩ | ⟨rfl, rfl, rfl, rfl⟩
        · exact hret _ _ _ _ _ _ dX0_commonDivisor_100 (by decide) (by decide) ⟨rfl, x, y, z, ⟨hSx, hSy, hSz⟩, by rw [eg]⟩
        · refine g_wsub (ws' := [(hd, .inr (0, [.ref S, .ref L, .ref f3, .ref f4])), cP S qS (hi y), aP E qS y, cP L qL (hi x), aP E qL x, cP f3 q3 (hi z), aP E q3 z, cP f4 q4 (hi (sc x (ivq (nm x (hi x))))), aP E q4 (sc x (ivq (nm x (hi x)))), cP h1 p1 (hi a), aP E p1 a, cP h2 p2 (hi b), aP E p2 b]) C [0, 3, 4, 1, 2, 5, 6, 7, 8, 9, 10, 11, 12] (by decide) rfl rfl ?_
          exact hret _ _ _ _ _ _ dX0_commonDivisor_100 (by decide) (by decide) ⟨rfl, y, x, z, ⟨hSy, hSx, hSz⟩, by rw [eg]⟩
      · obtain ⟨n2, rfl⟩ : ∃ n2, n = n2 + 1 := ⟨n - 1, by omega⟩
        refine g_aload C dX0_commonDivisor_37 1 rfl ?_
        refine g_callVi (n := 0) (wr := [(hd, .inr (0, [.ref f1, .ref f2, .ref f3, .ref f4])), cP L qL (hi x), aP E qL x, cP f3 q3 (hi z), aP E q3 z, cP f4 q4 (hi u4), aP E q4 u4, cP h1 p1 (hi a), aP E p1 a, cP h2 p2 (hi b), aP E p2 b]) C (c_X4_isZero E l S qS y) gX0_commonDivisor_X4_isZero rfl (by decide +kernel) rfl (by decide) dX0_commonDivisor_39 rfl (Nat.le_of_ble_eq_true rfl) rfl rfl [3, 4] [0, 1, 2, 5, 6, 7, 8, 9, 10, 11, 12] rfl rfl (by decide) (fun r_39 w_39 h_39 => ?_)
        obtain ⟨rfl, rfl⟩ := h_39
        refine g_eq (ws' := [(hd, .inr (0, [.ref f1, .ref f2, .ref f3, .ref f4])), cP L qL (hi x), aP E qL x, cP f3 q3 (hi z), aP E q3 z, cP f4 q4 (hi u4), aP E q4 u4, cP h1 p1 (hi a), aP E p1 a, cP h2 p2 (hi b), aP E p2 b, cP S qS (hi y), aP E qS y]) rfl rfl rfl ?_
        refine g_if_ne C 71 dX0_commonDivisor_42 (by decide) (by (try split) <;> omega) (by (try split) <;> omega) (fun c_42 => ?_) (fun c_42 => ?_)
        · have ey : hi y < 0 := by rcases Classical.em (hi y < 0) with g | g; exact g; (rw [if_neg g] at c_42; exact absurd rfl c_42)
          have ex : x = eu 66 a b := by rw [← he, eu_zero _ _ _ ey]
          refine g_aload_n C dX0_commonDivisor_71 3 rfl ?_
          refine g_get C 0 rfl rfl 3 (by decide) in_X0_commonDivisor_X0 lk_X0_commonDivisor_common rfl dX0_commonDivisor_72 ?_
          refine g_aload_n C dX0_commonDivisor_75 2 rfl ?_
          refine g_callV (n := 1) (wr := [(hd, .inr (0, [.ref f1, .ref f2, .ref f3, .ref f4])), cP f3 q3 (hi z), aP E q3 z, cP h1 p1 (hi a), aP E p1 a, cP h2 p2 (hi b), aP E p2 b, cP S qS (hi y), aP E qS y]) C (c_X4_copyFrom E l f4 q4 L qL u4 x hS4 hSx) gX0_commonDivisor_X4_copyFrom rfl (by decide +kernel) rfl (by decide) dX0_commonDivisor_76 rfl (Nat.le_of_ble_eq_true rfl) rfl rfl [5, 6, 1, 2] [0, 3, 4, 7, 8, 9, 10, 11, 12] rfl rfl (by decide) (fun w_76 h_76 => ?_)
          obtain rfl := h_76
          refine g_eq (ws' := [(hd, .inr (0, [.ref f1, .ref f2, .ref f3, .ref f4])), cP f3 q3 (hi z), aP E q3 z, cP h1 p1 (hi a), aP E p1 a, cP h2 p2 (hi b), aP E p2 b, cP S qS (hi y), aP E qS y, cP f4 q4 (hi x), aP E q4 x, cP L qL (hi x), aP E qL x]) rfl rfl rfl ?_
          refine g_aload_n C dX0_commonDivisor_79 3 rfl ?_
          refine g_get C 0 rfl rfl 3 (by decide) in_X0_commonDivisor_X0 lk_X0_commonDivisor_common rfl dX0_commonDivisor_80 ?_
          refine g_aload_n C dX0_commonDivisor_83 3 rfl ?_
          refine g_get C 0 rfl rfl 3 (by decide) in_X0_commonDivisor_X0 lk_X0_commonDivisor_common rfl dX0_commonDivisor_84 ?_
          refine g_callVi (n := 0) (wr := [(hd, .inr (0, [.ref f1, .ref f2, .ref f3, .ref f4])), cP f3 q3 (hi z), aP E q3 z, cP h1 p1 (hi a), aP E p1 a, cP h2 p2 (hi b), aP E p2 b, cP S qS (hi y), aP E qS y, cP L qL (hi x), aP E qL x]) C (c_X4_leading E l f4 q4 x hSx) gX0_commonDivisor_X4_leading rfl (by decide +kernel) rfl (by decide) dX0_commonDivisor_87 rfl (Nat.le_of_ble_eq_true rfl) rfl rfl [9, 10] [0, 1, 2, 3, 4, 5, 6, 7, 8, 11, 12] rfl rfl (by decide) (fun r_87 w_87 h_87 => ?_)
          obtain ⟨rfl, rfl⟩ := h_87
          refine g_eq (ws' := [(hd, .inr (0, [.ref f1, .ref f2, .ref f3, .ref f4])), cP f3 q3 (hi z), aP E q3 z, cP h1 p1 (hi a), aP E p1 a, cP h2 p2 (hi b), aP E p2 b, cP S qS (hi y), aP E qS y, cP L qL (hi x), aP E qL x, cP f4 q4 (hi x), aP E q4 x]) rfl rfl rfl ?_
          refine g_callSNi (n := 1) C (c_X7_inverse E l (nm x (hi x))) (by decide +kernel) gX0_commonDivisor_X7_inverse_n41 (by decide +kernel) rfl (by decide +kernel) rfl (by decide) dX0_commonDivisor_90 rfl (Nat.le_of_ble_eq_true rfl) (fun r_90 h_90 => ?_)
          obtain ⟨_, rfl, -⟩ := h_90
          refine g_callV (n := 1) (wr := [(hd, .inr (0, [.ref f1, .ref f2, .ref f3, .ref f4])), cP f3 q3 (hi z), aP E q3 z, cP h1 p1 (hi a), aP E p1 a, cP h2 p2 (hi b), aP E p2 b, cP S qS (hi y), aP E qS y, cP L qL (hi x), aP E qL x]) C (c_X4_scaleBy E l f4 q4 x (ivq (nm x (hi x))) hSx) gX0_commonDivisor_X4_scaleBy rfl (by decide +kernel) rfl (by decide) dX0_commonDivisor_93 rfl (Nat.le_of_ble_eq_true rfl) rfl rfl [11, 12] [0, 1, 2, 3, 4, 5, 6, 7, 8, 9, 10] rfl rfl (by decide) (fun w_93 h_93 => ?_)
          obtain rfl := h_93
          refine g_eq (ws' := [(hd, .inr (0, [.ref f1, .ref f2, .ref f3, .ref f4])), cP f3 q3 (hi z), aP E q3 z, cP h1 p1 (hi a), aP E p1 a, cP h2 p2 (hi b), aP E p2 b, cP S qS (hi y), aP E qS y, cP L qL (hi x), aP E qL x, cP f4 q4 (hi (sc x (ivq (nm x (hi x))))), aP E q4 (sc x (ivq (nm x (hi x))))]) rfl rfl rfl ?_
          refine g_aload_n C dX0_commonDivisor_96 3 rfl ?_
          refine g_get C 0 rfl rfl 3 (by decide) in_X0_commonDivisor_X0 lk_X0_commonDivisor_common rfl dX0_commonDivisor_97 ?_
          refine g_wsub (ws' := [(hd, .inr (0, [.ref f1, .ref f2, .ref f3, .ref f4])), cP L qL (hi x), aP E qL x, cP S qS (hi y), aP E qS y, cP f3 q3 (hi z), aP E q3 z, cP f4 q4 (hi (sc x (ivq (nm x (hi x))))), aP E q4 (sc x (ivq (nm x (hi x)))), cP h1 p1 (hi a), aP E p1 a, cP h2 p2 (hi b), aP E p2 b]) C [0, 9, 10, 7, 8, 1, 2, 11, 12, 3, 4, 5, 6] (by decide) rfl rfl ?_
          have eg : gm a b = sc x (ivq (nm x (hi x))) := by unfold gm mon; rw [← ex]
          rcases hLS with ⟨rfl, rfl, rfl, rfl⟩ | ⟨rfl, rfl, rfl, rfl⟩
          · exact hret _ _ _ _ _ _ dX0_commonDivisor_100 (by decide) (by decide) ⟨rfl, x, y, z, ⟨hSx, hSy, hSz⟩, by rw [eg]⟩
          · refine g_wsub (ws' := [(hd, .inr (0, [.ref S, .ref L, .ref f3, .ref f4])), cP S qS (hi y), aP E qS y, cP L qL (hi x), aP E qL x, cP f3 q3 (hi z), aP E q3 z, cP f4 q4 (hi (sc x (ivq (nm x (hi x))))), aP E q4 (sc x (ivq (nm x (hi x)))), cP h1 p1 (hi a), aP E p1 a, cP h2 p2 (hi b), aP E p2 b]) C [0, 3, 4, 1, 2, 5, 6, 7, 8, 9, 10, 11, 12] (by decide) rfl rfl ?_
            exact hret _ _ _ _ _ _ dX0_commonDivisor_100 (by decide) (by decide) ⟨rfl, y, x, z, ⟨hSy, hSx, hSz⟩, by rw [eg]⟩
        · have ey : ¬ hi y < 0 := by rcases Classical.em (hi y < 0) with g | g; (rw [if_pos g] at c_42; exact absurd c_42 (by decide)); exact g
          refine g_aload_n C dX0_commonDivisor_45 2 rfl ?_
          refine g_aload C dX0_commonDivisor_46 1 rfl ?_
          refine g_aload_n C dX0_commonDivisor_48 3 rfl ?_
          refine g_get C 0 rfl rfl 2 (by decide) in_X0_commonDivisor_X0 lk_X0_commonDivisor_quotient rfl dX0_commonDivisor_49 ?_
          refine g_callV (n := 2) (wr := [(hd, .inr (0, [.ref f1, .ref f2, .ref f3, .ref f4])), cP f4 q4 (hi u4), aP E q4 u4, cP h1 p1 (hi a), aP E p1 a, cP h2 p2 (hi b), aP E p2 b]) C (c_X4_divideBy E l L qL S qS f3 q3 x y z hSx hSy hSz (by omega)) gX0_commonDivisor_X4_divideBy rfl (by decide +kernel) rfl (by decide) dX0_commonDivisor_52 rfl (Nat.le_of_ble_eq_true rfl) rfl rfl [1, 2, 11, 12, 3, 4] [0, 5, 6, 7, 8, 9, 10] rfl rfl (by decide) (fun w_52 h_52 => ?_)
          obtain rfl := h_52
          refine g_eq (ws' := [(hd, .inr (0, [.ref f1, .ref f2, .ref f3, .ref f4])), cP f4 q4 (hi u4), aP E q4 u4, cP h1 p1 (hi a), aP E p1 a, cP h2 p2 (hi b), aP E p2 b, cP L qL (hi (rem x y)), aP E qL (rem x y), cP S qS (hi y), aP E qS y, cP f3 q3 (hi (quo x y)), aP E q3 (quo x y)]) rfl rfl rfl ?_
          refine g_aload_n C dX0_commonDivisor_55 2 rfl ?_
          refine g_astore C [(6, .ref L), (5, .int (zI r)), (4, .ref S), (3, .ref L), (0, .ref hd), (1, .ref h1), (2, .ref h2)] dX0_commonDivisor_56 (by decide) rfl ?_
          refine g_aload C dX0_commonDivisor_58 2 rfl ?_
          refine g_astore_n C [(3, .ref S), (6, .ref L), (5, .int (zI r)), (4, .ref S), (0, .ref hd), (1, .ref h1), (2, .ref h2)] dX0_commonDivisor_60 (by decide) rfl ?_
          refine g_aload C dX0_commonDivisor_61 1 rfl ?_
          refine g_astore C [(4, .ref L), (3, .ref S), (6, .ref L), (5, .int (zI r)), (0, .ref hd), (1, .ref h1), (2, .ref h2)] dX0_commonDivisor_63 (by decide) rfl ?_
          refine g_iinc C [(5, .int (zI (r + 1))), (4, .ref L), (3, .ref S), (6, .ref L), (0, .ref hd), (1, .ref h1), (2, .ref h2)] dX0_commonDivisor_65 3 rfl (by decide) rfl ?_
          refine g_goto C 30 dX0_commonDivisor_68 (by decide) ?_
          refine g_lsub C [0, 1, 2, 4, 5, 6] rfl ?_
          refine g_wsub (ws' := [(hd, .inr (0, [.ref f1, .ref f2, .ref f3, .ref f4])), cP S qS (hi y), aP E qS y, cP L qL (hi (rem x y)), aP E qL (rem x y), cP f3 q3 (hi (quo x y)), aP E q3 (quo x y), cP f4 q4 (hi u4), aP E q4 u4, cP h1 p1 (hi a), aP E p1 a, cP h2 p2 (hi b), aP E p2 b]) C [0, 9, 10, 7, 8, 11, 12, 1, 2, 3, 4, 5, 6] (by decide) rfl rfl ?_
          exact ih_o (r + 1) n2 S qS L qL y (rem x y) (quo x y) (by omega) (by omega) (by rw [← he, eu, if_neg (by omega)]) hSy (rem_Sm hSx hSy (by omega)) (quo_Sm hSx hSy (by omega)) (by rcases hLS with ⟨h1, h2, h3, h4⟩ | ⟨h1, h2, h3, h4⟩; exact Or.inr ⟨h3, h4, h1, h2⟩; exact Or.inl ⟨h3, h4, h1, h2⟩) (by omega)
  refine g_wsub (ws' := [(hd, .inr (0, [.ref f1, .ref f2, .ref f3, .ref f4])), cP f1 q1 (hi a), aP E q1 a, cP f2 q2 (hi b), aP E q2 b, cP f3 q3 (hi u3), aP E q3 u3, cP f4 q4 (hi u4), aP E q4 u4, cP h1 p1 (hi a), aP E p1 a, cP h2 p2 (hi b), aP E p2 b]) C [0, 5, 6, 9, 10, 1, 2, 3, 4, 7, 8, 11, 12] (by decide) rfl rfl ?_
  exact lp_o 67 0 66 f1 q1 f2 q2 a b u3 (by omega) (by omega) rfl hSa hSb hS3 (Or.inl ⟨rfl, rfl, rfl, rfl⟩) (by omega)
