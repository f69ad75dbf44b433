/-- the sum as a multiple of the term: y is b with n - 1, x the answer -/
def cdg (y x c : Po) : Po := gm (conv y x) c
def cTop (y x c : Po) : Po := quo (conv y x) (cdg y x c)
def cBot (y x c : Po) : Po := quo c (cdg y x c)
theorem in_X1_bottomBefore_X1 : ∀ w ∈ u_ws RX1 TX1 8, w ∈ wsX1_bottomBefore := by decide +kernel
theorem lk_X1_bottomBefore_bottomBefore : Cond.fieldLink yX1_bottomBefore.cls 28 (TX1 3).1 (TX1 3).2.1 (TX1 3).2.2.1 ∈ wsX1_bottomBefore := by decide +kernel
set_option maxHeartbeats 4000000 in
set_option maxRecDepth 100000 in
theorem c_X1_bottomBefore (E : ev) (l : Launch) (he ep eb er bb tg pa : Nat) (least ke : Int) : Mr E l yX1_bottomBefore wsX1_bottomBefore { frames := 0, cells := 0, slots := 0, locals := 0 } [.ref he] [(he, .inr (1, [.ref ep, .ref eb, .ref er, .ref bb, .ref tg, .ref pa, .int (zI least), .int (zI ke)]))] (fun r w => r = bb ∧ w = [(he, .inr (1, [.ref ep, .ref eb, .ref er, .ref bb, .ref tg, .ref pa, .int (zI least), .int (zI ke)]))]) 0 0 := by
  refine enter_r (cc := cX1_bottomBefore) (nL := 1) (by decide) rfl (Nat.le_of_ble_eq_true rfl) (fun G C hret => ?_)
  show G 0 0 [(he, .inr (1, [.ref ep, .ref eb, .ref er, .ref bb, .ref tg, .ref pa, .int (zI least), .int (zI ke)]))] [(0, .ref he)] 0 []
  refine g_aload_n C dX1_bottomBefore_0 0 rfl ?_
  refine g_get C 0 rfl rfl 3 (by decide) in_X1_bottomBefore_X1 lk_X1_bottomBefore_bottomBefore rfl dX1_bottomBefore_1 ?_
  exact hret _ _ _ _ _ _ dX1_bottomBefore_4 (by decide) (by decide) ⟨rfl, rfl⟩
theorem in_X1_solution_X3 : ∀ w ∈ u_ws RX3 TX3 2, w ∈ wsX1_solution := by decide +kernel
theorem in_X1_solution_X1 : ∀ w ∈ u_ws RX1 TX1 8, w ∈ wsX1_solution := by decide +kernel
theorem lk_X1_solution_remaining : Cond.fieldLink yX1_solution.cls 23 (TX1 2).1 (TX1 2).2.1 (TX1 2).2.2.1 ∈ wsX1_solution := by decide +kernel
theorem lk_X1_solution_origin : Cond.fieldLink yX1_solution.cls 50 (TX3 0).1 (TX3 0).2.1 (TX3 0).2.2.1 ∈ wsX1_solution := by decide +kernel
set_option maxHeartbeats 4000000 in
set_option maxRecDepth 100000 in
theorem c_X1_solution (E : ev) (l : Launch) (he ep eb er bb tg pa eo ei : Nat) (least ke : Int) : Mr E l yX1_solution wsX1_solution { frames := 0, cells := 0, slots := 0, locals := 0 } [.ref he] [(he, .inr (1, [.ref ep, .ref eb, .ref er, .ref bb, .ref tg, .ref pa, .int (zI least), .int (zI ke)])), (er, .inr (3, [.ref eo, .ref ei]))] (fun r w => r = eo ∧ w = [(he, .inr (1, [.ref ep, .ref eb, .ref er, .ref bb, .ref tg, .ref pa, .int (zI least), .int (zI ke)])), (er, .inr (3, [.ref eo, .ref ei]))]) 0 0 := by
  refine enter_r (cc := cX1_solution) (nL := 1) (by decide) rfl (Nat.le_of_ble_eq_true rfl) (fun G C hret => ?_)
  show G 0 0 [(he, .inr (1, [.ref ep, .ref eb, .ref er, .ref bb, .ref tg, .ref pa, .int (zI least), .int (zI ke)])), (er, .inr (3, [.ref eo, .ref ei]))] [(0, .ref he)] 0 []
  refine g_aload_n C dX1_solution_0 0 rfl ?_
  refine g_get C 0 rfl rfl 2 (by decide) in_X1_solution_X1 lk_X1_solution_remaining rfl dX1_solution_1 ?_
  refine g_get C 1 rfl rfl 0 (by decide) in_X1_solution_X3 lk_X1_solution_origin rfl dX1_solution_4 ?_
  exact hret _ _ _ _ _ _ dX1_solution_7 (by decide) (by decide) ⟨rfl, rfl⟩
theorem in_X1_leastDegree_X1 : ∀ w ∈ u_ws RX1 TX1 8, w ∈ wsX1_leastDegree := by decide +kernel
theorem lk_X1_leastDegree_leastDegree : Cond.fieldLink yX1_leastDegree.cls 38 (TX1 6).1 (TX1 6).2.1 (TX1 6).2.2.1 ∈ wsX1_leastDegree := by decide +kernel
set_option maxHeartbeats 4000000 in
set_option maxRecDepth 100000 in
theorem c_X1_leastDegree (E : ev) (l : Launch) (he ep eb er bb tg pa : Nat) (least ke : Int) : Mi E l yX1_leastDegree wsX1_leastDegree { frames := 0, cells := 0, slots := 0, locals := 0 } [.ref he] [(he, .inr (1, [.ref ep, .ref eb, .ref er, .ref bb, .ref tg, .ref pa, .int (zI least), .int (zI ke)]))] (fun r w => r = zI least ∧ w = [(he, .inr (1, [.ref ep, .ref eb, .ref er, .ref bb, .ref tg, .ref pa, .int (zI least), .int (zI ke)]))]) 0 0 := by
  refine enter_i (cc := cX1_leastDegree) (nL := 1) (by decide) rfl (Nat.le_of_ble_eq_true rfl) (fun G C hret => ?_)
  show G 0 0 [(he, .inr (1, [.ref ep, .ref eb, .ref er, .ref bb, .ref tg, .ref pa, .int (zI least), .int (zI ke)]))] [(0, .ref he)] 0 []
  refine g_aload_n C dX1_leastDegree_0 0 rfl ?_
  refine g_get C 0 rfl rfl 6 (by decide) in_X1_leastDegree_X1 lk_X1_leastDegree_leastDegree rfl dX1_leastDegree_1 ?_
  exact hret _ _ _ _ _ _ dX1_leastDegree_4 (by decide) (by decide) ⟨rfl, rfl⟩
theorem in_X1_forget_X1 : ∀ w ∈ u_ws RX1 TX1 8, w ∈ wsX1_forget := by decide +kernel
theorem lk_X1_forget_known : Cond.fieldLink yX1_forget.cls 42 (TX1 7).1 (TX1 7).2.1 (TX1 7).2.2.1 ∈ wsX1_forget := by decide +kernel
set_option maxHeartbeats 4000000 in
set_option maxRecDepth 100000 in
theorem c_X1_forget (E : ev) (l : Launch) (he ep eb er bb tg pa : Nat) (least ke : Int) : Mv E l yX1_forget wsX1_forget { frames := 0, cells := 0, slots := 0, locals := 0 } [.ref he] [(he, .inr (1, [.ref ep, .ref eb, .ref er, .ref bb, .ref tg, .ref pa, .int (zI least), .int (zI ke)]))] (fun w => w = [(he, .inr (1, [.ref ep, .ref eb, .ref er, .ref bb, .ref tg, .ref pa, .int (zI least), .int (zI 0)]))]) 0 0 := by
  refine enter_v (cc := cX1_forget) (nL := 1) (by decide) rfl (Nat.le_of_ble_eq_true rfl) (fun G C hret => ?_)
  show G 0 0 [(he, .inr (1, [.ref ep, .ref eb, .ref er, .ref bb, .ref tg, .ref pa, .int (zI least), .int (zI ke)]))] [(0, .ref he)] 0 []
  refine g_aload_n C dX1_forget_0 0 rfl ?_
  refine g_iconst C dX1_forget_1 ?_
  refine g_put C [(he, .inr (1, [.ref ep, .ref eb, .ref er, .ref bb, .ref tg, .ref pa, .int (zI least), .int (zI 0)]))] tyX1 tyX1_ok nmX1 0 rfl rfl 7 (by decide) in_X1_forget_X1 lk_X1_forget_known rfl rfl rfl (Nat.le_of_ble_eq_true rfl) dX1_forget_2 rfl ?_
  exact hret _ _ _ _ _ dX1_forget_5 (by decide) (by decide) rfl
theorem in_X2_init_X4 : ∀ w ∈ u_ws RX4 TX4 2, w ∈ wsX2_init := by decide +kernel
theorem in_X2_init_X2 : ∀ w ∈ u_ws RX2 TX2 3, w ∈ wsX2_init := by decide +kernel
theorem lk_X2_init_top : Cond.fieldLink yX2_init.cls 12 (TX2 0).1 (TX2 0).2.1 (TX2 0).2.2.1 ∈ wsX2_init := by decide +kernel
theorem lk_X2_init_bottom : Cond.fieldLink yX2_init.cls 18 (TX2 1).1 (TX2 1).2.1 (TX2 1).2.2.1 ∈ wsX2_init := by decide +kernel
theorem lk_X2_init_known : Cond.fieldLink yX2_init.cls 21 (TX2 2).1 (TX2 2).2.1 (TX2 2).2.2.1 ∈ wsX2_init := by decide +kernel
theorem nw_X2_init_X4 : Cond.classLink yX2_init.cls 9 RX4 ∈ wsX2_init ∧ Cond.instantiable RX4 2 ∈ wsX2_init ∧ Cond.initialized RX4 ∈ wsX2_init := by decide +kernel
set_option maxHeartbeats 4000000 in
set_option maxRecDepth 100000 in
theorem c_X2_init (E : ev) (l : Launch) (h : Nat) : Mv E l yX2_init wsX2_init { frames := 2, cells := 4, slots := 70, locals := 60 } [.ref h] [(h, .inr (2, [.null, .null, .int (zI 0)]))] (fun w => ∃ ft qt fb qb : Nat, w = [(h, .inr (2, [.ref ft, .ref fb, .int (zI 0)])), cP ft qt (hi zr), aP E qt zr, cP fb qb (hi zr), aP E qb zr]) 4 70 := by
  refine enter_v (cc := cX2_init) (nL := 1) (by decide) rfl (Nat.le_of_ble_eq_true rfl) (fun G C hret => ?_)
  show G 0 0 [(h, .inr (2, [.null, .null, .int (zI 0)]))] [(0, .ref h)] 0 []
  refine g_aload_n C dX2_init_0 0 rfl ?_
  refine g_objInit C (by decide +kernel) (List.mem_cons_of_mem _ (List.mem_of_getElem? (i := 2) rfl)) dX2_init_1 (by decide) (Nat.le_of_ble_eq_true rfl) ?_
  refine g_aload_n C dX2_init_4 0 rfl ?_
  refine g_new (ci := 4) C [.null, .int (zI 0)] tyX4 tyX4_ok rfl in_X2_init_X4 nw_X2_init_X4 (by decide +kernel) (by decide) dX2_init_5 (fun q_5 => ?_)
  refine g_eq (ws' := [(h, .inr (2, [.null, .null, .int (zI 0)])), (q_5, .inr (4, [.null, .int (zI 0)]))]) rfl rfl rfl ?_
  refine g_dup C dX2_init_8 rfl ?_
  refine g_callI (n := 0) (wr := [(h, .inr (2, [.null, .null, .int (zI 0)]))]) C (c_X4_init E l q_5) (Or.inl (by decide +kernel)) gX2_init_X4_init_n11 (by decide +kernel) rfl (by decide +kernel) rfl (by decide) dX2_init_9 rfl (Nat.le_of_ble_eq_true rfl) [1] [0] rfl rfl (by decide) (fun w_9 h_9 => ?_)
  obtain ⟨p_9, rfl⟩ := h_9
  refine g_eq (ws' := [(h, .inr (2, [.null, .null, .int (zI 0)])), cP q_5 p_9 (hi zr), aP E p_9 zr]) rfl rfl rfl ?_
  refine g_putF C [(h, .inr (2, [.ref q_5, .null, .int (zI 0)])), cP q_5 p_9 (hi zr), aP E p_9 zr] tyX2 tyX2_ok nmX2 0 rfl rfl 0 (by decide) in_X2_init_X2 lk_X2_init_top rfl rfl rfl rfl (Nat.le_of_ble_eq_true rfl) dX2_init_12 rfl rfl ?_
  refine g_aload_n C dX2_init_15 0 rfl ?_
  refine g_new (ci := 4) C [.null, .int (zI 0)] tyX4 tyX4_ok rfl in_X2_init_X4 nw_X2_init_X4 (by decide +kernel) (by decide) dX2_init_16 (fun q_16 => ?_)
  refine g_eq (ws' := [(h, .inr (2, [.ref q_5, .null, .int (zI 0)])), cP q_5 p_9 (hi zr), aP E p_9 zr, (q_16, .inr (4, [.null, .int (zI 0)]))]) rfl rfl rfl ?_
  refine g_dup C dX2_init_19 rfl ?_
  refine g_callI (n := 0) (wr := [(h, .inr (2, [.ref q_5, .null, .int (zI 0)])), cP q_5 p_9 (hi zr), aP E p_9 zr]) C (c_X4_init E l q_16) (Or.inl (by decide +kernel)) gX2_init_X4_init_n11 (by decide +kernel) rfl (by decide +kernel) rfl (by decide) dX2_init_20 rfl (Nat.le_of_ble_eq_true rfl) [3] [0, 1, 2] rfl rfl (by decide) (fun w_20 h_20 => ?_)
  obtain ⟨p_20, rfl⟩ := h_20
  refine g_eq (ws' := [(h, .inr (2, [.ref q_5, .null, .int (zI 0)])), cP q_5 p_9 (hi zr), aP E p_9 zr, cP q_16 p_20 (hi zr), aP E p_20 zr]) rfl rfl rfl ?_
  refine g_putF C [(h, .inr (2, [.ref q_5, .ref q_16, .int (zI 0)])), cP q_5 p_9 (hi zr), aP E p_9 zr, cP q_16 p_20 (hi zr), aP E p_20 zr] tyX2 tyX2_ok nmX2 0 rfl rfl 1 (by decide) in_X2_init_X2 lk_X2_init_bottom rfl rfl rfl rfl (Nat.le_of_ble_eq_true rfl) dX2_init_23 rfl rfl ?_
  refine g_aload_n C dX2_init_26 0 rfl ?_
  refine g_iconst C dX2_init_27 ?_
  refine g_put C [(h, .inr (2, [.ref q_5, .ref q_16, .int (zI 0)])), cP q_5 p_9 (hi zr), aP E p_9 zr, cP q_16 p_20 (hi zr), aP E p_20 zr] tyX2 tyX2_ok nmX2 0 rfl rfl 2 (by decide) in_X2_init_X2 lk_X2_init_known rfl rfl rfl (Nat.le_of_ble_eq_true rfl) dX2_init_28 rfl ?_
  exact hret _ _ _ _ _ dX2_init_31 (by decide) (by decide) ⟨q_5, p_9, q_16, p_20, rfl⟩
theorem in_X2_forget_X2 : ∀ w ∈ u_ws RX2 TX2 3, w ∈ wsX2_forget := by decide +kernel
theorem lk_X2_forget_known : Cond.fieldLink yX2_forget.cls 21 (TX2 2).1 (TX2 2).2.1 (TX2 2).2.2.1 ∈ wsX2_forget := by decide +kernel
set_option maxHeartbeats 4000000 in
set_option maxRecDepth 100000 in
theorem c_X2_forget (E : ev) (l : Launch) (hf ft fb : Nat) (k : Int) : Mv E l yX2_forget wsX2_forget { frames := 0, cells := 0, slots := 0, locals := 0 } [.ref hf] [(hf, .inr (2, [.ref ft, .ref fb, .int (zI k)]))] (fun w => w = [(hf, .inr (2, [.ref ft, .ref fb, .int (zI 0)]))]) 0 0 := by
  refine enter_v (cc := cX2_forget) (nL := 1) (by decide) rfl (Nat.le_of_ble_eq_true rfl) (fun G C hret => ?_)
  show G 0 0 [(hf, .inr (2, [.ref ft, .ref fb, .int (zI k)]))] [(0, .ref hf)] 0 []
  refine g_aload_n C dX2_forget_0 0 rfl ?_
  refine g_iconst C dX2_forget_1 ?_
  refine g_put C [(hf, .inr (2, [.ref ft, .ref fb, .int (zI 0)]))] tyX2 tyX2_ok nmX2 0 rfl rfl 2 (by decide) in_X2_forget_X2 lk_X2_forget_known rfl rfl rfl (Nat.le_of_ble_eq_true rfl) dX2_forget_2 rfl ?_
  exact hret _ _ _ _ _ dX2_forget_5 (by decide) (by decide) rfl
theorem in_X2_top_X2 : ∀ w ∈ u_ws RX2 TX2 3, w ∈ wsX2_top := by decide +kernel
theorem lk_X2_top_top : Cond.fieldLink yX2_top.cls 12 (TX2 0).1 (TX2 0).2.1 (TX2 0).2.2.1 ∈ wsX2_top := by decide +kernel
set_option maxHeartbeats 4000000 in
set_option maxRecDepth 100000 in
theorem c_X2_top (E : ev) (l : Launch) (hf ft fb : Nat) (k : Int) : Mr E l yX2_top wsX2_top { frames := 0, cells := 0, slots := 0, locals := 0 } [.ref hf] [(hf, .inr (2, [.ref ft, .ref fb, .int (zI k)]))] (fun r w => r = ft ∧ w = [(hf, .inr (2, [.ref ft, .ref fb, .int (zI k)]))]) 0 0 := by
  refine enter_r (cc := cX2_top) (nL := 1) (by decide) rfl (Nat.le_of_ble_eq_true rfl) (fun G C hret => ?_)
  show G 0 0 [(hf, .inr (2, [.ref ft, .ref fb, .int (zI k)]))] [(0, .ref hf)] 0 []
  refine g_aload_n C dX2_top_0 0 rfl ?_
  refine g_get C 0 rfl rfl 0 (by decide) in_X2_top_X2 lk_X2_top_top rfl dX2_top_1 ?_
  exact hret _ _ _ _ _ _ dX2_top_4 (by decide) (by decide) ⟨rfl, rfl⟩
theorem in_X2_bottom_X2 : ∀ w ∈ u_ws RX2 TX2 3, w ∈ wsX2_bottom := by decide +kernel
theorem lk_X2_bottom_bottom : Cond.fieldLink yX2_bottom.cls 18 (TX2 1).1 (TX2 1).2.1 (TX2 1).2.2.1 ∈ wsX2_bottom := by decide +kernel
set_option maxHeartbeats 4000000 in
set_option maxRecDepth 100000 in
theorem c_X2_bottom (E : ev) (l : Launch) (hf ft fb : Nat) (k : Int) : Mr E l yX2_bottom wsX2_bottom { frames := 0, cells := 0, slots := 0, locals := 0 } [.ref hf] [(hf, .inr (2, [.ref ft, .ref fb, .int (zI k)]))] (fun r w => r = fb ∧ w = [(hf, .inr (2, [.ref ft, .ref fb, .int (zI k)]))]) 0 0 := by
  refine enter_r (cc := cX2_bottom) (nL := 1) (by decide) rfl (Nat.le_of_ble_eq_true rfl) (fun G C hret => ?_)
  show G 0 0 [(hf, .inr (2, [.ref ft, .ref fb, .int (zI k)]))] [(0, .ref hf)] 0 []
  refine g_aload_n C dX2_bottom_0 0 rfl ?_
  refine g_get C 0 rfl rfl 1 (by decide) in_X2_bottom_X2 lk_X2_bottom_bottom rfl dX2_bottom_1 ?_
  exact hret _ _ _ _ _ _ dX2_bottom_4 (by decide) (by decide) ⟨rfl, rfl⟩
theorem in_X2_valueAt_X2 : ∀ w ∈ u_ws RX2 TX2 3, w ∈ wsX2_valueAt := by decide +kernel
theorem lk_X2_valueAt_bottom : Cond.fieldLink yX2_valueAt.cls 18 (TX2 1).1 (TX2 1).2.1 (TX2 1).2.2.1 ∈ wsX2_valueAt := by decide +kernel
theorem lk_X2_valueAt_top : Cond.fieldLink yX2_valueAt.cls 12 (TX2 0).1 (TX2 0).2.1 (TX2 0).2.2.1 ∈ wsX2_valueAt := by decide +kernel
set_option maxHeartbeats 4000000 in
set_option maxRecDepth 100000 in
theorem c_X2_valueAt (E : ev) (l : Launch) (hf ft qt fb qb : Nat) (k : Int) (a b : Po) (v : Fq) (hSa : Sm a) (hSb : Sm b) : Mi E l yX2_valueAt wsX2_valueAt { frames := 2, cells := 0, slots := 0, locals := 60 } [.ref hf, .int (zI (v.val : Int))] [(hf, .inr (2, [.ref ft, .ref fb, .int (zI k)])), cP ft qt (hi a), aP E qt a, cP fb qb (hi b), aP E qb b] (fun r w => r = zI (if val b v = 0 then -1 else ((val a v * ivq (val b v)).val : Int)) ∧ w = [(hf, .inr (2, [.ref ft, .ref fb, .int (zI k)])), cP ft qt (hi a), aP E qt a, cP fb qb (hi b), aP E qb b]) 0 0 := by
  refine enter_i (cc := cX2_valueAt) (nL := 3) (by decide) rfl (Nat.le_of_ble_eq_true rfl) (fun G C hret => ?_)
  show G 0 0 [(hf, .inr (2, [.ref ft, .ref fb, .int (zI k)])), cP ft qt (hi a), aP E qt a, cP fb qb (hi b), aP E qb b] [(0, .ref hf), (1, .int (zI (v.val : Int)))] 0 []
  refine g_aload_n C dX2_valueAt_0 0 rfl ?_
  refine g_get C 0 rfl rfl 1 (by decide) in_X2_valueAt_X2 lk_X2_valueAt_bottom rfl dX2_valueAt_1 ?_
  refine g_iload_n C dX2_valueAt_4 1 rfl ?_
  refine g_callVi (n := 1) (wr := [(hf, .inr (2, [.ref ft, .ref fb, .int (zI k)])), cP ft qt (hi a), aP E qt a]) C (c_X4_valueAt E l fb qb b v hSb) gX2_valueAt_X4_valueAt rfl (by decide +kernel) rfl (by decide) dX2_valueAt_5 rfl (Nat.le_of_ble_eq_true rfl) rfl rfl [3, 4] [0, 1, 2] rfl rfl (by decide) (fun r_5 w_5 h_5 => ?_)
  obtain ⟨rfl, rfl⟩ := h_5
  refine g_eq (ws' := [(hf, .inr (2, [.ref ft, .ref fb, .int (zI k)])), cP ft qt (hi a), aP E qt a, cP fb qb (hi b), aP E qb b]) rfl rfl rfl ?_
  refine g_istore_n C [(2, .int (zI ((val b v).val : Int))), (0, .ref hf), (1, .int (zI (v.val : Int)))] dX2_valueAt_8 (by decide) rfl ?_
  refine g_iload_n C dX2_valueAt_9 0 rfl ?_
  refine g_if_ne C 17 dX2_valueAt_10 (by decide) (by omega) (by omega) (fun c_10 => ?_) (fun c_10 => ?_)
  · refine g_aload_n C dX2_valueAt_17 1 rfl ?_
    refine g_get C 0 rfl rfl 0 (by decide) in_X2_valueAt_X2 lk_X2_valueAt_top rfl dX2_valueAt_18 ?_
    refine g_iload_n C dX2_valueAt_21 2 rfl ?_
    refine g_callVi (n := 1) (wr := [(hf, .inr (2, [.ref ft, .ref fb, .int (zI k)])), cP fb qb (hi b), aP E qb b]) C (c_X4_valueAt E l ft qt a v hSa) gX2_valueAt_X4_valueAt rfl (by decide +kernel) rfl (by decide) dX2_valueAt_22 rfl (Nat.le_of_ble_eq_true rfl) rfl rfl [1, 2] [0, 3, 4] rfl rfl (by decide) (fun r_22 w_22 h_22 => ?_)
    obtain ⟨rfl, rfl⟩ := h_22
    refine g_eq (ws' := [(hf, .inr (2, [.ref ft, .ref fb, .int (zI k)])), cP fb qb (hi b), aP E qb b, cP ft qt (hi a), aP E qt a]) rfl rfl rfl ?_
    refine g_iload_n C dX2_valueAt_25 0 rfl ?_
    refine g_callSNi (n := 1) C (c_X7_inverse E l (val b v)) (by decide +kernel) gX2_valueAt_X7_inverse_n61 (by decide +kernel) rfl (by decide +kernel) rfl (by decide) dX2_valueAt_26 rfl (Nat.le_of_ble_eq_true rfl) (fun r_26 h_26 => ?_)
    obtain ⟨_, rfl, -⟩ := h_26
    refine g_imul C dX2_valueAt_29 ?_
    refine g_sipush C dX2_valueAt_30 rfl ?_
    refine g_mod C dX2_valueAt_33 (by have := fq_mulb (val a v) (ivq (val b v)); omega) (by have := fq_mulb (val a v) (ivq (val b v)); omega) ?_
    refine g_top (zI ((val a v * ivq (val b v)).val : Int)) (congrArg (fun u : Fq => zI (u.val : Int)) (by simp only [cF_mul, cF_of])) ?_
    refine g_wsub (ws' := [(hf, .inr (2, [.ref ft, .ref fb, .int (zI k)])), cP ft qt (hi a), aP E qt a, cP fb qb (hi b), aP E qb b]) C [0, 3, 4, 1, 2] (by decide) rfl rfl ?_
    exact hret _ _ _ _ _ _ dX2_valueAt_34 (by decide) (by decide) ⟨by first | rw [if_pos (fq0 c_10)] | rw [if_neg (fqn c_10)], rfl⟩
  · refine g_iconst C dX2_valueAt_13 ?_
    refine g_goto C 34 dX2_valueAt_14 (by decide) ?_
    exact hret _ _ _ _ _ _ dX2_valueAt_34 (by decide) (by decide) ⟨by first | rw [if_pos (fq0 c_10)] | rw [if_neg (fqn c_10)], rfl⟩
theorem in_X2_renew_X2 : ∀ w ∈ u_ws RX2 TX2 3, w ∈ wsX2_renew := by decide +kernel
theorem lk_X2_renew_known : Cond.fieldLink yX2_renew.cls 21 (TX2 2).1 (TX2 2).2.1 (TX2 2).2.2.1 ∈ wsX2_renew := by decide +kernel
theorem lk_X2_renew_top : Cond.fieldLink yX2_renew.cls 12 (TX2 0).1 (TX2 0).2.1 (TX2 0).2.2.1 ∈ wsX2_renew := by decide +kernel
theorem lk_X2_renew_bottom : Cond.fieldLink yX2_renew.cls 18 (TX2 1).1 (TX2 1).2.1 (TX2 1).2.2.1 ∈ wsX2_renew := by decide +kernel
set_option maxHeartbeats 4000000 in
set_option maxRecDepth 100000 in
theorem c_X2_renew (E : ev) (l : Launch) (hf ft qt fb qb hp t b e qe m dg he ep eb er bb qbb tg pa eo qo ei hd f1 q1 f2 q2 f3 q3 f4 q4 : Nat) (k kp least ke : Int) (ta tb c x y u1 u2 u3 u4 : Po) (hS1 : Sm ta ∧ Sm tb ∧ Sm c ∧ Sm x ∧ Sm y) (hSu : Sm u1 ∧ Sm u2 ∧ Sm u3 ∧ Sm u4) (hx : 0 ≤ hi x) (hy : 0 ≤ hi y) (hc : 0 ≤ hi c) (hxy : hi y + hi x < 33) (hk : k = 0 ∨ (k = 1 ∧ ta = cTop y x c ∧ tb = cBot y x c)) : Mv E l yX2_renew wsX2_renew { frames := 4, cells := 0, slots := 0, locals := 120 } [.ref hf, .ref hp, .ref he, .ref hd] [(hf, .inr (2, [.ref ft, .ref fb, .int (zI k)])), cP ft qt (hi ta), aP E qt ta, cP fb qb (hi tb), aP E qb tb, (hp, .inr (6, [.ref t, .ref b, .ref e, .ref m, .ref dg, .int (zI kp)])), cP e qe (hi c), aP E qe c, (he, .inr (1, [.ref ep, .ref eb, .ref er, .ref bb, .ref tg, .ref pa, .int (zI least), .int (zI ke)])), (er, .inr (3, [.ref eo, .ref ei])), cP eo qo (hi x), aP E qo x, cP bb qbb (hi y), aP E qbb y, (hd, .inr (0, [.ref f1, .ref f2, .ref f3, .ref f4])), cP f1 q1 (hi u1), aP E q1 u1, cP f2 q2 (hi u2), aP E q2 u2, cP f3 q3 (hi u3), aP E q3 u3, cP f4 q4 (hi u4), aP E q4 u4] (fun w => ∃ (v1 v2 v3 v4 : Po), (Sm v1 ∧ Sm v2 ∧ Sm v3 ∧ Sm v4) ∧ w = [(hf, .inr (2, [.ref ft, .ref fb, .int (zI 1)])), cP ft qt (hi (cTop y x c)), aP E qt (cTop y x c), cP fb qb (hi (cBot y x c)), aP E qb (cBot y x c), (hp, .inr (6, [.ref t, .ref b, .ref e, .ref m, .ref dg, .int (zI kp)])), cP e qe (hi c), aP E qe c, (he, .inr (1, [.ref ep, .ref eb, .ref er, .ref bb, .ref tg, .ref pa, .int (zI least), .int (zI ke)])), (er, .inr (3, [.ref eo, .ref ei])), cP eo qo (hi x), aP E qo x, cP bb qbb (hi y), aP E qbb y, (hd, .inr (0, [.ref f1, .ref f2, .ref f3, .ref f4])), cP f1 q1 (hi v1), aP E q1 v1, cP f2 q2 (hi v2), aP E q2 v2, cP f3 q3 (hi v3), aP E q3 v3, cP f4 q4 (hi v4), aP E q4 v4]) 0 0 := by
  refine enter_v (cc := cX2_renew) (nL := 5) (by decide) rfl (Nat.le_of_ble_eq_true rfl) (fun G C hret => ?_)
  show G 0 0 [(hf, .inr (2, [.ref ft, .ref fb, .int (zI k)])), cP ft qt (hi ta), aP E qt ta, cP fb qb (hi tb), aP E qb tb, (hp, .inr (6, [.ref t, .ref b, .ref e, .ref m, .ref dg, .int (zI kp)])), cP e qe (hi c), aP E qe c, (he, .inr (1, [.ref ep, .ref eb, .ref er, .ref bb, .ref tg, .ref pa, .int (zI least), .int (zI ke)])), (er, .inr (3, [.ref eo, .ref ei])), cP eo qo (hi x), aP E qo x, cP bb qbb (hi y), aP E qbb y, (hd, .inr (0, [.ref f1, .ref f2, .ref f3, .ref f4])), cP f1 q1 (hi u1), aP E q1 u1, cP f2 q2 (hi u2), aP E q2 u2, cP f3 q3 (hi u3), aP E q3 u3, cP f4 q4 (hi u4), aP E q4 u4] [(0, .ref hf), (1, .ref hp), (2, .ref he), (3, .ref hd)] 0 []
  refine g_aload_n C dX2_renew_0 0 rfl ?_
  refine g_get C 0 rfl rfl 2 (by decide) in_X2_renew_X2 lk_X2_renew_known rfl dX2_renew_1 ?_
  refine g_if_eq C 8 dX2_renew_4 (by decide) (by omega) (by omega) (fun c_4 => ?_) (fun c_4 => ?_)
  · subst c_4
    have od := conv_dg hS1.2.2.2.2 hS1.2.2.2.1 hy hx hxy
    have oS := conv_Sm hS1.2.2.2.2 hS1.2.2.2.1 hxy
    have og : Sm (cdg y x c) ∧ Mo (cdg y x c) ∧ hi (cdg y x c) ≤ hi (conv y x) ∧ hi (cdg y x c) ≤ hi c := gm_ok oS hS1.2.2.1 (by omega) hc
    refine g_aload_n C dX2_renew_8 0 rfl ?_
    refine g_iconst C dX2_renew_9 ?_
    refine g_put C [(hf, .inr (2, [.ref ft, .ref fb, .int (zI 1)])), cP ft qt (hi ta), aP E qt ta, cP fb qb (hi tb), aP E qb tb, (hp, .inr (6, [.ref t, .ref b, .ref e, .ref m, .ref dg, .int (zI kp)])), cP e qe (hi c), aP E qe c, (he, .inr (1, [.ref ep, .ref eb, .ref er, .ref bb, .ref tg, .ref pa, .int (zI least), .int (zI ke)])), (er, .inr (3, [.ref eo, .ref ei])), cP eo qo (hi x), aP E qo x, cP bb qbb (hi y), aP E qbb y, (hd, .inr (0, [.ref f1, .ref f2, .ref f3, .ref f4])), cP f1 q1 (hi u1), aP E q1 u1, cP f2 q2 (hi u2), aP E q2 u2, cP f3 q3 (hi u3), aP E q3 u3, cP f4 q4 (hi u4), aP E q4 u4] tyX2 tyX2_ok nmX2 0 rfl rfl 2 (by decide) in_X2_renew_X2 lk_X2_renew_known rfl rfl rfl (Nat.le_of_ble_eq_true rfl) dX2_renew_10 rfl ?_
    refine g_aload_n C dX2_renew_13 0 rfl ?_
    refine g_get C 0 rfl rfl 0 (by decide) in_X2_renew_X2 lk_X2_renew_top rfl dX2_renew_14 ?_
    refine g_aload_n C dX2_renew_17 2 rfl ?_
    refine g_callVr (n := 0) (wr := [(hf, .inr (2, [.ref ft, .ref fb, .int (zI 1)])), cP ft qt (hi ta), aP E qt ta, cP fb qb (hi tb), aP E qb tb, (hp, .inr (6, [.ref t, .ref b, .ref e, .ref m, .ref dg, .int (zI kp)])), cP e qe (hi c), aP E qe c, (er, .inr (3, [.ref eo, .ref ei])), cP eo qo (hi x), aP E qo x, cP bb qbb (hi y), aP E qbb y, (hd, .inr (0, [.ref f1, .ref f2, .ref f3, .ref f4])), cP f1 q1 (hi u1), aP E q1 u1, cP f2 q2 (hi u2), aP E q2 u2, cP f3 q3 (hi u3), aP E q3 u3, cP f4 q4 (hi u4), aP E q4 u4]) C (c_X1_bottomBefore E l he ep eb er bb tg pa least ke) gX2_renew_X1_bottomBefore rfl (by decide +kernel) rfl (by decide) dX2_renew_18 rfl (Nat.le_of_ble_eq_true rfl) rfl rfl [8] [0, 1, 2, 3, 4, 5, 6, 7, 9, 10, 11, 12, 13, 14, 15, 16, 17, 18, 19, 20, 21, 22] rfl rfl (by decide) (fun r_18 w_18 h_18 => ?_)
    obtain ⟨hr18, rfl⟩ := h_18
    refine g_eq (ws' := [(hf, .inr (2, [.ref ft, .ref fb, .int (zI 1)])), cP ft qt (hi ta), aP E qt ta, cP fb qb (hi tb), aP E qb tb, (hp, .inr (6, [.ref t, .ref b, .ref e, .ref m, .ref dg, .int (zI kp)])), cP e qe (hi c), aP E qe c, (er, .inr (3, [.ref eo, .ref ei])), cP eo qo (hi x), aP E qo x, cP bb qbb (hi y), aP E qbb y, (hd, .inr (0, [.ref f1, .ref f2, .ref f3, .ref f4])), cP f1 q1 (hi u1), aP E q1 u1, cP f2 q2 (hi u2), aP E q2 u2, cP f3 q3 (hi u3), aP E q3 u3, cP f4 q4 (hi u4), aP E q4 u4, (he, .inr (1, [.ref ep, .ref eb, .ref er, .ref bb, .ref tg, .ref pa, .int (zI least), .int (zI ke)]))]) rfl rfl rfl ?_
    rw [hr18]
    refine g_callV (n := 1) (wr := [(hf, .inr (2, [.ref ft, .ref fb, .int (zI 1)])), cP fb qb (hi tb), aP E qb tb, (hp, .inr (6, [.ref t, .ref b, .ref e, .ref m, .ref dg, .int (zI kp)])), cP e qe (hi c), aP E qe c, (er, .inr (3, [.ref eo, .ref ei])), cP eo qo (hi x), aP E qo x, (hd, .inr (0, [.ref f1, .ref f2, .ref f3, .ref f4])), cP f1 q1 (hi u1), aP E q1 u1, cP f2 q2 (hi u2), aP E q2 u2, cP f3 q3 (hi u3), aP E q3 u3, cP f4 q4 (hi u4), aP E q4 u4, (he, .inr (1, [.ref ep, .ref eb, .ref er, .ref bb, .ref tg, .ref pa, .int (zI least), .int (zI ke)]))]) C (c_X4_copyFrom E l ft qt bb qbb ta y hS1.1 hS1.2.2.2.2) gX2_renew_X4_copyFrom rfl (by decide +kernel) rfl (by decide) dX2_renew_21 rfl (Nat.le_of_ble_eq_true rfl) rfl rfl [1, 2, 11, 12] [0, 3, 4, 5, 6, 7, 8, 9, 10, 13, 14, 15, 16, 17, 18, 19, 20, 21, 22] rfl rfl (by decide) (fun w_21 h_21 => ?_)
    obtain rfl := h_21
    refine g_eq (ws' := [(hf, .inr (2, [.ref ft, .ref fb, .int (zI 1)])), cP fb qb (hi tb), aP E qb tb, (hp, .inr (6, [.ref t, .ref b, .ref e, .ref m, .ref dg, .int (zI kp)])), cP e qe (hi c), aP E qe c, (er, .inr (3, [.ref eo, .ref ei])), cP eo qo (hi x), aP E qo x, (hd, .inr (0, [.ref f1, .ref f2, .ref f3, .ref f4])), cP f1 q1 (hi u1), aP E q1 u1, cP f2 q2 (hi u2), aP E q2 u2, cP f3 q3 (hi u3), aP E q3 u3, cP f4 q4 (hi u4), aP E q4 u4, (he, .inr (1, [.ref ep, .ref eb, .ref er, .ref bb, .ref tg, .ref pa, .int (zI least), .int (zI ke)])), cP ft qt (hi y), aP E qt y, cP bb qbb (hi y), aP E qbb y]) rfl rfl rfl ?_
    refine g_aload_n C dX2_renew_24 0 rfl ?_
    refine g_get C 0 rfl rfl 0 (by decide) in_X2_renew_X2 lk_X2_renew_top rfl dX2_renew_25 ?_
    refine g_aload_n C dX2_renew_28 2 rfl ?_
    refine g_callVr (n := 0) (wr := [(hf, .inr (2, [.ref ft, .ref fb, .int (zI 1)])), cP fb qb (hi tb), aP E qb tb, (hp, .inr (6, [.ref t, .ref b, .ref e, .ref m, .ref dg, .int (zI kp)])), cP e qe (hi c), aP E qe c, cP eo qo (hi x), aP E qo x, (hd, .inr (0, [.ref f1, .ref f2, .ref f3, .ref f4])), cP f1 q1 (hi u1), aP E q1 u1, cP f2 q2 (hi u2), aP E q2 u2, cP f3 q3 (hi u3), aP E q3 u3, cP f4 q4 (hi u4), aP E q4 u4, cP ft qt (hi y), aP E qt y, cP bb qbb (hi y), aP E qbb y]) C (c_X1_solution E l he ep eb er bb tg pa eo ei least ke) gX2_renew_X1_solution rfl (by decide +kernel) rfl (by decide) dX2_renew_29 rfl (Nat.le_of_ble_eq_true rfl) rfl rfl [18, 6] [0, 1, 2, 3, 4, 5, 7, 8, 9, 10, 11, 12, 13, 14, 15, 16, 17, 19, 20, 21, 22] rfl rfl (by decide) (fun r_29 w_29 h_29 => ?_)
    obtain ⟨hr29, rfl⟩ := h_29
    refine g_eq (ws' := [(hf, .inr (2, [.ref ft, .ref fb, .int (zI 1)])), cP fb qb (hi tb), aP E qb tb, (hp, .inr (6, [.ref t, .ref b, .ref e, .ref m, .ref dg, .int (zI kp)])), cP e qe (hi c), aP E qe c, cP eo qo (hi x), aP E qo x, (hd, .inr (0, [.ref f1, .ref f2, .ref f3, .ref f4])), cP f1 q1 (hi u1), aP E q1 u1, cP f2 q2 (hi u2), aP E q2 u2, cP f3 q3 (hi u3), aP E q3 u3, cP f4 q4 (hi u4), aP E q4 u4, cP ft qt (hi y), aP E qt y, cP bb qbb (hi y), aP E qbb y, (he, .inr (1, [.ref ep, .ref eb, .ref er, .ref bb, .ref tg, .ref pa, .int (zI least), .int (zI ke)])), (er, .inr (3, [.ref eo, .ref ei]))]) rfl rfl rfl ?_
    rw [hr29]
    refine g_callV (n := 1) (wr := [(hf, .inr (2, [.ref ft, .ref fb, .int (zI 1)])), cP fb qb (hi tb), aP E qb tb, (hp, .inr (6, [.ref t, .ref b, .ref e, .ref m, .ref dg, .int (zI kp)])), cP e qe (hi c), aP E qe c, (hd, .inr (0, [.ref f1, .ref f2, .ref f3, .ref f4])), cP f1 q1 (hi u1), aP E q1 u1, cP f2 q2 (hi u2), aP E q2 u2, cP f3 q3 (hi u3), aP E q3 u3, cP f4 q4 (hi u4), aP E q4 u4, cP bb qbb (hi y), aP E qbb y, (he, .inr (1, [.ref ep, .ref eb, .ref er, .ref bb, .ref tg, .ref pa, .int (zI least), .int (zI ke)])), (er, .inr (3, [.ref eo, .ref ei]))]) C (c_X4_multiplyBy E l ft qt eo qo y x hS1.2.2.2.2 hS1.2.2.2.1 hy hx hxy) gX2_renew_X4_multiplyBy rfl (by decide +kernel) rfl (by decide) dX2_renew_32 rfl (Nat.le_of_ble_eq_true rfl) rfl rfl [17, 18, 6, 7] [0, 1, 2, 3, 4, 5, 8, 9, 10, 11, 12, 13, 14, 15, 16, 19, 20, 21, 22] rfl rfl (by decide) (fun w_32 h_32 => ?_)
    obtain rfl := h_32
    refine g_eq (ws' := [(hf, .inr (2, [.ref ft, .ref fb, .int (zI 1)])), cP fb qb (hi tb), aP E qb tb, (hp, .inr (6, [.ref t, .ref b, .ref e, .ref m, .ref dg, .int (zI kp)])), cP e qe (hi c), aP E qe c, (hd, .inr (0, [.ref f1, .ref f2, .ref f3, .ref f4])), cP f1 q1 (hi u1), aP E q1 u1, cP f2 q2 (hi u2), aP E q2 u2, cP f3 q3 (hi u3), aP E q3 u3, cP f4 q4 (hi u4), aP E q4 u4, cP bb qbb (hi y), aP E qbb y, (he, .inr (1, [.ref ep, .ref eb, .ref er, .ref bb, .ref tg, .ref pa, .int (zI least), .int (zI ke)])), (er, .inr (3, [.ref eo, .ref ei])), cP ft qt (hi (conv y x)), aP E qt (conv y x), cP eo qo (hi x), aP E qo x]) rfl rfl rfl ?_
    refine g_aload_n C dX2_renew_35 0 rfl ?_
    refine g_get C 0 rfl rfl 1 (by decide) in_X2_renew_X2 lk_X2_renew_bottom rfl dX2_renew_36 ?_
    refine g_aload_n C dX2_renew_39 1 rfl ?_
    refine g_iconst C dX2_renew_40 ?_
    refine g_callVr (n := 1) (wr := [(hf, .inr (2, [.ref ft, .ref fb, .int (zI 1)])), cP fb qb (hi tb), aP E qb tb, cP e qe (hi c), aP E qe c, (hd, .inr (0, [.ref f1, .ref f2, .ref f3, .ref f4])), cP f1 q1 (hi u1), aP E q1 u1, cP f2 q2 (hi u2), aP E q2 u2, cP f3 q3 (hi u3), aP E q3 u3, cP f4 q4 (hi u4), aP E q4 u4, cP bb qbb (hi y), aP E qbb y, (he, .inr (1, [.ref ep, .ref eb, .ref er, .ref bb, .ref tg, .ref pa, .int (zI least), .int (zI ke)])), (er, .inr (3, [.ref eo, .ref ei])), cP ft qt (hi (conv y x)), aP E qt (conv y x), cP eo qo (hi x), aP E qo x]) C (c_X6_part E l hp t b e m dg kp 2 (by omega) (by omega)) gX2_renew_X6_part rfl (by decide +kernel) rfl (by decide) dX2_renew_41 rfl (Nat.le_of_ble_eq_true rfl) rfl rfl [3] [0, 1, 2, 4, 5, 6, 7, 8, 9, 10, 11, 12, 13, 14, 15, 16, 17, 18, 19, 20, 21, 22] rfl rfl (by decide) (fun r_41 w_41 h_41 => ?_)
    obtain ⟨hr41, rfl⟩ := h_41
    refine g_eq (ws' := [(hf, .inr (2, [.ref ft, .ref fb, .int (zI 1)])), cP fb qb (hi tb), aP E qb tb, cP e qe (hi c), aP E qe c, (hd, .inr (0, [.ref f1, .ref f2, .ref f3, .ref f4])), cP f1 q1 (hi u1), aP E q1 u1, cP f2 q2 (hi u2), aP E q2 u2, cP f3 q3 (hi u3), aP E q3 u3, cP f4 q4 (hi u4), aP E q4 u4, cP bb qbb (hi y), aP E qbb y, (he, .inr (1, [.ref ep, .ref eb, .ref er, .ref bb, .ref tg, .ref pa, .int (zI least), .int (zI ke)])), (er, .inr (3, [.ref eo, .ref ei])), cP ft qt (hi (conv y x)), aP E qt (conv y x), cP eo qo (hi x), aP E qo x, (hp, .inr (6, [.ref t, .ref b, .ref e, .ref m, .ref dg, .int (zI kp)]))]) rfl rfl rfl ?_
    rw [hr41, if_neg (by decide), if_neg (by decide)]
    refine g_callV (n := 1) (wr := [(hf, .inr (2, [.ref ft, .ref fb, .int (zI 1)])), (hd, .inr (0, [.ref f1, .ref f2, .ref f3, .ref f4])), cP f1 q1 (hi u1), aP E q1 u1, cP f2 q2 (hi u2), aP E q2 u2, cP f3 q3 (hi u3), aP E q3 u3, cP f4 q4 (hi u4), aP E q4 u4, cP bb qbb (hi y), aP E qbb y, (he, .inr (1, [.ref ep, .ref eb, .ref er, .ref bb, .ref tg, .ref pa, .int (zI least), .int (zI ke)])), (er, .inr (3, [.ref eo, .ref ei])), cP ft qt (hi (conv y x)), aP E qt (conv y x), cP eo qo (hi x), aP E qo x, (hp, .inr (6, [.ref t, .ref b, .ref e, .ref m, .ref dg, .int (zI kp)]))]) C (c_X4_copyFrom E l fb qb e qe tb c hS1.2.1 hS1.2.2.1) gX2_renew_X4_copyFrom rfl (by decide +kernel) rfl (by decide) dX2_renew_44 rfl (Nat.le_of_ble_eq_true rfl) rfl rfl [1, 2, 3, 4] [0, 5, 6, 7, 8, 9, 10, 11, 12, 13, 14, 15, 16, 17, 18, 19, 20, 21, 22] rfl rfl (by decide) (fun w_44 h_44 => ?_)
    obtain rfl := h_44
    refine g_eq (ws' := [(hf, .inr (2, [.ref ft, .ref fb, .int (zI 1)])), (hd, .inr (0, [.ref f1, .ref f2, .ref f3, .ref f4])), cP f1 q1 (hi u1), aP E q1 u1, cP f2 q2 (hi u2), aP E q2 u2, cP f3 q3 (hi u3), aP E q3 u3, cP f4 q4 (hi u4), aP E q4 u4, cP bb qbb (hi y), aP E qbb y, (he, .inr (1, [.ref ep, .ref eb, .ref er, .ref bb, .ref tg, .ref pa, .int (zI least), .int (zI ke)])), (er, .inr (3, [.ref eo, .ref ei])), cP ft qt (hi (conv y x)), aP E qt (conv y x), cP eo qo (hi x), aP E qo x, (hp, .inr (6, [.ref t, .ref b, .ref e, .ref m, .ref dg, .int (zI kp)])), cP fb qb (hi c), aP E qb c, cP e qe (hi c), aP E qe c]) rfl rfl rfl ?_
    refine g_aload_n C dX2_renew_47 3 rfl ?_
    refine g_aload_n C dX2_renew_48 0 rfl ?_
    refine g_get C 0 rfl rfl 0 (by decide) in_X2_renew_X2 lk_X2_renew_top rfl dX2_renew_49 ?_
    refine g_aload_n C dX2_renew_52 0 rfl ?_
    refine g_get C 0 rfl rfl 1 (by decide) in_X2_renew_X2 lk_X2_renew_bottom rfl dX2_renew_53 ?_
    refine g_callVr (n := 2) (wr := [(hf, .inr (2, [.ref ft, .ref fb, .int (zI 1)])), cP bb qbb (hi y), aP E qbb y, (he, .inr (1, [.ref ep, .ref eb, .ref er, .ref bb, .ref tg, .ref pa, .int (zI least), .int (zI ke)])), (er, .inr (3, [.ref eo, .ref ei])), cP eo qo (hi x), aP E qo x, (hp, .inr (6, [.ref t, .ref b, .ref e, .ref m, .ref dg, .int (zI kp)])), cP e qe (hi c), aP E qe c]) C (c_X0_commonDivisor E l hd f1 q1 f2 q2 f3 q3 f4 q4 ft qt fb qb u1 u2 u3 u4 (conv y x) c hSu.1 hSu.2.1 hSu.2.2.1 hSu.2.2.2 oS hS1.2.2.1) gX2_renew_X0_commonDivisor rfl (by decide +kernel) rfl (by decide) dX2_renew_56 rfl (Nat.le_of_ble_eq_true rfl) rfl rfl [1, 2, 3, 4, 5, 6, 7, 8, 9, 14, 15, 19, 20] [0, 10, 11, 12, 13, 16, 17, 18, 21, 22] rfl rfl (by decide) (fun r_56 w_56 h_56 => ?_)
    obtain ⟨hr56, z1, z2, z3, ⟨hz1, hz2, hz3⟩, rfl⟩ := h_56
    refine g_eq (ws' := [(hf, .inr (2, [.ref ft, .ref fb, .int (zI 1)])), cP bb qbb (hi y), aP E qbb y, (he, .inr (1, [.ref ep, .ref eb, .ref er, .ref bb, .ref tg, .ref pa, .int (zI least), .int (zI ke)])), (er, .inr (3, [.ref eo, .ref ei])), cP eo qo (hi x), aP E qo x, (hp, .inr (6, [.ref t, .ref b, .ref e, .ref m, .ref dg, .int (zI kp)])), cP e qe (hi c), aP E qe c, (hd, .inr (0, [.ref f1, .ref f2, .ref f3, .ref f4])), cP f1 q1 (hi z1), aP E q1 z1, cP f2 q2 (hi z2), aP E q2 z2, cP f3 q3 (hi z3), aP E q3 z3, cP f4 q4 (hi (cdg y x c)), aP E q4 (cdg y x c), cP ft qt (hi (conv y x)), aP E qt (conv y x), cP fb qb (hi c), aP E qb c]) rfl rfl rfl ?_
    rw [hr56]
    refine g_astore C [(4, .ref f4), (0, .ref hf), (1, .ref hp), (2, .ref he), (3, .ref hd)] dX2_renew_59 (by decide) rfl ?_
    refine g_aload_n C dX2_renew_61 4 rfl ?_
    refine g_aload_n C dX2_renew_62 1 rfl ?_
    refine g_get C 0 rfl rfl 0 (by decide) in_X2_renew_X2 lk_X2_renew_top rfl dX2_renew_63 ?_
    refine g_aload C dX2_renew_66 0 rfl ?_
    refine g_callV (n := 2) (wr := [(hf, .inr (2, [.ref ft, .ref fb, .int (zI 1)])), cP bb qbb (hi y), aP E qbb y, (he, .inr (1, [.ref ep, .ref eb, .ref er, .ref bb, .ref tg, .ref pa, .int (zI least), .int (zI ke)])), (er, .inr (3, [.ref eo, .ref ei])), cP eo qo (hi x), aP E qo x, (hp, .inr (6, [.ref t, .ref b, .ref e, .ref m, .ref dg, .int (zI kp)])), cP e qe (hi c), aP E qe c, cP f1 q1 (hi z1), aP E q1 z1, cP f2 q2 (hi z2), aP E q2 z2, cP fb qb (hi c), aP E qb c]) C (c_X0_divideOut E l hd f1 f2 f3 q3 f4 ft qt f4 q4 z3 (conv y x) (cdg y x c) hz3 oS og.1 og.2.1.pos) gX2_renew_X0_divideOut rfl (by decide +kernel) rfl (by decide) dX2_renew_68 rfl (Nat.le_of_ble_eq_true rfl) rfl rfl [10, 15, 16, 19, 20, 17, 18] [0, 1, 2, 3, 4, 5, 6, 7, 8, 9, 11, 12, 13, 14, 21, 22] rfl rfl (by decide) (fun w_68 h_68 => ?_)
    obtain rfl := h_68
    refine g_eq (ws' := [(hf, .inr (2, [.ref ft, .ref fb, .int (zI 1)])), cP bb qbb (hi y), aP E qbb y, (he, .inr (1, [.ref ep, .ref eb, .ref er, .ref bb, .ref tg, .ref pa, .int (zI least), .int (zI ke)])), (er, .inr (3, [.ref eo, .ref ei])), cP eo qo (hi x), aP E qo x, (hp, .inr (6, [.ref t, .ref b, .ref e, .ref m, .ref dg, .int (zI kp)])), cP e qe (hi c), aP E qe c, cP f1 q1 (hi z1), aP E q1 z1, cP f2 q2 (hi z2), aP E q2 z2, cP fb qb (hi c), aP E qb c, (hd, .inr (0, [.ref f1, .ref f2, .ref f3, .ref f4])), cP f3 q3 (hi (quo (conv y x) (cdg y x c))), aP E q3 (quo (conv y x) (cdg y x c)), cP ft qt (hi (cTop y x c)), aP E qt (cTop y x c), cP f4 q4 (hi (cdg y x c)), aP E q4 (cdg y x c)]) rfl rfl rfl ?_
    refine g_aload_n C dX2_renew_71 4 rfl ?_
    refine g_aload_n C dX2_renew_72 1 rfl ?_
    refine g_get C 0 rfl rfl 1 (by decide) in_X2_renew_X2 lk_X2_renew_bottom rfl dX2_renew_73 ?_
    refine g_aload C dX2_renew_76 0 rfl ?_
    refine g_callV (n := 2) (wr := [(hf, .inr (2, [.ref ft, .ref fb, .int (zI 1)])), cP bb qbb (hi y), aP E qbb y, (he, .inr (1, [.ref ep, .ref eb, .ref er, .ref bb, .ref tg, .ref pa, .int (zI least), .int (zI ke)])), (er, .inr (3, [.ref eo, .ref ei])), cP eo qo (hi x), aP E qo x, (hp, .inr (6, [.ref t, .ref b, .ref e, .ref m, .ref dg, .int (zI kp)])), cP e qe (hi c), aP E qe c, cP f1 q1 (hi z1), aP E q1 z1, cP f2 q2 (hi z2), aP E q2 z2, cP ft qt (hi (cTop y x c)), aP E qt (cTop y x c)]) C (c_X0_divideOut E l hd f1 f2 f3 q3 f4 fb qb f4 q4 (quo (conv y x) (cdg y x c)) c (cdg y x c) (quo_Sm oS og.1 og.2.1.pos) hS1.2.2.1 og.1 og.2.1.pos) gX2_renew_X0_divideOut rfl (by decide +kernel) rfl (by decide) dX2_renew_78 rfl (Nat.le_of_ble_eq_true rfl) rfl rfl [16, 17, 18, 14, 15, 21, 22] [0, 1, 2, 3, 4, 5, 6, 7, 8, 9, 10, 11, 12, 13, 19, 20] rfl rfl (by decide) (fun w_78 h_78 => ?_)
    obtain rfl := h_78
    refine g_eq (ws' := [(hf, .inr (2, [.ref ft, .ref fb, .int (zI 1)])), cP bb qbb (hi y), aP E qbb y, (he, .inr (1, [.ref ep, .ref eb, .ref er, .ref bb, .ref tg, .ref pa, .int (zI least), .int (zI ke)])), (er, .inr (3, [.ref eo, .ref ei])), cP eo qo (hi x), aP E qo x, (hp, .inr (6, [.ref t, .ref b, .ref e, .ref m, .ref dg, .int (zI kp)])), cP e qe (hi c), aP E qe c, cP f1 q1 (hi z1), aP E q1 z1, cP f2 q2 (hi z2), aP E q2 z2, cP ft qt (hi (cTop y x c)), aP E qt (cTop y x c), (hd, .inr (0, [.ref f1, .ref f2, .ref f3, .ref f4])), cP f3 q3 (hi (quo c (cdg y x c))), aP E q3 (quo c (cdg y x c)), cP fb qb (hi (cBot y x c)), aP E qb (cBot y x c), cP f4 q4 (hi (cdg y x c)), aP E q4 (cdg y x c)]) rfl rfl rfl ?_
    refine g_wsub (ws' := [(hf, .inr (2, [.ref ft, .ref fb, .int (zI 1)])), cP ft qt (hi (cTop y x c)), aP E qt (cTop y x c), cP fb qb (hi (cBot y x c)), aP E qb (cBot y x c), (hp, .inr (6, [.ref t, .ref b, .ref e, .ref m, .ref dg, .int (zI kp)])), cP e qe (hi c), aP E qe c, (he, .inr (1, [.ref ep, .ref eb, .ref er, .ref bb, .ref tg, .ref pa, .int (zI least), .int (zI ke)])), (er, .inr (3, [.ref eo, .ref ei])), cP eo qo (hi x), aP E qo x, cP bb qbb (hi y), aP E qbb y, (hd, .inr (0, [.ref f1, .ref f2, .ref f3, .ref f4])), cP f1 q1 (hi z1), aP E q1 z1, cP f2 q2 (hi z2), aP E q2 z2, cP f3 q3 (hi (quo c (cdg y x c))), aP E q3 (quo c (cdg y x c)), cP f4 q4 (hi (cdg y x c)), aP E q4 (cdg y x c)]) C [0, 14, 15, 19, 20, 7, 8, 9, 3, 4, 5, 6, 1, 2, 16, 10, 11, 12, 13, 17, 18, 21, 22] (by decide) rfl rfl ?_
    exact hret _ _ _ _ _ dX2_renew_81 (by decide) (by decide) ⟨z1, z2, quo c (cdg y x c), cdg y x c, ⟨hz1, hz2, quo_Sm hS1.2.2.1 og.1 og.2.1.pos, og.1⟩, rfl⟩
  · rcases hk with hk | ⟨rfl, rfl, rfl⟩
    · exact absurd hk c_4
    · exact hret _ _ _ _ _ dX2_renew_7 (by decide) (by decide) ⟨u1, u2, u3, u4, hSu, rfl⟩
