theorem in_X4_init_X4 : ∀ w ∈ u_ws RX4 TX4 2, w ∈ wsX4_init := by decide +kernel
theorem lk_X4_init_numbers : Cond.fieldLink yX4_init.cls 11 (TX4 0).1 (TX4 0).2.1 (TX4 0).2.2.1 ∈ wsX4_init := by decide +kernel
theorem lk_X4_init_highest : Cond.fieldLink yX4_init.cls 15 (TX4 1).1 (TX4 1).2.1 (TX4 1).2.2.1 ∈ wsX4_init := by decide +kernel
set_option maxHeartbeats 4000000 in
set_option maxRecDepth 100000 in
theorem c_X4_init (E : ev) (l : Launch) (h : Nat) : Mv E l yX4_init wsX4_init { frames := 1, cells := 1, slots := 33, locals := 30 } [.ref h] [(h, .inr (4, [.null, .int (zI 0)]))] (fun w => ∃ q : Nat, w = [cP h q (hi zr), aP E q zr]) 1 33 := by
  refine enter_v (cc := cX4_init) (nL := 1) (by decide) rfl (Nat.le_of_ble_eq_true rfl) (fun G C hret => ?_)
  show G 0 0 [(h, .inr (4, [.null, .int (zI 0)]))] [(0, .ref h)] 0 []
  refine g_aload_n C dX4_init_0 0 rfl ?_
  refine g_objInit C (by decide +kernel) (List.mem_cons_of_mem _ (List.mem_of_getElem? (i := 2) rfl)) dX4_init_1 (by decide) (Nat.le_of_ble_eq_true rfl) ?_
  refine g_aload_n C dX4_init_4 0 rfl ?_
  refine g_bipush C dX4_init_5 rfl ?_
  refine g_newaI C 33 (pv zr) rfl (by decide +kernel) rfl (by decide) (by decide) dX4_init_7 (fun q_7 => ?_)
  refine g_eq (ws' := [(h, .inr (4, [.null, .int (zI 0)])), aP E q_7 zr]) rfl rfl rfl ?_
  refine g_putF C [cP h q_7 0, aP E q_7 zr] tyX4 tyX4_ok nmX4 0 rfl rfl 0 (by decide) in_X4_init_X4 lk_X4_init_numbers rfl rfl rfl rfl (Nat.le_of_ble_eq_true rfl) dX4_init_9 rfl rfl ?_
  refine g_aload_n C dX4_init_12 0 rfl ?_
  refine g_iconst C dX4_init_13 ?_
  refine g_put C [cP h q_7 (-1), aP E q_7 zr] tyX4 tyX4_ok nmX4 0 rfl rfl 1 (by decide) in_X4_init_X4 lk_X4_init_highest rfl rfl rfl (Nat.le_of_ble_eq_true rfl) dX4_init_14 rfl ?_
  exact hret _ _ _ _ _ dX4_init_17 (by decide) (by decide) ⟨q_7, by rw [hi_zr]⟩
