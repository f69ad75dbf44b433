theorem in_X4_highest_X4 : ∀ w ∈ u_ws RX4 TX4 2, w ∈ wsX4_highest := by decide +kernel
theorem lk_X4_highest_highest : Cond.fieldLink yX4_highest.cls 15 (TX4 1).1 (TX4 1).2.1 (TX4 1).2.2.1 ∈ wsX4_highest := by decide +kernel
set_option maxHeartbeats 4000000 in
set_option maxRecDepth 100000 in
theorem c_X4_highest (E : ev) (l : Launch) (h q : Nat) (a : Po)  : Mi E l yX4_highest wsX4_highest { frames := 0, cells := 0, slots := 0, locals := 0 } [.ref h] [cP h q (hi a), aP E q a] (fun r w => r = zI (hi a) ∧ w = [cP h q (hi a), aP E q a]) 0 0 := by
  refine enter_i (cc := cX4_highest) (nL := 1) (by decide) rfl (Nat.le_of_ble_eq_true rfl) (fun G C hret => ?_)
  show G 0 0 [cP h q (hi a), aP E q a] [(0, .ref h)] 0 []
  refine g_aload_n C dX4_highest_0 0 rfl ?_
  refine g_get C 0 rfl rfl 1 (by decide) in_X4_highest_X4 lk_X4_highest_highest rfl dX4_highest_1 ?_
  exact hret _ _ _ _ _ _ dX4_highest_4 (by decide) (by decide) ⟨rfl, rfl⟩
theorem in_X4_isZero_X4 : ∀ w ∈ u_ws RX4 TX4 2, w ∈ wsX4_isZero := by decide +kernel
theorem lk_X4_isZero_highest : Cond.fieldLink yX4_isZero.cls 15 (TX4 1).1 (TX4 1).2.1 (TX4 1).2.2.1 ∈ wsX4_isZero := by decide +kernel
set_option maxHeartbeats 4000000 in
set_option maxRecDepth 100000 in
theorem c_X4_isZero (E : ev) (l : Launch) (h q : Nat) (a : Po)  : Mi E l yX4_isZero wsX4_isZero { frames := 0, cells := 0, slots := 0, locals := 0 } [.ref h] [cP h q (hi a), aP E q a] (fun r w => r = zI (if hi a < 0 then 1 else 0) ∧ w = [cP h q (hi a), aP E q a]) 0 0 := by
  refine enter_z (cc := cX4_isZero) (nL := 1) (by decide) rfl (Nat.le_of_ble_eq_true rfl) (fun G C hret => ?_)
  show G 0 0 [cP h q (hi a), aP E q a] [(0, .ref h)] 0 []
  have hlo := hi_lo a
  refine g_aload_n C dX4_isZero_0 0 rfl ?_
  refine g_get C 0 rfl rfl 1 (by decide) in_X4_isZero_X4 lk_X4_isZero_highest rfl dX4_isZero_1 ?_
  refine g_if_ge C 11 dX4_isZero_4 (by decide) (by omega) (by omega) (fun c_4 => ?_) (fun c_4 => ?_)
  · refine g_iconst C dX4_isZero_11 ?_
    exact hret _ _ _ _ _ _ dX4_isZero_12 (by decide) (by decide) rfl ⟨by first | rw [if_pos (by omega)] | rw [if_neg (by omega)], rfl⟩
  · refine g_iconst C dX4_isZero_7 ?_
    refine g_goto C 12 dX4_isZero_8 (by decide) ?_
    exact hret _ _ _ _ _ _ dX4_isZero_12 (by decide) (by decide) rfl ⟨by first | rw [if_pos (by omega)] | rw [if_neg (by omega)], rfl⟩
theorem in_X4_number_X4 : ∀ w ∈ u_ws RX4 TX4 2, w ∈ wsX4_number := by decide +kernel
theorem lk_X4_number_numbers : Cond.fieldLink yX4_number.cls 11 (TX4 0).1 (TX4 0).2.1 (TX4 0).2.2.1 ∈ wsX4_number := by decide +kernel
set_option maxHeartbeats 4000000 in
set_option maxRecDepth 100000 in
theorem c_X4_numberG (E : ev) (l : Launch) (h q : Nat) (a : Po) (x0 p : Int) (hS : Sm a) (p1 : -2147483648 ≤ p) (p2 : p < 2147483648) : Mi E l yX4_number wsX4_number { frames := 0, cells := 0, slots := 0, locals := 0 } [.ref h, .int (zI p)] [cP h q x0, aP E q a] (fun r w => r = zI ((nm a p).val : Int) ∧ w = [cP h q x0, aP E q a]) 0 0 := by
  refine enter_i (cc := cX4_number) (nL := 2) (by decide) rfl (Nat.le_of_ble_eq_true rfl) (fun G C hret => ?_)
  show G 0 0 [cP h q x0, aP E q a] [(0, .ref h), (1, .int (zI p))] 0 []
  refine g_iload_n C dX4_number_0 1 rfl ?_
  refine g_if_lt C 13 dX4_number_1 (by decide) (by omega) (by omega) (fun c_1 => ?_) (fun c_1 => ?_)
  · refine g_iconst C dX4_number_13 ?_
    refine g_goto C 23 dX4_number_14 (by decide) ?_
    exact hret _ _ _ _ _ _ dX4_number_23 (by decide) (by decide) ⟨by first | (rw [nm_neg (by omega)]; rfl) | (rw [nm_big hS (by omega)]; rfl) | rw [nm_pos (by omega)], rfl⟩
  · refine g_iload_n C dX4_number_4 1 rfl ?_
    refine g_aload_n C dX4_number_5 0 rfl ?_
    refine g_get C 0 rfl rfl 0 (by decide) in_X4_number_X4 lk_X4_number_numbers rfl dX4_number_6 ?_
    refine g_alen C 1 rfl dX4_number_9 ?_
    refine g_icmp_lt C 17 dX4_number_10 (by decide) (by omega) (by omega) (by omega) (by omega) (fun c_10 => ?_) (fun c_10 => ?_)
    · refine g_aload_n C dX4_number_17 0 rfl ?_
      refine g_get C 0 rfl rfl 0 (by decide) in_X4_number_X4 lk_X4_number_numbers rfl dX4_number_18 ?_
      refine g_iload_n C dX4_number_21 1 rfl ?_
      refine g_iald C 1 p.toNat rfl (by omega) (by omega) (by decide) dX4_number_22 ?_
      exact hret _ _ _ _ _ _ dX4_number_23 (by decide) (by decide) ⟨by first | (rw [nm_neg (by omega)]; rfl) | (rw [nm_big hS (by omega)]; rfl) | rw [nm_pos (by omega)], rfl⟩
    · refine g_iconst C dX4_number_13 ?_
      refine g_goto C 23 dX4_number_14 (by decide) ?_
      exact hret _ _ _ _ _ _ dX4_number_23 (by decide) (by decide) ⟨by first | (rw [nm_neg (by omega)]; rfl) | (rw [nm_big hS (by omega)]; rfl) | rw [nm_pos (by omega)], rfl⟩
theorem c_X4_number (E : ev) (l : Launch) (h q : Nat) (a : Po) (p : Int) (hS : Sm a) (p1 : -2147483648 ≤ p) (p2 : p < 2147483648) : Mi E l yX4_number wsX4_number { frames := 0, cells := 0, slots := 0, locals := 0 } [.ref h, .int (zI p)] [cP h q (hi a), aP E q a] (fun r w => r = zI ((nm a p).val : Int) ∧ w = [cP h q (hi a), aP E q a]) 0 0 := c_X4_numberG E l h q a (hi a) p hS p1 p2
theorem in_X4_leading_X4 : ∀ w ∈ u_ws RX4 TX4 2, w ∈ wsX4_leading := by decide +kernel
theorem lk_X4_leading_highest : Cond.fieldLink yX4_leading.cls 15 (TX4 1).1 (TX4 1).2.1 (TX4 1).2.2.1 ∈ wsX4_leading := by decide +kernel
set_option maxHeartbeats 4000000 in
set_option maxRecDepth 100000 in
theorem c_X4_leading (E : ev) (l : Launch) (h q : Nat) (a : Po) (hS : Sm a) : Mi E l yX4_leading wsX4_leading { frames := 1, cells := 0, slots := 0, locals := 30 } [.ref h] [cP h q (hi a), aP E q a] (fun r w => r = zI ((nm a (hi a)).val : Int) ∧ w = [cP h q (hi a), aP E q a]) 0 0 := by
  refine enter_i (cc := cX4_leading) (nL := 1) (by decide) rfl (Nat.le_of_ble_eq_true rfl) (fun G C hret => ?_)
  show G 0 0 [cP h q (hi a), aP E q a] [(0, .ref h)] 0 []
  have hlo := hi_lo a
  refine g_aload_n C dX4_leading_0 0 rfl ?_
  refine g_aload_n C dX4_leading_1 0 rfl ?_
  refine g_get C 0 rfl rfl 1 (by decide) in_X4_leading_X4 lk_X4_leading_highest rfl dX4_leading_2 ?_
  refine g_callVi (n := 1) (wr := []) C (c_X4_number E l h q a (hi a) hS (by omega) (by omega)) gX4_leading_X4_number rfl (by decide +kernel) rfl (by decide) dX4_leading_5 rfl (Nat.le_of_ble_eq_true rfl) rfl rfl [0, 1] [] rfl rfl (by decide) (fun r_5 w_5 h_5 => ?_)
  obtain ⟨rfl, rfl⟩ := h_5
  refine g_eq (ws' := [cP h q (hi a), aP E q a]) rfl rfl rfl ?_
  exact hret _ _ _ _ _ _ dX4_leading_8 (by decide) (by decide) ⟨rfl, rfl⟩
theorem in_X4_settle_X4 : ∀ w ∈ u_ws RX4 TX4 2, w ∈ wsX4_settle := by decide +kernel
theorem lk_X4_settle_numbers : Cond.fieldLink yX4_settle.cls 11 (TX4 0).1 (TX4 0).2.1 (TX4 0).2.2.1 ∈ wsX4_settle := by decide +kernel
theorem lk_X4_settle_highest : Cond.fieldLink yX4_settle.cls 15 (TX4 1).1 (TX4 1).2.1 (TX4 1).2.2.1 ∈ wsX4_settle := by decide +kernel
set_option maxHeartbeats 4000000 in
set_option maxRecDepth 100000 in
theorem c_X4_settle (E : ev) (l : Launch) (h q : Nat) (a : Po) (x0 f : Int) (hS : Sm a) (f1 : -1 ≤ f) (f2 : f < 2147483648) (hz : ∀ j : Nat, f < (j : Int) → a j = 0) : Mv E l yX4_settle wsX4_settle { frames := 0, cells := 0, slots := 0, locals := 0 } [.ref h, .int (zI f)] [cP h q x0, aP E q a] (fun w => w = [cP h q (hi a), aP E q a]) 0 0 := by
  refine enter_v (cc := cX4_settle) (nL := 3) (by decide) rfl (Nat.le_of_ble_eq_true rfl) (fun G C hret => ?_)
  show G 0 0 [cP h q x0, aP E q a] [(0, .ref h), (1, .int (zI f))] 0 []
  refine g_iload_n C dX4_settle_0 1 rfl ?_
  refine g_aload_n C dX4_settle_1 0 rfl ?_
  refine g_get C 0 rfl rfl 0 (by decide) in_X4_settle_X4 lk_X4_settle_numbers rfl dX4_settle_2 ?_
  refine g_alen C 1 rfl dX4_settle_5 ?_
  refine g_icmp_ge C 13 dX4_settle_6 (by decide) (by omega) (by omega) (by omega) (by omega) (fun c_6 => ?_) (fun c_6 => ?_)
  · refine g_aload_n C dX4_settle_13 0 rfl ?_
    refine g_get C 0 rfl rfl 0 (by decide) in_X4_settle_X4 lk_X4_settle_numbers rfl dX4_settle_14 ?_
    refine g_alen C 1 rfl dX4_settle_17 ?_
    refine g_iconst C dX4_settle_18 ?_
    refine g_isub C dX4_settle_19 ?_
    refine g_istore_n C [(2, .int (zI (((33 : Nat) : Int) - 1))), (0, .ref h), (1, .int (zI f))] dX4_settle_20 (by decide) rfl ?_
    have lp_s : ∀ (n_s : Nat) (x : Int), (-1 ≤ x) → (x < 33) → (∀ j : Nat, x < (j : Int) → a j = 0) → (x + 1).toNat < n_s → G 0 0 [cP h q x0, aP E q a] [(2, .int (zI x)), (0, .ref h), (1, .int (zI f))] 21 [] := by
      intro n_s
      induction n_s with
      | zero =>
        intro x x1 x2 xz hm_s
        exact absurd hm_s (by omega)
      | succ n_s ih_s =>
        intro x x1 x2 xz hm_s
        refine g_iload_n C dX4_settle_21 0 rfl ?_
        refine g_if_lt C 40 dX4_settle_22 (by decide) (by omega) (by omega) (fun c_22 => ?_) (fun c_22 => ?_)
        · have e : hi a = x := hi_eq (by omega) (by omega) (fun g => absurd g (by omega)) xz
          refine g_aload_n C dX4_settle_40 1 rfl ?_
          refine g_iload_n C dX4_settle_41 0 rfl ?_
          refine g_put C [cP h q x, aP E q a] tyX4 tyX4_ok nmX4 0 rfl rfl 1 (by decide) in_X4_settle_X4 lk_X4_settle_highest rfl rfl rfl (Nat.le_of_ble_eq_true rfl) dX4_settle_42 rfl ?_
          exact hret _ _ _ _ _ dX4_settle_45 (by decide) (by decide) (by rw [e])
        · refine g_aload_n C dX4_settle_25 1 rfl ?_
          refine g_get C 0 rfl rfl 0 (by decide) in_X4_settle_X4 lk_X4_settle_numbers rfl dX4_settle_26 ?_
          refine g_iload_n C dX4_settle_29 0 rfl ?_
          refine g_iald C 1 x.toNat rfl (by omega) (by omega) (by decide) dX4_settle_30 ?_
          refine g_if_ne C 40 dX4_settle_31 (by decide) (by omega) (by omega) (fun c_31 => ?_) (fun c_31 => ?_)
          · have e : hi a = x := hi_eq (by omega) (by omega) (fun _ => fqn c_31) xz
            refine g_aload_n C dX4_settle_40 1 rfl ?_
            refine g_iload_n C dX4_settle_41 0 rfl ?_
            refine g_put C [cP h q x, aP E q a] tyX4 tyX4_ok nmX4 0 rfl rfl 1 (by decide) in_X4_settle_X4 lk_X4_settle_highest rfl rfl rfl (Nat.le_of_ble_eq_true rfl) dX4_settle_42 rfl ?_
            exact hret _ _ _ _ _ dX4_settle_45 (by decide) (by decide) (by rw [e])
          · refine g_iinc C [(2, .int (zI (x + (-1)))), (0, .ref h), (1, .int (zI f))] dX4_settle_34 0 rfl (by decide) rfl ?_
            refine g_goto C 21 dX4_settle_37 (by decide) ?_
            exact ih_s (x + -1) (by omega) (by omega) (fun j hj => by rcases Classical.em (j = x.toNat) with e | e; (rw [e]; exact fq0 c_31); exact xz j (by omega)) (by omega)
    exact lp_s 34 (((33 : Nat) : Int) - 1) (by omega) (by omega) (fun j hj => by first | exact hz j (by omega) | exact hS j (by omega)) (by omega)
  · refine g_iload_n C dX4_settle_9 1 rfl ?_
    refine g_goto C 20 dX4_settle_10 (by decide) ?_
    refine g_istore_n C [(2, .int (zI f)), (0, .ref h), (1, .int (zI f))] dX4_settle_20 (by decide) rfl ?_
    have lp_s : ∀ (n_s : Nat) (x : Int), (-1 ≤ x) → (x < 33) → (∀ j : Nat, x < (j : Int) → a j = 0) → (x + 1).toNat < n_s → G 0 0 [cP h q x0, aP E q a] [(2, .int (zI x)), (0, .ref h), (1, .int (zI f))] 21 [] := by
      intro n_s
      induction n_s with
      | zero =>
        intro x x1 x2 xz hm_s
        exact absurd hm_s (by omega)
      | succ n_s ih_s =>
        intro x x1 x2 xz hm_s
        refine g_iload_n C dX4_settle_21 0 rfl ?_
        refine g_if_lt C 40 dX4_settle_22 (by decide) (by omega) (by omega) (fun c_22 => ?_) (fun c_22 => ?_)
        · have e : hi a = x := hi_eq (by omega) (by omega) (fun g => absurd g (by omega)) xz
          refine g_aload_n C dX4_settle_40 1 rfl ?_
          refine g_iload_n C dX4_settle_41 0 rfl ?_
          refine g_put C [cP h q x, aP E q a] tyX4 tyX4_ok nmX4 0 rfl rfl 1 (by decide) in_X4_settle_X4 lk_X4_settle_highest rfl rfl rfl (Nat.le_of_ble_eq_true rfl) dX4_settle_42 rfl ?_
          exact hret _ _ _ _ _ dX4_settle_45 (by decide) (by decide) (by rw [e])
        · refine g_aload_n C dX4_settle_25 1 rfl ?_
          refine g_get C 0 rfl rfl 0 (by decide) in_X4_settle_X4 lk_X4_settle_numbers rfl dX4_settle_26 ?_
          refine g_iload_n C dX4_settle_29 0 rfl ?_
          refine g_iald C 1 x.toNat rfl (by omega) (by omega) (by decide) dX4_settle_30 ?_
          refine g_if_ne C 40 dX4_settle_31 (by decide) (by omega) (by omega) (fun c_31 => ?_) (fun c_31 => ?_)
          · have e : hi a = x := hi_eq (by omega) (by omega) (fun _ => fqn c_31) xz
            refine g_aload_n C dX4_settle_40 1 rfl ?_
            refine g_iload_n C dX4_settle_41 0 rfl ?_
            refine g_put C [cP h q x, aP E q a] tyX4 tyX4_ok nmX4 0 rfl rfl 1 (by decide) in_X4_settle_X4 lk_X4_settle_highest rfl rfl rfl (Nat.le_of_ble_eq_true rfl) dX4_settle_42 rfl ?_
            exact hret _ _ _ _ _ dX4_settle_45 (by decide) (by decide) (by rw [e])
          · refine g_iinc C [(2, .int (zI (x + (-1)))), (0, .ref h), (1, .int (zI f))] dX4_settle_34 0 rfl (by decide) rfl ?_
            refine g_goto C 21 dX4_settle_37 (by decide) ?_
            exact ih_s (x + -1) (by omega) (by omega) (fun j hj => by rcases Classical.em (j = x.toNat) with e | e; (rw [e]; exact fq0 c_31); exact xz j (by omega)) (by omega)
    exact lp_s 34 f (by omega) (by omega) (fun j hj => by first | exact hz j (by omega) | exact hS j (by omega)) (by omega)
theorem in_X4_setNumber_X4 : ∀ w ∈ u_ws RX4 TX4 2, w ∈ wsX4_setNumber := by decide +kernel
theorem lk_X4_setNumber_numbers : Cond.fieldLink yX4_setNumber.cls 11 (TX4 0).1 (TX4 0).2.1 (TX4 0).2.2.1 ∈ wsX4_setNumber := by decide +kernel
theorem lk_X4_setNumber_highest : Cond.fieldLink yX4_setNumber.cls 15 (TX4 1).1 (TX4 1).2.1 (TX4 1).2.2.1 ∈ wsX4_setNumber := by decide +kernel
theorem lk_X4_setNumber_mx : Cond.methodLink yX4_setNumber.cls 23 Lib.Math.max.name ∈ wsX4_setNumber ∧ Cond.static Lib.Math.max.name ∈ wsX4_setNumber ∧ Cond.initialized "java/lang/Math" ∈ wsX4_setNumber ∧ Cond.code Lib.Math.max.name Lib.Math.max.code 2 (some .int) ∈ wsX4_setNumber := by decide +kernel
set_option maxHeartbeats 4000000 in
set_option maxRecDepth 100000 in
theorem c_X4_setNumber (E : ev) (l : Launch) (h q : Nat) (a : Po) (k : Nat) (v : Fq) (hS : Sm a) (hk : k < 33) : Mv E l yX4_setNumber wsX4_setNumber { frames := 1, cells := 0, slots := 0, locals := 30 } [.ref h, .int (zI (k : Int)), .int (zI (v.val : Int))] [cP h q (hi a), aP E q a] (fun w => w = [cP h q (hi (cset a k v)), aP E q (cset a k v)]) 0 0 := by
  refine enter_v (cc := cX4_setNumber) (nL := 3) (by decide) rfl (Nat.le_of_ble_eq_true rfl) (fun G C hret => ?_)
  show G 0 0 [cP h q (hi a), aP E q a] [(0, .ref h), (1, .int (zI (k : Int))), (2, .int (zI (v.val : Int)))] 0 []
  have hlo := hi_lo a
  refine g_iload_n C dX4_setNumber_0 1 rfl ?_
  refine g_if_lt C 13 dX4_setNumber_1 (by decide) (by omega) (by omega) (fun c_1 => by exfalso; omega) (fun c_1 => ?_)
  refine g_iload_n C dX4_setNumber_4 1 rfl ?_
  refine g_aload_n C dX4_setNumber_5 0 rfl ?_
  refine g_get C 0 rfl rfl 0 (by decide) in_X4_setNumber_X4 lk_X4_setNumber_numbers rfl dX4_setNumber_6 ?_
  refine g_alen C 1 rfl dX4_setNumber_9 ?_
  refine g_icmp_lt C 14 dX4_setNumber_10 (by decide) (by omega) (by omega) (by omega) (by omega) (fun c_10 => ?_) (fun c_10 => by exfalso; omega)
  refine g_aload_n C dX4_setNumber_14 0 rfl ?_
  refine g_get C 0 rfl rfl 0 (by decide) in_X4_setNumber_X4 lk_X4_setNumber_numbers rfl dX4_setNumber_15 ?_
  refine g_iload_n C dX4_setNumber_18 1 rfl ?_
  refine g_iload_n C dX4_setNumber_19 2 rfl ?_
  refine g_iast C [cP h q (hi a), aP E q (cset a k v)] 1 k v rfl (by omega) (by omega) (by decide) (rfl) dX4_setNumber_20 rfl ?_
  refine g_aload_n C dX4_setNumber_21 0 rfl ?_
  refine g_iload_n C dX4_setNumber_22 1 rfl ?_
  refine g_aload_n C dX4_setNumber_23 0 rfl ?_
  refine g_get C 0 rfl rfl 1 (by decide) in_X4_setNumber_X4 lk_X4_setNumber_highest rfl dX4_setNumber_24 ?_
  refine g_mmax C lk_X4_setNumber_mx dX4_setNumber_27 (by omega) (by omega) (by omega) (by omega) (by decide) (Nat.le_of_ble_eq_true rfl) ?_
  refine g_callV (n := 1) (wr := []) C (c_X4_settle E l h q (cset a k v) (hi a) (max (k : Int) (hi a)) (Sm_set hS hk v) (by omega) (by omega) (fun j hj => by rw [cset_ne (by omega)]; exact hi_zero hS (by omega))) gX4_setNumber_X4_settle rfl (by decide +kernel) rfl (by decide) dX4_setNumber_30 rfl (Nat.le_of_ble_eq_true rfl) rfl rfl [0, 1] [] rfl rfl (by decide) (fun w_30 h_30 => ?_)
  obtain rfl := h_30
  refine g_eq (ws' := [cP h q (hi (cset a k v)), aP E q (cset a k v)]) rfl rfl rfl ?_
  exact hret _ _ _ _ _ dX4_setNumber_33 (by decide) (by decide) rfl
theorem in_X4_becomeNumber_X4 : ∀ w ∈ u_ws RX4 TX4 2, w ∈ wsX4_becomeNumber := by decide +kernel
theorem lk_X4_becomeNumber_numbers : Cond.fieldLink yX4_becomeNumber.cls 11 (TX4 0).1 (TX4 0).2.1 (TX4 0).2.2.1 ∈ wsX4_becomeNumber := by decide +kernel
theorem lk_X4_becomeNumber_highest : Cond.fieldLink yX4_becomeNumber.cls 15 (TX4 1).1 (TX4 1).2.1 (TX4 1).2.2.1 ∈ wsX4_becomeNumber := by decide +kernel
set_option maxHeartbeats 4000000 in
set_option maxRecDepth 100000 in
theorem c_X4_becomeNumber (E : ev) (l : Launch) (h q : Nat) (a : Po) (v : Fq) (hS : Sm a) : Mv E l yX4_becomeNumber wsX4_becomeNumber { frames := 0, cells := 0, slots := 0, locals := 0 } [.ref h, .int (zI (v.val : Int))] [cP h q (hi a), aP E q a] (fun w => w = [cP h q (hi (con v)), aP E q (con v)]) 0 0 := by
  refine enter_v (cc := cX4_becomeNumber) (nL := 3) (by decide) rfl (Nat.le_of_ble_eq_true rfl) (fun G C hret => ?_)
  show G 0 0 [cP h q (hi a), aP E q a] [(0, .ref h), (1, .int (zI (v.val : Int)))] 0 []
  refine g_iconst C dX4_becomeNumber_0 ?_
  refine g_istore_n C [(2, .int (zI 0)), (0, .ref h), (1, .int (zI (v.val : Int)))] dX4_becomeNumber_1 (by decide) rfl ?_
  have lp_b : ∀ (n_b : Nat) (x : Int) (k : Nat) (f : Po), (x = (k : Int)) → (k ≤ 33) → (∀ j : Nat, j < k → f j = 0) → (Sm f) → 33 - k < n_b → G 0 0 [cP h q (hi a), aP E q f] [(2, .int (zI x)), (0, .ref h), (1, .int (zI (v.val : Int)))] 2 [] := by
    intro n_b
    induction n_b with
    | zero =>
      intro x k f hx hk hf hSf hm_b
      exact absurd hm_b (by omega)
    | succ n_b ih_b =>
      intro x k f hx hk hf hSf hm_b
      refine g_iload_n C dX4_becomeNumber_2 0 rfl ?_
      refine g_aload_n C dX4_becomeNumber_3 1 rfl ?_
      refine g_get C 0 rfl rfl 0 (by decide) in_X4_becomeNumber_X4 lk_X4_becomeNumber_numbers rfl dX4_becomeNumber_4 ?_
      refine g_alen C 1 rfl dX4_becomeNumber_7 ?_
      refine g_icmp_ge C 24 dX4_becomeNumber_8 (by decide) (by omega) (by omega) (by omega) (by omega) (fun c_8 => ?_) (fun c_8 => ?_)
      · have e1 : cset f 0 v = con v := by funext j; unfold cset con; split; rfl; by_cases g : j < 33; exact hf j (by omega); exact hSf j (by omega)
        have e2 := hi_con v
        rw [← e1] at e2
        refine g_aload_n C dX4_becomeNumber_24 1 rfl ?_
        refine g_get C 0 rfl rfl 0 (by decide) in_X4_becomeNumber_X4 lk_X4_becomeNumber_numbers rfl dX4_becomeNumber_25 ?_
        refine g_iconst C dX4_becomeNumber_28 ?_
        refine g_iload_n C dX4_becomeNumber_29 2 rfl ?_
        refine g_iast C [cP h q (hi a), aP E q (cset f 0 v)] 1 0 v rfl (by omega) (by omega) (by decide) (rfl) dX4_becomeNumber_30 rfl ?_
        refine g_aload_n C dX4_becomeNumber_31 1 rfl ?_
        refine g_iload_n C dX4_becomeNumber_32 2 rfl ?_
        refine g_if_ne C 40 dX4_becomeNumber_33 (by decide) (by omega) (by omega) (fun c_33 => ?_) (fun c_33 => ?_)
        · rw [if_neg (fqn c_33)] at e2
          refine g_iconst C dX4_becomeNumber_40 ?_
          refine g_put C [cP h q 0, aP E q (cset f 0 v)] tyX4 tyX4_ok nmX4 0 rfl rfl 1 (by decide) in_X4_becomeNumber_X4 lk_X4_becomeNumber_highest rfl rfl rfl (Nat.le_of_ble_eq_true rfl) dX4_becomeNumber_41 rfl ?_
          exact hret _ _ _ _ _ dX4_becomeNumber_44 (by decide) (by decide) (by rw [← e1, e2])
        · rw [if_pos (fq0 c_33)] at e2
          refine g_iconst C dX4_becomeNumber_36 ?_
          refine g_goto C 41 dX4_becomeNumber_37 (by decide) ?_
          refine g_put C [cP h q (-1), aP E q (cset f 0 v)] tyX4 tyX4_ok nmX4 0 rfl rfl 1 (by decide) in_X4_becomeNumber_X4 lk_X4_becomeNumber_highest rfl rfl rfl (Nat.le_of_ble_eq_true rfl) dX4_becomeNumber_41 rfl ?_
          exact hret _ _ _ _ _ dX4_becomeNumber_44 (by decide) (by decide) (by rw [← e1, e2])
      · refine g_aload_n C dX4_becomeNumber_11 1 rfl ?_
        refine g_get C 0 rfl rfl 0 (by decide) in_X4_becomeNumber_X4 lk_X4_becomeNumber_numbers rfl dX4_becomeNumber_12 ?_
        refine g_iload_n C dX4_becomeNumber_15 0 rfl ?_
        refine g_iconst C dX4_becomeNumber_16 ?_
        refine g_iast C [cP h q (hi a), aP E q (cset f k 0)] 1 k 0 rfl (by omega) (by omega) (by decide) (rfl) dX4_becomeNumber_17 rfl ?_
        refine g_iinc C [(2, .int (zI (x + 1))), (0, .ref h), (1, .int (zI (v.val : Int)))] dX4_becomeNumber_18 0 rfl (by decide) rfl ?_
        refine g_goto C 2 dX4_becomeNumber_21 (by decide) ?_
        exact ih_b (x + 1) (k + 1) (cset f k 0) (by omega) (by omega) (fun j hj => by unfold cset; split; rfl; exact hf j (by omega)) (Sm_set hSf (by omega) 0) (by omega)
  exact lp_b 34 0 0 a rfl (by omega) (fun j hj => absurd hj (by omega)) hS (by omega)
