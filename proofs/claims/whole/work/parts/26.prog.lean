/-- the terms -/
def tmv (A B : Po) : Nat → Fq
  | 0 => 1
  | n + 1 => tmv A B n * (val A (cF (n : Int)) * ivq (val B (cF (n : Int))))
def PrOk (A B : Po) (r : Nat) (t : Po) : Prop := r ≤ 60 ∧ (∀ j : Nat, j ≤ r → t j = tmv A B j) ∧ ∀ j : Nat, j < r → val B (cF (j : Int)) ≠ 0
theorem in_X5_init_X5 : ∀ w ∈ u_ws RX5 TX5 2, w ∈ wsX5_init := by decide +kernel
theorem lk_X5_init_terms : Cond.fieldLink yX5_init.cls 9 (TX5 0).1 (TX5 0).2.1 (TX5 0).2.2.1 ∈ wsX5_init := by decide +kernel
theorem lk_X5_init_reached : Cond.fieldLink yX5_init.cls 15 (TX5 1).1 (TX5 1).2.1 (TX5 1).2.2.1 ∈ wsX5_init := by decide +kernel
set_option maxHeartbeats 4000000 in
set_option maxRecDepth 100000 in
theorem c_X5_init (E : ev) (l : Launch) (h : Nat) : Mv E l yX5_init wsX5_init { frames := 1, cells := 1, slots := 61, locals := 30 } [.ref h] [(h, .inr (5, [.null, .int (zI 0)]))] (fun w => ∃ tq : Nat, w = [(h, .inr (5, [.ref tq, .int (zI 0)])), (tq, .inl (E.2.2.1, 61, .inl (pv (cset zr 0 1))))]) 1 61 := by
  refine enter_v (cc := cX5_init) (nL := 1) (by decide) rfl (Nat.le_of_ble_eq_true rfl) (fun G C hret => ?_)
  show G 0 0 [(h, .inr (5, [.null, .int (zI 0)]))] [(0, .ref h)] 0 []
  refine g_aload_n C dX5_init_0 0 rfl ?_
  refine g_objInit C (by decide +kernel) (List.mem_cons_of_mem _ (List.mem_of_getElem? (i := 2) rfl)) dX5_init_1 (by decide) (Nat.le_of_ble_eq_true rfl) ?_
  refine g_aload_n C dX5_init_4 0 rfl ?_
  refine g_bipush C dX5_init_5 rfl ?_
  refine g_newaI C 61 (pv zr) rfl (by decide +kernel) rfl (by decide) (by decide) dX5_init_7 (fun q_7 => ?_)
  refine g_eq (ws' := [(h, .inr (5, [.null, .int (zI 0)])), (q_7, .inl (E.2.2.1, 61, .inl (pv zr)))]) rfl rfl rfl ?_
  refine g_putF C [(h, .inr (5, [.ref q_7, .int (zI 0)])), (q_7, .inl (E.2.2.1, 61, .inl (pv zr)))] tyX5 tyX5_ok nmX5 0 rfl rfl 0 (by decide) in_X5_init_X5 lk_X5_init_terms rfl rfl rfl rfl (Nat.le_of_ble_eq_true rfl) dX5_init_9 rfl rfl ?_
  refine g_aload_n C dX5_init_12 0 rfl ?_
  refine g_iconst C dX5_init_13 ?_
  refine g_put C [(h, .inr (5, [.ref q_7, .int (zI 0)])), (q_7, .inl (E.2.2.1, 61, .inl (pv zr)))] tyX5 tyX5_ok nmX5 0 rfl rfl 1 (by decide) in_X5_init_X5 lk_X5_init_reached rfl rfl rfl (Nat.le_of_ble_eq_true rfl) dX5_init_14 rfl ?_
  refine g_aload_n C dX5_init_17 0 rfl ?_
  refine g_get C 0 rfl rfl 0 (by decide) in_X5_init_X5 lk_X5_init_terms rfl dX5_init_18 ?_
  refine g_iconst C dX5_init_21 ?_
  refine g_iconst C dX5_init_22 ?_
  refine g_iast C [(h, .inr (5, [.ref q_7, .int (zI 0)])), (q_7, .inl (E.2.2.1, 61, .inl (pv (cset zr 0 1))))] 1 0 1 rfl (by omega) (by omega) (by decide) (rfl) dX5_init_23 rfl ?_
  exact hret _ _ _ _ _ dX5_init_24 (by decide) (by decide) ⟨q_7, rfl⟩
theorem in_X5_forget_X5 : ∀ w ∈ u_ws RX5 TX5 2, w ∈ wsX5_forget := by decide +kernel
theorem lk_X5_forget_reached : Cond.fieldLink yX5_forget.cls 15 (TX5 1).1 (TX5 1).2.1 (TX5 1).2.2.1 ∈ wsX5_forget := by decide +kernel
set_option maxHeartbeats 4000000 in
set_option maxRecDepth 100000 in
theorem c_X5_forget (E : ev) (l : Launch) (h tq : Nat) (r : Int) : Mv E l yX5_forget wsX5_forget { frames := 0, cells := 0, slots := 0, locals := 0 } [.ref h] [(h, .inr (5, [.ref tq, .int (zI r)]))] (fun w => w = [(h, .inr (5, [.ref tq, .int (zI 0)]))]) 0 0 := by
  refine enter_v (cc := cX5_forget) (nL := 1) (by decide) rfl (Nat.le_of_ble_eq_true rfl) (fun G C hret => ?_)
  show G 0 0 [(h, .inr (5, [.ref tq, .int (zI r)]))] [(0, .ref h)] 0 []
  refine g_aload_n C dX5_forget_0 0 rfl ?_
  refine g_iconst C dX5_forget_1 ?_
  refine g_put C [(h, .inr (5, [.ref tq, .int (zI 0)]))] tyX5 tyX5_ok nmX5 0 rfl rfl 1 (by decide) in_X5_forget_X5 lk_X5_forget_reached rfl rfl rfl (Nat.le_of_ble_eq_true rfl) dX5_forget_2 rfl ?_
  exact hret _ _ _ _ _ dX5_forget_5 (by decide) (by decide) rfl
theorem in_X5_termAt_X5 : ∀ w ∈ u_ws RX5 TX5 2, w ∈ wsX5_termAt := by decide +kernel
theorem lk_X5_termAt_terms : Cond.fieldLink yX5_termAt.cls 9 (TX5 0).1 (TX5 0).2.1 (TX5 0).2.2.1 ∈ wsX5_termAt := by decide +kernel
set_option maxHeartbeats 4000000 in
set_option maxRecDepth 100000 in
theorem c_X5_termAt (E : ev) (l : Launch) (h tq : Nat) (r : Int) (t : Po) (n : Nat) (hn : n < 61) : Mi E l yX5_termAt wsX5_termAt { frames := 0, cells := 0, slots := 0, locals := 0 } [.ref h, .int (zI (n : Int))] [(h, .inr (5, [.ref tq, .int (zI r)])), (tq, .inl (E.2.2.1, 61, .inl (pv t)))] (fun v w => v = zI ((t n).val : Int) ∧ w = [(h, .inr (5, [.ref tq, .int (zI r)])), (tq, .inl (E.2.2.1, 61, .inl (pv t)))]) 0 0 := by
  refine enter_i (cc := cX5_termAt) (nL := 2) (by decide) rfl (Nat.le_of_ble_eq_true rfl) (fun G C hret => ?_)
  show G 0 0 [(h, .inr (5, [.ref tq, .int (zI r)])), (tq, .inl (E.2.2.1, 61, .inl (pv t)))] [(0, .ref h), (1, .int (zI (n : Int)))] 0 []
  refine g_iload_n C dX5_termAt_0 1 rfl ?_
  refine g_if_lt C 13 dX5_termAt_1 (by decide) (by omega) (by omega) (fun c_1 => by exfalso; omega) (fun c_1 => ?_)
  refine g_iload_n C dX5_termAt_4 1 rfl ?_
  refine g_aload_n C dX5_termAt_5 0 rfl ?_
  refine g_get C 0 rfl rfl 0 (by decide) in_X5_termAt_X5 lk_X5_termAt_terms rfl dX5_termAt_6 ?_
  refine g_alen C 1 rfl dX5_termAt_9 ?_
  refine g_icmp_lt C 17 dX5_termAt_10 (by decide) (by omega) (by omega) (by omega) (by omega) (fun c_10 => ?_) (fun c_10 => by exfalso; omega)
  refine g_aload_n C dX5_termAt_17 0 rfl ?_
  refine g_get C 0 rfl rfl 0 (by decide) in_X5_termAt_X5 lk_X5_termAt_terms rfl dX5_termAt_18 ?_
  refine g_iload_n C dX5_termAt_21 1 rfl ?_
  refine g_iald C 1 n rfl (by omega) (by omega) (by decide) dX5_termAt_22 ?_
  exact hret _ _ _ _ _ _ dX5_termAt_23 (by decide) (by decide) ⟨rfl, rfl⟩
theorem in_X5_sumBelow_X5 : ∀ w ∈ u_ws RX5 TX5 2, w ∈ wsX5_sumBelow := by decide +kernel
theorem lk_X5_sumBelow_terms : Cond.fieldLink yX5_sumBelow.cls 9 (TX5 0).1 (TX5 0).2.1 (TX5 0).2.2.1 ∈ wsX5_sumBelow := by decide +kernel
set_option maxHeartbeats 4000000 in
set_option maxRecDepth 100000 in
theorem c_X5_sumBelow (E : ev) (l : Launch) (h tq : Nat) (r : Int) (t : Po) (n : Nat) (hn : n ≤ 61) : Mi E l yX5_sumBelow wsX5_sumBelow { frames := 0, cells := 0, slots := 0, locals := 0 } [.ref h, .int (zI (n : Int))] [(h, .inr (5, [.ref tq, .int (zI r)])), (tq, .inl (E.2.2.1, 61, .inl (pv t)))] (fun v w => v = zI ((sm t n).val : Int) ∧ w = [(h, .inr (5, [.ref tq, .int (zI r)])), (tq, .inl (E.2.2.1, 61, .inl (pv t)))]) 0 0 := by
  refine enter_i (cc := cX5_sumBelow) (nL := 4) (by decide) rfl (Nat.le_of_ble_eq_true rfl) (fun G C hret => ?_)
  show G 0 0 [(h, .inr (5, [.ref tq, .int (zI r)])), (tq, .inl (E.2.2.1, 61, .inl (pv t)))] [(0, .ref h), (1, .int (zI (n : Int)))] 0 []
  refine g_iconst C dX5_sumBelow_0 ?_
  refine g_istore_n C [(2, .int (zI 0)), (0, .ref h), (1, .int (zI (n : Int)))] dX5_sumBelow_1 (by decide) rfl ?_
  refine g_iconst C dX5_sumBelow_2 ?_
  refine g_istore_n C [(3, .int (zI 0)), (2, .int (zI 0)), (0, .ref h), (1, .int (zI (n : Int)))] dX5_sumBelow_3 (by decide) rfl ?_
  have lp_o : ∀ (n_o : Nat) (x : Int) (k : Nat) (s : Fq), (x = (k : Int)) → (k ≤ n) → (s = sm t k) → n - k < n_o → G 0 0 [(h, .inr (5, [.ref tq, .int (zI r)])), (tq, .inl (E.2.2.1, 61, .inl (pv t)))] [(3, .int (zI x)), (2, .int (zI (s.val : Int))), (0, .ref h), (1, .int (zI (n : Int)))] 4 [] := by
    intro n_o
    induction n_o with
    | zero =>
      intro x k s hx hk hs hm_o
      exact absurd hm_o (by omega)
    | succ n_o ih_o =>
      intro x k s hx hk hs hm_o
      refine g_iload_n C dX5_sumBelow_4 0 rfl ?_
      refine g_iload_n C dX5_sumBelow_5 3 rfl ?_
      refine g_icmp_ge C 37 dX5_sumBelow_6 (by decide) (by omega) (by omega) (by omega) (by omega) (fun c_6 => ?_) (fun c_6 => ?_)
      · have e : s = sm t n := by rw [hs, show k = n by omega]
        refine g_iload_n C dX5_sumBelow_37 1 rfl ?_
        exact hret _ _ _ _ _ _ dX5_sumBelow_38 (by decide) (by decide) ⟨by rw [e], rfl⟩
      · refine g_iload_n C dX5_sumBelow_9 0 rfl ?_
        refine g_aload_n C dX5_sumBelow_10 2 rfl ?_
        refine g_get C 0 rfl rfl 0 (by decide) in_X5_sumBelow_X5 lk_X5_sumBelow_terms rfl dX5_sumBelow_11 ?_
        refine g_alen C 1 rfl dX5_sumBelow_14 ?_
        refine g_icmp_ge C 37 dX5_sumBelow_15 (by decide) (by omega) (by omega) (by omega) (by omega) (fun c_15 => by exfalso; omega) (fun c_15 => ?_)
        refine g_iload_n C dX5_sumBelow_18 1 rfl ?_
        refine g_aload_n C dX5_sumBelow_19 2 rfl ?_
        refine g_get C 0 rfl rfl 0 (by decide) in_X5_sumBelow_X5 lk_X5_sumBelow_terms rfl dX5_sumBelow_20 ?_
        refine g_iload_n C dX5_sumBelow_23 0 rfl ?_
        refine g_iald C 1 k rfl (by omega) (by omega) (by decide) dX5_sumBelow_24 ?_
        refine g_iadd C dX5_sumBelow_25 ?_
        refine g_sipush C dX5_sumBelow_26 rfl ?_
        refine g_mod C dX5_sumBelow_29 (by have := s.isLt; have := (t k).isLt; omega) (by have := s.isLt; have := (t k).isLt; omega) ?_
        refine g_top (zI ((s + t k).val : Int)) (congrArg (fun u : Fq => zI (u.val : Int)) (by simp only [cF_add, cF_of])) ?_
        refine g_istore_n C [(2, .int (zI ((s + t k).val : Int))), (3, .int (zI x)), (0, .ref h), (1, .int (zI (n : Int)))] dX5_sumBelow_30 (by decide) rfl ?_
        refine g_iinc C [(3, .int (zI (x + 1))), (2, .int (zI ((s + t k).val : Int))), (0, .ref h), (1, .int (zI (n : Int)))] dX5_sumBelow_31 1 rfl (by decide) rfl ?_
        refine g_goto C 4 dX5_sumBelow_34 (by decide) ?_
        exact ih_o (x + 1) (k + 1) (s + t k) (by omega) (by omega) (by rw [hs]; rfl) (by omega)
  exact lp_o (n + 1) 0 0 0 rfl (by omega) rfl (by omega)
theorem in_X5_reaches_X5 : ∀ w ∈ u_ws RX5 TX5 2, w ∈ wsX5_reaches := by decide +kernel
theorem lk_X5_reaches_reached : Cond.fieldLink yX5_reaches.cls 15 (TX5 1).1 (TX5 1).2.1 (TX5 1).2.2.1 ∈ wsX5_reaches := by decide +kernel
theorem lk_X5_reaches_terms : Cond.fieldLink yX5_reaches.cls 9 (TX5 0).1 (TX5 0).2.1 (TX5 0).2.2.1 ∈ wsX5_reaches := by decide +kernel
set_option maxHeartbeats 4000000 in
set_option maxRecDepth 100000 in
theorem c_X5_reaches (E : ev) (l : Launch) (h tq hA qA hB qB : Nat) (r : Nat) (t A B : Po) (n : Int) (hn1 : -1 ≤ n) (hn : n ≤ 60) (hSA : Sm A) (hSB : Sm B) (h0 : PrOk A B r t) : Mi E l yX5_reaches wsX5_reaches { frames := 2, cells := 0, slots := 0, locals := 60 } [.ref h, .int (zI n), .ref hA, .ref hB] [(h, .inr (5, [.ref tq, .int (zI (r : Int))])), (tq, .inl (E.2.2.1, 61, .inl (pv t))), cP hA qA (hi A), aP E qA A, cP hB qB (hi B), aP E qB B] (fun v w => ∃ (r2 : Nat) (t2 : Po), PrOk A B r2 t2 ∧ ((v = zI 1 ∧ n ≤ (r2 : Int)) ∨ (v = zI 0 ∧ ∃ j : Nat, (j : Int) < n ∧ val B (cF (j : Int)) = 0)) ∧ w = [(h, .inr (5, [.ref tq, .int (zI (r2 : Int))])), (tq, .inl (E.2.2.1, 61, .inl (pv t2))), cP hA qA (hi A), aP E qA A, cP hB qB (hi B), aP E qB B]) 0 0 := by
  refine enter_z (cc := cX5_reaches) (nL := 7) (by decide) rfl (Nat.le_of_ble_eq_true rfl) (fun G C hret => ?_)
  show G 0 0 [(h, .inr (5, [.ref tq, .int (zI (r : Int))])), (tq, .inl (E.2.2.1, 61, .inl (pv t))), cP hA qA (hi A), aP E qA A, cP hB qB (hi B), aP E qB B] [(0, .ref h), (1, .int (zI n)), (2, .ref hA), (3, .ref hB)] 0 []
  have hr60 := h0.1
  refine g_aload_n C dX5_reaches_0 0 rfl ?_
  refine g_get C 0 rfl rfl 1 (by decide) in_X5_reaches_X5 lk_X5_reaches_reached rfl dX5_reaches_1 ?_
  refine g_istore C [(4, .int (zI (r : Int))), (0, .ref h), (1, .int (zI n)), (2, .ref hA), (3, .ref hB)] dX5_reaches_4 (by decide) rfl ?_
  have lp_o : ∀ (n_o : Nat) (x : Int) (k : Nat) (t2 : Po), (x = (k : Int)) → (PrOk A B k t2) → 61 - k < n_o → G 0 0 [(h, .inr (5, [.ref tq, .int (zI x)])), (tq, .inl (E.2.2.1, 61, .inl (pv t2))), cP hA qA (hi A), aP E qA A, cP hB qB (hi B), aP E qB B] [(4, .int (zI x)), (0, .ref h), (1, .int (zI n)), (2, .ref hA), (3, .ref hB)] 6 [] := by
    intro n_o
    induction n_o with
    | zero =>
      intro x k t2 hx hok hm_o
      exact absurd hm_o (by omega)
    | succ n_o ih_o =>
      intro x k t2 hx hok hm_o
      have hk60 := hok.1
      refine g_iload C dX5_reaches_6 0 rfl ?_
      refine g_iload_n C dX5_reaches_8 2 rfl ?_
      refine g_icmp_ge C 94 dX5_reaches_9 (by decide) (by omega) (by omega) (by omega) (by omega) (fun c_9 => ?_) (fun c_9 => ?_)
      · refine g_iload_n C dX5_reaches_94 2 rfl ?_
        refine g_aload_n C dX5_reaches_95 1 rfl ?_
        refine g_get C 0 rfl rfl 1 (by decide) in_X5_reaches_X5 lk_X5_reaches_reached rfl dX5_reaches_96 ?_
        refine g_icmp_gt C 106 dX5_reaches_99 (by decide) (by omega) (by omega) (by omega) (by omega) (fun c_99 => ?_) (fun c_99 => ?_)
        · refine g_iconst C dX5_reaches_106 ?_
          exact hret _ _ _ _ _ _ dX5_reaches_107 (by decide) (by decide) rfl ⟨k, t2, hok, by first | exact Or.inl ⟨rfl, by omega⟩ | (exfalso; omega), by rw [hx]⟩
        · refine g_iconst C dX5_reaches_102 ?_
          refine g_goto C 107 dX5_reaches_103 (by decide) ?_
          exact hret _ _ _ _ _ _ dX5_reaches_107 (by decide) (by decide) rfl ⟨k, t2, hok, by first | exact Or.inl ⟨rfl, by omega⟩ | (exfalso; omega), by rw [hx]⟩
      · refine g_iload C dX5_reaches_12 0 rfl ?_
        refine g_iconst C dX5_reaches_14 ?_
        refine g_iadd C dX5_reaches_15 ?_
        refine g_aload_n C dX5_reaches_16 1 rfl ?_
        refine g_get C 0 rfl rfl 0 (by decide) in_X5_reaches_X5 lk_X5_reaches_terms rfl dX5_reaches_17 ?_
        refine g_alen C 1 rfl dX5_reaches_20 ?_
        refine g_icmp_ge C 94 dX5_reaches_21 (by decide) (by omega) (by omega) (by omega) (by omega) (fun c_21 => ?_) (fun c_21 => ?_)
        · refine g_iload_n C dX5_reaches_94 2 rfl ?_
          refine g_aload_n C dX5_reaches_95 1 rfl ?_
          refine g_get C 0 rfl rfl 1 (by decide) in_X5_reaches_X5 lk_X5_reaches_reached rfl dX5_reaches_96 ?_
          refine g_icmp_gt C 106 dX5_reaches_99 (by decide) (by omega) (by omega) (by omega) (by omega) (fun c_99 => ?_) (fun c_99 => ?_)
          · refine g_iconst C dX5_reaches_106 ?_
            exact hret _ _ _ _ _ _ dX5_reaches_107 (by decide) (by decide) rfl ⟨k, t2, hok, by first | exact Or.inl ⟨rfl, by omega⟩ | (exfalso; omega), by rw [hx]⟩
          · refine g_iconst C dX5_reaches_102 ?_
            refine g_goto C 107 dX5_reaches_103 (by decide) ?_
            exact hret _ _ _ _ _ _ dX5_reaches_107 (by decide) (by decide) rfl ⟨k, t2, hok, by first | exact Or.inl ⟨rfl, by omega⟩ | (exfalso; omega), by rw [hx]⟩
        · refine g_aload_n C dX5_reaches_24 4 rfl ?_
          refine g_iload C dX5_reaches_25 0 rfl ?_
          refine g_top (zI ((cF (k : Int)).val : Int)) (congrArg zI (by rw [cF_val, hx]; omega)) ?_
          refine g_callVi (n := 1) (wr := [(h, .inr (5, [.ref tq, .int (zI x)])), (tq, .inl (E.2.2.1, 61, .inl (pv t2))), cP hA qA (hi A), aP E qA A]) C (c_X4_valueAt E l hB qB B (cF (k : Int)) hSB) gX5_reaches_X4_valueAt rfl (by decide +kernel) rfl (by decide) dX5_reaches_27 rfl (Nat.le_of_ble_eq_true rfl) rfl rfl [4, 5] [0, 1, 2, 3] rfl rfl (by decide) (fun r_27 w_27 h_27 => ?_)
          obtain ⟨rfl, rfl⟩ := h_27
          refine g_eq (ws' := [(h, .inr (5, [.ref tq, .int (zI x)])), (tq, .inl (E.2.2.1, 61, .inl (pv t2))), cP hA qA (hi A), aP E qA A, cP hB qB (hi B), aP E qB B]) rfl rfl rfl ?_
          refine g_istore C [(5, .int (zI ((val B (cF (k : Int))).val : Int))), (4, .int (zI x)), (0, .ref h), (1, .int (zI n)), (2, .ref hA), (3, .ref hB)] dX5_reaches_30 (by decide) rfl ?_
          refine g_iload C dX5_reaches_32 0 rfl ?_
          refine g_if_ne C 39 dX5_reaches_34 (by decide) (by omega) (by omega) (fun c_34 => ?_) (fun c_34 => ?_)
          · refine g_aload_n C dX5_reaches_39 4 rfl ?_
            refine g_iload C dX5_reaches_40 1 rfl ?_
            refine g_top (zI ((cF (k : Int)).val : Int)) (congrArg zI (by rw [cF_val, hx]; omega)) ?_
            refine g_callVi (n := 1) (wr := [(h, .inr (5, [.ref tq, .int (zI x)])), (tq, .inl (E.2.2.1, 61, .inl (pv t2))), cP hB qB (hi B), aP E qB B]) C (c_X4_valueAt E l hA qA A (cF (k : Int)) hSA) gX5_reaches_X4_valueAt rfl (by decide +kernel) rfl (by decide) dX5_reaches_42 rfl (Nat.le_of_ble_eq_true rfl) rfl rfl [2, 3] [0, 1, 4, 5] rfl rfl (by decide) (fun r_42 w_42 h_42 => ?_)
            obtain ⟨rfl, rfl⟩ := h_42
            refine g_eq (ws' := [(h, .inr (5, [.ref tq, .int (zI x)])), (tq, .inl (E.2.2.1, 61, .inl (pv t2))), cP hB qB (hi B), aP E qB B, cP hA qA (hi A), aP E qA A]) rfl rfl rfl ?_
            refine g_iload C dX5_reaches_45 0 rfl ?_
            refine g_callSNi (n := 1) C (c_X7_inverse E l (val B (cF (k : Int)))) (by decide +kernel) gX5_reaches_X7_inverse_n25 (by decide +kernel) rfl (by decide +kernel) rfl (by decide) dX5_reaches_47 rfl (Nat.le_of_ble_eq_true rfl) (fun r_47 h_47 => ?_)
            obtain ⟨_, rfl, -⟩ := h_47
            refine g_imul C dX5_reaches_50 ?_
            refine g_sipush C dX5_reaches_51 rfl ?_
            refine g_mod C dX5_reaches_54 (by have := fq_mulb (val A (cF (k : Int))) (ivq (val B (cF (k : Int)))); omega) (by have := fq_mulb (val A (cF (k : Int))) (ivq (val B (cF (k : Int)))); omega) ?_
            refine g_top (zI ((val A (cF (k : Int)) * ivq (val B (cF (k : Int)))).val : Int)) (congrArg (fun u : Fq => zI (u.val : Int)) (by simp only [cF_mul, cF_of])) ?_
            refine g_istore C [(6, .int (zI ((val A (cF (k : Int)) * ivq (val B (cF (k : Int)))).val : Int))), (5, .int (zI ((val B (cF (k : Int))).val : Int))), (4, .int (zI x)), (0, .ref h), (1, .int (zI n)), (2, .ref hA), (3, .ref hB)] dX5_reaches_55 (by decide) rfl ?_
            refine g_aload_n C dX5_reaches_57 3 rfl ?_
            refine g_get C 0 rfl rfl 0 (by decide) in_X5_reaches_X5 lk_X5_reaches_terms rfl dX5_reaches_58 ?_
            refine g_iload C dX5_reaches_61 2 rfl ?_
            refine g_iconst C dX5_reaches_63 ?_
            refine g_iadd C dX5_reaches_64 ?_
            refine g_aload_n C dX5_reaches_65 3 rfl ?_
            refine g_get C 0 rfl rfl 0 (by decide) in_X5_reaches_X5 lk_X5_reaches_terms rfl dX5_reaches_66 ?_
            refine g_iload C dX5_reaches_69 2 rfl ?_
            refine g_iald C 1 k rfl (by omega) (by omega) (by decide) dX5_reaches_71 ?_
            refine g_iload C dX5_reaches_72 0 rfl ?_
            refine g_imul C dX5_reaches_74 ?_
            refine g_sipush C dX5_reaches_75 rfl ?_
            refine g_mod C dX5_reaches_78 (by have := fq_mulb (t2 k) (val A (cF (k : Int)) * ivq (val B (cF (k : Int)))); omega) (by have := fq_mulb (t2 k) (val A (cF (k : Int)) * ivq (val B (cF (k : Int)))); omega) ?_
            refine g_top (zI ((t2 k * (val A (cF (k : Int)) * ivq (val B (cF (k : Int))))).val : Int)) (congrArg (fun u : Fq => zI (u.val : Int)) (by simp only [cF_mul, cF_of])) ?_
            refine g_iast C [(h, .inr (5, [.ref tq, .int (zI x)])), (tq, .inl (E.2.2.1, 61, .inl (pv (cset t2 (k + 1) (t2 k * (val A (cF (k : Int)) * ivq (val B (cF (k : Int))))))))), cP hB qB (hi B), aP E qB B, cP hA qA (hi A), aP E qA A] 1 (k + 1) (t2 k * (val A (cF (k : Int)) * ivq (val B (cF (k : Int))))) rfl (by omega) (by omega) (by decide) (rfl) dX5_reaches_79 rfl ?_
            refine g_aload_n C dX5_reaches_80 3 rfl ?_
            refine g_iload C dX5_reaches_81 2 rfl ?_
            refine g_iconst C dX5_reaches_83 ?_
            refine g_iadd C dX5_reaches_84 ?_
            refine g_put C [(h, .inr (5, [.ref tq, .int (zI (x + 1))])), (tq, .inl (E.2.2.1, 61, .inl (pv (cset t2 (k + 1) (t2 k * (val A (cF (k : Int)) * ivq (val B (cF (k : Int))))))))), cP hB qB (hi B), aP E qB B, cP hA qA (hi A), aP E qA A] tyX5 tyX5_ok nmX5 0 rfl rfl 1 (by decide) in_X5_reaches_X5 lk_X5_reaches_reached rfl rfl rfl (Nat.le_of_ble_eq_true rfl) dX5_reaches_85 rfl ?_
            refine g_iinc C [(4, .int (zI (x + 1))), (6, .int (zI ((val A (cF (k : Int)) * ivq (val B (cF (k : Int)))).val : Int))), (5, .int (zI ((val B (cF (k : Int))).val : Int))), (0, .ref h), (1, .int (zI n)), (2, .ref hA), (3, .ref hB)] dX5_reaches_88 2 rfl (by decide) rfl ?_
            refine g_goto C 6 dX5_reaches_91 (by decide) ?_
            refine g_lsub C [0, 3, 4, 5, 6] rfl ?_
            refine g_wsub (ws' := [(h, .inr (5, [.ref tq, .int (zI (x + 1))])), (tq, .inl (E.2.2.1, 61, .inl (pv (cset t2 (k + 1) (t2 k * (val A (cF (k : Int)) * ivq (val B (cF (k : Int))))))))), cP hA qA (hi A), aP E qA A, cP hB qB (hi B), aP E qB B]) C [0, 1, 4, 5, 2, 3] (by decide) rfl rfl ?_
            exact ih_o (x + 1) (k + 1) (cset t2 (k + 1) (t2 k * (val A (cF (k : Int)) * ivq (val B (cF (k : Int)))))) (by omega) ⟨by omega, fun j hj => by unfold cset; split; (rename_i e; rw [e, hok.2.1 k (Nat.le_refl k)]; rfl); exact hok.2.1 j (by omega), fun j hj => by rcases Classical.em (j = k) with e | e; (rw [e]; exact fqn c_34); exact hok.2.2 j (by omega)⟩ (by have := hok.1; omega)
          · refine g_iconst C dX5_reaches_37 ?_
            exact hret _ _ _ _ _ _ dX5_reaches_38 (by decide) (by decide) rfl ⟨k, t2, hok, Or.inr ⟨rfl, k, by omega, fq0 c_34⟩, by rw [hx]⟩
  exact lp_o 62 (r : Int) r t rfl h0 (by omega)
