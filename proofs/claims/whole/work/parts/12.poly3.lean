theorem in_X4_multiplyBy_X4 : ∀ w ∈ u_ws RX4 TX4 2, w ∈ wsX4_multiplyBy := by decide +kernel
theorem lk_X4_multiplyBy_highest : Cond.fieldLink yX4_multiplyBy.cls 15 (TX4 1).1 (TX4 1).2.1 (TX4 1).2.2.1 ∈ wsX4_multiplyBy := by decide +kernel
theorem lk_X4_multiplyBy_numbers : Cond.fieldLink yX4_multiplyBy.cls 11 (TX4 0).1 (TX4 0).2.1 (TX4 0).2.2.1 ∈ wsX4_multiplyBy := by decide +kernel
theorem lk_X4_multiplyBy_mn : Cond.methodLink yX4_multiplyBy.cls 37 Lib.Math.min.name ∈ wsX4_multiplyBy ∧ Cond.static Lib.Math.min.name ∈ wsX4_multiplyBy ∧ Cond.initialized "java/lang/Math" ∈ wsX4_multiplyBy ∧ Cond.code Lib.Math.min.name Lib.Math.min.code 2 (some .int) ∈ wsX4_multiplyBy := by decide +kernel
set_option maxHeartbeats 4000000 in
set_option maxRecDepth 100000 in
theorem c_X4_multiplyBy (E : ev) (l : Launch) (h q h2 q2 : Nat) (a b : Po) (hSa : Sm a) (hSb : Sm b) (ha : 0 ≤ hi a) (hb : 0 ≤ hi b) (hfit : hi a + hi b < 33) : Mv E l yX4_multiplyBy wsX4_multiplyBy { frames := 1, cells := 0, slots := 0, locals := 30 } [.ref h, .ref h2] [cP h q (hi a), aP E q a, cP h2 q2 (hi b), aP E q2 b] (fun w => w = [cP h q (hi (conv a b)), aP E q (conv a b), cP h2 q2 (hi b), aP E q2 b]) 0 0 := by
  refine enter_v (cc := cX4_multiplyBy) (nL := 6) (by decide) rfl (Nat.le_of_ble_eq_true rfl) (fun G C hret => ?_)
  show G 0 0 [cP h q (hi a), aP E q a, cP h2 q2 (hi b), aP E q2 b] [(0, .ref h), (1, .ref h2)] 0 []
  have hla := hi_lo a
  have hlb := hi_lo b
  refine g_aload_n C dX4_multiplyBy_0 0 rfl ?_
  refine g_callVi (n := 0) (wr := [cP h2 q2 (hi b), aP E q2 b]) C (c_X4_isZero E l h q a) gX4_multiplyBy_X4_isZero rfl (by decide +kernel) rfl (by decide) dX4_multiplyBy_1 rfl (Nat.le_of_ble_eq_true rfl) rfl rfl [0, 1] [2, 3] rfl rfl (by decide) (fun r_1 w_1 h_1 => ?_)
  obtain ⟨rfl, rfl⟩ := h_1
  refine g_eq (ws' := [cP h2 q2 (hi b), aP E q2 b, cP h q (hi a), aP E q a]) rfl rfl rfl ?_
  rw [if_neg (show ¬ hi a < 0 by omega)]
  refine g_if_ne C 14 dX4_multiplyBy_4 (by decide) (by omega) (by omega) (fun c_4 => by exfalso; omega) (fun c_4 => ?_)
  refine g_aload_n C dX4_multiplyBy_7 1 rfl ?_
  refine g_callVi (n := 0) (wr := [cP h q (hi a), aP E q a]) C (c_X4_isZero E l h2 q2 b) gX4_multiplyBy_X4_isZero rfl (by decide +kernel) rfl (by decide) dX4_multiplyBy_8 rfl (Nat.le_of_ble_eq_true rfl) rfl rfl [0, 1] [2, 3] rfl rfl (by decide) (fun r_8 w_8 h_8 => ?_)
  obtain ⟨rfl, rfl⟩ := h_8
  refine g_eq (ws' := [cP h q (hi a), aP E q a, cP h2 q2 (hi b), aP E q2 b]) rfl rfl rfl ?_
  rw [if_neg (show ¬ hi b < 0 by omega)]
  refine g_if_eq C 21 dX4_multiplyBy_11 (by decide) (by omega) (by omega) (fun c_11 => ?_) (fun c_11 => by exfalso; omega)
  refine g_aload_n C dX4_multiplyBy_21 0 rfl ?_
  refine g_get C 0 rfl rfl 1 (by decide) in_X4_multiplyBy_X4 lk_X4_multiplyBy_highest rfl dX4_multiplyBy_22 ?_
  refine g_aload_n C dX4_multiplyBy_25 1 rfl ?_
  refine g_get C 2 rfl rfl 1 (by decide) in_X4_multiplyBy_X4 lk_X4_multiplyBy_highest rfl dX4_multiplyBy_26 ?_
  refine g_iadd C dX4_multiplyBy_29 ?_
  refine g_istore_n C [(2, .int (zI ((hi a) + (hi b)))), (0, .ref h), (1, .ref h2)] dX4_multiplyBy_30 (by decide) rfl ?_
  refine g_iload_n C dX4_multiplyBy_31 0 rfl ?_
  refine g_aload_n C dX4_multiplyBy_32 1 rfl ?_
  refine g_get C 0 rfl rfl 0 (by decide) in_X4_multiplyBy_X4 lk_X4_multiplyBy_numbers rfl dX4_multiplyBy_33 ?_
  refine g_alen C 1 rfl dX4_multiplyBy_36 ?_
  refine g_iconst C dX4_multiplyBy_37 ?_
  refine g_isub C dX4_multiplyBy_38 ?_
  refine g_mmin C lk_X4_multiplyBy_mn dX4_multiplyBy_39 (by omega) (by omega) (by omega) (by omega) (by decide) (Nat.le_of_ble_eq_true rfl) ?_
  refine g_istore_n C [(3, .int (zI (min ((hi a) + (hi b)) (((33 : Nat) : Int) - 1)))), (2, .int (zI ((hi a) + (hi b)))), (0, .ref h), (1, .ref h2)] dX4_multiplyBy_42 (by decide) rfl ?_
  have lp_o : ∀ (n_o : Nat) (x : Int) (n : Nat) (c : Po), (x = (n : Int) - 1) → ((n : Int) ≤ hi a + hi b + 1) → (∀ j : Nat, n ≤ j → c j = conv a b j) → (∀ j : Nat, j < n → c j = a j) → (Sm c) → n < n_o → G 0 0 [cP h q (hi a), aP E q c, cP h2 q2 (hi b), aP E q2 b] [(3, .int (zI x)), (2, .int (zI (hi a + hi b))), (0, .ref h), (1, .ref h2)] 43 [] := by
    intro n_o
    induction n_o with
    | zero =>
      intro x n c hx hn hc hc2 hSc hm_o
      exact absurd hm_o (by omega)
    | succ n_o ih_o =>
      intro x n c hx hn hc hc2 hSc hm_o
      refine g_iload_n C dX4_multiplyBy_43 0 rfl ?_
      refine g_if_lt C 112 dX4_multiplyBy_44 (by decide) (by omega) (by omega) (fun c_44 => ?_) (fun c_44 => ?_)
      · have e1 : c = conv a b := funext fun j => hc j (by omega)
        subst e1
        refine g_aload_n C dX4_multiplyBy_112 2 rfl ?_
        refine g_iload_n C dX4_multiplyBy_113 1 rfl ?_
        refine g_callV (n := 1) (wr := [cP h2 q2 (hi b), aP E q2 b]) C (c_X4_settle E l h q (conv a b) (hi a) (hi a + hi b) (fun j hj => conv_hi (x := hi a) (y := hi b) (fun _ g => hi_zero hSa g) (fun _ g => hi_zero hSb g) (by omega)) (by omega) (by omega) (fun j hj => conv_hi (x := hi a) (y := hi b) (fun _ g => hi_zero hSa g) (fun _ g => hi_zero hSb g) (by omega))) gX4_multiplyBy_X4_settle rfl (by decide +kernel) rfl (by decide) dX4_multiplyBy_114 rfl (Nat.le_of_ble_eq_true rfl) rfl rfl [0, 1] [2, 3] rfl rfl (by decide) (fun w_114 h_114 => ?_)
        obtain rfl := h_114
        refine g_eq (ws' := [cP h2 q2 (hi b), aP E q2 b, cP h q (hi (conv a b)), aP E q (conv a b)]) rfl rfl rfl ?_
        refine g_wsub C [2, 3, 0, 1] (by decide) rfl rfl ?_
        exact hret _ _ _ _ _ dX4_multiplyBy_117 (by decide) (by decide) rfl
      · obtain ⟨p, rfl⟩ : ∃ p, n = p + 1 := ⟨n - 1, by omega⟩
        refine g_iconst C dX4_multiplyBy_47 ?_
        refine g_istore C [(4, .int (zI 0)), (3, .int (zI x)), (2, .int (zI (hi a + hi b))), (0, .ref h), (1, .ref h2)] dX4_multiplyBy_48 (by decide) rfl ?_
        refine g_iconst C dX4_multiplyBy_50 ?_
        refine g_istore C [(5, .int (zI 0)), (4, .int (zI 0)), (3, .int (zI x)), (2, .int (zI (hi a + hi b))), (0, .ref h), (1, .ref h2)] dX4_multiplyBy_51 (by decide) rfl ?_
        have lp_i : ∀ (n_i : Nat) (y : Int) (i : Nat) (t : Fq), (y = (i : Int)) → (i ≤ p + 1) → ((i : Int) ≤ hi b + 1) → (t = sm (fun i => a (p - i) * b i) i) → p + 1 - i < n_i → G 0 0 [cP h q (hi a), aP E q c, cP h2 q2 (hi b), aP E q2 b] [(5, .int (zI y)), (4, .int (zI (t.val : Int))), (3, .int (zI x)), (2, .int (zI (hi a + hi b))), (0, .ref h), (1, .ref h2)] 53 [] := by
          intro n_i
          induction n_i with
          | zero =>
            intro y i t hy hi1 hi2 ht hm_i
            exact absurd hm_i (by omega)
          | succ n_i ih_i =>
            intro y i t hy hi1 hi2 ht hm_i
            refine g_iload C dX4_multiplyBy_53 0 rfl ?_
            refine g_aload_n C dX4_multiplyBy_55 5 rfl ?_
            refine g_get C 2 rfl rfl 1 (by decide) in_X4_multiplyBy_X4 lk_X4_multiplyBy_highest rfl dX4_multiplyBy_56 ?_
            refine g_icmp_gt C 98 dX4_multiplyBy_59 (by decide) (by omega) (by omega) (by omega) (by omega) (fun c_59 => ?_) (fun c_59 => ?_)
            · have et : t = conv a b p := by rw [ht]; exact (sm_more hi1 (fun i9 h9 _ => by rw [hi_zero hSb (by omega)]; grind)).symm
              refine g_aload_n C dX4_multiplyBy_98 4 rfl ?_
              refine g_get C 0 rfl rfl 0 (by decide) in_X4_multiplyBy_X4 lk_X4_multiplyBy_numbers rfl dX4_multiplyBy_99 ?_
              refine g_iload_n C dX4_multiplyBy_102 2 rfl ?_
              refine g_iload C dX4_multiplyBy_103 1 rfl ?_
              refine g_iast C [cP h q (hi a), aP E q (cset c p t), cP h2 q2 (hi b), aP E q2 b] 1 p t rfl (by omega) (by omega) (by decide) (rfl) dX4_multiplyBy_105 rfl ?_
              refine g_iinc C [(3, .int (zI (x + (-1)))), (5, .int (zI y)), (4, .int (zI (t.val : Int))), (2, .int (zI (hi a + hi b))), (0, .ref h), (1, .ref h2)] dX4_multiplyBy_106 2 rfl (by decide) rfl ?_
              refine g_goto C 43 dX4_multiplyBy_109 (by decide) ?_
              refine g_lsub C [0, 3, 4, 5] rfl ?_
              exact ih_o (x + -1) p (cset c p t) (by omega) (by omega) (fun j hj => by unfold cset; split; (rename_i e; rw [e, et]); exact hc j (by omega)) (fun j hj => by rw [cset_ne (by omega)]; exact hc2 j (by omega)) (Sm_set hSc (by omega) t) (by omega)
            · refine g_iload C dX4_multiplyBy_62 0 rfl ?_
              refine g_iload_n C dX4_multiplyBy_64 2 rfl ?_
              refine g_icmp_gt C 98 dX4_multiplyBy_65 (by decide) (by omega) (by omega) (by omega) (by omega) (fun c_65 => ?_) (fun c_65 => ?_)
              · have et : t = conv a b p := by rw [ht, show i = p + 1 by omega]; rfl
                refine g_aload_n C dX4_multiplyBy_98 4 rfl ?_
                refine g_get C 0 rfl rfl 0 (by decide) in_X4_multiplyBy_X4 lk_X4_multiplyBy_numbers rfl dX4_multiplyBy_99 ?_
                refine g_iload_n C dX4_multiplyBy_102 2 rfl ?_
                refine g_iload C dX4_multiplyBy_103 1 rfl ?_
                refine g_iast C [cP h q (hi a), aP E q (cset c p t), cP h2 q2 (hi b), aP E q2 b] 1 p t rfl (by omega) (by omega) (by decide) (rfl) dX4_multiplyBy_105 rfl ?_
                refine g_iinc C [(3, .int (zI (x + (-1)))), (5, .int (zI y)), (4, .int (zI (t.val : Int))), (2, .int (zI (hi a + hi b))), (0, .ref h), (1, .ref h2)] dX4_multiplyBy_106 2 rfl (by decide) rfl ?_
                refine g_goto C 43 dX4_multiplyBy_109 (by decide) ?_
                refine g_lsub C [0, 3, 4, 5] rfl ?_
                exact ih_o (x + -1) p (cset c p t) (by omega) (by omega) (fun j hj => by unfold cset; split; (rename_i e; rw [e, et]); exact hc j (by omega)) (fun j hj => by rw [cset_ne (by omega)]; exact hc2 j (by omega)) (Sm_set hSc (by omega) t) (by omega)
              · refine g_iload C dX4_multiplyBy_68 1 rfl ?_
                refine g_aload_n C dX4_multiplyBy_70 4 rfl ?_
                refine g_iload_n C dX4_multiplyBy_71 2 rfl ?_
                refine g_iload C dX4_multiplyBy_72 0 rfl ?_
                refine g_isub C dX4_multiplyBy_74 ?_
                refine g_callVi (n := 1) (wr := [cP h2 q2 (hi b), aP E q2 b]) C (c_X4_numberG E l h q c (hi a) (x - y) hSc (by omega) (by omega)) gX4_multiplyBy_X4_number rfl (by decide +kernel) rfl (by decide) dX4_multiplyBy_75 rfl (Nat.le_of_ble_eq_true rfl) rfl rfl [0, 1] [2, 3] rfl rfl (by decide) (fun r_75 w_75 h_75 => ?_)
                obtain ⟨rfl, rfl⟩ := h_75
                refine g_eq (ws' := [cP h2 q2 (hi b), aP E q2 b, cP h q (hi a), aP E q c]) rfl rfl rfl ?_
                refine g_aload_n C dX4_multiplyBy_78 5 rfl ?_
                refine g_iload C dX4_multiplyBy_79 0 rfl ?_
                refine g_callVi (n := 1) (wr := [cP h q (hi a), aP E q c]) C (c_X4_number E l h2 q2 b y hSb (by omega) (by omega)) gX4_multiplyBy_X4_number rfl (by decide +kernel) rfl (by decide) dX4_multiplyBy_81 rfl (Nat.le_of_ble_eq_true rfl) rfl rfl [0, 1] [2, 3] rfl rfl (by decide) (fun r_81 w_81 h_81 => ?_)
                obtain ⟨rfl, rfl⟩ := h_81
                refine g_eq (ws' := [cP h q (hi a), aP E q c, cP h2 q2 (hi b), aP E q2 b]) rfl rfl rfl ?_
                refine g_imul C dX4_multiplyBy_84 ?_
                refine g_iadd C dX4_multiplyBy_85 ?_
                refine g_sipush C dX4_multiplyBy_86 rfl ?_
                refine g_mod C dX4_multiplyBy_89 (by have := fq_mulb (nm c (x - y)) (nm b y); have := t.isLt; omega) (by have := fq_mulb (nm c (x - y)) (nm b y); have := t.isLt; omega) ?_
                refine g_top (zI ((t + nm c (x - y) * nm b y).val : Int)) (congrArg (fun u : Fq => zI (u.val : Int)) (by simp only [cF_add, cF_mul, cF_of])) ?_
                refine g_istore C [(4, .int (zI ((t + nm c (x - y) * nm b y).val : Int))), (5, .int (zI y)), (3, .int (zI x)), (2, .int (zI (hi a + hi b))), (0, .ref h), (1, .ref h2)] dX4_multiplyBy_90 (by decide) rfl ?_
                refine g_iinc C [(5, .int (zI (y + 1))), (4, .int (zI ((t + nm c (x - y) * nm b y).val : Int))), (3, .int (zI x)), (2, .int (zI (hi a + hi b))), (0, .ref h), (1, .ref h2)] dX4_multiplyBy_92 1 rfl (by decide) rfl ?_
                refine g_goto C 53 dX4_multiplyBy_95 (by decide) ?_
                exact ih_i (y + 1) (i + 1) (t + nm c (x - y) * nm b y) (by omega) (by omega) (by omega) (by rw [ht, hy, nm_nat, show x - (i : Int) = ((p - i : Nat) : Int) by omega, nm_nat, hc2 _ (by omega)]; rfl) (by omega)
        exact lp_i (p + 2) 0 0 0 rfl (by omega) (by omega) rfl (by omega)
  exact lp_o 40 (min ((hi a) + (hi b)) (((33 : Nat) : Int) - 1)) (hi a + hi b + 1).toNat a (by omega) (by omega) (fun j hj => by rw [hi_zero hSa (by omega), conv_hi (x := hi a) (y := hi b) (fun _ g => hi_zero hSa g) (fun _ g => hi_zero hSb g) (by omega)]) (fun j _ => rfl) hSa (by omega)
theorem in_X4_moveBy_X4 : ∀ w ∈ u_ws RX4 TX4 2, w ∈ wsX4_moveBy := by decide +kernel
theorem lk_X4_moveBy_highest : Cond.fieldLink yX4_moveBy.cls 15 (TX4 1).1 (TX4 1).2.1 (TX4 1).2.2.1 ∈ wsX4_moveBy := by decide +kernel
theorem lk_X4_moveBy_numbers : Cond.fieldLink yX4_moveBy.cls 11 (TX4 0).1 (TX4 0).2.1 (TX4 0).2.2.1 ∈ wsX4_moveBy := by decide +kernel
theorem lk_X4_moveBy_mn : Cond.methodLink yX4_moveBy.cls 37 Lib.Math.min.name ∈ wsX4_moveBy ∧ Cond.static Lib.Math.min.name ∈ wsX4_moveBy ∧ Cond.initialized "java/lang/Math" ∈ wsX4_moveBy ∧ Cond.code Lib.Math.min.name Lib.Math.min.code 2 (some .int) ∈ wsX4_moveBy := by decide +kernel
set_option maxHeartbeats 4000000 in
set_option maxRecDepth 100000 in
theorem c_X4_moveBy (E : ev) (l : Launch) (h q : Nat) (a : Po) (d : Fq) (hS : Sm a) : Mv E l yX4_moveBy wsX4_moveBy { frames := 1, cells := 0, slots := 0, locals := 30 } [.ref h, .int (zI (d.val : Int))] [cP h q (hi a), aP E q a] (fun w => w = [cP h q (hi (mvp a d)), aP E q (mvp a d)]) 0 0 := by
  refine enter_v (cc := cX4_moveBy) (nL := 4) (by decide) rfl (Nat.le_of_ble_eq_true rfl) (fun G C hret => ?_)
  show G 0 0 [cP h q (hi a), aP E q a] [(0, .ref h), (1, .int (zI (d.val : Int)))] 0 []
  have hlo := hi_lo a
  refine g_iconst C dX4_moveBy_0 ?_
  refine g_istore_n C [(2, .int (zI 0)), (0, .ref h), (1, .int (zI (d.val : Int)))] dX4_moveBy_1 (by decide) rfl ?_
  have lp_o : ∀ (n_o : Nat) (x : Int) (s : Nat) (c : Po), (x = (s : Int)) → (s ≤ (hi a).toNat) → (mo d (hi a).toNat s ((hi a).toNat - s) c = mvp a d) → (∀ j : Nat, (hi a).toNat ≤ j → c j = a j) → (hi a).toNat - s < n_o → G 0 0 [cP h q (hi a), aP E q c] [(2, .int (zI x)), (0, .ref h), (1, .int (zI (d.val : Int)))] 2 [] := by
    intro n_o
    induction n_o with
    | zero =>
      intro x s c hx hs hm hk hm_o
      exact absurd hm_o (by omega)
    | succ n_o ih_o =>
      intro x s c hx hs hm hk hm_o
      refine g_iload_n C dX4_moveBy_2 0 rfl ?_
      refine g_aload_n C dX4_moveBy_3 1 rfl ?_
      refine g_get C 0 rfl rfl 1 (by decide) in_X4_moveBy_X4 lk_X4_moveBy_highest rfl dX4_moveBy_4 ?_
      refine g_icmp_ge C 70 dX4_moveBy_7 (by decide) (by omega) (by omega) (by omega) (by omega) (fun c_7 => ?_) (fun c_7 => ?_)
      · have e1 : c = mvp a d := by rw [← hm, show (hi a).toNat - s = 0 by omega]; rfl
        subst e1
        exact hret _ _ _ _ _ dX4_moveBy_70 (by decide) (by decide) (by rw [mvp_hi hS])
      · obtain ⟨m, hm2⟩ : ∃ m, (hi a).toNat - s = m + 1 := ⟨(hi a).toNat - s - 1, by omega⟩
        have hm4 : mo d (hi a).toNat (s + 1) m (mi d s ((hi a).toNat - s) c) = mvp a d := by have h9 := hm; rw [hm2] at h9; exact h9
        refine g_aload_n C dX4_moveBy_10 1 rfl ?_
        refine g_get C 0 rfl rfl 1 (by decide) in_X4_moveBy_X4 lk_X4_moveBy_highest rfl dX4_moveBy_11 ?_
        refine g_aload_n C dX4_moveBy_14 1 rfl ?_
        refine g_get C 0 rfl rfl 0 (by decide) in_X4_moveBy_X4 lk_X4_moveBy_numbers rfl dX4_moveBy_15 ?_
        refine g_alen C 1 rfl dX4_moveBy_18 ?_
        refine g_iconst C dX4_moveBy_19 ?_
        refine g_isub C dX4_moveBy_20 ?_
        refine g_mmin C lk_X4_moveBy_mn dX4_moveBy_21 (by omega) (by omega) (by omega) (by omega) (by decide) (Nat.le_of_ble_eq_true rfl) ?_
        refine g_iconst C dX4_moveBy_24 ?_
        refine g_isub C dX4_moveBy_25 ?_
        refine g_istore_n C [(3, .int (zI ((min (hi a) (((33 : Nat) : Int) - 1)) - 1))), (2, .int (zI x)), (0, .ref h), (1, .int (zI (d.val : Int)))] dX4_moveBy_26 (by decide) rfl ?_
        have lp_i : ∀ (n_i : Nat) (y : Int) (n : Nat) (c2 : Po), (y = (s : Int) + (n : Int) - 1) → (s + n ≤ (hi a).toNat) → (mo d (hi a).toNat (s + 1) m (mi d s n c2) = mvp a d) → (∀ j : Nat, (hi a).toNat ≤ j → c2 j = a j) → n < n_i → G 0 0 [cP h q (hi a), aP E q c2] [(3, .int (zI y)), (2, .int (zI x)), (0, .ref h), (1, .int (zI (d.val : Int)))] 27 [] := by
          intro n_i
          induction n_i with
          | zero =>
            intro y n c2 hy hn hm3 hk2 hm_i
            exact absurd hm_i (by omega)
          | succ n_i ih_i =>
            intro y n c2 hy hn hm3 hk2 hm_i
            refine g_iload_n C dX4_moveBy_27 0 rfl ?_
            refine g_iload_n C dX4_moveBy_28 1 rfl ?_
            refine g_icmp_lt C 64 dX4_moveBy_29 (by decide) (by omega) (by omega) (by omega) (by omega) (fun c_29 => ?_) (fun c_29 => ?_)
            · refine g_iinc C [(2, .int (zI (x + 1))), (3, .int (zI y)), (0, .ref h), (1, .int (zI (d.val : Int)))] dX4_moveBy_64 1 rfl (by decide) rfl ?_
              refine g_goto C 2 dX4_moveBy_67 (by decide) ?_
              refine g_lsub C [0, 2, 3] rfl ?_
              exact ih_o (x + 1) (s + 1) c2 (by omega) (by omega) (by rw [← hm3, show n = 0 by omega, show (hi a).toNat - (s + 1) = m by omega]; rfl) hk2 (by omega)
            · obtain ⟨n2, rfl⟩ : ∃ n2, n = n2 + 1 := ⟨n - 1, by omega⟩
              refine g_aload_n C dX4_moveBy_32 2 rfl ?_
              refine g_get C 0 rfl rfl 0 (by decide) in_X4_moveBy_X4 lk_X4_moveBy_numbers rfl dX4_moveBy_33 ?_
              refine g_iload_n C dX4_moveBy_36 0 rfl ?_
              refine g_aload_n C dX4_moveBy_37 2 rfl ?_
              refine g_get C 0 rfl rfl 0 (by decide) in_X4_moveBy_X4 lk_X4_moveBy_numbers rfl dX4_moveBy_38 ?_
              refine g_iload_n C dX4_moveBy_41 0 rfl ?_
              refine g_iald C 1 (s + n2) rfl (by omega) (by omega) (by decide) dX4_moveBy_42 ?_
              refine g_iload_n C dX4_moveBy_43 3 rfl ?_
              refine g_aload_n C dX4_moveBy_44 2 rfl ?_
              refine g_iload_n C dX4_moveBy_45 0 rfl ?_
              refine g_iconst C dX4_moveBy_46 ?_
              refine g_iadd C dX4_moveBy_47 ?_
              refine g_callVi (n := 1) (wr := []) C (c_X4_numberG E l h q c2 (hi a) (y + 1) (fun j hj => by rw [hk2 j (by omega)]; exact hS j hj) (by omega) (by omega)) gX4_moveBy_X4_number rfl (by decide +kernel) rfl (by decide) dX4_moveBy_48 rfl (Nat.le_of_ble_eq_true rfl) rfl rfl [0, 1] [] rfl rfl (by decide) (fun r_48 w_48 h_48 => ?_)
              obtain ⟨rfl, rfl⟩ := h_48
              refine g_eq (ws' := [cP h q (hi a), aP E q c2]) rfl rfl rfl ?_
              refine g_imul C dX4_moveBy_51 ?_
              refine g_iadd C dX4_moveBy_52 ?_
              refine g_sipush C dX4_moveBy_53 rfl ?_
              refine g_mod C dX4_moveBy_56 (by have := fq_mulb d (nm c2 (y + 1)); have := (c2 (s + n2)).isLt; omega) (by have := fq_mulb d (nm c2 (y + 1)); have := (c2 (s + n2)).isLt; omega) ?_
              refine g_top (zI ((c2 (s + n2) + d * nm c2 (y + 1)).val : Int)) (congrArg (fun u : Fq => zI (u.val : Int)) (by simp only [cF_add, cF_mul, cF_of])) ?_
              refine g_iast C [cP h q (hi a), aP E q (cset c2 (s + n2) (c2 (s + n2) + d * nm c2 (y + 1)))] 1 (s + n2) (c2 (s + n2) + d * nm c2 (y + 1)) rfl (by omega) (by omega) (by decide) (rfl) dX4_moveBy_57 rfl ?_
              refine g_iinc C [(3, .int (zI (y + (-1)))), (2, .int (zI x)), (0, .ref h), (1, .int (zI (d.val : Int)))] dX4_moveBy_58 0 rfl (by decide) rfl ?_
              refine g_goto C 27 dX4_moveBy_61 (by decide) ?_
              exact ih_i (y + -1) n2 (cset c2 (s + n2) (c2 (s + n2) + d * nm c2 (y + 1))) (by omega) (by omega) (by rw [← hm3, show nm c2 (y + 1) = c2 (s + n2 + 1) by rw [show y + 1 = ((s + n2 + 1 : Nat) : Int) by omega, nm_nat]]; rfl) (fun j hj => by rw [cset_ne (by omega)]; exact hk2 j hj) (by omega)
        exact lp_i 40 ((min (hi a) (((33 : Nat) : Int) - 1)) - 1) ((hi a).toNat - s) c (by omega) (by omega) hm4 hk (by omega)
  exact lp_o 40 0 0 a rfl (by omega) rfl (fun j _ => rfl) (by omega)
theorem in_X4_divideBy_X4 : ∀ w ∈ u_ws RX4 TX4 2, w ∈ wsX4_divideBy := by decide +kernel
theorem lk_X4_divideBy_highest : Cond.fieldLink yX4_divideBy.cls 15 (TX4 1).1 (TX4 1).2.1 (TX4 1).2.2.1 ∈ wsX4_divideBy := by decide +kernel
set_option maxHeartbeats 4000000 in
set_option maxRecDepth 100000 in
theorem c_X4_divideBy (E : ev) (l : Launch) (h q h2 q2 h3 q3 : Nat) (a b g0 : Po) (hSa : Sm a) (hSb : Sm b) (hSg0 : Sm g0) (hb : 0 ≤ hi b) : Mv E l yX4_divideBy wsX4_divideBy { frames := 2, cells := 0, slots := 0, locals := 60 } [.ref h, .ref h2, .ref h3] [cP h q (hi a), aP E q a, cP h2 q2 (hi b), aP E q2 b, cP h3 q3 (hi g0), aP E q3 g0] (fun w => w = [cP h q (hi (rem a b)), aP E q (rem a b), cP h2 q2 (hi b), aP E q2 b, cP h3 q3 (hi (quo a b)), aP E q3 (quo a b)]) 0 0 := by
  refine enter_v (cc := cX4_divideBy) (nL := 7) (by decide) rfl (Nat.le_of_ble_eq_true rfl) (fun G C hret => ?_)
  show G 0 0 [cP h q (hi a), aP E q a, cP h2 q2 (hi b), aP E q2 b, cP h3 q3 (hi g0), aP E q3 g0] [(0, .ref h), (1, .ref h2), (2, .ref h3)] 0 []
  have hla := hi_lo a
  have hlb := hi_lo b
  refine g_aload_n C dX4_divideBy_0 2 rfl ?_
  refine g_iconst C dX4_divideBy_1 ?_
  refine g_callV (n := 1) (wr := [cP h q (hi a), aP E q a, cP h2 q2 (hi b), aP E q2 b]) C (c_X4_becomeNumber E l h3 q3 g0 0 hSg0) gX4_divideBy_X4_becomeNumber rfl (by decide +kernel) rfl (by decide) dX4_divideBy_2 rfl (Nat.le_of_ble_eq_true rfl) rfl rfl [4, 5] [0, 1, 2, 3] rfl rfl (by decide) (fun w_2 h_2 => ?_)
  obtain rfl := h_2
  refine g_eq (ws' := [cP h q (hi a), aP E q a, cP h2 q2 (hi b), aP E q2 b, cP h3 q3 (hi (con 0)), aP E q3 (con 0)]) rfl rfl rfl ?_
  refine g_aload_n C dX4_divideBy_5 1 rfl ?_
  refine g_callVi (n := 0) (wr := [cP h q (hi a), aP E q a, cP h3 q3 (hi (con 0)), aP E q3 (con 0)]) C (c_X4_isZero E l h2 q2 b) gX4_divideBy_X4_isZero rfl (by decide +kernel) rfl (by decide) dX4_divideBy_6 rfl (Nat.le_of_ble_eq_true rfl) rfl rfl [2, 3] [0, 1, 4, 5] rfl rfl (by decide) (fun r_6 w_6 h_6 => ?_)
  obtain ⟨rfl, rfl⟩ := h_6
  refine g_eq (ws' := [cP h q (hi a), aP E q a, cP h3 q3 (hi (con 0)), aP E q3 (con 0), cP h2 q2 (hi b), aP E q2 b]) rfl rfl rfl ?_
  rw [if_neg (show ¬ hi b < 0 by omega)]
  refine g_if_eq C 13 dX4_divideBy_9 (by decide) (by omega) (by omega) (fun c_9 => ?_) (fun c_9 => by exfalso; omega)
  refine g_aload_n C dX4_divideBy_13 1 rfl ?_
  refine g_callVi (n := 0) (wr := [cP h q (hi a), aP E q a, cP h3 q3 (hi (con 0)), aP E q3 (con 0)]) C (c_X4_leading E l h2 q2 b hSb) gX4_divideBy_X4_leading rfl (by decide +kernel) rfl (by decide) dX4_divideBy_14 rfl (Nat.le_of_ble_eq_true rfl) rfl rfl [4, 5] [0, 1, 2, 3] rfl rfl (by decide) (fun r_14 w_14 h_14 => ?_)
  obtain ⟨rfl, rfl⟩ := h_14
  refine g_eq (ws' := [cP h q (hi a), aP E q a, cP h3 q3 (hi (con 0)), aP E q3 (con 0), cP h2 q2 (hi b), aP E q2 b]) rfl rfl rfl ?_
  refine g_callSNi (n := 1) C (c_X7_inverse E l (nm b (hi b))) (by decide +kernel) gX4_divideBy_X7_inverse_n47 (by decide +kernel) rfl (by decide +kernel) rfl (by decide) dX4_divideBy_17 rfl (Nat.le_of_ble_eq_true rfl) (fun r_17 h_17 => ?_)
  obtain ⟨_, rfl, -⟩ := h_17
  refine g_istore_n C [(3, .int (zI ((ivq (nm b (hi b))).val : Int))), (0, .ref h), (1, .ref h2), (2, .ref h3)] dX4_divideBy_20 (by decide) rfl ?_
  refine g_aload_n C dX4_divideBy_21 1 rfl ?_
  refine g_get C 0 rfl rfl 1 (by decide) in_X4_divideBy_X4 lk_X4_divideBy_highest rfl dX4_divideBy_22 ?_
  refine g_istore C [(4, .int (zI (hi a))), (3, .int (zI ((ivq (nm b (hi b))).val : Int))), (0, .ref h), (1, .ref h2), (2, .ref h3)] dX4_divideBy_25 (by decide) rfl ?_
  have lp_o : ∀ (n_o : Nat) (x : Int) (n : Nat) (c : Po) (g : Po), (x = hi b + (n : Int) - 1 ∨ (n = 0 ∧ x < hi b)) → (-1 ≤ x ∧ x < 33) → (dv b (ivq (nm b (hi b))) (hi b).toNat n c g = dvs a b) → (Sm c) → (Sm g) → (∀ j : Nat, j < n → g j = 0) → n < n_o → G 0 0 [cP h q (hi c), aP E q c, cP h2 q2 (hi b), aP E q2 b, cP h3 q3 (hi g), aP E q3 g] [(4, .int (zI x)), (3, .int (zI ((ivq (nm b (hi b))).val : Int))), (0, .ref h), (1, .ref h2), (2, .ref h3)] 27 [] := by
    intro n_o
    induction n_o with
    | zero =>
      intro x n c g hx hx2 hd hSc hSg hg hm_o
      exact absurd hm_o (by omega)
    | succ n_o ih_o =>
      intro x n c g hx hx2 hd hSc hSg hg hm_o
      refine g_iload C dX4_divideBy_27 0 rfl ?_
      refine g_aload_n C dX4_divideBy_29 3 rfl ?_
      refine g_get C 2 rfl rfl 1 (by decide) in_X4_divideBy_X4 lk_X4_divideBy_highest rfl dX4_divideBy_30 ?_
      refine g_icmp_lt C 90 dX4_divideBy_33 (by decide) (by omega) (by omega) (by omega) (by omega) (fun c_33 => ?_) (fun c_33 => ?_)
      · have e1 : (c, g) = dvs a b := by rw [← hd, show n = 0 by omega]; rfl
        have e2 : c = rem a b := congrArg Prod.fst e1
        have e3 : g = quo a b := congrArg Prod.snd e1
        exact hret _ _ _ _ _ dX4_divideBy_90 (by decide) (by decide) (by rw [e2, e3])
      · obtain ⟨n2, rfl⟩ : ∃ n2, n = n2 + 1 := ⟨n - 1, by omega⟩
        have enm : nm c x = c ((hi b).toNat + n2) := by rw [show x = (((hi b).toNat + n2 : Nat) : Int) by omega, nm_nat]
        refine g_aload_n C dX4_divideBy_36 2 rfl ?_
        refine g_iload C dX4_divideBy_37 0 rfl ?_
        refine g_callVi (n := 1) (wr := [cP h2 q2 (hi b), aP E q2 b, cP h3 q3 (hi g), aP E q3 g]) C (c_X4_number E l h q c x hSc (by omega) (by omega)) gX4_divideBy_X4_number rfl (by decide +kernel) rfl (by decide) dX4_divideBy_39 rfl (Nat.le_of_ble_eq_true rfl) rfl rfl [0, 1] [2, 3, 4, 5] rfl rfl (by decide) (fun r_39 w_39 h_39 => ?_)
        obtain ⟨rfl, rfl⟩ := h_39
        refine g_eq (ws' := [cP h2 q2 (hi b), aP E q2 b, cP h3 q3 (hi g), aP E q3 g, cP h q (hi c), aP E q c]) rfl rfl rfl ?_
        refine g_iload_n C dX4_divideBy_42 1 rfl ?_
        refine g_imul C dX4_divideBy_43 ?_
        refine g_sipush C dX4_divideBy_44 rfl ?_
        refine g_mod C dX4_divideBy_47 (by have := fq_mulb (nm c x) (ivq (nm b (hi b))); omega) (by have := fq_mulb (nm c x) (ivq (nm b (hi b))); omega) ?_
        refine g_top (zI ((nm c x * ivq (nm b (hi b))).val : Int)) (congrArg (fun u : Fq => zI (u.val : Int)) (by simp only [cF_mul, cF_of])) ?_
        refine g_istore C [(5, .int (zI ((nm c x * ivq (nm b (hi b))).val : Int))), (4, .int (zI x)), (3, .int (zI ((ivq (nm b (hi b))).val : Int))), (0, .ref h), (1, .ref h2), (2, .ref h3)] dX4_divideBy_48 (by decide) rfl ?_
        refine g_iload C dX4_divideBy_50 0 rfl ?_
        refine g_if_eq C 84 dX4_divideBy_52 (by decide) (by omega) (by omega) (fun c_52 => ?_) (fun c_52 => ?_)
        · have ez : c ((hi b).toNat + n2) * ivq (nm b (hi b)) = 0 := by rw [← enm]; exact fq0 c_52
          refine g_iinc C [(4, .int (zI (x + (-1)))), (5, .int (zI ((nm c x * ivq (nm b (hi b))).val : Int))), (3, .int (zI ((ivq (nm b (hi b))).val : Int))), (0, .ref h), (1, .ref h2), (2, .ref h3)] dX4_divideBy_84 1 rfl (by decide) rfl ?_
          refine g_goto C 27 dX4_divideBy_87 (by decide) ?_
          refine g_lsub C [0, 2, 3, 4, 5] rfl ?_
          refine g_wsub C [4, 5, 0, 1, 2, 3] (by decide) rfl rfl ?_
          exact ih_o (x + -1) n2 c g (by omega) (by omega) (by rw [← hd]; show _ = dv b _ (hi b).toNat n2 _ _; rw [ez, am_0, cset_0 (hg n2 (by omega))]) hSc hSg (fun j hj => hg j (by omega)) (by omega)
        · refine g_iload C dX4_divideBy_55 1 rfl ?_
          refine g_aload_n C dX4_divideBy_57 4 rfl ?_
          refine g_get C 0 rfl rfl 1 (by decide) in_X4_divideBy_X4 lk_X4_divideBy_highest rfl dX4_divideBy_58 ?_
          refine g_isub C dX4_divideBy_61 ?_
          refine g_top (zI (n2 : Int)) (congrArg zI (by omega)) ?_
          refine g_istore C [(6, .int (zI (n2 : Int))), (5, .int (zI ((nm c x * ivq (nm b (hi b))).val : Int))), (4, .int (zI x)), (3, .int (zI ((ivq (nm b (hi b))).val : Int))), (0, .ref h), (1, .ref h2), (2, .ref h3)] dX4_divideBy_62 (by decide) rfl ?_
          refine g_aload_n C dX4_divideBy_64 6 rfl ?_
          refine g_iload C dX4_divideBy_65 0 rfl ?_
          refine g_iload C dX4_divideBy_67 1 rfl ?_
          refine g_callV (n := 2) (wr := [cP h2 q2 (hi b), aP E q2 b, cP h q (hi c), aP E q c]) C (c_X4_setNumber E l h3 q3 g n2 (nm c x * ivq (nm b (hi b))) hSg (by omega)) gX4_divideBy_X4_setNumber rfl (by decide +kernel) rfl (by decide) dX4_divideBy_69 rfl (Nat.le_of_ble_eq_true rfl) rfl rfl [2, 3] [0, 1, 4, 5] rfl rfl (by decide) (fun w_69 h_69 => ?_)
          obtain rfl := h_69
          refine g_eq (ws' := [cP h2 q2 (hi b), aP E q2 b, cP h q (hi c), aP E q c, cP h3 q3 (hi (cset g n2 (nm c x * ivq (nm b (hi b))))), aP E q3 (cset g n2 (nm c x * ivq (nm b (hi b))))]) rfl rfl rfl ?_
          refine g_aload_n C dX4_divideBy_72 4 rfl ?_
          refine g_iload C dX4_divideBy_73 1 rfl ?_
          refine g_callSNi (n := 1) C (c_X7_negative E l (nm c x * ivq (nm b (hi b)))) (by decide +kernel) gX4_divideBy_X7_negative_n54 (by decide +kernel) rfl (by decide +kernel) rfl (by decide) dX4_divideBy_75 rfl (Nat.le_of_ble_eq_true rfl) (fun r_75 h_75 => ?_)
          obtain ⟨_, rfl, -⟩ := h_75
          refine g_aload_n C dX4_divideBy_78 5 rfl ?_
          refine g_iload C dX4_divideBy_79 0 rfl ?_
          refine g_callV (n := 3) (wr := [cP h3 q3 (hi (cset g n2 (nm c x * ivq (nm b (hi b))))), aP E q3 (cset g n2 (nm c x * ivq (nm b (hi b))))]) C (c_X4_addMultiple E l h q h2 q2 c b (-(nm c x * ivq (nm b (hi b)))) n2 hSc hSb (by omega)) gX4_divideBy_X4_addMultiple rfl (by decide +kernel) rfl (by decide) dX4_divideBy_81 rfl (Nat.le_of_ble_eq_true rfl) rfl rfl [2, 3, 0, 1] [4, 5] rfl rfl (by decide) (fun w_81 h_81 => ?_)
          obtain rfl := h_81
          refine g_eq (ws' := [cP h3 q3 (hi (cset g n2 (nm c x * ivq (nm b (hi b))))), aP E q3 (cset g n2 (nm c x * ivq (nm b (hi b)))), cP h q (hi (am c (-(nm c x * ivq (nm b (hi b)))) b n2)), aP E q (am c (-(nm c x * ivq (nm b (hi b)))) b n2), cP h2 q2 (hi b), aP E q2 b]) rfl rfl rfl ?_
          refine g_iinc C [(4, .int (zI (x + (-1)))), (6, .int (zI (n2 : Int))), (5, .int (zI ((nm c x * ivq (nm b (hi b))).val : Int))), (3, .int (zI ((ivq (nm b (hi b))).val : Int))), (0, .ref h), (1, .ref h2), (2, .ref h3)] dX4_divideBy_84 2 rfl (by decide) rfl ?_
          refine g_goto C 27 dX4_divideBy_87 (by decide) ?_
          refine g_lsub C [0, 3, 4, 5, 6] rfl ?_
          refine g_wsub C [2, 3, 4, 5, 0, 1] (by decide) rfl rfl ?_
          exact ih_o (x + -1) n2 (am c (-(nm c x * ivq (nm b (hi b)))) b n2) (cset g n2 (nm c x * ivq (nm b (hi b)))) (by omega) (by omega) (by rw [← hd, enm]; rfl) (am_Sm hSc (fun j hj => hi_zero hSb (by omega))) (Sm_set hSg (by omega) _) (fun j hj => by rw [cset_ne (by omega)]; exact hg j (by omega)) (by omega)
  refine g_wsub C [0, 1, 4, 5, 2, 3] (by decide) rfl rfl ?_
  exact lp_o 40 (hi a) (dvN a b) a (con 0) (by unfold dvN; omega) (by omega) rfl hSa (Sm_con 0) (fun j _ => by unfold con; split <;> rfl) (by unfold dvN; omega)
