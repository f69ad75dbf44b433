theorem sc_Sm {a : Po} (hS : Sm a) (g : Fq) : Sm (sc a g) := fun j h => by unfold sc; rw [hS j h]; grind
theorem nm_sub {b : Po} {x : Int} {k k0 : Nat} (hx : x = (k : Int)) (hk : k0 ≤ k) : nm b (x - (k0 : Int)) = b (k - k0) := by
  rw [show x - (k0 : Int) = ((k - k0 : Nat) : Int) by omega, nm_nat]
theorem am_lo {a b : Po} {f : Fq} {k j : Nat} (h : j < k) : am a f b k j = a j := if_neg (by omega)
theorem am_hi {a b : Po} {f : Fq} {k j : Nat} (h : k ≤ j) : am a f b k j = a j + f * b (j - k) := if_pos h
theorem am_z {a b : Po} {f : Fq} {k j : Nat} (h : k ≤ j → b (j - k) = 0) : am a f b k j = a j := by
  unfold am; split
  · rename_i g; rw [h g]; grind
  · rfl
theorem in_X4_copyFrom_X4 : ∀ w ∈ u_ws RX4 TX4 2, w ∈ wsX4_copyFrom := by decide +kernel
theorem lk_X4_copyFrom_numbers : Cond.fieldLink yX4_copyFrom.cls 11 (TX4 0).1 (TX4 0).2.1 (TX4 0).2.2.1 ∈ wsX4_copyFrom := by decide +kernel
theorem lk_X4_copyFrom_highest : Cond.fieldLink yX4_copyFrom.cls 15 (TX4 1).1 (TX4 1).2.1 (TX4 1).2.2.1 ∈ wsX4_copyFrom := by decide +kernel
set_option maxHeartbeats 4000000 in
set_option maxRecDepth 100000 in
theorem c_X4_copyFrom (E : ev) (l : Launch) (h q h2 q2 : Nat) (a b : Po) (hSa : Sm a) (hSb : Sm b) : Mv E l yX4_copyFrom wsX4_copyFrom { frames := 1, cells := 0, slots := 0, locals := 30 } [.ref h, .ref h2] [cP h q (hi a), aP E q a, cP h2 q2 (hi b), aP E q2 b] (fun w => w = [cP h q (hi b), aP E q b, cP h2 q2 (hi b), aP E q2 b]) 0 0 := by
  refine enter_v (cc := cX4_copyFrom) (nL := 3) (by decide) rfl (Nat.le_of_ble_eq_true rfl) (fun G C hret => ?_)
  show G 0 0 [cP h q (hi a), aP E q a, cP h2 q2 (hi b), aP E q2 b] [(0, .ref h), (1, .ref h2)] 0 []
  refine g_iconst C dX4_copyFrom_0 ?_
  refine g_istore_n C [(2, .int (zI 0)), (0, .ref h), (1, .ref h2)] dX4_copyFrom_1 (by decide) rfl ?_
  have lp_c : ∀ (n_c : Nat) (x : Int) (k : Nat) (f : Po), (x = (k : Int)) → (k ≤ 33) → (∀ j : Nat, j < k → f j = b j) → (Sm f) → 33 - k < n_c → G 0 0 [cP h q (hi a), aP E q f, cP h2 q2 (hi b), aP E q2 b] [(2, .int (zI x)), (0, .ref h), (1, .ref h2)] 2 [] := by
    intro n_c
    induction n_c with
    | zero =>
      intro x k f hx hk hf hSf hm_c
      exact absurd hm_c (by omega)
    | succ n_c ih_c =>
      intro x k f hx hk hf hSf hm_c
      refine g_iload_n C dX4_copyFrom_2 0 rfl ?_
      refine g_aload_n C dX4_copyFrom_3 1 rfl ?_
      refine g_get C 0 rfl rfl 0 (by decide) in_X4_copyFrom_X4 lk_X4_copyFrom_numbers rfl dX4_copyFrom_4 ?_
      refine g_alen C 1 rfl dX4_copyFrom_7 ?_
      refine g_icmp_ge C 28 dX4_copyFrom_8 (by decide) (by omega) (by omega) (by omega) (by omega) (fun c_8 => ?_) (fun c_8 => ?_)
      · have e1 : f = b := by funext j; by_cases g : j < 33; exact hf j (by omega); rw [hSf j (by omega), hSb j (by omega)]
        subst e1
        refine g_aload_n C dX4_copyFrom_28 1 rfl ?_
        refine g_aload_n C dX4_copyFrom_29 2 rfl ?_
        refine g_get C 2 rfl rfl 1 (by decide) in_X4_copyFrom_X4 lk_X4_copyFrom_highest rfl dX4_copyFrom_30 ?_
        refine g_put C [cP h q (hi f), aP E q f, cP h2 q2 (hi f), aP E q2 f] tyX4 tyX4_ok nmX4 0 rfl rfl 1 (by decide) in_X4_copyFrom_X4 lk_X4_copyFrom_highest rfl rfl rfl (Nat.le_of_ble_eq_true rfl) dX4_copyFrom_33 rfl ?_
        exact hret _ _ _ _ _ dX4_copyFrom_36 (by decide) (by decide) rfl
      · refine g_aload_n C dX4_copyFrom_11 1 rfl ?_
        refine g_get C 0 rfl rfl 0 (by decide) in_X4_copyFrom_X4 lk_X4_copyFrom_numbers rfl dX4_copyFrom_12 ?_
        refine g_iload_n C dX4_copyFrom_15 0 rfl ?_
        refine g_aload_n C dX4_copyFrom_16 2 rfl ?_
        refine g_iload_n C dX4_copyFrom_17 0 rfl ?_
        refine g_callVi (n := 1) (wr := [cP h q (hi a), aP E q f]) C (c_X4_number E l h2 q2 b x hSb (by omega) (by omega)) gX4_copyFrom_X4_number rfl (by decide +kernel) rfl (by decide) dX4_copyFrom_18 rfl (Nat.le_of_ble_eq_true rfl) rfl rfl [2, 3] [0, 1] rfl rfl (by decide) (fun r_18 w_18 h_18 => ?_)
        obtain ⟨rfl, rfl⟩ := h_18
        refine g_eq (ws' := [cP h q (hi a), aP E q f, cP h2 q2 (hi b), aP E q2 b]) rfl rfl rfl ?_
        refine g_iast C [cP h q (hi a), aP E q (cset f k (nm b x)), cP h2 q2 (hi b), aP E q2 b] 1 k (nm b x) rfl (by omega) (by omega) (by decide) (rfl) dX4_copyFrom_21 rfl ?_
        refine g_iinc C [(2, .int (zI (x + 1))), (0, .ref h), (1, .ref h2)] dX4_copyFrom_22 0 rfl (by decide) rfl ?_
        refine g_goto C 2 dX4_copyFrom_25 (by decide) ?_
        exact ih_c (x + 1) (k + 1) (cset f k (nm b x)) (by omega) (by omega) (fun j hj => by unfold cset; split; (rename_i e; rw [e, hx, nm_nat]); exact hf j (by omega)) (Sm_set hSf (by omega) _) (by omega)
  exact lp_c 34 0 0 a rfl (by omega) (fun j hj => absurd hj (by omega)) hSa (by omega)
theorem in_X4_scaleBy_X4 : ∀ w ∈ u_ws RX4 TX4 2, w ∈ wsX4_scaleBy := by decide +kernel
theorem lk_X4_scaleBy_numbers : Cond.fieldLink yX4_scaleBy.cls 11 (TX4 0).1 (TX4 0).2.1 (TX4 0).2.2.1 ∈ wsX4_scaleBy := by decide +kernel
theorem lk_X4_scaleBy_highest : Cond.fieldLink yX4_scaleBy.cls 15 (TX4 1).1 (TX4 1).2.1 (TX4 1).2.2.1 ∈ wsX4_scaleBy := by decide +kernel
set_option maxHeartbeats 4000000 in
set_option maxRecDepth 100000 in
theorem c_X4_scaleBy (E : ev) (l : Launch) (h q : Nat) (a : Po) (g : Fq) (hS : Sm a) : Mv E l yX4_scaleBy wsX4_scaleBy { frames := 1, cells := 0, slots := 0, locals := 30 } [.ref h, .int (zI (g.val : Int))] [cP h q (hi a), aP E q a] (fun w => w = [cP h q (hi (sc a g)), aP E q (sc a g)]) 0 0 := by
  refine enter_v (cc := cX4_scaleBy) (nL := 3) (by decide) rfl (Nat.le_of_ble_eq_true rfl) (fun G C hret => ?_)
  show G 0 0 [cP h q (hi a), aP E q a] [(0, .ref h), (1, .int (zI (g.val : Int)))] 0 []
  have hlo := hi_lo a
  refine g_iconst C dX4_scaleBy_0 ?_
  refine g_istore_n C [(2, .int (zI 0)), (0, .ref h), (1, .int (zI (g.val : Int)))] dX4_scaleBy_1 (by decide) rfl ?_
  have lp_c : ∀ (n_c : Nat) (x : Int) (k : Nat) (f : Po), (x = (k : Int)) → (k ≤ 33) → (∀ j : Nat, j < k → f j = a j * g) → (∀ j : Nat, k ≤ j → f j = a j) → 33 - k < n_c → G 0 0 [cP h q (hi a), aP E q f] [(2, .int (zI x)), (0, .ref h), (1, .int (zI (g.val : Int)))] 2 [] := by
    intro n_c
    induction n_c with
    | zero =>
      intro x k f hx hk hf hf2 hm_c
      exact absurd hm_c (by omega)
    | succ n_c ih_c =>
      intro x k f hx hk hf hf2 hm_c
      refine g_iload_n C dX4_scaleBy_2 0 rfl ?_
      refine g_aload_n C dX4_scaleBy_3 1 rfl ?_
      refine g_get C 0 rfl rfl 0 (by decide) in_X4_scaleBy_X4 lk_X4_scaleBy_numbers rfl dX4_scaleBy_4 ?_
      refine g_alen C 1 rfl dX4_scaleBy_7 ?_
      refine g_icmp_ge C 43 dX4_scaleBy_8 (by decide) (by omega) (by omega) (by omega) (by omega) (fun c_8 => ?_) (fun c_8 => ?_)
      · have e1 : f = sc a g := by funext j; unfold sc; by_cases q9 : j < k; exact hf j q9; (rw [hf2 j (by omega), hS j (by omega)]; grind)
        subst e1
        refine g_aload_n C dX4_scaleBy_43 1 rfl ?_
        refine g_aload_n C dX4_scaleBy_44 1 rfl ?_
        refine g_get C 0 rfl rfl 1 (by decide) in_X4_scaleBy_X4 lk_X4_scaleBy_highest rfl dX4_scaleBy_45 ?_
        refine g_callV (n := 1) (wr := []) C (c_X4_settle E l h q (sc a g) (hi a) (hi a) (sc_Sm hS g) (by omega) (by omega) (fun j hj => by unfold sc; rw [hi_zero hS hj]; grind)) gX4_scaleBy_X4_settle rfl (by decide +kernel) rfl (by decide) dX4_scaleBy_48 rfl (Nat.le_of_ble_eq_true rfl) rfl rfl [0, 1] [] rfl rfl (by decide) (fun w_48 h_48 => ?_)
        obtain rfl := h_48
        refine g_eq (ws' := [cP h q (hi (sc a g)), aP E q (sc a g)]) rfl rfl rfl ?_
        exact hret _ _ _ _ _ dX4_scaleBy_51 (by decide) (by decide) rfl
      · refine g_iload_n C dX4_scaleBy_11 0 rfl ?_
        refine g_aload_n C dX4_scaleBy_12 1 rfl ?_
        refine g_get C 0 rfl rfl 1 (by decide) in_X4_scaleBy_X4 lk_X4_scaleBy_highest rfl dX4_scaleBy_13 ?_
        refine g_icmp_gt C 43 dX4_scaleBy_16 (by decide) (by omega) (by omega) (by omega) (by omega) (fun c_16 => ?_) (fun c_16 => ?_)
        · have e1 : f = sc a g := by funext j; unfold sc; by_cases q9 : j < k; exact hf j q9; (rw [hf2 j (by omega), hi_zero hS (by omega)]; grind)
          subst e1
          refine g_aload_n C dX4_scaleBy_43 1 rfl ?_
          refine g_aload_n C dX4_scaleBy_44 1 rfl ?_
          refine g_get C 0 rfl rfl 1 (by decide) in_X4_scaleBy_X4 lk_X4_scaleBy_highest rfl dX4_scaleBy_45 ?_
          refine g_callV (n := 1) (wr := []) C (c_X4_settle E l h q (sc a g) (hi a) (hi a) (sc_Sm hS g) (by omega) (by omega) (fun j hj => by unfold sc; rw [hi_zero hS hj]; grind)) gX4_scaleBy_X4_settle rfl (by decide +kernel) rfl (by decide) dX4_scaleBy_48 rfl (Nat.le_of_ble_eq_true rfl) rfl rfl [0, 1] [] rfl rfl (by decide) (fun w_48 h_48 => ?_)
          obtain rfl := h_48
          refine g_eq (ws' := [cP h q (hi (sc a g)), aP E q (sc a g)]) rfl rfl rfl ?_
          exact hret _ _ _ _ _ dX4_scaleBy_51 (by decide) (by decide) rfl
        · refine g_aload_n C dX4_scaleBy_19 1 rfl ?_
          refine g_get C 0 rfl rfl 0 (by decide) in_X4_scaleBy_X4 lk_X4_scaleBy_numbers rfl dX4_scaleBy_20 ?_
          refine g_iload_n C dX4_scaleBy_23 0 rfl ?_
          refine g_aload_n C dX4_scaleBy_24 1 rfl ?_
          refine g_get C 0 rfl rfl 0 (by decide) in_X4_scaleBy_X4 lk_X4_scaleBy_numbers rfl dX4_scaleBy_25 ?_
          refine g_iload_n C dX4_scaleBy_28 0 rfl ?_
          refine g_iald C 1 k rfl (by omega) (by omega) (by decide) dX4_scaleBy_29 ?_
          refine g_iload_n C dX4_scaleBy_30 2 rfl ?_
          refine g_imul C dX4_scaleBy_31 ?_
          refine g_sipush C dX4_scaleBy_32 rfl ?_
          refine g_mod C dX4_scaleBy_35 (by have := fq_mulb (f k) g; omega) (by have := fq_mulb (f k) g; omega) ?_
          refine g_top (zI ((f k * g).val : Int)) (congrArg (fun u : Fq => zI (u.val : Int)) (by simp only [cF_mul, cF_of])) ?_
          refine g_iast C [cP h q (hi a), aP E q (cset f k (f k * g))] 1 k (f k * g) rfl (by omega) (by omega) (by decide) (rfl) dX4_scaleBy_36 rfl ?_
          refine g_iinc C [(2, .int (zI (x + 1))), (0, .ref h), (1, .int (zI (g.val : Int)))] dX4_scaleBy_37 0 rfl (by decide) rfl ?_
          refine g_goto C 2 dX4_scaleBy_40 (by decide) ?_
          exact ih_c (x + 1) (k + 1) (cset f k (f k * g)) (by omega) (by omega) (fun j hj => by unfold cset; split; (rename_i e; rw [e, hf2 k (by omega)]); exact hf j (by omega)) (fun j hj => by rw [cset_ne (by omega)]; exact hf2 j (by omega)) (by omega)
  exact lp_c 34 0 0 a rfl (by omega) (fun j hj => absurd hj (by omega)) (fun j _ => rfl) (by omega)
theorem in_X4_addMultiple_X4 : ∀ w ∈ u_ws RX4 TX4 2, w ∈ wsX4_addMultiple := by decide +kernel
theorem lk_X4_addMultiple_highest : Cond.fieldLink yX4_addMultiple.cls 15 (TX4 1).1 (TX4 1).2.1 (TX4 1).2.2.1 ∈ wsX4_addMultiple := by decide +kernel
theorem lk_X4_addMultiple_mx : Cond.methodLink yX4_addMultiple.cls 23 Lib.Math.max.name ∈ wsX4_addMultiple ∧ Cond.static Lib.Math.max.name ∈ wsX4_addMultiple ∧ Cond.initialized "java/lang/Math" ∈ wsX4_addMultiple ∧ Cond.code Lib.Math.max.name Lib.Math.max.code 2 (some .int) ∈ wsX4_addMultiple := by decide +kernel
theorem lk_X4_addMultiple_numbers : Cond.fieldLink yX4_addMultiple.cls 11 (TX4 0).1 (TX4 0).2.1 (TX4 0).2.2.1 ∈ wsX4_addMultiple := by decide +kernel
set_option maxHeartbeats 4000000 in
set_option maxRecDepth 100000 in
theorem c_X4_addMultiple (E : ev) (l : Launch) (h q h2 q2 : Nat) (a b : Po) (f : Fq) (k0 : Nat) (hSa : Sm a) (hSb : Sm b) (hfit : hi b + (k0 : Int) < 33) : Mv E l yX4_addMultiple wsX4_addMultiple { frames := 1, cells := 0, slots := 0, locals := 30 } [.ref h, .int (zI (f.val : Int)), .ref h2, .int (zI (k0 : Int))] [cP h q (hi a), aP E q a, cP h2 q2 (hi b), aP E q2 b] (fun w => w = [cP h q (hi (am a f b k0)), aP E q (am a f b k0), cP h2 q2 (hi b), aP E q2 b]) 0 0 := by
  refine enter_v (cc := cX4_addMultiple) (nL := 7) (by decide) rfl (Nat.le_of_ble_eq_true rfl) (fun G C hret => ?_)
  show G 0 0 [cP h q (hi a), aP E q a, cP h2 q2 (hi b), aP E q2 b] [(0, .ref h), (1, .int (zI (f.val : Int))), (2, .ref h2), (3, .int (zI (k0 : Int)))] 0 []
  have hla := hi_lo a
  have hlb := hi_lo b
  refine g_aload_n C dX4_addMultiple_0 2 rfl ?_
  refine g_get C 2 rfl rfl 1 (by decide) in_X4_addMultiple_X4 lk_X4_addMultiple_highest rfl dX4_addMultiple_1 ?_
  refine g_iload_n C dX4_addMultiple_4 3 rfl ?_
  refine g_iadd C dX4_addMultiple_5 ?_
  refine g_istore C [(4, .int (zI ((hi b) + (k0 : Int)))), (0, .ref h), (1, .int (zI (f.val : Int))), (2, .ref h2), (3, .int (zI (k0 : Int)))] dX4_addMultiple_6 (by decide) rfl ?_
  refine g_iload_n C dX4_addMultiple_8 4 rfl ?_
  refine g_iconst C dX4_addMultiple_9 ?_
  refine g_mmax C lk_X4_addMultiple_mx dX4_addMultiple_10 (by omega) (by omega) (by omega) (by omega) (by decide) (Nat.le_of_ble_eq_true rfl) ?_
  refine g_istore C [(5, .int (zI (max (k0 : Int) 0))), (4, .int (zI ((hi b) + (k0 : Int)))), (0, .ref h), (1, .int (zI (f.val : Int))), (2, .ref h2), (3, .int (zI (k0 : Int)))] dX4_addMultiple_13 (by decide) rfl ?_
  have lp_c : ∀ (n_c : Nat) (x : Int) (k : Nat) (c : Po), (x = (k : Int)) → (k0 ≤ k) → (k ≤ max k0 33) → (∀ j : Nat, j < k → c j = am a f b k0 j) → (∀ j : Nat, k ≤ j → c j = a j) → max k0 33 - k < n_c → G 0 0 [cP h q (hi a), aP E q c, cP h2 q2 (hi b), aP E q2 b] [(5, .int (zI x)), (4, .int (zI (hi b + (k0 : Int)))), (0, .ref h), (1, .int (zI (f.val : Int))), (2, .ref h2), (3, .int (zI (k0 : Int)))] 15 [] := by
    intro n_c
    induction n_c with
    | zero =>
      intro x k c hx hk0 hk hc hc2 hm_c
      exact absurd hm_c (by omega)
    | succ n_c ih_c =>
      intro x k c hx hk0 hk hc hc2 hm_c
      refine g_iload C dX4_addMultiple_15 0 rfl ?_
      refine g_aload_n C dX4_addMultiple_17 2 rfl ?_
      refine g_get C 0 rfl rfl 0 (by decide) in_X4_addMultiple_X4 lk_X4_addMultiple_numbers rfl dX4_addMultiple_18 ?_
      refine g_alen C 1 rfl dX4_addMultiple_21 ?_
      refine g_icmp_ge C 71 dX4_addMultiple_22 (by decide) (by omega) (by omega) (by omega) (by omega) (fun c_22 => ?_) (fun c_22 => ?_)
      · have e1 : c = am a f b k0 := by funext j; by_cases q9 : j < k; exact hc j q9; (rw [hc2 j (by omega), am_z (fun _ => hi_zero hSb (by omega))])
        subst e1
        refine g_aload_n C dX4_addMultiple_71 2 rfl ?_
        refine g_aload_n C dX4_addMultiple_72 2 rfl ?_
        refine g_get C 0 rfl rfl 1 (by decide) in_X4_addMultiple_X4 lk_X4_addMultiple_highest rfl dX4_addMultiple_73 ?_
        refine g_iload C dX4_addMultiple_76 1 rfl ?_
        refine g_mmax C lk_X4_addMultiple_mx dX4_addMultiple_78 (by omega) (by omega) (by omega) (by omega) (by decide) (Nat.le_of_ble_eq_true rfl) ?_
        refine g_callV (n := 1) (wr := [cP h2 q2 (hi b), aP E q2 b]) C (c_X4_settle E l h q (am a f b k0) (hi a) (max (hi a) (hi b + (k0 : Int))) (am_Sm hSa (fun j hj => hi_zero hSb (by omega))) (by omega) (by omega) (fun j hj => by rw [am_z (fun _ => hi_zero hSb (by omega))]; exact hi_zero hSa (by omega))) gX4_addMultiple_X4_settle rfl (by decide +kernel) rfl (by decide) dX4_addMultiple_81 rfl (Nat.le_of_ble_eq_true rfl) rfl rfl [0, 1] [2, 3] rfl rfl (by decide) (fun w_81 h_81 => ?_)
        obtain rfl := h_81
        refine g_eq (ws' := [cP h2 q2 (hi b), aP E q2 b, cP h q (hi (am a f b k0)), aP E q (am a f b k0)]) rfl rfl rfl ?_
        refine g_wsub C [2, 3, 0, 1] (by decide) rfl rfl ?_
        exact hret _ _ _ _ _ dX4_addMultiple_84 (by decide) (by decide) rfl
      · refine g_iload C dX4_addMultiple_25 0 rfl ?_
        refine g_iload C dX4_addMultiple_27 1 rfl ?_
        refine g_icmp_gt C 71 dX4_addMultiple_29 (by decide) (by omega) (by omega) (by omega) (by omega) (fun c_29 => ?_) (fun c_29 => ?_)
        · have e1 : c = am a f b k0 := by funext j; by_cases q9 : j < k; exact hc j q9; (rw [hc2 j (by omega), am_z (fun _ => hi_zero hSb (by omega))])
          subst e1
          refine g_aload_n C dX4_addMultiple_71 2 rfl ?_
          refine g_aload_n C dX4_addMultiple_72 2 rfl ?_
          refine g_get C 0 rfl rfl 1 (by decide) in_X4_addMultiple_X4 lk_X4_addMultiple_highest rfl dX4_addMultiple_73 ?_
          refine g_iload C dX4_addMultiple_76 1 rfl ?_
          refine g_mmax C lk_X4_addMultiple_mx dX4_addMultiple_78 (by omega) (by omega) (by omega) (by omega) (by decide) (Nat.le_of_ble_eq_true rfl) ?_
          refine g_callV (n := 1) (wr := [cP h2 q2 (hi b), aP E q2 b]) C (c_X4_settle E l h q (am a f b k0) (hi a) (max (hi a) (hi b + (k0 : Int))) (am_Sm hSa (fun j hj => hi_zero hSb (by omega))) (by omega) (by omega) (fun j hj => by rw [am_z (fun _ => hi_zero hSb (by omega))]; exact hi_zero hSa (by omega))) gX4_addMultiple_X4_settle rfl (by decide +kernel) rfl (by decide) dX4_addMultiple_81 rfl (Nat.le_of_ble_eq_true rfl) rfl rfl [0, 1] [2, 3] rfl rfl (by decide) (fun w_81 h_81 => ?_)
          obtain rfl := h_81
          refine g_eq (ws' := [cP h2 q2 (hi b), aP E q2 b, cP h q (hi (am a f b k0)), aP E q (am a f b k0)]) rfl rfl rfl ?_
          refine g_wsub C [2, 3, 0, 1] (by decide) rfl rfl ?_
          exact hret _ _ _ _ _ dX4_addMultiple_84 (by decide) (by decide) rfl
        · refine g_iload_n C dX4_addMultiple_32 3 rfl ?_
          refine g_aload_n C dX4_addMultiple_33 4 rfl ?_
          refine g_iload C dX4_addMultiple_34 0 rfl ?_
          refine g_iload_n C dX4_addMultiple_36 5 rfl ?_
          refine g_isub C dX4_addMultiple_37 ?_
          refine g_callVi (n := 1) (wr := [cP h q (hi a), aP E q c]) C (c_X4_number E l h2 q2 b (x - (k0 : Int)) hSb (by omega) (by omega)) gX4_addMultiple_X4_number rfl (by decide +kernel) rfl (by decide) dX4_addMultiple_38 rfl (Nat.le_of_ble_eq_true rfl) rfl rfl [2, 3] [0, 1] rfl rfl (by decide) (fun r_38 w_38 h_38 => ?_)
          obtain ⟨rfl, rfl⟩ := h_38
          refine g_eq (ws' := [cP h q (hi a), aP E q c, cP h2 q2 (hi b), aP E q2 b]) rfl rfl rfl ?_
          refine g_imul C dX4_addMultiple_41 ?_
          refine g_istore C [(6, .int (zI ((f.val : Int) * ((nm b (x - (k0 : Int))).val : Int)))), (5, .int (zI x)), (4, .int (zI (hi b + (k0 : Int)))), (0, .ref h), (1, .int (zI (f.val : Int))), (2, .ref h2), (3, .int (zI (k0 : Int)))] dX4_addMultiple_42 (by decide) rfl ?_
          refine g_aload_n C dX4_addMultiple_44 3 rfl ?_
          refine g_get C 0 rfl rfl 0 (by decide) in_X4_addMultiple_X4 lk_X4_addMultiple_numbers rfl dX4_addMultiple_45 ?_
          refine g_iload C dX4_addMultiple_48 1 rfl ?_
          refine g_aload_n C dX4_addMultiple_50 3 rfl ?_
          refine g_get C 0 rfl rfl 0 (by decide) in_X4_addMultiple_X4 lk_X4_addMultiple_numbers rfl dX4_addMultiple_51 ?_
          refine g_iload C dX4_addMultiple_54 1 rfl ?_
          refine g_iald C 1 k rfl (by omega) (by omega) (by decide) dX4_addMultiple_56 ?_
          refine g_iload C dX4_addMultiple_57 0 rfl ?_
          refine g_iadd C dX4_addMultiple_59 ?_
          refine g_sipush C dX4_addMultiple_60 rfl ?_
          refine g_mod C dX4_addMultiple_63 (by have := fq_mulb f (nm b (x - (k0 : Int))); have := (c k).isLt; omega) (by have := fq_mulb f (nm b (x - (k0 : Int))); have := (c k).isLt; omega) ?_
          refine g_top (zI ((c k + f * nm b (x - (k0 : Int))).val : Int)) (congrArg (fun u : Fq => zI (u.val : Int)) (by simp only [cF_add, cF_mul, cF_of])) ?_
          refine g_iast C [cP h q (hi a), aP E q (cset c k (c k + f * nm b (x - (k0 : Int)))), cP h2 q2 (hi b), aP E q2 b] 1 k (c k + f * nm b (x - (k0 : Int))) rfl (by omega) (by omega) (by decide) (rfl) dX4_addMultiple_64 rfl ?_
          refine g_iinc C [(5, .int (zI (x + 1))), (6, .int (zI ((f.val : Int) * ((nm b (x - (k0 : Int))).val : Int)))), (4, .int (zI (hi b + (k0 : Int)))), (0, .ref h), (1, .int (zI (f.val : Int))), (2, .ref h2), (3, .int (zI (k0 : Int)))] dX4_addMultiple_65 1 rfl (by decide) rfl ?_
          refine g_goto C 15 dX4_addMultiple_68 (by decide) ?_
          refine g_lsub C [0, 2, 3, 4, 5, 6] rfl ?_
          exact ih_c (x + 1) (k + 1) (cset c k (c k + f * nm b (x - (k0 : Int)))) (by omega) (by omega) (by omega) (fun j hj => by unfold cset; split; (rename_i e; rw [e, am_hi hk0, hc2 k (by omega), nm_sub hx hk0]); exact hc j (by omega)) (fun j hj => by rw [cset_ne (by omega)]; exact hc2 j (by omega)) (by omega)
  exact lp_c (max k0 33 + 1) (max (k0 : Int) 0) k0 a (by omega) (by omega) (by omega) (fun j hj => (am_lo hj).symm) (fun j _ => rfl) (by omega)
theorem in_X4_valueAt_X4 : ∀ w ∈ u_ws RX4 TX4 2, w ∈ wsX4_valueAt := by decide +kernel
theorem lk_X4_valueAt_highest : Cond.fieldLink yX4_valueAt.cls 15 (TX4 1).1 (TX4 1).2.1 (TX4 1).2.2.1 ∈ wsX4_valueAt := by decide +kernel
set_option maxHeartbeats 4000000 in
set_option maxRecDepth 100000 in
theorem c_X4_valueAt (E : ev) (l : Launch) (h q : Nat) (a : Po) (v : Fq) (hS : Sm a) : Mi E l yX4_valueAt wsX4_valueAt { frames := 1, cells := 0, slots := 0, locals := 30 } [.ref h, .int (zI (v.val : Int))] [cP h q (hi a), aP E q a] (fun r w => r = zI ((val a v).val : Int) ∧ w = [cP h q (hi a), aP E q a]) 0 0 := by
  refine enter_i (cc := cX4_valueAt) (nL := 4) (by decide) rfl (Nat.le_of_ble_eq_true rfl) (fun G C hret => ?_)
  show G 0 0 [cP h q (hi a), aP E q a] [(0, .ref h), (1, .int (zI (v.val : Int)))] 0 []
  have hlo := hi_lo a
  refine g_iconst C dX4_valueAt_0 ?_
  refine g_istore_n C [(2, .int (zI 0)), (0, .ref h), (1, .int (zI (v.val : Int)))] dX4_valueAt_1 (by decide) rfl ?_
  refine g_aload_n C dX4_valueAt_2 1 rfl ?_
  refine g_get C 0 rfl rfl 1 (by decide) in_X4_valueAt_X4 lk_X4_valueAt_highest rfl dX4_valueAt_3 ?_
  refine g_istore_n C [(3, .int (zI (hi a))), (2, .int (zI 0)), (0, .ref h), (1, .int (zI (v.val : Int)))] dX4_valueAt_6 (by decide) rfl ?_
  have lp_c : ∀ (n_c : Nat) (x : Int) (n : Nat) (r : Fq), (x = (n : Int) - 1) → (n ≤ 33) → (hv a v n r = val a v) → n < n_c → G 0 0 [cP h q (hi a), aP E q a] [(3, .int (zI x)), (2, .int (zI (r.val : Int))), (0, .ref h), (1, .int (zI (v.val : Int)))] 7 [] := by
    intro n_c
    induction n_c with
    | zero =>
      intro x n r hx hn hr hm_c
      exact absurd hm_c (by omega)
    | succ n_c ih_c =>
      intro x n r hx hn hr hm_c
      refine g_iload_n C dX4_valueAt_7 0 rfl ?_
      refine g_if_lt C 31 dX4_valueAt_8 (by decide) (by omega) (by omega) (fun c_8 => ?_) (fun c_8 => ?_)
      · have e : r = val a v := by rw [← hr, show n = 0 by omega]; rfl
        refine g_iload_n C dX4_valueAt_31 1 rfl ?_
        exact hret _ _ _ _ _ _ dX4_valueAt_32 (by decide) (by decide) ⟨by rw [e], rfl⟩
      · obtain ⟨n2, rfl⟩ : ∃ n2, n = n2 + 1 := ⟨n - 1, by omega⟩
        refine g_iload_n C dX4_valueAt_11 1 rfl ?_
        refine g_iload_n C dX4_valueAt_12 3 rfl ?_
        refine g_imul C dX4_valueAt_13 ?_
        refine g_aload_n C dX4_valueAt_14 2 rfl ?_
        refine g_iload_n C dX4_valueAt_15 0 rfl ?_
        refine g_callVi (n := 1) (wr := []) C (c_X4_number E l h q a x hS (by omega) (by omega)) gX4_valueAt_X4_number rfl (by decide +kernel) rfl (by decide) dX4_valueAt_16 rfl (Nat.le_of_ble_eq_true rfl) rfl rfl [0, 1] [] rfl rfl (by decide) (fun r_16 w_16 h_16 => ?_)
        obtain ⟨rfl, rfl⟩ := h_16
        refine g_eq (ws' := [cP h q (hi a), aP E q a]) rfl rfl rfl ?_
        refine g_iadd C dX4_valueAt_19 ?_
        refine g_sipush C dX4_valueAt_20 rfl ?_
        refine g_mod C dX4_valueAt_23 (by have := fq_mulb r v; have := (nm a x).isLt; omega) (by have := fq_mulb r v; have := (nm a x).isLt; omega) ?_
        refine g_top (zI ((r * v + nm a x).val : Int)) (congrArg (fun u : Fq => zI (u.val : Int)) (by simp only [cF_add, cF_mul, cF_of])) ?_
        refine g_istore_n C [(2, .int (zI ((r * v + nm a x).val : Int))), (3, .int (zI x)), (0, .ref h), (1, .int (zI (v.val : Int)))] dX4_valueAt_24 (by decide) rfl ?_
        refine g_iinc C [(3, .int (zI (x + (-1)))), (2, .int (zI ((r * v + nm a x).val : Int))), (0, .ref h), (1, .int (zI (v.val : Int)))] dX4_valueAt_25 1 rfl (by decide) rfl ?_
        refine g_goto C 7 dX4_valueAt_28 (by decide) ?_
        exact ih_c (x + -1) n2 (r * v + nm a x) (by omega) (by omega) (by rw [← hr, show nm a x = a n2 by rw [show x = (n2 : Int) by omega, nm_nat]]; rfl) (by omega)
  exact lp_c 40 (hi a) (hi a + 1).toNat 0 (by omega) (by omega) rfl (by omega)
